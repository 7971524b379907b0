/-! THE LAYER: the machine's data in one tuple, the memory as numbers by kind, object and place, and a row an instruction over them. -/
abbrev Kx : Type := Program × Launch × Env × Room × State × MethodId × Array Value × List Frame × Method × Code
abbrev kP (K : Kx) : Program := K.1
abbrev kL (K : Kx) : Launch := K.2.1
abbrev kE (K : Kx) : Env := K.2.2.1
abbrev kR (K : Kx) : Room := K.2.2.2.1
abbrev kS (K : Kx) : State := K.2.2.2.2.1
abbrev kM (K : Kx) : MethodId := K.2.2.2.2.2.1
abbrev kA (K : Kx) : Array Value := K.2.2.2.2.2.2.1
abbrev kB (K : Kx) : List Frame := K.2.2.2.2.2.2.2.1
abbrev kT (K : Kx) : Method := K.2.2.2.2.2.2.2.2.1
abbrev kC (K : Kx) : Code := K.2.2.2.2.2.2.2.2.2
/-- the memory: kind, object of the kind, place -/
abbrev Sg : Type := Nat → Nat → Nat → Int32
def sgu (σ : Sg) (k i f : Nat) (v : Int32) : Sg := fun k' i' f' => if k' = k ∧ i' = i ∧ f' = f then v else σ k' i' f'
theorem sgu_self {σ : Sg} {k i f : Nat} {v : Int32} : sgu σ k i f v k i f = v := if_pos ⟨rfl, rfl, rfl⟩
theorem sgu_k {σ : Sg} {k i f k' i' f' : Nat} {v : Int32} (h : k' ≠ k) : sgu σ k i f v k' i' f' = σ k' i' f' := if_neg (fun q => h q.1)
theorem sgu_i {σ : Sg} {k i f k' i' f' : Nat} {v : Int32} (h : i' ≠ i) : sgu σ k i f v k' i' f' = σ k' i' f' := if_neg (fun q => h q.2.1)
theorem sgu_f {σ : Sg} {k i f k' i' f' : Nat} {v : Int32} (h : f' ≠ f) : sgu σ k i f v k' i' f' = σ k' i' f' := if_neg (fun q => h q.2.2)
/-- a field: an int, or a reference to an object of a kind -/
abbrev Fd9 : Type := Option (Nat × (Nat → Nat))
/-- a kind: objects (number among vwCl, fields), or arrays (number of the array type, length, what references lead to) -/
abbrev Lay9 : Type := (Nat × List Fd9) ⊕ (Nat × Nat × Option (Nat × (Nat → Nat → Nat)))
abbrev fI : Fd9 := none
abbrev fR (k : Nat) : Fd9 := some (k, fun _ => 0)
abbrev fS (k : Nat) : Fd9 := some (k, fun i => i)
def lay (k : Nat) : Lay9 := match k with
  | 0 => .inl (5, [fR 14, fR 1, fR 4, fR 2, fR 13, fI])
  | 1 => .inl (0, [fI, fI, fI])
  | 2 => .inl (4, [fR 3])
  | 4 => .inl (2, [fR 5, fR 6, fR 7, fR 8])
  | 5 => .inr (3, 14, some (9, fun _ j => j))
  | 6 => .inr (3, 14, some (10, fun _ j => j))
  | 7 => .inr (3, 14, some (11, fun _ j => j))
  | 8 => .inr (3, 14, some (12, fun _ j => j))
  | 13 => .inr (2, 8, some (17, fun _ j => j))
  | 14 => .inl (1, [fS 15, fS 16, fI])
  | 17 => .inl (3, [some (14, fun i => i + 1), fS 18, fI, fI, fI, fI, fS 20, fS 21, fS 22, fS 23, fS 24, fS 25])
  | 18 => .inr (3, 14, some (19, fun i j => 14 * i + j))
  | 30 => .inl (6, [fI, fR 31, fR 32, fI, fR 33, fR 34, fR 35, fI, fI, fR 36, fR 37, fR 38, fR 39, fI, fR 40, fR 41, fR 42, fR 43, fI, fR 44, fR 45, fR 46, fR 47, fI])
  | 33 => .inr (0, 8, none)
  | 34 => .inr (0, 112, none)
  | 35 => .inr (0, 112, none)
  | 37 => .inr (0, 196, none)
  | 38 => .inr (0, 196, none)
  | 39 => .inr (0, 196, none)
  | 40 => .inr (0, 12, none)
  | 41 => .inr (0, 12, none)
  | 42 => .inr (0, 12, none)
  | 43 => .inr (0, 60, none)
  | 44 => .inr (0, 11, none)
  | 45 => .inr (0, 11, none)
  | 46 => .inr (1, 11, none)
  | 47 => .inr (1, 196, none)
  | _ => .inr (0, 14, none)
/-- how many of a kind there are -/
def dom (k : Nat) : Nat := match k with
  | 0 => 1 | 1 => 1 | 2 => 1 | 3 => 1 | 4 => 1 | 5 => 1 | 6 => 1 | 7 => 1 | 8 => 1
  | 9 => 14 | 10 => 14 | 11 => 14 | 12 => 14
  | 13 => 1 | 14 => 9 | 15 => 9 | 16 => 9 | 17 => 8 | 18 => 8 | 19 => 112
  | 20 => 8 | 21 => 8 | 22 => 8 | 23 => 8 | 24 => 8 | 25 => 8
  | 30 => 1 | 31 => 1 | 32 => 1 | 33 => 1 | 34 => 1 | 35 => 1 | 36 => 1 | 37 => 1 | 38 => 1 | 39 => 1
  | 40 => 1 | 41 => 1 | 42 => 1 | 43 => 1 | 44 => 1 | 45 => 1 | 46 => 1 | 47 => 1
  | _ => 0
/-- class numbers, slots, array classes, addresses -/
abbrev Gx : Type := (Nat → ClassId) × (Nat → Nat → Nat) × (Nat → ClassId) × (Nat → Nat → Nat)
abbrev gD (G : Gx) : va_G := (G.1, G.2.1)
abbrev gC (G : Gx) : Nat → ClassId := G.2.2.1
abbrev gA (G : Gx) : Nat → Nat → Nat := G.2.2.2
def gfs (G : Gx) (σ : Sg) (k i : Nat) : Nat → List Fd9 → List Value
  | _, [] => []
  | f, none :: r => .int (σ k i f) :: gfs G σ k i (f + 1) r
  | f, some (k', g) :: r => .ref (gA G k' (g i)) :: gfs G σ k i (f + 1) r
def gcell (G : Gx) (σ : Sg) (k i : Nat) : va_E := match lay k with
  | .inl (ci, fl) => .inr (ci, gfs G σ k i 0 fl)
  | .inr (t, n, none) => .inl (gC G t, n, .inl (σ k i))
  | .inr (t, n, some (k', g)) => .inl (gC G t, n, .inr (.inr (.inr (.inr (fun j => some (gA G k' (g i j)))))))
/-- the heap holds the memory -/
def wd (G : Gx) (σ : Sg) (H : Heap) : Prop := ∀ k i, i < dom k → va_at (gD G) vwCl (gA G k i, gcell G σ k i) H
/-- the addresses are apart -/
def wa (G : Gx) : Prop := ∀ k i k' i', i < dom k → i' < dom k' → gA G k i = gA G k' i' → k = k' ∧ i = i'
def wo (G : Gx) : Nat → Prop := fun q => ∃ k i, i < dom k ∧ q = gA G k i
abbrev gTy (G : Gx) : List (ClassId × FieldType) := [(gC G 0, .int), (gC G 1, .boolean), (gC G 2, .object "PolyCuts$Shape"), (gC G 3, .array .int)]
def kn (G : Gx) (U : State) : Prop := va_K (gD G) vwCl (gTy G) U ∧ va_Nw (.methodLinkNest RX3 83 yX5_greatestDivisor "PolyCuts") U
def wu (G : Gx) (σ : Sg) (U : State) : Prop := wd G σ U.heap ∧ kn G U
theorem gfs_get {G : Gx} {σ : Sg} {k i : Nat} : ∀ (fl : List Fd9) (f0 f : Nat), (gfs G σ k i f0 fl)[f]? = (fl[f]?).map (fun d => match d with | none => Value.int (σ k i (f0 + f)) | some (k', g) => Value.ref (gA G k' (g i)))
  | [], f0, f => by simp [gfs]
  | none :: r, f0, 0 => by simp [gfs]
  | some (k', g) :: r, f0, 0 => by simp [gfs]
  | none :: r, f0, f + 1 => by
    simp only [gfs, List.getElem?_cons_succ]
    rw [gfs_get r (f0 + 1) f, show f0 + 1 + f = f0 + (f + 1) by omega]
  | some (k', g) :: r, f0, f + 1 => by
    simp only [gfs, List.getElem?_cons_succ]
    rw [gfs_get r (f0 + 1) f, show f0 + 1 + f = f0 + (f + 1) by omega]
theorem gfs_len {G : Gx} {σ : Sg} {k i : Nat} : ∀ (fl : List Fd9) (f0 : Nat), (gfs G σ k i f0 fl).length = fl.length
  | [], f0 => rfl
  | none :: r, f0 => by simp [gfs, gfs_len r]
  | some (k', g) :: r, f0 => by simp [gfs, gfs_len r]
theorem gfs_set {G : Gx} {σ : Sg} {k i : Nat} {f : Nat} {v : Int32} {fl : List Fd9} (h : fl[f]? = some none) : gfs G (sgu σ k i f v) k i 0 fl = (gfs G σ k i 0 fl).set f (.int v) := by
  apply List.ext_getElem?
  intro n
  rw [List.getElem?_set, gfs_get, gfs_get, gfs_len]
  by_cases hn : f = n
  · subst hn
    have hl : f < fl.length := (List.getElem?_eq_some_iff.mp h).1
    simp only [h, hl, if_true, Option.map_some, Nat.zero_add, sgu_self]
  · simp only [hn, if_false]
    cases hd : fl[n]? with
    | none => rfl
    | some d =>
      cases d with
      | none => simp [sgu, Ne.symm hn]
      | some q => rfl
theorem gfs_other {G : Gx} {σ σ' : Sg} {k i : Nat} (h : ∀ f, σ' k i f = σ k i f) : ∀ (fl : List Fd9) (f0 : Nat), gfs G σ' k i f0 fl = gfs G σ k i f0 fl
  | [], f0 => rfl
  | none :: r, f0 => by simp [gfs, gfs_other h r, h]
  | some (k', g) :: r, f0 => by simp [gfs, gfs_other h r]
theorem gcell_other {G : Gx} {σ σ' : Sg} {k i : Nat} (h : ∀ f, σ' k i f = σ k i f) : gcell G σ' k i = gcell G σ k i := by
  unfold gcell
  split
  · rw [gfs_other h]
  · have : σ' k i = σ k i := funext h
    rw [this]
  · rfl
theorem wd_eq {G : Gx} {σ σ' : Sg} {H : Heap} (h : ∀ k i f, σ' k i f = σ k i f) (hw : wd G σ H) : wd G σ' H := fun k i hi => by
  rw [gcell_other (h k i)]
  exact hw k i hi
theorem wd_put {G : Gx} {σ σ' : Sg} {H H1 : Heap} {k i : Nat} (ha : wa G) (hw : wd G σ H) (hi : i < dom k) (ho : ∀ k' i', ¬ (k' = k ∧ i' = i) → ∀ f, σ' k' i' f = σ k' i' f) (he : va_at (gD G) vwCl (gA G k i, gcell G σ' k i) H1) (oq : ∀ q : Nat, q ≠ gA G k i → H1[q]? = H[q]?) : wd G σ' H1 := fun k' i' hi' => by
  by_cases hq : k' = k ∧ i' = i
  · obtain ⟨rfl, rfl⟩ := hq
    exact he
  · rw [gcell_other (ho k' i' hq)]
    exact (hw k' i' hi').kept (oq _ (fun e => hq (ha k' i' k i hi' hi e)))
/-- the walk: from pc, with locals L, stack st, memory σ -/
def WW (K : Kx) (G : Gx) (nL : Nat) (Q : State → Prop) (σ : Sg) (L : List (Nat × Value)) (pc : Nat) (st : List Value) : Prop :=
  ∀ (ls : Array Slot) (H : Heap) (locs : List Loc), lv_has ls nL L → wd G σ H → va_S (wo G) (kS K).heap H locs →
    W (kP K) (kL K) (kE K) (kR K) (kS K) (kM K) (kA K) (kB K) (kT K) (kC K) H locs 0 0 Q (F0 (kM K) pc ls st)
/-- what holds in a method's body -/
def CX (K : Kx) (G : Gx) (cc : ByteArray) (nL : Nat) (own : String) (Ts : List Cond) (rm : Room) (ret : Option FieldType) : Prop :=
  CallFix (kP K) (kM K) (kC K) cc nL (kS K) (kA K) Ts own ∧ kn G (kS K) ∧ wa G ∧ kR K = rm ∧ (kT K).sig.returnType = ret ∧ (kT K).locks = false
section LY
variable {K : Kx} {G : Gx} {cc : ByteArray} {nL : Nat} {own : String} {Ts : List Cond} {rm : Room} {ret : Option FieldType} {Q : State → Prop} {σ : Sg} {L : List (Nat × Value)} {pc : Nat} {st : List Value}
theorem CX.hx (C : CX K G cc nL own Ts rm ret) : (kP K).tables.exec = Jvm.exec := C.1.1
theorem CX.hb (C : CX K G cc nL own Ts rm ret) : (kC K).code = cc := C.1.2.1
theorem CX.ho (C : CX K G cc nL own Ts rm ret) : (kS K).vm.findClass own = some (kM K).cls := C.1.2.2.2.1
theorem CX.ht (C : CX K G cc nL own Ts rm ret) : ∀ w ∈ Ts, w.before (kA K) (kS K) = true := C.1.2.2.2.2
theorem ww_iconst {n : Int} {v : Int32} (C : CX K G cc nL own Ts rm ret) (hd : decode cc pc = .ok (.iconst n, 1)) (hv : Int32.ofInt n = v) (k : WW K G nL Q σ L (pc + 1) (.int v :: st)) : WW K G nL Q σ L pc st := fun ls H locs h1 h2 h3 => lv_iconst C.hx C.hb hd hv (k ls H locs h1 h2 h3)
theorem ww_bipush {n : Int} {v : Int32} (C : CX K G cc nL own Ts rm ret) (hd : decode cc pc = .ok (.bipush n, 2)) (hv : (Int8.ofInt n).toInt32 = v) (k : WW K G nL Q σ L (pc + 2) (.int v :: st)) : WW K G nL Q σ L pc st := fun ls H locs h1 h2 h3 => lv_bipush C.hx C.hb hd hv (k ls H locs h1 h2 h3)
theorem ww_sipush {n : Int} {v : Int32} (C : CX K G cc nL own Ts rm ret) (hd : decode cc pc = .ok (.sipush n, 3)) (hv : (Int16.ofInt n).toInt32 = v) (k : WW K G nL Q σ L (pc + 3) (.int v :: st)) : WW K G nL Q σ L pc st := fun ls H locs h1 h2 h3 => lv_sipush C.hx C.hb hd hv (k ls H locs h1 h2 h3)
theorem ww_lconst {n : Fin 2} {v : Int64} (C : CX K G cc nL own Ts rm ret) (hd : decode cc pc = .ok (.lconst n, 1)) (hv : Int64.ofNat (n : Nat) = v) (k : WW K G nL Q σ L (pc + 1) (.long v :: st)) : WW K G nL Q σ L pc st := fun ls H locs h1 h2 h3 => lv_lconst C.hx C.hb hd hv (k ls H locs h1 h2 h3)
theorem ww_ldc2 {index : Nat} {v : Int64} (C : CX K G cc nL own Ts rm ret) (hc : Jvm.Cond.constantLong own index v ∈ Ts) (hd : decode cc pc = .ok (.ldc2_w index, 3)) (k : WW K G nL Q σ L (pc + 3) (.long v :: st)) : WW K G nL Q σ L pc st := fun ls H locs h1 h2 h3 => lv_ldc2 C.hx C.hb C.ho (C.ht _ hc) hd (k ls H locs h1 h2 h3)
theorem ww_null (C : CX K G cc nL own Ts rm ret) (hd : decode cc pc = .ok (.aconst_null, 1)) (k : WW K G nL Q σ L (pc + 1) (.null :: st)) : WW K G nL Q σ L pc st := fun ls H locs h1 h2 h3 => lv_null C.hx C.hb hd (k ls H locs h1 h2 h3)
theorem ww_iload_n {j : Fin 4} {i : Nat} {x : Int32} (C : CX K G cc nL own Ts rm ret) (hd : decode cc pc = .ok (.iload_n j, 1)) (hi : (j : Nat) = i) (q : Nat) (hq : L[q]? = some (i, .int x)) (k : WW K G nL Q σ L (pc + 1) (.int x :: st)) : WW K G nL Q σ L pc st := fun ls H locs h1 h2 h3 => lv_iload_n C.hx C.hb hd hi (lv_at h1 q hq) (k ls H locs h1 h2 h3)
theorem ww_iload {i : Nat} {x : Int32} (C : CX K G cc nL own Ts rm ret) (hd : decode cc pc = .ok (.iload i, 2)) (q : Nat) (hq : L[q]? = some (i, .int x)) (k : WW K G nL Q σ L (pc + 2) (.int x :: st)) : WW K G nL Q σ L pc st := fun ls H locs h1 h2 h3 => lv_iload C.hx C.hb hd (lv_at h1 q hq) (k ls H locs h1 h2 h3)
theorem ww_lload_n {j : Fin 4} {i : Nat} {x : Int64} (C : CX K G cc nL own Ts rm ret) (hd : decode cc pc = .ok (.lload_n j, 1)) (hi : (j : Nat) = i) (q : Nat) (hq : L[q]? = some (i, .long x)) (k : WW K G nL Q σ L (pc + 1) (.long x :: st)) : WW K G nL Q σ L pc st := fun ls H locs h1 h2 h3 => lv_lload_n C.hx C.hb hd hi (lv_at h1 q hq) (k ls H locs h1 h2 h3)
theorem ww_lload {i : Nat} {x : Int64} (C : CX K G cc nL own Ts rm ret) (hd : decode cc pc = .ok (.lload i, 2)) (q : Nat) (hq : L[q]? = some (i, .long x)) (k : WW K G nL Q σ L (pc + 2) (.long x :: st)) : WW K G nL Q σ L pc st := fun ls H locs h1 h2 h3 => lv_lload C.hx C.hb hd (lv_at h1 q hq) (k ls H locs h1 h2 h3)
theorem ww_aload_n {j : Fin 4} {i : Nat} {x : Nat} (C : CX K G cc nL own Ts rm ret) (hd : decode cc pc = .ok (.aload_n j, 1)) (hi : (j : Nat) = i) (q : Nat) (hq : L[q]? = some (i, .ref x)) (k : WW K G nL Q σ L (pc + 1) (.ref x :: st)) : WW K G nL Q σ L pc st := fun ls H locs h1 h2 h3 => lv_aload_n C.hx C.hb hd hi (lv_at h1 q hq) (k ls H locs h1 h2 h3)
theorem ww_aload {i : Nat} {x : Nat} (C : CX K G cc nL own Ts rm ret) (hd : decode cc pc = .ok (.aload i, 2)) (q : Nat) (hq : L[q]? = some (i, .ref x)) (k : WW K G nL Q σ L (pc + 2) (.ref x :: st)) : WW K G nL Q σ L pc st := fun ls H locs h1 h2 h3 => lv_aload C.hx C.hb hd (lv_at h1 q hq) (k ls H locs h1 h2 h3)
theorem ww_aload_nN {j : Fin 4} {i : Nat} (C : CX K G cc nL own Ts rm ret) (hd : decode cc pc = .ok (.aload_n j, 1)) (hi : (j : Nat) = i) (q : Nat) (hq : L[q]? = some (i, .null)) (k : WW K G nL Q σ L (pc + 1) (.null :: st)) : WW K G nL Q σ L pc st := fun ls H locs h1 h2 h3 => lv_aload_nN C.hx C.hb hd hi (lv_at h1 q hq) (k ls H locs h1 h2 h3)
theorem ww_aloadN {i : Nat} (C : CX K G cc nL own Ts rm ret) (hd : decode cc pc = .ok (.aload i, 2)) (q : Nat) (hq : L[q]? = some (i, .null)) (k : WW K G nL Q σ L (pc + 2) (.null :: st)) : WW K G nL Q σ L pc st := fun ls H locs h1 h2 h3 => lv_aloadN C.hx C.hb hd (lv_at h1 q hq) (k ls H locs h1 h2 h3)
abbrev lv1 (L : List (Nat × Value)) (i : Nat) : List (Nat × Value) := L.filter (fun q => !(q.1 == i) && !(q.1 + 1 == i && q.2.category == 2))
abbrev lv2 (L : List (Nat × Value)) (i : Nat) : List (Nat × Value) := L.filter (fun q => !(q.1 == i) && (!(q.1 == i + 1) && !(q.1 + 1 == i && q.2.category == 2)))
/-- an int is stored under a name -/
theorem ww_istore_n {j : Fin 4} {i : Nat} {x : Int32} (L' : Int32 → List (Nat × Value)) (C : CX K G cc nL own Ts rm ret) (hd : decode cc pc = .ok (.istore_n j, 1)) (hi : (j : Nat) = i) (hn : i < nL) (hl : ∀ y, (i, Value.int y) :: lv1 L i = L' y) (k : ∀ y, y = x → WW K G nL Q σ (L' y) (pc + 1) st) : WW K G nL Q σ L pc (.int x :: st) := fun _ H locs h1 h2 h3 => lv_istore_n C.hx C.hb hd hi h1 hn (hl x) (fun ls h => k x rfl ls H locs h h2 h3)
theorem ww_istore {i : Nat} {x : Int32} (L' : Int32 → List (Nat × Value)) (C : CX K G cc nL own Ts rm ret) (hd : decode cc pc = .ok (.istore i, 2)) (hn : i < nL) (hl : ∀ y, (i, Value.int y) :: lv1 L i = L' y) (k : ∀ y, y = x → WW K G nL Q σ (L' y) (pc + 2) st) : WW K G nL Q σ L pc (.int x :: st) := fun _ H locs h1 h2 h3 => lv_istore C.hx C.hb hd h1 hn (hl x) (fun ls h => k x rfl ls H locs h h2 h3)
theorem ww_lstore_n {j : Fin 4} {i : Nat} {x : Int64} (L' : Int64 → List (Nat × Value)) (C : CX K G cc nL own Ts rm ret) (hd : decode cc pc = .ok (.lstore_n j, 1)) (hi : (j : Nat) = i) (hn : i + 1 < nL) (hl : ∀ y, (i, Value.long y) :: lv2 L i = L' y) (k : ∀ y, y = x → WW K G nL Q σ (L' y) (pc + 1) st) : WW K G nL Q σ L pc (.long x :: st) := fun _ H locs h1 h2 h3 => lv_lstore_n C.hx C.hb hd hi h1 hn (hl x) (fun ls h => k x rfl ls H locs h h2 h3)
theorem ww_lstore {i : Nat} {x : Int64} (L' : Int64 → List (Nat × Value)) (C : CX K G cc nL own Ts rm ret) (hd : decode cc pc = .ok (.lstore i, 2)) (hn : i + 1 < nL) (hl : ∀ y, (i, Value.long y) :: lv2 L i = L' y) (k : ∀ y, y = x → WW K G nL Q σ (L' y) (pc + 2) st) : WW K G nL Q σ L pc (.long x :: st) := fun _ H locs h1 h2 h3 => lv_lstore C.hx C.hb hd h1 hn (hl x) (fun ls h => k x rfl ls H locs h h2 h3)
theorem ww_astore_n {j : Fin 4} {i : Nat} {x : Nat} (L' : List (Nat × Value)) (C : CX K G cc nL own Ts rm ret) (hd : decode cc pc = .ok (.astore_n j, 1)) (hi : (j : Nat) = i) (hn : i < nL) (hl : (i, Value.ref x) :: lv1 L i = L') (k : WW K G nL Q σ L' (pc + 1) st) : WW K G nL Q σ L pc (.ref x :: st) := fun _ H locs h1 h2 h3 => lv_astore_n C.hx C.hb hd hi h1 hn hl (fun ls h => k ls H locs h h2 h3)
theorem ww_astore {i : Nat} {x : Nat} (L' : List (Nat × Value)) (C : CX K G cc nL own Ts rm ret) (hd : decode cc pc = .ok (.astore i, 2)) (hn : i < nL) (hl : (i, Value.ref x) :: lv1 L i = L') (k : WW K G nL Q σ L' (pc + 2) st) : WW K G nL Q σ L pc (.ref x :: st) := fun _ H locs h1 h2 h3 => lv_astore C.hx C.hb hd h1 hn hl (fun ls h => k ls H locs h h2 h3)
theorem ww_astore_nN {j : Fin 4} {i : Nat} (L' : List (Nat × Value)) (C : CX K G cc nL own Ts rm ret) (hd : decode cc pc = .ok (.astore_n j, 1)) (hi : (j : Nat) = i) (hn : i < nL) (hl : (i, Value.null) :: lv1 L i = L') (k : WW K G nL Q σ L' (pc + 1) st) : WW K G nL Q σ L pc (.null :: st) := fun _ H locs h1 h2 h3 => lv_astore_nN C.hx C.hb hd hi h1 hn hl (fun ls h => k ls H locs h h2 h3)
theorem ww_astoreN {i : Nat} (L' : List (Nat × Value)) (C : CX K G cc nL own Ts rm ret) (hd : decode cc pc = .ok (.astore i, 2)) (hn : i < nL) (hl : (i, Value.null) :: lv1 L i = L') (k : WW K G nL Q σ L' (pc + 2) st) : WW K G nL Q σ L pc (.null :: st) := fun _ H locs h1 h2 h3 => lv_astoreN C.hx C.hb hd h1 hn hl (fun ls h => k ls H locs h h2 h3)
theorem ww_iinc {i q : Nat} {n : Int} {x : Int32} (L' : Int32 → List (Nat × Value)) (C : CX K G cc nL own Ts rm ret) (hd : decode cc pc = .ok (.iinc i n, 3)) (hq : L[q]? = some (i, .int x)) (hn : i < nL) (hl : ∀ y, (i, Value.int y) :: lv1 L i = L' y) (k : ∀ y, y = x + Int32.ofInt n → WW K G nL Q σ (L' y) (pc + 3) st) : WW K G nL Q σ L pc st := fun _ H locs h1 h2 h3 => lv_iinc C.hx C.hb hd h1 hq rfl hn (hl _) (fun ls h => k _ rfl ls H locs h h2 h3)
theorem ww_iadd {x y : Int32} (C : CX K G cc nL own Ts rm ret) (hd : decode cc pc = .ok (.iadd, 1)) (k : WW K G nL Q σ L (pc + 1) (.int (x + y) :: st)) : WW K G nL Q σ L pc (.int y :: .int x :: st) := fun ls H locs h1 h2 h3 => lv_iadd C.hx C.hb hd (k ls H locs h1 h2 h3)
theorem ww_isub {x y : Int32} (C : CX K G cc nL own Ts rm ret) (hd : decode cc pc = .ok (.isub, 1)) (k : WW K G nL Q σ L (pc + 1) (.int (x - y) :: st)) : WW K G nL Q σ L pc (.int y :: .int x :: st) := fun ls H locs h1 h2 h3 => lv_isub C.hx C.hb hd (k ls H locs h1 h2 h3)
theorem ww_imul {x y : Int32} (C : CX K G cc nL own Ts rm ret) (hd : decode cc pc = .ok (.imul, 1)) (k : WW K G nL Q σ L (pc + 1) (.int (x * y) :: st)) : WW K G nL Q σ L pc (.int y :: .int x :: st) := fun ls H locs h1 h2 h3 => lv_imul C.hx C.hb hd (k ls H locs h1 h2 h3)
theorem ww_iand {x y : Int32} (C : CX K G cc nL own Ts rm ret) (hd : decode cc pc = .ok (.iand, 1)) (k : WW K G nL Q σ L (pc + 1) (.int (x &&& y) :: st)) : WW K G nL Q σ L pc (.int y :: .int x :: st) := fun ls H locs h1 h2 h3 => lv_iand C.hx C.hb hd (k ls H locs h1 h2 h3)
theorem ww_idiv {x y : Int32} (C : CX K G cc nL own Ts rm ret) (hd : decode cc pc = .ok (.idiv, 1)) (hne : ¬ y = 0) (k : WW K G nL Q σ L (pc + 1) (.int (x / y) :: st)) : WW K G nL Q σ L pc (.int y :: .int x :: st) := fun ls H locs h1 h2 h3 => lv_idiv C.hx C.hb hd hne (k ls H locs h1 h2 h3)
theorem ww_irem {x y : Int32} (C : CX K G cc nL own Ts rm ret) (hd : decode cc pc = .ok (.irem, 1)) (hne : ¬ y = 0) (k : WW K G nL Q σ L (pc + 1) (.int (x - x / y * y) :: st)) : WW K G nL Q σ L pc (.int y :: .int x :: st) := fun ls H locs h1 h2 h3 => lv_irem C.hx C.hb hd hne (k ls H locs h1 h2 h3)
theorem ww_ineg {x : Int32} (C : CX K G cc nL own Ts rm ret) (hd : decode cc pc = .ok (.ineg, 1)) (k : WW K G nL Q σ L (pc + 1) (.int (-x) :: st)) : WW K G nL Q σ L pc (.int x :: st) := fun ls H locs h1 h2 h3 => lv_ineg C.hx C.hb hd (k ls H locs h1 h2 h3)
theorem ww_ladd {x y : Int64} (C : CX K G cc nL own Ts rm ret) (hd : decode cc pc = .ok (.ladd, 1)) (k : WW K G nL Q σ L (pc + 1) (.long (x + y) :: st)) : WW K G nL Q σ L pc (.long y :: .long x :: st) := fun ls H locs h1 h2 h3 => lv_ladd C.hx C.hb hd (k ls H locs h1 h2 h3)
theorem ww_lsub {x y : Int64} (C : CX K G cc nL own Ts rm ret) (hd : decode cc pc = .ok (.lsub, 1)) (k : WW K G nL Q σ L (pc + 1) (.long (x - y) :: st)) : WW K G nL Q σ L pc (.long y :: .long x :: st) := fun ls H locs h1 h2 h3 => lv_lsub C.hx C.hb hd (k ls H locs h1 h2 h3)
theorem ww_lmul {x y : Int64} (C : CX K G cc nL own Ts rm ret) (hd : decode cc pc = .ok (.lmul, 1)) (k : WW K G nL Q σ L (pc + 1) (.long (x * y) :: st)) : WW K G nL Q σ L pc (.long y :: .long x :: st) := fun ls H locs h1 h2 h3 => lv_lmul C.hx C.hb hd (k ls H locs h1 h2 h3)
theorem ww_ldiv {x y : Int64} (C : CX K G cc nL own Ts rm ret) (hd : decode cc pc = .ok (.ldiv, 1)) (hne : ¬ y = 0) (k : WW K G nL Q σ L (pc + 1) (.long (x / y) :: st)) : WW K G nL Q σ L pc (.long y :: .long x :: st) := fun ls H locs h1 h2 h3 => lv_ldiv C.hx C.hb hd hne (k ls H locs h1 h2 h3)
theorem ww_lrem {x y : Int64} (C : CX K G cc nL own Ts rm ret) (hd : decode cc pc = .ok (.lrem, 1)) (hne : ¬ y = 0) (k : WW K G nL Q σ L (pc + 1) (.long (x - x / y * y) :: st)) : WW K G nL Q σ L pc (.long y :: .long x :: st) := fun ls H locs h1 h2 h3 => lv_lrem C.hx C.hb hd hne (k ls H locs h1 h2 h3)
theorem ww_lneg {x : Int64} (C : CX K G cc nL own Ts rm ret) (hd : decode cc pc = .ok (.lneg, 1)) (k : WW K G nL Q σ L (pc + 1) (.long (-x) :: st)) : WW K G nL Q σ L pc (.long x :: st) := fun ls H locs h1 h2 h3 => lv_lneg C.hx C.hb hd (k ls H locs h1 h2 h3)
theorem ww_lcmp {x y : Int64} (C : CX K G cc nL own Ts rm ret) (hd : decode cc pc = .ok (.lcmp, 1)) (k : WW K G nL Q σ L (pc + 1) (.int (lg_cmp x y) :: st)) : WW K G nL Q σ L pc (.long y :: .long x :: st) := fun ls H locs h1 h2 h3 => W.lcmp C.hx C.hb hd (k ls H locs h1 h2 h3)
theorem ww_i2l {x : Int32} (C : CX K G cc nL own Ts rm ret) (hd : decode cc pc = .ok (.i2l, 1)) (k : WW K G nL Q σ L (pc + 1) (.long x.toInt64 :: st)) : WW K G nL Q σ L pc (.int x :: st) := fun ls H locs h1 h2 h3 => lv_i2l C.hx C.hb hd rfl (k ls H locs h1 h2 h3)
theorem ww_l2i {x : Int64} (C : CX K G cc nL own Ts rm ret) (hd : decode cc pc = .ok (.l2i, 1)) (k : WW K G nL Q σ L (pc + 1) (.int x.toInt32 :: st)) : WW K G nL Q σ L pc (.long x :: st) := fun ls H locs h1 h2 h3 => lv_l2i C.hx C.hb hd rfl (k ls H locs h1 h2 h3)
theorem ww_dup {v : Value} (C : CX K G cc nL own Ts rm ret) (hd : decode cc pc = .ok (.dup, 1)) (hv : v.category = 1) (k : WW K G nL Q σ L (pc + 1) (v :: v :: st)) : WW K G nL Q σ L pc (v :: st) := fun ls H locs h1 h2 h3 => lv_dup C.hx C.hb hd hv (k ls H locs h1 h2 h3)
theorem ww_dup2 {v w : Value} (C : CX K G cc nL own Ts rm ret) (hd : decode cc pc = .ok (.dup2, 1)) (hv : v.category = 1) (hw : w.category = 1) (k : WW K G nL Q σ L (pc + 1) (v :: w :: v :: w :: st)) : WW K G nL Q σ L pc (v :: w :: st) := fun ls H locs h1 h2 h3 => lv_dup2_11 C.hx C.hb hd hv hw (k ls H locs h1 h2 h3)
theorem ww_goto {off : Int} (tgt : Nat) (C : CX K G cc nL own Ts rm ret) (hd : decode cc pc = .ok (.goto off, 3)) (ht : (pc : Int) + off = (tgt : Int)) (k : WW K G nL Q σ L tgt st) : WW K G nL Q σ L pc st := fun ls H locs h1 h2 h3 => lv_goto C.hx C.hb hd ht (k ls H locs h1 h2 h3)
theorem ww_topi {x : Int32} (k : ∀ y, y = x → WW K G nL Q σ L pc (.int y :: st)) : WW K G nL Q σ L pc (.int x :: st) := k x rfl
theorem ww_topl {x : Int64} (k : ∀ y, y = x → WW K G nL Q σ L pc (.long y :: st)) : WW K G nL Q σ L pc (.long x :: st) := k x rfl
theorem ww_if_eq {x : Int32} {off : Int} (tgt : Nat) (C : CX K G cc nL own Ts rm ret) (hd : decode cc pc = .ok (.ifCond .eq off, 3)) (ht : (pc : Int) + off = (tgt : Int)) (kt : x = 0 → WW K G nL Q σ L tgt st) (kf : ¬ x = 0 → WW K G nL Q σ L (pc + 3) st) : WW K G nL Q σ L pc (.int x :: st) := fun ls H locs h1 h2 h3 => lv_if_eq C.hx C.hb hd ht (fun q => kt q ls H locs h1 h2 h3) (fun q => kf q ls H locs h1 h2 h3)
theorem ww_icmp_eq {x y : Int32} {off : Int} (tgt : Nat) (C : CX K G cc nL own Ts rm ret) (hd : decode cc pc = .ok (.if_icmp .eq off, 3)) (ht : (pc : Int) + off = (tgt : Int)) (kt : x = y → WW K G nL Q σ L tgt st) (kf : ¬ x = y → WW K G nL Q σ L (pc + 3) st) : WW K G nL Q σ L pc (.int y :: .int x :: st) := fun ls H locs h1 h2 h3 => lv_icmp_eq C.hx C.hb hd ht (fun q => kt q ls H locs h1 h2 h3) (fun q => kf q ls H locs h1 h2 h3)
theorem ww_if_ne {x : Int32} {off : Int} (tgt : Nat) (C : CX K G cc nL own Ts rm ret) (hd : decode cc pc = .ok (.ifCond .ne off, 3)) (ht : (pc : Int) + off = (tgt : Int)) (kt : ¬ x = 0 → WW K G nL Q σ L tgt st) (kf : x = 0 → WW K G nL Q σ L (pc + 3) st) : WW K G nL Q σ L pc (.int x :: st) := fun ls H locs h1 h2 h3 => lv_if_ne C.hx C.hb hd ht (fun q => kt q ls H locs h1 h2 h3) (fun q => kf q ls H locs h1 h2 h3)
theorem ww_icmp_ne {x y : Int32} {off : Int} (tgt : Nat) (C : CX K G cc nL own Ts rm ret) (hd : decode cc pc = .ok (.if_icmp .ne off, 3)) (ht : (pc : Int) + off = (tgt : Int)) (kt : ¬ x = y → WW K G nL Q σ L tgt st) (kf : x = y → WW K G nL Q σ L (pc + 3) st) : WW K G nL Q σ L pc (.int y :: .int x :: st) := fun ls H locs h1 h2 h3 => lv_icmp_ne C.hx C.hb hd ht (fun q => kt q ls H locs h1 h2 h3) (fun q => kf q ls H locs h1 h2 h3)
theorem ww_if_lt {x : Int32} {off : Int} (tgt : Nat) (C : CX K G cc nL own Ts rm ret) (hd : decode cc pc = .ok (.ifCond .lt off, 3)) (ht : (pc : Int) + off = (tgt : Int)) (kt : x < 0 → WW K G nL Q σ L tgt st) (kf : ¬ x < 0 → WW K G nL Q σ L (pc + 3) st) : WW K G nL Q σ L pc (.int x :: st) := fun ls H locs h1 h2 h3 => lv_if_lt C.hx C.hb hd ht (fun q => kt q ls H locs h1 h2 h3) (fun q => kf q ls H locs h1 h2 h3)
theorem ww_icmp_lt {x y : Int32} {off : Int} (tgt : Nat) (C : CX K G cc nL own Ts rm ret) (hd : decode cc pc = .ok (.if_icmp .lt off, 3)) (ht : (pc : Int) + off = (tgt : Int)) (kt : x < y → WW K G nL Q σ L tgt st) (kf : ¬ x < y → WW K G nL Q σ L (pc + 3) st) : WW K G nL Q σ L pc (.int y :: .int x :: st) := fun ls H locs h1 h2 h3 => lv_icmp_lt C.hx C.hb hd ht (fun q => kt q ls H locs h1 h2 h3) (fun q => kf q ls H locs h1 h2 h3)
theorem ww_if_ge {x : Int32} {off : Int} (tgt : Nat) (C : CX K G cc nL own Ts rm ret) (hd : decode cc pc = .ok (.ifCond .ge off, 3)) (ht : (pc : Int) + off = (tgt : Int)) (kt : 0 ≤ x → WW K G nL Q σ L tgt st) (kf : ¬ 0 ≤ x → WW K G nL Q σ L (pc + 3) st) : WW K G nL Q σ L pc (.int x :: st) := fun ls H locs h1 h2 h3 => lv_if_ge C.hx C.hb hd ht (fun q => kt q ls H locs h1 h2 h3) (fun q => kf q ls H locs h1 h2 h3)
theorem ww_icmp_ge {x y : Int32} {off : Int} (tgt : Nat) (C : CX K G cc nL own Ts rm ret) (hd : decode cc pc = .ok (.if_icmp .ge off, 3)) (ht : (pc : Int) + off = (tgt : Int)) (kt : y ≤ x → WW K G nL Q σ L tgt st) (kf : ¬ y ≤ x → WW K G nL Q σ L (pc + 3) st) : WW K G nL Q σ L pc (.int y :: .int x :: st) := fun ls H locs h1 h2 h3 => lv_icmp_ge C.hx C.hb hd ht (fun q => kt q ls H locs h1 h2 h3) (fun q => kf q ls H locs h1 h2 h3)
theorem ww_if_gt {x : Int32} {off : Int} (tgt : Nat) (C : CX K G cc nL own Ts rm ret) (hd : decode cc pc = .ok (.ifCond .gt off, 3)) (ht : (pc : Int) + off = (tgt : Int)) (kt : 0 < x → WW K G nL Q σ L tgt st) (kf : ¬ 0 < x → WW K G nL Q σ L (pc + 3) st) : WW K G nL Q σ L pc (.int x :: st) := fun ls H locs h1 h2 h3 => lv_if_gt C.hx C.hb hd ht (fun q => kt q ls H locs h1 h2 h3) (fun q => kf q ls H locs h1 h2 h3)
theorem ww_icmp_gt {x y : Int32} {off : Int} (tgt : Nat) (C : CX K G cc nL own Ts rm ret) (hd : decode cc pc = .ok (.if_icmp .gt off, 3)) (ht : (pc : Int) + off = (tgt : Int)) (kt : y < x → WW K G nL Q σ L tgt st) (kf : ¬ y < x → WW K G nL Q σ L (pc + 3) st) : WW K G nL Q σ L pc (.int y :: .int x :: st) := fun ls H locs h1 h2 h3 => lv_icmp_gt C.hx C.hb hd ht (fun q => kt q ls H locs h1 h2 h3) (fun q => kf q ls H locs h1 h2 h3)
theorem ww_if_le {x : Int32} {off : Int} (tgt : Nat) (C : CX K G cc nL own Ts rm ret) (hd : decode cc pc = .ok (.ifCond .le off, 3)) (ht : (pc : Int) + off = (tgt : Int)) (kt : x ≤ 0 → WW K G nL Q σ L tgt st) (kf : ¬ x ≤ 0 → WW K G nL Q σ L (pc + 3) st) : WW K G nL Q σ L pc (.int x :: st) := fun ls H locs h1 h2 h3 => lv_if_le C.hx C.hb hd ht (fun q => kt q ls H locs h1 h2 h3) (fun q => kf q ls H locs h1 h2 h3)
theorem ww_icmp_le {x y : Int32} {off : Int} (tgt : Nat) (C : CX K G cc nL own Ts rm ret) (hd : decode cc pc = .ok (.if_icmp .le off, 3)) (ht : (pc : Int) + off = (tgt : Int)) (kt : x ≤ y → WW K G nL Q σ L tgt st) (kf : ¬ x ≤ y → WW K G nL Q σ L (pc + 3) st) : WW K G nL Q σ L pc (.int y :: .int x :: st) := fun ls H locs h1 h2 h3 => lv_icmp_le C.hx C.hb hd ht (fun q => kt q ls H locs h1 h2 h3) (fun q => kf q ls H locs h1 h2 h3)
theorem ww_ifnonnull {x : Nat} {off : Int} (tgt : Nat) (C : CX K G cc nL own Ts rm ret) (hd : decode cc pc = .ok (.ifnonnull off, 3)) (ht : (pc : Int) + off = (tgt : Int)) (k : WW K G nL Q σ L tgt st) : WW K G nL Q σ L pc (.ref x :: st) := fun ls H locs h1 h2 h3 => lv_ifnonnull C.hx C.hb hd ht (k ls H locs h1 h2 h3)
theorem ww_ifnonnullN {off : Int} (C : CX K G cc nL own Ts rm ret) (hd : decode cc pc = .ok (.ifnonnull off, 3)) (k : WW K G nL Q σ L (pc + 3) st) : WW K G nL Q σ L pc (.null :: st) := fun ls H locs h1 h2 h3 => lv_ifnonnullN C.hx C.hb hd (k ls H locs h1 h2 h3)
theorem ww_ifnull {x : Nat} {off : Int} (C : CX K G cc nL own Ts rm ret) (hd : decode cc pc = .ok (.ifnull off, 3)) (k : WW K G nL Q σ L (pc + 3) st) : WW K G nL Q σ L pc (.ref x :: st) := fun ls H locs h1 h2 h3 => lv_ifnull (x := x) C.hx C.hb hd (k ls H locs h1 h2 h3)
theorem ww_ifnullN {off : Int} (tgt : Nat) (C : CX K G cc nL own Ts rm ret) (hd : decode cc pc = .ok (.ifnull off, 3)) (ht : (pc : Int) + off = (tgt : Int)) (k : WW K G nL Q σ L tgt st) : WW K G nL Q σ L pc (.null :: st) := fun ls H locs h1 h2 h3 => lv_ifnullN C.hx C.hb hd ht (k ls H locs h1 h2 h3)
theorem wd_one {H : Heap} {k i : Nat} {e : va_E} (h : wd G σ H) (hi : i < dom k) (he : gcell G σ k i = e) : va_P (gD G) vwCl [(gA G k i, e)] H := by
  intro q z hz
  match q, hz with
  | 0, hz => cases hz; rw [← he]; exact h k i hi
  | q + 1, hz => simp at hz
theorem gc_o {k i ci : Nat} {fl : List Fd9} (hl : lay k = .inl (ci, fl)) : gcell G σ k i = .inr (ci, gfs G σ k i 0 fl) := by unfold gcell; rw [hl]
theorem gc_a {k i t n : Nat} (hl : lay k = .inr (t, n, none)) : gcell G σ k i = .inl (gC G t, n, .inl (σ k i)) := by unfold gcell; rw [hl]
theorem gc_q {k i t n k' : Nat} {g : Nat → Nat → Nat} (hl : lay k = .inr (t, n, some (k', g))) : gcell G σ k i = .inl (gC G t, n, .inr (.inr (.inr (.inr (fun j => some (gA G k' (g i j))))))) := by unfold gcell; rw [hl]
/-- a field that is an int is read -/
theorem ww_gi {k f ci index : Nat} {fl : List Fd9} {Cn : String} {T : u_T} {N i : Nat} (C : CX K G cc nL own Ts rm ret) (hl : lay k = .inl (ci, fl)) (hf : fl[f]? = some none) (hi : i < dom k) (hc : vwCl[ci]? = some (Cn, T, N)) (hin : ∀ w ∈ u_ws Cn T N, w ∈ Ts) (hN : f < N) (hlk : Cond.fieldLink own index (T f).1 (T f).2.1 (T f).2.2.1 ∈ Ts) (hd : decode cc pc = .ok (.getfield index, 3)) (kk : WW K G nL Q σ L (pc + 3) (.int (σ k i f) :: st)) : WW K G nL Q σ L pc (.ref (gA G k i) :: st) := fun ls H locs h1 h2 h3 =>
  va_get (D := gD G) (ref := (T f).1) C.hx C.hb C.ht hin C.ho C.2.1.1 (wd_one h2 hi (gc_o hl)) 0 rfl hc f hN (C.ht _ hlk) (fun _ q => q) (by rw [gfs_get, hf]; simp) hd (kk ls H locs h1 h2 h3)
/-- a field that is a reference is read -/
theorem ww_gr {k f ci index k' j : Nat} {g : Nat → Nat} {fl : List Fd9} {Cn : String} {T : u_T} {N i : Nat} (C : CX K G cc nL own Ts rm ret) (hl : lay k = .inl (ci, fl)) (hf : fl[f]? = some (some (k', g))) (hi : i < dom k) (hc : vwCl[ci]? = some (Cn, T, N)) (hin : ∀ w ∈ u_ws Cn T N, w ∈ Ts) (hN : f < N) (hlk : Cond.fieldLink own index (T f).1 (T f).2.1 (T f).2.2.1 ∈ Ts) (hd : decode cc pc = .ok (.getfield index, 3)) (hj : g i = j) (kk : WW K G nL Q σ L (pc + 3) (.ref (gA G k' j) :: st)) : WW K G nL Q σ L pc (.ref (gA G k i) :: st) := fun ls H locs h1 h2 h3 =>
  va_get (D := gD G) (ref := (T f).1) C.hx C.hb C.ht hin C.ho C.2.1.1 (wd_one h2 hi (gc_o hl)) 0 rfl hc f hN (C.ht _ hlk) (fun _ q => q) (by rw [gfs_get, hf]; simp [hj]) hd (kk ls H locs h1 h2 h3)
/-- a field that is an int is written -/
theorem ww_pi {k f ci index : Nat} {v : Int32} {fl : List Fd9} {Cn : String} {T : u_T} {N i : Nat} {ty0 : Nat → FieldType} (C : CX K G cc nL own Ts rm ret) (hl : lay k = .inl (ci, fl)) (hf : fl[f]? = some none) (hi : i < dom k) (hc : vwCl[ci]? = some (Cn, T, N)) (hin : ∀ w ∈ u_ws Cn T N, w ∈ Ts) (hty : ∀ k, k < N → parseFieldDescriptor (T k).2.2.1 = some (ty0 k)) (hnm : ∀ a, a < N → ∀ b, b < N → a ≠ b → (T a).2.1 ≠ (T b).2.1) (hN : f < N) (hlk : Cond.fieldLink own index (T f).1 (T f).2.1 (T f).2.2.1 ∈ Ts) (hfin : (T f).2.2.2 = false) (hti : ty0 f = .int) (hd : decode cc pc = .ok (.putfield index, 3)) (kk : WW K G nL Q (sgu σ k i f v) L (pc + 3) st) : WW K G nL Q σ L pc (.int v :: .ref (gA G k i) :: st) := by
  intro ls H locs h1 h2 h3
  have hK : va_K (gD G) vwCl (gTy G) (kS K) := C.2.1.1
  have hap := va_apart (own := own) C.ht hin ty0 hty hnm hK hc
  have hat := h2 k i hi
  rw [gc_o hl] at hat
  obtain ⟨r, q0, cell, q1, q2, q3, q4⟩ := hat
  have hr : r = (Cn, T, N) := Option.some.inj (q0.symm.trans hc)
  subst hr
  obtain ⟨hS, hfc, kC9, hkC, hkind⟩ := hK.1 ci _ hc
  obtain ⟨cf, kf, fi, fld, hfi, hsl⟩ := hS f hN
  have hlay := C.ht _ (hin _ (u_in_lay hN))
  unfold u_lay at hlay
  rw [if_neg (by rw [hfin]; decide)] at hlay
  have hst := (u_facts hfc hkC (u_lays C.ht hin hN) hfi).1
  have hdi : parseFieldDescriptor (T f).2.2.1 = some .int := by rw [hty f hN, hti]
  have h6 := u_store (v := .int v) hfc hkC hkind hlay hfi hdi rfl rfl
  refine W.putK C.hx C.hb (f := fld) ⟨C.ho, C.ht _ hlk, ⟨_, _, _, hfi⟩, hst⟩ (by rw [q2]; exact h6) q1 q3 (by rw [hsl]; exact k2_hasslot (q4 f hN)) rfl rfl hd fun H' e1 e2 e3 => ?_
  rw [hsl] at e1 ⊢
  refine kk ls H' _ h1 (wd_put C.2.2.1 h2 hi (fun k' i' hne f' => ?_) ?_ e3) (h3.put e2 e3 ⟨k, i, hi, rfl⟩)
  · exact if_neg (fun q => hne ⟨q.1, q.2.1⟩)
  · rw [gc_o hl, gfs_set hf]
    exact ⟨_, hc, t_OB.to (V := updV (vp_V (gfs G σ k i 0 fl)) f (.int v)) ⟨_, e1, q2, q3, t_set q4 hap hN (.int v)⟩ (fun j _ => vp_updV_set (by rw [gfs_len]; exact (List.getElem?_eq_some_iff.mp hf).1) (.int v) j)⟩
theorem nI_in9 {x : Int32} {j n : Nat} (hx : x = nI j) (hj : j < n) (hn : n < 2 ^ 31) : vp_in x n := by subst hx; exact vp_in_nI hj hn
theorem nI_cl9 {x : Int32} {j n : Nat} (hx : x = nI j) (hj : j < n) (hn : n < 2 ^ 31) : x.toNatClampNeg = j := by subst hx; exact nI_clamp (by omega)
theorem ww_iald {k n j : Nat} {x : Int32} {i : Nat} (C : CX K G cc nL own Ts rm ret) (hl : lay k = .inr (0, n, none)) (hi : i < dom k) (hn : n < 2 ^ 31) (hd : decode cc pc = .ok (.iaload, 1)) (hx : x = nI j) (hj : j < n) (kk : WW K G nL Q σ L (pc + 1) (.int (σ k i j) :: st)) : WW K G nL Q σ L pc (.int x :: .ref (gA G k i) :: st) := fun ls H locs h1 h2 h3 =>
  va_iald C.hx C.hb C.2.1.1 (wd_one h2 hi (gc_a hl)) 0 0 rfl rfl (nI_in9 hx hj hn) hd (by rw [nI_cl9 hx hj hn]; exact kk ls H locs h1 h2 h3)
theorem ww_zald {k n j : Nat} {x : Int32} {i : Nat} (C : CX K G cc nL own Ts rm ret) (hl : lay k = .inr (1, n, none)) (hi : i < dom k) (hn : n < 2 ^ 31) (hd : decode cc pc = .ok (.baload, 1)) (hx : x = nI j) (hj : j < n) (kk : WW K G nL Q σ L (pc + 1) (.int (σ k i j) :: st)) : WW K G nL Q σ L pc (.int x :: .ref (gA G k i) :: st) := fun ls H locs h1 h2 h3 =>
  va_zald C.hx C.hb C.2.1.1 (wd_one h2 hi (gc_a hl)) 0 1 rfl rfl (nI_in9 hx hj hn) hd (by rw [nI_cl9 hx hj hn]; exact kk ls H locs h1 h2 h3)
theorem gTy_ref {t : Nat} (ht : t = 2 ∨ t = 3) (C : CX K G cc nL own Ts rm ret) : ∃ ty : FieldType, ty.isReference = true ∧ ArrOfT (kS K) (gC G t) ty := by
  rcases ht with rfl | rfl
  · exact ⟨_, rfl, (C.2.1.1.2 2 _ rfl).1⟩
  · exact ⟨_, rfl, (C.2.1.1.2 3 _ rfl).1⟩
theorem ww_aald {k t n k' j j' : Nat} {g : Nat → Nat → Nat} {x : Int32} {i : Nat} (C : CX K G cc nL own Ts rm ret) (hl : lay k = .inr (t, n, some (k', g))) (ht : t = 2 ∨ t = 3) (hi : i < dom k) (hn : n < 2 ^ 31) (hd : decode cc pc = .ok (.aaload, 1)) (hx : x = nI j) (hj : j < n) (hg : g i j = j') (kk : WW K G nL Q σ L (pc + 1) (.ref (gA G k' j') :: st)) : WW K G nL Q σ L pc (.int x :: .ref (gA G k i) :: st) := by
  intro ls H locs h1 h2 h3
  obtain ⟨ty, hty, harr⟩ := gTy_ref ht C
  have hat := h2 k i hi
  rw [gc_q hl] at hat
  have hcl := nI_cl9 hx hj hn
  have hin := nI_in9 hx hj hn
  refine W.aald (v := .ref (gA G k' j')) (ty := ty) C.hx C.hb hat (harr n (fun j => va_rf (some (gA G k' (g i j))))) hty (fun q => by cases q) (by show ¬ (x < 0 ∨ (arrV _ _ _).slots.size ≤ _); rw [arrV_size]; exact hin) ?_ rfl rfl hd (kk ls H locs h1 h2 h3)
  show (arrV _ _ _).slots[_]? = _
  rw [hcl, arrV_read _ _ hj]
  show some (va_rf (some (gA G k' (g i j)))) = _
  rw [hg]
  rfl
theorem ww_iast {k n j : Nat} {x v : Int32} {i : Nat} (C : CX K G cc nL own Ts rm ret) (hl : lay k = .inr (0, n, none)) (hi : i < dom k) (hn : n < 2 ^ 31) (hd : decode cc pc = .ok (.iastore, 1)) (hx : x = nI j) (hj : j < n) (kk : WW K G nL Q (sgu σ k i j v) L (pc + 1) st) : WW K G nL Q σ L pc (.int v :: .int x :: .ref (gA G k i) :: st) := by
  intro ls H locs h1 h2 h3
  have hat : H[gA G k i]? = some (vp_cell (gC G 0) (n, .inl (σ k i))) := by
    have := h2 k i hi
    rw [gc_a hl] at this
    exact this
  have hcl := nI_cl9 hx hj hn
  have hin := nI_in9 hx hj hn
  refine W.iast C.hx C.hb hat ((C.2.1.1.2 0 _ rfl).1 n (fun j => .int (σ k i j))) (fun q => by cases q) (by show ¬ (x < 0 ∨ (arrV _ _ _).slots.size ≤ _); rw [arrV_size]; exact hin) rfl rfl hd fun H1 e z oq => ?_
  refine kk ls H1 _ h1 (wd_put C.2.2.1 h2 hi (fun k' i' hne f' => ?_) ?_ oq) (h3.put z oq ⟨k, i, hi, rfl⟩)
  · exact if_neg (fun q => hne ⟨q.1, q.2.1⟩)
  · rw [gc_a hl]
    show H1[gA G k i]? = some (vp_cell _ _)
    rw [e, hcl, vp_cell_i, vp_cell_i, arrV_store]
    congr 2
    funext q
    by_cases hq : q = j
    · subst hq
      simp [updV, sgu]
    · simp [updV, sgu, hq]
/-- what a boolean array keeps -/
theorem ww_zast {k n j : Nat} {x v : Int32} {i : Nat} (C : CX K G cc nL own Ts rm ret) (hl : lay k = .inr (1, n, none)) (hi : i < dom k) (hn : n < 2 ^ 31) (hd : decode cc pc = .ok (.bastore, 1)) (hx : x = nI j) (hj : j < n) (hv : narrow .boolean (.int v) = .int v) (kk : WW K G nL Q (sgu σ k i j v) L (pc + 1) st) : WW K G nL Q σ L pc (.int v :: .int x :: .ref (gA G k i) :: st) := by
  intro ls H locs h1 h2 h3
  have hat : H[gA G k i]? = some (vp_cell (gC G 1) (n, .inl (σ k i))) := by
    have := h2 k i hi
    rw [gc_a hl] at this
    exact this
  have hcl := nI_cl9 hx hj hn
  have hin := nI_in9 hx hj hn
  refine W.zast C.hx C.hb hat ((C.2.1.1.2 1 _ rfl).1 n (fun j => .int (σ k i j))) (fun q => by cases q) (by show ¬ (x < 0 ∨ (arrV _ _ _).slots.size ≤ _); rw [arrV_size]; exact hin) rfl rfl hd fun H1 e z oq => ?_
  refine kk ls H1 _ h1 (wd_put C.2.2.1 h2 hi (fun k' i' hne f' => ?_) ?_ oq) (h3.put z oq ⟨k, i, hi, rfl⟩)
  · exact if_neg (fun q => hne ⟨q.1, q.2.1⟩)
  · rw [gc_a hl]
    show H1[gA G k i]? = some (vp_cell _ _)
    rw [e, hcl, vp_cell_i, vp_cell_i, arrV_store]
    congr 2
    funext q
    by_cases hq : q = j
    · subst hq
      simp [updV, sgu, hv]
    · simp [updV, sgu, hq]
end LY

theorem kn_moved {G : Gx} {s U : State} (hW : s.WarmedH U.vm) (h : kn G s) : kn G U := ⟨va_K.moved hW.alike h.1, va_Nw.warmM hW h.2⟩
/-- contracts: an int, a long, nothing, a reference or null -/
def CtI (l : Launch) (y : MethodName) (ws : List Cond) (rm : Room) (G : Gx) (av : List Value) (σ : Sg) (post : Int32 → Sg → Prop) : Prop := Met l y ws rm (va_Pc av (wu G σ)) (va_Qi post (fun σ' t => wd G σ' t.heap) (wo G)) 0 0 (wo G)
def CtL (l : Launch) (y : MethodName) (ws : List Cond) (rm : Room) (G : Gx) (av : List Value) (σ : Sg) (post : Int64 → Sg → Prop) : Prop := Met l y ws rm (va_Pc av (wu G σ)) (va_Ql post (fun σ' t => wd G σ' t.heap) (wo G)) 0 0 (wo G)
def CtV (l : Launch) (y : MethodName) (ws : List Cond) (rm : Room) (G : Gx) (av : List Value) (σ : Sg) (post : Sg → Prop) : Prop := Met l y ws rm (va_Pc av (wu G σ)) (va_Qv post (fun σ' t => wd G σ' t.heap) (wo G)) 0 0 (wo G)
def CtQ (l : Launch) (y : MethodName) (ws : List Cond) (rm : Room) (G : Gx) (av : List Value) (σ : Sg) (post : Option Nat → Sg → Prop) : Prop := Met l y ws rm (va_Pc av (wu G σ)) (va_Qq post (fun σ' t => wd G σ' t.heap) (wo G)) 0 0 (wo G)
abbrev QI (K : Kx) (G : Gx) (post : Int32 → Sg → Prop) : State → Prop := MQ (kB K) (va_Qi post (fun σ' t => wd G σ' t.heap) (wo G)) (kA K) (kS K) 0 0 (wo G)
abbrev QL (K : Kx) (G : Gx) (post : Int64 → Sg → Prop) : State → Prop := MQ (kB K) (va_Ql post (fun σ' t => wd G σ' t.heap) (wo G)) (kA K) (kS K) 0 0 (wo G)
abbrev QV (K : Kx) (G : Gx) (post : Sg → Prop) : State → Prop := MQ (kB K) (va_Qv post (fun σ' t => wd G σ' t.heap) (wo G)) (kA K) (kS K) 0 0 (wo G)
abbrev QQ (K : Kx) (G : Gx) (post : Option Nat → Sg → Prop) : State → Prop := MQ (kB K) (va_Qq post (fun σ' t => wd G σ' t.heap) (wo G)) (kA K) (kS K) 0 0 (wo G)
abbrev rmd (d : Nat) : Room := { frames := d, cells := 0, slots := 0, locals := 40 * d }
section CT
variable {l : Launch} {y : MethodName} {ws ws' : List Cond} {rm : Room} {G : Gx} {av : List Value} {σ : Sg} {cc : ByteArray} {maxL : Nat} {ret : Option FieldType}
theorem ct_x {Qc : Array Value → State → Outcome → State → Prop} (hy : plainName y.cls = true) (hw : ws = Cond.code y cc maxL ret :: ws') (hlen : (lg_sl av).length ≤ maxL) (ha : wa G)
    (body : ∀ K : Kx, kL K = l → CX K G cc maxL y.cls ws rm ret → WW K G maxL (MQ (kB K) Qc (kA K) (kS K) 0 0 (wo G)) σ (lv_args 0 av) 0 []) : Met l y ws rm (va_Pc av (wu G σ)) Qc 0 0 (wo G) := by
  refine Met.ofW (cc := cc) (maxL := maxL) (ret := ret) hy hw ?_
  intro p e s m args below meth c s₁ B hml hv
  obtain ⟨rfl, hP, hK⟩ := hv
  have hts := atoms_spec (ws := ws) B.pre
  have hown : s.vm.findClass y.cls = some m.cls := findClass_of_methodNamed B.named
  have hb := body (p, l, e, rm, s, m, av.toArray, below, meth, c) rfl ⟨⟨B.exec, B.bytes, hml, hown, hts⟩, hK, ha, rfl, B.returns, B.notSynchronized⟩
  have hl := lv_entry av (n := maxL) hlen
  rw [lg_entry_eq]
  exact hb _ s.heap [] hl hP va_S.rf
theorem ct_i {post : Int32 → Sg → Prop} (hy : plainName y.cls = true) (hw : ws = Cond.code y cc maxL ret :: ws') (hlen : (lg_sl av).length ≤ maxL) (ha : wa G)
    (body : ∀ K : Kx, kL K = l → CX K G cc maxL y.cls ws rm ret → WW K G maxL (QI K G post) σ (lv_args 0 av) 0 []) : CtI l y ws rm G av σ post := ct_x hy hw hlen ha body
theorem ct_l {post : Int64 → Sg → Prop} (hy : plainName y.cls = true) (hw : ws = Cond.code y cc maxL ret :: ws') (hlen : (lg_sl av).length ≤ maxL) (ha : wa G)
    (body : ∀ K : Kx, kL K = l → CX K G cc maxL y.cls ws rm ret → WW K G maxL (QL K G post) σ (lv_args 0 av) 0 []) : CtL l y ws rm G av σ post := ct_x hy hw hlen ha body
theorem ct_v {post : Sg → Prop} (hy : plainName y.cls = true) (hw : ws = Cond.code y cc maxL ret :: ws') (hlen : (lg_sl av).length ≤ maxL) (ha : wa G)
    (body : ∀ K : Kx, kL K = l → CX K G cc maxL y.cls ws rm ret → WW K G maxL (QV K G post) σ (lv_args 0 av) 0 []) : CtV l y ws rm G av σ post := ct_x hy hw hlen ha body
theorem ct_q {post : Option Nat → Sg → Prop} (hy : plainName y.cls = true) (hw : ws = Cond.code y cc maxL ret :: ws') (hlen : (lg_sl av).length ≤ maxL) (ha : wa G)
    (body : ∀ K : Kx, kL K = l → CX K G cc maxL y.cls ws rm ret → WW K G maxL (QQ K G post) σ (lv_args 0 av) 0 []) : CtQ l y ws rm G av σ post := ct_x hy hw hlen ha body
end CT
section LZ
variable {K : Kx} {G : Gx} {cc : ByteArray} {nL : Nat} {own : String} {Ts : List Cond} {rm : Room} {ret : Option FieldType} {Q : State → Prop} {σ : Sg} {L : List (Nat × Value)} {pc : Nat} {st : List Value}
theorem ww_iret {post : Int32 → Sg → Prop} {v : Int32} (C : CX K G cc nL own Ts rm (some .int)) (hd : decode cc pc = .ok (.ireturn, 1)) (hp : post v σ) : WW K G nL (QI K G post) σ L pc [.int v] := fun ls H locs _ h2 h3 =>
  W.iret C.hx C.hb C.2.2.2.2.1 (fun t ht _ => ⟨⟨v, σ, rfl, hp, by show wd G σ t.heap; rw [ht]; exact h2⟩, h3.F ht⟩) h3.2.2 hd C.2.2.2.2.2
theorem ww_zret {post : Int32 → Sg → Prop} {v : Int32} (C : CX K G cc nL own Ts rm (some .boolean)) (hd : decode cc pc = .ok (.ireturn, 1)) (hv : narrow .boolean (.int v) = .int v) (hp : post v σ) : WW K G nL (QI K G post) σ L pc [.int v] := fun ls H locs _ h2 h3 =>
  W.zret C.hx C.hb C.2.2.2.2.1 hv (fun t ht _ => ⟨⟨v, σ, rfl, hp, by show wd G σ t.heap; rw [ht]; exact h2⟩, h3.F ht⟩) h3.2.2 hd C.2.2.2.2.2
theorem ww_lret {post : Int64 → Sg → Prop} {v : Int64} (C : CX K G cc nL own Ts rm (some .long)) (hd : decode cc pc = .ok (.lreturn, 1)) (hp : post v σ) : WW K G nL (QL K G post) σ L pc [.long v] := fun ls H locs _ h2 h3 =>
  W.lret C.hx C.hb C.2.2.2.2.1 (fun t ht _ => ⟨⟨v, σ, rfl, hp, by show wd G σ t.heap; rw [ht]; exact h2⟩, h3.F ht⟩) h3.2.2 hd C.2.2.2.2.2
theorem ww_vret {post : Sg → Prop} (C : CX K G cc nL own Ts rm none) (hd : decode cc pc = .ok (.return_, 1)) (hp : post σ) : WW K G nL (QV K G post) σ L pc [] := fun ls H locs _ h2 h3 =>
  W.vret C.hx C.hb C.2.2.2.2.1 (fun t ht _ => ⟨⟨σ, rfl, hp, by show wd G σ t.heap; rw [ht]; exact h2⟩, h3.F ht⟩) h3.2.2 hd C.2.2.2.2.2
theorem ww_aret {post : Option Nat → Sg → Prop} {v : Nat} {rt : FieldType} (C : CX K G cc nL own Ts rm (some rt)) (hrt : (∃ n, rt = .object n) ∨ ∃ t, rt = .array t) (hd : decode cc pc = .ok (.areturn, 1)) (hp : post (some v) σ) : WW K G nL (QQ K G post) σ L pc [.ref v] := fun ls H locs _ h2 h3 =>
  W.aret C.hx C.hb C.2.2.2.2.1 hrt (Or.inr ⟨v, rfl⟩) (fun t ht _ => ⟨⟨some v, σ, rfl, hp, by show wd G σ t.heap; rw [ht]; exact h2⟩, h3.F ht⟩) h3.2.2 hd C.2.2.2.2.2
theorem ww_aretN {post : Option Nat → Sg → Prop} {rt : FieldType} (C : CX K G cc nL own Ts rm (some rt)) (hrt : (∃ n, rt = .object n) ∨ ∃ t, rt = .array t) (hd : decode cc pc = .ok (.areturn, 1)) (hp : post none σ) : WW K G nL (QQ K G post) σ L pc [.null] := fun ls H locs _ h2 h3 =>
  W.aret C.hx C.hb C.2.2.2.2.1 hrt (Or.inl rfl) (fun t ht _ => ⟨⟨none, σ, rfl, hp, by show wd G σ t.heap; rw [ht]; exact h2⟩, h3.F ht⟩) h3.2.2 hd C.2.2.2.2.2
/-- a call is under way: of an object's method, of a static one, of a nest mate's static one -/
def CallX (K : Kx) (G : Gx) (nL : Nat) (σ : Sg) (L : List (Nat × Value)) (pc : Nat) (st rest : List Value) (Qa : State → Outcome → State → Prop) : Prop :=
  ∀ (ls : Array Slot) (H : Heap) (locs : List Loc), lv_has ls nL L → wd G σ H → va_S (wo G) (kS K).heap H locs →
    va_Run (kP K) (kL K) (kE K) (kR K) (kS K) (kM K) (kA K) (kB K) (kT K) (kC K) H locs 0 0 0 0 (F0 (kM K) pc ls st) rest Qa (wo G)
theorem wu_blind {av : List Value} : FrameBlind (va_Pc av (wu G σ)) := fun a U g mk q => ⟨q.1, q.2.1, va_K.moved (u := U) (U := U.calling g mk a) (Vm.Alike.refl U.vm) q.2.2.1, va_Nw.same rfl (show U.vm = (U.calling g mk a).vm from rfl) q.2.2.2⟩
theorem cx_V {y : MethodName} {ws ws' : List Cond} {bytes : ByteArray} {maxL index n k i ci N : Nat} {rt : Option FieldType} {rmc : Room} {Cn : String} {T : u_T} {fl : List Fd9} {As rest : List Value} {Qc : Array Value → State → Outcome → State → Prop}
    (C : CX K G cc nL own Ts rm ret) (hM : Met (kL K) y ws rmc (va_Pc (.ref (gA G k i) :: As) (wu G σ)) Qc 0 0 (wo G)) (hG : GoodIn Ts (wsV own index Cn y ws)) (hw : ws = Cond.code y bytes maxL rt :: ws') (hrc : rmc.cells = 0 ∧ rmc.slots = 0)
    (hd4 : y.cls = Cn ∧ y.cls ≠ "java/lang/invoke/MethodHandle" ∧ y.cls ≠ "java/lang/invoke/VarHandle" ∧ (parseMethodDescriptor y.desc).map (fun d => d.parameters.length) = some n) (hR : rmc.frames + 1 ≤ rm.frames ∧ 8 + (maxL + 11) + rmc.locals ≤ rm.locals)
    (hl : lay k = .inl (ci, fl)) (hi : i < dom k) (hc : vwCl[ci]? = some (Cn, T, N)) (hn : As.length = n) (hst : st = As.reverse ++ .ref (gA G k i) :: rest) (hcat : (rest.map fun v => v.category).sum ≤ 8) (hd : decode cc pc = .ok (.invokevirtual index, 3)) :
    CallX K G nL σ L pc st rest (Qc (Value.ref (gA G k i) :: As).toArray) := fun ls H locs h1 h2 h3 =>
  va_runV (C := Cn) (n := n) (As := As) (rest := rest) C.1 hM (cwV n C.ht hG hw hrc.1 hrc.2 hd4 (by rw [C.2.2.2.1]; exact hR)) ⟨wu_blind, va_recv C.2.1.1 (wd_one h2 hi (gc_o hl)) (q0 := 0) hc rfl, fun U hU hW => ⟨rfl, by rw [hU]; exact h2, kn_moved hW C.2.1⟩⟩ rfl hn h1.1 hst (by show 2 * 0 + _ ≤ 8; omega) hd ⟨Nat.zero_le _, Nat.zero_le _⟩
theorem cx_S {y : MethodName} {ws ws' : List Cond} {bytes : ByteArray} {maxL index n : Nat} {rt : Option FieldType} {rmc : Room} {As rest : List Value} {Qc : Array Value → State → Outcome → State → Prop}
    (C : CX K G cc nL own Ts rm ret) (hM : Met (kL K) y ws rmc (va_Pc As (wu G σ)) Qc 0 0 (wo G)) (hG : GoodIn Ts (va_wsS own index y ws)) (hw : ws = Cond.code y bytes maxL rt :: ws') (hrc : rmc.cells = 0 ∧ rmc.slots = 0)
    (hd4 : y.cls ≠ "java/lang/invoke/MethodHandle" ∧ y.cls ≠ "java/lang/invoke/VarHandle" ∧ (parseMethodDescriptor y.desc).map (fun d => d.parameters.length) = some n) (hR : rmc.frames + 1 ≤ rm.frames ∧ 8 + (maxL + 11) + rmc.locals ≤ rm.locals)
    (hn : As.length = n) (hst : st = As.reverse ++ rest) (hcat : (rest.map fun v => v.category).sum ≤ 8) (hd : decode cc pc = .ok (.invokestatic index, 3)) :
    CallX K G nL σ L pc st rest (Qc As.toArray) := fun ls H locs h1 h2 h3 =>
  va_runS (n := n) (As := As) (rest := rest) C.1 hM (va_cwS n C.ht hG hw hrc.1 hrc.2 hd4 (by rw [C.2.2.2.1]; exact hR)) ⟨wu_blind, fun U hU hW => ⟨rfl, by rw [hU]; exact h2, kn_moved hW C.2.1⟩⟩ rfl hn h1.1 hst (by show 2 * 0 + _ ≤ 8; omega) hd ⟨Nat.zero_le _, Nat.zero_le _⟩
theorem ww_calli {post : Int32 → Sg → Prop} {a : Array Value} {rest : List Value} (hr : CallX K G nL σ L pc st rest (va_Qi post (fun σ' t => wd G σ' t.heap) (wo G) a)) (kk : ∀ (r : Int32) (σ' : Sg), post r σ' → WW K G nL Q σ' L (pc + 3) (.int r :: rest)) : WW K G nL Q σ L pc st := fun ls H locs h1 h2 h3 =>
  va_calli (hr ls H locs h1 h2 h3) h3 (fun _ _ q => q) (fun _ q => q) (fun r σ' t H1 locs1 ht _ hp hB _ _ hS => kk r σ' hp ls H1 locs1 h1 (by rw [← ht]; exact hB) hS)
theorem ww_calll {post : Int64 → Sg → Prop} {a : Array Value} {rest : List Value} (hr : CallX K G nL σ L pc st rest (va_Ql post (fun σ' t => wd G σ' t.heap) (wo G) a)) (kk : ∀ (r : Int64) (σ' : Sg), post r σ' → WW K G nL Q σ' L (pc + 3) (.long r :: rest)) : WW K G nL Q σ L pc st := fun ls H locs h1 h2 h3 =>
  va_calll (hr ls H locs h1 h2 h3) h3 (fun _ _ q => q) (fun _ q => q) (fun r σ' t H1 locs1 ht _ hp hB _ _ hS => kk r σ' hp ls H1 locs1 h1 (by rw [← ht]; exact hB) hS)
theorem ww_callv {post : Sg → Prop} {a : Array Value} {rest : List Value} (hr : CallX K G nL σ L pc st rest (va_Qv post (fun σ' t => wd G σ' t.heap) (wo G) a)) (kk : ∀ (σ' : Sg), post σ' → WW K G nL Q σ' L (pc + 3) rest) : WW K G nL Q σ L pc st := fun ls H locs h1 h2 h3 =>
  va_callv (hr ls H locs h1 h2 h3) h3 (fun _ _ q => q) (fun _ q => q) (fun σ' t H1 locs1 ht _ hp hB _ _ hS => kk σ' hp ls H1 locs1 h1 (by rw [← ht]; exact hB) hS)
theorem ww_callq {post : Option Nat → Sg → Prop} {a : Array Value} {rest : List Value} (hr : CallX K G nL σ L pc st rest (va_Qq post (fun σ' t => wd G σ' t.heap) (wo G) a)) (kk : ∀ (r : Option Nat) (σ' : Sg), post r σ' → WW K G nL Q σ' L (pc + 3) (va_rf r :: rest)) : WW K G nL Q σ L pc st := fun ls H locs h1 h2 h3 =>
  va_callq (hr ls H locs h1 h2 h3) h3 (fun _ _ q => q) (fun _ q => q) (fun r σ' t H1 locs1 ht _ hp hB _ _ hS => kk r σ' hp ls H1 locs1 h1 (by rw [← ht]; exact hB) hS)
end LZ
