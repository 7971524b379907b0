/-! MAKING: blocks of new cells, told by their distance from the first -/
def kw (U : State) : Prop := (Cond.arrayOver (.array .int)).before #[] U = true ∧ va_AO "PolyCuts$Shape" U ∧ va_Nw (.methodLinkNest RX5 9 yX1_init RX5) U ∧ va_Nw (.methodLinkNest RX5 18 yX0_init RX5) U ∧ va_Nw (.methodLinkNest RX5 25 yX2_init RX5) U ∧ va_Nw (.methodLinkNest RX5 32 yX4_init RX5) U ∧ va_Nw (.methodLinkNest RX5 43 yX3_init RX5) U ∧ va_Nw (.methodLinkNest RX3 11 yX1_init RX5) U
theorem ao_moved {s U : State} (hvm : s.vm.Alike U.vm) (h : (Cond.arrayOver (.array .int)).before #[] s = true) : (Cond.arrayOver (.array .int)).before #[] U = true := arrayOver_alikeB hvm h
theorem kw_moved {s U : State} (hW : s.WarmedH U.vm) (h : kw s) : kw U := ⟨ao_moved hW.alike h.1, va_AO.moved hW.alike h.2.1, va_Nw.warmM hW h.2.2.1, va_Nw.warmM hW h.2.2.2.1, va_Nw.warmM hW h.2.2.2.2.1, va_Nw.warmM hW h.2.2.2.2.2.1, va_Nw.warmM hW h.2.2.2.2.2.2.1, va_Nw.warmM hW h.2.2.2.2.2.2.2⟩
theorem kw_same {s U : State} (e : s.vm = U.vm) (h : kw s) : kw U := ⟨ao_moved (e ▸ Vm.Alike.refl s.vm) h.1, va_AO.moved (e ▸ Vm.Alike.refl s.vm) h.2.1, va_Nw.same rfl e h.2.2.1, va_Nw.same rfl e h.2.2.2.1, va_Nw.same rfl e h.2.2.2.2.1, va_Nw.same rfl e h.2.2.2.2.2.1, va_Nw.same rfl e h.2.2.2.2.2.2.1, va_Nw.same rfl e h.2.2.2.2.2.2.2⟩
def kc (G : Gx) (U : State) : Prop := va_K (gD G) vwCl (gTy G) U ∧ kw U
theorem kc_moved {G : Gx} {s U : State} (hW : s.WarmedH U.vm) (h : kc G s) : kc G U := ⟨va_K.moved hW.alike h.1, kw_moved hW h.2⟩
/-- what lies ahead of a constructor: its object, the last cell of all -/
def PC (G : Gx) (h ci : Nat) (fs : List Value) (U : State) : Prop := U.heap.size = h + 1 ∧ va_at (gD G) vwCl (h, .inr (ci, fs)) U.heap ∧ kc G U
/-- what lies behind it: n cells from the object on -/
def BC (G : Gx) (h n : Nat) (g : Nat → va_E) (_ : Unit) (t : State) : Prop := t.heap.size = h + n ∧ ∀ o, o < n → va_at (gD G) vwCl (h + o, g o) t.heap
def fr9 (h : Nat) : Nat → Prop := fun q => h ≤ q
abbrev rmc (d c s : Nat) : Room := { frames := d, cells := c, slots := s, locals := 40 * d }
def CtC (l : Launch) (y : MethodName) (ws : List Cond) (d mc ms : Nat) (G : Gx) (h ci : Nat) (fs : List Value) (n : Nat) (g : Nat → va_E) : Prop := Met l y ws (rmc d mc ms) (va_Pc [.ref h] (PC G h ci fs)) (va_Qv (fun _ : Unit => True) (BC G h n g) (fr9 h)) mc ms (fr9 h)
def WC (K : Kx) (G : Gx) (h nL : Nat) (Q : State → Prop) (m : Nat) (f : Nat → va_E) (cn sn : Nat) (L : List (Nat × Value)) (pc : Nat) (st : List Value) : Prop :=
  ∀ (ls : Array Slot) (H : Heap) (locs : List Loc), lv_has ls nL L → H.size = h + m → (∀ o, o < m → va_at (gD G) vwCl (h + o, f o) H) → va_S (fr9 h) (kS K).heap H locs →
    W (kP K) (kL K) (kE K) (kR K) (kS K) (kM K) (kA K) (kB K) (kT K) (kC K) H locs cn sn Q (F0 (kM K) pc ls st)
def CB (K : Kx) (G : Gx) (cc : ByteArray) (nL : Nat) (own : String) (Ts : List Cond) (rm : Room) : Prop := CallFix (kP K) (kM K) (kC K) cc nL (kS K) (kA K) Ts own ∧ kc G (kS K) ∧ kR K = rm
def CI (K : Kx) : Prop := (kT K).sig.returnType = none ∧ (kT K).locks = false ∧ (kT K).name = "<init>"
abbrev QC (K : Kx) (G : Gx) (h n : Nat) (g : Nat → va_E) (mc ms : Nat) : State → Prop := MQ (kB K) (va_Qv (fun _ : Unit => True) (BC G h n g) (fr9 h)) (kA K) (kS K) mc ms (fr9 h)
def fpush (f : Nat → va_E) (m : Nat) (e : va_E) : Nat → va_E := fun o => if o = m then e else f o
section MK
variable {K : Kx} {G : Gx} {cc : ByteArray} {nL : Nat} {own : String} {Ts : List Cond} {rm : Room} {Q : State → Prop} {h m : Nat} {f : Nat → va_E} {cn sn : Nat} {L : List (Nat × Value)} {pc : Nat} {st : List Value}
theorem CB.hx (C : CB K G cc nL own Ts rm) : (kP K).tables.exec = Jvm.exec := C.1.1
theorem CB.hb (C : CB K G cc nL own Ts rm) : (kC K).code = cc := C.1.2.1
theorem CB.ho (C : CB K G cc nL own Ts rm) : (kS K).vm.findClass own = some (kM K).cls := C.1.2.2.2.1
theorem CB.ht (C : CB K G cc nL own Ts rm) : ∀ w ∈ Ts, w.before (kA K) (kS K) = true := C.1.2.2.2.2
theorem wc_eq {f' : Nat → va_E} (hf : ∀ o, o < m → f o = f' o) (k : WC K G h nL Q m f' cn sn L pc st) : WC K G h nL Q m f cn sn L pc st := fun ls H locs h1 h2 h3 h4 => k ls H locs h1 h2 (fun o ho => by rw [← hf o ho]; exact h3 o ho) h4
theorem wc_iconst {n : Int} {v : Int32} (C : CB K G cc nL own Ts rm) (hd : decode cc pc = .ok (.iconst n, 1)) (hv : Int32.ofInt n = v) (k : WC K G h nL Q m f cn sn L (pc + 1) (.int v :: st)) : WC K G h nL Q m f cn sn L pc st := fun ls H locs h1 h2 h3 h4 => lv_iconst C.hx C.hb hd hv (k ls H locs h1 h2 h3 h4)
theorem wc_bipush {n : Int} {v : Int32} (C : CB K G cc nL own Ts rm) (hd : decode cc pc = .ok (.bipush n, 2)) (hv : (Int8.ofInt n).toInt32 = v) (k : WC K G h nL Q m f cn sn L (pc + 2) (.int v :: st)) : WC K G h nL Q m f cn sn L pc st := fun ls H locs h1 h2 h3 h4 => lv_bipush C.hx C.hb hd hv (k ls H locs h1 h2 h3 h4)
theorem wc_sipush {n : Int} {v : Int32} (C : CB K G cc nL own Ts rm) (hd : decode cc pc = .ok (.sipush n, 3)) (hv : (Int16.ofInt n).toInt32 = v) (k : WC K G h nL Q m f cn sn L (pc + 3) (.int v :: st)) : WC K G h nL Q m f cn sn L pc st := fun ls H locs h1 h2 h3 h4 => lv_sipush C.hx C.hb hd hv (k ls H locs h1 h2 h3 h4)
theorem wc_aload_n {j : Fin 4} {i x : Nat} (C : CB K G cc nL own Ts rm) (hd : decode cc pc = .ok (.aload_n j, 1)) (hi : (j : Nat) = i) (q : Nat) (hq : L[q]? = some (i, .ref x)) (k : WC K G h nL Q m f cn sn L (pc + 1) (.ref x :: st)) : WC K G h nL Q m f cn sn L pc st := fun ls H locs h1 h2 h3 h4 => lv_aload_n C.hx C.hb hd hi (lv_at h1 q hq) (k ls H locs h1 h2 h3 h4)
theorem wc_iload_n {j : Fin 4} {i : Nat} {x : Int32} (C : CB K G cc nL own Ts rm) (hd : decode cc pc = .ok (.iload_n j, 1)) (hi : (j : Nat) = i) (q : Nat) (hq : L[q]? = some (i, .int x)) (k : WC K G h nL Q m f cn sn L (pc + 1) (.int x :: st)) : WC K G h nL Q m f cn sn L pc st := fun ls H locs h1 h2 h3 h4 => lv_iload_n C.hx C.hb hd hi (lv_at h1 q hq) (k ls H locs h1 h2 h3 h4)
theorem wc_istore_n {j : Fin 4} {i : Nat} {x : Int32} {L' : List (Nat × Value)} (C : CB K G cc nL own Ts rm) (hd : decode cc pc = .ok (.istore_n j, 1)) (hi : (j : Nat) = i) (hn : i < nL) (hl : (i, Value.int x) :: lv1 L i = L') (k : WC K G h nL Q m f cn sn L' (pc + 1) st) : WC K G h nL Q m f cn sn L pc (.int x :: st) := fun _ H locs h1 h2 h3 h4 => lv_istore_n C.hx C.hb hd hi h1 hn hl (fun ls hh => k ls H locs hh h2 h3 h4)
theorem wc_astore_n {j : Fin 4} {i x : Nat} {L' : List (Nat × Value)} (C : CB K G cc nL own Ts rm) (hd : decode cc pc = .ok (.astore_n j, 1)) (hi : (j : Nat) = i) (hn : i < nL) (hl : (i, Value.ref x) :: lv1 L i = L') (k : WC K G h nL Q m f cn sn L' (pc + 1) st) : WC K G h nL Q m f cn sn L pc (.ref x :: st) := fun _ H locs h1 h2 h3 h4 => lv_astore_n C.hx C.hb hd hi h1 hn hl (fun ls hh => k ls H locs hh h2 h3 h4)
theorem wc_iinc {i q : Nat} {n : Int} {x v : Int32} {L' : List (Nat × Value)} (C : CB K G cc nL own Ts rm) (hd : decode cc pc = .ok (.iinc i n, 3)) (hq : L[q]? = some (i, .int x)) (hv : x + Int32.ofInt n = v) (hn : i < nL) (hl : (i, Value.int v) :: lv1 L i = L') (k : WC K G h nL Q m f cn sn L' (pc + 3) st) : WC K G h nL Q m f cn sn L pc st := fun _ H locs h1 h2 h3 h4 => lv_iinc C.hx C.hb hd h1 hq hv hn hl (fun ls hh => k ls H locs hh h2 h3 h4)
theorem wc_dup {va : Value} (C : CB K G cc nL own Ts rm) (hd : decode cc pc = .ok (.dup, 1)) (hv : va.category = 1) (k : WC K G h nL Q m f cn sn L (pc + 1) (va :: va :: st)) : WC K G h nL Q m f cn sn L pc (va :: st) := fun ls H locs h1 h2 h3 h4 => lv_dup C.hx C.hb hd hv (k ls H locs h1 h2 h3 h4)
theorem wc_goto {off : Int} (tgt : Nat) (C : CB K G cc nL own Ts rm) (hd : decode cc pc = .ok (.goto off, 3)) (ht : (pc : Int) + off = (tgt : Int)) (k : WC K G h nL Q m f cn sn L tgt st) : WC K G h nL Q m f cn sn L pc st := fun ls H locs h1 h2 h3 h4 => lv_goto C.hx C.hb hd ht (k ls H locs h1 h2 h3 h4)
theorem wc_icmp_ge {x y : Int32} {off : Int} (tgt : Nat) (C : CB K G cc nL own Ts rm) (hd : decode cc pc = .ok (.if_icmp .ge off, 3)) (ht : (pc : Int) + off = (tgt : Int)) (kt : y ≤ x → WC K G h nL Q m f cn sn L tgt st) (kf : ¬ y ≤ x → WC K G h nL Q m f cn sn L (pc + 3) st) : WC K G h nL Q m f cn sn L pc (.int y :: .int x :: st) := fun ls H locs h1 h2 h3 h4 => lv_icmp_ge C.hx C.hb hd ht (fun z => kt z ls H locs h1 h2 h3 h4) (fun z => kf z ls H locs h1 h2 h3 h4)
theorem wc_obj {a index : Nat} (C : CB K G cc nL own Ts rm) (w1 : Cond.methodLink own index objectInit ∈ Ts) (w2 : Cond.instanceMethod objectInit ∈ Ts) (w3 : Cond.code objectInit ⟨#[0xb1]⟩ 1 none ∈ Ts) (hf : 1 ≤ rm.frames) (hlo : 0 + (st.map fun v => v.category).sum + 12 ≤ rm.locals) (hd : decode cc pc = .ok (.invokespecial index, 3)) (k : WC K G h nL Q m f cn sn L (pc + 3) st) : WC K G h nL Q m f cn sn L pc (.ref a :: st) := fun ls H locs h1 h2 h3 h4 =>
  W.objInit C.hx C.hb C.ho (C.ht _ w1) (C.ht _ w2) (C.ht _ w3) rfl (by rw [C.1.2.2.1]; exact h1.1) rfl hd (by rw [C.2.2]; exact hf) (by rw [C.2.2]; exact hlo) (W.eq (g2 := F0 (kM K) (pc + 3) ls st) rfl (k ls H locs h1 h2 h3 h4))
theorem wc_grow {e : va_E} {cn' sn' pc' : Nat} {st' : List Value} (k : WC K G h nL Q (m + 1) (fpush f m e) cn' sn' L pc' st') {ls : Array Slot} {H H1 : Heap} {locs : List Loc} (h1 : lv_has ls nL L) (h2 : H.size = h + m) (h3 : ∀ o, o < m → va_at (gD G) vwCl (h + o, f o) H) (h4 : va_S (fr9 h) (kS K).heap H locs) (e1 : va_at (gD G) vwCl (h + m, e) H1) (z1 : H1.size = h + m + 1) (o1 : ∀ q : Nat, q < h + m → H1[q]? = H[q]?) :
    W (kP K) (kL K) (kE K) (kR K) (kS K) (kM K) (kA K) (kB K) (kT K) (kC K) H1 locs cn' sn' Q (F0 (kM K) pc' ls st') := by
  refine k ls H1 locs h1 (by omega) (fun o ho => ?_) ⟨by have := h4.1; omega, fun q q1 q2 => ?_, h4.2.2⟩
  · unfold fpush
    by_cases q : o = m
    · rw [if_pos q, q]; exact e1
    · rw [if_neg q]
      exact (h3 o (by omega)).kept (o1 _ (by omega))
  · rw [o1 q (by have := h4.1; omega)]
    exact h4.2.1 q q1 q2
theorem wc_newi {n : Int32} {N : Nat} (C : CB K G cc nL own Ts rm) (harr : Cond.arrayClass .int ∈ Ts) (hn : ¬ n < 0) (hN : n.toNatClampNeg = N) (hb : N * componentBytes .int ≤ 536870912) (hcl : cn + 1 ≤ rm.cells) (hsl : sn + N ≤ rm.slots) (hd : decode cc pc = .ok (.newarray .int, 2)) (kk : WC K G h nL Q (m + 1) (fpush f m (.inl (gC G 0, N, .inl (fun _ => 0)))) (cn + 1) (sn + N) L (pc + 2) (.ref (h + m) :: st)) : WC K G h nL Q m f cn sn L pc (.int n :: st) := by
  intro ls H locs h1 h2 h3 h4
  refine va_newaK (atype := .int) (g := F0 (kM K) pc ls (.int n :: st)) C.hx C.hb (C.ht _ harr) rfl hd rfl hn hN hb (by rw [C.2.2]; exact hcl) (by rw [C.2.2]; exact hsl) h2 (fun H1 cA e1 z1 o1 hAr hNm => ?_)
  have ec : cA = gC G 0 := Option.some.inj (hNm.symm.trans (C.2.1.1.2 0 _ rfl).2)
  subst ec
  exact wc_grow kk h1 h2 h3 h4 e1 z1 o1
theorem wc_newz {n : Int32} {N : Nat} (C : CB K G cc nL own Ts rm) (harr : Cond.arrayClass .boolean ∈ Ts) (hn : ¬ n < 0) (hN : n.toNatClampNeg = N) (hb : N * componentBytes .boolean ≤ 536870912) (hcl : cn + 1 ≤ rm.cells) (hsl : sn + N ≤ rm.slots) (hd : decode cc pc = .ok (.newarray .boolean, 2)) (kk : WC K G h nL Q (m + 1) (fpush f m (.inl (gC G 1, N, .inl (fun _ => 0)))) (cn + 1) (sn + N) L (pc + 2) (.ref (h + m) :: st)) : WC K G h nL Q m f cn sn L pc (.int n :: st) := by
  intro ls H locs h1 h2 h3 h4
  refine va_newaK (atype := .boolean) (g := F0 (kM K) pc ls (.int n :: st)) C.hx C.hb (C.ht _ harr) rfl hd rfl hn hN hb (by rw [C.2.2]; exact hcl) (by rw [C.2.2]; exact hsl) h2 (fun H1 cA e1 z1 o1 hAr hNm => ?_)
  have ec : cA = gC G 1 := Option.some.inj (hNm.symm.trans (C.2.1.1.2 1 _ rfl).2)
  subst ec
  exact wc_grow kk h1 h2 h3 h4 e1 z1 o1
theorem wc_new {ci index N : Nat} {Cn : String} {T : u_T} {ty0 : Nat → FieldType} {fs : List Value} (C : CB K G cc nL own Ts rm) (hc : vwCl[ci]? = some (Cn, T, N)) (hin : ∀ w ∈ u_ws Cn T N, w ∈ Ts) (hty : ∀ k, k < N → parseFieldDescriptor (T k).2.2.1 = some (ty0 k)) (w1 : Cond.classLink own index Cn ∈ Ts) (w2 : Cond.instantiable Cn N ∈ Ts) (w3 : Cond.initialized Cn ∈ Ts) (hfs : ∀ j, j < N → defaultValue (ty0 j) = vp_V fs j) (hcl : cn + 1 ≤ rm.cells) (hsl : sn + N ≤ rm.slots) (hd : decode cc pc = .ok (.new index, 3)) (kk : WC K G h nL Q (m + 1) (fpush f m (.inr (ci, fs))) (cn + 1) (sn + N) L (pc + 3) (.ref (h + m) :: st)) : WC K G h nL Q m f cn sn L pc st := by
  intro ls H locs h1 h2 h3 h4
  have hKn := C.2.1.1.1 ci _ hc
  refine W.newcK (g := F0 (kM K) pc ls st) C.hx C.hb C.ho (C.ht _ w1) (C.ht _ w2) (C.ht _ w3) rfl hd (by rw [C.2.2]; exact hcl) (by rw [C.2.2]; exact hsl) hKn.2.1 h2 (fun H1 kC hkC e1 z1 o1 => ?_)
  exact wc_grow kk h1 h2 h3 h4 ⟨_, hc, (u_born ty0 C.ht hin hKn hkC e1 hty).to hfs⟩ z1 o1
theorem wc_anew {n : Int32} {N index : Nat} (C : CB K G cc nL own Ts rm) (w1 : Cond.classLink own index "PolyCuts$Shape" ∈ Ts) (hn : ¬ n < 0) (hN : n.toNatClampNeg = N) (hb : N * 4 ≤ 536870912) (hcl : cn + 1 ≤ rm.cells) (hsl : sn + N ≤ rm.slots) (hd : decode cc pc = .ok (.anewarray index, 3)) (kk : WC K G h nL Q (m + 1) (fpush f m (.inl (gC G 2, N, .inr (.inr (.inr (.inr (fun _ => none))))))) (cn + 1) (sn + N) L (pc + 3) (.ref (h + m) :: st)) : WC K G h nL Q m f cn sn L pc (.int n :: st) := by
  intro ls H locs h1 h2 h3 h4
  subst hN
  refine W.anew (g := F0 (kM K) pc ls (.int n :: st)) C.hx C.hb C.ho (C.ht _ w1) (va_AO.use C.2.1.2.2.1) rfl hd rfl hn hb (by rw [C.2.2]; exact hcl) (by rw [C.2.2]; exact hsl) (fun cA kA comp f1 f2 f3 f4 => ?_)
  obtain ⟨kA', comp', -, -, -, g4⟩ := (C.2.1.1.2 2 _ rfl).2
  have ec : cA = gC G 2 := Option.some.inj (f1.symm.trans g4)
  subst ec
  generalize hH1 : H.push ({ cls := gC G 2, slots := Array.replicate n.toNatClampNeg .null, vm := .none } : Cell) = H1
  have z1 : H1.size = H.size + 1 := by rw [← hH1, Array.size_push]
  have e1 : H1[H.size]? = some (arrV (gC G 2) n.toNatClampNeg (fun _ => .null)) := by rw [← hH1, Array.getElem?_push_size, ← arrV_new]
  have o1 : ∀ q : Nat, q < H.size → H1[q]? = H[q]? := fun q hq => by rw [← hH1, Array.getElem?_push, if_neg (Nat.ne_of_lt hq)]
  rw [h2] at z1 e1 o1
  refine W.eq (g2 := F0 (kM K) (pc + 3) ls (.ref (h + m) :: st)) ?_ (wc_grow kk h1 h2 h3 h4 ?_ z1 o1)
  · rw [← h2]
  · show H1[h + m]? = some (vp_cell _ _)
    rw [vp_cell_q]
    exact e1
end MK
