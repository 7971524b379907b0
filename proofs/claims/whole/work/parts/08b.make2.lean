theorem vr_outer (c : ClassId) (N h0 : Nat) : ∀ i : Nat, Jvm.Free.Multi.outerC c N h0 i = arrV c N (fun j => va_rf (if j < i then some (h0 + 1 + j) else none))
  | 0 => by
    show ({ cls := c, slots := Array.replicate N .null, vm := .none } : Cell) = _
    rw [arrV_new]
    refine congrArg (arrV c N) (funext fun j => ?_)
    simp [va_rf]
  | i + 1 => by
    show (Jvm.Free.Multi.outerC c N h0 i).setSlot i (.ref (h0 + 1 + i)) = _
    rw [vr_outer c N h0 i, arrV_store]
    refine congrArg (arrV c N) (funext fun j => ?_)
    by_cases e : j = i
    · subst e
      simp [updV, va_rf]
    · by_cases h : j < i
      · simp [updV, e, h, Nat.lt_succ_of_lt h]
      · simp [updV, e, h, show ¬ j < i + 1 by omega]
/-- a block whose first cell is an object -/
def ob (ci : Nat) (fs : List Value) (b : Nat → va_E) : Nat → va_E := fun o => if o = 0 then .inr (ci, fs) else b o
theorem ob_0 {ci : Nat} {fs : List Value} {b : Nat → va_E} : ob ci fs b 0 = .inr (ci, fs) := if_pos rfl
theorem ob_s {ci : Nat} {fs : List Value} {b : Nat → va_E} {o : Nat} (h : o ≠ 0) : ob ci fs b o = b o := if_neg h
/-- the cells of new int[14][14] -/
def gmul (G : Gx) (b : Nat) : Nat → va_E := fun o => if o = 0 then .inl (gC G 3, 14, .inr (.inr (.inr (.inr (fun i => if i < 14 then some (b + 1 + i) else none))))) else .inl (gC G 0, 14, .inl (fun _ => 0))
theorem fpush_eq {f : Nat → va_E} {m : Nat} {e : va_E} (he : f m = e) : ∀ o, o < m + 1 → fpush f m e o = f o := fun o _ => by
  unfold fpush
  by_cases q : o = m
  · rw [if_pos q, q, he]
  · rw [if_neg q]
section MK2
variable {K : Kx} {G : Gx} {cc : ByteArray} {nL : Nat} {own : String} {Ts : List Cond} {rm : Room} {Q : State → Prop} {h m : Nat} {f : Nat → va_E} {cn sn : Nat} {L : List (Nat × Value)} {pc : Nat} {st : List Value}
theorem wc_upd {o kx : Nat} {e : va_E} {f' : Nat → va_E} {cn' sn' pc' : Nat} {st' : List Value} (k : WC K G h nL Q m f' cn' sn' L pc' st') {ls : Array Slot} {H H1 : Heap} {locs : List Loc} (h1 : lv_has ls nL L) (h2 : H.size = h + m) (h3 : ∀ o, o < m → va_at (gD G) vwCl (h + o, f o) H) (h4 : va_S (fr9 h) (kS K).heap H locs) (ho : o < m) (e1 : va_at (gD G) vwCl (h + o, e) H1) (z1 : H1.size = H.size) (o1 : ∀ q : Nat, q ≠ h + o → H1[q]? = H[q]?) (hf : ∀ q, q < m → f' q = if q = o then e else f q) :
    W (kP K) (kL K) (kE K) (kR K) (kS K) (kM K) (kA K) (kB K) (kT K) (kC K) H1 (locs ++ [⟨h + o, kx⟩]) cn' sn' Q (F0 (kM K) pc' ls st') := by
  refine k ls H1 _ h1 (by omega) (fun q hq => ?_) (h4.put z1 o1 (Nat.le_add_right h o))
  rw [hf q hq]
  by_cases e2 : q = o
  · rw [if_pos e2, e2]; exact e1
  · rw [if_neg e2]
    exact (h3 q hq).kept (o1 _ (by show h + q ≠ h + o; omega))
theorem ob_up {ci : Nat} {fs fs' : List Value} {b : Nat → va_E} (q : Nat) : ob ci fs' b q = if q = 0 then .inr (ci, fs') else ob ci fs b q := by
  by_cases e : q = 0
  · rw [if_pos e, e, ob_0]
  · rw [if_neg e, ob_s e, ob_s e]
theorem wc_putF {ci k index N : Nat} {v : Value} {fs : List Value} {b : Nat → va_E} {Cn : String} {T : u_T} {ty0 : Nat → FieldType} {ty : FieldType} (C : CB K G cc nL own Ts rm) (I : CI K) (hm : 0 < m) (hc : vwCl[ci]? = some (Cn, T, N)) (hin : ∀ w ∈ u_ws Cn T N, w ∈ Ts) (hty : ∀ k, k < N → parseFieldDescriptor (T k).2.2.1 = some (ty0 k)) (hnm : ∀ a, a < N → ∀ b, b < N → a ≠ b → (T a).2.1 ≠ (T b).2.1) (hk : k < N) (hlk : Cond.fieldLink own index (T k).1 (T k).2.1 (T k).2.2.1 ∈ Ts) (hfin : (T k).2.2.2 = true) (hdecl : (T k).1 = own) (hti : ty0 k = ty) (hn : narrow ty v = v) (hfit : fits ty v = true) (hl : k < fs.length) (hd : decode cc pc = .ok (.putfield index, 3)) (kk : WC K G h nL Q m (ob ci (fs.set k v) b) cn sn L (pc + 3) st) : WC K G h nL Q m (ob ci fs b) cn sn L pc (v :: .ref h :: st) := by
  intro ls H locs h1 h2 h3 h4
  have hK : va_K (gD G) vwCl (gTy G) (kS K) := C.2.1.1
  have hap := va_apart (own := own) C.ht hin ty0 hty hnm hK hc
  have hat : va_at (gD G) vwCl (h, .inr (ci, fs)) H := h3 0 hm
  obtain ⟨r, q0, cell, q1, q2, q3, q4⟩ := hat
  have hr : r = (Cn, T, N) := Option.some.inj (q0.symm.trans hc)
  subst hr
  obtain ⟨hS, hfc, kC9, hkC, hkind⟩ := hK.1 ci _ hc
  obtain ⟨cf, kf, fi, fld, hfi, hsl⟩ := hS k hk
  have hlay := C.ht _ (hin _ (u_in_lay hk))
  unfold u_lay at hlay
  rw [if_pos hfin] at hlay
  have hst := (u_facts hfc hkC (u_lays C.ht hin hk) hfi).1
  have hcf : (kM K).cls = cf := by
    obtain ⟨_, _, c', _, _, _, -, -, hf', -, -, -, hown2, -⟩ := Cond.laysFinal_spec hlay
    have e1 : c' = cf := by have := hfi.symm.trans hf'; simp at this; exact this.1.symm
    rw [hdecl] at hown2
    rw [← e1]; exact Option.some.inj (C.ho.symm.trans hown2)
  have hdi : parseFieldDescriptor (T k).2.2.1 = some ty := by rw [hty k hk, hti]
  have h6 := u_fits hfc hkC hkind (Or.inr hlay) hfi hdi hn hfit
  refine W.putFinK C.hx C.hb C.ho (C.ht _ hlk) hfi hst hcf I.2.2 (by rw [q2]; exact h6) q1 q3 (by rw [hsl]; exact k2_hasslot (q4 k hk)) rfl rfl hd fun H' e1 e2 e3 => ?_
  rw [hsl] at e1 ⊢
  exact wc_upd (o := 0) (e := .inr (ci, fs.set k v)) kk h1 h2 h3 h4 hm ⟨_, hc, t_OB.to (V := updV (vp_V fs) k v) ⟨_, e1, q2, q3, t_set q4 hap hk v⟩ (fun j _ => vp_updV_set hl v j)⟩ e2 e3 (fun q _ => ob_up q)
theorem wc_putI {ci k index N : Nat} {v : Value} {fs : List Value} {b : Nat → va_E} {Cn : String} {T : u_T} {ty0 : Nat → FieldType} {ty : FieldType} (C : CB K G cc nL own Ts rm) (hm : 0 < m) (hc : vwCl[ci]? = some (Cn, T, N)) (hin : ∀ w ∈ u_ws Cn T N, w ∈ Ts) (hty : ∀ k, k < N → parseFieldDescriptor (T k).2.2.1 = some (ty0 k)) (hnm : ∀ a, a < N → ∀ b, b < N → a ≠ b → (T a).2.1 ≠ (T b).2.1) (hk : k < N) (hlk : Cond.fieldLink own index (T k).1 (T k).2.1 (T k).2.2.1 ∈ Ts) (hfin : (T k).2.2.2 = false) (hti : ty0 k = ty) (hn : narrow ty v = v) (hfit : fits ty v = true) (hl : k < fs.length) (hd : decode cc pc = .ok (.putfield index, 3)) (kk : WC K G h nL Q m (ob ci (fs.set k v) b) cn sn L (pc + 3) st) : WC K G h nL Q m (ob ci fs b) cn sn L pc (v :: .ref h :: st) := by
  intro ls H locs h1 h2 h3 h4
  have hK : va_K (gD G) vwCl (gTy G) (kS K) := C.2.1.1
  have hap := va_apart (own := own) C.ht hin ty0 hty hnm hK hc
  have hat : va_at (gD G) vwCl (h, .inr (ci, fs)) H := h3 0 hm
  obtain ⟨r, q0, cell, q1, q2, q3, q4⟩ := hat
  have hr : r = (Cn, T, N) := Option.some.inj (q0.symm.trans hc)
  subst hr
  obtain ⟨hS, hfc, kC9, hkC, hkind⟩ := hK.1 ci _ hc
  obtain ⟨cf, kf, fi, fld, hfi, hsl⟩ := hS k hk
  have hlay := C.ht _ (hin _ (u_in_lay hk))
  unfold u_lay at hlay
  rw [if_neg (by rw [hfin]; decide)] at hlay
  have hst := (u_facts hfc hkC (u_lays C.ht hin hk) hfi).1
  have hdi : parseFieldDescriptor (T k).2.2.1 = some ty := by rw [hty k hk, hti]
  have h6 := u_store hfc hkC hkind hlay hfi hdi hn hfit
  refine W.putK C.hx C.hb (f := fld) ⟨C.ho, C.ht _ hlk, ⟨_, _, _, hfi⟩, hst⟩ (by rw [q2]; exact h6) q1 q3 (by rw [hsl]; exact k2_hasslot (q4 k hk)) rfl rfl hd fun H' e1 e2 e3 => ?_
  rw [hsl] at e1 ⊢
  exact wc_upd (o := 0) (e := .inr (ci, fs.set k v)) kk h1 h2 h3 h4 hm ⟨_, hc, t_OB.to (V := updV (vp_V fs) k v) ⟨_, e1, q2, q3, t_set q4 hap hk v⟩ (fun j _ => vp_updV_set hl v j)⟩ e2 e3 (fun q _ => ob_up q)
theorem wc_get {ci k index N : Nat} {v : Value} {fs : List Value} {b : Nat → va_E} {Cn : String} {T : u_T} (C : CB K G cc nL own Ts rm) (hm : 0 < m) (hc : vwCl[ci]? = some (Cn, T, N)) (hin : ∀ w ∈ u_ws Cn T N, w ∈ Ts) (hk : k < N) (hlk : Cond.fieldLink own index (T k).1 (T k).2.1 (T k).2.2.1 ∈ Ts) (hv : fs[k]? = some v) (hd : decode cc pc = .ok (.getfield index, 3)) (kk : WC K G h nL Q m (ob ci fs b) cn sn L (pc + 3) (v :: st)) : WC K G h nL Q m (ob ci fs b) cn sn L pc (.ref h :: st) := fun ls H locs h1 h2 h3 h4 =>
  have hP : va_P (gD G) vwCl [(h, .inr (ci, fs))] H := by
    intro q z hz
    match q, hz with
    | 0, hz => cases hz; exact h3 0 hm
    | q + 1, hz => simp at hz
  va_get (D := gD G) (ref := (T k).1) C.hx C.hb C.ht hin C.ho C.2.1.1 hP 0 rfl hc k hk (C.ht _ hlk) (fun _ q => q) hv hd (kk ls H locs h1 h2 h3 h4)
theorem wc_aast {o ov j : Nat} {A A' : Nat → Option Nat} {x : Int32} {fs : List Value} {f' : Nat → va_E} (C : CB K G cc nL own Ts rm) (ho : o < m) (hv : ov < m) (hfo : f o = .inl (gC G 2, 8, .inr (.inr (.inr (.inr A))))) (hfv : f ov = .inr (3, fs)) (hx : x = nI j) (hj : j < 8) (hA : ∀ q, A' q = if q = j then some (h + ov) else A q) (hf' : ∀ q, q < m → f' q = if q = o then .inl (gC G 2, 8, .inr (.inr (.inr (.inr A')))) else f q) (hd : decode cc pc = .ok (.aastore, 1)) (kk : WC K G h nL Q m f' cn sn L (pc + 1) st) : WC K G h nL Q m f cn sn L pc (.ref (h + ov) :: .int x :: .ref (h + o) :: st) := by
  intro ls H locs h1 h2 h3 h4
  have hK : va_K (gD G) vwCl (gTy G) (kS K) := C.2.1.1
  have hcl := nI_cl9 hx hj (by decide)
  have hin := nI_in9 hx hj (by decide)
  have h0 : ¬ x < 0 := fun q => hin (Or.inl q)
  have av := h3 ov hv
  rw [hfv] at av
  have ao := h3 o ho
  rw [hfo] at ao
  obtain ⟨r', hr', cellV, g1, g2, g3, -⟩ := av
  have hcls := (hK.1 3 _ rfl).2
  obtain ⟨kA, comp, k1, k2, k3, -⟩ := (hK.2 2 _ rfl).2
  have hcomp : comp = (gD G).1 3 := Option.some.inj (k3.symm.trans hcls.1)
  subst hcomp
  obtain ⟨kC, hkC, -⟩ := id hcls.2
  refine W.aast C.hx C.hb ao (fun q h => by cases h) (fun h => by cases h) k1 k2 rfl hkC ⟨h0, by show _ < (arrV _ _ _).slots.size; rw [arrV_size, hcl]; exact hj⟩ g1 (fun q h => by rw [g3] at h; cases h) (by rw [g2]; exact hkC) (by rw [g2]; exact va_assign hcls) rfl rfl hd fun H1 e z oq => ?_
  refine wc_upd (o := o) kk h1 h2 h3 h4 ho ?_ z oq hf'
  show H1[h + o]? = some (vp_cell _ _)
  rw [e, vp_cell_q, vp_cell_q, arrV_store, hcl]
  congr 2
  funext q
  rw [hA q]
  by_cases hq : q = j
  · subst hq
    simp [updV, va_rf]
  · simp [updV, hq]
theorem wc_multi {index : Nat} (C : CB K G cc nL own Ts rm) (w1 : Cond.classLink own index ("[" ++ (FieldType.array .int).toString) ∈ Ts) (harr : Cond.arrayClass .int ∈ Ts) (hcl : cn + 15 ≤ rm.cells) (hsl : sn + 210 ≤ rm.slots) (hd : decode cc pc = .ok (.multianewarray index 2, 4)) (hf : ∀ o, o < 15 → f (m + o) = gmul G (h + m) o) (kk : WC K G h nL Q (m + 15) f (cn + 15) (sn + 210) L (pc + 4) (.ref (h + m) :: st)) : WC K G h nL Q m f cn sn L pc (.int 14 :: .int 14 :: st) := by
  intro ls H locs h1 h2 h3 h4 T hT Xs
  have e14 : (14 : Int32).toNatClampNeg = 14 := rfl
  obtain ⟨vm₁, cA, comp, -, fA, fC, -, -, X', step⟩ := Xs.multianewarray2F (ty := .int) C.hx C.ho (C.ht _ w1) C.2.1.2.1 (C.ht _ harr) (g := F0 (kM K) pc ls (.int 14 :: .int 14 :: st)) rfl (by rw [C.hb]; exact hd) rfl (by decide) (by decide) (by decide) (by decide) (by decide) rfl rfl (by rw [C.2.2]; exact hcl) (by rw [C.2.2]; exact hsl)
  have ecA : cA = gC G 3 := Option.some.inj (fA.symm.trans (C.2.1.1.2 3 _ rfl).2)
  have ecC : comp = gC G 0 := Option.some.inj (fC.symm.trans (C.2.1.1.2 0 _ rfl).2)
  subst ecA
  subst ecC
  rw [e14] at X' step
  generalize hF : Jvm.Free.Multi.fill (T.setVm vm₁) (gC G 3) (gC G 0) 14 14 (defaultValue .int) 14 = F at X' step
  have hTh : (T.setVm vm₁).heap = H := hT
  obtain ⟨f1, f2, -, -⟩ := Jvm.Free.Multi.fill_facts (T.setVm vm₁) (gC G 3) (gC G 0) 14 14 (defaultValue .int) 14
  rw [hF, hTh] at f1 f2
  have hold : ∀ x : Nat, x < H.size → F.heap[x]? = H[x]? := fun x hx => by
    have := Jvm.Free.Multi.fill_old (T.setVm vm₁) (gC G 3) (gC G 0) 14 14 (defaultValue .int) (a := x) (by rw [hTh]; exact hx) 14
    rw [hF, hTh] at this
    exact this
  have hz : Jvm.Free.Multi.innerC (gC G 0) 14 (defaultValue .int) = vp_cell (gC G 0) (14, .inl (fun _ => 0)) := by
    rw [vp_cell_i]
    exact arrV_new _ _ _
  have hrow : ∀ j : Nat, j < 14 → F.heap[H.size + 1 + j]? = some (vp_cell (gC G 0) (14, .inl (fun _ => 0))) := fun j hj => by
    have := Jvm.Free.Multi.fill_inner (T.setVm vm₁) (gC G 3) (gC G 0) 14 14 (defaultValue .int) 14 j hj
    rw [hF, hTh, hz] at this
    exact this
  have hout : Jvm.Free.Multi.outerC (gC G 3) 14 H.size 14 = vp_cell (gC G 3) (14, .inr (.inr (.inr (.inr (fun i => if i < 14 then some (H.size + 1 + i) else none))))) := by
    rw [vp_cell_q]
    exact vr_outer (gC G 3) 14 H.size 14
  rw [hout] at f2
  rw [h2] at f1 f2 hrow hold
  have X2 : Stand (kP K) (kL K) (kE K) (kR K) (kS K) (kM K) (kA K) (kB K) (kT K) (kC K) F locs (cn + 15) (sn + 210) := X'
  obtain ⟨t, a1, b1⟩ := kk ls F.heap locs h1 (by rw [f1]; omega) (fun o ho => by
    by_cases q : o < m
    · exact (h3 o q).kept (hold _ (by show h + o < h + m; omega))
    · obtain ⟨j, rfl⟩ : ∃ j, o = m + j := ⟨o - m, by omega⟩
      rw [hf j (by omega)]
      unfold gmul
      by_cases q0 : j = 0
      · subst q0
        rw [if_pos rfl]
        exact f2
      · rw [if_neg q0]
        have := hrow (j - 1) (by omega)
        rw [show h + m + 1 + (j - 1) = h + (m + j) by omega] at this
        exact this) ⟨by rw [f1]; have := h4.1; omega, fun x q1 q2 => (hold x (by have := h4.1; omega)).trans (h4.2.1 x q1 q2), h4.2.2⟩ F rfl X2
  refine ⟨t, step t ?_, b1⟩
  have e : T.heap.size = h + m := by rw [hT]; exact h2
  rw [e]
  exact a1
theorem pc_blind {h ci : Nat} {fs : List Value} {av : List Value} : FrameBlind (va_Pc av (PC G h ci fs)) := fun a U g mk q => ⟨q.1, q.2.1, q.2.2.1, va_K.moved (u := U) (U := U.calling g mk a) (Vm.Alike.refl U.vm) q.2.2.2.1, kw_same (show U.vm = (U.calling g mk a).vm from rfl) q.2.2.2.2⟩
theorem wc_back {ci n mc ms : Nat} {fs : List Value} {f0 : Nat → va_E} {rest : List Value} {g : Nat → va_E} {a : Array Value} (hr : ∀ (ls : Array Slot) (H : Heap) (locs : List Loc), lv_has ls nL L → H.size = h + m + 1 → va_at (gD G) vwCl (h + m, .inr (ci, fs)) H → va_Run (kP K) (kL K) (kE K) (kR K) (kS K) (kM K) (kA K) (kB K) (kT K) (kC K) H locs cn sn mc ms (F0 (kM K) pc ls st) rest (va_Qv (fun _ : Unit => True) (BC G (h + m) n g) (fr9 (h + m)) a) (fr9 (h + m))) (hf0 : f0 m = .inr (ci, fs)) (hf1 : ∀ o, o < m → f0 o = f o) (hf : ∀ o, o < n → f (m + o) = g o) (kk : WC K G h nL Q (m + n) f (cn + mc) (sn + ms) L (pc + 3) rest) : WC K G h nL Q (m + 1) f0 cn sn L pc st := by
  intro ls H locs h1 h2 h3 h4
  have hat := h3 m (by omega)
  rw [hf0] at hat
  refine va_callv (hr ls H locs h1 h2 hat) h4 (fun q _ z => Nat.le_trans (Nat.le_add_right h m) z) (fun q z => Nat.le_trans (Nat.le_add_right h m) z) (fun u t H1 locs1 ht _ _ hB hz hk hS => ?_)
  obtain ⟨b1, b2⟩ := hB
  rw [ht] at b1 b2
  refine kk ls H1 locs1 h1 (by omega) (fun o ho => ?_) hS
  by_cases q : o < m
  · rw [← hf1 o q]
    exact (h3 o (by omega)).kept (hk _ (by show h + o < _; omega) (fun z => by have : h + m ≤ h + o := z; omega))
  · obtain ⟨j, rfl⟩ : ∃ j, o = m + j := ⟨o - m, by omega⟩
    rw [hf j (by omega), ← Nat.add_assoc]
    exact b2 j (by omega)
/-- new, dup, and the call of a nest mate's constructor -/
theorem wc_make {ci N index index2 maxL mc ms d n : Nat} {Cn : String} {T : u_T} {ty0 : Nat → FieldType} {fs : List Value} {y : MethodName} {ws ws' : List Cond} {bytes : ByteArray} {g : Nat → va_E} (C : CB K G cc nL own Ts rm) (hM : CtC (kL K) y ws d mc ms G (h + m) ci fs n g) (hc : vwCl[ci]? = some (Cn, T, N)) (hin : ∀ w ∈ u_ws Cn T N, w ∈ Ts) (hty : ∀ k, k < N → parseFieldDescriptor (T k).2.2.1 = some (ty0 k)) (w1 : Cond.classLink own index Cn ∈ Ts) (w2 : Cond.instantiable Cn N ∈ Ts) (w3 : Cond.initialized Cn ∈ Ts) (hfs : ∀ j, j < N → defaultValue (ty0 j) = vp_V fs j) (hcl : cn + 1 + mc ≤ rm.cells) (hsl : sn + N + ms ≤ rm.slots) (hd1 : decode cc pc = .ok (.new index, 3)) (hd2 : decode cc (pc + 3) = .ok (.dup, 1)) (hd3 : decode cc (pc + 3 + 1) = .ok (.invokespecial index2, 3)) (hG : GoodIn Ts ws) (hw : ws = Cond.code y bytes maxL none :: ws') (hnw : va_Nw (.methodLinkNest own index2 y RX5) (kS K)) (w4 : Cond.initialized y.cls ∈ Ts) (hy : y.name = "<init>") (hd4 : y.cls ≠ "java/lang/invoke/MethodHandle" ∧ y.cls ≠ "java/lang/invoke/VarHandle" ∧ (parseMethodDescriptor y.desc).map (fun d => d.parameters.length) = some 0) (w5 : Cond.instanceMethod y ∈ Ts) (hR : d + 1 ≤ rm.frames ∧ 8 + (maxL + 11) + 40 * d ≤ rm.locals) (hcat : ((Value.ref (h + m) :: st).map fun v => v.category).sum ≤ 8) (hf : ∀ o, o < n → f (m + o) = g o) (kk : WC K G h nL Q (m + n) f (cn + 1 + mc) (sn + N + ms) L (pc + 3 + 1 + 3) (.ref (h + m) :: st)) : WC K G h nL Q m f cn sn L pc st := by
  refine wc_new (fs := fs) C hc hin hty w1 w2 w3 hfs (by omega) (by omega) hd1 (wc_dup C hd2 rfl ?_)
  refine wc_back (a := (Value.ref (h + m) :: ([] : List Value)).toArray) (fs := fs) (ci := ci) (n := n) (g := g) (fun ls H locs h1 h2 hat => ?_) (if_pos rfl) (fun o ho => if_neg (by omega)) hf kk
  exact va_runIN (host := RX5) (n := 0) (As := []) (rest := .ref (h + m) :: st) C.1 hM ⟨va_cnB 0 C.ht hG hw rfl rfl hnw (C.ht _ w4) hd4 (by rw [C.2.2]; exact hR), hy, C.ht _ w5⟩ ⟨pc_blind, fun U hU hW => ⟨rfl, by rw [hU]; exact h2, by rw [hU]; exact hat, kc_moved hW C.2.1⟩⟩ rfl rfl h1.1 rfl (by show 2 * 0 + _ ≤ 8; omega) hd3 (by rw [C.2.2]; exact ⟨hcl, hsl⟩)
/-- new, dup, and the call of a constructor -/
theorem wc_makeP {ci N index index2 maxL mc ms d n : Nat} {Cn : String} {T : u_T} {ty0 : Nat → FieldType} {fs : List Value} {y : MethodName} {ws ws' : List Cond} {bytes : ByteArray} {g : Nat → va_E} (C : CB K G cc nL own Ts rm) (hM : CtC (kL K) y ws d mc ms G (h + m) ci fs n g) (hc : vwCl[ci]? = some (Cn, T, N)) (hin : ∀ w ∈ u_ws Cn T N, w ∈ Ts) (hty : ∀ k, k < N → parseFieldDescriptor (T k).2.2.1 = some (ty0 k)) (w1 : Cond.classLink own index Cn ∈ Ts) (w2 : Cond.instantiable Cn N ∈ Ts) (w3 : Cond.initialized Cn ∈ Ts) (hfs : ∀ j, j < N → defaultValue (ty0 j) = vp_V fs j) (hcl : cn + 1 + mc ≤ rm.cells) (hsl : sn + N + ms ≤ rm.slots) (hd1 : decode cc pc = .ok (.new index, 3)) (hd2 : decode cc (pc + 3) = .ok (.dup, 1)) (hd3 : decode cc (pc + 3 + 1) = .ok (.invokespecial index2, 3)) (hG : GoodIn Ts ws) (hw : ws = Cond.code y bytes maxL none :: ws') (hl : Cond.methodLink own index2 y ∈ Ts) (w4 : Cond.initialized y.cls ∈ Ts) (hy : y.name = "<init>") (hd4 : y.cls ≠ "java/lang/invoke/MethodHandle" ∧ y.cls ≠ "java/lang/invoke/VarHandle" ∧ (parseMethodDescriptor y.desc).map (fun d => d.parameters.length) = some 0) (w5 : Cond.instanceMethod y ∈ Ts) (hR : d + 1 ≤ rm.frames ∧ 8 + (maxL + 11) + 40 * d ≤ rm.locals) (hcat : ((Value.ref (h + m) :: st).map fun v => v.category).sum ≤ 8) (hf : ∀ o, o < n → f (m + o) = g o) (kk : WC K G h nL Q (m + n) f (cn + 1 + mc) (sn + N + ms) L (pc + 3 + 1 + 3) (.ref (h + m) :: st)) : WC K G h nL Q m f cn sn L pc st := by
  refine wc_new (fs := fs) C hc hin hty w1 w2 w3 hfs (by omega) (by omega) hd1 (wc_dup C hd2 rfl ?_)
  refine wc_back (a := (Value.ref (h + m) :: ([] : List Value)).toArray) (fs := fs) (ci := ci) (n := n) (g := g) (fun ls H locs h1 h2 hat => ?_) (if_pos rfl) (fun o ho => if_neg (by omega)) hf kk
  exact va_runI (n := 0) (As := []) (rest := .ref (h + m) :: st) C.1 hM (cwI 0 C.ht hG hw rfl rfl (C.ht _ w4) (C.ht _ hl) (C.ht _ w5) hy hd4 (by rw [C.2.2]; exact hR)) ⟨pc_blind, fun U hU hW => ⟨rfl, by rw [hU]; exact h2, by rw [hU]; exact hat, kc_moved hW C.2.1⟩⟩ rfl rfl h1.1 rfl (by show 2 * 0 + _ ≤ 8; omega) hd3 (by rw [C.2.2]; exact ⟨hcl, hsl⟩)
theorem wc_newi9 {n : Int32} {N : Nat} (C : CB K G cc nL own Ts rm) (harr : Cond.arrayClass .int ∈ Ts) (hn : ¬ n < 0) (hN : n.toNatClampNeg = N) (hb : N * componentBytes .int ≤ 536870912) (hcl : cn + 1 ≤ rm.cells) (hsl : sn + N ≤ rm.slots) (hd : decode cc pc = .ok (.newarray .int, 2)) (hf : f m = .inl (gC G 0, N, .inl (fun _ => 0))) (kk : WC K G h nL Q (m + 1) f (cn + 1) (sn + N) L (pc + 2) (.ref (h + m) :: st)) : WC K G h nL Q m f cn sn L pc (.int n :: st) := wc_newi C harr hn hN hb hcl hsl hd (wc_eq (fpush_eq hf) kk)
theorem wc_newz9 {n : Int32} {N : Nat} (C : CB K G cc nL own Ts rm) (harr : Cond.arrayClass .boolean ∈ Ts) (hn : ¬ n < 0) (hN : n.toNatClampNeg = N) (hb : N * componentBytes .boolean ≤ 536870912) (hcl : cn + 1 ≤ rm.cells) (hsl : sn + N ≤ rm.slots) (hd : decode cc pc = .ok (.newarray .boolean, 2)) (hf : f m = .inl (gC G 1, N, .inl (fun _ => 0))) (kk : WC K G h nL Q (m + 1) f (cn + 1) (sn + N) L (pc + 2) (.ref (h + m) :: st)) : WC K G h nL Q m f cn sn L pc (.int n :: st) := wc_newz C harr hn hN hb hcl hsl hd (wc_eq (fpush_eq hf) kk)
theorem wc_anew9 {n : Int32} {N index : Nat} (C : CB K G cc nL own Ts rm) (w1 : Cond.classLink own index "PolyCuts$Shape" ∈ Ts) (hn : ¬ n < 0) (hN : n.toNatClampNeg = N) (hb : N * 4 ≤ 536870912) (hcl : cn + 1 ≤ rm.cells) (hsl : sn + N ≤ rm.slots) (hd : decode cc pc = .ok (.anewarray index, 3)) (hf : f m = .inl (gC G 2, N, .inr (.inr (.inr (.inr (fun _ => none)))))) (kk : WC K G h nL Q (m + 1) f (cn + 1) (sn + N) L (pc + 3) (.ref (h + m) :: st)) : WC K G h nL Q m f cn sn L pc (.int n :: st) := wc_anew C w1 hn hN hb hcl hsl hd (wc_eq (fpush_eq hf) kk)
theorem wc_vret {n mc ms : Nat} {g : Nat → va_E} (C : CB K G cc nL own Ts rm) (I : CI K) (h1 : cn ≤ mc) (h2 : sn ≤ ms) (hd : decode cc pc = .ok (.return_, 1)) (hm : m = n) (hf : ∀ o, o < n → f o = g o) : WC K G h nL (QC K G h n g mc ms) m f cn sn L pc [] := fun ls H locs _ q2 q3 q4 =>
  W.widen (k := mc) (n := ms) h1 h2 (W.vret C.hx C.hb I.1 (fun t ht _ => ⟨⟨(), rfl, trivial, by rw [ht, q2, hm], fun o ho => by rw [ht, ← hf o ho]; exact q3 o (by omega)⟩, q4.F ht⟩) q4.2.2 hd I.2.1)
end MK2
theorem ct_c {l : Launch} {y : MethodName} {ws ws' : List Cond} {cc : ByteArray} {maxL d mc ms : Nat} {G : Gx} {h ci : Nat} {fs : List Value} {n : Nat} {g b : Nat → va_E} (hy : plainName y.cls = true) (hn : y.name = "<init>") (hw : ws = Cond.code y cc maxL none :: ws') (hlen : 1 ≤ maxL)
    (body : ∀ K : Kx, kL K = l → CB K G cc maxL y.cls ws (rmc d mc ms) → CI K → WC K G h maxL (QC K G h n g mc ms) 1 (ob ci fs b) 0 0 [(0, .ref h)] 0 []) : CtC l y ws d mc ms G h ci fs n g := by
  refine Met.ofW (cc := cc) (maxL := maxL) (ret := none) hy hw ?_
  intro p e s m args below meth c s₁ B hml hv
  obtain ⟨rfl, hz, hP, hK⟩ := hv
  have hts := atoms_spec (ws := ws) B.pre
  have hown : s.vm.findClass y.cls = some m.cls := findClass_of_methodNamed B.named
  have hin : meth.name = "<init>" := ((name_of_methodNamed B.named B.method).1).trans hn
  have hb := body (p, l, e, rmc d mc ms, s, m, ([.ref h] : List Value).toArray, below, meth, c) rfl ⟨⟨B.exec, B.bytes, hml, hown, hts⟩, hK, rfl⟩ ⟨B.returns, B.notSynchronized, hin⟩
  have hl := lv_entry ([.ref h]) (n := maxL) hlen
  rw [lg_entry_eq]
  exact hb _ s.heap [] hl hz (fun o ho => by
    have e0 : o = 0 := by omega
    subst e0
    exact hP) va_S.rf
