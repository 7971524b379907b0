/-! THE CLAIM OUT OF ONE WALK OF THE LAW'S BODY. Your part is whole_start (and what it stands on); all else here is the same for every law, but numbers. -/
def R_law : String := "PolyCutsLaw"
def lw_P (b : Addr) (xs : List Int32) (args : Array Value) (s : State) : Prop := args = #[.ref b] ∧ s.IntsAt b xs ∧ xs.length ≤ 320 ∧ (Jvm.Cond.and given_1 narrow_1).before args s = true
def lw_Q (_ : Array Value) (s : State) (o : Outcome) (t : State) : Prop := o = .returned (some (.int 1)) ∧ Framed s o t [] 600000 7302250
def lw_Z (below : List Frame) (a : Array Value) (s : State) : State → Prop := fun t => ∃ o, t.status = .running ∧ Ended t below o ∧ lw_Q a s o t
/-- the law's own end, with 1 on the stack, nothing written that was there before, its room as the claim has it -/
theorem lw_ret {p : Program} {l : Launch} {e : Env} {s : State} {m : MethodId} {below : List Frame} {meth : Method} {c : Code} {b : Nat} (hx : p.tables.exec = Jvm.exec) (hb : c.code = code) (hr : meth.sig.returnType = ret) (hlocks : meth.locks = false) {pc : Nat} {H : Heap} {ls : Array Slot} (hdg : decode code pc = .ok (.ireturn, 1)) : W p l e room_1 s m #[Value.ref b] below meth c H [] 600000 7302250 (lw_Z below #[Value.ref b] s) (F0 m pc ls [.int 1]) := by
  intro T hT X
  obtain ⟨fs, hret, hrun, hended, hW, hframe⟩ := X.leave (v := some (.int 1)) (hlocks := hlocks) (fun h => by rw [hr] at h; cases h)
  have hmeth' : T.vm.method? m = some meth := X.method'
  refine ⟨T.setFrames fs, ?_, .returned (some (.int 1)), hrun, hended, rfl, ⟨_, rfl⟩, hW, hframe⟩
  jvm_step X.here [X.here.top, hx, hb, hdg, hmeth', hr, ret, narrow_b1]
  (try refine ⟨rfl, ?_⟩); (try refine ⟨rfl, ?_⟩)
  first | (intro acts; rw [hret _ acts rfl rfl rfl]) | rw [hret _ _ rfl rfl rfl]
  exact Steps.refl _
/-- what holds at the law's entry: the machine, the code, the tables' words (any of lw_tbl by 'hts w (by decide +kernel)'), the script of L ints xs at the cell b, what the Statement gives of the start (any of its parts by flat_of_before) -/
def lw_At (p : Program) (s : State) (m : MethodId) (meth : Method) (c : Code) (b L : Nat) (xs : Nat → Int32) : Prop :=
  p.tables.exec = Jvm.exec ∧ c.code = code ∧ meth.sig.returnType = ret ∧ c.maxLocals = 4 ∧ s.vm.findClass R_law = some m.cls ∧ (∀ w ∈ lw_tbl, w.before #[Value.ref b] s = true) ∧ va_X b L xs s s.heap ∧ b < s.heap.size ∧ meth.locks = false ∧ (Jvm.Cond.and given_1 narrow_1).before #[Value.ref b] s = true

theorem t_ao : Cond.arrayOver (.array .int) ∈ lw_tbl := by decide +kernel
theorem t_as : Cond.arrayOver (.object "PolyCuts$Shape") ∈ lw_tbl := by decide +kernel
theorem t_n9 : Cond.methodLinkNest RX5 9 yX1_init RX5 ∈ lw_tbl := by decide +kernel
theorem t_n18 : Cond.methodLinkNest RX5 18 yX0_init RX5 ∈ lw_tbl := by decide +kernel
theorem t_n25 : Cond.methodLinkNest RX5 25 yX2_init RX5 ∈ lw_tbl := by decide +kernel
theorem t_n32 : Cond.methodLinkNest RX5 32 yX4_init RX5 ∈ lw_tbl := by decide +kernel
theorem t_n43 : Cond.methodLinkNest RX5 43 yX3_init RX5 ∈ lw_tbl := by decide +kernel
theorem t_n11 : Cond.methodLinkNest RX3 11 yX1_init RX5 ∈ lw_tbl := by decide +kernel
theorem t_n83 : Cond.methodLinkNest RX3 83 yX5_greatestDivisor "PolyCuts" ∈ lw_tbl := by decide +kernel
theorem t_ai : Cond.arrayClass .int ∈ lw_tbl := by decide +kernel
theorem t_az : Cond.arrayClass .boolean ∈ lw_tbl := by decide +kernel
theorem t_i0 : Cond.instantiable RX0 3 ∈ lw_tbl := by decide +kernel
theorem t_i1 : Cond.instantiable RX1 3 ∈ lw_tbl := by decide +kernel
theorem t_i2 : Cond.instantiable RX2 4 ∈ lw_tbl := by decide +kernel
theorem t_i3 : Cond.instantiable RX3 12 ∈ lw_tbl := by decide +kernel
theorem t_i4 : Cond.instantiable RX4 1 ∈ lw_tbl := by decide +kernel
theorem t_i5 : Cond.instantiable RX5 6 ∈ lw_tbl := by decide +kernel
theorem t_i6 : Cond.instantiable RX6 24 ∈ lw_tbl := by decide +kernel
theorem wl_clX5 : Cond.classLink RL 7 RX5 ∈ wsL_law := by decide +kernel
theorem wl_iaX5 : Cond.instantiable RX5 6 ∈ wsL_law := by decide +kernel
theorem wl_izX5 : Cond.initialized RX5 ∈ wsL_law := by decide +kernel
theorem wl_iyX5 : Cond.initialized yX5_init.cls ∈ wsL_law := by decide +kernel
theorem wl_mlX5 : Cond.methodLink RL 9 yX5_init ∈ wsL_law := by decide +kernel
theorem wl_imX5 : Cond.instanceMethod yX5_init ∈ wsL_law := by decide +kernel
theorem wl_clX6 : Cond.classLink RL 10 RX6 ∈ wsL_law := by decide +kernel
theorem wl_iaX6 : Cond.instantiable RX6 24 ∈ wsL_law := by decide +kernel
theorem wl_izX6 : Cond.initialized RX6 ∈ wsL_law := by decide +kernel
theorem wl_iyX6 : Cond.initialized yX6_init.cls ∈ wsL_law := by decide +kernel
theorem wl_mlX6 : Cond.methodLink RL 12 yX6_init ∈ wsL_law := by decide +kernel
theorem wl_imX6 : Cond.instanceMethod yX6_init ∈ wsL_law := by decide +kernel
/-- the classes and array classes, as the tables have them -/
theorem law_kc {s : State} {b : Nat} (hts : ∀ w ∈ lw_tbl, w.before #[Value.ref b] s = true) : ∃ (D : Nat → ClassId) (I : Nat → Nat → Nat) (c : Nat → ClassId), ∀ h, kc (mkG D I c h) s ∧ kn (mkG D I c h) s := by
  obtain ⟨c0, i0, k0⟩ := u_known (C := RX0) (T := TX0) (N := 3) hts inT0 (hts _ t_i0)
  obtain ⟨c1, i1, k1⟩ := u_known (C := RX1) (T := TX1) (N := 3) hts inT1 (hts _ t_i1)
  obtain ⟨c2, i2, k2⟩ := u_known (C := RX2) (T := TX2) (N := 4) hts inT2 (hts _ t_i2)
  obtain ⟨c3, i3, k3⟩ := u_known (C := RX3) (T := TX3) (N := 12) hts inT3 (hts _ t_i3)
  obtain ⟨c4, i4, k4⟩ := u_known (C := RX4) (T := TX4) (N := 1) hts inT4 (hts _ t_i4)
  obtain ⟨c5, i5, k5⟩ := u_known (C := RX5) (T := TX5) (N := 6) hts inT5 (hts _ t_i5)
  obtain ⟨c6, i6, k6⟩ := u_known (C := RX6) (T := TX6) (N := 24) hts inT6 (hts _ t_i6)
  obtain ⟨a0, q0, z0, f0, g0, e0⟩ := Cond.arrayClass_spec (hts _ t_ai)
  obtain ⟨a1, q1, z1, f1, g1, e1⟩ := Cond.arrayClass_spec (hts _ t_az)
  obtain ⟨z2, a2, q2, y2, -, g2, e2, f2⟩ := Cond.arrayOver_spec (hts _ t_as)
  obtain ⟨z3, a3, q3, y3, -, g3, e3, f3⟩ := arrayOverA_spec (hts _ t_ao)
  refine ⟨fun k => match k with | 0 => c0 | 1 => c1 | 2 => c2 | 3 => c3 | 4 => c4 | 5 => c5 | _ => c6, fun k => match k with | 0 => i0 | 1 => i1 | 2 => i2 | 3 => i3 | 4 => i4 | 5 => i5 | _ => i6, fun k => match k with | 0 => a0 | 1 => a1 | 2 => a2 | _ => a3, fun h => ?_⟩
  have hK : va_K (gD (mkG (fun k => match k with | 0 => c0 | 1 => c1 | 2 => c2 | 3 => c3 | 4 => c4 | 5 => c5 | _ => c6) (fun k => match k with | 0 => i0 | 1 => i1 | 2 => i2 | 3 => i3 | 4 => i4 | 5 => i5 | _ => i6) (fun k => match k with | 0 => a0 | 1 => a1 | 2 => a2 | _ => a3) h)) vwCl (gTy (mkG (fun k => match k with | 0 => c0 | 1 => c1 | 2 => c2 | 3 => c3 | 4 => c4 | 5 => c5 | _ => c6) (fun k => match k with | 0 => i0 | 1 => i1 | 2 => i2 | 3 => i3 | 4 => i4 | 5 => i5 | _ => i6) (fun k => match k with | 0 => a0 | 1 => a1 | 2 => a2 | _ => a3) h)) s := by
    refine ⟨fun k q hq => ?_, fun k q hq => ?_⟩
    · match k, hq with
      | 0, hq => cases hq; exact k0
      | 1, hq => cases hq; exact k1
      | 2, hq => cases hq; exact k2
      | 3, hq => cases hq; exact k3
      | 4, hq => cases hq; exact k4
      | 5, hq => cases hq; exact k5
      | 6, hq => cases hq; exact k6
      | k + 7, hq => simp [vwCl] at hq
    · match k, hq with
      | 0, hq => cases hq; exact ⟨fun n z => ⟨fun k h => (by cases h), q0, g0, z0, e0⟩, f0⟩
      | 1, hq => cases hq; exact ⟨fun n z => ⟨fun k h => (by cases h), q1, g1, z1, e1⟩, f1⟩
      | 2, hq => cases hq; exact ⟨fun n z => ⟨fun k h => (by cases h), q2, g2, z2, e2⟩, q2, z2, g2, e2, y2, f2⟩
      | 3, hq => cases hq; exact ⟨fun n z => ⟨fun k h => (by cases h), q3, g3, z3, e3⟩, f3⟩
      | k + 4, hq => simp [gTy] at hq
  exact ⟨⟨hK, hts _ t_ao, hts _ t_as, va_Nw.of rfl (hts _ t_n9), va_Nw.of rfl (hts _ t_n18), va_Nw.of rfl (hts _ t_n25), va_Nw.of rfl (hts _ t_n32), va_Nw.of rfl (hts _ t_n43), va_Nw.of rfl (hts _ t_n11)⟩, hK, va_Nw.of rfl (hts _ t_n83)⟩
/-- the cells of both objects -/
def gl9 (G : Gx) (h : Nat) : Nat → va_E := fun o => if o < 269 then gX5 G h o else gX6 G (h + 269) (o - 269)
theorem gl9_a {G : Gx} {h o : Nat} (ho : o < 269) : gl9 G h o = gX5 G h o := if_pos ho
theorem gl9_b {G : Gx} {h o : Nat} : gl9 G h (269 + o) = gX6 G (h + 269) o := by
  unfold gl9
  rw [if_neg (by omega), show 269 + o - 269 = o by omega]
set_option maxHeartbeats 4000000 in
set_option maxRecDepth 100000 in
theorem whole_pre {Nx : Sg → Prop} (N0 : Nx sg0) {p : Program} {e : Env} {s : State} {m : MethodId} {below : List Frame} {meth : Method} {c : Code} (l : Launch) (Ps : ∀ G, wa G → LawP Nx l G) {b L : Nat} {xs : Nat → Int32} (hL : L ≤ 320) (C0 : lw_At p s m meth c b L xs) : W p l e room_1 s m #[Value.ref b] below meth c s.heap [] 0 0 (lw_Z below #[Value.ref b] s) (entryFrame m ([Value.ref b] : List Value).toArray 4) := by
  obtain ⟨hx, hb, hr, hml, hown, hts, hX, hbl, hlocks, hgv⟩ := id C0
  obtain ⟨D, I, cA, hkk⟩ := law_kc hts
  obtain ⟨hkc, hkn⟩ := hkk s.heap.size
  have htw : ∀ w ∈ wsL_law, w.before #[Value.ref b] s = true := fun w hw => hts w (wsL_law_in w hw)
  have hwo : ∀ q, wo (mkG D I cA s.heap.size) q → s.heap.size ≤ q := fun q hq => by
    obtain ⟨k, i, -, e⟩ := hq
    rw [e]
    exact Nat.le_add_right _ _
  have CF : CallFix p m c cL_law 4 s #[Value.ref b] wsL_law RL := ⟨hx, hb, hml, hown, htw⟩
  have C : CB (p, l, e, room_1, s, m, #[Value.ref b], below, meth, c) (mkG D I cA s.heap.size) cL_law 4 RL wsL_law room_1 := ⟨CF, hkc, rfl⟩
  have C2 : CL (p, l, e, room_1, s, m, #[Value.ref b], below, meth, c) (mkG D I cA s.heap.size) b L xs := ⟨CF, hkn, wa_mk, rfl, hX, hbl, fun q => Nat.not_le.mpr hbl (hwo b q)⟩
  have fin : ∀ (i : Nat) (σ : Sg), WL (p, l, e, room_1, s, m, #[Value.ref b], below, meth, c) (mkG D I cA s.heap.size) (lw_Z below #[Value.ref b] s) 287 4814 σ (LL (mkG D I cA s.heap.size) b i) 822 [] := fun i σ ls H locs h1 h2 h3 => by
    refine lv_iconst (v := 1) hx hb dL_law_822 (by decide) ?_
    refine va_forget (fun q hq => hwo _ (h3.2.2 q hq)) ?_
    refine W.widen (k := 600000) (n := 7302250) (by decide) (by decide) ?_
    exact lw_ret hx hb hr hlocks dL_law_823
  have lp := law_loop (cn := 287) (sn := 4814) C2 hL (by decide) (by decide) (Ps _ wa_mk) fin (L + 1) 0 sg0 (by decide) (by omega) N0
  have start : WC (p, l, e, room_1, s, m, #[Value.ref b], below, meth, c) (mkG D I cA s.heap.size) s.heap.size 4 (lw_Z below #[Value.ref b] s) 0 (gl9 (mkG D I cA s.heap.size) s.heap.size) 0 0 [(0, .ref b)] 0 [] := by
    refine wc_makeP (ci := 5) (d := 3) (mc := 268) (ms := 3597) (n := 269) (fs := [.null, .null, .null, .null, .null, .int 0]) C (c_X5_init _ _ _) rfl inlX5 tyX5_ok wl_clX5 wl_iaX5 wl_izX5 dvX5 (Nat.le_of_ble_eq_true rfl) (Nat.le_of_ble_eq_true rfl) dL_law_0 dL_law_3 dL_law_4 gL_law_X5_init rfl wl_mlX5 wl_iyX5 rfl (by decide +kernel) wl_imX5 ⟨by decide, by decide⟩ (Nat.le_of_ble_eq_true rfl) (fun o ho => by rw [Nat.zero_add]; exact gl9_a ho) ?_
    refine wc_astore_n (L' := [(1, .ref (s.heap.size + 0)), (0, .ref b)]) C dL_law_7 rfl (by decide) rfl ?_
    refine wc_makeP (ci := 6) (d := 1) (mc := 17) (ms := 1187) (n := 18) (fs := [.int 0, .null, .null, .int 0, .null, .null, .null, .int 0, .int 0, .null, .null, .null, .null, .int 0, .null, .null, .null, .null, .int 0, .null, .null, .null, .null, .int 0]) C (c_X6_init _ _ _) rfl inlX6 tyX6_ok wl_clX6 wl_iaX6 wl_izX6 dvX6 (Nat.le_of_ble_eq_true rfl) (Nat.le_of_ble_eq_true rfl) dL_law_8 dL_law_11 dL_law_12 gL_law_X6_init rfl wl_mlX6 wl_iyX6 rfl (by decide +kernel) wl_imX6 ⟨by decide, by decide⟩ (Nat.le_of_ble_eq_true rfl) (fun o ho => by rw [Nat.zero_add]; exact gl9_b) ?_
    refine wc_astore_n (L' := [(2, .ref (s.heap.size + (0 + 269))), (1, .ref (s.heap.size + 0)), (0, .ref b)]) C dL_law_15 rfl (by decide) rfl ?_
    refine wc_iconst (v := nI 0) C dL_law_16 (by decide) ?_
    refine wc_istore_n (L' := [(3, .int (nI 0)), (2, .ref (s.heap.size + (0 + 269))), (1, .ref (s.heap.size + 0)), (0, .ref b)]) C dL_law_17 rfl (by decide) rfl ?_
    intro ls H locs h1 h2 h3 h4
    refine va_forget (fun q hq => h4.2.2 q hq) ?_
    refine lp ls H [] h1 (wd_0all (fun o ho => ?_) (fun o ho => ?_)) ⟨h4.1, fun q q1 _ => h4.2.1 q q1 (fun z => Nat.not_le.mpr q1 z), fun q hq => by cases hq⟩
    · have := h3 o (by omega)
      rw [gl9_a ho] at this
      exact this
    · have := h3 (269 + o) (by omega)
      rw [gl9_b, ← Nat.add_assoc] at this
      exact this
  have hl := lv_entry ([.ref b]) (n := 4) (Nat.le_of_ble_eq_true rfl)
  rw [lg_entry_eq]
  exact start _ s.heap [] hl rfl (fun o ho => absurd ho (Nat.not_lt_zero _)) va_S.rf
