theorem in_X2_cut_X3 : ∀ w ∈ wsX30, w ∈ wsX2_cut := by decide +kernel
theorem lk_X2_cut_25 : Cond.fieldLink RX2 25 "PolyCuts$Shape" "corners" "LPolyCuts$Corners;" ∈ wsX2_cut := by decide +kernel
theorem in_X2_cut_X1 : ∀ w ∈ wsX10, w ∈ wsX2_cut := by decide +kernel
theorem lk_X2_cut_31 : Cond.fieldLink RX2 31 "PolyCuts$Corners" "size" "I" ∈ wsX2_cut := by decide +kernel
theorem in_X2_cut_X2 : ∀ w ∈ wsX20, w ∈ wsX2_cut := by decide +kernel
theorem lk_X2_cut_11 : Cond.fieldLink RX2 11 "PolyCuts$Cutter" "ways" "[[I" ∈ wsX2_cut := by decide +kernel
theorem lk_X2_cut_41 : Cond.fieldLink RX2 41 "PolyCuts$Shape" "triangulationCount" "I" ∈ wsX2_cut := by decide +kernel
theorem lk_X2_cut_16 : Cond.fieldLink RX2 16 "PolyCuts$Cutter" "sum" "[[I" ∈ wsX2_cut := by decide +kernel
theorem lk_X2_cut_44 : Cond.fieldLink RX2 44 "PolyCuts$Shape" "leastSum" "I" ∈ wsX2_cut := by decide +kernel
theorem in_X5_polygon_X5 : ∀ w ∈ wsX50, w ∈ wsX5_polygon := by decide +kernel
theorem lk_X5_polygon_44 : Cond.fieldLink RX5 44 "PolyCuts" "shapeCount" "I" ∈ wsX5_polygon := by decide +kernel
theorem lk_X5_polygon_19 : Cond.fieldLink RX5 19 "PolyCuts" "check" "LPolyCuts$Check;" ∈ wsX5_polygon := by decide +kernel
theorem lk_X5_polygon_10 : Cond.fieldLink RX5 10 "PolyCuts" "row" "LPolyCuts$Corners;" ∈ wsX5_polygon := by decide +kernel
theorem in_X5_polygon_X0 : ∀ w ∈ wsX00, w ∈ wsX5_polygon := by decide +kernel
theorem lk_X5_polygon_67 : Cond.fieldLink RX5 67 "PolyCuts$Check" "kind" "I" ∈ wsX5_polygon := by decide +kernel
theorem lk_X5_polygon_39 : Cond.fieldLink RX5 39 "PolyCuts" "shapes" "[LPolyCuts$Shape;" ∈ wsX5_polygon := by decide +kernel
theorem lk_X5_polygon_26 : Cond.fieldLink RX5 26 "PolyCuts" "cutter" "LPolyCuts$Cutter;" ∈ wsX5_polygon := by decide +kernel
theorem spS_t {w s : Nat → Nat → Int32} {i j : Nat} : ∀ d, ∃ k, i < k ∧ (k ≤ i + 1 ∨ k ≤ i + d) ∧ (spS w s i j d).2.2 = nI k
  | 0 => ⟨i + 1, by omega, Or.inl (by omega), rfl⟩
  | d + 1 => by
    obtain ⟨k, h1, h2, h3⟩ := spS_t (w := w) (s := s) (i := i) (j := j) d
    simp only [spS]
    split
    · exact ⟨i + 1 + d, by omega, Or.inr (by omega), rfl⟩
    · exact ⟨k, h1, by omega, h3⟩
theorem spF_t {w s : Nat → Nat → Int32} {sg sq : Int32} {i j : Nat} (hij : i + 2 ≤ j) : ∃ k, i < k ∧ k < j ∧ (spF w s sg sq i j).2.2 = nI k := by
  obtain ⟨k, h1, h2, h3⟩ := spS_t (w := w) (s := s) (i := i) (j := j) (j - i - 1)
  unfold spF
  split
  · exact ⟨i + 1, by omega, by omega, rfl⟩
  · split
    · exact ⟨k, h1, by omega, h3⟩
    · exact ⟨k, h1, by omega, h3⟩
/-- the third corners -/
def thT (ω : Sg) : Nat → Nat → Nat := fun i j => (ω 11 i j).toNatClampNeg
theorem wsa_T {σ ω : Sg} {p n : Nat} (hn : n ≤ 14) (h : WSA σ ω p n) : okT (thT ω) n ∧ ∀ i j, i + 2 ≤ j → j < n → ω 11 i j = nI (thT ω i j) := by
  have key : ∀ i j, i + 2 ≤ j → j < n → ∃ k, i < k ∧ k < j ∧ ω 11 i j = nI k := fun i j hij hj => by
    obtain ⟨k, h1, h2, h3⟩ := spF_t (w := ω 9) (s := ω 10) (sg := σ 19 (14 * p + i) j) (sq := sq9 (σ 15 (p + 1)) (σ 16 (p + 1)) i j) hij
    refine ⟨k, h1, h2, ?_⟩
    rw [← h.2.2 i j hij hj] at h3
    exact h3
  refine ⟨fun i j hij hj => ?_, fun i j hij hj => ?_⟩
  · obtain ⟨k, h1, h2, h3⟩ := key i j hij hj
    rw [thT, h3, nI_clamp (by omega)]
    exact ⟨h1, h2⟩
  · obtain ⟨k, h1, h2, h3⟩ := key i j hij hj
    rw [thT, h3, nI_clamp (by omega)]
/-- the joined pairs of the class, and the list of its diagonals -/
def jnC (S : Nat → Nat → Int32) (T : Nat → Nat → Nat) (n : Nat) : Nat → Nat → Int32 := J2 S (lI (trl T n 0 (n - 1))) (lJ (trl T n 0 (n - 1))) (n - 2)
def dgC (S : Nat → Nat → Int32) (T : Nat → Nat → Nat) (n : Nat) : List (Nat × Nat) := dl (fun a b => decide (jnC S T n a b = 1) && decide (S a b = 1)) n
def CUk (σ τ : Sg) (p : Nat) : Prop := (∀ k, k < 9 ∨ (12 < k ∧ k < 20 ∧ k ≠ 17) ∨ 25 < k → τ k = σ k) ∧ (∀ k a, 12 < k → a ≠ p → τ k a = σ k a) ∧ ∀ f, f ≠ 3 → f ≠ 4 → f ≠ 5 → τ 17 p f = σ 17 p f
def CUe (σ τ : Sg) (p n : Nat) : Prop := ∃ ω J, WSA σ ω p n ∧ CUk σ τ p ∧ τ 17 p 3 = ω 9 0 (n - 1) ∧ τ 17 p 4 = ω 10 0 (n - 1) ∧ (∀ t q, (trl (thT ω) n 0 (n - 1))[t]? = some q → tri9 τ p t q) ∧ okl τ p ((dgC (fun a b => σ 19 (14 * p + a) b) (thT ω) n).take (n - 3)) ∧ (∀ a b, a < n → b < n → J a b = jnC (fun a b => σ 19 (14 * p + a) b) (thT ω) n a b) ∧ (∀ d, d < n - 3 → τ 25 p d = bI (stay n (σ 15 (p + 1)) (σ 16 (p + 1)) (σ 17 p 2) (lA (dgC (fun a b => σ 19 (14 * p + a) b) (thT ω) n)) (lB (dgC (fun a b => σ 19 (14 * p + a) b) (thT ω) n)) J d)) ∧ τ 17 p 5 = nI (1 + cntN (stay n (σ 15 (p + 1)) (σ 16 (p + 1)) (σ 17 p 2) (lA (dgC (fun a b => σ 19 (14 * p + a) b) (thT ω) n)) (lB (dgC (fun a b => σ 19 (14 * p + a) b) (thT ω) n)) J) (n - 3))
theorem dgC_lt {S : Nat → Nat → Int32} {T : Nat → Nat → Nat} {n d : Nat} (h : d < (dgC S T n).length) : lA (dgC S T n) d < lB (dgC S T n) d ∧ lB (dgC S T n) d < n := by
  have hm := List.mem_of_getElem? (lA_at h)
  have h2 := mem_dl.mp hm
  exact ⟨h2.1, h2.2.1⟩
set_option maxHeartbeats 4000000 in
set_option maxRecDepth 100000 in
theorem c_X2_cut (l : Launch) (G : Gx) (hA : wa G) (σ : Sg) (p n : Nat) (hp : p < 8) (hs : σ 14 (p + 1) 2 = nI n) (hn : n ≤ 14) (h3 : 3 ≤ n) (hdl : ∀ ω, WSA σ ω p n → n - 3 ≤ (dgC (fun a b => σ 19 (14 * p + a) b) (thT ω) n).length) : CtV l yX2_cut wsX2_cut (rmd 5) G [.ref (gA G 4 (0)), .ref (gA G 17 (p))] σ (fun σ2 => CUe σ σ2 p n) := by
  refine ct_v (maxL := 3) (ret := none) (by decide) rfl (Nat.le_of_ble_eq_true rfl) hA (fun K hl C => ?_)
  subst hl
  change WW K G _ _ σ [(0, .ref (gA G 4 (0))), (1, .ref (gA G 17 (p)))] 0 []
  refine ww_aload_n C dX2_cut_0 rfl 1 rfl ?_
  refine ww_gr (j := p + 1) (k := 17) (f := 0) C rfl rfl hp rfl in_X2_cut_X3 (by decide) lk_X2_cut_25 dX2_cut_1 rfl ?_
  refine ww_gi (k := 14) (f := 2) C rfl rfl (Nat.add_lt_add_right hp 1) rfl in_X2_cut_X1 (by decide) lk_X2_cut_31 dX2_cut_4 ?_
  refine ww_iconst (v := 1) C dX2_cut_7 rfl ?_
  refine ww_isub C dX2_cut_8 ?_
  rw [show (σ 14 (p + 1) 2) - (1) = nI (n - 1) from (by rw [hs]; exact pk_sub (a := n) (b := 1) (by omega))]
  refine ww_istore_n (fun y1 => [(2, .int (y1)), (0, .ref (gA G 4 (0))), (1, .ref (gA G 17 (p)))]) C dX2_cut_9 rfl (by decide) (fun _ => rfl) (fun y1 ey1 => ?_)
  obtain rfl : y1 = nI (n - 1) := ey1
  refine ww_aload_n C dX2_cut_10 rfl 1 rfl ?_
  refine ww_aload_n C dX2_cut_11 rfl 2 rfl ?_
  refine ww_callv (cx_V (n := 1) (As := [.ref (gA G 17 (p))]) C  (c_X2_weighSpans (kL K) G hA _ p n hp hs hn) gX2_cut_X2_weighSpans rfl ⟨rfl, rfl⟩ (by decide +kernel) (by decide) rfl (by decide) rfl rfl rfl (Nat.le_of_ble_eq_true rfl) dX2_cut_12) ?_
  intro σ3 h4
  obtain ⟨hT, hTm⟩ := wsa_T hn h4
  refine ww_aload_n C dX2_cut_15 rfl 2 rfl ?_
  refine ww_aload_n C dX2_cut_16 rfl 1 rfl ?_
  refine ww_gr (j := 0) (k := 4) (f := 0) C rfl rfl (by decide) rfl in_X2_cut_X2 (by decide) lk_X2_cut_11 dX2_cut_17 rfl ?_
  refine ww_iconst (v := 0) C dX2_cut_20 rfl ?_
  refine ww_aald (k := 5) (j := 0) (j' := 0) C rfl (by decide) (by decide) (by decide) dX2_cut_21 (by decide) (by decide) rfl ?_
  refine ww_iload_n C dX2_cut_22 rfl 0 rfl ?_
  refine ww_iald (k := 9) (j := n - 1) C rfl (show 0 < 14 from (by decide)) (by decide) dX2_cut_23 rfl (by omega) ?_
  refine ww_pi (k := 17) (f := 3) C rfl rfl hp rfl in_X2_cut_X3 tyX3_ok nmX3 (by decide) lk_X2_cut_41 rfl rfl dX2_cut_24 ?_
  obtain ⟨σ5, hσ5⟩ : ∃ z : Sg, z = (sgu σ3 17 (p) 3 (σ3 9 (0) (n - 1))) := ⟨_, rfl⟩
  rw [← hσ5]
  refine ww_aload_n C dX2_cut_27 rfl 2 rfl ?_
  refine ww_aload_n C dX2_cut_28 rfl 1 rfl ?_
  refine ww_gr (j := 0) (k := 4) (f := 1) C rfl rfl (by decide) rfl in_X2_cut_X2 (by decide) lk_X2_cut_16 dX2_cut_29 rfl ?_
  refine ww_iconst (v := 0) C dX2_cut_32 rfl ?_
  refine ww_aald (k := 6) (j := 0) (j' := 0) C rfl (by decide) (by decide) (by decide) dX2_cut_33 (by decide) (by decide) rfl ?_
  refine ww_iload_n C dX2_cut_34 rfl 0 rfl ?_
  refine ww_iald (k := 10) (j := n - 1) C rfl (show 0 < 14 from (by decide)) (by decide) dX2_cut_35 rfl (by omega) ?_
  refine ww_pi (k := 17) (f := 4) C rfl rfl hp rfl in_X2_cut_X3 tyX3_ok nmX3 (by decide) lk_X2_cut_44 rfl rfl dX2_cut_36 ?_
  obtain ⟨σ6, hσ6⟩ : ∃ z : Sg, z = (sgu σ5 17 (p) 4 (σ5 10 (0) (n - 1))) := ⟨_, rfl⟩
  rw [← hσ6]
  refine ww_aload_n C dX2_cut_39 rfl 1 rfl ?_
  refine ww_aload_n C dX2_cut_40 rfl 2 rfl ?_
  have hs1 : σ6 14 (p + 1) 2 = nI n := by rw [hσ6, sgu_kk (by decide), hσ5, sgu_kk (by decide), h4.1 14 (by decide)]; exact hs
  have hm1 : ∀ i j, i + 2 ≤ j → j < n → σ6 11 i j = nI (thT σ3 i j) := fun i j h1 h2 => by rw [hσ6, sgu_kk (by decide), hσ5, sgu_kk (by decide)]; exact hTm i j h1 h2
  refine ww_callv (cx_V (n := 1) (As := [.ref (gA G 17 (p))]) C  (c_X2_nameTriangles (kL K) G hA _ p n hp hs1 hn h3 (thT σ3) hT hm1) gX2_cut_X2_nameTriangles rfl ⟨rfl, rfl⟩ (by decide +kernel) (by decide) rfl (by decide) rfl rfl rfl (Nat.le_of_ble_eq_true rfl) dX2_cut_41) ?_
  intro σ8 h9
  refine ww_aload_n C dX2_cut_44 rfl 1 rfl ?_
  refine ww_aload_n C dX2_cut_45 rfl 2 rfl ?_
  have hs2 : σ8 14 (p + 1) 2 = nI n := by rw [h9.1 14 (by decide)]; exact hs1
  have hlen := trl_len hT n 0 (n - 1) (by omega) (by omega)
  have hAB : ∀ e, e < n - 2 → σ8 20 p e = nI (lI (trl (thT σ3) n 0 (n - 1)) e) ∧ σ8 22 p e = nI (lJ (trl (thT σ3) n 0 (n - 1)) e) ∧ lI (trl (thT σ3) n 0 (n - 1)) e < n ∧ lJ (trl (thT σ3) n 0 (n - 1)) e < n := fun e he => by
    have hq := l_at (l := (trl (thT σ3) n 0 (n - 1))) (t := e) (by omega)
    obtain ⟨r1, r2, r3⟩ := h9.2.2 e _ hq
    obtain ⟨-, a2, a3, a4, -, -⟩ := trl_in hT n 0 (n - 1) (by omega) (by omega) _ (List.mem_of_getElem? hq)
    have a2 : lI (trl (thT σ3) n 0 (n - 1)) e < lK (trl (thT σ3) n 0 (n - 1)) e := a2
    have a3 : lK (trl (thT σ3) n 0 (n - 1)) e < lJ (trl (thT σ3) n 0 (n - 1)) e := a3
    have a4 : lJ (trl (thT σ3) n 0 (n - 1)) e ≤ n - 1 := a4
    exact ⟨r1, r3, by omega, by omega⟩
  have e19 : σ8 19 = σ 19 := by rw [h9.1 19 (by decide), hσ6, sgu_kk (by decide), hσ5, sgu_kk (by decide), h4.1 19 (by decide)]
  refine ww_callv (cx_V (n := 1) (As := [.ref (gA G 17 (p))]) C  (c_X2_nameDiagonals (kL K) G hA _ p n hp hs2 hn h3 (lI (trl (thT σ3) n 0 (n - 1))) (lJ (trl (thT σ3) n 0 (n - 1))) hAB) gX2_cut_X2_nameDiagonals rfl ⟨rfl, rfl⟩ (by decide +kernel) (by decide) rfl (by decide) rfl rfl rfl (Nat.le_of_ble_eq_true rfl) dX2_cut_46) ?_
  intro σ11 h12
  refine ww_aload_n C dX2_cut_49 rfl 1 rfl ?_
  refine ww_aload_n C dX2_cut_50 rfl 2 rfl ?_
  have hs3 : σ11 14 (p + 1) 2 = nI n := by rw [h12.1 14 (by decide)]; exact hs2
  have hd9 := hdl _ h4
  have hok : okl σ11 p ((dgC (fun a b => σ 19 (14 * p + a) b) (thT σ3) n).take (n - 3)) := by
    have q := h12.2.2.2
    rw [e19] at q
    exact q
  have hj9 : ∀ a b, a < n → b < n → σ11 12 a b = jnC (fun a b => σ 19 (14 * p + a) b) (thT σ3) n a b := by
    have q := h12.2.2.1
    rw [e19] at q
    exact q
  have hAB2 : ∀ e, e < n - 3 → σ11 23 p e = nI (lA (dgC (fun a b => σ 19 (14 * p + a) b) (thT σ3) n) e) ∧ σ11 24 p e = nI (lB (dgC (fun a b => σ 19 (14 * p + a) b) (thT σ3) n) e) ∧ lA (dgC (fun a b => σ 19 (14 * p + a) b) (thT σ3) n) e < n ∧ lB (dgC (fun a b => σ 19 (14 * p + a) b) (thT σ3) n) e < n := fun e he => by
    have q1 := hok e _ (by rw [List.getElem?_take_of_lt he]; exact lA_at (by omega))
    have q2 := dgC_lt (d := e) (show e < (dgC (fun a b => σ 19 (14 * p + a) b) (thT σ3) n).length by omega)
    exact ⟨q1.1, q1.2, by omega, by omega⟩
  refine ww_callv (cx_V (n := 1) (As := [.ref (gA G 17 (p))]) C  (c_X2_merge (kL K) G hA _ p n hp hs3 hn h3 (lA (dgC (fun a b => σ 19 (14 * p + a) b) (thT σ3) n)) (lB (dgC (fun a b => σ 19 (14 * p + a) b) (thT σ3) n)) hAB2) gX2_cut_X2_merge rfl ⟨rfl, rfl⟩ (by decide +kernel) (by decide) rfl (by decide) rfl rfl rfl (Nat.le_of_ble_eq_true rfl) dX2_cut_51) ?_
  intro σ14 h15
  refine ww_vret C dX2_cut_54 ?_
  have g15 : σ11 15 = σ 15 := by rw [h12.1 15 (by decide), h9.1 15 (by decide), hσ6, sgu_kk (by decide), hσ5, sgu_kk (by decide), h4.1 15 (by decide)]
  have g16 : σ11 16 = σ 16 := by rw [h12.1 16 (by decide), h9.1 16 (by decide), hσ6, sgu_kk (by decide), hσ5, sgu_kk (by decide), h4.1 16 (by decide)]
  have g17 : ∀ f, f ≠ 3 → f ≠ 4 → σ11 17 p f = σ 17 p f := fun f f3 f4 => by rw [h12.1 17 (by decide), h9.1 17 (by decide), hσ6, sgu_f f4, hσ5, sgu_f f3, h4.1 17 (by decide)]
  have q4 := h15.2.2.2.2.1
  have q5 := h15.2.2.2.2.2
  rw [g15, g16, g17 2 (by decide) (by decide)] at q4 q5
  refine ⟨σ3, σ11 12, h4, ⟨fun k hk => ?_, fun k a hk ha => ?_, fun f f3 f4 f5 => ?_⟩, ?_, ?_, fun e q hq => ?_, fun e q hq => ?_, hj9, q4, q5⟩
  · rw [h15.1 k (by omega), h12.1 k (by omega), h9.1 k (by omega), hσ6, sgu_kk (by omega), hσ5, sgu_kk (by omega), h4.1 k (by omega)]
  · have z1 : σ14 k a = σ11 k a := by
      by_cases z : k = 25 ∨ k = 17
      · rcases z with rfl | rfl
        · exact (h15.2.1 a ha).1
        · exact (h15.2.1 a ha).2
      · rw [h15.1 k (by omega)]
    rw [z1, h12.2.1 k a (by omega) ha, h9.2.1 k a ha]
    have z2 : σ6 k a = σ3 k a := by
      funext f
      rw [hσ6, sgu_i ha, hσ5, sgu_i ha]
    rw [z2, h4.1 k (by omega)]
  · rw [h15.2.2.1 f f5, g17 f f3 f4]
  · rw [h15.2.2.1 3 (by decide), h12.1 17 (by decide), h9.1 17 (by decide), hσ6, sgu_f (by decide), hσ5, sgu_self]
  · rw [h15.2.2.1 4 (by decide), h12.1 17 (by decide), h9.1 17 (by decide), hσ6, sgu_self, hσ5, sgu_k (by decide)]
  · have z := h9.2.2 e q hq
    unfold tri9 at z ⊢
    rw [h15.1 20 (by decide), h12.1 20 (by decide), h15.1 21 (by decide), h12.1 21 (by decide), h15.1 22 (by decide), h12.1 22 (by decide)]
    exact z
  · have z := hok e q hq
    rw [h15.1 23 (by decide), h15.1 24 (by decide)]
    exact z
set_option maxHeartbeats 4000000 in
set_option maxRecDepth 100000 in
theorem c_X5_polygon_f (l : Launch) (G : Gx) (hA : wa G) (σ : Sg) (hc : σ 0 0 5 = nI 8) : CtI l yX5_polygon wsX5_polygon (rmd 7) G [.ref (gA G 0 (0))] σ (fun r σ2 => r = -4 ∧ σ2 = σ) := by
  refine ct_i (maxL := 2) (ret := (some .int)) (by decide) rfl (Nat.le_of_ble_eq_true rfl) hA (fun K hl C => ?_)
  subst hl
  change WW K G _ _ σ [(0, .ref (gA G 0 (0)))] 0 []
  refine ww_aload_n C dX5_polygon_0 rfl 0 rfl ?_
  refine ww_gi (k := 0) (f := 5) C rfl rfl (by decide) rfl in_X5_polygon_X5 (by decide) lk_X5_polygon_44 dX5_polygon_1 ?_
  refine ww_bipush (v := 8) C dX5_polygon_4 (by decide) ?_
  refine ww_icmp_lt 12 C dX5_polygon_6 (by decide) (fun h6 => ?_) (fun h6 => ?_)
  · have g6 : 8 < 8 := (cv_lt (a := 8) (b := 8) hc (by decide) (by omega) (by omega)).mp h6
    exact absurd g6 (by decide)
  · have g6 : ¬ 8 < 8 := fun q => h6 ((cv_lt (a := 8) (b := 8) hc (by decide) (by omega) (by omega)).mpr q)
    refine ww_bipush (v := -4) C dX5_polygon_9 (by decide) ?_
    refine ww_iret C dX5_polygon_11 ?_
    exact ⟨rfl, rfl⟩
set_option maxHeartbeats 4000000 in
set_option maxRecDepth 100000 in
theorem c_X5_polygon_b (l : Launch) (G : Gx) (hA : wa G) (σ : Sg) (p n : Nat) (hc : σ 0 0 5 = nI p) (hp : p < 8) (hs : σ 14 0 2 = nI n) (hn : n ≤ 14) (hk : ¬ examF σ 0 n 1 0 0 = 0) : CtI l yX5_polygon wsX5_polygon (rmd 7) G [.ref (gA G 0 (0))] σ (fun r σ2 => r = -10 - examF σ 0 n 1 0 0 ∧ σ2 = sgu (examF σ 0 n) 14 0 2 0) := by
  refine ct_i (maxL := 2) (ret := (some .int)) (by decide) rfl (Nat.le_of_ble_eq_true rfl) hA (fun K hl C => ?_)
  subst hl
  change WW K G _ _ σ [(0, .ref (gA G 0 (0)))] 0 []
  refine ww_aload_n C dX5_polygon_0 rfl 0 rfl ?_
  refine ww_gi (k := 0) (f := 5) C rfl rfl (by decide) rfl in_X5_polygon_X5 (by decide) lk_X5_polygon_44 dX5_polygon_1 ?_
  refine ww_bipush (v := 8) C dX5_polygon_4 (by decide) ?_
  refine ww_icmp_lt 12 C dX5_polygon_6 (by decide) (fun h6 => ?_) (fun h6 => ?_)
  · have g6 : p < 8 := (cv_lt (a := p) (b := 8) hc (by decide) (by omega) (by omega)).mp h6
    refine ww_aload_n C dX5_polygon_12 rfl 0 rfl ?_
    refine ww_gr (j := 0) (k := 0) (f := 1) C rfl rfl (by decide) rfl in_X5_polygon_X5 (by decide) lk_X5_polygon_19 dX5_polygon_13 rfl ?_
    refine ww_aload_n C dX5_polygon_16 rfl 0 rfl ?_
    refine ww_gr (j := 0) (k := 0) (f := 0) C rfl rfl (by decide) rfl in_X5_polygon_X5 (by decide) lk_X5_polygon_10 dX5_polygon_17 rfl ?_
    refine ww_callvF (cx_V (n := 1) (As := [.ref (gA G 14 (0))]) C  (c_X0_examine (kL K) G hA _ 0 n (by decide) hs hn) gX5_polygon_X0_examine rfl ⟨rfl, rfl⟩ (by decide +kernel) (by decide) rfl (by decide) rfl rfl rfl (Nat.le_of_ble_eq_true rfl) dX5_polygon_20) ?_
    obtain ⟨τ1, hτ1⟩ : ∃ z : Sg, z = (examF σ 0 n) := ⟨_, rfl⟩
    rw [← hτ1]
    refine ww_aload_n C dX5_polygon_23 rfl 0 rfl ?_
    refine ww_gr (j := 0) (k := 0) (f := 1) C rfl rfl (by decide) rfl in_X5_polygon_X5 (by decide) lk_X5_polygon_19 dX5_polygon_24 rfl ?_
    refine ww_gi (k := 1) (f := 0) C rfl rfl (by decide) rfl in_X5_polygon_X0 (by decide) lk_X5_polygon_67 dX5_polygon_27 ?_
    refine ww_if_ne 73 C dX5_polygon_30 (by decide) (fun h30 => ?_) (fun h30 => ?_)
    · refine ww_aload_n C dX5_polygon_73 rfl 0 rfl ?_
      refine ww_gr (j := 0) (k := 0) (f := 0) C rfl rfl (by decide) rfl in_X5_polygon_X5 (by decide) lk_X5_polygon_10 dX5_polygon_74 rfl ?_
      refine ww_callvF (cx_V (n := 0) (As := []) C  (c_X1_clear (kL K) G hA _ 0 (by decide)) gX5_polygon_X1_clear rfl ⟨rfl, rfl⟩ (by decide +kernel) (by decide) rfl (by decide) rfl rfl rfl (Nat.le_of_ble_eq_true rfl) dX5_polygon_77) ?_
      obtain ⟨τ4, hτ4⟩ : ∃ z : Sg, z = (sgu τ1 14 0 2 0) := ⟨_, rfl⟩
      rw [← hτ4]
      refine ww_aload_n C dX5_polygon_80 rfl 0 rfl ?_
      refine ww_gr (j := 0) (k := 0) (f := 1) C rfl rfl (by decide) rfl in_X5_polygon_X5 (by decide) lk_X5_polygon_19 dX5_polygon_81 rfl ?_
      refine ww_gi (k := 1) (f := 0) C rfl rfl (by decide) rfl in_X5_polygon_X0 (by decide) lk_X5_polygon_67 dX5_polygon_84 ?_
      refine ww_if_ne 99 C dX5_polygon_87 (by decide) (fun h87 => ?_) (fun h87 => ?_)
      · refine ww_bipush (v := -10) C dX5_polygon_99 (by decide) ?_
        refine ww_aload_n C dX5_polygon_101 rfl 0 rfl ?_
        refine ww_gr (j := 0) (k := 0) (f := 1) C rfl rfl (by decide) rfl in_X5_polygon_X5 (by decide) lk_X5_polygon_19 dX5_polygon_102 rfl ?_
        refine ww_gi (k := 1) (f := 0) C rfl rfl (by decide) rfl in_X5_polygon_X0 (by decide) lk_X5_polygon_67 dX5_polygon_105 ?_
        refine ww_isub C dX5_polygon_108 ?_
        refine ww_iret C dX5_polygon_109 ?_
        have hk4 : τ4 1 0 0 = examF σ 0 n 1 0 0 := by rw [hτ4, sgu_k (by decide), hτ1]
        exact ⟨by rw [hk4, hτ1], by rw [hτ4, hτ1]⟩
      · have hk4 : τ4 1 0 0 = examF σ 0 n 1 0 0 := by rw [hτ4, sgu_k (by decide), hτ1]
        rw [hk4] at h87
        exact absurd h87 hk
    · rw [hτ1] at h30
      exact absurd h30 hk
  · have g6 : ¬ p < 8 := fun q => h6 ((cv_lt (a := p) (b := 8) hc (by decide) (by omega) (by omega)).mpr q)
    exact absurd g6 (by omega)
set_option maxHeartbeats 4000000 in
set_option maxRecDepth 100000 in
theorem c_X5_polygon_0 (l : Launch) (G : Gx) (hA : wa G) (σ : Sg) (p n : Nat) (hc : σ 0 0 5 = nI p) (hp : p < 8) (hs : σ 14 0 2 = nI n) (hn : n ≤ 14) (hn3 : 3 ≤ n) (hk : examF σ 0 n 1 0 0 = 0) (hdl : ∀ σl, LKo (sgu (becF (examF σ 0 n) p 0 n) 17 p 2 (sumN (crs9 n (becF (examF σ 0 n) p 0 n 15 (p + 1)) (becF (examF σ 0 n) p 0 n 16 (p + 1))) n)) σl p n ((sgu (becF (examF σ 0 n) p 0 n) 17 p 2 (sumN (crs9 n (becF (examF σ 0 n) p 0 n 15 (p + 1)) (becF (examF σ 0 n) p 0 n 16 (p + 1))) n)) 15 (p + 1)) ((sgu (becF (examF σ 0 n) p 0 n) 17 p 2 (sumN (crs9 n (becF (examF σ 0 n) p 0 n 15 (p + 1)) (becF (examF σ 0 n) p 0 n 16 (p + 1))) n)) 16 (p + 1)) n → ∀ ω, WSA σl ω p n → n - 3 ≤ (dgC (fun a b => σl 19 (14 * p + a) b) (thT ω) n).length) : CtI l yX5_polygon wsX5_polygon (rmd 7) G [.ref (gA G 0 (0))] σ (fun r σ2 => ∃ σl σc, LKo (sgu (becF (examF σ 0 n) p 0 n) 17 p 2 (sumN (crs9 n (becF (examF σ 0 n) p 0 n 15 (p + 1)) (becF (examF σ 0 n) p 0 n 16 (p + 1))) n)) σl p n ((sgu (becF (examF σ 0 n) p 0 n) 17 p 2 (sumN (crs9 n (becF (examF σ 0 n) p 0 n 15 (p + 1)) (becF (examF σ 0 n) p 0 n 16 (p + 1))) n)) 15 (p + 1)) ((sgu (becF (examF σ 0 n) p 0 n) 17 p 2 (sumN (crs9 n (becF (examF σ 0 n) p 0 n 15 (p + 1)) (becF (examF σ 0 n) p 0 n 16 (p + 1))) n)) 16 (p + 1)) n ∧ CUe σl σc p n ∧ r = nI p ∧ σ2 = sgu (sgu σc 0 0 5 (nI (p + 1))) 14 0 2 0) := by
  refine ct_i (maxL := 2) (ret := (some .int)) (by decide) rfl (Nat.le_of_ble_eq_true rfl) hA (fun K hl C => ?_)
  subst hl
  change WW K G _ _ σ [(0, .ref (gA G 0 (0)))] 0 []
  refine ww_aload_n C dX5_polygon_0 rfl 0 rfl ?_
  refine ww_gi (k := 0) (f := 5) C rfl rfl (by decide) rfl in_X5_polygon_X5 (by decide) lk_X5_polygon_44 dX5_polygon_1 ?_
  refine ww_bipush (v := 8) C dX5_polygon_4 (by decide) ?_
  refine ww_icmp_lt 12 C dX5_polygon_6 (by decide) (fun h6 => ?_) (fun h6 => ?_)
  · have g6 : p < 8 := (cv_lt (a := p) (b := 8) hc (by decide) (by omega) (by omega)).mp h6
    refine ww_aload_n C dX5_polygon_12 rfl 0 rfl ?_
    refine ww_gr (j := 0) (k := 0) (f := 1) C rfl rfl (by decide) rfl in_X5_polygon_X5 (by decide) lk_X5_polygon_19 dX5_polygon_13 rfl ?_
    refine ww_aload_n C dX5_polygon_16 rfl 0 rfl ?_
    refine ww_gr (j := 0) (k := 0) (f := 0) C rfl rfl (by decide) rfl in_X5_polygon_X5 (by decide) lk_X5_polygon_10 dX5_polygon_17 rfl ?_
    refine ww_callvF (cx_V (n := 1) (As := [.ref (gA G 14 (0))]) C  (c_X0_examine (kL K) G hA _ 0 n (by decide) hs hn) gX5_polygon_X0_examine rfl ⟨rfl, rfl⟩ (by decide +kernel) (by decide) rfl (by decide) rfl rfl rfl (Nat.le_of_ble_eq_true rfl) dX5_polygon_20) ?_
    obtain ⟨τ1, hτ1⟩ : ∃ z : Sg, z = (examF σ 0 n) := ⟨_, rfl⟩
    rw [← hτ1]
    refine ww_aload_n C dX5_polygon_23 rfl 0 rfl ?_
    refine ww_gr (j := 0) (k := 0) (f := 1) C rfl rfl (by decide) rfl in_X5_polygon_X5 (by decide) lk_X5_polygon_19 dX5_polygon_24 rfl ?_
    refine ww_gi (k := 1) (f := 0) C rfl rfl (by decide) rfl in_X5_polygon_X0 (by decide) lk_X5_polygon_67 dX5_polygon_27 ?_
    refine ww_if_ne 73 C dX5_polygon_30 (by decide) (fun h30 => ?_) (fun h30 => ?_)
    · rw [hτ1] at h30
      exact absurd hk h30
    · refine ww_aload_n C dX5_polygon_33 rfl 0 rfl ?_
      refine ww_gr (j := 0) (k := 0) (f := 4) C rfl rfl (by decide) rfl in_X5_polygon_X5 (by decide) lk_X5_polygon_39 dX5_polygon_34 rfl ?_
      refine ww_aload_n C dX5_polygon_37 rfl 0 rfl ?_
      refine ww_gi (k := 0) (f := 5) C rfl rfl (by decide) rfl in_X5_polygon_X5 (by decide) lk_X5_polygon_44 dX5_polygon_38 ?_
      have hc1 : τ1 0 0 5 = nI p := by rw [hτ1, examF_k (by decide)]; exact hc
      refine ww_aald (k := 13) (j := p) (j' := p) C rfl (by decide) (by decide) (by decide) dX5_polygon_41 hc1 hp rfl ?_
      refine ww_astore_n [(1, .ref (gA G 17 (p))), (0, .ref (gA G 0 (0)))] C dX5_polygon_42 rfl (by decide) rfl ?_
      refine ww_aload_n C dX5_polygon_43 rfl 0 rfl ?_
      refine ww_aload_n C dX5_polygon_44 rfl 1 rfl ?_
      refine ww_gr (j := 0) (k := 0) (f := 0) C rfl rfl (by decide) rfl in_X5_polygon_X5 (by decide) lk_X5_polygon_10 dX5_polygon_45 rfl ?_
      have hs1 : τ1 14 0 2 = nI n := by rw [hτ1, examF_k (by decide)]; exact hs
      refine ww_callvF (cx_V (n := 1) (As := [.ref (gA G 14 (0))]) C  (c_X3_become (kL K) G hA _ p 0 n hp (by decide) hs1 hn) gX5_polygon_X3_become rfl ⟨rfl, rfl⟩ (by decide +kernel) (by decide) rfl (show p < 8 from hp) rfl rfl rfl (Nat.le_of_ble_eq_true rfl) dX5_polygon_48) ?_
      obtain ⟨τ2, hτ2⟩ : ∃ z : Sg, z = (sgu (becF τ1 p 0 n) 17 p 2 (sumN (crs9 n (becF τ1 p 0 n 15 (p + 1)) (becF τ1 p 0 n 16 (p + 1))) n)) := ⟨_, rfl⟩
      rw [← hτ2]
      refine ww_aload_n C dX5_polygon_51 rfl 0 rfl ?_
      have hs2 : τ2 14 (p + 1) 2 = nI n := by rw [hτ2, sgu_kk (by decide), becF, sgc_kk (by decide), sgc_kk (by decide), sgu_self]
      refine ww_callv (cx_V (n := 0) (As := []) C  (c_X3_lookAround (kL K) G hA _ p n hp hs2 hn) gX5_polygon_X3_lookAround rfl ⟨rfl, rfl⟩ (by decide +kernel) (by decide) rfl (show p < 8 from hp) rfl rfl rfl (Nat.le_of_ble_eq_true rfl) dX5_polygon_52) ?_
      intro σ2 h3
      refine ww_aload_n C dX5_polygon_55 rfl 1 rfl ?_
      refine ww_gr (j := 0) (k := 0) (f := 2) C rfl rfl (by decide) rfl in_X5_polygon_X5 (by decide) lk_X5_polygon_26 dX5_polygon_56 rfl ?_
      refine ww_aload_n C dX5_polygon_59 rfl 0 rfl ?_
      have hs3 : σ2 14 (p + 1) 2 = nI n := by rw [h3.1 14 (by decide)]; exact hs2
      have hl9 := h3
      rw [hτ2, hτ1] at hl9
      refine ww_callv (cx_V (n := 1) (As := [.ref (gA G 17 (p))]) C  (c_X2_cut (kL K) G hA _ p n hp hs3 hn hn3 (hdl _ hl9)) gX5_polygon_X2_cut rfl ⟨rfl, rfl⟩ (by decide +kernel) (by decide) rfl (by decide) rfl rfl rfl (Nat.le_of_ble_eq_true rfl) dX5_polygon_60) ?_
      intro σ5 h6
      refine ww_aload_n C dX5_polygon_63 rfl 1 rfl ?_
      refine ww_dup C dX5_polygon_64 rfl ?_
      refine ww_gi (k := 0) (f := 5) C rfl rfl (by decide) rfl in_X5_polygon_X5 (by decide) lk_X5_polygon_44 dX5_polygon_65 ?_
      have hc2 : σ5 0 0 5 = nI p := by
        obtain ⟨_, _, _, hcu, _⟩ := h6
        rw [hcu.1 0 (by omega), h3.1 0 (by decide), hτ2, sgu_kk (by decide), becF, sgc_kk (by decide), sgc_kk (by decide), sgu_kk (by decide)]; exact hc1
      rw [hc2]
      refine ww_iconst (v := 1) C dX5_polygon_68 rfl ?_
      refine ww_iadd C dX5_polygon_69 ?_
      rw [show (nI p) + (1) = nI (p + 1) from nI_add (p) (1)]
      refine ww_pi (k := 0) (f := 5) C rfl rfl (by decide) rfl in_X5_polygon_X5 tyX5_ok nmX5 (by decide) lk_X5_polygon_44 rfl rfl dX5_polygon_70 ?_
      obtain ⟨τ3, hτ3⟩ : ∃ z : Sg, z = (sgu σ5 0 (0) 5 (nI (p + 1))) := ⟨_, rfl⟩
      rw [← hτ3]
      refine ww_aload_n C dX5_polygon_73 rfl 1 rfl ?_
      refine ww_gr (j := 0) (k := 0) (f := 0) C rfl rfl (by decide) rfl in_X5_polygon_X5 (by decide) lk_X5_polygon_10 dX5_polygon_74 rfl ?_
      refine ww_callvF (cx_V (n := 0) (As := []) C  (c_X1_clear (kL K) G hA _ 0 (by decide)) gX5_polygon_X1_clear rfl ⟨rfl, rfl⟩ (by decide +kernel) (by decide) rfl (by decide) rfl rfl rfl (Nat.le_of_ble_eq_true rfl) dX5_polygon_77) ?_
      obtain ⟨τ4, hτ4⟩ : ∃ z : Sg, z = (sgu τ3 14 0 2 0) := ⟨_, rfl⟩
      rw [← hτ4]
      refine ww_aload_n C dX5_polygon_80 rfl 1 rfl ?_
      refine ww_gr (j := 0) (k := 0) (f := 1) C rfl rfl (by decide) rfl in_X5_polygon_X5 (by decide) lk_X5_polygon_19 dX5_polygon_81 rfl ?_
      refine ww_gi (k := 1) (f := 0) C rfl rfl (by decide) rfl in_X5_polygon_X0 (by decide) lk_X5_polygon_67 dX5_polygon_84 ?_
      refine ww_if_ne 99 C dX5_polygon_87 (by decide) (fun h87 => ?_) (fun h87 => ?_)
      · have hk4 : τ4 1 0 0 = examF σ 0 n 1 0 0 := by
          obtain ⟨_, _, _, hcu, _⟩ := h6
          rw [hτ4, sgu_k (by decide), hτ3, sgu_k (by decide), hcu.1 1 (by omega), h3.1 1 (by decide), hτ2, sgu_k (by decide), becF, sgc_kk (by decide), sgc_kk (by decide), sgu_k (by decide), hτ1]
        exact absurd (hk4.trans hk) h87
      · refine ww_aload_n C dX5_polygon_90 rfl 1 rfl ?_
        refine ww_gi (k := 0) (f := 5) C rfl rfl (by decide) rfl in_X5_polygon_X5 (by decide) lk_X5_polygon_44 dX5_polygon_91 ?_
        refine ww_iconst (v := 1) C dX5_polygon_94 rfl ?_
        refine ww_isub C dX5_polygon_95 ?_
        refine ww_goto 109 C dX5_polygon_96 (by decide) ?_
        refine ww_iret C dX5_polygon_109 ?_
        refine ⟨σ2, σ5, h3, h6, ?_, by rw [hτ4, hτ3]⟩
        rw [hτ4, sgu_k (by decide), hτ3, sgu_self]
        exact nI_pred p
  · have g6 : ¬ p < 8 := fun q => h6 ((cv_lt (a := p) (b := 8) hc (by decide) (by omega) (by omega)).mpr q)
    exact absurd g6 (by omega)
