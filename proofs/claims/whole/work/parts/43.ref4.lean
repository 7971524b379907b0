theorem in_X6_xOf_X6 : ∀ w ∈ wsX60, w ∈ wsX6_xOf := by decide +kernel
theorem lk_X6_xOf_19 : Cond.fieldLink RX6 19 "PolyCutsModel" "xs" "[I" ∈ wsX6_xOf := by decide +kernel
theorem lk_X6_xOf_16 : Cond.fieldLink RX6 16 "PolyCutsModel" "corners" "[I" ∈ wsX6_xOf := by decide +kernel
theorem in_X6_yOf_X6 : ∀ w ∈ wsX60, w ∈ wsX6_yOf := by decide +kernel
theorem lk_X6_yOf_22 : Cond.fieldLink RX6 22 "PolyCutsModel" "ys" "[I" ∈ wsX6_yOf := by decide +kernel
theorem lk_X6_yOf_16 : Cond.fieldLink RX6 16 "PolyCutsModel" "corners" "[I" ∈ wsX6_yOf := by decide +kernel
theorem in_X6_twice_X6 : ∀ w ∈ wsX60, w ∈ wsX6_twice := by decide +kernel
theorem lk_X6_twice_16 : Cond.fieldLink RX6 16 "PolyCutsModel" "corners" "[I" ∈ wsX6_twice := by decide +kernel
theorem in_X6_lies_X6 : ∀ w ∈ wsX60, w ∈ wsX6_lies := by decide +kernel
theorem lk_X6_lies_16 : Cond.fieldLink RX6 16 "PolyCutsModel" "corners" "[I" ∈ wsX6_lies := by decide +kernel
set_option maxHeartbeats 4000000 in
set_option maxRecDepth 100000 in
theorem c_X6_xOf (l : Launch) (G : Gx) (hA : wa G) (σ : Sg) (p n : Nat) (hp : p < 8) (hs : σ 33 0 p = nI n) (h3 : 3 ≤ n) (hn : n ≤ 14) (i : Nat) (hi : i < 2 ^ 16) : CtI l yX6_xOf wsX6_xOf (rmd 1) G [.ref (gA G 30 (0)), .int (nI p), .int (nI i)] σ (fun r σ2 => r = σ 34 0 (14 * p + i % n) ∧ σ2 = σ) := by
  refine ct_i (maxL := 3) (ret := (some .int)) (by decide) rfl (Nat.le_of_ble_eq_true rfl) hA (fun K hl C => ?_)
  subst hl
  change WW K G _ _ σ [(0, .ref (gA G 30 (0))), (1, .int (nI p)), (2, .int (nI i))] 0 []
  refine ww_aload_n C dX6_xOf_0 rfl 0 rfl ?_
  refine ww_gr (j := 0) (k := 30) (f := 5) C rfl rfl (by decide) rfl in_X6_xOf_X6 (by decide) lk_X6_xOf_19 dX6_xOf_1 rfl ?_
  refine ww_bipush (v := 14) C dX6_xOf_4 (by decide) ?_
  refine ww_iload_n C dX6_xOf_6 rfl 1 rfl ?_
  refine ww_imul C dX6_xOf_7 ?_
  rw [show (14) * (nI p) = nI (14 * p) from pk_mul (14) (p)]
  refine ww_iload_n C dX6_xOf_8 rfl 2 rfl ?_
  refine ww_aload_n C dX6_xOf_9 rfl 0 rfl ?_
  refine ww_gr (j := 0) (k := 30) (f := 4) C rfl rfl (by decide) rfl in_X6_xOf_X6 (by decide) lk_X6_xOf_16 dX6_xOf_10 rfl ?_
  refine ww_iload_n C dX6_xOf_13 rfl 1 rfl ?_
  refine ww_iald (k := 33) (j := p) C rfl (by decide) (by decide) dX6_xOf_14 rfl hp ?_
  rw [hs]
  refine ww_irem C dX6_xOf_15 (nI_ne0 (by omega) (by omega)) ?_
  rw [rem9 (a := i) (b := n) rfl rfl (by omega) (by omega) (by omega)]
  refine ww_iadd C dX6_xOf_16 ?_
  rw [show (nI (14 * p)) + (nI ((i) % n)) = nI (14 * p + (i) % n) from nI_add (14 * p) ((i) % n)]
  refine ww_iald (k := 34) (j := 14 * p + i % n) C rfl (by decide) (by decide) dX6_xOf_17 rfl (by have := Nat.mod_lt i (show 0 < n by omega); omega) ?_
  refine ww_iret C dX6_xOf_18 ?_
  exact ⟨rfl, rfl⟩
theorem c_xOf_i (l : Launch) (G : Gx) (hA : wa G) (σ : Sg) (p n : Nat) (hp : p < 8) (hs : σ 33 0 p = nI n) (h3 : 3 ≤ n) (hn : n ≤ 14) (i : Nat) (hi : i < n) : CtI l yX6_xOf wsX6_xOf (rmd 1) G [.ref (gA G 30 0), .int (nI p), .int (nI i)] σ (fun r σ2 => r = σ 34 0 (14 * p + i) ∧ σ2 = σ) := by
  have h := c_X6_xOf l G hA σ p n hp hs h3 hn i (by omega)
  rw [Nat.mod_eq_of_lt hi] at h
  exact h
theorem c_xOf_s (l : Launch) (G : Gx) (hA : wa G) (σ : Sg) (p n : Nat) (hp : p < 8) (hs : σ 33 0 p = nI n) (h3 : 3 ≤ n) (hn : n ≤ 14) (i : Nat) (hi : i < n) : CtI l yX6_xOf wsX6_xOf (rmd 1) G [.ref (gA G 30 0), .int (nI p), .int (nI (i + 1))] σ (fun r σ2 => r = σ 34 0 (14 * p + af n i) ∧ σ2 = σ) := by
  have h := c_X6_xOf l G hA σ p n hp hs h3 hn (i + 1) (by omega)
  rw [mod_s hi] at h
  exact h
theorem c_xOf_ss (l : Launch) (G : Gx) (hA : wa G) (σ : Sg) (p n : Nat) (hp : p < 8) (hs : σ 33 0 p = nI n) (h3 : 3 ≤ n) (hn : n ≤ 14) (i : Nat) (hi : i < n) : CtI l yX6_xOf wsX6_xOf (rmd 1) G [.ref (gA G 30 0), .int (nI p), .int (nI (i + 2))] σ (fun r σ2 => r = σ 34 0 (14 * p + af n (af n i)) ∧ σ2 = σ) := by
  have h := c_X6_xOf l G hA σ p n hp hs h3 hn (i + 2) (by omega)
  rw [mod_ss hi (by omega)] at h
  exact h
set_option maxHeartbeats 4000000 in
set_option maxRecDepth 100000 in
theorem c_X6_yOf (l : Launch) (G : Gx) (hA : wa G) (σ : Sg) (p n : Nat) (hp : p < 8) (hs : σ 33 0 p = nI n) (h3 : 3 ≤ n) (hn : n ≤ 14) (i : Nat) (hi : i < 2 ^ 16) : CtI l yX6_yOf wsX6_yOf (rmd 1) G [.ref (gA G 30 (0)), .int (nI p), .int (nI i)] σ (fun r σ2 => r = σ 35 0 (14 * p + i % n) ∧ σ2 = σ) := by
  refine ct_i (maxL := 3) (ret := (some .int)) (by decide) rfl (Nat.le_of_ble_eq_true rfl) hA (fun K hl C => ?_)
  subst hl
  change WW K G _ _ σ [(0, .ref (gA G 30 (0))), (1, .int (nI p)), (2, .int (nI i))] 0 []
  refine ww_aload_n C dX6_yOf_0 rfl 0 rfl ?_
  refine ww_gr (j := 0) (k := 30) (f := 6) C rfl rfl (by decide) rfl in_X6_yOf_X6 (by decide) lk_X6_yOf_22 dX6_yOf_1 rfl ?_
  refine ww_bipush (v := 14) C dX6_yOf_4 (by decide) ?_
  refine ww_iload_n C dX6_yOf_6 rfl 1 rfl ?_
  refine ww_imul C dX6_yOf_7 ?_
  rw [show (14) * (nI p) = nI (14 * p) from pk_mul (14) (p)]
  refine ww_iload_n C dX6_yOf_8 rfl 2 rfl ?_
  refine ww_aload_n C dX6_yOf_9 rfl 0 rfl ?_
  refine ww_gr (j := 0) (k := 30) (f := 4) C rfl rfl (by decide) rfl in_X6_yOf_X6 (by decide) lk_X6_yOf_16 dX6_yOf_10 rfl ?_
  refine ww_iload_n C dX6_yOf_13 rfl 1 rfl ?_
  refine ww_iald (k := 33) (j := p) C rfl (by decide) (by decide) dX6_yOf_14 rfl hp ?_
  rw [hs]
  refine ww_irem C dX6_yOf_15 (nI_ne0 (by omega) (by omega)) ?_
  rw [rem9 (a := i) (b := n) rfl rfl (by omega) (by omega) (by omega)]
  refine ww_iadd C dX6_yOf_16 ?_
  rw [show (nI (14 * p)) + (nI ((i) % n)) = nI (14 * p + (i) % n) from nI_add (14 * p) ((i) % n)]
  refine ww_iald (k := 35) (j := 14 * p + i % n) C rfl (by decide) (by decide) dX6_yOf_17 rfl (by have := Nat.mod_lt i (show 0 < n by omega); omega) ?_
  refine ww_iret C dX6_yOf_18 ?_
  exact ⟨rfl, rfl⟩
theorem c_yOf_i (l : Launch) (G : Gx) (hA : wa G) (σ : Sg) (p n : Nat) (hp : p < 8) (hs : σ 33 0 p = nI n) (h3 : 3 ≤ n) (hn : n ≤ 14) (i : Nat) (hi : i < n) : CtI l yX6_yOf wsX6_yOf (rmd 1) G [.ref (gA G 30 0), .int (nI p), .int (nI i)] σ (fun r σ2 => r = σ 35 0 (14 * p + i) ∧ σ2 = σ) := by
  have h := c_X6_yOf l G hA σ p n hp hs h3 hn i (by omega)
  rw [Nat.mod_eq_of_lt hi] at h
  exact h
theorem c_yOf_s (l : Launch) (G : Gx) (hA : wa G) (σ : Sg) (p n : Nat) (hp : p < 8) (hs : σ 33 0 p = nI n) (h3 : 3 ≤ n) (hn : n ≤ 14) (i : Nat) (hi : i < n) : CtI l yX6_yOf wsX6_yOf (rmd 1) G [.ref (gA G 30 0), .int (nI p), .int (nI (i + 1))] σ (fun r σ2 => r = σ 35 0 (14 * p + af n i) ∧ σ2 = σ) := by
  have h := c_X6_yOf l G hA σ p n hp hs h3 hn (i + 1) (by omega)
  rw [mod_s hi] at h
  exact h
theorem c_yOf_ss (l : Launch) (G : Gx) (hA : wa G) (σ : Sg) (p n : Nat) (hp : p < 8) (hs : σ 33 0 p = nI n) (h3 : 3 ≤ n) (hn : n ≤ 14) (i : Nat) (hi : i < n) : CtI l yX6_yOf wsX6_yOf (rmd 1) G [.ref (gA G 30 0), .int (nI p), .int (nI (i + 2))] σ (fun r σ2 => r = σ 35 0 (14 * p + af n (af n i)) ∧ σ2 = σ) := by
  have h := c_X6_yOf l G hA σ p n hp hs h3 hn (i + 2) (by omega)
  rw [mod_ss hi (by omega)] at h
  exact h
set_option maxHeartbeats 4000000 in
set_option maxRecDepth 100000 in
theorem c_X6_at_0 (l : Launch) (G : Gx) (hA : wa G) (σ : Sg) (cnt p n : Nat) (hc : σ 30 0 3 = nI cnt) (hc8 : cnt ≤ 8) (hpc : p < cnt) (hp : p < 8) (hs : σ 33 0 p = nI n) (h3 : 3 ≤ n) (hn : n ≤ 14) (c : Int32) : CtI l yX6_at wsX6_at (rmd 4) G [.ref (gA G 30 (0)), .int (nI p), .int (c), .int (0)] σ (fun r σ2 => r = cornR n c (fun i => σ 34 0 (14 * p + i)) ∧ σ2 = σ) := by
  refine ct_i (maxL := 4) (ret := (some .int)) (by decide) rfl (Nat.le_of_ble_eq_true rfl) hA (fun K hl C => ?_)
  subst hl
  change WW K G _ _ σ [(0, .ref (gA G 30 (0))), (1, .int (nI p)), (2, .int (c)), (3, .int (0))] 0 []
  refine ww_aload_n C dX6_at_0 rfl 0 rfl ?_
  refine ww_iload_n C dX6_at_1 rfl 1 rfl ?_
  refine ww_iload_n C dX6_at_2 rfl 2 rfl ?_
  refine ww_calliF (cx_V (n := 2) (As := [.int (nI p), .int (c)]) C  (c_X6_isCorner_s (kL K) G hA _ cnt p n hc hc8 hpc hp hs h3 hn _) gX6_at_X6_isCorner rfl ⟨rfl, rfl⟩ (by decide +kernel) (by decide) rfl (by decide) rfl rfl rfl (Nat.le_of_ble_eq_true rfl) dX6_at_3) ?_
  refine ww_if_ne 12 C dX6_at_6 (by decide) (fun h6 => ?_) (fun h6 => ?_)
  · obtain ⟨j, hj, rfl⟩ := ix_of (of_decide_eq_true (bI_1.mp h6)) hn
    refine ww_iload_n C dX6_at_12 rfl 3 rfl ?_
    refine ww_iconst (v := 0) C dX6_at_13 rfl ?_
    refine ww_iconst (v := 1) C dX6_at_14 rfl ?_
    refine ww_calliF (cx_S (n := 3) (As := [.int (0), .int (0), .int (1)]) C  (c_X6_within (kL K) G hA _ _ _ _) gX6_at_X6_within rfl ⟨rfl, rfl⟩ (by decide +kernel) (by decide) rfl rfl (Nat.le_of_ble_eq_true rfl) dX6_at_15) ?_
    refine ww_if_ne 24 C dX6_at_18 (by decide) (fun h18 => ?_) (fun h18 => ?_)
    · refine ww_iload_n C dX6_at_24 rfl 3 rfl ?_
      refine ww_if_ne 37 C dX6_at_25 (by decide) (fun h25 => ?_) (fun h25 => ?_)
      · exact absurd rfl h25
      · refine ww_aload_n C dX6_at_28 rfl 0 rfl ?_
        refine ww_iload_n C dX6_at_29 rfl 1 rfl ?_
        refine ww_iload_n C dX6_at_30 rfl 2 rfl ?_
        refine ww_calliF (cx_V (n := 2) (As := [.int (nI p), .int (nI j)]) C  (c_xOf_i (kL K) G hA _ p n hp hs h3 hn j (by omega)) gX6_at_X6_xOf rfl ⟨rfl, rfl⟩ (by decide +kernel) (by decide) rfl (by decide) rfl rfl rfl (Nat.le_of_ble_eq_true rfl) dX6_at_31) ?_
        refine ww_goto 43 C dX6_at_34 (by decide) ?_
        refine ww_iret C dX6_at_43 ?_
        exact ⟨by rw [cornR_t hj hn], rfl⟩
    · exact absurd h18 (by decide)
  · refine ww_bipush (v := -2) C dX6_at_9 (by decide) ?_
    refine ww_iret C dX6_at_11 ?_
    exact ⟨by rw [cornR_f h6], rfl⟩
set_option maxHeartbeats 4000000 in
set_option maxRecDepth 100000 in
theorem c_X6_at_1 (l : Launch) (G : Gx) (hA : wa G) (σ : Sg) (cnt p n : Nat) (hc : σ 30 0 3 = nI cnt) (hc8 : cnt ≤ 8) (hpc : p < cnt) (hp : p < 8) (hs : σ 33 0 p = nI n) (h3 : 3 ≤ n) (hn : n ≤ 14) (c : Int32) : CtI l yX6_at wsX6_at (rmd 4) G [.ref (gA G 30 (0)), .int (nI p), .int (c), .int (1)] σ (fun r σ2 => r = cornR n c (fun i => σ 35 0 (14 * p + i)) ∧ σ2 = σ) := by
  refine ct_i (maxL := 4) (ret := (some .int)) (by decide) rfl (Nat.le_of_ble_eq_true rfl) hA (fun K hl C => ?_)
  subst hl
  change WW K G _ _ σ [(0, .ref (gA G 30 (0))), (1, .int (nI p)), (2, .int (c)), (3, .int (1))] 0 []
  refine ww_aload_n C dX6_at_0 rfl 0 rfl ?_
  refine ww_iload_n C dX6_at_1 rfl 1 rfl ?_
  refine ww_iload_n C dX6_at_2 rfl 2 rfl ?_
  refine ww_calliF (cx_V (n := 2) (As := [.int (nI p), .int (c)]) C  (c_X6_isCorner_s (kL K) G hA _ cnt p n hc hc8 hpc hp hs h3 hn _) gX6_at_X6_isCorner rfl ⟨rfl, rfl⟩ (by decide +kernel) (by decide) rfl (by decide) rfl rfl rfl (Nat.le_of_ble_eq_true rfl) dX6_at_3) ?_
  refine ww_if_ne 12 C dX6_at_6 (by decide) (fun h6 => ?_) (fun h6 => ?_)
  · obtain ⟨j, hj, rfl⟩ := ix_of (of_decide_eq_true (bI_1.mp h6)) hn
    refine ww_iload_n C dX6_at_12 rfl 3 rfl ?_
    refine ww_iconst (v := 0) C dX6_at_13 rfl ?_
    refine ww_iconst (v := 1) C dX6_at_14 rfl ?_
    refine ww_calliF (cx_S (n := 3) (As := [.int (1), .int (0), .int (1)]) C  (c_X6_within (kL K) G hA _ _ _ _) gX6_at_X6_within rfl ⟨rfl, rfl⟩ (by decide +kernel) (by decide) rfl rfl (Nat.le_of_ble_eq_true rfl) dX6_at_15) ?_
    refine ww_if_ne 24 C dX6_at_18 (by decide) (fun h18 => ?_) (fun h18 => ?_)
    · refine ww_iload_n C dX6_at_24 rfl 3 rfl ?_
      refine ww_if_ne 37 C dX6_at_25 (by decide) (fun h25 => ?_) (fun h25 => ?_)
      · refine ww_aload_n C dX6_at_37 rfl 0 rfl ?_
        refine ww_iload_n C dX6_at_38 rfl 1 rfl ?_
        refine ww_iload_n C dX6_at_39 rfl 2 rfl ?_
        refine ww_calliF (cx_V (n := 2) (As := [.int (nI p), .int (nI j)]) C  (c_yOf_i (kL K) G hA _ p n hp hs h3 hn j (by omega)) gX6_at_X6_yOf rfl ⟨rfl, rfl⟩ (by decide +kernel) (by decide) rfl (by decide) rfl rfl rfl (Nat.le_of_ble_eq_true rfl) dX6_at_40) ?_
        refine ww_iret C dX6_at_43 ?_
        exact ⟨by rw [cornR_t hj hn], rfl⟩
      · exact absurd h25 (by decide)
    · exact absurd h18 (by decide)
  · refine ww_bipush (v := -2) C dX6_at_9 (by decide) ?_
    refine ww_iret C dX6_at_11 ?_
    exact ⟨by rw [cornR_f h6], rfl⟩
set_option maxHeartbeats 4000000 in
set_option maxRecDepth 100000 in
theorem c_X6_at_o (l : Launch) (G : Gx) (hA : wa G) (σ : Sg) (cnt p n : Nat) (hc : σ 30 0 3 = nI cnt) (hc8 : cnt ≤ 8) (hpc : p < cnt) (hp : p < 8) (hs : σ 33 0 p = nI n) (h3 : 3 ≤ n) (hn : n ≤ 14) (c w : Int32) (hw : ¬ (w = 0 ∨ w = 1)) : CtI l yX6_at wsX6_at (rmd 4) G [.ref (gA G 30 (0)), .int (nI p), .int (c), .int (w)] σ (fun r σ2 => r = cornR n c (fun _ => -3) ∧ σ2 = σ) := by
  refine ct_i (maxL := 4) (ret := (some .int)) (by decide) rfl (Nat.le_of_ble_eq_true rfl) hA (fun K hl C => ?_)
  subst hl
  change WW K G _ _ σ [(0, .ref (gA G 30 (0))), (1, .int (nI p)), (2, .int (c)), (3, .int (w))] 0 []
  refine ww_aload_n C dX6_at_0 rfl 0 rfl ?_
  refine ww_iload_n C dX6_at_1 rfl 1 rfl ?_
  refine ww_iload_n C dX6_at_2 rfl 2 rfl ?_
  refine ww_calliF (cx_V (n := 2) (As := [.int (nI p), .int (c)]) C  (c_X6_isCorner_s (kL K) G hA _ cnt p n hc hc8 hpc hp hs h3 hn _) gX6_at_X6_isCorner rfl ⟨rfl, rfl⟩ (by decide +kernel) (by decide) rfl (by decide) rfl rfl rfl (Nat.le_of_ble_eq_true rfl) dX6_at_3) ?_
  refine ww_if_ne 12 C dX6_at_6 (by decide) (fun h6 => ?_) (fun h6 => ?_)
  · obtain ⟨j, hj, rfl⟩ := ix_of (of_decide_eq_true (bI_1.mp h6)) hn
    refine ww_iload_n C dX6_at_12 rfl 3 rfl ?_
    refine ww_iconst (v := 0) C dX6_at_13 rfl ?_
    refine ww_iconst (v := 1) C dX6_at_14 rfl ?_
    refine ww_calliF (cx_S (n := 3) (As := [.int (w), .int (0), .int (1)]) C  (c_X6_within (kL K) G hA _ _ _ _) gX6_at_X6_within rfl ⟨rfl, rfl⟩ (by decide +kernel) (by decide) rfl rfl (Nat.le_of_ble_eq_true rfl) dX6_at_15) ?_
    refine ww_if_ne 24 C dX6_at_18 (by decide) (fun h18 => ?_) (fun h18 => ?_)
    · exact absurd (w_iff.mp (of_decide_eq_true (bI_1.mp h18))) hw
    · refine ww_bipush (v := -3) C dX6_at_21 (by decide) ?_
      refine ww_iret C dX6_at_23 ?_
      exact ⟨by rw [cornR_t hj hn], rfl⟩
  · refine ww_bipush (v := -2) C dX6_at_9 (by decide) ?_
    refine ww_iret C dX6_at_11 ?_
    exact ⟨by rw [cornR_f h6], rfl⟩
set_option maxHeartbeats 4000000 in
set_option maxRecDepth 100000 in
theorem c_X6_at_n (l : Launch) (G : Gx) (hA : wa G) (σ : Sg) (cnt : Nat) (hc : σ 30 0 3 = nI cnt) (hc8 : cnt ≤ 8) (x : Int32) (hu : ¬ (0 ≤ x ∧ x < nI cnt)) (c w : Int32) : CtI l yX6_at wsX6_at (rmd 4) G [.ref (gA G 30 (0)), .int (x), .int (c), .int (w)] σ (fun r σ2 => r = -2 ∧ σ2 = σ) := by
  refine ct_i (maxL := 4) (ret := (some .int)) (by decide) rfl (Nat.le_of_ble_eq_true rfl) hA (fun K hl C => ?_)
  subst hl
  change WW K G _ _ σ [(0, .ref (gA G 30 (0))), (1, .int (x)), (2, .int (c)), (3, .int (w))] 0 []
  refine ww_aload_n C dX6_at_0 rfl 0 rfl ?_
  refine ww_iload_n C dX6_at_1 rfl 1 rfl ?_
  refine ww_iload_n C dX6_at_2 rfl 2 rfl ?_
  refine ww_calliF (cx_V (n := 2) (As := [.int (x), .int (c)]) C  (c_X6_isCorner_n (kL K) G hA _ cnt hc hc8 x hu _) gX6_at_X6_isCorner rfl ⟨rfl, rfl⟩ (by decide +kernel) (by decide) rfl (by decide) rfl rfl rfl (Nat.le_of_ble_eq_true rfl) dX6_at_3) ?_
  refine ww_if_ne 12 C dX6_at_6 (by decide) (fun h6 => ?_) (fun h6 => ?_)
  · have g6 : ¬ 0 = 0 := fun q => h6 ((cv_eq (a := 0) (b := 0) (by decide) (by decide) (by omega) (by omega)).mpr q)
    exact absurd g6 (by decide)
  · have g6 : 0 = 0 := (cv_eq (a := 0) (b := 0) (by decide) (by decide) (by omega) (by omega)).mp h6
    refine ww_bipush (v := -2) C dX6_at_9 (by decide) ?_
    refine ww_iret C dX6_at_11 ?_
    exact ⟨rfl, rfl⟩
def fanF (x y : Nat → Int32) (j : Nat) : Int32 := tn x y 0 (j + 1) (j + 1 + 1)
def fan (n : Nat) (x y : Nat → Int32) : Int32 := sumN (fanF x y) (n - 2)
set_option maxHeartbeats 4000000 in
set_option maxRecDepth 100000 in
theorem lp_X6_twice {K : Kx} {G : Gx} (hA : wa G) (C : CX K G cX6_twice 4 RX6 wsX6_twice (rmd 2) (some .int)) (σ : Sg) (p n : Nat) (hp : p < 8) (hs : σ 33 0 p = nI n) (h3 : 3 ≤ n) (hn : n ≤ 14) : ∀ (f j : Nat), n - j < f → (j + 2 ≤ n) → WW K G 4 (QI K G (fun r σ2 => r = fan n (fun i => σ 34 0 (14 * p + i)) (fun i => σ 35 0 (14 * p + i)) ∧ σ2 = σ)) σ [(3, .int (nI (j + 1))), (2, .int (sumN (fanF (fun i => σ 34 0 (14 * p + i)) (fun i => σ 35 0 (14 * p + i))) j)), (0, .ref (gA G 30 (0))), (1, .int (nI p))] 4 [] := by
  intro f
  induction f with
  | zero => intro j  h; exact absurd h (Nat.not_lt_zero _)
  | succ f ih =>
    intro j  hf hj
    refine ww_iload_n C dX6_twice_4 rfl 0 rfl ?_
    refine ww_iconst (v := 1) C dX6_twice_5 rfl ?_
    refine ww_iadd C dX6_twice_6 ?_
    rw [show (nI (j + 1)) + (1) = nI (j + 1 + 1) from nI_add (j + 1) (1)]
    refine ww_aload_n C dX6_twice_7 rfl 2 rfl ?_
    refine ww_gr (j := 0) (k := 30) (f := 4) C rfl rfl (by decide) rfl in_X6_twice_X6 (by decide) lk_X6_twice_16 dX6_twice_8 rfl ?_
    refine ww_iload_n C dX6_twice_11 rfl 3 rfl ?_
    refine ww_iald (k := 33) (j := p) C rfl (by decide) (by decide) dX6_twice_12 rfl hp ?_
    rw [hs]
    refine ww_icmp_ge 68 C dX6_twice_13 (by decide) (fun h13 => ?_) (fun h13 => ?_)
    · have g13 : n ≤ j + 1 + 1 := (cv_le (a := n) (b := j + 1 + 1) rfl rfl (by omega) (by omega)).mp h13
      refine ww_iload_n C dX6_twice_68 rfl 1 rfl ?_
      refine ww_iret C dX6_twice_69 ?_
      exact ⟨by rw [fan, show n - 2 = j by omega], rfl⟩
    · have g13 : ¬ n ≤ j + 1 + 1 := fun q => h13 ((cv_le (a := n) (b := j + 1 + 1) rfl rfl (by omega) (by omega)).mpr q)
      refine ww_iload_n C dX6_twice_16 rfl 1 rfl ?_
      refine ww_aload_n C dX6_twice_17 rfl 2 rfl ?_
      refine ww_iload_n C dX6_twice_18 rfl 3 rfl ?_
      refine ww_iconst (v := 0) C dX6_twice_19 rfl ?_
      refine ww_calliF (cx_V (n := 2) (As := [.int (nI p), .int (0)]) C  (c_xOf_i (kL K) G hA _ p n hp hs h3 hn 0 (by omega)) gX6_twice_X6_xOf rfl ⟨rfl, rfl⟩ (by decide +kernel) (by decide) rfl (by decide) rfl rfl rfl (Nat.le_of_ble_eq_true rfl) dX6_twice_20) ?_
      refine ww_aload_n C dX6_twice_23 rfl 2 rfl ?_
      refine ww_iload_n C dX6_twice_24 rfl 3 rfl ?_
      refine ww_iconst (v := 0) C dX6_twice_25 rfl ?_
      refine ww_calliF (cx_V (n := 2) (As := [.int (nI p), .int (0)]) C  (c_yOf_i (kL K) G hA _ p n hp hs h3 hn 0 (by omega)) gX6_twice_X6_yOf rfl ⟨rfl, rfl⟩ (by decide +kernel) (by decide) rfl (by decide) rfl rfl rfl (Nat.le_of_ble_eq_true rfl) dX6_twice_26) ?_
      refine ww_aload_n C dX6_twice_29 rfl 2 rfl ?_
      refine ww_iload_n C dX6_twice_30 rfl 3 rfl ?_
      refine ww_iload_n C dX6_twice_31 rfl 0 rfl ?_
      refine ww_calliF (cx_V (n := 2) (As := [.int (nI p), .int (nI (j + 1))]) C  (c_xOf_i (kL K) G hA _ p n hp hs h3 hn (j + 1) (by omega)) gX6_twice_X6_xOf rfl ⟨rfl, rfl⟩ (by decide +kernel) (by decide) rfl (by decide) rfl rfl rfl (Nat.le_of_ble_eq_true rfl) dX6_twice_32) ?_
      refine ww_aload_n C dX6_twice_35 rfl 2 rfl ?_
      refine ww_iload_n C dX6_twice_36 rfl 3 rfl ?_
      refine ww_iload_n C dX6_twice_37 rfl 0 rfl ?_
      refine ww_calliF (cx_V (n := 2) (As := [.int (nI p), .int (nI (j + 1))]) C  (c_yOf_i (kL K) G hA _ p n hp hs h3 hn (j + 1) (by omega)) gX6_twice_X6_yOf rfl ⟨rfl, rfl⟩ (by decide +kernel) (by decide) rfl (by decide) rfl rfl rfl (Nat.le_of_ble_eq_true rfl) dX6_twice_38) ?_
      refine ww_aload_n C dX6_twice_41 rfl 2 rfl ?_
      refine ww_iload_n C dX6_twice_42 rfl 3 rfl ?_
      refine ww_iload_n C dX6_twice_43 rfl 0 rfl ?_
      refine ww_iconst (v := 1) C dX6_twice_44 rfl ?_
      refine ww_iadd C dX6_twice_45 ?_
      rw [show (nI (j + 1)) + (1) = nI (j + 1 + 1) from nI_add (j + 1) (1)]
      refine ww_calliF (cx_V (n := 2) (As := [.int (nI p), .int (nI (j + 1 + 1))]) C  (c_xOf_i (kL K) G hA _ p n hp hs h3 hn (j + 1 + 1) (by omega)) gX6_twice_X6_xOf rfl ⟨rfl, rfl⟩ (by decide +kernel) (by decide) rfl (by decide) rfl rfl rfl (Nat.le_of_ble_eq_true rfl) dX6_twice_46) ?_
      refine ww_aload_n C dX6_twice_49 rfl 2 rfl ?_
      refine ww_iload_n C dX6_twice_50 rfl 3 rfl ?_
      refine ww_iload_n C dX6_twice_51 rfl 0 rfl ?_
      refine ww_iconst (v := 1) C dX6_twice_52 rfl ?_
      refine ww_iadd C dX6_twice_53 ?_
      rw [show (nI (j + 1)) + (1) = nI (j + 1 + 1) from nI_add (j + 1) (1)]
      refine ww_calliF (cx_V (n := 2) (As := [.int (nI p), .int (nI (j + 1 + 1))]) C  (c_yOf_i (kL K) G hA _ p n hp hs h3 hn (j + 1 + 1) (by omega)) gX6_twice_X6_yOf rfl ⟨rfl, rfl⟩ (by decide +kernel) (by decide) rfl (by decide) rfl rfl rfl (Nat.le_of_ble_eq_true rfl) dX6_twice_54) ?_
      refine ww_calliF (cx_S (n := 6) (As := [.int (σ 34 0 (14 * p + 0)), .int (σ 35 0 (14 * p + 0)), .int (σ 34 0 (14 * p + (j + 1))), .int (σ 35 0 (14 * p + (j + 1))), .int (σ 34 0 (14 * p + (j + 1 + 1))), .int (σ 35 0 (14 * p + (j + 1 + 1)))]) C  (c_X6_turn (kL K) G hA _ _ _ _ _ _ _) gX6_twice_X6_turn rfl ⟨rfl, rfl⟩ (by decide +kernel) (by decide) rfl rfl (Nat.le_of_ble_eq_true rfl) dX6_twice_57) ?_
      refine ww_iadd C dX6_twice_60 ?_
      refine ww_istore_n (fun y1 => [(2, .int (y1)), (3, .int (nI (j + 1))), (0, .ref (gA G 30 (0))), (1, .int (nI p))]) C dX6_twice_61 rfl (by decide) (fun _ => rfl) (fun y1 ey1 => ?_)
      rw [ey1]; clear ey1 y1
      refine ww_iinc (q := 1) (fun y2 => [(3, .int (y2)), (2, .int ((sumN (fanF (fun i => σ 34 0 (14 * p + i)) (fun i => σ 35 0 (14 * p + i))) j) + (tnR (σ 34 0 (14 * p + 0)) (σ 35 0 (14 * p + 0)) (σ 34 0 (14 * p + (j + 1))) (σ 35 0 (14 * p + (j + 1))) (σ 34 0 (14 * p + (j + 1 + 1))) (σ 35 0 (14 * p + (j + 1 + 1)))))), (0, .ref (gA G 30 (0))), (1, .int (nI p))]) C dX6_twice_62 rfl (by decide) (fun _ => rfl) (fun y2 ey2 => ?_)
      obtain rfl : y2 = nI (j + 1 + 1) := ninc rfl ey2
      refine ww_goto 4 C dX6_twice_65 (by decide) ?_
      exact ww_sub [0, 1, 2, 3] rfl (ih (j + 1) (by omega) (by omega))
set_option maxHeartbeats 4000000 in
set_option maxRecDepth 100000 in
theorem c_X6_twice (l : Launch) (G : Gx) (hA : wa G) (σ : Sg) (p n : Nat) (hp : p < 8) (hs : σ 33 0 p = nI n) (h3 : 3 ≤ n) (hn : n ≤ 14) : CtI l yX6_twice wsX6_twice (rmd 2) G [.ref (gA G 30 (0)), .int (nI p)] σ (fun r σ2 => r = fan n (fun i => σ 34 0 (14 * p + i)) (fun i => σ 35 0 (14 * p + i)) ∧ σ2 = σ) := by
  refine ct_i (maxL := 4) (ret := (some .int)) (by decide) rfl (Nat.le_of_ble_eq_true rfl) hA (fun K hl C => ?_)
  subst hl
  change WW K G _ _ σ [(0, .ref (gA G 30 (0))), (1, .int (nI p))] 0 []
  refine ww_iconst (v := 0) C dX6_twice_0 rfl ?_
  refine ww_istore_n (fun y1 => [(2, .int (y1)), (0, .ref (gA G 30 (0))), (1, .int (nI p))]) C dX6_twice_1 rfl (by decide) (fun _ => rfl) (fun y1 ey1 => ?_)
  rw [ey1]; clear ey1 y1
  refine ww_iconst (v := 1) C dX6_twice_2 rfl ?_
  refine ww_istore_n (fun y2 => [(3, .int (y2)), (2, .int (0)), (0, .ref (gA G 30 (0))), (1, .int (nI p))]) C dX6_twice_3 rfl (by decide) (fun _ => rfl) (fun y2 ey2 => ?_)
  obtain rfl : y2 = nI 1 := (ey2.trans (by decide))
  exact ww_sub [0, 1, 2, 3] rfl (lp_X6_twice hA C σ p n hp hs h3 hn (n + 1) 0 (by omega) (by omega))
set_option maxHeartbeats 4000000 in
set_option maxRecDepth 100000 in
theorem c_X6_area_s (l : Launch) (G : Gx) (hA : wa G) (σ : Sg) (cnt p n : Nat) (hc : σ 30 0 3 = nI cnt) (hc8 : cnt ≤ 8) (hpc : p < cnt) (hp : p < 8) (hs : σ 33 0 p = nI n) (h3 : 3 ≤ n) (hn : n ≤ 14) : CtI l yX6_area wsX6_area (rmd 3) G [.ref (gA G 30 (0)), .int (nI p)] σ (fun r σ2 => r = fan n (fun i => σ 34 0 (14 * p + i)) (fun i => σ 35 0 (14 * p + i)) ∧ σ2 = σ) := by
  refine ct_i (maxL := 2) (ret := (some .int)) (by decide) rfl (Nat.le_of_ble_eq_true rfl) hA (fun K hl C => ?_)
  subst hl
  change WW K G _ _ σ [(0, .ref (gA G 30 (0))), (1, .int (nI p))] 0 []
  refine ww_aload_n C dX6_area_0 rfl 0 rfl ?_
  refine ww_iload_n C dX6_area_1 rfl 1 rfl ?_
  refine ww_calliF (cx_V (n := 1) (As := [.int (nI p)]) C  (c_X6_isPolygon (kL K) G hA _ cnt hc hc8 _) gX6_area_X6_isPolygon rfl ⟨rfl, rfl⟩ (by decide +kernel) (by decide) rfl (by decide) rfl rfl rfl (Nat.le_of_ble_eq_true rfl) dX6_area_2) ?_
  refine ww_if_eq 16 C dX6_area_5 (by decide) (fun h5 => ?_) (fun h5 => ?_)
  · exact absurd (kn_p hpc hc8) (of_decide_eq_false (bI_0.mp h5))
  · refine ww_aload_n C dX6_area_8 rfl 0 rfl ?_
    refine ww_iload_n C dX6_area_9 rfl 1 rfl ?_
    refine ww_calliF (cx_V (n := 1) (As := [.int (nI p)]) C  (c_X6_twice (kL K) G hA _ p n hp hs h3 hn) gX6_area_X6_twice rfl ⟨rfl, rfl⟩ (by decide +kernel) (by decide) rfl (by decide) rfl rfl rfl (Nat.le_of_ble_eq_true rfl) dX6_area_10) ?_
    refine ww_goto 17 C dX6_area_13 (by decide) ?_
    refine ww_iret C dX6_area_17 ?_
    exact ⟨rfl, rfl⟩
set_option maxHeartbeats 4000000 in
set_option maxRecDepth 100000 in
theorem c_X6_area_n (l : Launch) (G : Gx) (hA : wa G) (σ : Sg) (cnt : Nat) (hc : σ 30 0 3 = nI cnt) (hc8 : cnt ≤ 8) (x : Int32) (hu : ¬ (0 ≤ x ∧ x < nI cnt)) : CtI l yX6_area wsX6_area (rmd 3) G [.ref (gA G 30 (0)), .int (x)] σ (fun r σ2 => r = 0 ∧ σ2 = σ) := by
  refine ct_i (maxL := 2) (ret := (some .int)) (by decide) rfl (Nat.le_of_ble_eq_true rfl) hA (fun K hl C => ?_)
  subst hl
  change WW K G _ _ σ [(0, .ref (gA G 30 (0))), (1, .int (x))] 0 []
  refine ww_aload_n C dX6_area_0 rfl 0 rfl ?_
  refine ww_iload_n C dX6_area_1 rfl 1 rfl ?_
  refine ww_calliF (cx_V (n := 1) (As := [.int (x)]) C  (c_X6_isPolygon (kL K) G hA _ cnt hc hc8 _) gX6_area_X6_isPolygon rfl ⟨rfl, rfl⟩ (by decide +kernel) (by decide) rfl (by decide) rfl rfl rfl (Nat.le_of_ble_eq_true rfl) dX6_area_2) ?_
  refine ww_if_eq 16 C dX6_area_5 (by decide) (fun h5 => ?_) (fun h5 => ?_)
  · refine ww_iconst (v := 0) C dX6_area_16 rfl ?_
    refine ww_iret C dX6_area_17 ?_
    exact ⟨rfl, rfl⟩
  · exact absurd (of_decide_eq_true (bI_1.mp h5)) hu
set_option maxHeartbeats 4000000 in
set_option maxRecDepth 100000 in
theorem c_X6_square (l : Launch) (G : Gx) (hA : wa G) (σ : Sg) (p n : Nat) (hp : p < 8) (hs : σ 33 0 p = nI n) (h3 : 3 ≤ n) (hn : n ≤ 14) (i j : Nat) (hi : i < n) (hj : j < n) : CtI l yX6_square wsX6_square (rmd 2) G [.ref (gA G 30 (0)), .int (nI p), .int (nI i), .int (nI j)] σ (fun r σ2 => r = sq9 (fun i => σ 34 0 (14 * p + i)) (fun i => σ 35 0 (14 * p + i)) i j ∧ σ2 = σ) := by
  refine ct_i (maxL := 6) (ret := (some .int)) (by decide) rfl (Nat.le_of_ble_eq_true rfl) hA (fun K hl C => ?_)
  subst hl
  change WW K G _ _ σ [(0, .ref (gA G 30 (0))), (1, .int (nI p)), (2, .int (nI i)), (3, .int (nI j))] 0 []
  refine ww_aload_n C dX6_square_0 rfl 0 rfl ?_
  refine ww_iload_n C dX6_square_1 rfl 1 rfl ?_
  refine ww_iload_n C dX6_square_2 rfl 3 rfl ?_
  refine ww_calliF (cx_V (n := 2) (As := [.int (nI p), .int (nI j)]) C  (c_xOf_i (kL K) G hA _ p n hp hs h3 hn j (by omega)) gX6_square_X6_xOf rfl ⟨rfl, rfl⟩ (by decide +kernel) (by decide) rfl (by decide) rfl rfl rfl (Nat.le_of_ble_eq_true rfl) dX6_square_3) ?_
  refine ww_aload_n C dX6_square_6 rfl 0 rfl ?_
  refine ww_iload_n C dX6_square_7 rfl 1 rfl ?_
  refine ww_iload_n C dX6_square_8 rfl 2 rfl ?_
  refine ww_calliF (cx_V (n := 2) (As := [.int (nI p), .int (nI i)]) C  (c_xOf_i (kL K) G hA _ p n hp hs h3 hn i (by omega)) gX6_square_X6_xOf rfl ⟨rfl, rfl⟩ (by decide +kernel) (by decide) rfl (by decide) rfl rfl rfl (Nat.le_of_ble_eq_true rfl) dX6_square_9) ?_
  refine ww_isub C dX6_square_12 ?_
  refine ww_istore (fun y1 => [(4, .int (y1)), (0, .ref (gA G 30 (0))), (1, .int (nI p)), (2, .int (nI i)), (3, .int (nI j))]) C dX6_square_13 (by decide) (fun _ => rfl) (fun y1 ey1 => ?_)
  rw [ey1]; clear ey1 y1
  refine ww_aload_n C dX6_square_15 rfl 1 rfl ?_
  refine ww_iload_n C dX6_square_16 rfl 2 rfl ?_
  refine ww_iload_n C dX6_square_17 rfl 4 rfl ?_
  refine ww_calliF (cx_V (n := 2) (As := [.int (nI p), .int (nI j)]) C  (c_yOf_i (kL K) G hA _ p n hp hs h3 hn j (by omega)) gX6_square_X6_yOf rfl ⟨rfl, rfl⟩ (by decide +kernel) (by decide) rfl (by decide) rfl rfl rfl (Nat.le_of_ble_eq_true rfl) dX6_square_18) ?_
  refine ww_aload_n C dX6_square_21 rfl 1 rfl ?_
  refine ww_iload_n C dX6_square_22 rfl 2 rfl ?_
  refine ww_iload_n C dX6_square_23 rfl 3 rfl ?_
  refine ww_calliF (cx_V (n := 2) (As := [.int (nI p), .int (nI i)]) C  (c_yOf_i (kL K) G hA _ p n hp hs h3 hn i (by omega)) gX6_square_X6_yOf rfl ⟨rfl, rfl⟩ (by decide +kernel) (by decide) rfl (by decide) rfl rfl rfl (Nat.le_of_ble_eq_true rfl) dX6_square_24) ?_
  refine ww_isub C dX6_square_27 ?_
  refine ww_istore (fun y2 => [(5, .int (y2)), (4, .int ((σ 34 0 (14 * p + j)) - (σ 34 0 (14 * p + i)))), (0, .ref (gA G 30 (0))), (1, .int (nI p)), (2, .int (nI i)), (3, .int (nI j))]) C dX6_square_28 (by decide) (fun _ => rfl) (fun y2 ey2 => ?_)
  rw [ey2]; clear ey2 y2
  refine ww_iload C dX6_square_30 1 rfl ?_
  refine ww_iload C dX6_square_32 1 rfl ?_
  refine ww_imul C dX6_square_34 ?_
  refine ww_iload C dX6_square_35 0 rfl ?_
  refine ww_iload C dX6_square_37 0 rfl ?_
  refine ww_imul C dX6_square_39 ?_
  refine ww_iadd C dX6_square_40 ?_
  refine ww_iret C dX6_square_41 ?_
  exact ⟨rfl, rfl⟩
def onR (n : Nat) (x y : Nat → Int32) (px py sc : Int32) : Nat → Bool := fun i => btw (sc * x i) (sc * y i) (sc * x (af n i)) (sc * y (af n i)) px py
def crR (n : Nat) (x y : Nat → Int32) (px py sc : Int32) : Nat → Bool := fun i => (decide (py < sc * y i) ^^ decide (py < sc * y (af n i))) && (decide (sc * y i < sc * y (af n i)) == decide (0 < tnR (sc * x i) (sc * y i) (sc * x (af n i)) (sc * y (af n i)) px py))
def plcR (n : Nat) (x y : Nat → Int32) (px py sc : Int32) : Int32 := plcN (onR n x y px py sc) (crR n x y px py sc) 0 n false
theorem cr_0 {a b c : Bool} (h : bI a = bI b) : ((a ^^ b) && c) = false := by rw [bI_eq.mp h]; rfl
theorem cr_1 {a b c d : Bool} (h : ¬ bI c = bI d) : ((a ^^ b) && (c == d)) = false := by rw [bx2 h, Bool.and_false]
theorem cr_2 {a b c d : Bool} (h : ¬ bI a = bI b) (h2 : bI c = bI d) : ((a ^^ b) && (c == d)) = true := by rw [bI_ne.mp h, bx3 h2]; rfl
set_option maxHeartbeats 4000000 in
set_option maxRecDepth 100000 in
theorem lp_X6_lies {K : Kx} {G : Gx} (hA : wa G) (C : CX K G cX6_lies 12 RX6 wsX6_lies (rmd 3) (some .int)) (σ : Sg) (p n : Nat) (hp : p < 8) (hs : σ 33 0 p = nI n) (h3 : 3 ≤ n) (hn : n ≤ 14) (px py sc : Int32) : ∀ (f i : Nat) (b : Bool), n - i < f → (i ≤ n) → (plcN (onR n (fun i => σ 34 0 (14 * p + i)) (fun i => σ 35 0 (14 * p + i)) px py sc) (crR n (fun i => σ 34 0 (14 * p + i)) (fun i => σ 35 0 (14 * p + i)) px py sc) i n b = plcR n (fun i => σ 34 0 (14 * p + i)) (fun i => σ 35 0 (14 * p + i)) px py sc) → WW K G 12 (QI K G (fun r σ2 => r = plcR n (fun i => σ 34 0 (14 * p + i)) (fun i => σ 35 0 (14 * p + i)) px py sc ∧ σ2 = σ)) σ [(6, .int (nI i)), (5, .int (bI b)), (0, .ref (gA G 30 (0))), (1, .int (nI p)), (2, .int (sc)), (3, .int (px)), (4, .int (py))] 6 [] := by
  intro f
  induction f with
  | zero => intro i b h; exact absurd h (Nat.not_lt_zero _)
  | succ f ih =>
    intro i b hf hi hv
    refine ww_iload C dX6_lies_6 0 rfl ?_
    refine ww_aload_n C dX6_lies_8 rfl 2 rfl ?_
    refine ww_gr (j := 0) (k := 30) (f := 4) C rfl rfl (by decide) rfl in_X6_lies_X6 (by decide) lk_X6_lies_16 dX6_lies_9 rfl ?_
    refine ww_iload_n C dX6_lies_12 rfl 3 rfl ?_
    refine ww_iald (k := 33) (j := p) C rfl (by decide) (by decide) dX6_lies_13 rfl hp ?_
    rw [hs]
    refine ww_icmp_ge 175 C dX6_lies_14 (by decide) (fun h14 => ?_) (fun h14 => ?_)
    · have g14 : n ≤ i := (cv_le (a := n) (b := i) rfl rfl (by omega) (by omega)).mp h14
      refine ww_iload C dX6_lies_175 1 rfl ?_
      refine ww_if_eq 184 C dX6_lies_177 (by decide) (fun h177 => ?_) (fun h177 => ?_)
      · refine ww_iconst (v := 0) C dX6_lies_184 rfl ?_
        refine ww_iret C dX6_lies_185 ?_
        exact ⟨by rw [← hv, plcN_end g14, bI_0.mp h177]; rfl, rfl⟩
      · refine ww_iconst (v := 2) C dX6_lies_180 rfl ?_
        refine ww_goto 185 C dX6_lies_181 (by decide) ?_
        refine ww_iret C dX6_lies_185 ?_
        exact ⟨by rw [← hv, plcN_end g14, bI_1.mp h177]; rfl, rfl⟩
    · have g14 : ¬ n ≤ i := fun q => h14 ((cv_le (a := n) (b := i) rfl rfl (by omega) (by omega)).mpr q)
      refine ww_iload_n C dX6_lies_17 rfl 4 rfl ?_
      refine ww_aload_n C dX6_lies_18 rfl 2 rfl ?_
      refine ww_iload_n C dX6_lies_19 rfl 3 rfl ?_
      refine ww_iload C dX6_lies_20 0 rfl ?_
      refine ww_calliF (cx_V (n := 2) (As := [.int (nI p), .int (nI i)]) C  (c_xOf_i (kL K) G hA _ p n hp hs h3 hn i (by omega)) gX6_lies_X6_xOf rfl ⟨rfl, rfl⟩ (by decide +kernel) (by decide) rfl (by decide) rfl rfl rfl (Nat.le_of_ble_eq_true rfl) dX6_lies_22) ?_
      refine ww_imul C dX6_lies_25 ?_
      refine ww_istore (fun y1 => [(7, .int (y1)), (6, .int (nI i)), (5, .int (bI b)), (0, .ref (gA G 30 (0))), (1, .int (nI p)), (2, .int (sc)), (3, .int (px)), (4, .int (py))]) C dX6_lies_26 (by decide) (fun _ => rfl) (fun y1 ey1 => ?_)
      rw [ey1]; clear ey1 y1
      refine ww_iload_n C dX6_lies_28 rfl 5 rfl ?_
      refine ww_aload_n C dX6_lies_29 rfl 3 rfl ?_
      refine ww_iload_n C dX6_lies_30 rfl 4 rfl ?_
      refine ww_iload C dX6_lies_31 1 rfl ?_
      refine ww_calliF (cx_V (n := 2) (As := [.int (nI p), .int (nI i)]) C  (c_yOf_i (kL K) G hA _ p n hp hs h3 hn i (by omega)) gX6_lies_X6_yOf rfl ⟨rfl, rfl⟩ (by decide +kernel) (by decide) rfl (by decide) rfl rfl rfl (Nat.le_of_ble_eq_true rfl) dX6_lies_33) ?_
      refine ww_imul C dX6_lies_36 ?_
      refine ww_istore (fun y2 => [(8, .int (y2)), (7, .int ((sc) * (σ 34 0 (14 * p + i)))), (6, .int (nI i)), (5, .int (bI b)), (0, .ref (gA G 30 (0))), (1, .int (nI p)), (2, .int (sc)), (3, .int (px)), (4, .int (py))]) C dX6_lies_37 (by decide) (fun _ => rfl) (fun y2 ey2 => ?_)
      rw [ey2]; clear ey2 y2
      refine ww_iload_n C dX6_lies_39 rfl 6 rfl ?_
      refine ww_aload_n C dX6_lies_40 rfl 4 rfl ?_
      refine ww_iload_n C dX6_lies_41 rfl 5 rfl ?_
      refine ww_iload C dX6_lies_42 2 rfl ?_
      refine ww_iconst (v := 1) C dX6_lies_44 rfl ?_
      refine ww_iadd C dX6_lies_45 ?_
      rw [show (nI i) + (1) = nI (i + 1) from nI_add (i) (1)]
      refine ww_calliF (cx_V (n := 2) (As := [.int (nI p), .int (nI (i + 1))]) C  (c_xOf_s (kL K) G hA _ p n hp hs h3 hn i (by omega)) gX6_lies_X6_xOf rfl ⟨rfl, rfl⟩ (by decide +kernel) (by decide) rfl (by decide) rfl rfl rfl (Nat.le_of_ble_eq_true rfl) dX6_lies_46) ?_
      refine ww_imul C dX6_lies_49 ?_
      refine ww_istore (fun y3 => [(9, .int (y3)), (8, .int ((sc) * (σ 35 0 (14 * p + i)))), (7, .int ((sc) * (σ 34 0 (14 * p + i)))), (6, .int (nI i)), (5, .int (bI b)), (0, .ref (gA G 30 (0))), (1, .int (nI p)), (2, .int (sc)), (3, .int (px)), (4, .int (py))]) C dX6_lies_50 (by decide) (fun _ => rfl) (fun y3 ey3 => ?_)
      rw [ey3]; clear ey3 y3
      refine ww_iload_n C dX6_lies_52 rfl 7 rfl ?_
      refine ww_aload_n C dX6_lies_53 rfl 5 rfl ?_
      refine ww_iload_n C dX6_lies_54 rfl 6 rfl ?_
      refine ww_iload C dX6_lies_55 3 rfl ?_
      refine ww_iconst (v := 1) C dX6_lies_57 rfl ?_
      refine ww_iadd C dX6_lies_58 ?_
      rw [show (nI i) + (1) = nI (i + 1) from nI_add (i) (1)]
      refine ww_calliF (cx_V (n := 2) (As := [.int (nI p), .int (nI (i + 1))]) C  (c_yOf_s (kL K) G hA _ p n hp hs h3 hn i (by omega)) gX6_lies_X6_yOf rfl ⟨rfl, rfl⟩ (by decide +kernel) (by decide) rfl (by decide) rfl rfl rfl (Nat.le_of_ble_eq_true rfl) dX6_lies_59) ?_
      refine ww_imul C dX6_lies_62 ?_
      refine ww_istore (fun y4 => [(10, .int (y4)), (9, .int ((sc) * (σ 34 0 (14 * p + af n i)))), (8, .int ((sc) * (σ 35 0 (14 * p + i)))), (7, .int ((sc) * (σ 34 0 (14 * p + i)))), (6, .int (nI i)), (5, .int (bI b)), (0, .ref (gA G 30 (0))), (1, .int (nI p)), (2, .int (sc)), (3, .int (px)), (4, .int (py))]) C dX6_lies_63 (by decide) (fun _ => rfl) (fun y4 ey4 => ?_)
      rw [ey4]; clear ey4 y4
      refine ww_iload C dX6_lies_65 3 rfl ?_
      refine ww_iload C dX6_lies_67 2 rfl ?_
      refine ww_iload C dX6_lies_69 1 rfl ?_
      refine ww_iload C dX6_lies_71 0 rfl ?_
      refine ww_iload_n C dX6_lies_73 rfl 9 rfl ?_
      refine ww_iload C dX6_lies_74 10 rfl ?_
      refine ww_calliF (cx_S (n := 6) (As := [.int ((sc) * (σ 34 0 (14 * p + i))), .int ((sc) * (σ 35 0 (14 * p + i))), .int ((sc) * (σ 34 0 (14 * p + af n i))), .int ((sc) * (σ 35 0 (14 * p + af n i))), .int (px), .int (py)]) C  (c_X6_isBetween (kL K) G hA _ _ _ _ _ _ _) gX6_lies_X6_isBetween rfl ⟨rfl, rfl⟩ (by decide +kernel) (by decide) rfl rfl (Nat.le_of_ble_eq_true rfl) dX6_lies_76) ?_
      refine ww_if_eq 84 C dX6_lies_79 (by decide) (fun h79 => ?_) (fun h79 => ?_)
      · refine ww_iload C dX6_lies_84 2 rfl ?_
        refine ww_iload C dX6_lies_86 10 rfl ?_
        refine ww_bc_le C dX6_lies_88 dX6_lies_91 dX6_lies_92 dX6_lies_95 ?_
        refine ww_iload C dX6_lies_96 0 rfl ?_
        refine ww_iload C dX6_lies_98 10 rfl ?_
        refine ww_bc_le C dX6_lies_100 dX6_lies_103 dX6_lies_104 dX6_lies_107 ?_
        refine ww_icmp_eq 169 C dX6_lies_108 (by decide) (fun h108 => ?_) (fun h108 => ?_)
        · refine ww_iinc (q := 4) (fun y5 => [(6, .int (y5)), (10, .int ((sc) * (σ 35 0 (14 * p + af n i)))), (9, .int ((sc) * (σ 34 0 (14 * p + af n i)))), (8, .int ((sc) * (σ 35 0 (14 * p + i)))), (7, .int ((sc) * (σ 34 0 (14 * p + i)))), (5, .int (bI b)), (0, .ref (gA G 30 (0))), (1, .int (nI p)), (2, .int (sc)), (3, .int (px)), (4, .int (py))]) C dX6_lies_169 rfl (by decide) (fun _ => rfl) (fun y5 ey5 => ?_)
          obtain rfl : y5 = nI (i + 1) := ninc rfl ey5
          refine ww_goto 6 C dX6_lies_172 (by decide) ?_
          have hof : (onR n (fun i => σ 34 0 (14 * p + i)) (fun i => σ 35 0 (14 * p + i)) px py sc) i = false := bI_0.mp h79
          have hcr : (crR n (fun i => σ 34 0 (14 * p + i)) (fun i => σ 35 0 (14 * p + i)) px py sc) i = false := cr_0 h108
          exact ww_sub [0, 5, 6, 7, 8, 9, 10] rfl (ih (i + 1) b (by omega) (by omega) (by rw [← hv, plcN_step (by omega) hof, hcr]; simp))
        · refine ww_iload C dX6_lies_111 3 rfl ?_
          refine ww_iload C dX6_lies_113 2 rfl ?_
          refine ww_iload C dX6_lies_115 1 rfl ?_
          refine ww_iload C dX6_lies_117 0 rfl ?_
          refine ww_iload_n C dX6_lies_119 rfl 9 rfl ?_
          refine ww_iload C dX6_lies_120 10 rfl ?_
          refine ww_calliF (cx_S (n := 6) (As := [.int ((sc) * (σ 34 0 (14 * p + i))), .int ((sc) * (σ 35 0 (14 * p + i))), .int ((sc) * (σ 34 0 (14 * p + af n i))), .int ((sc) * (σ 35 0 (14 * p + af n i))), .int (px), .int (py)]) C  (c_X6_turn (kL K) G hA _ _ _ _ _ _ _) gX6_lies_X6_turn rfl ⟨rfl, rfl⟩ (by decide +kernel) (by decide) rfl rfl (Nat.le_of_ble_eq_true rfl) dX6_lies_122) ?_
          refine ww_istore (fun y6 => [(11, .int (y6)), (10, .int ((sc) * (σ 35 0 (14 * p + af n i)))), (9, .int ((sc) * (σ 34 0 (14 * p + af n i)))), (8, .int ((sc) * (σ 35 0 (14 * p + i)))), (7, .int ((sc) * (σ 34 0 (14 * p + i)))), (6, .int (nI i)), (5, .int (bI b)), (0, .ref (gA G 30 (0))), (1, .int (nI p)), (2, .int (sc)), (3, .int (px)), (4, .int (py))]) C dX6_lies_125 (by decide) (fun _ => rfl) (fun y6 ey6 => ?_)
          rw [ey6]; clear ey6 y6
          refine ww_iload C dX6_lies_127 1 rfl ?_
          refine ww_iload C dX6_lies_129 3 rfl ?_
          refine ww_bc_le C dX6_lies_131 dX6_lies_134 dX6_lies_135 dX6_lies_138 ?_
          refine ww_iload C dX6_lies_139 0 rfl ?_
          refine ww_b_le C dX6_lies_141 dX6_lies_144 dX6_lies_145 dX6_lies_148 ?_
          refine ww_icmp_ne 165 C dX6_lies_149 (by decide) (fun h149 => ?_) (fun h149 => ?_)
          · refine ww_iload C dX6_lies_165 6 rfl ?_
            refine ww_istore (fun nb => [(5, .int (nb)), (11, .int (tnR ((sc) * (σ 34 0 (14 * p + i))) ((sc) * (σ 35 0 (14 * p + i))) ((sc) * (σ 34 0 (14 * p + af n i))) ((sc) * (σ 35 0 (14 * p + af n i))) (px) (py))), (10, .int ((sc) * (σ 35 0 (14 * p + af n i)))), (9, .int ((sc) * (σ 34 0 (14 * p + af n i)))), (8, .int ((sc) * (σ 35 0 (14 * p + i)))), (7, .int ((sc) * (σ 34 0 (14 * p + i)))), (6, .int (nI i)), (0, .ref (gA G 30 (0))), (1, .int (nI p)), (2, .int (sc)), (3, .int (px)), (4, .int (py))]) C dX6_lies_167 (by decide) (fun _ => rfl) (fun nb enb => ?_)
            refine ww_iinc (q := 6) (fun y7 => [(6, .int (y7)), (5, .int (nb)), (11, .int (tnR ((sc) * (σ 34 0 (14 * p + i))) ((sc) * (σ 35 0 (14 * p + i))) ((sc) * (σ 34 0 (14 * p + af n i))) ((sc) * (σ 35 0 (14 * p + af n i))) (px) (py))), (10, .int ((sc) * (σ 35 0 (14 * p + af n i)))), (9, .int ((sc) * (σ 34 0 (14 * p + af n i)))), (8, .int ((sc) * (σ 35 0 (14 * p + i)))), (7, .int ((sc) * (σ 34 0 (14 * p + i)))), (0, .ref (gA G 30 (0))), (1, .int (nI p)), (2, .int (sc)), (3, .int (px)), (4, .int (py))]) C dX6_lies_169 rfl (by decide) (fun _ => rfl) (fun y7 ey7 => ?_)
            obtain rfl : y7 = nI (i + 1) := ninc rfl ey7
            refine ww_goto 6 C dX6_lies_172 (by decide) ?_
            have hof : (onR n (fun i => σ 34 0 (14 * p + i)) (fun i => σ 35 0 (14 * p + i)) px py sc) i = false := bI_0.mp h79
            obtain rfl : nb = bI b := enb
            have hcr : (crR n (fun i => σ 34 0 (14 * p + i)) (fun i => σ 35 0 (14 * p + i)) px py sc) i = false := cr_1 h149
            exact ww_sub [0, 1, 7, 8, 9, 10, 11] rfl (ih (i + 1) b (by omega) (by omega) (by rw [← hv, plcN_step (by omega) hof, hcr]; simp))
          · refine ww_iload C dX6_lies_152 6 rfl ?_
            refine ww_if_ne 161 C dX6_lies_154 (by decide) (fun h154 => ?_) (fun h154 => ?_)
            · refine ww_iconst (v := 0) C dX6_lies_161 rfl ?_
              refine ww_goto 167 C dX6_lies_162 (by decide) ?_
              refine ww_istore (fun nb => [(5, .int (nb)), (11, .int (tnR ((sc) * (σ 34 0 (14 * p + i))) ((sc) * (σ 35 0 (14 * p + i))) ((sc) * (σ 34 0 (14 * p + af n i))) ((sc) * (σ 35 0 (14 * p + af n i))) (px) (py))), (10, .int ((sc) * (σ 35 0 (14 * p + af n i)))), (9, .int ((sc) * (σ 34 0 (14 * p + af n i)))), (8, .int ((sc) * (σ 35 0 (14 * p + i)))), (7, .int ((sc) * (σ 34 0 (14 * p + i)))), (6, .int (nI i)), (0, .ref (gA G 30 (0))), (1, .int (nI p)), (2, .int (sc)), (3, .int (px)), (4, .int (py))]) C dX6_lies_167 (by decide) (fun _ => rfl) (fun nb enb => ?_)
              refine ww_iinc (q := 6) (fun y8 => [(6, .int (y8)), (5, .int (nb)), (11, .int (tnR ((sc) * (σ 34 0 (14 * p + i))) ((sc) * (σ 35 0 (14 * p + i))) ((sc) * (σ 34 0 (14 * p + af n i))) ((sc) * (σ 35 0 (14 * p + af n i))) (px) (py))), (10, .int ((sc) * (σ 35 0 (14 * p + af n i)))), (9, .int ((sc) * (σ 34 0 (14 * p + af n i)))), (8, .int ((sc) * (σ 35 0 (14 * p + i)))), (7, .int ((sc) * (σ 34 0 (14 * p + i)))), (0, .ref (gA G 30 (0))), (1, .int (nI p)), (2, .int (sc)), (3, .int (px)), (4, .int (py))]) C dX6_lies_169 rfl (by decide) (fun _ => rfl) (fun y8 ey8 => ?_)
              obtain rfl : y8 = nI (i + 1) := ninc rfl ey8
              refine ww_goto 6 C dX6_lies_172 (by decide) ?_
              have hof : (onR n (fun i => σ 34 0 (14 * p + i)) (fun i => σ 35 0 (14 * p + i)) px py sc) i = false := bI_0.mp h79
              obtain rfl : nb = bI (!b) := by rw [enb, bI_1.mp h154]; rfl
              have hcr : (crR n (fun i => σ 34 0 (14 * p + i)) (fun i => σ 35 0 (14 * p + i)) px py sc) i = true := cr_2 h108 h149
              exact ww_sub [0, 1, 7, 8, 9, 10, 11] rfl (ih (i + 1) (!b) (by omega) (by omega) (by rw [← hv, plcN_step (by omega) hof, hcr]; simp))
            · refine ww_iconst (v := 1) C dX6_lies_157 rfl ?_
              refine ww_goto 167 C dX6_lies_158 (by decide) ?_
              refine ww_istore (fun nb => [(5, .int (nb)), (11, .int (tnR ((sc) * (σ 34 0 (14 * p + i))) ((sc) * (σ 35 0 (14 * p + i))) ((sc) * (σ 34 0 (14 * p + af n i))) ((sc) * (σ 35 0 (14 * p + af n i))) (px) (py))), (10, .int ((sc) * (σ 35 0 (14 * p + af n i)))), (9, .int ((sc) * (σ 34 0 (14 * p + af n i)))), (8, .int ((sc) * (σ 35 0 (14 * p + i)))), (7, .int ((sc) * (σ 34 0 (14 * p + i)))), (6, .int (nI i)), (0, .ref (gA G 30 (0))), (1, .int (nI p)), (2, .int (sc)), (3, .int (px)), (4, .int (py))]) C dX6_lies_167 (by decide) (fun _ => rfl) (fun nb enb => ?_)
              refine ww_iinc (q := 6) (fun y9 => [(6, .int (y9)), (5, .int (nb)), (11, .int (tnR ((sc) * (σ 34 0 (14 * p + i))) ((sc) * (σ 35 0 (14 * p + i))) ((sc) * (σ 34 0 (14 * p + af n i))) ((sc) * (σ 35 0 (14 * p + af n i))) (px) (py))), (10, .int ((sc) * (σ 35 0 (14 * p + af n i)))), (9, .int ((sc) * (σ 34 0 (14 * p + af n i)))), (8, .int ((sc) * (σ 35 0 (14 * p + i)))), (7, .int ((sc) * (σ 34 0 (14 * p + i)))), (0, .ref (gA G 30 (0))), (1, .int (nI p)), (2, .int (sc)), (3, .int (px)), (4, .int (py))]) C dX6_lies_169 rfl (by decide) (fun _ => rfl) (fun y9 ey9 => ?_)
              obtain rfl : y9 = nI (i + 1) := ninc rfl ey9
              refine ww_goto 6 C dX6_lies_172 (by decide) ?_
              have hof : (onR n (fun i => σ 34 0 (14 * p + i)) (fun i => σ 35 0 (14 * p + i)) px py sc) i = false := bI_0.mp h79
              obtain rfl : nb = bI (!b) := by rw [enb, bI_0.mp h154]; rfl
              have hcr : (crR n (fun i => σ 34 0 (14 * p + i)) (fun i => σ 35 0 (14 * p + i)) px py sc) i = true := cr_2 h108 h149
              exact ww_sub [0, 1, 7, 8, 9, 10, 11] rfl (ih (i + 1) (!b) (by omega) (by omega) (by rw [← hv, plcN_step (by omega) hof, hcr]; simp))
      · refine ww_iconst (v := 1) C dX6_lies_82 rfl ?_
        refine ww_iret C dX6_lies_83 ?_
        exact ⟨by rw [← hv, plcN_on (by omega) (bI_1.mp h79)], rfl⟩
set_option maxHeartbeats 4000000 in
set_option maxRecDepth 100000 in
theorem c_X6_lies (l : Launch) (G : Gx) (hA : wa G) (σ : Sg) (p n : Nat) (hp : p < 8) (hs : σ 33 0 p = nI n) (h3 : 3 ≤ n) (hn : n ≤ 14) (px py sc : Int32) : CtI l yX6_lies wsX6_lies (rmd 3) G [.ref (gA G 30 (0)), .int (nI p), .int (sc), .int (px), .int (py)] σ (fun r σ2 => r = plcR n (fun i => σ 34 0 (14 * p + i)) (fun i => σ 35 0 (14 * p + i)) px py sc ∧ σ2 = σ) := by
  refine ct_i (maxL := 12) (ret := (some .int)) (by decide) rfl (Nat.le_of_ble_eq_true rfl) hA (fun K hl C => ?_)
  subst hl
  change WW K G _ _ σ [(0, .ref (gA G 30 (0))), (1, .int (nI p)), (2, .int (sc)), (3, .int (px)), (4, .int (py))] 0 []
  refine ww_iconst (v := 0) C dX6_lies_0 rfl ?_
  refine ww_istore (fun y1 => [(5, .int (y1)), (0, .ref (gA G 30 (0))), (1, .int (nI p)), (2, .int (sc)), (3, .int (px)), (4, .int (py))]) C dX6_lies_1 (by decide) (fun _ => rfl) (fun y1 ey1 => ?_)
  rw [ey1]; clear ey1 y1
  refine ww_iconst (v := 0) C dX6_lies_3 rfl ?_
  refine ww_istore (fun y2 => [(6, .int (y2)), (5, .int (0)), (0, .ref (gA G 30 (0))), (1, .int (nI p)), (2, .int (sc)), (3, .int (px)), (4, .int (py))]) C dX6_lies_4 (by decide) (fun _ => rfl) (fun y2 ey2 => ?_)
  obtain rfl : y2 = nI 0 := (ey2.trans (by decide))
  exact ww_sub [0, 1, 2, 3, 4, 5, 6] rfl (lp_X6_lies hA C σ p n hp hs h3 hn px py sc (n + 1) 0 false (by omega) (by omega) rfl)
set_option maxHeartbeats 4000000 in
set_option maxRecDepth 100000 in
theorem c_X6_in_s (l : Launch) (G : Gx) (hA : wa G) (σ : Sg) (cnt p n : Nat) (hc : σ 30 0 3 = nI cnt) (hc8 : cnt ≤ 8) (hpc : p < cnt) (hp : p < 8) (hs : σ 33 0 p = nI n) (h3 : 3 ≤ n) (hn : n ≤ 14) (u v : Int32) : CtI l yX6_in wsX6_in (rmd 4) G [.ref (gA G 30 (0)), .int (nI p), .int (u), .int (v)] σ (fun r σ2 => r = inR (plcR n (fun i => σ 34 0 (14 * p + i)) (fun i => σ 35 0 (14 * p + i)) u v 1) u v ∧ σ2 = σ) := by
  refine ct_i (maxL := 4) (ret := (some .int)) (by decide) rfl (Nat.le_of_ble_eq_true rfl) hA (fun K hl C => ?_)
  subst hl
  change WW K G _ _ σ [(0, .ref (gA G 30 (0))), (1, .int (nI p)), (2, .int (u)), (3, .int (v))] 0 []
  refine ww_aload_n C dX6_in_0 rfl 0 rfl ?_
  refine ww_iload_n C dX6_in_1 rfl 1 rfl ?_
  refine ww_calliF (cx_V (n := 1) (As := [.int (nI p)]) C  (c_X6_isPolygon (kL K) G hA _ cnt hc hc8 _) gX6_in_X6_isPolygon rfl ⟨rfl, rfl⟩ (by decide +kernel) (by decide) rfl (by decide) rfl rfl rfl (Nat.le_of_ble_eq_true rfl) dX6_in_2) ?_
  refine ww_if_ne 11 C dX6_in_5 (by decide) (fun h5 => ?_) (fun h5 => ?_)
  · refine ww_iload_n C dX6_in_11 rfl 2 rfl ?_
    refine ww_sipush (v := -3000) C dX6_in_12 (by decide) ?_
    refine ww_sipush (v := 3000) C dX6_in_15 (by decide) ?_
    refine ww_calliF (cx_S (n := 3) (As := [.int (u), .int (-3000), .int (3000)]) C  (c_X6_within (kL K) G hA _ _ _ _) gX6_in_X6_within rfl ⟨rfl, rfl⟩ (by decide +kernel) (by decide) rfl rfl (Nat.le_of_ble_eq_true rfl) dX6_in_18) ?_
    refine ww_if_eq 37 C dX6_in_21 (by decide) (fun h21 => ?_) (fun h21 => ?_)
    · refine ww_bipush (v := -3) C dX6_in_37 (by decide) ?_
      refine ww_iret C dX6_in_39 ?_
      exact ⟨by rw [inR, if_neg (fun q => of_decide_eq_false (bI_0.mp h21) q.1)], rfl⟩
    · refine ww_iload_n C dX6_in_24 rfl 3 rfl ?_
      refine ww_sipush (v := -3000) C dX6_in_25 (by decide) ?_
      refine ww_sipush (v := 3000) C dX6_in_28 (by decide) ?_
      refine ww_calliF (cx_S (n := 3) (As := [.int (v), .int (-3000), .int (3000)]) C  (c_X6_within (kL K) G hA _ _ _ _) gX6_in_X6_within rfl ⟨rfl, rfl⟩ (by decide +kernel) (by decide) rfl rfl (Nat.le_of_ble_eq_true rfl) dX6_in_31) ?_
      refine ww_if_ne 40 C dX6_in_34 (by decide) (fun h34 => ?_) (fun h34 => ?_)
      · refine ww_aload_n C dX6_in_40 rfl 0 rfl ?_
        refine ww_iload_n C dX6_in_41 rfl 1 rfl ?_
        refine ww_iconst (v := 1) C dX6_in_42 rfl ?_
        refine ww_iload_n C dX6_in_43 rfl 2 rfl ?_
        refine ww_iload_n C dX6_in_44 rfl 3 rfl ?_
        refine ww_calliF (cx_V (n := 4) (As := [.int (nI p), .int (1), .int (u), .int (v)]) C  (c_X6_lies (kL K) G hA _ p n hp hs h3 hn _ _ _) gX6_in_X6_lies rfl ⟨rfl, rfl⟩ (by decide +kernel) (by decide) rfl (by decide) rfl rfl rfl (Nat.le_of_ble_eq_true rfl) dX6_in_45) ?_
        refine ww_iret C dX6_in_48 ?_
        exact ⟨by rw [inR, if_pos ⟨of_decide_eq_true (bI_1.mp h21), of_decide_eq_true (bI_1.mp h34)⟩], rfl⟩
      · refine ww_bipush (v := -3) C dX6_in_37 (by decide) ?_
        refine ww_iret C dX6_in_39 ?_
        exact ⟨by rw [inR, if_neg (fun q => of_decide_eq_false (bI_0.mp h34) q.2)], rfl⟩
  · exact absurd (kn_p hpc hc8) (of_decide_eq_false (bI_0.mp h5))
set_option maxHeartbeats 4000000 in
set_option maxRecDepth 100000 in
theorem c_X6_in_n (l : Launch) (G : Gx) (hA : wa G) (σ : Sg) (cnt : Nat) (hc : σ 30 0 3 = nI cnt) (hc8 : cnt ≤ 8) (x : Int32) (hu : ¬ (0 ≤ x ∧ x < nI cnt)) (u v : Int32) : CtI l yX6_in wsX6_in (rmd 4) G [.ref (gA G 30 (0)), .int (x), .int (u), .int (v)] σ (fun r σ2 => r = -2 ∧ σ2 = σ) := by
  refine ct_i (maxL := 4) (ret := (some .int)) (by decide) rfl (Nat.le_of_ble_eq_true rfl) hA (fun K hl C => ?_)
  subst hl
  change WW K G _ _ σ [(0, .ref (gA G 30 (0))), (1, .int (x)), (2, .int (u)), (3, .int (v))] 0 []
  refine ww_aload_n C dX6_in_0 rfl 0 rfl ?_
  refine ww_iload_n C dX6_in_1 rfl 1 rfl ?_
  refine ww_calliF (cx_V (n := 1) (As := [.int (x)]) C  (c_X6_isPolygon (kL K) G hA _ cnt hc hc8 _) gX6_in_X6_isPolygon rfl ⟨rfl, rfl⟩ (by decide +kernel) (by decide) rfl (by decide) rfl rfl rfl (Nat.le_of_ble_eq_true rfl) dX6_in_2) ?_
  refine ww_if_ne 11 C dX6_in_5 (by decide) (fun h5 => ?_) (fun h5 => ?_)
  · exact absurd (of_decide_eq_true (bI_1.mp h5)) hu
  · refine ww_bipush (v := -2) C dX6_in_8 (by decide) ?_
    refine ww_iret C dX6_in_10 ?_
    exact ⟨rfl, rfl⟩
