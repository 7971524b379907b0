theorem in_X5_at_X3 : ∀ w ∈ wsX30, w ∈ wsX5_at := by decide +kernel
theorem lk_X5_at_93 : Cond.fieldLink RX5 93 "PolyCuts$Shape" "corners" "LPolyCuts$Corners;" ∈ wsX5_at := by decide +kernel
theorem in_X5_sees_X3 : ∀ w ∈ wsX30, w ∈ wsX5_sees := by decide +kernel
theorem lk_X5_sees_93 : Cond.fieldLink RX5 93 "PolyCuts$Shape" "corners" "LPolyCuts$Corners;" ∈ wsX5_sees := by decide +kernel
theorem lk_X5_sees_134 : Cond.fieldLink RX5 134 "PolyCuts$Shape" "sight" "[[I" ∈ wsX5_sees := by decide +kernel
theorem lc_X5_centroid_36 : Jvm.Cond.constantLong RX5 114 3 ∈ wsX5_centroid := by decide +kernel
theorem in_X5_centroid_X3 : ∀ w ∈ wsX30, w ∈ wsX5_centroid := by decide +kernel
theorem lk_X5_centroid_107 : Cond.fieldLink RX5 107 "PolyCuts$Shape" "doubleArea" "I" ∈ wsX5_centroid := by decide +kernel
theorem in_X5_triangle_X3 : ∀ w ∈ wsX30, w ∈ wsX5_triangle := by decide +kernel
theorem lk_X5_triangle_165 : Cond.fieldLink RX5 165 "PolyCuts$Shape" "triangleTo" "[I" ∈ wsX5_triangle := by decide +kernel
theorem lk_X5_triangle_162 : Cond.fieldLink RX5 162 "PolyCuts$Shape" "triangleFrom" "[I" ∈ wsX5_triangle := by decide +kernel
theorem lk_X5_triangle_159 : Cond.fieldLink RX5 159 "PolyCuts$Shape" "triangleThird" "[I" ∈ wsX5_triangle := by decide +kernel
theorem in_X5_diagonal_X3 : ∀ w ∈ wsX30, w ∈ wsX5_diagonal := by decide +kernel
theorem lk_X5_diagonal_177 : Cond.fieldLink RX5 177 "PolyCuts$Shape" "diagonalGreater" "[I" ∈ wsX5_diagonal := by decide +kernel
theorem lk_X5_diagonal_174 : Cond.fieldLink RX5 174 "PolyCuts$Shape" "diagonalLesser" "[I" ∈ wsX5_diagonal := by decide +kernel
theorem lk_X5_diagonal_171 : Cond.fieldLink RX5 171 "PolyCuts$Shape" "diagonalStays" "[I" ∈ wsX5_diagonal := by decide +kernel
def cornR (n : Nat) (c : Int32) (v : Nat → Int32) : Int32 := if 0 ≤ c ∧ c < nI n then v c.toNatClampNeg else -2
theorem cornR_f {n : Nat} {c : Int32} {v : Nat → Int32} (h : bI (decide (0 ≤ c ∧ c < nI n)) = 0) : cornR n c v = -2 := if_neg (of_decide_eq_false (bI_0.mp h))
theorem cornR_t {n j : Nat} {v : Nat → Int32} (hj : j < n) (hn : n ≤ 14) : cornR n (nI j) v = v j := by
  rw [cornR, if_pos ⟨nI_pos' (by omega), nI_lt hj (by omega)⟩, nI_clamp (by omega)]
set_option maxHeartbeats 4000000 in
set_option maxRecDepth 100000 in
theorem c_X5_at_0 (l : Launch) (G : Gx) (hA : wa G) (σ : Sg) (cnt p n : Nat) (hc : σ 0 0 5 = nI cnt) (hc8 : cnt ≤ 8) (hpc : p < cnt) (hp : p < 8) (hs : σ 14 (p + 1) 2 = nI n) (hn : n ≤ 14) (c : Int32) : CtI l yX5_at wsX5_at (rmd 2) G [.ref (gA G 0 (0)), .int (nI p), .int (c), .int (0)] σ (fun r σ2 => r = cornR n c (σ 15 (p + 1)) ∧ σ2 = σ) := by
  refine ct_i (maxL := 5) (ret := (some .int)) (by decide) rfl (Nat.le_of_ble_eq_true rfl) hA (fun K hl C => ?_)
  subst hl
  change WW K G _ _ σ [(0, .ref (gA G 0 (0))), (1, .int (nI p)), (2, .int (c)), (3, .int (0))] 0 []
  refine ww_aload_n C dX5_at_0 rfl 0 rfl ?_
  refine ww_iload_n C dX5_at_1 rfl 1 rfl ?_
  refine ww_callqR (cx_V (n := 1) (As := [.int (nI p)]) C  (c_X5_shapeOf_s (kL K) G hA _ cnt p hc hc8 hpc) gX5_at_X5_shapeOf rfl ⟨rfl, rfl⟩ (by decide +kernel) (by decide) rfl (by decide) rfl rfl rfl (Nat.le_of_ble_eq_true rfl) dX5_at_2) ?_
  refine ww_astore [(4, .ref (gA G 17 (p))), (0, .ref (gA G 0 (0))), (1, .int (nI p)), (2, .int (c)), (3, .int (0))] C dX5_at_5 (by decide) rfl ?_
  refine ww_aload C dX5_at_7 0 rfl ?_
  refine ww_ifnull C dX5_at_9 ?_
  refine ww_aload C dX5_at_12 0 rfl ?_
  refine ww_gr (j := p + 1) (k := 17) (f := 0) C rfl rfl hp rfl in_X5_at_X3 (by decide) lk_X5_at_93 dX5_at_14 rfl ?_
  refine ww_iload_n C dX5_at_17 rfl 3 rfl ?_
  refine ww_calliF (cx_V (n := 1) (As := [.int (c)]) C  (c_X1_has (kL K) G hA _ (p + 1) n (Nat.add_lt_add_right hp 1) hs hn _) gX5_at_X1_has rfl ⟨rfl, rfl⟩ (by decide +kernel) (by decide) rfl (Nat.add_lt_add_right hp 1) rfl rfl rfl (Nat.le_of_ble_eq_true rfl) dX5_at_18) ?_
  refine ww_if_ne 27 C dX5_at_21 (by decide) (fun h21 => ?_) (fun h21 => ?_)
  · obtain ⟨j, hj, rfl⟩ := ix_of (of_decide_eq_true (bI_1.mp h21)) hn
    refine ww_iload_n C dX5_at_27 rfl 4 rfl ?_
    refine ww_calliF (cx_S (n := 1) (As := [.int (0)]) C  (c_X5_isZeroOrOne (kL K) G hA _ _) gX5_at_X5_isZeroOrOne rfl ⟨rfl, rfl⟩ (by decide +kernel) (by decide) rfl rfl (Nat.le_of_ble_eq_true rfl) dX5_at_28) ?_
    refine ww_if_ne 37 C dX5_at_31 (by decide) (fun h31 => ?_) (fun h31 => ?_)
    · refine ww_aload C dX5_at_37 0 rfl ?_
      refine ww_gr (j := p + 1) (k := 17) (f := 0) C rfl rfl hp rfl in_X5_at_X3 (by decide) lk_X5_at_93 dX5_at_39 rfl ?_
      refine ww_iload_n C dX5_at_42 rfl 4 rfl ?_
      refine ww_callqR (cx_V (n := 1) (As := [.int (0)]) C  (c_X1_along_0 (kL K) G hA _ _ (Nat.add_lt_add_right hp 1)) gX5_at_X1_along rfl ⟨rfl, rfl⟩ (by decide +kernel) (by decide) rfl (Nat.add_lt_add_right hp 1) rfl rfl rfl (Nat.le_of_ble_eq_true rfl) dX5_at_43) ?_
      refine ww_iload_n C dX5_at_46 rfl 3 rfl ?_
      refine ww_iald (k := 15) (j := j) C rfl (Nat.add_lt_add_right hp 1) (by decide) dX5_at_47 rfl (by omega) ?_
      refine ww_iret C dX5_at_48 ?_
      exact ⟨by rw [cornR_t hj hn], rfl⟩
    · exact absurd h31 (by decide)
  · refine ww_bipush (v := -2) C dX5_at_24 (by decide) ?_
    refine ww_iret C dX5_at_26 ?_
    exact ⟨by rw [cornR_f h21], rfl⟩
set_option maxHeartbeats 4000000 in
set_option maxRecDepth 100000 in
theorem c_X5_at_1 (l : Launch) (G : Gx) (hA : wa G) (σ : Sg) (cnt p n : Nat) (hc : σ 0 0 5 = nI cnt) (hc8 : cnt ≤ 8) (hpc : p < cnt) (hp : p < 8) (hs : σ 14 (p + 1) 2 = nI n) (hn : n ≤ 14) (c : Int32) : CtI l yX5_at wsX5_at (rmd 2) G [.ref (gA G 0 (0)), .int (nI p), .int (c), .int (1)] σ (fun r σ2 => r = cornR n c (σ 16 (p + 1)) ∧ σ2 = σ) := by
  refine ct_i (maxL := 5) (ret := (some .int)) (by decide) rfl (Nat.le_of_ble_eq_true rfl) hA (fun K hl C => ?_)
  subst hl
  change WW K G _ _ σ [(0, .ref (gA G 0 (0))), (1, .int (nI p)), (2, .int (c)), (3, .int (1))] 0 []
  refine ww_aload_n C dX5_at_0 rfl 0 rfl ?_
  refine ww_iload_n C dX5_at_1 rfl 1 rfl ?_
  refine ww_callqR (cx_V (n := 1) (As := [.int (nI p)]) C  (c_X5_shapeOf_s (kL K) G hA _ cnt p hc hc8 hpc) gX5_at_X5_shapeOf rfl ⟨rfl, rfl⟩ (by decide +kernel) (by decide) rfl (by decide) rfl rfl rfl (Nat.le_of_ble_eq_true rfl) dX5_at_2) ?_
  refine ww_astore [(4, .ref (gA G 17 (p))), (0, .ref (gA G 0 (0))), (1, .int (nI p)), (2, .int (c)), (3, .int (1))] C dX5_at_5 (by decide) rfl ?_
  refine ww_aload C dX5_at_7 0 rfl ?_
  refine ww_ifnull C dX5_at_9 ?_
  refine ww_aload C dX5_at_12 0 rfl ?_
  refine ww_gr (j := p + 1) (k := 17) (f := 0) C rfl rfl hp rfl in_X5_at_X3 (by decide) lk_X5_at_93 dX5_at_14 rfl ?_
  refine ww_iload_n C dX5_at_17 rfl 3 rfl ?_
  refine ww_calliF (cx_V (n := 1) (As := [.int (c)]) C  (c_X1_has (kL K) G hA _ (p + 1) n (Nat.add_lt_add_right hp 1) hs hn _) gX5_at_X1_has rfl ⟨rfl, rfl⟩ (by decide +kernel) (by decide) rfl (Nat.add_lt_add_right hp 1) rfl rfl rfl (Nat.le_of_ble_eq_true rfl) dX5_at_18) ?_
  refine ww_if_ne 27 C dX5_at_21 (by decide) (fun h21 => ?_) (fun h21 => ?_)
  · obtain ⟨j, hj, rfl⟩ := ix_of (of_decide_eq_true (bI_1.mp h21)) hn
    refine ww_iload_n C dX5_at_27 rfl 4 rfl ?_
    refine ww_calliF (cx_S (n := 1) (As := [.int (1)]) C  (c_X5_isZeroOrOne (kL K) G hA _ _) gX5_at_X5_isZeroOrOne rfl ⟨rfl, rfl⟩ (by decide +kernel) (by decide) rfl rfl (Nat.le_of_ble_eq_true rfl) dX5_at_28) ?_
    refine ww_if_ne 37 C dX5_at_31 (by decide) (fun h31 => ?_) (fun h31 => ?_)
    · refine ww_aload C dX5_at_37 0 rfl ?_
      refine ww_gr (j := p + 1) (k := 17) (f := 0) C rfl rfl hp rfl in_X5_at_X3 (by decide) lk_X5_at_93 dX5_at_39 rfl ?_
      refine ww_iload_n C dX5_at_42 rfl 4 rfl ?_
      refine ww_callqR (cx_V (n := 1) (As := [.int (1)]) C  (c_X1_along_1 (kL K) G hA _ _ (Nat.add_lt_add_right hp 1)) gX5_at_X1_along rfl ⟨rfl, rfl⟩ (by decide +kernel) (by decide) rfl (Nat.add_lt_add_right hp 1) rfl rfl rfl (Nat.le_of_ble_eq_true rfl) dX5_at_43) ?_
      refine ww_iload_n C dX5_at_46 rfl 3 rfl ?_
      refine ww_iald (k := 16) (j := j) C rfl (Nat.add_lt_add_right hp 1) (by decide) dX5_at_47 rfl (by omega) ?_
      refine ww_iret C dX5_at_48 ?_
      exact ⟨by rw [cornR_t hj hn], rfl⟩
    · exact absurd h31 (by decide)
  · refine ww_bipush (v := -2) C dX5_at_24 (by decide) ?_
    refine ww_iret C dX5_at_26 ?_
    exact ⟨by rw [cornR_f h21], rfl⟩
set_option maxHeartbeats 4000000 in
set_option maxRecDepth 100000 in
theorem c_X5_at_o (l : Launch) (G : Gx) (hA : wa G) (σ : Sg) (cnt p n : Nat) (hc : σ 0 0 5 = nI cnt) (hc8 : cnt ≤ 8) (hpc : p < cnt) (hp : p < 8) (hs : σ 14 (p + 1) 2 = nI n) (hn : n ≤ 14) (c w : Int32) (hw : ¬ (w = 0 ∨ w = 1)) : CtI l yX5_at wsX5_at (rmd 2) G [.ref (gA G 0 (0)), .int (nI p), .int (c), .int (w)] σ (fun r σ2 => r = cornR n c (fun _ => -3) ∧ σ2 = σ) := by
  refine ct_i (maxL := 5) (ret := (some .int)) (by decide) rfl (Nat.le_of_ble_eq_true rfl) hA (fun K hl C => ?_)
  subst hl
  change WW K G _ _ σ [(0, .ref (gA G 0 (0))), (1, .int (nI p)), (2, .int (c)), (3, .int (w))] 0 []
  refine ww_aload_n C dX5_at_0 rfl 0 rfl ?_
  refine ww_iload_n C dX5_at_1 rfl 1 rfl ?_
  refine ww_callqR (cx_V (n := 1) (As := [.int (nI p)]) C  (c_X5_shapeOf_s (kL K) G hA _ cnt p hc hc8 hpc) gX5_at_X5_shapeOf rfl ⟨rfl, rfl⟩ (by decide +kernel) (by decide) rfl (by decide) rfl rfl rfl (Nat.le_of_ble_eq_true rfl) dX5_at_2) ?_
  refine ww_astore [(4, .ref (gA G 17 (p))), (0, .ref (gA G 0 (0))), (1, .int (nI p)), (2, .int (c)), (3, .int (w))] C dX5_at_5 (by decide) rfl ?_
  refine ww_aload C dX5_at_7 0 rfl ?_
  refine ww_ifnull C dX5_at_9 ?_
  refine ww_aload C dX5_at_12 0 rfl ?_
  refine ww_gr (j := p + 1) (k := 17) (f := 0) C rfl rfl hp rfl in_X5_at_X3 (by decide) lk_X5_at_93 dX5_at_14 rfl ?_
  refine ww_iload_n C dX5_at_17 rfl 3 rfl ?_
  refine ww_calliF (cx_V (n := 1) (As := [.int (c)]) C  (c_X1_has (kL K) G hA _ (p + 1) n (Nat.add_lt_add_right hp 1) hs hn _) gX5_at_X1_has rfl ⟨rfl, rfl⟩ (by decide +kernel) (by decide) rfl (Nat.add_lt_add_right hp 1) rfl rfl rfl (Nat.le_of_ble_eq_true rfl) dX5_at_18) ?_
  refine ww_if_ne 27 C dX5_at_21 (by decide) (fun h21 => ?_) (fun h21 => ?_)
  · obtain ⟨j, hj, rfl⟩ := ix_of (of_decide_eq_true (bI_1.mp h21)) hn
    refine ww_iload_n C dX5_at_27 rfl 4 rfl ?_
    refine ww_calliF (cx_S (n := 1) (As := [.int (w)]) C  (c_X5_isZeroOrOne (kL K) G hA _ _) gX5_at_X5_isZeroOrOne rfl ⟨rfl, rfl⟩ (by decide +kernel) (by decide) rfl rfl (Nat.le_of_ble_eq_true rfl) dX5_at_28) ?_
    refine ww_if_ne 37 C dX5_at_31 (by decide) (fun h31 => ?_) (fun h31 => ?_)
    · exact absurd (of_decide_eq_true (bI_1.mp h31)) hw
    · refine ww_bipush (v := -3) C dX5_at_34 (by decide) ?_
      refine ww_iret C dX5_at_36 ?_
      exact ⟨by rw [cornR_t hj hn], rfl⟩
  · refine ww_bipush (v := -2) C dX5_at_24 (by decide) ?_
    refine ww_iret C dX5_at_26 ?_
    exact ⟨by rw [cornR_f h21], rfl⟩
set_option maxHeartbeats 4000000 in
set_option maxRecDepth 100000 in
theorem c_X5_at_n (l : Launch) (G : Gx) (hA : wa G) (σ : Sg) (cnt : Nat) (hc : σ 0 0 5 = nI cnt) (hc8 : cnt ≤ 8) (x : Int32) (hu : ¬ (0 ≤ x ∧ x < nI cnt)) (c w : Int32) : CtI l yX5_at wsX5_at (rmd 2) G [.ref (gA G 0 (0)), .int (x), .int (c), .int (w)] σ (fun r σ2 => r = -2 ∧ σ2 = σ) := by
  refine ct_i (maxL := 5) (ret := (some .int)) (by decide) rfl (Nat.le_of_ble_eq_true rfl) hA (fun K hl C => ?_)
  subst hl
  change WW K G _ _ σ [(0, .ref (gA G 0 (0))), (1, .int (x)), (2, .int (c)), (3, .int (w))] 0 []
  refine ww_aload_n C dX5_at_0 rfl 0 rfl ?_
  refine ww_iload_n C dX5_at_1 rfl 1 rfl ?_
  refine ww_callqN (cx_V (n := 1) (As := [.int (x)]) C  (c_X5_shapeOf_n (kL K) G hA _ cnt hc hc8 x hu) gX5_at_X5_shapeOf rfl ⟨rfl, rfl⟩ (by decide +kernel) (by decide) rfl (by decide) rfl rfl rfl (Nat.le_of_ble_eq_true rfl) dX5_at_2) ?_
  refine ww_astoreN [(4, .null), (0, .ref (gA G 0 (0))), (1, .int (x)), (2, .int (c)), (3, .int (w))] C dX5_at_5 (by decide) rfl ?_
  refine ww_aloadN C dX5_at_7 0 rfl ?_
  refine ww_ifnullN 24 C dX5_at_9 (by decide) ?_
  refine ww_bipush (v := -2) C dX5_at_24 (by decide) ?_
  refine ww_iret C dX5_at_26 ?_
  exact ⟨rfl, rfl⟩
def pairR (n : Nat) (c d : Int32) (v : Nat → Nat → Int32) : Int32 := cornR n c (fun a => cornR n d (v a))
theorem pair_f1 {n : Nat} {c d : Int32} {v : Nat → Nat → Int32} (h : bI (decide (0 ≤ c ∧ c < nI n)) = 0) : pairR n c d v = -2 := cornR_f h
theorem pair_f2 {n j : Nat} {d : Int32} {v : Nat → Nat → Int32} (hj : j < n) (hn : n ≤ 14) (h : bI (decide (0 ≤ d ∧ d < nI n)) = 0) : pairR n (nI j) d v = -2 := by rw [pairR, cornR_t hj hn, cornR_f h]
theorem pair_t {n i j : Nat} {v : Nat → Nat → Int32} (hi : i < n) (hj : j < n) (hn : n ≤ 14) : pairR n (nI i) (nI j) v = v i j := by rw [pairR, cornR_t hi hn, cornR_t hj hn]
def seesV (s : Nat → Nat → Int32) (a b : Nat) : Int32 := if a = b then -3 else s a b
set_option maxHeartbeats 4000000 in
set_option maxRecDepth 100000 in
theorem c_X5_sees_s (l : Launch) (G : Gx) (hA : wa G) (σ : Sg) (cnt p n : Nat) (hc : σ 0 0 5 = nI cnt) (hc8 : cnt ≤ 8) (hpc : p < cnt) (hp : p < 8) (hs : σ 14 (p + 1) 2 = nI n) (hn : n ≤ 14) (c d : Int32) : CtI l yX5_sees wsX5_sees (rmd 2) G [.ref (gA G 0 (0)), .int (nI p), .int (c), .int (d)] σ (fun r σ2 => r = pairR n c d (seesV (fun a b => σ 19 (14 * p + a) b)) ∧ σ2 = σ) := by
  refine ct_i (maxL := 5) (ret := (some .int)) (by decide) rfl (Nat.le_of_ble_eq_true rfl) hA (fun K hl C => ?_)
  subst hl
  change WW K G _ _ σ [(0, .ref (gA G 0 (0))), (1, .int (nI p)), (2, .int (c)), (3, .int (d))] 0 []
  refine ww_aload_n C dX5_sees_0 rfl 0 rfl ?_
  refine ww_iload_n C dX5_sees_1 rfl 1 rfl ?_
  refine ww_callqR (cx_V (n := 1) (As := [.int (nI p)]) C  (c_X5_shapeOf_s (kL K) G hA _ cnt p hc hc8 hpc) gX5_sees_X5_shapeOf rfl ⟨rfl, rfl⟩ (by decide +kernel) (by decide) rfl (by decide) rfl rfl rfl (Nat.le_of_ble_eq_true rfl) dX5_sees_2) ?_
  refine ww_astore [(4, .ref (gA G 17 (p))), (0, .ref (gA G 0 (0))), (1, .int (nI p)), (2, .int (c)), (3, .int (d))] C dX5_sees_5 (by decide) rfl ?_
  refine ww_aload C dX5_sees_7 0 rfl ?_
  refine ww_ifnull C dX5_sees_9 ?_
  refine ww_aload C dX5_sees_12 0 rfl ?_
  refine ww_gr (j := p + 1) (k := 17) (f := 0) C rfl rfl hp rfl in_X5_sees_X3 (by decide) lk_X5_sees_93 dX5_sees_14 rfl ?_
  refine ww_iload_n C dX5_sees_17 rfl 3 rfl ?_
  refine ww_calliF (cx_V (n := 1) (As := [.int (c)]) C  (c_X1_has (kL K) G hA _ (p + 1) n (Nat.add_lt_add_right hp 1) hs hn _) gX5_sees_X1_has rfl ⟨rfl, rfl⟩ (by decide +kernel) (by decide) rfl (Nat.add_lt_add_right hp 1) rfl rfl rfl (Nat.le_of_ble_eq_true rfl) dX5_sees_18) ?_
  refine ww_if_eq 36 C dX5_sees_21 (by decide) (fun h21 => ?_) (fun h21 => ?_)
  · refine ww_bipush (v := -2) C dX5_sees_36 (by decide) ?_
    refine ww_iret C dX5_sees_38 ?_
    exact ⟨by rw [pair_f1 h21], rfl⟩
  · obtain ⟨i, hi, rfl⟩ := ix_of (of_decide_eq_true (bI_1.mp h21)) hn
    refine ww_aload C dX5_sees_24 0 rfl ?_
    refine ww_gr (j := p + 1) (k := 17) (f := 0) C rfl rfl hp rfl in_X5_sees_X3 (by decide) lk_X5_sees_93 dX5_sees_26 rfl ?_
    refine ww_iload_n C dX5_sees_29 rfl 4 rfl ?_
    refine ww_calliF (cx_V (n := 1) (As := [.int (d)]) C  (c_X1_has (kL K) G hA _ (p + 1) n (Nat.add_lt_add_right hp 1) hs hn _) gX5_sees_X1_has rfl ⟨rfl, rfl⟩ (by decide +kernel) (by decide) rfl (Nat.add_lt_add_right hp 1) rfl rfl rfl (Nat.le_of_ble_eq_true rfl) dX5_sees_30) ?_
    refine ww_if_ne 39 C dX5_sees_33 (by decide) (fun h33 => ?_) (fun h33 => ?_)
    · obtain ⟨j, hj, rfl⟩ := ix_of (of_decide_eq_true (bI_1.mp h33)) hn
      refine ww_iload_n C dX5_sees_39 rfl 3 rfl ?_
      refine ww_iload_n C dX5_sees_40 rfl 4 rfl ?_
      refine ww_icmp_ne 49 C dX5_sees_41 (by decide) (fun h41 => ?_) (fun h41 => ?_)
      · have g41 : ¬ i = j := fun q => h41 ((cv_eq (a := i) (b := j) rfl rfl (by omega) (by omega)).mpr q)
        refine ww_aload C dX5_sees_49 0 rfl ?_
        refine ww_gr (j := p) (k := 17) (f := 1) C rfl rfl hp rfl in_X5_sees_X3 (by decide) lk_X5_sees_134 dX5_sees_51 rfl ?_
        refine ww_iload_n C dX5_sees_54 rfl 3 rfl ?_
        refine ww_aald (k := 18) (j := i) (j' := 14 * p + i) C rfl (by decide) hp (by decide) dX5_sees_55 rfl (by omega) rfl ?_
        refine ww_iload_n C dX5_sees_56 rfl 4 rfl ?_
        refine ww_iald (k := 19) (j := j) C rfl (dm19 hp (by omega)) (by decide) dX5_sees_57 rfl (by omega) ?_
        refine ww_iret C dX5_sees_58 ?_
        exact ⟨by rw [pair_t hi hj hn, seesV, if_neg g41], rfl⟩
      · have g41 : i = j := (cv_eq (a := i) (b := j) rfl rfl (by omega) (by omega)).mp h41
        refine ww_bipush (v := -3) C dX5_sees_44 (by decide) ?_
        refine ww_goto 58 C dX5_sees_46 (by decide) ?_
        refine ww_iret C dX5_sees_58 ?_
        exact ⟨by rw [pair_t hi hj hn, seesV, if_pos g41], rfl⟩
    · refine ww_bipush (v := -2) C dX5_sees_36 (by decide) ?_
      refine ww_iret C dX5_sees_38 ?_
      exact ⟨by rw [pair_f2 hi hn h33], rfl⟩
set_option maxHeartbeats 4000000 in
set_option maxRecDepth 100000 in
theorem c_X5_sees_n (l : Launch) (G : Gx) (hA : wa G) (σ : Sg) (cnt : Nat) (hc : σ 0 0 5 = nI cnt) (hc8 : cnt ≤ 8) (x : Int32) (hu : ¬ (0 ≤ x ∧ x < nI cnt)) (c d : Int32) : CtI l yX5_sees wsX5_sees (rmd 2) G [.ref (gA G 0 (0)), .int (x), .int (c), .int (d)] σ (fun r σ2 => r = -2 ∧ σ2 = σ) := by
  refine ct_i (maxL := 5) (ret := (some .int)) (by decide) rfl (Nat.le_of_ble_eq_true rfl) hA (fun K hl C => ?_)
  subst hl
  change WW K G _ _ σ [(0, .ref (gA G 0 (0))), (1, .int (x)), (2, .int (c)), (3, .int (d))] 0 []
  refine ww_aload_n C dX5_sees_0 rfl 0 rfl ?_
  refine ww_iload_n C dX5_sees_1 rfl 1 rfl ?_
  refine ww_callqN (cx_V (n := 1) (As := [.int (x)]) C  (c_X5_shapeOf_n (kL K) G hA _ cnt hc hc8 x hu) gX5_sees_X5_shapeOf rfl ⟨rfl, rfl⟩ (by decide +kernel) (by decide) rfl (by decide) rfl rfl rfl (Nat.le_of_ble_eq_true rfl) dX5_sees_2) ?_
  refine ww_astoreN [(4, .null), (0, .ref (gA G 0 (0))), (1, .int (x)), (2, .int (c)), (3, .int (d))] C dX5_sees_5 (by decide) rfl ?_
  refine ww_aloadN C dX5_sees_7 0 rfl ?_
  refine ww_ifnullN 36 C dX5_sees_9 (by decide) ?_
  refine ww_bipush (v := -2) C dX5_sees_36 (by decide) ?_
  refine ww_iret C dX5_sees_38 ?_
  exact ⟨rfl, rfl⟩
theorem neg_ne {a : Int64} (h : ¬ a = 0) : ¬ -a = 0 := fun q => by
  have h2 : - -a = -0 := congrArg (fun z => -z) q
  rw [Int64.neg_neg] at h2
  exact h (h2.trans (by decide))
def cenR (ab be : Int64) (w : Int32) : Int64 := if gcdC ab be = 0 then 0 else if w = 0 then ab / (if be < 0 then -gcdC ab be else gcdC ab be) else if w = 1 then be / (if be < 0 then -gcdC ab be else gcdC ab be) else 0
set_option maxHeartbeats 4000000 in
set_option maxRecDepth 100000 in
theorem c_X5_centroid_0 (l : Launch) (G : Gx) (hA : wa G) (σ : Sg) (cnt p n : Nat) (hc : σ 0 0 5 = nI cnt) (hc8 : cnt ≤ 8) (hpc : p < cnt) (hp : p < 8) (hs : σ 14 (p + 1) 2 = nI n) (hn : n ≤ 14) (w : Int32) : CtL l yX5_centroid wsX5_centroid (rmd 4) G [.ref (gA G 0 (0)), .int (nI p), .int (0), .int (w)] σ (fun r σ2 => r = (if w = 0 ∨ w = 1 then cenR (sumL (momF n (σ 15 (p + 1)) (σ 15 (p + 1)) (σ 16 (p + 1))) n) (3 * (σ 17 p 2).toInt64) w else 0) ∧ σ2 = σ) := by
  refine ct_l (maxL := 13) (ret := (some .long)) (by decide) rfl (Nat.le_of_ble_eq_true rfl) hA (fun K hl C => ?_)
  subst hl
  change WW K G _ _ σ [(0, .ref (gA G 0 (0))), (1, .int (nI p)), (2, .int (0)), (3, .int (w))] 0 []
  refine ww_aload_n C dX5_centroid_0 rfl 0 rfl ?_
  refine ww_iload_n C dX5_centroid_1 rfl 1 rfl ?_
  refine ww_callqR (cx_V (n := 1) (As := [.int (nI p)]) C  (c_X5_shapeOf_s (kL K) G hA _ cnt p hc hc8 hpc) gX5_centroid_X5_shapeOf rfl ⟨rfl, rfl⟩ (by decide +kernel) (by decide) rfl (by decide) rfl rfl rfl (Nat.le_of_ble_eq_true rfl) dX5_centroid_2) ?_
  refine ww_astore [(4, .ref (gA G 17 (p))), (0, .ref (gA G 0 (0))), (1, .int (nI p)), (2, .int (0)), (3, .int (w))] C dX5_centroid_5 (by decide) rfl ?_
  refine ww_aload C dX5_centroid_7 0 rfl ?_
  refine ww_ifnull C dX5_centroid_9 ?_
  refine ww_iload_n C dX5_centroid_12 rfl 3 rfl ?_
  refine ww_calliF (cx_S (n := 1) (As := [.int (0)]) C  (c_X5_isZeroOrOne (kL K) G hA _ _) gX5_centroid_X5_isZeroOrOne rfl ⟨rfl, rfl⟩ (by decide +kernel) (by decide) rfl rfl (Nat.le_of_ble_eq_true rfl) dX5_centroid_13) ?_
  refine ww_if_eq 26 C dX5_centroid_16 (by decide) (fun h16 => ?_) (fun h16 => ?_)
  · exact absurd h16 (by decide)
  · refine ww_iload_n C dX5_centroid_19 rfl 4 rfl ?_
    refine ww_calliF (cx_S (n := 1) (As := [.int (w)]) C  (c_X5_isZeroOrOne (kL K) G hA _ _) gX5_centroid_X5_isZeroOrOne rfl ⟨rfl, rfl⟩ (by decide +kernel) (by decide) rfl rfl (Nat.le_of_ble_eq_true rfl) dX5_centroid_20) ?_
    refine ww_if_ne 28 C dX5_centroid_23 (by decide) (fun h23 => ?_) (fun h23 => ?_)
    · have hz := of_decide_eq_true (bI_1.mp h23)
      refine ww_aload C dX5_centroid_28 0 rfl ?_
      refine ww_iload_n C dX5_centroid_30 rfl 3 rfl ?_
      refine ww_calllF (cx_V (n := 1) (As := [.int (0)]) C  (c_X3_centroidMoment_0 (kL K) G hA _ p n hp hs hn) gX5_centroid_X3_centroidMoment rfl ⟨rfl, rfl⟩ (by decide +kernel) (by decide) rfl hp rfl rfl rfl (Nat.le_of_ble_eq_true rfl) dX5_centroid_31) ?_
      refine ww_lstore (fun y1 => [(5, .long (y1)), (4, .ref (gA G 17 (p))), (0, .ref (gA G 0 (0))), (1, .int (nI p)), (2, .int (0)), (3, .int (w))]) C dX5_centroid_34 (by decide) (fun _ => rfl) (fun y1 ey1 => ?_)
      rw [ey1]; clear ey1 y1
      refine ww_ldc2 (v := 3) C lc_X5_centroid_36 dX5_centroid_36 ?_
      refine ww_aload C dX5_centroid_39 1 rfl ?_
      refine ww_gi (k := 17) (f := 2) C rfl rfl hp rfl in_X5_centroid_X3 (by decide) lk_X5_centroid_107 dX5_centroid_41 ?_
      refine ww_i2l C dX5_centroid_44 ?_
      refine ww_lmul C dX5_centroid_45 ?_
      refine ww_lstore (fun y2 => [(7, .long (y2)), (5, .long (sumL (momF n (σ 15 (p + 1)) (σ 15 (p + 1)) (σ 16 (p + 1))) n)), (4, .ref (gA G 17 (p))), (0, .ref (gA G 0 (0))), (1, .int (nI p)), (2, .int (0)), (3, .int (w))]) C dX5_centroid_46 (by decide) (fun _ => rfl) (fun y2 ey2 => ?_)
      rw [ey2]; clear ey2 y2
      refine ww_lload C dX5_centroid_48 1 rfl ?_
      refine ww_lload C dX5_centroid_50 0 rfl ?_
      refine ww_calllF (cx_S (n := 2) (As := [.long (sumL (momF n (σ 15 (p + 1)) (σ 15 (p + 1)) (σ 16 (p + 1))) n), .long ((3) * ((σ 17 (p) 2).toInt64))]) C  (c_X5_greatestDivisor (kL K) G hA _ _ _) gX5_centroid_X5_greatestDivisor rfl ⟨rfl, rfl⟩ (by decide +kernel) (by decide) rfl rfl (Nat.le_of_ble_eq_true rfl) dX5_centroid_52) ?_
      refine ww_lstore (fun y3 => [(9, .long (y3)), (7, .long ((3) * ((σ 17 (p) 2).toInt64))), (5, .long (sumL (momF n (σ 15 (p + 1)) (σ 15 (p + 1)) (σ 16 (p + 1))) n)), (4, .ref (gA G 17 (p))), (0, .ref (gA G 0 (0))), (1, .int (nI p)), (2, .int (0)), (3, .int (w))]) C dX5_centroid_55 (by decide) (fun _ => rfl) (fun y3 ey3 => ?_)
      rw [ey3]; clear ey3 y3
      refine ww_lload C dX5_centroid_57 0 rfl ?_
      refine ww_lconst (v := 0) C dX5_centroid_59 rfl ?_
      refine ww_lcmp C dX5_centroid_60 ?_
      refine ww_if_ne 66 C dX5_centroid_61 (by decide) (fun h61 => ?_) (fun h61 => ?_)
      · have hg0 : ¬ gcdC (sumL (momF n (σ 15 (p + 1)) (σ 15 (p + 1)) (σ 16 (p + 1))) n) (3 * (σ 17 p 2).toInt64) = 0 := fun q => h61 ((lg_cmp_eq _ _).mpr q)
        refine ww_lload C dX5_centroid_66 1 rfl ?_
        refine ww_lconst (v := 0) C dX5_centroid_68 rfl ?_
        refine ww_lcmp C dX5_centroid_69 ?_
        refine ww_if_ge 79 C dX5_centroid_70 (by decide) (fun h70 => ?_) (fun h70 => ?_)
        · refine ww_lload C dX5_centroid_79 0 rfl ?_
          refine ww_lstore (fun y4 => [(11, .long (y4)), (9, .long (gcdC (sumL (momF n (σ 15 (p + 1)) (σ 15 (p + 1)) (σ 16 (p + 1))) n) ((3) * ((σ 17 (p) 2).toInt64)))), (7, .long ((3) * ((σ 17 (p) 2).toInt64))), (5, .long (sumL (momF n (σ 15 (p + 1)) (σ 15 (p + 1)) (σ 16 (p + 1))) n)), (4, .ref (gA G 17 (p))), (0, .ref (gA G 0 (0))), (1, .int (nI p)), (2, .int (0)), (3, .int (w))]) C dX5_centroid_81 (by decide) (fun _ => rfl) (fun y4 ey4 => ?_)
          rw [ey4]; clear ey4 y4
          refine ww_iload_n C dX5_centroid_83 rfl 8 rfl ?_
          refine ww_if_ne 92 C dX5_centroid_84 (by decide) (fun h84 => ?_) (fun h84 => ?_)
          · refine ww_lload C dX5_centroid_92 2 rfl ?_
            refine ww_lload C dX5_centroid_94 0 rfl ?_
            refine ww_ldiv C dX5_centroid_96 (by first | exact hg0 | exact neg_ne hg0) ?_
            refine ww_lret C dX5_centroid_97 ?_
            exact ⟨by rw [if_pos hz, cenR, if_neg hg0, if_neg h84, if_pos (hz.resolve_left h84), if_neg (fun q => absurd ((lg_cmp_ge _ _).mp h70) (Int64.not_le.mpr q))], rfl⟩
          · refine ww_lload C dX5_centroid_87 3 rfl ?_
            refine ww_goto 94 C dX5_centroid_89 (by decide) ?_
            refine ww_lload C dX5_centroid_94 0 rfl ?_
            refine ww_ldiv C dX5_centroid_96 (by first | exact hg0 | exact neg_ne hg0) ?_
            refine ww_lret C dX5_centroid_97 ?_
            exact ⟨by rw [if_pos hz, cenR, if_neg hg0, if_pos h84, if_neg (fun q => absurd ((lg_cmp_ge _ _).mp h70) (Int64.not_le.mpr q))], rfl⟩
        · refine ww_lload C dX5_centroid_73 0 rfl ?_
          refine ww_lneg C dX5_centroid_75 ?_
          refine ww_goto 81 C dX5_centroid_76 (by decide) ?_
          refine ww_lstore (fun y5 => [(11, .long (y5)), (9, .long (gcdC (sumL (momF n (σ 15 (p + 1)) (σ 15 (p + 1)) (σ 16 (p + 1))) n) ((3) * ((σ 17 (p) 2).toInt64)))), (7, .long ((3) * ((σ 17 (p) 2).toInt64))), (5, .long (sumL (momF n (σ 15 (p + 1)) (σ 15 (p + 1)) (σ 16 (p + 1))) n)), (4, .ref (gA G 17 (p))), (0, .ref (gA G 0 (0))), (1, .int (nI p)), (2, .int (0)), (3, .int (w))]) C dX5_centroid_81 (by decide) (fun _ => rfl) (fun y5 ey5 => ?_)
          rw [ey5]; clear ey5 y5
          refine ww_iload_n C dX5_centroid_83 rfl 8 rfl ?_
          refine ww_if_ne 92 C dX5_centroid_84 (by decide) (fun h84 => ?_) (fun h84 => ?_)
          · refine ww_lload C dX5_centroid_92 2 rfl ?_
            refine ww_lload C dX5_centroid_94 0 rfl ?_
            refine ww_ldiv C dX5_centroid_96 (by first | exact hg0 | exact neg_ne hg0) ?_
            refine ww_lret C dX5_centroid_97 ?_
            exact ⟨by rw [if_pos hz, cenR, if_neg hg0, if_neg h84, if_pos (hz.resolve_left h84), if_pos (Int64.not_le.mp (fun q => h70 ((lg_cmp_ge _ _).mpr q)))], rfl⟩
          · refine ww_lload C dX5_centroid_87 3 rfl ?_
            refine ww_goto 94 C dX5_centroid_89 (by decide) ?_
            refine ww_lload C dX5_centroid_94 0 rfl ?_
            refine ww_ldiv C dX5_centroid_96 (by first | exact hg0 | exact neg_ne hg0) ?_
            refine ww_lret C dX5_centroid_97 ?_
            exact ⟨by rw [if_pos hz, cenR, if_neg hg0, if_pos h84, if_pos (Int64.not_le.mp (fun q => h70 ((lg_cmp_ge _ _).mpr q)))], rfl⟩
      · refine ww_lconst (v := 0) C dX5_centroid_64 rfl ?_
        refine ww_lret C dX5_centroid_65 ?_
        exact ⟨by rw [if_pos hz, cenR, if_pos ((lg_cmp_eq _ _).mp h61)], rfl⟩
    · refine ww_lconst (v := 0) C dX5_centroid_26 rfl ?_
      refine ww_lret C dX5_centroid_27 ?_
      exact ⟨by rw [if_neg (of_decide_eq_false (bI_0.mp h23))], rfl⟩
set_option maxHeartbeats 4000000 in
set_option maxRecDepth 100000 in
theorem c_X5_centroid_1 (l : Launch) (G : Gx) (hA : wa G) (σ : Sg) (cnt p n : Nat) (hc : σ 0 0 5 = nI cnt) (hc8 : cnt ≤ 8) (hpc : p < cnt) (hp : p < 8) (hs : σ 14 (p + 1) 2 = nI n) (hn : n ≤ 14) (w : Int32) : CtL l yX5_centroid wsX5_centroid (rmd 4) G [.ref (gA G 0 (0)), .int (nI p), .int (1), .int (w)] σ (fun r σ2 => r = (if w = 0 ∨ w = 1 then cenR (sumL (momF n (σ 16 (p + 1)) (σ 15 (p + 1)) (σ 16 (p + 1))) n) (3 * (σ 17 p 2).toInt64) w else 0) ∧ σ2 = σ) := by
  refine ct_l (maxL := 13) (ret := (some .long)) (by decide) rfl (Nat.le_of_ble_eq_true rfl) hA (fun K hl C => ?_)
  subst hl
  change WW K G _ _ σ [(0, .ref (gA G 0 (0))), (1, .int (nI p)), (2, .int (1)), (3, .int (w))] 0 []
  refine ww_aload_n C dX5_centroid_0 rfl 0 rfl ?_
  refine ww_iload_n C dX5_centroid_1 rfl 1 rfl ?_
  refine ww_callqR (cx_V (n := 1) (As := [.int (nI p)]) C  (c_X5_shapeOf_s (kL K) G hA _ cnt p hc hc8 hpc) gX5_centroid_X5_shapeOf rfl ⟨rfl, rfl⟩ (by decide +kernel) (by decide) rfl (by decide) rfl rfl rfl (Nat.le_of_ble_eq_true rfl) dX5_centroid_2) ?_
  refine ww_astore [(4, .ref (gA G 17 (p))), (0, .ref (gA G 0 (0))), (1, .int (nI p)), (2, .int (1)), (3, .int (w))] C dX5_centroid_5 (by decide) rfl ?_
  refine ww_aload C dX5_centroid_7 0 rfl ?_
  refine ww_ifnull C dX5_centroid_9 ?_
  refine ww_iload_n C dX5_centroid_12 rfl 3 rfl ?_
  refine ww_calliF (cx_S (n := 1) (As := [.int (1)]) C  (c_X5_isZeroOrOne (kL K) G hA _ _) gX5_centroid_X5_isZeroOrOne rfl ⟨rfl, rfl⟩ (by decide +kernel) (by decide) rfl rfl (Nat.le_of_ble_eq_true rfl) dX5_centroid_13) ?_
  refine ww_if_eq 26 C dX5_centroid_16 (by decide) (fun h16 => ?_) (fun h16 => ?_)
  · exact absurd h16 (by decide)
  · refine ww_iload_n C dX5_centroid_19 rfl 4 rfl ?_
    refine ww_calliF (cx_S (n := 1) (As := [.int (w)]) C  (c_X5_isZeroOrOne (kL K) G hA _ _) gX5_centroid_X5_isZeroOrOne rfl ⟨rfl, rfl⟩ (by decide +kernel) (by decide) rfl rfl (Nat.le_of_ble_eq_true rfl) dX5_centroid_20) ?_
    refine ww_if_ne 28 C dX5_centroid_23 (by decide) (fun h23 => ?_) (fun h23 => ?_)
    · have hz := of_decide_eq_true (bI_1.mp h23)
      refine ww_aload C dX5_centroid_28 0 rfl ?_
      refine ww_iload_n C dX5_centroid_30 rfl 3 rfl ?_
      refine ww_calllF (cx_V (n := 1) (As := [.int (1)]) C  (c_X3_centroidMoment_1 (kL K) G hA _ p n hp hs hn) gX5_centroid_X3_centroidMoment rfl ⟨rfl, rfl⟩ (by decide +kernel) (by decide) rfl hp rfl rfl rfl (Nat.le_of_ble_eq_true rfl) dX5_centroid_31) ?_
      refine ww_lstore (fun y1 => [(5, .long (y1)), (4, .ref (gA G 17 (p))), (0, .ref (gA G 0 (0))), (1, .int (nI p)), (2, .int (1)), (3, .int (w))]) C dX5_centroid_34 (by decide) (fun _ => rfl) (fun y1 ey1 => ?_)
      rw [ey1]; clear ey1 y1
      refine ww_ldc2 (v := 3) C lc_X5_centroid_36 dX5_centroid_36 ?_
      refine ww_aload C dX5_centroid_39 1 rfl ?_
      refine ww_gi (k := 17) (f := 2) C rfl rfl hp rfl in_X5_centroid_X3 (by decide) lk_X5_centroid_107 dX5_centroid_41 ?_
      refine ww_i2l C dX5_centroid_44 ?_
      refine ww_lmul C dX5_centroid_45 ?_
      refine ww_lstore (fun y2 => [(7, .long (y2)), (5, .long (sumL (momF n (σ 16 (p + 1)) (σ 15 (p + 1)) (σ 16 (p + 1))) n)), (4, .ref (gA G 17 (p))), (0, .ref (gA G 0 (0))), (1, .int (nI p)), (2, .int (1)), (3, .int (w))]) C dX5_centroid_46 (by decide) (fun _ => rfl) (fun y2 ey2 => ?_)
      rw [ey2]; clear ey2 y2
      refine ww_lload C dX5_centroid_48 1 rfl ?_
      refine ww_lload C dX5_centroid_50 0 rfl ?_
      refine ww_calllF (cx_S (n := 2) (As := [.long (sumL (momF n (σ 16 (p + 1)) (σ 15 (p + 1)) (σ 16 (p + 1))) n), .long ((3) * ((σ 17 (p) 2).toInt64))]) C  (c_X5_greatestDivisor (kL K) G hA _ _ _) gX5_centroid_X5_greatestDivisor rfl ⟨rfl, rfl⟩ (by decide +kernel) (by decide) rfl rfl (Nat.le_of_ble_eq_true rfl) dX5_centroid_52) ?_
      refine ww_lstore (fun y3 => [(9, .long (y3)), (7, .long ((3) * ((σ 17 (p) 2).toInt64))), (5, .long (sumL (momF n (σ 16 (p + 1)) (σ 15 (p + 1)) (σ 16 (p + 1))) n)), (4, .ref (gA G 17 (p))), (0, .ref (gA G 0 (0))), (1, .int (nI p)), (2, .int (1)), (3, .int (w))]) C dX5_centroid_55 (by decide) (fun _ => rfl) (fun y3 ey3 => ?_)
      rw [ey3]; clear ey3 y3
      refine ww_lload C dX5_centroid_57 0 rfl ?_
      refine ww_lconst (v := 0) C dX5_centroid_59 rfl ?_
      refine ww_lcmp C dX5_centroid_60 ?_
      refine ww_if_ne 66 C dX5_centroid_61 (by decide) (fun h61 => ?_) (fun h61 => ?_)
      · have hg0 : ¬ gcdC (sumL (momF n (σ 16 (p + 1)) (σ 15 (p + 1)) (σ 16 (p + 1))) n) (3 * (σ 17 p 2).toInt64) = 0 := fun q => h61 ((lg_cmp_eq _ _).mpr q)
        refine ww_lload C dX5_centroid_66 1 rfl ?_
        refine ww_lconst (v := 0) C dX5_centroid_68 rfl ?_
        refine ww_lcmp C dX5_centroid_69 ?_
        refine ww_if_ge 79 C dX5_centroid_70 (by decide) (fun h70 => ?_) (fun h70 => ?_)
        · refine ww_lload C dX5_centroid_79 0 rfl ?_
          refine ww_lstore (fun y4 => [(11, .long (y4)), (9, .long (gcdC (sumL (momF n (σ 16 (p + 1)) (σ 15 (p + 1)) (σ 16 (p + 1))) n) ((3) * ((σ 17 (p) 2).toInt64)))), (7, .long ((3) * ((σ 17 (p) 2).toInt64))), (5, .long (sumL (momF n (σ 16 (p + 1)) (σ 15 (p + 1)) (σ 16 (p + 1))) n)), (4, .ref (gA G 17 (p))), (0, .ref (gA G 0 (0))), (1, .int (nI p)), (2, .int (1)), (3, .int (w))]) C dX5_centroid_81 (by decide) (fun _ => rfl) (fun y4 ey4 => ?_)
          rw [ey4]; clear ey4 y4
          refine ww_iload_n C dX5_centroid_83 rfl 8 rfl ?_
          refine ww_if_ne 92 C dX5_centroid_84 (by decide) (fun h84 => ?_) (fun h84 => ?_)
          · refine ww_lload C dX5_centroid_92 2 rfl ?_
            refine ww_lload C dX5_centroid_94 0 rfl ?_
            refine ww_ldiv C dX5_centroid_96 (by first | exact hg0 | exact neg_ne hg0) ?_
            refine ww_lret C dX5_centroid_97 ?_
            exact ⟨by rw [if_pos hz, cenR, if_neg hg0, if_neg h84, if_pos (hz.resolve_left h84), if_neg (fun q => absurd ((lg_cmp_ge _ _).mp h70) (Int64.not_le.mpr q))], rfl⟩
          · refine ww_lload C dX5_centroid_87 3 rfl ?_
            refine ww_goto 94 C dX5_centroid_89 (by decide) ?_
            refine ww_lload C dX5_centroid_94 0 rfl ?_
            refine ww_ldiv C dX5_centroid_96 (by first | exact hg0 | exact neg_ne hg0) ?_
            refine ww_lret C dX5_centroid_97 ?_
            exact ⟨by rw [if_pos hz, cenR, if_neg hg0, if_pos h84, if_neg (fun q => absurd ((lg_cmp_ge _ _).mp h70) (Int64.not_le.mpr q))], rfl⟩
        · refine ww_lload C dX5_centroid_73 0 rfl ?_
          refine ww_lneg C dX5_centroid_75 ?_
          refine ww_goto 81 C dX5_centroid_76 (by decide) ?_
          refine ww_lstore (fun y5 => [(11, .long (y5)), (9, .long (gcdC (sumL (momF n (σ 16 (p + 1)) (σ 15 (p + 1)) (σ 16 (p + 1))) n) ((3) * ((σ 17 (p) 2).toInt64)))), (7, .long ((3) * ((σ 17 (p) 2).toInt64))), (5, .long (sumL (momF n (σ 16 (p + 1)) (σ 15 (p + 1)) (σ 16 (p + 1))) n)), (4, .ref (gA G 17 (p))), (0, .ref (gA G 0 (0))), (1, .int (nI p)), (2, .int (1)), (3, .int (w))]) C dX5_centroid_81 (by decide) (fun _ => rfl) (fun y5 ey5 => ?_)
          rw [ey5]; clear ey5 y5
          refine ww_iload_n C dX5_centroid_83 rfl 8 rfl ?_
          refine ww_if_ne 92 C dX5_centroid_84 (by decide) (fun h84 => ?_) (fun h84 => ?_)
          · refine ww_lload C dX5_centroid_92 2 rfl ?_
            refine ww_lload C dX5_centroid_94 0 rfl ?_
            refine ww_ldiv C dX5_centroid_96 (by first | exact hg0 | exact neg_ne hg0) ?_
            refine ww_lret C dX5_centroid_97 ?_
            exact ⟨by rw [if_pos hz, cenR, if_neg hg0, if_neg h84, if_pos (hz.resolve_left h84), if_pos (Int64.not_le.mp (fun q => h70 ((lg_cmp_ge _ _).mpr q)))], rfl⟩
          · refine ww_lload C dX5_centroid_87 3 rfl ?_
            refine ww_goto 94 C dX5_centroid_89 (by decide) ?_
            refine ww_lload C dX5_centroid_94 0 rfl ?_
            refine ww_ldiv C dX5_centroid_96 (by first | exact hg0 | exact neg_ne hg0) ?_
            refine ww_lret C dX5_centroid_97 ?_
            exact ⟨by rw [if_pos hz, cenR, if_neg hg0, if_pos h84, if_pos (Int64.not_le.mp (fun q => h70 ((lg_cmp_ge _ _).mpr q)))], rfl⟩
      · refine ww_lconst (v := 0) C dX5_centroid_64 rfl ?_
        refine ww_lret C dX5_centroid_65 ?_
        exact ⟨by rw [if_pos hz, cenR, if_pos ((lg_cmp_eq _ _).mp h61)], rfl⟩
    · refine ww_lconst (v := 0) C dX5_centroid_26 rfl ?_
      refine ww_lret C dX5_centroid_27 ?_
      exact ⟨by rw [if_neg (of_decide_eq_false (bI_0.mp h23))], rfl⟩
set_option maxHeartbeats 4000000 in
set_option maxRecDepth 100000 in
theorem c_X5_centroid_o (l : Launch) (G : Gx) (hA : wa G) (σ : Sg) (cnt p n : Nat) (hc : σ 0 0 5 = nI cnt) (hc8 : cnt ≤ 8) (hpc : p < cnt) (hp : p < 8) (hs : σ 14 (p + 1) 2 = nI n) (hn : n ≤ 14) (u w : Int32) (hu : ¬ (u = 0 ∨ u = 1)) : CtL l yX5_centroid wsX5_centroid (rmd 4) G [.ref (gA G 0 (0)), .int (nI p), .int (u), .int (w)] σ (fun r σ2 => r = 0 ∧ σ2 = σ) := by
  refine ct_l (maxL := 13) (ret := (some .long)) (by decide) rfl (Nat.le_of_ble_eq_true rfl) hA (fun K hl C => ?_)
  subst hl
  change WW K G _ _ σ [(0, .ref (gA G 0 (0))), (1, .int (nI p)), (2, .int (u)), (3, .int (w))] 0 []
  refine ww_aload_n C dX5_centroid_0 rfl 0 rfl ?_
  refine ww_iload_n C dX5_centroid_1 rfl 1 rfl ?_
  refine ww_callqR (cx_V (n := 1) (As := [.int (nI p)]) C  (c_X5_shapeOf_s (kL K) G hA _ cnt p hc hc8 hpc) gX5_centroid_X5_shapeOf rfl ⟨rfl, rfl⟩ (by decide +kernel) (by decide) rfl (by decide) rfl rfl rfl (Nat.le_of_ble_eq_true rfl) dX5_centroid_2) ?_
  refine ww_astore [(4, .ref (gA G 17 (p))), (0, .ref (gA G 0 (0))), (1, .int (nI p)), (2, .int (u)), (3, .int (w))] C dX5_centroid_5 (by decide) rfl ?_
  refine ww_aload C dX5_centroid_7 0 rfl ?_
  refine ww_ifnull C dX5_centroid_9 ?_
  refine ww_iload_n C dX5_centroid_12 rfl 3 rfl ?_
  refine ww_calliF (cx_S (n := 1) (As := [.int (u)]) C  (c_X5_isZeroOrOne (kL K) G hA _ _) gX5_centroid_X5_isZeroOrOne rfl ⟨rfl, rfl⟩ (by decide +kernel) (by decide) rfl rfl (Nat.le_of_ble_eq_true rfl) dX5_centroid_13) ?_
  refine ww_if_eq 26 C dX5_centroid_16 (by decide) (fun h16 => ?_) (fun h16 => ?_)
  · refine ww_lconst (v := 0) C dX5_centroid_26 rfl ?_
    refine ww_lret C dX5_centroid_27 ?_
    exact ⟨rfl, rfl⟩
  · exact absurd (of_decide_eq_true (bI_1.mp h16)) hu
set_option maxHeartbeats 4000000 in
set_option maxRecDepth 100000 in
theorem c_X5_centroid_n (l : Launch) (G : Gx) (hA : wa G) (σ : Sg) (cnt : Nat) (hc : σ 0 0 5 = nI cnt) (hc8 : cnt ≤ 8) (x : Int32) (hu : ¬ (0 ≤ x ∧ x < nI cnt)) (u w : Int32) : CtL l yX5_centroid wsX5_centroid (rmd 4) G [.ref (gA G 0 (0)), .int (x), .int (u), .int (w)] σ (fun r σ2 => r = 0 ∧ σ2 = σ) := by
  refine ct_l (maxL := 13) (ret := (some .long)) (by decide) rfl (Nat.le_of_ble_eq_true rfl) hA (fun K hl C => ?_)
  subst hl
  change WW K G _ _ σ [(0, .ref (gA G 0 (0))), (1, .int (x)), (2, .int (u)), (3, .int (w))] 0 []
  refine ww_aload_n C dX5_centroid_0 rfl 0 rfl ?_
  refine ww_iload_n C dX5_centroid_1 rfl 1 rfl ?_
  refine ww_callqN (cx_V (n := 1) (As := [.int (x)]) C  (c_X5_shapeOf_n (kL K) G hA _ cnt hc hc8 x hu) gX5_centroid_X5_shapeOf rfl ⟨rfl, rfl⟩ (by decide +kernel) (by decide) rfl (by decide) rfl rfl rfl (Nat.le_of_ble_eq_true rfl) dX5_centroid_2) ?_
  refine ww_astoreN [(4, .null), (0, .ref (gA G 0 (0))), (1, .int (x)), (2, .int (u)), (3, .int (w))] C dX5_centroid_5 (by decide) rfl ?_
  refine ww_aloadN C dX5_centroid_7 0 rfl ?_
  refine ww_ifnullN 26 C dX5_centroid_9 (by decide) ?_
  refine ww_lconst (v := 0) C dX5_centroid_26 rfl ?_
  refine ww_lret C dX5_centroid_27 ?_
  exact ⟨rfl, rfl⟩
def lstR (m : Nat) (t w : Int32) (a b c : Nat → Int32) : Int32 := if 0 ≤ w ∧ w ≤ 2 then (if 0 ≤ t ∧ t < nI m then (if w = 0 then a t.toNatClampNeg else if w = 1 then b t.toNatClampNeg else c t.toNatClampNeg) else -1) else -3
theorem lst_o {m : Nat} {t w : Int32} {a b c : Nat → Int32} (h : ¬ (0 ≤ w ∧ w ≤ 2)) : lstR m t w a b c = -3 := if_neg h
theorem lst_n {m : Nat} {t w : Int32} {a b c : Nat → Int32} (h : 0 ≤ w ∧ w ≤ 2) (ht : ¬ (0 ≤ t ∧ t < nI m)) : lstR m t w a b c = -1 := by rw [lstR, if_pos h, if_neg ht]
theorem lst_t {m j : Nat} {w : Int32} {a b c : Nat → Int32} (h : 0 ≤ w ∧ w ≤ 2) (hj : j < m) (hm : m < 2 ^ 31) : lstR m (nI j) w a b c = if w = 0 then a j else if w = 1 then b j else c j := by
  rw [lstR, if_pos h, if_pos ⟨nI_pos' (by omega), nI_lt hj hm⟩, nI_clamp (by omega)]
theorem w_2 {w : Int32} (h : 0 ≤ w ∧ w ≤ 2) (h0 : ¬ w = 0) (h1 : ¬ w = 1) : w = 2 := by
  obtain ⟨j, hj, e⟩ := nI_of2 (x := w) (M := 2) (n := 2) (by decide) (Int32.not_lt.mpr h.1) h.2
  subst e
  have h3 : ¬ j = 0 := fun q => h0 (by rw [q]; decide)
  have h4 : ¬ j = 1 := fun q => h1 (by rw [q]; decide)
  have h5 : j = 2 := by omega
  rw [h5]; decide
set_option maxHeartbeats 4000000 in
set_option maxRecDepth 100000 in
theorem c_X5_triangle_s (l : Launch) (G : Gx) (hA : wa G) (σ : Sg) (cnt p n : Nat) (hc : σ 0 0 5 = nI cnt) (hc8 : cnt ≤ 8) (hpc : p < cnt) (hp : p < 8) (hs : σ 14 (p + 1) 2 = nI n) (hn : n ≤ 14) (h3 : 3 ≤ n) (t w : Int32) : CtI l yX5_triangle wsX5_triangle (rmd 2) G [.ref (gA G 0 (0)), .int (nI p), .int (t), .int (w)] σ (fun r σ2 => r = lstR (n - 2) t w (σ 20 p) (σ 21 p) (σ 22 p) ∧ σ2 = σ) := by
  refine ct_i (maxL := 5) (ret := (some .int)) (by decide) rfl (Nat.le_of_ble_eq_true rfl) hA (fun K hl C => ?_)
  subst hl
  change WW K G _ _ σ [(0, .ref (gA G 0 (0))), (1, .int (nI p)), (2, .int (t)), (3, .int (w))] 0 []
  refine ww_aload_n C dX5_triangle_0 rfl 0 rfl ?_
  refine ww_iload_n C dX5_triangle_1 rfl 1 rfl ?_
  refine ww_callqR (cx_V (n := 1) (As := [.int (nI p)]) C  (c_X5_shapeOf_s (kL K) G hA _ cnt p hc hc8 hpc) gX5_triangle_X5_shapeOf rfl ⟨rfl, rfl⟩ (by decide +kernel) (by decide) rfl (by decide) rfl rfl rfl (Nat.le_of_ble_eq_true rfl) dX5_triangle_2) ?_
  refine ww_astore [(4, .ref (gA G 17 (p))), (0, .ref (gA G 0 (0))), (1, .int (nI p)), (2, .int (t)), (3, .int (w))] C dX5_triangle_5 (by decide) rfl ?_
  refine ww_aload C dX5_triangle_7 0 rfl ?_
  refine ww_ifnonnull 15 C dX5_triangle_9 (by decide) ?_
  refine ww_iload_n C dX5_triangle_15 rfl 4 rfl ?_
  refine ww_if_lt 24 C dX5_triangle_16 (by decide) (fun h16 => ?_) (fun h16 => ?_)
  · refine ww_bipush (v := -3) C dX5_triangle_24 (by decide) ?_
    refine ww_iret C dX5_triangle_26 ?_
    exact ⟨by rw [lst_o (fun q => absurd h16 (Int32.not_lt.mpr q.1))], rfl⟩
  · refine ww_iload_n C dX5_triangle_19 rfl 4 rfl ?_
    refine ww_iconst (v := 2) C dX5_triangle_20 rfl ?_
    refine ww_icmp_le 27 C dX5_triangle_21 (by decide) (fun h21 => ?_) (fun h21 => ?_)
    · have hw : (0 : Int32) ≤ w ∧ w ≤ 2 := ⟨Int32.not_lt.mp h16, h21⟩
      refine ww_iload_n C dX5_triangle_27 rfl 3 rfl ?_
      refine ww_if_lt 40 C dX5_triangle_28 (by decide) (fun h28 => ?_) (fun h28 => ?_)
      · refine ww_iconst (v := -1) C dX5_triangle_40 rfl ?_
        refine ww_iret C dX5_triangle_41 ?_
        exact ⟨by rw [lst_n hw (fun q => absurd h28 (Int32.not_lt.mpr q.1))], rfl⟩
      · refine ww_iload_n C dX5_triangle_31 rfl 3 rfl ?_
        refine ww_aload C dX5_triangle_32 0 rfl ?_
        refine ww_calliF (cx_V (n := 0) (As := []) C  (c_X3_triangleCount (kL K) G hA _ p n hp hs hn) gX5_triangle_X3_triangleCount rfl ⟨rfl, rfl⟩ (by decide +kernel) (by decide) rfl hp rfl rfl rfl (Nat.le_of_ble_eq_true rfl) dX5_triangle_34) ?_
        refine ww_icmp_lt 42 C dX5_triangle_37 (by decide) (fun h37 => ?_) (fun h37 => ?_)
        · rw [show nI n - 2 = nI (n - 2) from pk_sub (a := n) (b := 2) (by omega)] at h37
          obtain ⟨j, hj, rfl⟩ := ix_of ⟨Int32.not_lt.mp h28, h37⟩ (show n - 2 ≤ 14 by omega)
          refine ww_iload_n C dX5_triangle_42 rfl 4 rfl ?_
          refine ww_iconst (v := 1) C dX5_triangle_43 rfl ?_
          refine ww_icmp_ne 55 C dX5_triangle_44 (by decide) (fun h44 => ?_) (fun h44 => ?_)
          · refine ww_iload_n C dX5_triangle_55 rfl 4 rfl ?_
            refine ww_if_ne 69 C dX5_triangle_56 (by decide) (fun h56 => ?_) (fun h56 => ?_)
            · refine ww_aload C dX5_triangle_69 0 rfl ?_
              refine ww_gr (j := p) (k := 17) (f := 8) C rfl rfl hp rfl in_X5_triangle_X3 (by decide) lk_X5_triangle_165 dX5_triangle_71 rfl ?_
              refine ww_iload_n C dX5_triangle_74 rfl 3 rfl ?_
              refine ww_iald (k := 22) (j := j) C rfl hp (by decide) dX5_triangle_75 rfl (by omega) ?_
              refine ww_iret C dX5_triangle_76 ?_
              exact ⟨by rw [lst_t hw hj (by omega), if_neg h56, if_neg h44], rfl⟩
            · refine ww_aload C dX5_triangle_59 0 rfl ?_
              refine ww_gr (j := p) (k := 17) (f := 6) C rfl rfl hp rfl in_X5_triangle_X3 (by decide) lk_X5_triangle_162 dX5_triangle_61 rfl ?_
              refine ww_iload_n C dX5_triangle_64 rfl 3 rfl ?_
              refine ww_iald (k := 20) (j := j) C rfl hp (by decide) dX5_triangle_65 rfl (by omega) ?_
              refine ww_goto 76 C dX5_triangle_66 (by decide) ?_
              refine ww_iret C dX5_triangle_76 ?_
              exact ⟨by rw [lst_t hw hj (by omega), if_pos h56], rfl⟩
          · refine ww_aload C dX5_triangle_47 0 rfl ?_
            refine ww_gr (j := p) (k := 17) (f := 7) C rfl rfl hp rfl in_X5_triangle_X3 (by decide) lk_X5_triangle_159 dX5_triangle_49 rfl ?_
            refine ww_iload_n C dX5_triangle_52 rfl 3 rfl ?_
            refine ww_iald (k := 21) (j := j) C rfl hp (by decide) dX5_triangle_53 rfl (by omega) ?_
            refine ww_iret C dX5_triangle_54 ?_
            exact ⟨by rw [lst_t hw hj (by omega), if_neg (by rw [h44]; decide), if_pos h44], rfl⟩
        · refine ww_iconst (v := -1) C dX5_triangle_40 rfl ?_
          refine ww_iret C dX5_triangle_41 ?_
          exact ⟨by rw [lst_n hw (fun q => h37 (by rw [show nI n - 2 = nI (n - 2) from pk_sub (a := n) (b := 2) (by omega)]; exact q.2))], rfl⟩
    · refine ww_bipush (v := -3) C dX5_triangle_24 (by decide) ?_
      refine ww_iret C dX5_triangle_26 ?_
      exact ⟨by rw [lst_o (fun q => h21 q.2)], rfl⟩
set_option maxHeartbeats 4000000 in
set_option maxRecDepth 100000 in
theorem c_X5_triangle_n (l : Launch) (G : Gx) (hA : wa G) (σ : Sg) (cnt : Nat) (hc : σ 0 0 5 = nI cnt) (hc8 : cnt ≤ 8) (x : Int32) (hu : ¬ (0 ≤ x ∧ x < nI cnt)) (t w : Int32) : CtI l yX5_triangle wsX5_triangle (rmd 2) G [.ref (gA G 0 (0)), .int (x), .int (t), .int (w)] σ (fun r σ2 => r = -2 ∧ σ2 = σ) := by
  refine ct_i (maxL := 5) (ret := (some .int)) (by decide) rfl (Nat.le_of_ble_eq_true rfl) hA (fun K hl C => ?_)
  subst hl
  change WW K G _ _ σ [(0, .ref (gA G 0 (0))), (1, .int (x)), (2, .int (t)), (3, .int (w))] 0 []
  refine ww_aload_n C dX5_triangle_0 rfl 0 rfl ?_
  refine ww_iload_n C dX5_triangle_1 rfl 1 rfl ?_
  refine ww_callqN (cx_V (n := 1) (As := [.int (x)]) C  (c_X5_shapeOf_n (kL K) G hA _ cnt hc hc8 x hu) gX5_triangle_X5_shapeOf rfl ⟨rfl, rfl⟩ (by decide +kernel) (by decide) rfl (by decide) rfl rfl rfl (Nat.le_of_ble_eq_true rfl) dX5_triangle_2) ?_
  refine ww_astoreN [(4, .null), (0, .ref (gA G 0 (0))), (1, .int (x)), (2, .int (t)), (3, .int (w))] C dX5_triangle_5 (by decide) rfl ?_
  refine ww_aloadN C dX5_triangle_7 0 rfl ?_
  refine ww_ifnonnullN C dX5_triangle_9 ?_
  refine ww_bipush (v := -2) C dX5_triangle_12 (by decide) ?_
  refine ww_iret C dX5_triangle_14 ?_
  exact ⟨rfl, rfl⟩
set_option maxHeartbeats 4000000 in
set_option maxRecDepth 100000 in
theorem c_X5_diagonal_s (l : Launch) (G : Gx) (hA : wa G) (σ : Sg) (cnt p n : Nat) (hc : σ 0 0 5 = nI cnt) (hc8 : cnt ≤ 8) (hpc : p < cnt) (hp : p < 8) (hs : σ 14 (p + 1) 2 = nI n) (hn : n ≤ 14) (h3 : 3 ≤ n) (t w : Int32) : CtI l yX5_diagonal wsX5_diagonal (rmd 2) G [.ref (gA G 0 (0)), .int (nI p), .int (t), .int (w)] σ (fun r σ2 => r = lstR (n - 3) t w (σ 23 p) (σ 24 p) (σ 25 p) ∧ σ2 = σ) := by
  refine ct_i (maxL := 5) (ret := (some .int)) (by decide) rfl (Nat.le_of_ble_eq_true rfl) hA (fun K hl C => ?_)
  subst hl
  change WW K G _ _ σ [(0, .ref (gA G 0 (0))), (1, .int (nI p)), (2, .int (t)), (3, .int (w))] 0 []
  refine ww_aload_n C dX5_diagonal_0 rfl 0 rfl ?_
  refine ww_iload_n C dX5_diagonal_1 rfl 1 rfl ?_
  refine ww_callqR (cx_V (n := 1) (As := [.int (nI p)]) C  (c_X5_shapeOf_s (kL K) G hA _ cnt p hc hc8 hpc) gX5_diagonal_X5_shapeOf rfl ⟨rfl, rfl⟩ (by decide +kernel) (by decide) rfl (by decide) rfl rfl rfl (Nat.le_of_ble_eq_true rfl) dX5_diagonal_2) ?_
  refine ww_astore [(4, .ref (gA G 17 (p))), (0, .ref (gA G 0 (0))), (1, .int (nI p)), (2, .int (t)), (3, .int (w))] C dX5_diagonal_5 (by decide) rfl ?_
  refine ww_aload C dX5_diagonal_7 0 rfl ?_
  refine ww_ifnonnull 15 C dX5_diagonal_9 (by decide) ?_
  refine ww_iload_n C dX5_diagonal_15 rfl 4 rfl ?_
  refine ww_if_lt 24 C dX5_diagonal_16 (by decide) (fun h16 => ?_) (fun h16 => ?_)
  · refine ww_bipush (v := -3) C dX5_diagonal_24 (by decide) ?_
    refine ww_iret C dX5_diagonal_26 ?_
    exact ⟨by rw [lst_o (fun q => absurd h16 (Int32.not_lt.mpr q.1))], rfl⟩
  · refine ww_iload_n C dX5_diagonal_19 rfl 4 rfl ?_
    refine ww_iconst (v := 2) C dX5_diagonal_20 rfl ?_
    refine ww_icmp_le 27 C dX5_diagonal_21 (by decide) (fun h21 => ?_) (fun h21 => ?_)
    · have hw : (0 : Int32) ≤ w ∧ w ≤ 2 := ⟨Int32.not_lt.mp h16, h21⟩
      refine ww_iload_n C dX5_diagonal_27 rfl 3 rfl ?_
      refine ww_if_lt 40 C dX5_diagonal_28 (by decide) (fun h28 => ?_) (fun h28 => ?_)
      · refine ww_iconst (v := -1) C dX5_diagonal_40 rfl ?_
        refine ww_iret C dX5_diagonal_41 ?_
        exact ⟨by rw [lst_n hw (fun q => absurd h28 (Int32.not_lt.mpr q.1))], rfl⟩
      · refine ww_iload_n C dX5_diagonal_31 rfl 3 rfl ?_
        refine ww_aload C dX5_diagonal_32 0 rfl ?_
        refine ww_calliF (cx_V (n := 0) (As := []) C  (c_X3_diagonalCount (kL K) G hA _ p n hp hs hn) gX5_diagonal_X3_diagonalCount rfl ⟨rfl, rfl⟩ (by decide +kernel) (by decide) rfl hp rfl rfl rfl (Nat.le_of_ble_eq_true rfl) dX5_diagonal_34) ?_
        refine ww_icmp_lt 42 C dX5_diagonal_37 (by decide) (fun h37 => ?_) (fun h37 => ?_)
        · rw [show nI n - 3 = nI (n - 3) from pk_sub (a := n) (b := 3) (by omega)] at h37
          obtain ⟨j, hj, rfl⟩ := ix_of ⟨Int32.not_lt.mp h28, h37⟩ (show n - 3 ≤ 14 by omega)
          refine ww_iload_n C dX5_diagonal_42 rfl 4 rfl ?_
          refine ww_iconst (v := 2) C dX5_diagonal_43 rfl ?_
          refine ww_icmp_ne 55 C dX5_diagonal_44 (by decide) (fun h44 => ?_) (fun h44 => ?_)
          · refine ww_iload_n C dX5_diagonal_55 rfl 4 rfl ?_
            refine ww_if_ne 69 C dX5_diagonal_56 (by decide) (fun h56 => ?_) (fun h56 => ?_)
            · refine ww_aload C dX5_diagonal_69 0 rfl ?_
              refine ww_gr (j := p) (k := 17) (f := 10) C rfl rfl hp rfl in_X5_diagonal_X3 (by decide) lk_X5_diagonal_177 dX5_diagonal_71 rfl ?_
              refine ww_iload_n C dX5_diagonal_74 rfl 3 rfl ?_
              refine ww_iald (k := 24) (j := j) C rfl hp (by decide) dX5_diagonal_75 rfl (by omega) ?_
              refine ww_iret C dX5_diagonal_76 ?_
              exact ⟨by rw [lst_t hw hj (by omega), if_neg h56, if_pos (Classical.byContradiction (fun q => h44 (w_2 hw h56 q)))], rfl⟩
            · refine ww_aload C dX5_diagonal_59 0 rfl ?_
              refine ww_gr (j := p) (k := 17) (f := 9) C rfl rfl hp rfl in_X5_diagonal_X3 (by decide) lk_X5_diagonal_174 dX5_diagonal_61 rfl ?_
              refine ww_iload_n C dX5_diagonal_64 rfl 3 rfl ?_
              refine ww_iald (k := 23) (j := j) C rfl hp (by decide) dX5_diagonal_65 rfl (by omega) ?_
              refine ww_goto 76 C dX5_diagonal_66 (by decide) ?_
              refine ww_iret C dX5_diagonal_76 ?_
              exact ⟨by rw [lst_t hw hj (by omega), if_pos h56], rfl⟩
          · refine ww_aload C dX5_diagonal_47 0 rfl ?_
            refine ww_gr (j := p) (k := 17) (f := 11) C rfl rfl hp rfl in_X5_diagonal_X3 (by decide) lk_X5_diagonal_171 dX5_diagonal_49 rfl ?_
            refine ww_iload_n C dX5_diagonal_52 rfl 3 rfl ?_
            refine ww_iald (k := 25) (j := j) C rfl hp (by decide) dX5_diagonal_53 rfl (by omega) ?_
            refine ww_iret C dX5_diagonal_54 ?_
            exact ⟨by rw [lst_t hw hj (by omega), if_neg (by rw [h44]; decide), if_neg (by rw [h44]; decide)], rfl⟩
        · refine ww_iconst (v := -1) C dX5_diagonal_40 rfl ?_
          refine ww_iret C dX5_diagonal_41 ?_
          exact ⟨by rw [lst_n hw (fun q => h37 (by rw [show nI n - 3 = nI (n - 3) from pk_sub (a := n) (b := 3) (by omega)]; exact q.2))], rfl⟩
    · refine ww_bipush (v := -3) C dX5_diagonal_24 (by decide) ?_
      refine ww_iret C dX5_diagonal_26 ?_
      exact ⟨by rw [lst_o (fun q => h21 q.2)], rfl⟩
set_option maxHeartbeats 4000000 in
set_option maxRecDepth 100000 in
theorem c_X5_diagonal_n (l : Launch) (G : Gx) (hA : wa G) (σ : Sg) (cnt : Nat) (hc : σ 0 0 5 = nI cnt) (hc8 : cnt ≤ 8) (x : Int32) (hu : ¬ (0 ≤ x ∧ x < nI cnt)) (t w : Int32) : CtI l yX5_diagonal wsX5_diagonal (rmd 2) G [.ref (gA G 0 (0)), .int (x), .int (t), .int (w)] σ (fun r σ2 => r = -2 ∧ σ2 = σ) := by
  refine ct_i (maxL := 5) (ret := (some .int)) (by decide) rfl (Nat.le_of_ble_eq_true rfl) hA (fun K hl C => ?_)
  subst hl
  change WW K G _ _ σ [(0, .ref (gA G 0 (0))), (1, .int (x)), (2, .int (t)), (3, .int (w))] 0 []
  refine ww_aload_n C dX5_diagonal_0 rfl 0 rfl ?_
  refine ww_iload_n C dX5_diagonal_1 rfl 1 rfl ?_
  refine ww_callqN (cx_V (n := 1) (As := [.int (x)]) C  (c_X5_shapeOf_n (kL K) G hA _ cnt hc hc8 x hu) gX5_diagonal_X5_shapeOf rfl ⟨rfl, rfl⟩ (by decide +kernel) (by decide) rfl (by decide) rfl rfl rfl (Nat.le_of_ble_eq_true rfl) dX5_diagonal_2) ?_
  refine ww_astoreN [(4, .null), (0, .ref (gA G 0 (0))), (1, .int (x)), (2, .int (t)), (3, .int (w))] C dX5_diagonal_5 (by decide) rfl ?_
  refine ww_aloadN C dX5_diagonal_7 0 rfl ?_
  refine ww_ifnonnullN C dX5_diagonal_9 ?_
  refine ww_bipush (v := -2) C dX5_diagonal_12 (by decide) ?_
  refine ww_iret C dX5_diagonal_14 ?_
  exact ⟨rfl, rfl⟩
