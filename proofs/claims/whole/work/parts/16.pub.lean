theorem in_X5_shapeOf_X5 : ∀ w ∈ wsX50, w ∈ wsX5_shapeOf := by decide +kernel
theorem lk_X5_shapeOf_44 : Cond.fieldLink RX5 44 "PolyCuts" "shapeCount" "I" ∈ wsX5_shapeOf := by decide +kernel
theorem lk_X5_shapeOf_39 : Cond.fieldLink RX5 39 "PolyCuts" "shapes" "[LPolyCuts$Shape;" ∈ wsX5_shapeOf := by decide +kernel
theorem in_X5_fault_X5 : ∀ w ∈ wsX50, w ∈ wsX5_fault := by decide +kernel
theorem lk_X5_fault_19 : Cond.fieldLink RX5 19 "PolyCuts" "check" "LPolyCuts$Check;" ∈ wsX5_fault := by decide +kernel
theorem in_X5_fault_X0 : ∀ w ∈ wsX00, w ∈ wsX5_fault := by decide +kernel
theorem lk_X5_fault_86 : Cond.fieldLink RX5 86 "PolyCuts$Check" "second" "I" ∈ wsX5_fault := by decide +kernel
theorem lk_X5_fault_83 : Cond.fieldLink RX5 83 "PolyCuts$Check" "first" "I" ∈ wsX5_fault := by decide +kernel
theorem in_X5_drop_X5 : ∀ w ∈ wsX50, w ∈ wsX5_drop := by decide +kernel
theorem lk_X5_drop_44 : Cond.fieldLink RX5 44 "PolyCuts" "shapeCount" "I" ∈ wsX5_drop := by decide +kernel
theorem in_X5_count_X5 : ∀ w ∈ wsX50, w ∈ wsX5_count := by decide +kernel
theorem lk_X5_count_44 : Cond.fieldLink RX5 44 "PolyCuts" "shapeCount" "I" ∈ wsX5_count := by decide +kernel
theorem in_X5_count_X3 : ∀ w ∈ wsX30, w ∈ wsX5_count := by decide +kernel
theorem lk_X5_count_93 : Cond.fieldLink RX5 93 "PolyCuts$Shape" "corners" "LPolyCuts$Corners;" ∈ wsX5_count := by decide +kernel
theorem in_X5_count_X1 : ∀ w ∈ wsX10, w ∈ wsX5_count := by decide +kernel
theorem lk_X5_count_60 : Cond.fieldLink RX5 60 "PolyCuts$Corners" "size" "I" ∈ wsX5_count := by decide +kernel
theorem in_X5_area_X3 : ∀ w ∈ wsX30, w ∈ wsX5_area := by decide +kernel
theorem lk_X5_area_107 : Cond.fieldLink RX5 107 "PolyCuts$Shape" "doubleArea" "I" ∈ wsX5_area := by decide +kernel
theorem in_X5_triangulations_X3 : ∀ w ∈ wsX30, w ∈ wsX5_triangulations := by decide +kernel
theorem lk_X5_triangulations_150 : Cond.fieldLink RX5 150 "PolyCuts$Shape" "triangulationCount" "I" ∈ wsX5_triangulations := by decide +kernel
theorem in_X5_best_X3 : ∀ w ∈ wsX30, w ∈ wsX5_best := by decide +kernel
theorem lk_X5_best_153 : Cond.fieldLink RX5 153 "PolyCuts$Shape" "leastSum" "I" ∈ wsX5_best := by decide +kernel
theorem in_X5_parts_X3 : ∀ w ∈ wsX30, w ∈ wsX5_parts := by decide +kernel
theorem lk_X5_parts_180 : Cond.fieldLink RX5 180 "PolyCuts$Shape" "partCount" "I" ∈ wsX5_parts := by decide +kernel
theorem in_X5_points_X3 : ∀ w ∈ wsX30, w ∈ wsX5_points := by decide +kernel
theorem lk_X5_points_107 : Cond.fieldLink RX5 107 "PolyCuts$Shape" "doubleArea" "I" ∈ wsX5_points := by decide +kernel
theorem lw_X5_points_mabs124 : Cond.methodLink RX5 124 Lib.Math.abs.name ∈ wsX5_points := by decide +kernel
theorem lw_X5_points_mabss : Cond.static Lib.Math.abs.name ∈ wsX5_points := by decide +kernel
theorem lw_X5_points_mi : Cond.initialized "java/lang/Math" ∈ wsX5_points := by decide +kernel
theorem lw_X5_points_mabsc : Cond.code Lib.Math.abs.name Lib.Math.abs.code 1 (some .int) ∈ wsX5_points := by decide +kernel
theorem ix_of {x : Int32} {n : Nat} (h : 0 ≤ x ∧ x < nI n) (hn : n ≤ 14) : ∃ j, j < n ∧ x = nI j := by
  obtain ⟨j, hj, e⟩ := nI_of (x := x) (Int32.not_lt.mpr h.1)
  subst e
  exact ⟨j, (nI_ltI (by omega) (by omega)).mp h.2, rfl⟩
theorem nI_0le {n : Nat} (h : n < 2 ^ 31) : (0 : Int32) ≤ nI n := nI_pos' h
theorem kn_p {p cnt : Nat} (h : p < cnt) (h8 : cnt ≤ 8) : (0 : Int32) ≤ nI p ∧ nI p < nI cnt := ⟨nI_pos' (by omega), nI_lt h (by omega)⟩
theorem nI_nm1 {n : Nat} (h : n < 2 ^ 31) : ¬ nI n = -1 := fun e => by
  have h1 := nI_toInt h
  rw [e] at h1
  have h2 : (-1 : Int32).toInt = -1 := by decide
  omega
set_option maxHeartbeats 4000000 in
set_option maxRecDepth 100000 in
theorem c_X5_shapeOf_s (l : Launch) (G : Gx) (hA : wa G) (σ : Sg) (cnt p : Nat) (hc : σ 0 0 5 = nI cnt) (hc8 : cnt ≤ 8) (hpc : p < cnt) : CtQ l yX5_shapeOf wsX5_shapeOf (rmd 1) G [.ref (gA G 0 (0)), .int (nI p)] σ (fun r σ2 => r = some (gA G 17 p) ∧ σ2 = σ) := by
  refine ct_q (maxL := 2) (ret := (some (.object "PolyCuts$Shape"))) (by decide) rfl (Nat.le_of_ble_eq_true rfl) hA (fun K hl C => ?_)
  subst hl
  change WW K G _ _ σ [(0, .ref (gA G 0 (0))), (1, .int (nI p))] 0 []
  refine ww_iload_n C dX5_shapeOf_0 rfl 1 rfl ?_
  refine ww_if_lt 21 C dX5_shapeOf_1 (by decide) (fun h1 => ?_) (fun h1 => ?_)
  · have g1 : p < 0 := (cv_lt (a := p) (b := 0) rfl (by decide) (by omega) (by omega)).mp h1
    exact absurd g1 (by omega)
  · have g1 : ¬ p < 0 := fun q => h1 ((cv_lt (a := p) (b := 0) rfl (by decide) (by omega) (by omega)).mpr q)
    refine ww_iload_n C dX5_shapeOf_4 rfl 1 rfl ?_
    refine ww_aload_n C dX5_shapeOf_5 rfl 0 rfl ?_
    refine ww_gi (k := 0) (f := 5) C rfl rfl (by decide) rfl in_X5_shapeOf_X5 (by decide) lk_X5_shapeOf_44 dX5_shapeOf_6 ?_
    refine ww_icmp_ge 21 C dX5_shapeOf_9 (by decide) (fun h9 => ?_) (fun h9 => ?_)
    · have g9 : cnt ≤ p := (cv_le (a := cnt) (b := p) hc rfl (by omega) (by omega)).mp h9
      exact absurd g9 (by omega)
    · have g9 : ¬ cnt ≤ p := fun q => h9 ((cv_le (a := cnt) (b := p) hc rfl (by omega) (by omega)).mpr q)
      refine ww_aload_n C dX5_shapeOf_12 rfl 0 rfl ?_
      refine ww_gr (j := 0) (k := 0) (f := 4) C rfl rfl (by decide) rfl in_X5_shapeOf_X5 (by decide) lk_X5_shapeOf_39 dX5_shapeOf_13 rfl ?_
      refine ww_iload_n C dX5_shapeOf_16 rfl 1 rfl ?_
      refine ww_aald (k := 13) (j := p) (j' := p) C rfl (by decide) (by decide) (by decide) dX5_shapeOf_17 rfl (by omega) rfl ?_
      refine ww_goto 22 C dX5_shapeOf_18 (by decide) ?_
      refine ww_aret C (Or.inl ⟨_, rfl⟩) dX5_shapeOf_22 ?_
      exact ⟨rfl, rfl⟩
set_option maxHeartbeats 4000000 in
set_option maxRecDepth 100000 in
theorem c_X5_shapeOf_n (l : Launch) (G : Gx) (hA : wa G) (σ : Sg) (cnt : Nat) (hc : σ 0 0 5 = nI cnt) (hc8 : cnt ≤ 8) (x : Int32) (hu : ¬ (0 ≤ x ∧ x < nI cnt)) : CtQ l yX5_shapeOf wsX5_shapeOf (rmd 1) G [.ref (gA G 0 (0)), .int (x)] σ (fun r σ2 => r = none ∧ σ2 = σ) := by
  refine ct_q (maxL := 2) (ret := (some (.object "PolyCuts$Shape"))) (by decide) rfl (Nat.le_of_ble_eq_true rfl) hA (fun K hl C => ?_)
  subst hl
  change WW K G _ _ σ [(0, .ref (gA G 0 (0))), (1, .int (x))] 0 []
  refine ww_iload_n C dX5_shapeOf_0 rfl 1 rfl ?_
  refine ww_if_lt 21 C dX5_shapeOf_1 (by decide) (fun h1 => ?_) (fun h1 => ?_)
  · refine ww_null C dX5_shapeOf_21 ?_
    refine ww_aretN C (Or.inl ⟨_, rfl⟩) dX5_shapeOf_22 ?_
    exact ⟨rfl, rfl⟩
  · refine ww_iload_n C dX5_shapeOf_4 rfl 1 rfl ?_
    refine ww_aload_n C dX5_shapeOf_5 rfl 0 rfl ?_
    refine ww_gi (k := 0) (f := 5) C rfl rfl (by decide) rfl in_X5_shapeOf_X5 (by decide) lk_X5_shapeOf_44 dX5_shapeOf_6 ?_
    refine ww_icmp_ge 21 C dX5_shapeOf_9 (by decide) (fun h9 => ?_) (fun h9 => ?_)
    · refine ww_null C dX5_shapeOf_21 ?_
      refine ww_aretN C (Or.inl ⟨_, rfl⟩) dX5_shapeOf_22 ?_
      exact ⟨rfl, rfl⟩
    · exact absurd ⟨Int32.not_lt.mp h1, by rw [← hc]; exact Int32.not_le.mp h9⟩ hu
set_option maxHeartbeats 4000000 in
set_option maxRecDepth 100000 in
theorem c_X5_isWithin (l : Launch) (G : Gx) (hA : wa G) (σ : Sg) (x f : Int32) : CtI l yX5_isWithin wsX5_isWithin (rmd 1) G [.int (x), .int (f)] σ (fun r σ2 => r = bI (decide (-f ≤ x ∧ x ≤ f)) ∧ σ2 = σ) := by
  refine ct_i (maxL := 2) (ret := (some .boolean)) (by decide) rfl (Nat.le_of_ble_eq_true rfl) hA (fun K hl C => ?_)
  subst hl
  change WW K G _ _ σ [(0, .int (x)), (1, .int (f))] 0 []
  refine ww_iload_n C dX5_isWithin_0 rfl 0 rfl ?_
  refine ww_iload_n C dX5_isWithin_1 rfl 1 rfl ?_
  refine ww_ineg C dX5_isWithin_2 ?_
  refine ww_icmp_lt 15 C dX5_isWithin_3 (by decide) (fun h3 => ?_) (fun h3 => ?_)
  · refine ww_iconst (v := 0) C dX5_isWithin_15 rfl ?_
    refine ww_zret C dX5_isWithin_16 (by first | rfl | exact bI_n) ?_
    exact ⟨by rw [decide_eq_false (fun q => absurd q.1 (Int32.not_le.mpr h3))]; rfl, rfl⟩
  · refine ww_iload_n C dX5_isWithin_6 rfl 0 rfl ?_
    refine ww_iload_n C dX5_isWithin_7 rfl 1 rfl ?_
    refine ww_icmp_gt 15 C dX5_isWithin_8 (by decide) (fun h8 => ?_) (fun h8 => ?_)
    · refine ww_iconst (v := 0) C dX5_isWithin_15 rfl ?_
      refine ww_zret C dX5_isWithin_16 (by first | rfl | exact bI_n) ?_
      exact ⟨by rw [decide_eq_false (fun q => absurd q.2 (Int32.not_le.mpr h8))]; rfl, rfl⟩
    · refine ww_iconst (v := 1) C dX5_isWithin_11 rfl ?_
      refine ww_goto 16 C dX5_isWithin_12 (by decide) ?_
      refine ww_zret C dX5_isWithin_16 (by first | rfl | exact bI_n) ?_
      exact ⟨by rw [decide_eq_true ⟨Int32.not_lt.mp h3, Int32.not_lt.mp h8⟩]; rfl, rfl⟩
set_option maxHeartbeats 4000000 in
set_option maxRecDepth 100000 in
theorem c_X5_isZeroOrOne (l : Launch) (G : Gx) (hA : wa G) (σ : Sg) (x : Int32) : CtI l yX5_isZeroOrOne wsX5_isZeroOrOne (rmd 1) G [.int (x)] σ (fun r σ2 => r = bI (decide (x = 0 ∨ x = 1)) ∧ σ2 = σ) := by
  refine ct_i (maxL := 1) (ret := (some .boolean)) (by decide) rfl (Nat.le_of_ble_eq_true rfl) hA (fun K hl C => ?_)
  subst hl
  change WW K G _ _ σ [(0, .int (x))] 0 []
  refine ww_iload_n C dX5_isZeroOrOne_0 rfl 0 rfl ?_
  refine ww_if_eq 9 C dX5_isZeroOrOne_1 (by decide) (fun h1 => ?_) (fun h1 => ?_)
  · refine ww_iconst (v := 1) C dX5_isZeroOrOne_9 rfl ?_
    refine ww_goto 14 C dX5_isZeroOrOne_10 (by decide) ?_
    refine ww_zret C dX5_isZeroOrOne_14 (by first | rfl | exact bI_n) ?_
    exact ⟨by rw [decide_eq_true (Or.inl h1)]; rfl, rfl⟩
  · refine ww_iload_n C dX5_isZeroOrOne_4 rfl 0 rfl ?_
    refine ww_iconst (v := 1) C dX5_isZeroOrOne_5 rfl ?_
    refine ww_icmp_ne 13 C dX5_isZeroOrOne_6 (by decide) (fun h6 => ?_) (fun h6 => ?_)
    · refine ww_iconst (v := 0) C dX5_isZeroOrOne_13 rfl ?_
      refine ww_zret C dX5_isZeroOrOne_14 (by first | rfl | exact bI_n) ?_
      exact ⟨by rw [decide_eq_false (fun q => q.elim h1 h6)]; rfl, rfl⟩
    · refine ww_iconst (v := 1) C dX5_isZeroOrOne_9 rfl ?_
      refine ww_goto 14 C dX5_isZeroOrOne_10 (by decide) ?_
      refine ww_zret C dX5_isZeroOrOne_14 (by first | rfl | exact bI_n) ?_
      exact ⟨by rw [decide_eq_true (Or.inr h6)]; rfl, rfl⟩
def faultR (x a b : Int32) : Int32 := if x = 0 then a else if x = 1 then b else -3
set_option maxHeartbeats 4000000 in
set_option maxRecDepth 100000 in
theorem c_X5_fault (l : Launch) (G : Gx) (hA : wa G) (σ : Sg) (x : Int32) : CtI l yX5_fault wsX5_fault (rmd 1) G [.ref (gA G 0 (0)), .int (x)] σ (fun r σ2 => r = faultR x (σ 1 0 1) (σ 1 0 2) ∧ σ2 = σ) := by
  refine ct_i (maxL := 2) (ret := (some .int)) (by decide) rfl (Nat.le_of_ble_eq_true rfl) hA (fun K hl C => ?_)
  subst hl
  change WW K G _ _ σ [(0, .ref (gA G 0 (0))), (1, .int (x))] 0 []
  refine ww_iload_n C dX5_fault_0 rfl 1 rfl ?_
  refine ww_if_ne 12 C dX5_fault_1 (by decide) (fun h1 => ?_) (fun h1 => ?_)
  · refine ww_iload_n C dX5_fault_12 rfl 1 rfl ?_
    refine ww_iconst (v := 1) C dX5_fault_13 rfl ?_
    refine ww_icmp_ne 27 C dX5_fault_14 (by decide) (fun h14 => ?_) (fun h14 => ?_)
    · refine ww_bipush (v := -3) C dX5_fault_27 (by decide) ?_
      refine ww_iret C dX5_fault_29 ?_
      exact ⟨by rw [faultR, if_neg h1, if_neg h14], rfl⟩
    · refine ww_aload_n C dX5_fault_17 rfl 0 rfl ?_
      refine ww_gr (j := 0) (k := 0) (f := 1) C rfl rfl (by decide) rfl in_X5_fault_X5 (by decide) lk_X5_fault_19 dX5_fault_18 rfl ?_
      refine ww_gi (k := 1) (f := 2) C rfl rfl (by decide) rfl in_X5_fault_X0 (by decide) lk_X5_fault_86 dX5_fault_21 ?_
      refine ww_goto 29 C dX5_fault_24 (by decide) ?_
      refine ww_iret C dX5_fault_29 ?_
      exact ⟨by rw [faultR, if_neg h1, if_pos h14], rfl⟩
  · refine ww_aload_n C dX5_fault_4 rfl 0 rfl ?_
    refine ww_gr (j := 0) (k := 0) (f := 1) C rfl rfl (by decide) rfl in_X5_fault_X5 (by decide) lk_X5_fault_19 dX5_fault_5 rfl ?_
    refine ww_gi (k := 1) (f := 1) C rfl rfl (by decide) rfl in_X5_fault_X0 (by decide) lk_X5_fault_83 dX5_fault_8 ?_
    refine ww_iret C dX5_fault_11 ?_
    exact ⟨by rw [faultR, if_pos h1], rfl⟩
set_option maxHeartbeats 4000000 in
set_option maxRecDepth 100000 in
theorem c_X5_drop_0 (l : Launch) (G : Gx) (hA : wa G) (σ : Sg) (hc : σ 0 0 5 = nI 0) : CtI l yX5_drop wsX5_drop (rmd 1) G [.ref (gA G 0 (0))] σ (fun r σ2 => r = -2 ∧ σ2 = σ) := by
  refine ct_i (maxL := 1) (ret := (some .int)) (by decide) rfl (Nat.le_of_ble_eq_true rfl) hA (fun K hl C => ?_)
  subst hl
  change WW K G _ _ σ [(0, .ref (gA G 0 (0)))] 0 []
  refine ww_aload_n C dX5_drop_0 rfl 0 rfl ?_
  refine ww_gi (k := 0) (f := 5) C rfl rfl (by decide) rfl in_X5_drop_X5 (by decide) lk_X5_drop_44 dX5_drop_1 ?_
  refine ww_if_ne 10 C dX5_drop_4 (by decide) (fun h4 => ?_) (fun h4 => ?_)
  · have g4 : ¬ 0 = 0 := fun q => h4 ((cv_eq (a := 0) (b := 0) hc (by decide) (by omega) (by omega)).mpr q)
    exact absurd g4 (by decide)
  · have g4 : 0 = 0 := (cv_eq (a := 0) (b := 0) hc (by decide) (by omega) (by omega)).mp h4
    refine ww_bipush (v := -2) C dX5_drop_7 (by decide) ?_
    refine ww_iret C dX5_drop_9 ?_
    exact ⟨rfl, rfl⟩
set_option maxHeartbeats 4000000 in
set_option maxRecDepth 100000 in
theorem c_X5_drop_s (l : Launch) (G : Gx) (hA : wa G) (σ : Sg) (cnt : Nat) (hc : σ 0 0 5 = nI (cnt + 1)) (hc8 : cnt < 8) : CtI l yX5_drop wsX5_drop (rmd 1) G [.ref (gA G 0 (0))] σ (fun r σ2 => r = nI cnt ∧ σ2 = sgu σ 0 0 5 (nI cnt)) := by
  refine ct_i (maxL := 1) (ret := (some .int)) (by decide) rfl (Nat.le_of_ble_eq_true rfl) hA (fun K hl C => ?_)
  subst hl
  change WW K G _ _ σ [(0, .ref (gA G 0 (0)))] 0 []
  refine ww_aload_n C dX5_drop_0 rfl 0 rfl ?_
  refine ww_gi (k := 0) (f := 5) C rfl rfl (by decide) rfl in_X5_drop_X5 (by decide) lk_X5_drop_44 dX5_drop_1 ?_
  refine ww_if_ne 10 C dX5_drop_4 (by decide) (fun h4 => ?_) (fun h4 => ?_)
  · have g4 : ¬ cnt + 1 = 0 := fun q => h4 ((cv_eq (a := cnt + 1) (b := 0) hc (by decide) (by omega) (by omega)).mpr q)
    refine ww_aload_n C dX5_drop_10 rfl 0 rfl ?_
    refine ww_dup C dX5_drop_11 rfl ?_
    refine ww_gi (k := 0) (f := 5) C rfl rfl (by decide) rfl in_X5_drop_X5 (by decide) lk_X5_drop_44 dX5_drop_12 ?_
    refine ww_iconst (v := 1) C dX5_drop_15 rfl ?_
    refine ww_isub C dX5_drop_16 ?_
    refine ww_pi (k := 0) (f := 5) C rfl rfl (by decide) rfl in_X5_drop_X5 tyX5_ok nmX5 (by decide) lk_X5_drop_44 rfl rfl dX5_drop_17 ?_
    refine ww_aload_n C dX5_drop_20 rfl 0 rfl ?_
    refine ww_gi (k := 0) (f := 5) C rfl rfl (by decide) rfl in_X5_drop_X5 (by decide) lk_X5_drop_44 dX5_drop_21 ?_
    refine ww_iret C dX5_drop_24 ?_
    exact ⟨by rw [sgu_self, hc]; exact nI_pred cnt, by rw [hc, nI_pred]⟩
  · have g4 : cnt + 1 = 0 := (cv_eq (a := cnt + 1) (b := 0) hc (by decide) (by omega) (by omega)).mp h4
    exact absurd g4 (by omega)
set_option maxHeartbeats 4000000 in
set_option maxRecDepth 100000 in
theorem c_X5_count_a (l : Launch) (G : Gx) (hA : wa G) (σ : Sg) (cnt : Nat) (hc : σ 0 0 5 = nI cnt) (hc8 : cnt ≤ 8) : CtI l yX5_count wsX5_count (rmd 2) G [.ref (gA G 0 (0)), .int (-1)] σ (fun r σ2 => r = nI cnt ∧ σ2 = σ) := by
  refine ct_i (maxL := 3) (ret := (some .int)) (by decide) rfl (Nat.le_of_ble_eq_true rfl) hA (fun K hl C => ?_)
  subst hl
  change WW K G _ _ σ [(0, .ref (gA G 0 (0))), (1, .int (-1))] 0 []
  refine ww_iload_n C dX5_count_0 rfl 1 rfl ?_
  refine ww_iconst (v := -1) C dX5_count_1 rfl ?_
  refine ww_icmp_ne 10 C dX5_count_2 (by decide) (fun h2 => ?_) (fun h2 => ?_)
  · exact absurd rfl h2
  · refine ww_aload_n C dX5_count_5 rfl 0 rfl ?_
    refine ww_gi (k := 0) (f := 5) C rfl rfl (by decide) rfl in_X5_count_X5 (by decide) lk_X5_count_44 dX5_count_6 ?_
    refine ww_iret C dX5_count_9 ?_
    exact ⟨hc, rfl⟩
set_option maxHeartbeats 4000000 in
set_option maxRecDepth 100000 in
theorem c_X5_count_s (l : Launch) (G : Gx) (hA : wa G) (σ : Sg) (cnt p n : Nat) (hc : σ 0 0 5 = nI cnt) (hc8 : cnt ≤ 8) (hpc : p < cnt) (hp : p < 8) (hs : σ 14 (p + 1) 2 = nI n) (hn : n ≤ 14) : CtI l yX5_count wsX5_count (rmd 2) G [.ref (gA G 0 (0)), .int (nI p)] σ (fun r σ2 => r = nI n ∧ σ2 = σ) := by
  refine ct_i (maxL := 3) (ret := (some .int)) (by decide) rfl (Nat.le_of_ble_eq_true rfl) hA (fun K hl C => ?_)
  subst hl
  change WW K G _ _ σ [(0, .ref (gA G 0 (0))), (1, .int (nI p))] 0 []
  refine ww_iload_n C dX5_count_0 rfl 1 rfl ?_
  refine ww_iconst (v := -1) C dX5_count_1 rfl ?_
  refine ww_icmp_ne 10 C dX5_count_2 (by decide) (fun h2 => ?_) (fun h2 => ?_)
  · refine ww_aload_n C dX5_count_10 rfl 0 rfl ?_
    refine ww_iload_n C dX5_count_11 rfl 1 rfl ?_
    refine ww_callqR (cx_V (n := 1) (As := [.int (nI p)]) C  (c_X5_shapeOf_s (kL K) G hA _ cnt p hc hc8 hpc) gX5_count_X5_shapeOf rfl ⟨rfl, rfl⟩ (by decide +kernel) (by decide) rfl (by decide) rfl rfl rfl (Nat.le_of_ble_eq_true rfl) dX5_count_12) ?_
    refine ww_astore_n [(2, .ref (gA G 17 (p))), (0, .ref (gA G 0 (0))), (1, .int (nI p))] C dX5_count_15 rfl (by decide) rfl ?_
    refine ww_aload_n C dX5_count_16 rfl 0 rfl ?_
    refine ww_ifnonnull 25 C dX5_count_17 (by decide) ?_
    refine ww_aload_n C dX5_count_25 rfl 0 rfl ?_
    refine ww_gr (j := p + 1) (k := 17) (f := 0) C rfl rfl hp rfl in_X5_count_X3 (by decide) lk_X5_count_93 dX5_count_26 rfl ?_
    refine ww_gi (k := 14) (f := 2) C rfl rfl (Nat.add_lt_add_right hp 1) rfl in_X5_count_X1 (by decide) lk_X5_count_60 dX5_count_29 ?_
    refine ww_iret C dX5_count_32 ?_
    exact ⟨hs, rfl⟩
  · exact absurd h2 (nI_nm1 (by omega))
set_option maxHeartbeats 4000000 in
set_option maxRecDepth 100000 in
theorem c_X5_count_n (l : Launch) (G : Gx) (hA : wa G) (σ : Sg) (cnt : Nat) (hc : σ 0 0 5 = nI cnt) (hc8 : cnt ≤ 8) (x : Int32) (hu : ¬ (0 ≤ x ∧ x < nI cnt)) (hm : ¬ x = -1) : CtI l yX5_count wsX5_count (rmd 2) G [.ref (gA G 0 (0)), .int (x)] σ (fun r σ2 => r = -2 ∧ σ2 = σ) := by
  refine ct_i (maxL := 3) (ret := (some .int)) (by decide) rfl (Nat.le_of_ble_eq_true rfl) hA (fun K hl C => ?_)
  subst hl
  change WW K G _ _ σ [(0, .ref (gA G 0 (0))), (1, .int (x))] 0 []
  refine ww_iload_n C dX5_count_0 rfl 1 rfl ?_
  refine ww_iconst (v := -1) C dX5_count_1 rfl ?_
  refine ww_icmp_ne 10 C dX5_count_2 (by decide) (fun h2 => ?_) (fun h2 => ?_)
  · refine ww_aload_n C dX5_count_10 rfl 0 rfl ?_
    refine ww_iload_n C dX5_count_11 rfl 1 rfl ?_
    refine ww_callqN (cx_V (n := 1) (As := [.int (x)]) C  (c_X5_shapeOf_n (kL K) G hA _ cnt hc hc8 x hu) gX5_count_X5_shapeOf rfl ⟨rfl, rfl⟩ (by decide +kernel) (by decide) rfl (by decide) rfl rfl rfl (Nat.le_of_ble_eq_true rfl) dX5_count_12) ?_
    refine ww_astore_nN [(2, .null), (0, .ref (gA G 0 (0))), (1, .int (x))] C dX5_count_15 rfl (by decide) rfl ?_
    refine ww_aload_nN C dX5_count_16 rfl 0 rfl ?_
    refine ww_ifnonnullN C dX5_count_17 ?_
    refine ww_bipush (v := -2) C dX5_count_20 (by decide) ?_
    refine ww_goto 32 C dX5_count_22 (by decide) ?_
    refine ww_iret C dX5_count_32 ?_
    exact ⟨rfl, rfl⟩
  · exact absurd h2 hm
set_option maxHeartbeats 4000000 in
set_option maxRecDepth 100000 in
theorem c_X5_area_s (l : Launch) (G : Gx) (hA : wa G) (σ : Sg) (cnt p n : Nat) (hc : σ 0 0 5 = nI cnt) (hc8 : cnt ≤ 8) (hpc : p < cnt) (hp : p < 8) (hs : σ 14 (p + 1) 2 = nI n) (hn : n ≤ 14) : CtI l yX5_area wsX5_area (rmd 2) G [.ref (gA G 0 (0)), .int (nI p)] σ (fun r σ2 => r = σ 17 p 2 ∧ σ2 = σ) := by
  refine ct_i (maxL := 3) (ret := (some .int)) (by decide) rfl (Nat.le_of_ble_eq_true rfl) hA (fun K hl C => ?_)
  subst hl
  change WW K G _ _ σ [(0, .ref (gA G 0 (0))), (1, .int (nI p))] 0 []
  refine ww_aload_n C dX5_area_0 rfl 0 rfl ?_
  refine ww_iload_n C dX5_area_1 rfl 1 rfl ?_
  refine ww_callqR (cx_V (n := 1) (As := [.int (nI p)]) C  (c_X5_shapeOf_s (kL K) G hA _ cnt p hc hc8 hpc) gX5_area_X5_shapeOf rfl ⟨rfl, rfl⟩ (by decide +kernel) (by decide) rfl (by decide) rfl rfl rfl (Nat.le_of_ble_eq_true rfl) dX5_area_2) ?_
  refine ww_astore_n [(2, .ref (gA G 17 (p))), (0, .ref (gA G 0 (0))), (1, .int (nI p))] C dX5_area_5 rfl (by decide) rfl ?_
  refine ww_aload_n C dX5_area_6 rfl 0 rfl ?_
  refine ww_ifnonnull 14 C dX5_area_7 (by decide) ?_
  refine ww_aload_n C dX5_area_14 rfl 0 rfl ?_
  refine ww_gi (k := 17) (f := 2) C rfl rfl hp rfl in_X5_area_X3 (by decide) lk_X5_area_107 dX5_area_15 ?_
  refine ww_iret C dX5_area_18 ?_
  exact ⟨rfl, rfl⟩
set_option maxHeartbeats 4000000 in
set_option maxRecDepth 100000 in
theorem c_X5_area_n (l : Launch) (G : Gx) (hA : wa G) (σ : Sg) (cnt : Nat) (hc : σ 0 0 5 = nI cnt) (hc8 : cnt ≤ 8) (x : Int32) (hu : ¬ (0 ≤ x ∧ x < nI cnt)) : CtI l yX5_area wsX5_area (rmd 2) G [.ref (gA G 0 (0)), .int (x)] σ (fun r σ2 => r = 0 ∧ σ2 = σ) := by
  refine ct_i (maxL := 3) (ret := (some .int)) (by decide) rfl (Nat.le_of_ble_eq_true rfl) hA (fun K hl C => ?_)
  subst hl
  change WW K G _ _ σ [(0, .ref (gA G 0 (0))), (1, .int (x))] 0 []
  refine ww_aload_n C dX5_area_0 rfl 0 rfl ?_
  refine ww_iload_n C dX5_area_1 rfl 1 rfl ?_
  refine ww_callqN (cx_V (n := 1) (As := [.int (x)]) C  (c_X5_shapeOf_n (kL K) G hA _ cnt hc hc8 x hu) gX5_area_X5_shapeOf rfl ⟨rfl, rfl⟩ (by decide +kernel) (by decide) rfl (by decide) rfl rfl rfl (Nat.le_of_ble_eq_true rfl) dX5_area_2) ?_
  refine ww_astore_nN [(2, .null), (0, .ref (gA G 0 (0))), (1, .int (x))] C dX5_area_5 rfl (by decide) rfl ?_
  refine ww_aload_nN C dX5_area_6 rfl 0 rfl ?_
  refine ww_ifnonnullN C dX5_area_7 ?_
  refine ww_iconst (v := 0) C dX5_area_10 rfl ?_
  refine ww_goto 18 C dX5_area_11 (by decide) ?_
  refine ww_iret C dX5_area_18 ?_
  exact ⟨rfl, rfl⟩
set_option maxHeartbeats 4000000 in
set_option maxRecDepth 100000 in
theorem c_X5_triangulations_s (l : Launch) (G : Gx) (hA : wa G) (σ : Sg) (cnt p n : Nat) (hc : σ 0 0 5 = nI cnt) (hc8 : cnt ≤ 8) (hpc : p < cnt) (hp : p < 8) (hs : σ 14 (p + 1) 2 = nI n) (hn : n ≤ 14) : CtI l yX5_triangulations wsX5_triangulations (rmd 2) G [.ref (gA G 0 (0)), .int (nI p)] σ (fun r σ2 => r = σ 17 p 3 ∧ σ2 = σ) := by
  refine ct_i (maxL := 3) (ret := (some .int)) (by decide) rfl (Nat.le_of_ble_eq_true rfl) hA (fun K hl C => ?_)
  subst hl
  change WW K G _ _ σ [(0, .ref (gA G 0 (0))), (1, .int (nI p))] 0 []
  refine ww_aload_n C dX5_triangulations_0 rfl 0 rfl ?_
  refine ww_iload_n C dX5_triangulations_1 rfl 1 rfl ?_
  refine ww_callqR (cx_V (n := 1) (As := [.int (nI p)]) C  (c_X5_shapeOf_s (kL K) G hA _ cnt p hc hc8 hpc) gX5_triangulations_X5_shapeOf rfl ⟨rfl, rfl⟩ (by decide +kernel) (by decide) rfl (by decide) rfl rfl rfl (Nat.le_of_ble_eq_true rfl) dX5_triangulations_2) ?_
  refine ww_astore_n [(2, .ref (gA G 17 (p))), (0, .ref (gA G 0 (0))), (1, .int (nI p))] C dX5_triangulations_5 rfl (by decide) rfl ?_
  refine ww_aload_n C dX5_triangulations_6 rfl 0 rfl ?_
  refine ww_ifnonnull 15 C dX5_triangulations_7 (by decide) ?_
  refine ww_aload_n C dX5_triangulations_15 rfl 0 rfl ?_
  refine ww_gi (k := 17) (f := 3) C rfl rfl hp rfl in_X5_triangulations_X3 (by decide) lk_X5_triangulations_150 dX5_triangulations_16 ?_
  refine ww_iret C dX5_triangulations_19 ?_
  exact ⟨rfl, rfl⟩
set_option maxHeartbeats 4000000 in
set_option maxRecDepth 100000 in
theorem c_X5_triangulations_n (l : Launch) (G : Gx) (hA : wa G) (σ : Sg) (cnt : Nat) (hc : σ 0 0 5 = nI cnt) (hc8 : cnt ≤ 8) (x : Int32) (hu : ¬ (0 ≤ x ∧ x < nI cnt)) : CtI l yX5_triangulations wsX5_triangulations (rmd 2) G [.ref (gA G 0 (0)), .int (x)] σ (fun r σ2 => r = -2 ∧ σ2 = σ) := by
  refine ct_i (maxL := 3) (ret := (some .int)) (by decide) rfl (Nat.le_of_ble_eq_true rfl) hA (fun K hl C => ?_)
  subst hl
  change WW K G _ _ σ [(0, .ref (gA G 0 (0))), (1, .int (x))] 0 []
  refine ww_aload_n C dX5_triangulations_0 rfl 0 rfl ?_
  refine ww_iload_n C dX5_triangulations_1 rfl 1 rfl ?_
  refine ww_callqN (cx_V (n := 1) (As := [.int (x)]) C  (c_X5_shapeOf_n (kL K) G hA _ cnt hc hc8 x hu) gX5_triangulations_X5_shapeOf rfl ⟨rfl, rfl⟩ (by decide +kernel) (by decide) rfl (by decide) rfl rfl rfl (Nat.le_of_ble_eq_true rfl) dX5_triangulations_2) ?_
  refine ww_astore_nN [(2, .null), (0, .ref (gA G 0 (0))), (1, .int (x))] C dX5_triangulations_5 rfl (by decide) rfl ?_
  refine ww_aload_nN C dX5_triangulations_6 rfl 0 rfl ?_
  refine ww_ifnonnullN C dX5_triangulations_7 ?_
  refine ww_bipush (v := -2) C dX5_triangulations_10 (by decide) ?_
  refine ww_goto 19 C dX5_triangulations_12 (by decide) ?_
  refine ww_iret C dX5_triangulations_19 ?_
  exact ⟨rfl, rfl⟩
set_option maxHeartbeats 4000000 in
set_option maxRecDepth 100000 in
theorem c_X5_best_s (l : Launch) (G : Gx) (hA : wa G) (σ : Sg) (cnt p n : Nat) (hc : σ 0 0 5 = nI cnt) (hc8 : cnt ≤ 8) (hpc : p < cnt) (hp : p < 8) (hs : σ 14 (p + 1) 2 = nI n) (hn : n ≤ 14) : CtI l yX5_best wsX5_best (rmd 2) G [.ref (gA G 0 (0)), .int (nI p)] σ (fun r σ2 => r = σ 17 p 4 ∧ σ2 = σ) := by
  refine ct_i (maxL := 3) (ret := (some .int)) (by decide) rfl (Nat.le_of_ble_eq_true rfl) hA (fun K hl C => ?_)
  subst hl
  change WW K G _ _ σ [(0, .ref (gA G 0 (0))), (1, .int (nI p))] 0 []
  refine ww_aload_n C dX5_best_0 rfl 0 rfl ?_
  refine ww_iload_n C dX5_best_1 rfl 1 rfl ?_
  refine ww_callqR (cx_V (n := 1) (As := [.int (nI p)]) C  (c_X5_shapeOf_s (kL K) G hA _ cnt p hc hc8 hpc) gX5_best_X5_shapeOf rfl ⟨rfl, rfl⟩ (by decide +kernel) (by decide) rfl (by decide) rfl rfl rfl (Nat.le_of_ble_eq_true rfl) dX5_best_2) ?_
  refine ww_astore_n [(2, .ref (gA G 17 (p))), (0, .ref (gA G 0 (0))), (1, .int (nI p))] C dX5_best_5 rfl (by decide) rfl ?_
  refine ww_aload_n C dX5_best_6 rfl 0 rfl ?_
  refine ww_ifnonnull 15 C dX5_best_7 (by decide) ?_
  refine ww_aload_n C dX5_best_15 rfl 0 rfl ?_
  refine ww_gi (k := 17) (f := 4) C rfl rfl hp rfl in_X5_best_X3 (by decide) lk_X5_best_153 dX5_best_16 ?_
  refine ww_iret C dX5_best_19 ?_
  exact ⟨rfl, rfl⟩
set_option maxHeartbeats 4000000 in
set_option maxRecDepth 100000 in
theorem c_X5_best_n (l : Launch) (G : Gx) (hA : wa G) (σ : Sg) (cnt : Nat) (hc : σ 0 0 5 = nI cnt) (hc8 : cnt ≤ 8) (x : Int32) (hu : ¬ (0 ≤ x ∧ x < nI cnt)) : CtI l yX5_best wsX5_best (rmd 2) G [.ref (gA G 0 (0)), .int (x)] σ (fun r σ2 => r = -2 ∧ σ2 = σ) := by
  refine ct_i (maxL := 3) (ret := (some .int)) (by decide) rfl (Nat.le_of_ble_eq_true rfl) hA (fun K hl C => ?_)
  subst hl
  change WW K G _ _ σ [(0, .ref (gA G 0 (0))), (1, .int (x))] 0 []
  refine ww_aload_n C dX5_best_0 rfl 0 rfl ?_
  refine ww_iload_n C dX5_best_1 rfl 1 rfl ?_
  refine ww_callqN (cx_V (n := 1) (As := [.int (x)]) C  (c_X5_shapeOf_n (kL K) G hA _ cnt hc hc8 x hu) gX5_best_X5_shapeOf rfl ⟨rfl, rfl⟩ (by decide +kernel) (by decide) rfl (by decide) rfl rfl rfl (Nat.le_of_ble_eq_true rfl) dX5_best_2) ?_
  refine ww_astore_nN [(2, .null), (0, .ref (gA G 0 (0))), (1, .int (x))] C dX5_best_5 rfl (by decide) rfl ?_
  refine ww_aload_nN C dX5_best_6 rfl 0 rfl ?_
  refine ww_ifnonnullN C dX5_best_7 ?_
  refine ww_bipush (v := -2) C dX5_best_10 (by decide) ?_
  refine ww_goto 19 C dX5_best_12 (by decide) ?_
  refine ww_iret C dX5_best_19 ?_
  exact ⟨rfl, rfl⟩
set_option maxHeartbeats 4000000 in
set_option maxRecDepth 100000 in
theorem c_X5_parts_s (l : Launch) (G : Gx) (hA : wa G) (σ : Sg) (cnt p n : Nat) (hc : σ 0 0 5 = nI cnt) (hc8 : cnt ≤ 8) (hpc : p < cnt) (hp : p < 8) (hs : σ 14 (p + 1) 2 = nI n) (hn : n ≤ 14) : CtI l yX5_parts wsX5_parts (rmd 2) G [.ref (gA G 0 (0)), .int (nI p)] σ (fun r σ2 => r = σ 17 p 5 ∧ σ2 = σ) := by
  refine ct_i (maxL := 3) (ret := (some .int)) (by decide) rfl (Nat.le_of_ble_eq_true rfl) hA (fun K hl C => ?_)
  subst hl
  change WW K G _ _ σ [(0, .ref (gA G 0 (0))), (1, .int (nI p))] 0 []
  refine ww_aload_n C dX5_parts_0 rfl 0 rfl ?_
  refine ww_iload_n C dX5_parts_1 rfl 1 rfl ?_
  refine ww_callqR (cx_V (n := 1) (As := [.int (nI p)]) C  (c_X5_shapeOf_s (kL K) G hA _ cnt p hc hc8 hpc) gX5_parts_X5_shapeOf rfl ⟨rfl, rfl⟩ (by decide +kernel) (by decide) rfl (by decide) rfl rfl rfl (Nat.le_of_ble_eq_true rfl) dX5_parts_2) ?_
  refine ww_astore_n [(2, .ref (gA G 17 (p))), (0, .ref (gA G 0 (0))), (1, .int (nI p))] C dX5_parts_5 rfl (by decide) rfl ?_
  refine ww_aload_n C dX5_parts_6 rfl 0 rfl ?_
  refine ww_ifnonnull 15 C dX5_parts_7 (by decide) ?_
  refine ww_aload_n C dX5_parts_15 rfl 0 rfl ?_
  refine ww_gi (k := 17) (f := 5) C rfl rfl hp rfl in_X5_parts_X3 (by decide) lk_X5_parts_180 dX5_parts_16 ?_
  refine ww_iret C dX5_parts_19 ?_
  exact ⟨rfl, rfl⟩
set_option maxHeartbeats 4000000 in
set_option maxRecDepth 100000 in
theorem c_X5_parts_n (l : Launch) (G : Gx) (hA : wa G) (σ : Sg) (cnt : Nat) (hc : σ 0 0 5 = nI cnt) (hc8 : cnt ≤ 8) (x : Int32) (hu : ¬ (0 ≤ x ∧ x < nI cnt)) : CtI l yX5_parts wsX5_parts (rmd 2) G [.ref (gA G 0 (0)), .int (x)] σ (fun r σ2 => r = -2 ∧ σ2 = σ) := by
  refine ct_i (maxL := 3) (ret := (some .int)) (by decide) rfl (Nat.le_of_ble_eq_true rfl) hA (fun K hl C => ?_)
  subst hl
  change WW K G _ _ σ [(0, .ref (gA G 0 (0))), (1, .int (x))] 0 []
  refine ww_aload_n C dX5_parts_0 rfl 0 rfl ?_
  refine ww_iload_n C dX5_parts_1 rfl 1 rfl ?_
  refine ww_callqN (cx_V (n := 1) (As := [.int (x)]) C  (c_X5_shapeOf_n (kL K) G hA _ cnt hc hc8 x hu) gX5_parts_X5_shapeOf rfl ⟨rfl, rfl⟩ (by decide +kernel) (by decide) rfl (by decide) rfl rfl rfl (Nat.le_of_ble_eq_true rfl) dX5_parts_2) ?_
  refine ww_astore_nN [(2, .null), (0, .ref (gA G 0 (0))), (1, .int (x))] C dX5_parts_5 rfl (by decide) rfl ?_
  refine ww_aload_nN C dX5_parts_6 rfl 0 rfl ?_
  refine ww_ifnonnullN C dX5_parts_7 ?_
  refine ww_bipush (v := -2) C dX5_parts_10 (by decide) ?_
  refine ww_goto 19 C dX5_parts_12 (by decide) ?_
  refine ww_iret C dX5_parts_19 ?_
  exact ⟨rfl, rfl⟩
def inR (v x y : Int32) : Int32 := if (-3000 ≤ x ∧ x ≤ 3000) ∧ (-3000 ≤ y ∧ y ≤ 3000) then v else -3
set_option maxHeartbeats 4000000 in
set_option maxRecDepth 100000 in
theorem c_X5_in_s (l : Launch) (G : Gx) (hA : wa G) (σ : Sg) (cnt p n : Nat) (hc : σ 0 0 5 = nI cnt) (hc8 : cnt ≤ 8) (hpc : p < cnt) (hp : p < 8) (hs : σ 14 (p + 1) 2 = nI n) (hn : n ≤ 14) (u v : Int32) : CtI l yX5_in wsX5_in (rmd 3) G [.ref (gA G 0 (0)), .int (nI p), .int (u), .int (v)] σ (fun r σ2 => r = inR (plcC n (σ 15 (p + 1)) (σ 16 (p + 1)) u v 1) u v ∧ σ2 = σ) := by
  refine ct_i (maxL := 5) (ret := (some .int)) (by decide) rfl (Nat.le_of_ble_eq_true rfl) hA (fun K hl C => ?_)
  subst hl
  change WW K G _ _ σ [(0, .ref (gA G 0 (0))), (1, .int (nI p)), (2, .int (u)), (3, .int (v))] 0 []
  refine ww_aload_n C dX5_in_0 rfl 0 rfl ?_
  refine ww_iload_n C dX5_in_1 rfl 1 rfl ?_
  refine ww_callqR (cx_V (n := 1) (As := [.int (nI p)]) C  (c_X5_shapeOf_s (kL K) G hA _ cnt p hc hc8 hpc) gX5_in_X5_shapeOf rfl ⟨rfl, rfl⟩ (by decide +kernel) (by decide) rfl (by decide) rfl rfl rfl (Nat.le_of_ble_eq_true rfl) dX5_in_2) ?_
  refine ww_astore [(4, .ref (gA G 17 (p))), (0, .ref (gA G 0 (0))), (1, .int (nI p)), (2, .int (u)), (3, .int (v))] C dX5_in_5 (by decide) rfl ?_
  refine ww_aload C dX5_in_7 0 rfl ?_
  refine ww_ifnonnull 15 C dX5_in_9 (by decide) ?_
  refine ww_iload_n C dX5_in_15 rfl 3 rfl ?_
  refine ww_sipush (v := 3000) C dX5_in_16 (by decide) ?_
  refine ww_calliF (cx_S (n := 2) (As := [.int (u), .int (3000)]) C  (c_X5_isWithin (kL K) G hA _ _ _) gX5_in_X5_isWithin rfl ⟨rfl, rfl⟩ (by decide +kernel) (by decide) rfl rfl (Nat.le_of_ble_eq_true rfl) dX5_in_19) ?_
  refine ww_if_eq 35 C dX5_in_22 (by decide) (fun h22 => ?_) (fun h22 => ?_)
  · refine ww_bipush (v := -3) C dX5_in_35 (by decide) ?_
    refine ww_iret C dX5_in_37 ?_
    exact ⟨by rw [inR, if_neg (fun q => of_decide_eq_false (bI_0.mp h22) q.1)], rfl⟩
  · refine ww_iload_n C dX5_in_25 rfl 4 rfl ?_
    refine ww_sipush (v := 3000) C dX5_in_26 (by decide) ?_
    refine ww_calliF (cx_S (n := 2) (As := [.int (v), .int (3000)]) C  (c_X5_isWithin (kL K) G hA _ _ _) gX5_in_X5_isWithin rfl ⟨rfl, rfl⟩ (by decide +kernel) (by decide) rfl rfl (Nat.le_of_ble_eq_true rfl) dX5_in_29) ?_
    refine ww_if_ne 38 C dX5_in_32 (by decide) (fun h32 => ?_) (fun h32 => ?_)
    · refine ww_aload C dX5_in_38 0 rfl ?_
      refine ww_iload_n C dX5_in_40 rfl 3 rfl ?_
      refine ww_iload_n C dX5_in_41 rfl 4 rfl ?_
      refine ww_iconst (v := 1) C dX5_in_42 rfl ?_
      refine ww_calliF (cx_V (n := 3) (As := [.int (u), .int (v), .int (1)]) C  (c_X3_placeOf (kL K) G hA _ p n hp hs hn _ _ _) gX5_in_X3_placeOf rfl ⟨rfl, rfl⟩ (by decide +kernel) (by decide) rfl hp rfl rfl rfl (Nat.le_of_ble_eq_true rfl) dX5_in_43) ?_
      refine ww_iret C dX5_in_46 ?_
      exact ⟨by rw [inR, if_pos ⟨of_decide_eq_true (bI_1.mp h22), of_decide_eq_true (bI_1.mp h32)⟩], rfl⟩
    · refine ww_bipush (v := -3) C dX5_in_35 (by decide) ?_
      refine ww_iret C dX5_in_37 ?_
      exact ⟨by rw [inR, if_neg (fun q => of_decide_eq_false (bI_0.mp h32) q.2)], rfl⟩
set_option maxHeartbeats 4000000 in
set_option maxRecDepth 100000 in
theorem c_X5_in_n (l : Launch) (G : Gx) (hA : wa G) (σ : Sg) (cnt : Nat) (hc : σ 0 0 5 = nI cnt) (hc8 : cnt ≤ 8) (x : Int32) (hu : ¬ (0 ≤ x ∧ x < nI cnt)) (u v : Int32) : CtI l yX5_in wsX5_in (rmd 3) G [.ref (gA G 0 (0)), .int (x), .int (u), .int (v)] σ (fun r σ2 => r = -2 ∧ σ2 = σ) := by
  refine ct_i (maxL := 5) (ret := (some .int)) (by decide) rfl (Nat.le_of_ble_eq_true rfl) hA (fun K hl C => ?_)
  subst hl
  change WW K G _ _ σ [(0, .ref (gA G 0 (0))), (1, .int (x)), (2, .int (u)), (3, .int (v))] 0 []
  refine ww_aload_n C dX5_in_0 rfl 0 rfl ?_
  refine ww_iload_n C dX5_in_1 rfl 1 rfl ?_
  refine ww_callqN (cx_V (n := 1) (As := [.int (x)]) C  (c_X5_shapeOf_n (kL K) G hA _ cnt hc hc8 x hu) gX5_in_X5_shapeOf rfl ⟨rfl, rfl⟩ (by decide +kernel) (by decide) rfl (by decide) rfl rfl rfl (Nat.le_of_ble_eq_true rfl) dX5_in_2) ?_
  refine ww_astoreN [(4, .null), (0, .ref (gA G 0 (0))), (1, .int (x)), (2, .int (u)), (3, .int (v))] C dX5_in_5 (by decide) rfl ?_
  refine ww_aloadN C dX5_in_7 0 rfl ?_
  refine ww_ifnonnullN C dX5_in_9 ?_
  refine ww_bipush (v := -2) C dX5_in_12 (by decide) ?_
  refine ww_iret C dX5_in_14 ?_
  exact ⟨rfl, rfl⟩
def ptsR (on ar w : Int32) : Int32 := if w = 0 then on else if w = 1 then ((if 0 ≤ ar then ar else 0 - ar) - on + 2) / 2 else -3
set_option maxHeartbeats 4000000 in
set_option maxRecDepth 100000 in
theorem c_X5_points_s (l : Launch) (G : Gx) (hA : wa G) (σ : Sg) (cnt p n : Nat) (hc : σ 0 0 5 = nI cnt) (hc8 : cnt ≤ 8) (hpc : p < cnt) (hp : p < 8) (hs : σ 14 (p + 1) 2 = nI n) (hn : n ≤ 14) (w : Int32) : CtI l yX5_points wsX5_points (rmd 4) G [.ref (gA G 0 (0)), .int (nI p), .int (w)] σ (fun r σ2 => r = ptsR (sumN (ptsF n (σ 15 (p + 1)) (σ 16 (p + 1))) n) (σ 17 p 2) w ∧ σ2 = σ) := by
  refine ct_i (maxL := 5) (ret := (some .int)) (by decide) rfl (Nat.le_of_ble_eq_true rfl) hA (fun K hl C => ?_)
  subst hl
  change WW K G _ _ σ [(0, .ref (gA G 0 (0))), (1, .int (nI p)), (2, .int (w))] 0 []
  refine ww_aload_n C dX5_points_0 rfl 0 rfl ?_
  refine ww_iload_n C dX5_points_1 rfl 1 rfl ?_
  refine ww_callqR (cx_V (n := 1) (As := [.int (nI p)]) C  (c_X5_shapeOf_s (kL K) G hA _ cnt p hc hc8 hpc) gX5_points_X5_shapeOf rfl ⟨rfl, rfl⟩ (by decide +kernel) (by decide) rfl (by decide) rfl rfl rfl (Nat.le_of_ble_eq_true rfl) dX5_points_2) ?_
  refine ww_astore_n [(3, .ref (gA G 17 (p))), (0, .ref (gA G 0 (0))), (1, .int (nI p)), (2, .int (w))] C dX5_points_5 rfl (by decide) rfl ?_
  refine ww_aload_n C dX5_points_6 rfl 0 rfl ?_
  refine ww_ifnonnull 13 C dX5_points_7 (by decide) ?_
  refine ww_iload_n C dX5_points_13 rfl 3 rfl ?_
  refine ww_calliF (cx_S (n := 1) (As := [.int (w)]) C  (c_X5_isZeroOrOne (kL K) G hA _ _) gX5_points_X5_isZeroOrOne rfl ⟨rfl, rfl⟩ (by decide +kernel) (by decide) rfl rfl (Nat.le_of_ble_eq_true rfl) dX5_points_14) ?_
  refine ww_if_ne 23 C dX5_points_17 (by decide) (fun h17 => ?_) (fun h17 => ?_)
  · have hz := of_decide_eq_true (bI_1.mp h17)
    refine ww_aload_n C dX5_points_23 rfl 0 rfl ?_
    refine ww_calliF (cx_V (n := 0) (As := []) C  (c_X3_pointsOnEdges (kL K) G hA _ p n hp hs hn) gX5_points_X3_pointsOnEdges rfl ⟨rfl, rfl⟩ (by decide +kernel) (by decide) rfl hp rfl rfl rfl (Nat.le_of_ble_eq_true rfl) dX5_points_24) ?_
    refine ww_istore (fun y1 => [(4, .int (y1)), (3, .ref (gA G 17 (p))), (0, .ref (gA G 0 (0))), (1, .int (nI p)), (2, .int (w))]) C dX5_points_27 (by decide) (fun _ => rfl) (fun y1 ey1 => ?_)
    rw [ey1]; clear ey1 y1
    refine ww_iload_n C dX5_points_29 rfl 4 rfl ?_
    refine ww_if_ne 38 C dX5_points_30 (by decide) (fun h30 => ?_) (fun h30 => ?_)
    · refine ww_aload_n C dX5_points_38 rfl 1 rfl ?_
      refine ww_gi (k := 17) (f := 2) C rfl rfl hp rfl in_X5_points_X3 (by decide) lk_X5_points_107 dX5_points_39 ?_
      refine ww_mabs C lw_X5_points_mabs124 lw_X5_points_mabss lw_X5_points_mi lw_X5_points_mabsc (by decide) (Nat.le_of_ble_eq_true rfl) dX5_points_42 ?_
      refine ww_iload C dX5_points_45 0 rfl ?_
      refine ww_isub C dX5_points_47 ?_
      refine ww_iconst (v := 2) C dX5_points_48 rfl ?_
      refine ww_iadd C dX5_points_49 ?_
      refine ww_iconst (v := 2) C dX5_points_50 rfl ?_
      refine ww_idiv C dX5_points_51 (by decide) ?_
      refine ww_iret C dX5_points_52 ?_
      exact ⟨by rw [ptsR, if_neg h30, if_pos (hz.resolve_left h30)], rfl⟩
    · refine ww_iload C dX5_points_33 0 rfl ?_
      refine ww_goto 52 C dX5_points_35 (by decide) ?_
      refine ww_iret C dX5_points_52 ?_
      exact ⟨by rw [ptsR, if_pos h30], rfl⟩
  · have hz := of_decide_eq_false (bI_0.mp h17)
    refine ww_bipush (v := -3) C dX5_points_20 (by decide) ?_
    refine ww_iret C dX5_points_22 ?_
    exact ⟨by rw [ptsR, if_neg (fun q => hz (Or.inl q)), if_neg (fun q => hz (Or.inr q))], rfl⟩
set_option maxHeartbeats 4000000 in
set_option maxRecDepth 100000 in
theorem c_X5_points_n (l : Launch) (G : Gx) (hA : wa G) (σ : Sg) (cnt : Nat) (hc : σ 0 0 5 = nI cnt) (hc8 : cnt ≤ 8) (x : Int32) (hu : ¬ (0 ≤ x ∧ x < nI cnt)) (w : Int32) : CtI l yX5_points wsX5_points (rmd 4) G [.ref (gA G 0 (0)), .int (x), .int (w)] σ (fun r σ2 => r = -2 ∧ σ2 = σ) := by
  refine ct_i (maxL := 5) (ret := (some .int)) (by decide) rfl (Nat.le_of_ble_eq_true rfl) hA (fun K hl C => ?_)
  subst hl
  change WW K G _ _ σ [(0, .ref (gA G 0 (0))), (1, .int (x)), (2, .int (w))] 0 []
  refine ww_aload_n C dX5_points_0 rfl 0 rfl ?_
  refine ww_iload_n C dX5_points_1 rfl 1 rfl ?_
  refine ww_callqN (cx_V (n := 1) (As := [.int (x)]) C  (c_X5_shapeOf_n (kL K) G hA _ cnt hc hc8 x hu) gX5_points_X5_shapeOf rfl ⟨rfl, rfl⟩ (by decide +kernel) (by decide) rfl (by decide) rfl rfl rfl (Nat.le_of_ble_eq_true rfl) dX5_points_2) ?_
  refine ww_astore_nN [(3, .null), (0, .ref (gA G 0 (0))), (1, .int (x)), (2, .int (w))] C dX5_points_5 rfl (by decide) rfl ?_
  refine ww_aload_nN C dX5_points_6 rfl 0 rfl ?_
  refine ww_ifnonnullN C dX5_points_7 ?_
  refine ww_bipush (v := -2) C dX5_points_10 (by decide) ?_
  refine ww_iret C dX5_points_12 ?_
  exact ⟨rfl, rfl⟩
