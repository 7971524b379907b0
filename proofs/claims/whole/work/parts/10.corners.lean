theorem in_X1_isFull_X1 : ∀ w ∈ wsX10, w ∈ wsX1_isFull := by decide +kernel
theorem lk_X1_isFull_18 : Cond.fieldLink RX1 18 "PolyCuts$Corners" "size" "I" ∈ wsX1_isFull := by decide +kernel
theorem in_X1_has_X1 : ∀ w ∈ wsX10, w ∈ wsX1_has := by decide +kernel
theorem lk_X1_has_18 : Cond.fieldLink RX1 18 "PolyCuts$Corners" "size" "I" ∈ wsX1_has := by decide +kernel
theorem in_X1_clear_X1 : ∀ w ∈ wsX10, w ∈ wsX1_clear := by decide +kernel
theorem lk_X1_clear_18 : Cond.fieldLink RX1 18 "PolyCuts$Corners" "size" "I" ∈ wsX1_clear := by decide +kernel
theorem in_X1_append_X1 : ∀ w ∈ wsX10, w ∈ wsX1_append := by decide +kernel
theorem lk_X1_append_9 : Cond.fieldLink RX1 9 "PolyCuts$Corners" "x" "[I" ∈ wsX1_append := by decide +kernel
theorem lk_X1_append_18 : Cond.fieldLink RX1 18 "PolyCuts$Corners" "size" "I" ∈ wsX1_append := by decide +kernel
theorem lk_X1_append_15 : Cond.fieldLink RX1 15 "PolyCuts$Corners" "y" "[I" ∈ wsX1_append := by decide +kernel
theorem in_X1_copyOf_X1 : ∀ w ∈ wsX10, w ∈ wsX1_copyOf := by decide +kernel
theorem lk_X1_copyOf_18 : Cond.fieldLink RX1 18 "PolyCuts$Corners" "size" "I" ∈ wsX1_copyOf := by decide +kernel
theorem lk_X1_copyOf_9 : Cond.fieldLink RX1 9 "PolyCuts$Corners" "x" "[I" ∈ wsX1_copyOf := by decide +kernel
theorem lw_X1_copyOf_ac26 : Cond.methodLink RX1 26 arraycopyName ∈ wsX1_copyOf := by decide +kernel
theorem lw_X1_copyOf_acn : Cond.native arraycopyName ∈ wsX1_copyOf := by decide +kernel
theorem lw_X1_copyOf_acs : Cond.static arraycopyName ∈ wsX1_copyOf := by decide +kernel
theorem lw_X1_copyOf_aci : Cond.initialized "java/lang/System" ∈ wsX1_copyOf := by decide +kernel
theorem lk_X1_copyOf_15 : Cond.fieldLink RX1 15 "PolyCuts$Corners" "y" "[I" ∈ wsX1_copyOf := by decide +kernel
theorem in_X1_along_X1 : ∀ w ∈ wsX10, w ∈ wsX1_along := by decide +kernel
theorem lk_X1_along_15 : Cond.fieldLink RX1 15 "PolyCuts$Corners" "y" "[I" ∈ wsX1_along := by decide +kernel
theorem lk_X1_along_9 : Cond.fieldLink RX1 9 "PolyCuts$Corners" "x" "[I" ∈ wsX1_along := by decide +kernel
theorem in_X1_after_X1 : ∀ w ∈ wsX10, w ∈ wsX1_after := by decide +kernel
theorem lk_X1_after_18 : Cond.fieldLink RX1 18 "PolyCuts$Corners" "size" "I" ∈ wsX1_after := by decide +kernel
theorem in_X1_before_X1 : ∀ w ∈ wsX10, w ∈ wsX1_before := by decide +kernel
theorem lk_X1_before_18 : Cond.fieldLink RX1 18 "PolyCuts$Corners" "size" "I" ∈ wsX1_before := by decide +kernel
theorem in_X1_turn_X1 : ∀ w ∈ wsX10, w ∈ wsX1_turn := by decide +kernel
theorem lk_X1_turn_9 : Cond.fieldLink RX1 9 "PolyCuts$Corners" "x" "[I" ∈ wsX1_turn := by decide +kernel
theorem lk_X1_turn_15 : Cond.fieldLink RX1 15 "PolyCuts$Corners" "y" "[I" ∈ wsX1_turn := by decide +kernel
theorem in_X1_advance_X1 : ∀ w ∈ wsX10, w ∈ wsX1_advance := by decide +kernel
theorem lk_X1_advance_9 : Cond.fieldLink RX1 9 "PolyCuts$Corners" "x" "[I" ∈ wsX1_advance := by decide +kernel
theorem lk_X1_advance_15 : Cond.fieldLink RX1 15 "PolyCuts$Corners" "y" "[I" ∈ wsX1_advance := by decide +kernel
theorem in_X1_squaredLength_X1 : ∀ w ∈ wsX10, w ∈ wsX1_squaredLength := by decide +kernel
theorem lk_X1_squaredLength_9 : Cond.fieldLink RX1 9 "PolyCuts$Corners" "x" "[I" ∈ wsX1_squaredLength := by decide +kernel
theorem lk_X1_squaredLength_15 : Cond.fieldLink RX1 15 "PolyCuts$Corners" "y" "[I" ∈ wsX1_squaredLength := by decide +kernel
theorem lw_X1_rangesMeet_mmax40 : Cond.methodLink RX1 40 Lib.Math.max.name ∈ wsX1_rangesMeet := by decide +kernel
theorem lw_X1_rangesMeet_mmaxs : Cond.static Lib.Math.max.name ∈ wsX1_rangesMeet := by decide +kernel
theorem lw_X1_rangesMeet_mi : Cond.initialized "java/lang/Math" ∈ wsX1_rangesMeet := by decide +kernel
theorem lw_X1_rangesMeet_mmaxc : Cond.code Lib.Math.max.name Lib.Math.max.code 2 (some .int) ∈ wsX1_rangesMeet := by decide +kernel
theorem lw_X1_rangesMeet_mmin46 : Cond.methodLink RX1 46 Lib.Math.min.name ∈ wsX1_rangesMeet := by decide +kernel
theorem lw_X1_rangesMeet_mmins : Cond.static Lib.Math.min.name ∈ wsX1_rangesMeet := by decide +kernel
theorem lw_X1_rangesMeet_mminc : Cond.code Lib.Math.min.name Lib.Math.min.code 2 (some .int) ∈ wsX1_rangesMeet := by decide +kernel
theorem in_X1_meet_X1 : ∀ w ∈ wsX10, w ∈ wsX1_meet := by decide +kernel
theorem lk_X1_meet_9 : Cond.fieldLink RX1 9 "PolyCuts$Corners" "x" "[I" ∈ wsX1_meet := by decide +kernel
theorem lk_X1_meet_15 : Cond.fieldLink RX1 15 "PolyCuts$Corners" "y" "[I" ∈ wsX1_meet := by decide +kernel
set_option maxHeartbeats 4000000 in
set_option maxRecDepth 100000 in
theorem c_X1_isFull (l : Launch) (G : Gx) (hA : wa G) (σ : Sg) (o n : Nat) (ho : o < 9) (hs : σ 14 o 2 = nI n) (hn : n ≤ 14) : CtI l yX1_isFull wsX1_isFull (rmd 1) G [.ref (gA G 14 (o))] σ (fun r σ' => r = bI (decide (14 ≤ n)) ∧ σ' = σ) := by
  refine ct_i (maxL := 1) (ret := (some .boolean)) (by decide) rfl (Nat.le_of_ble_eq_true rfl) hA (fun K hl C => ?_)
  subst hl
  change WW K G _ _ σ [(0, .ref (gA G 14 (o)))] 0 []
  refine ww_aload_n C dX1_isFull_0 rfl 0 rfl ?_
  refine ww_gi (k := 14) (f := 2) C rfl rfl ho rfl in_X1_isFull_X1 (by decide) lk_X1_isFull_18 dX1_isFull_1 ?_
  refine ww_bipush (v := 14) C dX1_isFull_4 (by decide) ?_
  refine ww_icmp_lt 13 C dX1_isFull_6 (by decide) (fun h6 => ?_) (fun h6 => ?_)
  · have g6 : n < 14 := (cv_lt (a := n) (b := 14) hs (by decide) (by omega) (by omega)).mp h6
    rw [hs] at h6; have h9 : n < 14 := (nI_ltI (b := 14) (by omega) (by decide)).mp h6
    refine ww_iconst (v := 0) C dX1_isFull_13 rfl ?_
    refine ww_zret C dX1_isFull_14 rfl ?_
    exact ⟨by rw [bI]; simp; omega, rfl⟩
  · have g6 : ¬ n < 14 := fun q => h6 ((cv_lt (a := n) (b := 14) hs (by decide) (by omega) (by omega)).mpr q)
    rw [hs] at h6; have h9 : ¬ n < 14 := fun q => h6 ((nI_ltI (b := 14) (by omega) (by decide)).mpr q)
    refine ww_iconst (v := 1) C dX1_isFull_9 rfl ?_
    refine ww_goto 14 C dX1_isFull_10 (by decide) ?_
    refine ww_zret C dX1_isFull_14 rfl ?_
    exact ⟨by rw [bI]; simp; omega, rfl⟩
set_option maxHeartbeats 4000000 in
set_option maxRecDepth 100000 in
theorem c_X1_has (l : Launch) (G : Gx) (hA : wa G) (σ : Sg) (o n : Nat) (ho : o < 9) (hs : σ 14 o 2 = nI n) (hn : n ≤ 14) (x : Int32) : CtI l yX1_has wsX1_has (rmd 1) G [.ref (gA G 14 (o)), .int (x)] σ (fun r σ' => r = bI (decide (0 ≤ x ∧ x < nI n)) ∧ σ' = σ) := by
  refine ct_i (maxL := 2) (ret := (some .boolean)) (by decide) rfl (Nat.le_of_ble_eq_true rfl) hA (fun K hl C => ?_)
  subst hl
  change WW K G _ _ σ [(0, .ref (gA G 14 (o))), (1, .int (x))] 0 []
  refine ww_iload_n C dX1_has_0 rfl 1 rfl ?_
  refine ww_if_lt 16 C dX1_has_1 (by decide) (fun h1 => ?_) (fun h1 => ?_)
  · refine ww_iconst (v := 0) C dX1_has_16 rfl ?_
    refine ww_zret C dX1_has_17 rfl ?_
    exact ⟨by rw [decide_eq_false (fun q => absurd h1 (Int32.not_lt.mpr q.1))]; rfl, rfl⟩
  · refine ww_iload_n C dX1_has_4 rfl 1 rfl ?_
    refine ww_aload_n C dX1_has_5 rfl 0 rfl ?_
    refine ww_gi (k := 14) (f := 2) C rfl rfl ho rfl in_X1_has_X1 (by decide) lk_X1_has_18 dX1_has_6 ?_
    refine ww_icmp_ge 16 C dX1_has_9 (by decide) (fun h9 => ?_) (fun h9 => ?_)
    · refine ww_iconst (v := 0) C dX1_has_16 rfl ?_
      refine ww_zret C dX1_has_17 rfl ?_
      exact ⟨by rw [decide_eq_false (fun q => absurd q.2 (Int32.not_lt.mpr (by rw [← hs]; exact h9)))]; rfl, rfl⟩
    · refine ww_iconst (v := 1) C dX1_has_12 rfl ?_
      refine ww_goto 17 C dX1_has_13 (by decide) ?_
      refine ww_zret C dX1_has_17 rfl ?_
      exact ⟨by rw [decide_eq_true ⟨Int32.not_lt.mp h1, by rw [← hs]; exact Int32.not_le.mp h9⟩]; rfl, rfl⟩
set_option maxHeartbeats 4000000 in
set_option maxRecDepth 100000 in
theorem c_X1_clear (l : Launch) (G : Gx) (hA : wa G) (σ : Sg) (o : Nat) (ho : o < 9) : CtV l yX1_clear wsX1_clear (rmd 1) G [.ref (gA G 14 (o))] σ (fun σ' => σ' = sgu σ 14 o 2 0) := by
  refine ct_v (maxL := 1) (ret := none) (by decide) rfl (Nat.le_of_ble_eq_true rfl) hA (fun K hl C => ?_)
  subst hl
  change WW K G _ _ σ [(0, .ref (gA G 14 (o)))] 0 []
  refine ww_aload_n C dX1_clear_0 rfl 0 rfl ?_
  refine ww_iconst (v := 0) C dX1_clear_1 rfl ?_
  refine ww_pi (k := 14) (f := 2) C rfl rfl ho rfl in_X1_clear_X1 tyX1_ok nmX1 (by decide) lk_X1_clear_18 rfl rfl dX1_clear_2 ?_
  refine ww_vret C dX1_clear_5 ?_
  rfl
set_option maxHeartbeats 4000000 in
set_option maxRecDepth 100000 in
theorem c_X1_append (l : Launch) (G : Gx) (hA : wa G) (σ : Sg) (o n : Nat) (ho : o < 9) (hs : σ 14 o 2 = nI n) (hn : n ≤ 14) (h14 : n < 14) (x y : Int32) : CtV l yX1_append wsX1_append (rmd 2) G [.ref (gA G 14 (o)), .int (x), .int (y)] σ (fun σ' => σ' = sgu (sgu (sgu σ 15 o n x) 16 o n y) 14 o 2 (nI (n + 1))) := by
  refine ct_v (maxL := 3) (ret := none) (by decide) rfl (Nat.le_of_ble_eq_true rfl) hA (fun K hl C => ?_)
  subst hl
  change WW K G _ _ σ [(0, .ref (gA G 14 (o))), (1, .int (x)), (2, .int (y))] 0 []
  refine ww_aload_n C dX1_append_0 rfl 0 rfl ?_
  refine ww_calliF (cx_V (n := 0) (As := []) C  (c_X1_isFull (kL K) G hA _ o n ho hs hn) gX1_append_X1_isFull rfl ⟨rfl, rfl⟩ (by decide +kernel) (by decide) rfl ho rfl rfl rfl (Nat.le_of_ble_eq_true rfl) dX1_append_1) ?_
  refine ww_if_ne 37 C dX1_append_4 (by decide) (fun h4 => ?_) (fun h4 => ?_)
  · exact absurd (bI_1.mp h4) (by simp; omega)
  · refine ww_aload_n C dX1_append_7 rfl 0 rfl ?_
    refine ww_gr (j := o) (k := 14) (f := 0) C rfl rfl ho rfl in_X1_append_X1 (by decide) lk_X1_append_9 dX1_append_8 rfl ?_
    refine ww_aload_n C dX1_append_11 rfl 0 rfl ?_
    refine ww_gi (k := 14) (f := 2) C rfl rfl ho rfl in_X1_append_X1 (by decide) lk_X1_append_18 dX1_append_12 ?_
    refine ww_iload_n C dX1_append_15 rfl 1 rfl ?_
    refine ww_iast (k := 15) (j := n) C rfl ho (by decide) dX1_append_16 hs (by omega) ?_
    refine ww_aload_n C dX1_append_17 rfl 0 rfl ?_
    refine ww_gr (j := o) (k := 14) (f := 1) C rfl rfl ho rfl in_X1_append_X1 (by decide) lk_X1_append_15 dX1_append_18 rfl ?_
    refine ww_aload_n C dX1_append_21 rfl 0 rfl ?_
    refine ww_gi (k := 14) (f := 2) C rfl rfl ho rfl in_X1_append_X1 (by decide) lk_X1_append_18 dX1_append_22 ?_
    refine ww_iload_n C dX1_append_25 rfl 2 rfl ?_
    refine ww_iast (k := 16) (j := n) C rfl ho (by decide) dX1_append_26 (by simp [sgu, sgc, hs]) (by omega) ?_
    refine ww_aload_n C dX1_append_27 rfl 0 rfl ?_
    refine ww_dup C dX1_append_28 rfl ?_
    refine ww_gi (k := 14) (f := 2) C rfl rfl ho rfl in_X1_append_X1 (by decide) lk_X1_append_18 dX1_append_29 ?_
    refine ww_iconst (v := 1) C dX1_append_32 rfl ?_
    refine ww_iadd C dX1_append_33 ?_
    refine ww_pi (k := 14) (f := 2) C rfl rfl ho rfl in_X1_append_X1 tyX1_ok nmX1 (by decide) lk_X1_append_18 rfl rfl dX1_append_34 ?_
    refine ww_vret C dX1_append_37 ?_
    rw [show (sgu (sgu σ 15 o n x) 16 o n y) 14 o 2 = nI n by simp [sgu, hs], nI_1]
set_option maxHeartbeats 4000000 in
set_option maxRecDepth 100000 in
theorem c_X1_copyOf (l : Launch) (G : Gx) (hA : wa G) (σ : Sg) (o o1 n : Nat) (ho : o < 9) (ho1 : o1 < 9) (hs : σ 14 o 2 = nI n) (hn : n ≤ 14) : CtV l yX1_copyOf wsX1_copyOf (rmd 2) G [.ref (gA G 14 (o1)), .ref (gA G 14 (o))] σ (fun σ' => σ' = sgc (sgc (sgu σ 14 o1 2 (nI n)) 15 o o1 n) 16 o o1 n) := by
  refine ct_v (maxL := 2) (ret := none) (by decide) rfl (Nat.le_of_ble_eq_true rfl) hA (fun K hl C => ?_)
  subst hl
  change WW K G _ _ σ [(0, .ref (gA G 14 (o1))), (1, .ref (gA G 14 (o)))] 0 []
  refine ww_aload_n C dX1_copyOf_0 rfl 0 rfl ?_
  refine ww_aload_n C dX1_copyOf_1 rfl 1 rfl ?_
  refine ww_gi (k := 14) (f := 2) C rfl rfl ho rfl in_X1_copyOf_X1 (by decide) lk_X1_copyOf_18 dX1_copyOf_2 ?_
  refine ww_pi (k := 14) (f := 2) C rfl rfl ho1 rfl in_X1_copyOf_X1 tyX1_ok nmX1 (by decide) lk_X1_copyOf_18 rfl rfl dX1_copyOf_5 ?_
  refine ww_aload_n C dX1_copyOf_8 rfl 1 rfl ?_
  refine ww_gr (j := o) (k := 14) (f := 0) C rfl rfl ho rfl in_X1_copyOf_X1 (by decide) lk_X1_copyOf_9 dX1_copyOf_9 rfl ?_
  refine ww_iconst (v := 0) C dX1_copyOf_12 rfl ?_
  refine ww_aload_n C dX1_copyOf_13 rfl 0 rfl ?_
  refine ww_gr (j := o1) (k := 14) (f := 0) C rfl rfl ho1 rfl in_X1_copyOf_X1 (by decide) lk_X1_copyOf_9 dX1_copyOf_14 rfl ?_
  refine ww_iconst (v := 0) C dX1_copyOf_17 rfl ?_
  refine ww_aload_n C dX1_copyOf_18 rfl 0 rfl ?_
  refine ww_gi (k := 14) (f := 2) C rfl rfl ho1 rfl in_X1_copyOf_X1 (by decide) lk_X1_copyOf_18 dX1_copyOf_19 ?_
  refine ww_copy (k := 15) (i0 := o) (i1 := o1) (n := n) C rfl ho ho1 (by simp [sgu, sgc, hs]) hn (by decide) lw_X1_copyOf_ac26 lw_X1_copyOf_acn lw_X1_copyOf_acs lw_X1_copyOf_aci (by decide) (Nat.le_of_ble_eq_true rfl) dX1_copyOf_22 ?_
  refine ww_aload_n C dX1_copyOf_25 rfl 1 rfl ?_
  refine ww_gr (j := o) (k := 14) (f := 1) C rfl rfl ho rfl in_X1_copyOf_X1 (by decide) lk_X1_copyOf_15 dX1_copyOf_26 rfl ?_
  refine ww_iconst (v := 0) C dX1_copyOf_29 rfl ?_
  refine ww_aload_n C dX1_copyOf_30 rfl 0 rfl ?_
  refine ww_gr (j := o1) (k := 14) (f := 1) C rfl rfl ho1 rfl in_X1_copyOf_X1 (by decide) lk_X1_copyOf_15 dX1_copyOf_31 rfl ?_
  refine ww_iconst (v := 0) C dX1_copyOf_34 rfl ?_
  refine ww_aload_n C dX1_copyOf_35 rfl 0 rfl ?_
  refine ww_gi (k := 14) (f := 2) C rfl rfl ho1 rfl in_X1_copyOf_X1 (by decide) lk_X1_copyOf_18 dX1_copyOf_36 ?_
  refine ww_copy (k := 16) (i0 := o) (i1 := o1) (n := n) C rfl ho ho1 (by simp [sgu, sgc, hs]) hn (by decide) lw_X1_copyOf_ac26 lw_X1_copyOf_acn lw_X1_copyOf_acs lw_X1_copyOf_aci (by decide) (Nat.le_of_ble_eq_true rfl) dX1_copyOf_39 ?_
  refine ww_vret C dX1_copyOf_42 ?_
  rw [hs]
set_option maxHeartbeats 4000000 in
set_option maxRecDepth 100000 in
theorem c_X1_along (l : Launch) (G : Gx) (hA : wa G) (σ : Sg) (o : Nat) (ho : o < 9) (x : Int32) : CtQ l yX1_along wsX1_along (rmd 1) G [.ref (gA G 14 (o)), .int (x)] σ (fun r σ' => r = some (if x = 0 then gA G 15 o else gA G 16 o) ∧ σ' = σ) := by
  refine ct_q (maxL := 2) (ret := (some (.array .int))) (by decide) rfl (Nat.le_of_ble_eq_true rfl) hA (fun K hl C => ?_)
  subst hl
  change WW K G _ _ σ [(0, .ref (gA G 14 (o))), (1, .int (x))] 0 []
  refine ww_iload_n C dX1_along_0 rfl 1 rfl ?_
  refine ww_if_ne 11 C dX1_along_1 (by decide) (fun h1 => ?_) (fun h1 => ?_)
  · refine ww_aload_n C dX1_along_11 rfl 0 rfl ?_
    refine ww_gr (j := o) (k := 14) (f := 1) C rfl rfl ho rfl in_X1_along_X1 (by decide) lk_X1_along_15 dX1_along_12 rfl ?_
    refine ww_aret C (Or.inr ⟨_, rfl⟩) dX1_along_15 ?_
    exact ⟨by rw [if_neg h1], rfl⟩
  · refine ww_aload_n C dX1_along_4 rfl 0 rfl ?_
    refine ww_gr (j := o) (k := 14) (f := 0) C rfl rfl ho rfl in_X1_along_X1 (by decide) lk_X1_along_9 dX1_along_5 rfl ?_
    refine ww_goto 15 C dX1_along_8 (by decide) ?_
    refine ww_aret C (Or.inr ⟨_, rfl⟩) dX1_along_15 ?_
    exact ⟨by rw [if_pos h1], rfl⟩
set_option maxHeartbeats 4000000 in
set_option maxRecDepth 100000 in
theorem c_X1_after (l : Launch) (G : Gx) (hA : wa G) (σ : Sg) (o n : Nat) (ho : o < 9) (hs : σ 14 o 2 = nI n) (hn : n ≤ 14) (i : Nat) (hi : i < 14) : CtI l yX1_after wsX1_after (rmd 1) G [.ref (gA G 14 (o)), .int (nI i)] σ (fun r σ' => r = nI (af n i) ∧ σ' = σ) := by
  refine ct_i (maxL := 2) (ret := (some .int)) (by decide) rfl (Nat.le_of_ble_eq_true rfl) hA (fun K hl C => ?_)
  subst hl
  change WW K G _ _ σ [(0, .ref (gA G 14 (o))), (1, .int (nI i))] 0 []
  refine ww_iload_n C dX1_after_0 rfl 1 rfl ?_
  refine ww_iconst (v := 1) C dX1_after_1 rfl ?_
  refine ww_iadd C dX1_after_2 ?_
  refine ww_aload_n C dX1_after_3 rfl 0 rfl ?_
  refine ww_gi (k := 14) (f := 2) C rfl rfl ho rfl in_X1_after_X1 (by decide) lk_X1_after_18 dX1_after_4 ?_
  refine ww_icmp_ge 16 C dX1_after_7 (by decide) (fun h7 => ?_) (fun h7 => ?_)
  · have g7 : n ≤ i + 1 := (cv_le (a := n) (b := i + 1) hs (nI_add (i) (1)) (by omega) (by omega)).mp h7
    have h9 : ¬ i + 1 < n := by
          rw [hs, show (1 : Int32) = nI 1 from rfl, nI_add] at h7
          exact Nat.not_lt.mpr ((nI_leI (by omega) (by omega)).mp h7)
    refine ww_iconst (v := 0) C dX1_after_16 rfl ?_
    refine ww_iret C dX1_after_17 ?_
    exact ⟨by rw [af, if_neg h9]; rfl, rfl⟩
  · have g7 : ¬ n ≤ i + 1 := fun q => h7 ((cv_le (a := n) (b := i + 1) hs (nI_add (i) (1)) (by omega) (by omega)).mpr q)
    have h9 : i + 1 < n := by
          rw [hs, show (1 : Int32) = nI 1 from rfl, nI_add] at h7
          exact Nat.not_le.mp (fun q => h7 ((nI_leI (by omega) (by omega)).mpr q))
    refine ww_iload_n C dX1_after_10 rfl 1 rfl ?_
    refine ww_iconst (v := 1) C dX1_after_11 rfl ?_
    refine ww_iadd C dX1_after_12 ?_
    refine ww_goto 17 C dX1_after_13 (by decide) ?_
    refine ww_iret C dX1_after_17 ?_
    exact ⟨by rw [af, if_pos h9]; exact nI_1 i, rfl⟩
set_option maxHeartbeats 4000000 in
set_option maxRecDepth 100000 in
theorem c_X1_before (l : Launch) (G : Gx) (hA : wa G) (σ : Sg) (o n : Nat) (ho : o < 9) (hs : σ 14 o 2 = nI n) (hn : n ≤ 14) (i : Nat) (hi : i < 14) (h0 : 0 < n) : CtI l yX1_before wsX1_before (rmd 1) G [.ref (gA G 14 (o)), .int (nI i)] σ (fun r σ' => r = nI (bf n i) ∧ σ' = σ) := by
  refine ct_i (maxL := 2) (ret := (some .int)) (by decide) rfl (Nat.le_of_ble_eq_true rfl) hA (fun K hl C => ?_)
  subst hl
  change WW K G _ _ σ [(0, .ref (gA G 14 (o))), (1, .int (nI i))] 0 []
  refine ww_iload_n C dX1_before_0 rfl 1 rfl ?_
  refine ww_if_le 10 C dX1_before_1 (by decide) (fun h1 => ?_) (fun h1 => ?_)
  · have g1 : i ≤ 0 := (cv_le (a := i) (b := 0) rfl (by decide) (lt31 hi) (by omega)).mp h1
    have h9 : ¬ 0 < i := fun q => nI_nle q (by omega) h1
    refine ww_aload_n C dX1_before_10 rfl 0 rfl ?_
    refine ww_gi (k := 14) (f := 2) C rfl rfl ho rfl in_X1_before_X1 (by decide) lk_X1_before_18 dX1_before_11 ?_
    refine ww_iconst (v := 1) C dX1_before_14 rfl ?_
    refine ww_isub C dX1_before_15 ?_
    refine ww_iret C dX1_before_16 ?_
    exact ⟨by rw [bf, if_neg h9, hs]; exact pk_sub h0, rfl⟩
  · have g1 : ¬ i ≤ 0 := fun q => h1 ((cv_le (a := i) (b := 0) rfl (by decide) (lt31 hi) (by omega)).mpr q)
    have h9 : 0 < i := Nat.pos_of_ne_zero (fun q => h1 (by rw [q]; decide))
    refine ww_iload_n C dX1_before_4 rfl 1 rfl ?_
    refine ww_iconst (v := 1) C dX1_before_5 rfl ?_
    refine ww_isub C dX1_before_6 ?_
    refine ww_goto 16 C dX1_before_7 (by decide) ?_
    refine ww_iret C dX1_before_16 ?_
    exact ⟨by rw [bf, if_pos h9]; exact pk_sub h9, rfl⟩
set_option maxHeartbeats 4000000 in
set_option maxRecDepth 100000 in
theorem c_X1_turn (l : Launch) (G : Gx) (hA : wa G) (σ : Sg) (o : Nat) (ho : o < 9) (a b c : Nat) (ha : a < 14) (hb : b < 14) (hc : c < 14) : CtI l yX1_turn wsX1_turn (rmd 1) G [.ref (gA G 14 (o)), .int (nI a), .int (nI b), .int (nI c)] σ (fun r σ' => r = tn (σ 15 o) (σ 16 o) a b c ∧ σ' = σ) := by
  refine ct_i (maxL := 4) (ret := (some .int)) (by decide) rfl (Nat.le_of_ble_eq_true rfl) hA (fun K hl C => ?_)
  subst hl
  change WW K G _ _ σ [(0, .ref (gA G 14 (o))), (1, .int (nI a)), (2, .int (nI b)), (3, .int (nI c))] 0 []
  refine ww_aload_n C dX1_turn_0 rfl 0 rfl ?_
  refine ww_gr (j := o) (k := 14) (f := 0) C rfl rfl ho rfl in_X1_turn_X1 (by decide) lk_X1_turn_9 dX1_turn_1 rfl ?_
  refine ww_iload_n C dX1_turn_4 rfl 2 rfl ?_
  refine ww_iald (k := 15) (j := b) C rfl ho (by decide) dX1_turn_5 rfl hb ?_
  refine ww_aload_n C dX1_turn_6 rfl 0 rfl ?_
  refine ww_gr (j := o) (k := 14) (f := 0) C rfl rfl ho rfl in_X1_turn_X1 (by decide) lk_X1_turn_9 dX1_turn_7 rfl ?_
  refine ww_iload_n C dX1_turn_10 rfl 1 rfl ?_
  refine ww_iald (k := 15) (j := a) C rfl ho (by decide) dX1_turn_11 rfl ha ?_
  refine ww_isub C dX1_turn_12 ?_
  refine ww_aload_n C dX1_turn_13 rfl 0 rfl ?_
  refine ww_gr (j := o) (k := 14) (f := 1) C rfl rfl ho rfl in_X1_turn_X1 (by decide) lk_X1_turn_15 dX1_turn_14 rfl ?_
  refine ww_iload_n C dX1_turn_17 rfl 3 rfl ?_
  refine ww_iald (k := 16) (j := c) C rfl ho (by decide) dX1_turn_18 rfl hc ?_
  refine ww_aload_n C dX1_turn_19 rfl 0 rfl ?_
  refine ww_gr (j := o) (k := 14) (f := 1) C rfl rfl ho rfl in_X1_turn_X1 (by decide) lk_X1_turn_15 dX1_turn_20 rfl ?_
  refine ww_iload_n C dX1_turn_23 rfl 1 rfl ?_
  refine ww_iald (k := 16) (j := a) C rfl ho (by decide) dX1_turn_24 rfl ha ?_
  refine ww_isub C dX1_turn_25 ?_
  refine ww_imul C dX1_turn_26 ?_
  refine ww_aload_n C dX1_turn_27 rfl 0 rfl ?_
  refine ww_gr (j := o) (k := 14) (f := 1) C rfl rfl ho rfl in_X1_turn_X1 (by decide) lk_X1_turn_15 dX1_turn_28 rfl ?_
  refine ww_iload_n C dX1_turn_31 rfl 2 rfl ?_
  refine ww_iald (k := 16) (j := b) C rfl ho (by decide) dX1_turn_32 rfl hb ?_
  refine ww_aload_n C dX1_turn_33 rfl 0 rfl ?_
  refine ww_gr (j := o) (k := 14) (f := 1) C rfl rfl ho rfl in_X1_turn_X1 (by decide) lk_X1_turn_15 dX1_turn_34 rfl ?_
  refine ww_iload_n C dX1_turn_37 rfl 1 rfl ?_
  refine ww_iald (k := 16) (j := a) C rfl ho (by decide) dX1_turn_38 rfl ha ?_
  refine ww_isub C dX1_turn_39 ?_
  refine ww_aload_n C dX1_turn_40 rfl 0 rfl ?_
  refine ww_gr (j := o) (k := 14) (f := 0) C rfl rfl ho rfl in_X1_turn_X1 (by decide) lk_X1_turn_9 dX1_turn_41 rfl ?_
  refine ww_iload_n C dX1_turn_44 rfl 3 rfl ?_
  refine ww_iald (k := 15) (j := c) C rfl ho (by decide) dX1_turn_45 rfl hc ?_
  refine ww_aload_n C dX1_turn_46 rfl 0 rfl ?_
  refine ww_gr (j := o) (k := 14) (f := 0) C rfl rfl ho rfl in_X1_turn_X1 (by decide) lk_X1_turn_9 dX1_turn_47 rfl ?_
  refine ww_iload_n C dX1_turn_50 rfl 1 rfl ?_
  refine ww_iald (k := 15) (j := a) C rfl ho (by decide) dX1_turn_51 rfl ha ?_
  refine ww_isub C dX1_turn_52 ?_
  refine ww_imul C dX1_turn_53 ?_
  refine ww_isub C dX1_turn_54 ?_
  refine ww_iret C dX1_turn_55 ?_
  exact ⟨rfl, rfl⟩
set_option maxHeartbeats 4000000 in
set_option maxRecDepth 100000 in
theorem c_X1_advance (l : Launch) (G : Gx) (hA : wa G) (σ : Sg) (o : Nat) (ho : o < 9) (a b c : Nat) (ha : a < 14) (hb : b < 14) (hc : c < 14) : CtI l yX1_advance wsX1_advance (rmd 1) G [.ref (gA G 14 (o)), .int (nI a), .int (nI b), .int (nI c)] σ (fun r σ' => r = adv (σ 15 o) (σ 16 o) a b c ∧ σ' = σ) := by
  refine ct_i (maxL := 4) (ret := (some .int)) (by decide) rfl (Nat.le_of_ble_eq_true rfl) hA (fun K hl C => ?_)
  subst hl
  change WW K G _ _ σ [(0, .ref (gA G 14 (o))), (1, .int (nI a)), (2, .int (nI b)), (3, .int (nI c))] 0 []
  refine ww_aload_n C dX1_advance_0 rfl 0 rfl ?_
  refine ww_gr (j := o) (k := 14) (f := 0) C rfl rfl ho rfl in_X1_advance_X1 (by decide) lk_X1_advance_9 dX1_advance_1 rfl ?_
  refine ww_iload_n C dX1_advance_4 rfl 2 rfl ?_
  refine ww_iald (k := 15) (j := b) C rfl ho (by decide) dX1_advance_5 rfl hb ?_
  refine ww_aload_n C dX1_advance_6 rfl 0 rfl ?_
  refine ww_gr (j := o) (k := 14) (f := 0) C rfl rfl ho rfl in_X1_advance_X1 (by decide) lk_X1_advance_9 dX1_advance_7 rfl ?_
  refine ww_iload_n C dX1_advance_10 rfl 1 rfl ?_
  refine ww_iald (k := 15) (j := a) C rfl ho (by decide) dX1_advance_11 rfl ha ?_
  refine ww_isub C dX1_advance_12 ?_
  refine ww_aload_n C dX1_advance_13 rfl 0 rfl ?_
  refine ww_gr (j := o) (k := 14) (f := 0) C rfl rfl ho rfl in_X1_advance_X1 (by decide) lk_X1_advance_9 dX1_advance_14 rfl ?_
  refine ww_iload_n C dX1_advance_17 rfl 3 rfl ?_
  refine ww_iald (k := 15) (j := c) C rfl ho (by decide) dX1_advance_18 rfl hc ?_
  refine ww_aload_n C dX1_advance_19 rfl 0 rfl ?_
  refine ww_gr (j := o) (k := 14) (f := 0) C rfl rfl ho rfl in_X1_advance_X1 (by decide) lk_X1_advance_9 dX1_advance_20 rfl ?_
  refine ww_iload_n C dX1_advance_23 rfl 2 rfl ?_
  refine ww_iald (k := 15) (j := b) C rfl ho (by decide) dX1_advance_24 rfl hb ?_
  refine ww_isub C dX1_advance_25 ?_
  refine ww_imul C dX1_advance_26 ?_
  refine ww_aload_n C dX1_advance_27 rfl 0 rfl ?_
  refine ww_gr (j := o) (k := 14) (f := 1) C rfl rfl ho rfl in_X1_advance_X1 (by decide) lk_X1_advance_15 dX1_advance_28 rfl ?_
  refine ww_iload_n C dX1_advance_31 rfl 2 rfl ?_
  refine ww_iald (k := 16) (j := b) C rfl ho (by decide) dX1_advance_32 rfl hb ?_
  refine ww_aload_n C dX1_advance_33 rfl 0 rfl ?_
  refine ww_gr (j := o) (k := 14) (f := 1) C rfl rfl ho rfl in_X1_advance_X1 (by decide) lk_X1_advance_15 dX1_advance_34 rfl ?_
  refine ww_iload_n C dX1_advance_37 rfl 1 rfl ?_
  refine ww_iald (k := 16) (j := a) C rfl ho (by decide) dX1_advance_38 rfl ha ?_
  refine ww_isub C dX1_advance_39 ?_
  refine ww_aload_n C dX1_advance_40 rfl 0 rfl ?_
  refine ww_gr (j := o) (k := 14) (f := 1) C rfl rfl ho rfl in_X1_advance_X1 (by decide) lk_X1_advance_15 dX1_advance_41 rfl ?_
  refine ww_iload_n C dX1_advance_44 rfl 3 rfl ?_
  refine ww_iald (k := 16) (j := c) C rfl ho (by decide) dX1_advance_45 rfl hc ?_
  refine ww_aload_n C dX1_advance_46 rfl 0 rfl ?_
  refine ww_gr (j := o) (k := 14) (f := 1) C rfl rfl ho rfl in_X1_advance_X1 (by decide) lk_X1_advance_15 dX1_advance_47 rfl ?_
  refine ww_iload_n C dX1_advance_50 rfl 2 rfl ?_
  refine ww_iald (k := 16) (j := b) C rfl ho (by decide) dX1_advance_51 rfl hb ?_
  refine ww_isub C dX1_advance_52 ?_
  refine ww_imul C dX1_advance_53 ?_
  refine ww_iadd C dX1_advance_54 ?_
  refine ww_iret C dX1_advance_55 ?_
  exact ⟨rfl, rfl⟩
set_option maxHeartbeats 4000000 in
set_option maxRecDepth 100000 in
theorem c_X1_squaredLength (l : Launch) (G : Gx) (hA : wa G) (σ : Sg) (o : Nat) (ho : o < 9) (a b : Nat) (ha : a < 14) (hb : b < 14) : CtI l yX1_squaredLength wsX1_squaredLength (rmd 1) G [.ref (gA G 14 (o)), .int (nI a), .int (nI b)] σ (fun r σ' => r = sq9 (σ 15 o) (σ 16 o) a b ∧ σ' = σ) := by
  refine ct_i (maxL := 5) (ret := (some .int)) (by decide) rfl (Nat.le_of_ble_eq_true rfl) hA (fun K hl C => ?_)
  subst hl
  change WW K G _ _ σ [(0, .ref (gA G 14 (o))), (1, .int (nI a)), (2, .int (nI b))] 0 []
  refine ww_aload_n C dX1_squaredLength_0 rfl 0 rfl ?_
  refine ww_gr (j := o) (k := 14) (f := 0) C rfl rfl ho rfl in_X1_squaredLength_X1 (by decide) lk_X1_squaredLength_9 dX1_squaredLength_1 rfl ?_
  refine ww_iload_n C dX1_squaredLength_4 rfl 2 rfl ?_
  refine ww_iald (k := 15) (j := b) C rfl ho (by decide) dX1_squaredLength_5 rfl hb ?_
  refine ww_aload_n C dX1_squaredLength_6 rfl 0 rfl ?_
  refine ww_gr (j := o) (k := 14) (f := 0) C rfl rfl ho rfl in_X1_squaredLength_X1 (by decide) lk_X1_squaredLength_9 dX1_squaredLength_7 rfl ?_
  refine ww_iload_n C dX1_squaredLength_10 rfl 1 rfl ?_
  refine ww_iald (k := 15) (j := a) C rfl ho (by decide) dX1_squaredLength_11 rfl ha ?_
  refine ww_isub C dX1_squaredLength_12 ?_
  refine ww_istore_n (fun y1 => [(3, .int (y1)), (0, .ref (gA G 14 (o))), (1, .int (nI a)), (2, .int (nI b))]) C dX1_squaredLength_13 rfl (by decide) (fun _ => rfl) (fun y1 ey1 => ?_)
  refine ww_aload_n C dX1_squaredLength_14 rfl 1 rfl ?_
  refine ww_gr (j := o) (k := 14) (f := 1) C rfl rfl ho rfl in_X1_squaredLength_X1 (by decide) lk_X1_squaredLength_15 dX1_squaredLength_15 rfl ?_
  refine ww_iload_n C dX1_squaredLength_18 rfl 3 rfl ?_
  refine ww_iald (k := 16) (j := b) C rfl ho (by decide) dX1_squaredLength_19 rfl hb ?_
  refine ww_aload_n C dX1_squaredLength_20 rfl 1 rfl ?_
  refine ww_gr (j := o) (k := 14) (f := 1) C rfl rfl ho rfl in_X1_squaredLength_X1 (by decide) lk_X1_squaredLength_15 dX1_squaredLength_21 rfl ?_
  refine ww_iload_n C dX1_squaredLength_24 rfl 2 rfl ?_
  refine ww_iald (k := 16) (j := a) C rfl ho (by decide) dX1_squaredLength_25 rfl ha ?_
  refine ww_isub C dX1_squaredLength_26 ?_
  refine ww_istore (fun y2 => [(4, .int (y2)), (3, .int (y1)), (0, .ref (gA G 14 (o))), (1, .int (nI a)), (2, .int (nI b))]) C dX1_squaredLength_27 (by decide) (fun _ => rfl) (fun y2 ey2 => ?_)
  refine ww_iload_n C dX1_squaredLength_29 rfl 1 rfl ?_
  refine ww_iload_n C dX1_squaredLength_30 rfl 1 rfl ?_
  refine ww_imul C dX1_squaredLength_31 ?_
  refine ww_iload C dX1_squaredLength_32 0 rfl ?_
  refine ww_iload C dX1_squaredLength_34 0 rfl ?_
  refine ww_imul C dX1_squaredLength_36 ?_
  refine ww_iadd C dX1_squaredLength_37 ?_
  refine ww_iret C dX1_squaredLength_38 ?_
  exact ⟨by rw [ey1, ey2]; rfl, rfl⟩
set_option maxHeartbeats 4000000 in
set_option maxRecDepth 100000 in
theorem c_X1_rangesMeet_15 (l : Launch) (G : Gx) (hA : wa G) (σ : Sg) (o : Nat) (ho : o < 9) (a b c d : Nat) (ha : a < 14) (hb : b < 14) (hc : c < 14) (hd : d < 14) : CtI l yX1_rangesMeet wsX1_rangesMeet (rmd 2) G [.ref (gA G 15 (o)), .int (nI a), .int (nI b), .int (nI c), .int (nI d)] σ (fun r σ' => r = bI (rgm (σ 15 o) a b c d) ∧ σ' = σ) := by
  refine ct_i (maxL := 5) (ret := (some .boolean)) (by decide) rfl (Nat.le_of_ble_eq_true rfl) hA (fun K hl C => ?_)
  subst hl
  change WW K G _ _ σ [(0, .ref (gA G 15 (o))), (1, .int (nI a)), (2, .int (nI b)), (3, .int (nI c)), (4, .int (nI d))] 0 []
  refine ww_aload_n C dX1_rangesMeet_0 rfl 0 rfl ?_
  refine ww_iload_n C dX1_rangesMeet_1 rfl 1 rfl ?_
  refine ww_iald (k := 15) (j := a) C rfl ho (by decide) dX1_rangesMeet_2 rfl ha ?_
  refine ww_aload_n C dX1_rangesMeet_3 rfl 0 rfl ?_
  refine ww_iload_n C dX1_rangesMeet_4 rfl 2 rfl ?_
  refine ww_iald (k := 15) (j := b) C rfl ho (by decide) dX1_rangesMeet_5 rfl hb ?_
  refine ww_mmax C lw_X1_rangesMeet_mmax40 lw_X1_rangesMeet_mmaxs lw_X1_rangesMeet_mi lw_X1_rangesMeet_mmaxc (by decide) (Nat.le_of_ble_eq_true rfl) dX1_rangesMeet_6 ?_
  refine ww_aload_n C dX1_rangesMeet_9 rfl 0 rfl ?_
  refine ww_iload_n C dX1_rangesMeet_10 rfl 3 rfl ?_
  refine ww_iald (k := 15) (j := c) C rfl ho (by decide) dX1_rangesMeet_11 rfl hc ?_
  refine ww_aload_n C dX1_rangesMeet_12 rfl 0 rfl ?_
  refine ww_iload C dX1_rangesMeet_13 4 rfl ?_
  refine ww_iald (k := 15) (j := d) C rfl ho (by decide) dX1_rangesMeet_15 rfl hd ?_
  refine ww_mmin C lw_X1_rangesMeet_mmin46 lw_X1_rangesMeet_mmins lw_X1_rangesMeet_mi lw_X1_rangesMeet_mminc (by decide) (Nat.le_of_ble_eq_true rfl) dX1_rangesMeet_16 ?_
  refine ww_icmp_lt 48 C dX1_rangesMeet_19 (by decide) (fun h19 => ?_) (fun h19 => ?_)
  · refine ww_iconst (v := 0) C dX1_rangesMeet_48 rfl ?_
    refine ww_zret C dX1_rangesMeet_49 rfl ?_
    exact ⟨by rw [rgm, decide_eq_false (i32_nle.mpr h19)]; rfl, rfl⟩
  · refine ww_aload_n C dX1_rangesMeet_22 rfl 0 rfl ?_
    refine ww_iload_n C dX1_rangesMeet_23 rfl 3 rfl ?_
    refine ww_iald (k := 15) (j := c) C rfl ho (by decide) dX1_rangesMeet_24 rfl hc ?_
    refine ww_aload_n C dX1_rangesMeet_25 rfl 0 rfl ?_
    refine ww_iload C dX1_rangesMeet_26 4 rfl ?_
    refine ww_iald (k := 15) (j := d) C rfl ho (by decide) dX1_rangesMeet_28 rfl hd ?_
    refine ww_mmax C lw_X1_rangesMeet_mmax40 lw_X1_rangesMeet_mmaxs lw_X1_rangesMeet_mi lw_X1_rangesMeet_mmaxc (by decide) (Nat.le_of_ble_eq_true rfl) dX1_rangesMeet_29 ?_
    refine ww_aload_n C dX1_rangesMeet_32 rfl 0 rfl ?_
    refine ww_iload_n C dX1_rangesMeet_33 rfl 1 rfl ?_
    refine ww_iald (k := 15) (j := a) C rfl ho (by decide) dX1_rangesMeet_34 rfl ha ?_
    refine ww_aload_n C dX1_rangesMeet_35 rfl 0 rfl ?_
    refine ww_iload_n C dX1_rangesMeet_36 rfl 2 rfl ?_
    refine ww_iald (k := 15) (j := b) C rfl ho (by decide) dX1_rangesMeet_37 rfl hb ?_
    refine ww_mmin C lw_X1_rangesMeet_mmin46 lw_X1_rangesMeet_mmins lw_X1_rangesMeet_mi lw_X1_rangesMeet_mminc (by decide) (Nat.le_of_ble_eq_true rfl) dX1_rangesMeet_38 ?_
    refine ww_icmp_lt 48 C dX1_rangesMeet_41 (by decide) (fun h41 => ?_) (fun h41 => ?_)
    · refine ww_iconst (v := 0) C dX1_rangesMeet_48 rfl ?_
      refine ww_zret C dX1_rangesMeet_49 rfl ?_
      exact ⟨by rw [rgm, decide_eq_false (p := mn9 _ _ ≤ mx9 (σ 15 o c) _) (i32_nle.mpr h41), Bool.and_false]; rfl, rfl⟩
    · refine ww_iconst (v := 1) C dX1_rangesMeet_44 rfl ?_
      refine ww_goto 49 C dX1_rangesMeet_45 (by decide) ?_
      refine ww_zret C dX1_rangesMeet_49 rfl ?_
      exact ⟨by rw [rgm, decide_eq_true (i32_nlt.mp h19), decide_eq_true (i32_nlt.mp h41)]; rfl, rfl⟩
set_option maxHeartbeats 4000000 in
set_option maxRecDepth 100000 in
theorem c_X1_rangesMeet_16 (l : Launch) (G : Gx) (hA : wa G) (σ : Sg) (o : Nat) (ho : o < 9) (a b c d : Nat) (ha : a < 14) (hb : b < 14) (hc : c < 14) (hd : d < 14) : CtI l yX1_rangesMeet wsX1_rangesMeet (rmd 2) G [.ref (gA G 16 (o)), .int (nI a), .int (nI b), .int (nI c), .int (nI d)] σ (fun r σ' => r = bI (rgm (σ 16 o) a b c d) ∧ σ' = σ) := by
  refine ct_i (maxL := 5) (ret := (some .boolean)) (by decide) rfl (Nat.le_of_ble_eq_true rfl) hA (fun K hl C => ?_)
  subst hl
  change WW K G _ _ σ [(0, .ref (gA G 16 (o))), (1, .int (nI a)), (2, .int (nI b)), (3, .int (nI c)), (4, .int (nI d))] 0 []
  refine ww_aload_n C dX1_rangesMeet_0 rfl 0 rfl ?_
  refine ww_iload_n C dX1_rangesMeet_1 rfl 1 rfl ?_
  refine ww_iald (k := 16) (j := a) C rfl ho (by decide) dX1_rangesMeet_2 rfl ha ?_
  refine ww_aload_n C dX1_rangesMeet_3 rfl 0 rfl ?_
  refine ww_iload_n C dX1_rangesMeet_4 rfl 2 rfl ?_
  refine ww_iald (k := 16) (j := b) C rfl ho (by decide) dX1_rangesMeet_5 rfl hb ?_
  refine ww_mmax C lw_X1_rangesMeet_mmax40 lw_X1_rangesMeet_mmaxs lw_X1_rangesMeet_mi lw_X1_rangesMeet_mmaxc (by decide) (Nat.le_of_ble_eq_true rfl) dX1_rangesMeet_6 ?_
  refine ww_aload_n C dX1_rangesMeet_9 rfl 0 rfl ?_
  refine ww_iload_n C dX1_rangesMeet_10 rfl 3 rfl ?_
  refine ww_iald (k := 16) (j := c) C rfl ho (by decide) dX1_rangesMeet_11 rfl hc ?_
  refine ww_aload_n C dX1_rangesMeet_12 rfl 0 rfl ?_
  refine ww_iload C dX1_rangesMeet_13 4 rfl ?_
  refine ww_iald (k := 16) (j := d) C rfl ho (by decide) dX1_rangesMeet_15 rfl hd ?_
  refine ww_mmin C lw_X1_rangesMeet_mmin46 lw_X1_rangesMeet_mmins lw_X1_rangesMeet_mi lw_X1_rangesMeet_mminc (by decide) (Nat.le_of_ble_eq_true rfl) dX1_rangesMeet_16 ?_
  refine ww_icmp_lt 48 C dX1_rangesMeet_19 (by decide) (fun h19 => ?_) (fun h19 => ?_)
  · refine ww_iconst (v := 0) C dX1_rangesMeet_48 rfl ?_
    refine ww_zret C dX1_rangesMeet_49 rfl ?_
    exact ⟨by rw [rgm, decide_eq_false (i32_nle.mpr h19)]; rfl, rfl⟩
  · refine ww_aload_n C dX1_rangesMeet_22 rfl 0 rfl ?_
    refine ww_iload_n C dX1_rangesMeet_23 rfl 3 rfl ?_
    refine ww_iald (k := 16) (j := c) C rfl ho (by decide) dX1_rangesMeet_24 rfl hc ?_
    refine ww_aload_n C dX1_rangesMeet_25 rfl 0 rfl ?_
    refine ww_iload C dX1_rangesMeet_26 4 rfl ?_
    refine ww_iald (k := 16) (j := d) C rfl ho (by decide) dX1_rangesMeet_28 rfl hd ?_
    refine ww_mmax C lw_X1_rangesMeet_mmax40 lw_X1_rangesMeet_mmaxs lw_X1_rangesMeet_mi lw_X1_rangesMeet_mmaxc (by decide) (Nat.le_of_ble_eq_true rfl) dX1_rangesMeet_29 ?_
    refine ww_aload_n C dX1_rangesMeet_32 rfl 0 rfl ?_
    refine ww_iload_n C dX1_rangesMeet_33 rfl 1 rfl ?_
    refine ww_iald (k := 16) (j := a) C rfl ho (by decide) dX1_rangesMeet_34 rfl ha ?_
    refine ww_aload_n C dX1_rangesMeet_35 rfl 0 rfl ?_
    refine ww_iload_n C dX1_rangesMeet_36 rfl 2 rfl ?_
    refine ww_iald (k := 16) (j := b) C rfl ho (by decide) dX1_rangesMeet_37 rfl hb ?_
    refine ww_mmin C lw_X1_rangesMeet_mmin46 lw_X1_rangesMeet_mmins lw_X1_rangesMeet_mi lw_X1_rangesMeet_mminc (by decide) (Nat.le_of_ble_eq_true rfl) dX1_rangesMeet_38 ?_
    refine ww_icmp_lt 48 C dX1_rangesMeet_41 (by decide) (fun h41 => ?_) (fun h41 => ?_)
    · refine ww_iconst (v := 0) C dX1_rangesMeet_48 rfl ?_
      refine ww_zret C dX1_rangesMeet_49 rfl ?_
      exact ⟨by rw [rgm, decide_eq_false (p := mn9 _ _ ≤ mx9 (σ 16 o c) _) (i32_nle.mpr h41), Bool.and_false]; rfl, rfl⟩
    · refine ww_iconst (v := 1) C dX1_rangesMeet_44 rfl ?_
      refine ww_goto 49 C dX1_rangesMeet_45 (by decide) ?_
      refine ww_zret C dX1_rangesMeet_49 rfl ?_
      exact ⟨by rw [rgm, decide_eq_true (i32_nlt.mp h19), decide_eq_true (i32_nlt.mp h41)]; rfl, rfl⟩
set_option maxHeartbeats 4000000 in
set_option maxRecDepth 100000 in
theorem c_X1_straddles (l : Launch) (G : Gx) (hA : wa G) (σ : Sg) (o : Nat) (ho : o < 9) (a b c d : Nat) (ha : a < 14) (hb : b < 14) (hc : c < 14) (hd : d < 14) : CtI l yX1_straddles wsX1_straddles (rmd 2) G [.ref (gA G 14 (o)), .int (nI a), .int (nI b), .int (nI c), .int (nI d)] σ (fun r σ' => r = bI (strd (σ 15 o) (σ 16 o) a b c d) ∧ σ' = σ) := by
  refine ct_i (maxL := 5) (ret := (some .boolean)) (by decide) rfl (Nat.le_of_ble_eq_true rfl) hA (fun K hl C => ?_)
  subst hl
  change WW K G _ _ σ [(0, .ref (gA G 14 (o))), (1, .int (nI a)), (2, .int (nI b)), (3, .int (nI c)), (4, .int (nI d))] 0 []
  refine ww_aload_n C dX1_straddles_0 rfl 0 rfl ?_
  refine ww_iload_n C dX1_straddles_1 rfl 1 rfl ?_
  refine ww_iload_n C dX1_straddles_2 rfl 2 rfl ?_
  refine ww_iload_n C dX1_straddles_3 rfl 3 rfl ?_
  refine ww_calliF (cx_V (n := 3) (As := [.int (nI a), .int (nI b), .int (nI c)]) C  (c_X1_turn (kL K) G hA _ (o) ho a b c ha hb hc) gX1_straddles_X1_turn rfl ⟨rfl, rfl⟩ (by decide +kernel) (by decide) rfl ho rfl rfl rfl (Nat.le_of_ble_eq_true rfl) dX1_straddles_4) ?_
  refine ww_i2l C dX1_straddles_7 ?_
  refine ww_aload_n C dX1_straddles_8 rfl 0 rfl ?_
  refine ww_iload_n C dX1_straddles_9 rfl 1 rfl ?_
  refine ww_iload_n C dX1_straddles_10 rfl 2 rfl ?_
  refine ww_iload C dX1_straddles_11 4 rfl ?_
  refine ww_calliF (cx_V (n := 3) (As := [.int (nI a), .int (nI b), .int (nI d)]) C  (c_X1_turn (kL K) G hA _ (o) ho a b d ha hb hd) gX1_straddles_X1_turn rfl ⟨rfl, rfl⟩ (by decide +kernel) (by decide) rfl ho rfl rfl rfl (Nat.le_of_ble_eq_true rfl) dX1_straddles_13) ?_
  refine ww_i2l C dX1_straddles_16 ?_
  refine ww_lmul C dX1_straddles_17 ?_
  refine ww_lconst (v := 0) C dX1_straddles_18 rfl ?_
  refine ww_lcmp C dX1_straddles_19 ?_
  refine ww_if_gt 27 C dX1_straddles_20 (by decide) (fun h20 => ?_) (fun h20 => ?_)
  · refine ww_iconst (v := 0) C dX1_straddles_27 rfl ?_
    refine ww_zret C dX1_straddles_28 rfl ?_
    exact ⟨by rw [strd, decide_eq_false (fun q => absurd ((lg_cmp_gt _ _).mp h20) (Int64.not_lt.mpr q))]; rfl, rfl⟩
  · refine ww_iconst (v := 1) C dX1_straddles_23 rfl ?_
    refine ww_goto 28 C dX1_straddles_24 (by decide) ?_
    refine ww_zret C dX1_straddles_28 rfl ?_
    exact ⟨by rw [strd, decide_eq_true (Int64.not_lt.mp (fun q => h20 ((lg_cmp_gt _ _).mpr q)))]; rfl, rfl⟩
set_option maxHeartbeats 4000000 in
set_option maxRecDepth 100000 in
theorem c_X1_meet (l : Launch) (G : Gx) (hA : wa G) (σ : Sg) (o : Nat) (ho : o < 9) (a b c d : Nat) (ha : a < 14) (hb : b < 14) (hc : c < 14) (hd : d < 14) : CtI l yX1_meet wsX1_meet (rmd 3) G [.ref (gA G 14 (o)), .int (nI a), .int (nI b), .int (nI c), .int (nI d)] σ (fun r σ' => r = bI (meetC (σ 15 o) (σ 16 o) a b c d) ∧ σ' = σ) := by
  refine ct_i (maxL := 5) (ret := (some .boolean)) (by decide) rfl (Nat.le_of_ble_eq_true rfl) hA (fun K hl C => ?_)
  subst hl
  change WW K G _ _ σ [(0, .ref (gA G 14 (o))), (1, .int (nI a)), (2, .int (nI b)), (3, .int (nI c)), (4, .int (nI d))] 0 []
  refine ww_aload_n C dX1_meet_0 rfl 0 rfl ?_
  refine ww_gr (j := o) (k := 14) (f := 0) C rfl rfl ho rfl in_X1_meet_X1 (by decide) lk_X1_meet_9 dX1_meet_1 rfl ?_
  refine ww_iload_n C dX1_meet_4 rfl 1 rfl ?_
  refine ww_iload_n C dX1_meet_5 rfl 2 rfl ?_
  refine ww_iload_n C dX1_meet_6 rfl 3 rfl ?_
  refine ww_iload C dX1_meet_7 4 rfl ?_
  refine ww_calliF (cx_S (n := 5) (As := [.ref (gA G 15 (o)), .int (nI a), .int (nI b), .int (nI c), .int (nI d)]) C  (c_X1_rangesMeet_15 (kL K) G hA _ (o) ho a b c d ha hb hc hd) gX1_meet_X1_rangesMeet rfl ⟨rfl, rfl⟩ (by decide +kernel) (by decide) rfl rfl (Nat.le_of_ble_eq_true rfl) dX1_meet_9) ?_
  refine ww_if_eq 58 C dX1_meet_12 (by decide) (fun h12 => ?_) (fun h12 => ?_)
  · refine ww_iconst (v := 0) C dX1_meet_58 rfl ?_
    refine ww_zret C dX1_meet_59 rfl ?_
    exact ⟨by rw [meetC, bI_0.mp h12]; rfl, rfl⟩
  · refine ww_aload_n C dX1_meet_15 rfl 0 rfl ?_
    refine ww_gr (j := o) (k := 14) (f := 1) C rfl rfl ho rfl in_X1_meet_X1 (by decide) lk_X1_meet_15 dX1_meet_16 rfl ?_
    refine ww_iload_n C dX1_meet_19 rfl 1 rfl ?_
    refine ww_iload_n C dX1_meet_20 rfl 2 rfl ?_
    refine ww_iload_n C dX1_meet_21 rfl 3 rfl ?_
    refine ww_iload C dX1_meet_22 4 rfl ?_
    refine ww_calliF (cx_S (n := 5) (As := [.ref (gA G 16 (o)), .int (nI a), .int (nI b), .int (nI c), .int (nI d)]) C  (c_X1_rangesMeet_16 (kL K) G hA _ (o) ho a b c d ha hb hc hd) gX1_meet_X1_rangesMeet rfl ⟨rfl, rfl⟩ (by decide +kernel) (by decide) rfl rfl (Nat.le_of_ble_eq_true rfl) dX1_meet_24) ?_
    refine ww_if_eq 58 C dX1_meet_27 (by decide) (fun h27 => ?_) (fun h27 => ?_)
    · refine ww_iconst (v := 0) C dX1_meet_58 rfl ?_
      refine ww_zret C dX1_meet_59 rfl ?_
      exact ⟨by rw [meetC, bI_0.mp h27, Bool.and_false]; rfl, rfl⟩
    · refine ww_aload_n C dX1_meet_30 rfl 0 rfl ?_
      refine ww_iload_n C dX1_meet_31 rfl 1 rfl ?_
      refine ww_iload_n C dX1_meet_32 rfl 2 rfl ?_
      refine ww_iload_n C dX1_meet_33 rfl 3 rfl ?_
      refine ww_iload C dX1_meet_34 4 rfl ?_
      refine ww_calliF (cx_V (n := 4) (As := [.int (nI a), .int (nI b), .int (nI c), .int (nI d)]) C  (c_X1_straddles (kL K) G hA _ (o) ho a b c d ha hb hc hd) gX1_meet_X1_straddles rfl ⟨rfl, rfl⟩ (by decide +kernel) (by decide) rfl ho rfl rfl rfl (Nat.le_of_ble_eq_true rfl) dX1_meet_36) ?_
      refine ww_if_eq 58 C dX1_meet_39 (by decide) (fun h39 => ?_) (fun h39 => ?_)
      · refine ww_iconst (v := 0) C dX1_meet_58 rfl ?_
        refine ww_zret C dX1_meet_59 rfl ?_
        exact ⟨by rw [meetC, bI_0.mp h39, Bool.and_false]; rfl, rfl⟩
      · refine ww_aload_n C dX1_meet_42 rfl 0 rfl ?_
        refine ww_iload_n C dX1_meet_43 rfl 3 rfl ?_
        refine ww_iload C dX1_meet_44 4 rfl ?_
        refine ww_iload_n C dX1_meet_46 rfl 1 rfl ?_
        refine ww_iload_n C dX1_meet_47 rfl 2 rfl ?_
        refine ww_calliF (cx_V (n := 4) (As := [.int (nI c), .int (nI d), .int (nI a), .int (nI b)]) C  (c_X1_straddles (kL K) G hA _ (o) ho c d a b hc hd ha hb) gX1_meet_X1_straddles rfl ⟨rfl, rfl⟩ (by decide +kernel) (by decide) rfl ho rfl rfl rfl (Nat.le_of_ble_eq_true rfl) dX1_meet_48) ?_
        refine ww_if_eq 58 C dX1_meet_51 (by decide) (fun h51 => ?_) (fun h51 => ?_)
        · refine ww_iconst (v := 0) C dX1_meet_58 rfl ?_
          refine ww_zret C dX1_meet_59 rfl ?_
          exact ⟨by rw [meetC, bI_0.mp h51, Bool.and_false]; rfl, rfl⟩
        · refine ww_iconst (v := 1) C dX1_meet_54 rfl ?_
          refine ww_goto 59 C dX1_meet_55 (by decide) ?_
          refine ww_zret C dX1_meet_59 rfl ?_
          exact ⟨by rw [meetC, bI_1.mp h12, bI_1.mp h27, bI_1.mp h39, bI_1.mp h51]; rfl, rfl⟩
