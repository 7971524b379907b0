theorem in_X5_corner_X5 : ∀ w ∈ wsX50, w ∈ wsX5_corner := by decide +kernel
theorem lk_X5_corner_10 : Cond.fieldLink RX5 10 "PolyCuts" "row" "LPolyCuts$Corners;" ∈ wsX5_corner := by decide +kernel
theorem in_X5_corner_X1 : ∀ w ∈ wsX10, w ∈ wsX5_corner := by decide +kernel
theorem lk_X5_corner_60 : Cond.fieldLink RX5 60 "PolyCuts$Corners" "size" "I" ∈ wsX5_corner := by decide +kernel
theorem fnd_lt0 {p : Nat → Bool} : ∀ (d a : Nat) {j : Nat}, fnd p a d = some j → j < a + d
  | 0, a, j, h => by cases h
  | d + 1, a, j, h => by
    rw [fnd] at h
    by_cases hp : p a = true
    · rw [if_pos hp] at h
      cases h
      omega
    · rw [if_neg hp] at h
      have := fnd_lt0 d (a + 1) h
      omega
theorem fnd_lt {p : Nat → Bool} {a n j : Nat} (h : fndN p a n = some j) : j < n := by
  have h1 := fnd_lt0 _ _ h
  rcases Nat.lt_or_ge a n with q | q
  · omega
  · rw [fndN_end q] at h
    cases h
def sameR (a b : Option Nat) : Int32 := if a ≠ none then 1 else if b ≠ none then 2 else 0
def ontoR (a b : Option Nat) : Int32 := optI (if a ≠ none then a else b)
theorem optI_m {a : Option Nat} {p : Nat → Bool} {i n : Nat} (e : a = fndN p i n) (h : optI a = -1) (hn : n < 2 ^ 31) : a = none := by
  cases a with
  | none => rfl
  | some j =>
    have hj : j < n := fnd_lt e.symm
    exact absurd h (nI_nm1 (by omega))
theorem optI_n {a : Option Nat} (h : ¬ optI a = -1) : a ≠ none := fun q => h (by rw [q]; rfl)
set_option maxHeartbeats 4000000 in
set_option maxRecDepth 100000 in
theorem c_X5_same_ss (l : Launch) (G : Gx) (hA : wa G) (σ : Sg) (cnt p n q m : Nat) (hc : σ 0 0 5 = nI cnt) (hc8 : cnt ≤ 8) (hpc : p < cnt) (hp : p < 8) (hs : σ 14 (p + 1) 2 = nI n) (hn : n ≤ 14) (hqc : q < cnt) (hq : q < 8) (hm : σ 14 (q + 1) 2 = nI m) (hm14 : m ≤ 14) : CtI l yX5_same wsX5_same (rmd 5) G [.ref (gA G 0 (0)), .int (nI p), .int (nI q)] σ (fun r σ2 => r = sameR (fndN (fun s => fitC n m (σ 15 (p + 1)) (σ 16 (p + 1)) (σ 15 (q + 1)) (σ 16 (q + 1)) (σ 17 p 2) (σ 17 q 2) (1) s) 0 m) (fndN (fun s => fitC n m (σ 15 (p + 1)) (σ 16 (p + 1)) (σ 15 (q + 1)) (σ 16 (q + 1)) (σ 17 p 2) (σ 17 q 2) (-1) s) 0 m) ∧ σ2 = σ) := by
  refine ct_i (maxL := 5) (ret := (some .int)) (by decide) rfl (Nat.le_of_ble_eq_true rfl) hA (fun K hl C => ?_)
  subst hl
  change WW K G _ _ σ [(0, .ref (gA G 0 (0))), (1, .int (nI p)), (2, .int (nI q))] 0 []
  refine ww_aload_n C dX5_same_0 rfl 0 rfl ?_
  refine ww_iload_n C dX5_same_1 rfl 1 rfl ?_
  refine ww_callqR (cx_V (n := 1) (As := [.int (nI p)]) C  (c_X5_shapeOf_s (kL K) G hA _ cnt p hc hc8 hpc) gX5_same_X5_shapeOf rfl ⟨rfl, rfl⟩ (by decide +kernel) (by decide) rfl (by decide) rfl rfl rfl (Nat.le_of_ble_eq_true rfl) dX5_same_2) ?_
  refine ww_astore_n [(3, .ref (gA G 17 (p))), (0, .ref (gA G 0 (0))), (1, .int (nI p)), (2, .int (nI q))] C dX5_same_5 rfl (by decide) rfl ?_
  refine ww_aload_n C dX5_same_6 rfl 1 rfl ?_
  refine ww_iload_n C dX5_same_7 rfl 3 rfl ?_
  refine ww_callqR (cx_V (n := 1) (As := [.int (nI q)]) C  (c_X5_shapeOf_s (kL K) G hA _ cnt q hc hc8 hqc) gX5_same_X5_shapeOf rfl ⟨rfl, rfl⟩ (by decide +kernel) (by decide) rfl (by decide) rfl rfl rfl (Nat.le_of_ble_eq_true rfl) dX5_same_8) ?_
  refine ww_astore [(4, .ref (gA G 17 (q))), (3, .ref (gA G 17 (p))), (0, .ref (gA G 0 (0))), (1, .int (nI p)), (2, .int (nI q))] C dX5_same_11 (by decide) rfl ?_
  refine ww_aload_n C dX5_same_13 rfl 1 rfl ?_
  refine ww_ifnull C dX5_same_14 ?_
  refine ww_aload C dX5_same_17 0 rfl ?_
  refine ww_ifnonnull 25 C dX5_same_19 (by decide) ?_
  refine ww_aload_n C dX5_same_25 rfl 1 rfl ?_
  refine ww_aload C dX5_same_26 0 rfl ?_
  refine ww_iconst (v := 1) C dX5_same_28 rfl ?_
  refine ww_calliF (cx_V (n := 2) (As := [.ref (gA G 17 (q)), .int (1)]) C  (c_X3_leastStart (kL K) G hA _ p n q m hp hs hn hq hm hm14 _) gX5_same_X3_leastStart rfl ⟨rfl, rfl⟩ (by decide +kernel) (by decide) rfl hp rfl rfl rfl (Nat.le_of_ble_eq_true rfl) dX5_same_29) ?_
  refine ww_iconst (v := -1) C dX5_same_32 rfl ?_
  refine ww_icmp_eq 38 C dX5_same_33 (by decide) (fun h33 => ?_) (fun h33 => ?_)
  · refine ww_aload_n C dX5_same_38 rfl 1 rfl ?_
    refine ww_aload C dX5_same_39 0 rfl ?_
    refine ww_iconst (v := -1) C dX5_same_41 rfl ?_
    refine ww_calliF (cx_V (n := 2) (As := [.ref (gA G 17 (q)), .int (-1)]) C  (c_X3_leastStart (kL K) G hA _ p n q m hp hs hn hq hm hm14 _) gX5_same_X3_leastStart rfl ⟨rfl, rfl⟩ (by decide +kernel) (by decide) rfl hp rfl rfl rfl (Nat.le_of_ble_eq_true rfl) dX5_same_42) ?_
    refine ww_iconst (v := -1) C dX5_same_45 rfl ?_
    refine ww_icmp_eq 53 C dX5_same_46 (by decide) (fun h46 => ?_) (fun h46 => ?_)
    · refine ww_iconst (v := 0) C dX5_same_53 rfl ?_
      refine ww_iret C dX5_same_54 ?_
      exact ⟨by rw [sameR, if_neg (not_not_intro (optI_m rfl h33 (by omega))), if_neg (not_not_intro (optI_m rfl h46 (by omega)))], rfl⟩
    · refine ww_iconst (v := 2) C dX5_same_49 rfl ?_
      refine ww_goto 54 C dX5_same_50 (by decide) ?_
      refine ww_iret C dX5_same_54 ?_
      exact ⟨by rw [sameR, if_neg (not_not_intro (optI_m rfl h33 (by omega))), if_pos (optI_n h46)], rfl⟩
  · refine ww_iconst (v := 1) C dX5_same_36 rfl ?_
    refine ww_iret C dX5_same_37 ?_
    exact ⟨by rw [sameR, if_pos (optI_n h33)], rfl⟩
set_option maxHeartbeats 4000000 in
set_option maxRecDepth 100000 in
theorem c_X5_onto_ss (l : Launch) (G : Gx) (hA : wa G) (σ : Sg) (cnt p n q m : Nat) (hc : σ 0 0 5 = nI cnt) (hc8 : cnt ≤ 8) (hpc : p < cnt) (hp : p < 8) (hs : σ 14 (p + 1) 2 = nI n) (hn : n ≤ 14) (hqc : q < cnt) (hq : q < 8) (hm : σ 14 (q + 1) 2 = nI m) (hm14 : m ≤ 14) : CtI l yX5_onto wsX5_onto (rmd 5) G [.ref (gA G 0 (0)), .int (nI p), .int (nI q)] σ (fun r σ2 => r = ontoR (fndN (fun s => fitC n m (σ 15 (p + 1)) (σ 16 (p + 1)) (σ 15 (q + 1)) (σ 16 (q + 1)) (σ 17 p 2) (σ 17 q 2) (1) s) 0 m) (fndN (fun s => fitC n m (σ 15 (p + 1)) (σ 16 (p + 1)) (σ 15 (q + 1)) (σ 16 (q + 1)) (σ 17 p 2) (σ 17 q 2) (-1) s) 0 m) ∧ σ2 = σ) := by
  refine ct_i (maxL := 6) (ret := (some .int)) (by decide) rfl (Nat.le_of_ble_eq_true rfl) hA (fun K hl C => ?_)
  subst hl
  change WW K G _ _ σ [(0, .ref (gA G 0 (0))), (1, .int (nI p)), (2, .int (nI q))] 0 []
  refine ww_aload_n C dX5_onto_0 rfl 0 rfl ?_
  refine ww_iload_n C dX5_onto_1 rfl 1 rfl ?_
  refine ww_callqR (cx_V (n := 1) (As := [.int (nI p)]) C  (c_X5_shapeOf_s (kL K) G hA _ cnt p hc hc8 hpc) gX5_onto_X5_shapeOf rfl ⟨rfl, rfl⟩ (by decide +kernel) (by decide) rfl (by decide) rfl rfl rfl (Nat.le_of_ble_eq_true rfl) dX5_onto_2) ?_
  refine ww_astore_n [(3, .ref (gA G 17 (p))), (0, .ref (gA G 0 (0))), (1, .int (nI p)), (2, .int (nI q))] C dX5_onto_5 rfl (by decide) rfl ?_
  refine ww_aload_n C dX5_onto_6 rfl 1 rfl ?_
  refine ww_iload_n C dX5_onto_7 rfl 3 rfl ?_
  refine ww_callqR (cx_V (n := 1) (As := [.int (nI q)]) C  (c_X5_shapeOf_s (kL K) G hA _ cnt q hc hc8 hqc) gX5_onto_X5_shapeOf rfl ⟨rfl, rfl⟩ (by decide +kernel) (by decide) rfl (by decide) rfl rfl rfl (Nat.le_of_ble_eq_true rfl) dX5_onto_8) ?_
  refine ww_astore [(4, .ref (gA G 17 (q))), (3, .ref (gA G 17 (p))), (0, .ref (gA G 0 (0))), (1, .int (nI p)), (2, .int (nI q))] C dX5_onto_11 (by decide) rfl ?_
  refine ww_aload_n C dX5_onto_13 rfl 1 rfl ?_
  refine ww_ifnull C dX5_onto_14 ?_
  refine ww_aload C dX5_onto_17 0 rfl ?_
  refine ww_ifnonnull 25 C dX5_onto_19 (by decide) ?_
  refine ww_aload_n C dX5_onto_25 rfl 1 rfl ?_
  refine ww_aload C dX5_onto_26 0 rfl ?_
  refine ww_iconst (v := 1) C dX5_onto_28 rfl ?_
  refine ww_calliF (cx_V (n := 2) (As := [.ref (gA G 17 (q)), .int (1)]) C  (c_X3_leastStart (kL K) G hA _ p n q m hp hs hn hq hm hm14 _) gX5_onto_X3_leastStart rfl ⟨rfl, rfl⟩ (by decide +kernel) (by decide) rfl hp rfl rfl rfl (Nat.le_of_ble_eq_true rfl) dX5_onto_29) ?_
  refine ww_istore (fun y1 => [(5, .int (y1)), (4, .ref (gA G 17 (q))), (3, .ref (gA G 17 (p))), (0, .ref (gA G 0 (0))), (1, .int (nI p)), (2, .int (nI q))]) C dX5_onto_32 (by decide) (fun _ => rfl) (fun y1 ey1 => ?_)
  rw [ey1]; clear ey1 y1
  refine ww_iload C dX5_onto_34 0 rfl ?_
  refine ww_iconst (v := -1) C dX5_onto_36 rfl ?_
  refine ww_icmp_eq 45 C dX5_onto_37 (by decide) (fun h37 => ?_) (fun h37 => ?_)
  · refine ww_aload_n C dX5_onto_45 rfl 2 rfl ?_
    refine ww_aload C dX5_onto_46 1 rfl ?_
    refine ww_iconst (v := -1) C dX5_onto_48 rfl ?_
    refine ww_calliF (cx_V (n := 2) (As := [.ref (gA G 17 (q)), .int (-1)]) C  (c_X3_leastStart (kL K) G hA _ p n q m hp hs hn hq hm hm14 _) gX5_onto_X3_leastStart rfl ⟨rfl, rfl⟩ (by decide +kernel) (by decide) rfl hp rfl rfl rfl (Nat.le_of_ble_eq_true rfl) dX5_onto_49) ?_
    refine ww_iret C dX5_onto_52 ?_
    exact ⟨by rw [ontoR, if_neg (not_not_intro (optI_m rfl h37 (by omega)))], rfl⟩
  · refine ww_iload C dX5_onto_40 0 rfl ?_
    refine ww_goto 52 C dX5_onto_42 (by decide) ?_
    refine ww_iret C dX5_onto_52 ?_
    exact ⟨by rw [ontoR, if_pos (optI_n h37)], rfl⟩
set_option maxHeartbeats 4000000 in
set_option maxRecDepth 100000 in
theorem c_X5_same_nn (l : Launch) (G : Gx) (hA : wa G) (σ : Sg) (cnt : Nat) (hc : σ 0 0 5 = nI cnt) (hc8 : cnt ≤ 8) (x : Int32) (hu : ¬ (0 ≤ x ∧ x < nI cnt)) (z : Int32) (hz : ¬ (0 ≤ z ∧ z < nI cnt)) : CtI l yX5_same wsX5_same (rmd 5) G [.ref (gA G 0 (0)), .int (x), .int (z)] σ (fun r σ2 => r = -2 ∧ σ2 = σ) := by
  refine ct_i (maxL := 5) (ret := (some .int)) (by decide) rfl (Nat.le_of_ble_eq_true rfl) hA (fun K hl C => ?_)
  subst hl
  change WW K G _ _ σ [(0, .ref (gA G 0 (0))), (1, .int (x)), (2, .int (z))] 0 []
  refine ww_aload_n C dX5_same_0 rfl 0 rfl ?_
  refine ww_iload_n C dX5_same_1 rfl 1 rfl ?_
  refine ww_callqN (cx_V (n := 1) (As := [.int (x)]) C  (c_X5_shapeOf_n (kL K) G hA _ cnt hc hc8 x hu) gX5_same_X5_shapeOf rfl ⟨rfl, rfl⟩ (by decide +kernel) (by decide) rfl (by decide) rfl rfl rfl (Nat.le_of_ble_eq_true rfl) dX5_same_2) ?_
  refine ww_astore_nN [(3, .null), (0, .ref (gA G 0 (0))), (1, .int (x)), (2, .int (z))] C dX5_same_5 rfl (by decide) rfl ?_
  refine ww_aload_n C dX5_same_6 rfl 1 rfl ?_
  refine ww_iload_n C dX5_same_7 rfl 3 rfl ?_
  refine ww_callqN (cx_V (n := 1) (As := [.int (z)]) C  (c_X5_shapeOf_n (kL K) G hA _ cnt hc hc8 z hz) gX5_same_X5_shapeOf rfl ⟨rfl, rfl⟩ (by decide +kernel) (by decide) rfl (by decide) rfl rfl rfl (Nat.le_of_ble_eq_true rfl) dX5_same_8) ?_
  refine ww_astoreN [(4, .null), (3, .null), (0, .ref (gA G 0 (0))), (1, .int (x)), (2, .int (z))] C dX5_same_11 (by decide) rfl ?_
  refine ww_aload_nN C dX5_same_13 rfl 1 rfl ?_
  refine ww_ifnullN 22 C dX5_same_14 (by decide) ?_
  refine ww_bipush (v := -2) C dX5_same_22 (by decide) ?_
  refine ww_iret C dX5_same_24 ?_
  exact ⟨rfl, rfl⟩
set_option maxHeartbeats 4000000 in
set_option maxRecDepth 100000 in
theorem c_X5_same_ns (l : Launch) (G : Gx) (hA : wa G) (σ : Sg) (cnt : Nat) (hc : σ 0 0 5 = nI cnt) (hc8 : cnt ≤ 8) (x : Int32) (hu : ¬ (0 ≤ x ∧ x < nI cnt)) (p : Nat) (hpc : p < cnt) (hp : p < 8) : CtI l yX5_same wsX5_same (rmd 5) G [.ref (gA G 0 (0)), .int (x), .int (nI p)] σ (fun r σ2 => r = -2 ∧ σ2 = σ) := by
  refine ct_i (maxL := 5) (ret := (some .int)) (by decide) rfl (Nat.le_of_ble_eq_true rfl) hA (fun K hl C => ?_)
  subst hl
  change WW K G _ _ σ [(0, .ref (gA G 0 (0))), (1, .int (x)), (2, .int (nI p))] 0 []
  refine ww_aload_n C dX5_same_0 rfl 0 rfl ?_
  refine ww_iload_n C dX5_same_1 rfl 1 rfl ?_
  refine ww_callqN (cx_V (n := 1) (As := [.int (x)]) C  (c_X5_shapeOf_n (kL K) G hA _ cnt hc hc8 x hu) gX5_same_X5_shapeOf rfl ⟨rfl, rfl⟩ (by decide +kernel) (by decide) rfl (by decide) rfl rfl rfl (Nat.le_of_ble_eq_true rfl) dX5_same_2) ?_
  refine ww_astore_nN [(3, .null), (0, .ref (gA G 0 (0))), (1, .int (x)), (2, .int (nI p))] C dX5_same_5 rfl (by decide) rfl ?_
  refine ww_aload_n C dX5_same_6 rfl 1 rfl ?_
  refine ww_iload_n C dX5_same_7 rfl 3 rfl ?_
  refine ww_callqR (cx_V (n := 1) (As := [.int (nI p)]) C  (c_X5_shapeOf_s (kL K) G hA _ cnt p hc hc8 hpc) gX5_same_X5_shapeOf rfl ⟨rfl, rfl⟩ (by decide +kernel) (by decide) rfl (by decide) rfl rfl rfl (Nat.le_of_ble_eq_true rfl) dX5_same_8) ?_
  refine ww_astore [(4, .ref (gA G 17 (p))), (3, .null), (0, .ref (gA G 0 (0))), (1, .int (x)), (2, .int (nI p))] C dX5_same_11 (by decide) rfl ?_
  refine ww_aload_nN C dX5_same_13 rfl 1 rfl ?_
  refine ww_ifnullN 22 C dX5_same_14 (by decide) ?_
  refine ww_bipush (v := -2) C dX5_same_22 (by decide) ?_
  refine ww_iret C dX5_same_24 ?_
  exact ⟨rfl, rfl⟩
set_option maxHeartbeats 4000000 in
set_option maxRecDepth 100000 in
theorem c_X5_same_sn (l : Launch) (G : Gx) (hA : wa G) (σ : Sg) (cnt : Nat) (hc : σ 0 0 5 = nI cnt) (hc8 : cnt ≤ 8) (x : Int32) (hu : ¬ (0 ≤ x ∧ x < nI cnt)) (p : Nat) (hpc : p < cnt) (hp : p < 8) : CtI l yX5_same wsX5_same (rmd 5) G [.ref (gA G 0 (0)), .int (nI p), .int (x)] σ (fun r σ2 => r = -2 ∧ σ2 = σ) := by
  refine ct_i (maxL := 5) (ret := (some .int)) (by decide) rfl (Nat.le_of_ble_eq_true rfl) hA (fun K hl C => ?_)
  subst hl
  change WW K G _ _ σ [(0, .ref (gA G 0 (0))), (1, .int (nI p)), (2, .int (x))] 0 []
  refine ww_aload_n C dX5_same_0 rfl 0 rfl ?_
  refine ww_iload_n C dX5_same_1 rfl 1 rfl ?_
  refine ww_callqR (cx_V (n := 1) (As := [.int (nI p)]) C  (c_X5_shapeOf_s (kL K) G hA _ cnt p hc hc8 hpc) gX5_same_X5_shapeOf rfl ⟨rfl, rfl⟩ (by decide +kernel) (by decide) rfl (by decide) rfl rfl rfl (Nat.le_of_ble_eq_true rfl) dX5_same_2) ?_
  refine ww_astore_n [(3, .ref (gA G 17 (p))), (0, .ref (gA G 0 (0))), (1, .int (nI p)), (2, .int (x))] C dX5_same_5 rfl (by decide) rfl ?_
  refine ww_aload_n C dX5_same_6 rfl 1 rfl ?_
  refine ww_iload_n C dX5_same_7 rfl 3 rfl ?_
  refine ww_callqN (cx_V (n := 1) (As := [.int (x)]) C  (c_X5_shapeOf_n (kL K) G hA _ cnt hc hc8 x hu) gX5_same_X5_shapeOf rfl ⟨rfl, rfl⟩ (by decide +kernel) (by decide) rfl (by decide) rfl rfl rfl (Nat.le_of_ble_eq_true rfl) dX5_same_8) ?_
  refine ww_astoreN [(4, .null), (3, .ref (gA G 17 (p))), (0, .ref (gA G 0 (0))), (1, .int (nI p)), (2, .int (x))] C dX5_same_11 (by decide) rfl ?_
  refine ww_aload_n C dX5_same_13 rfl 1 rfl ?_
  refine ww_ifnull C dX5_same_14 ?_
  refine ww_aloadN C dX5_same_17 0 rfl ?_
  refine ww_ifnonnullN C dX5_same_19 ?_
  refine ww_bipush (v := -2) C dX5_same_22 (by decide) ?_
  refine ww_iret C dX5_same_24 ?_
  exact ⟨rfl, rfl⟩
set_option maxHeartbeats 4000000 in
set_option maxRecDepth 100000 in
theorem c_X5_onto_nn (l : Launch) (G : Gx) (hA : wa G) (σ : Sg) (cnt : Nat) (hc : σ 0 0 5 = nI cnt) (hc8 : cnt ≤ 8) (x : Int32) (hu : ¬ (0 ≤ x ∧ x < nI cnt)) (z : Int32) (hz : ¬ (0 ≤ z ∧ z < nI cnt)) : CtI l yX5_onto wsX5_onto (rmd 5) G [.ref (gA G 0 (0)), .int (x), .int (z)] σ (fun r σ2 => r = -2 ∧ σ2 = σ) := by
  refine ct_i (maxL := 6) (ret := (some .int)) (by decide) rfl (Nat.le_of_ble_eq_true rfl) hA (fun K hl C => ?_)
  subst hl
  change WW K G _ _ σ [(0, .ref (gA G 0 (0))), (1, .int (x)), (2, .int (z))] 0 []
  refine ww_aload_n C dX5_onto_0 rfl 0 rfl ?_
  refine ww_iload_n C dX5_onto_1 rfl 1 rfl ?_
  refine ww_callqN (cx_V (n := 1) (As := [.int (x)]) C  (c_X5_shapeOf_n (kL K) G hA _ cnt hc hc8 x hu) gX5_onto_X5_shapeOf rfl ⟨rfl, rfl⟩ (by decide +kernel) (by decide) rfl (by decide) rfl rfl rfl (Nat.le_of_ble_eq_true rfl) dX5_onto_2) ?_
  refine ww_astore_nN [(3, .null), (0, .ref (gA G 0 (0))), (1, .int (x)), (2, .int (z))] C dX5_onto_5 rfl (by decide) rfl ?_
  refine ww_aload_n C dX5_onto_6 rfl 1 rfl ?_
  refine ww_iload_n C dX5_onto_7 rfl 3 rfl ?_
  refine ww_callqN (cx_V (n := 1) (As := [.int (z)]) C  (c_X5_shapeOf_n (kL K) G hA _ cnt hc hc8 z hz) gX5_onto_X5_shapeOf rfl ⟨rfl, rfl⟩ (by decide +kernel) (by decide) rfl (by decide) rfl rfl rfl (Nat.le_of_ble_eq_true rfl) dX5_onto_8) ?_
  refine ww_astoreN [(4, .null), (3, .null), (0, .ref (gA G 0 (0))), (1, .int (x)), (2, .int (z))] C dX5_onto_11 (by decide) rfl ?_
  refine ww_aload_nN C dX5_onto_13 rfl 1 rfl ?_
  refine ww_ifnullN 22 C dX5_onto_14 (by decide) ?_
  refine ww_bipush (v := -2) C dX5_onto_22 (by decide) ?_
  refine ww_iret C dX5_onto_24 ?_
  exact ⟨rfl, rfl⟩
set_option maxHeartbeats 4000000 in
set_option maxRecDepth 100000 in
theorem c_X5_onto_ns (l : Launch) (G : Gx) (hA : wa G) (σ : Sg) (cnt : Nat) (hc : σ 0 0 5 = nI cnt) (hc8 : cnt ≤ 8) (x : Int32) (hu : ¬ (0 ≤ x ∧ x < nI cnt)) (p : Nat) (hpc : p < cnt) (hp : p < 8) : CtI l yX5_onto wsX5_onto (rmd 5) G [.ref (gA G 0 (0)), .int (x), .int (nI p)] σ (fun r σ2 => r = -2 ∧ σ2 = σ) := by
  refine ct_i (maxL := 6) (ret := (some .int)) (by decide) rfl (Nat.le_of_ble_eq_true rfl) hA (fun K hl C => ?_)
  subst hl
  change WW K G _ _ σ [(0, .ref (gA G 0 (0))), (1, .int (x)), (2, .int (nI p))] 0 []
  refine ww_aload_n C dX5_onto_0 rfl 0 rfl ?_
  refine ww_iload_n C dX5_onto_1 rfl 1 rfl ?_
  refine ww_callqN (cx_V (n := 1) (As := [.int (x)]) C  (c_X5_shapeOf_n (kL K) G hA _ cnt hc hc8 x hu) gX5_onto_X5_shapeOf rfl ⟨rfl, rfl⟩ (by decide +kernel) (by decide) rfl (by decide) rfl rfl rfl (Nat.le_of_ble_eq_true rfl) dX5_onto_2) ?_
  refine ww_astore_nN [(3, .null), (0, .ref (gA G 0 (0))), (1, .int (x)), (2, .int (nI p))] C dX5_onto_5 rfl (by decide) rfl ?_
  refine ww_aload_n C dX5_onto_6 rfl 1 rfl ?_
  refine ww_iload_n C dX5_onto_7 rfl 3 rfl ?_
  refine ww_callqR (cx_V (n := 1) (As := [.int (nI p)]) C  (c_X5_shapeOf_s (kL K) G hA _ cnt p hc hc8 hpc) gX5_onto_X5_shapeOf rfl ⟨rfl, rfl⟩ (by decide +kernel) (by decide) rfl (by decide) rfl rfl rfl (Nat.le_of_ble_eq_true rfl) dX5_onto_8) ?_
  refine ww_astore [(4, .ref (gA G 17 (p))), (3, .null), (0, .ref (gA G 0 (0))), (1, .int (x)), (2, .int (nI p))] C dX5_onto_11 (by decide) rfl ?_
  refine ww_aload_nN C dX5_onto_13 rfl 1 rfl ?_
  refine ww_ifnullN 22 C dX5_onto_14 (by decide) ?_
  refine ww_bipush (v := -2) C dX5_onto_22 (by decide) ?_
  refine ww_iret C dX5_onto_24 ?_
  exact ⟨rfl, rfl⟩
set_option maxHeartbeats 4000000 in
set_option maxRecDepth 100000 in
theorem c_X5_onto_sn (l : Launch) (G : Gx) (hA : wa G) (σ : Sg) (cnt : Nat) (hc : σ 0 0 5 = nI cnt) (hc8 : cnt ≤ 8) (x : Int32) (hu : ¬ (0 ≤ x ∧ x < nI cnt)) (p : Nat) (hpc : p < cnt) (hp : p < 8) : CtI l yX5_onto wsX5_onto (rmd 5) G [.ref (gA G 0 (0)), .int (nI p), .int (x)] σ (fun r σ2 => r = -2 ∧ σ2 = σ) := by
  refine ct_i (maxL := 6) (ret := (some .int)) (by decide) rfl (Nat.le_of_ble_eq_true rfl) hA (fun K hl C => ?_)
  subst hl
  change WW K G _ _ σ [(0, .ref (gA G 0 (0))), (1, .int (nI p)), (2, .int (x))] 0 []
  refine ww_aload_n C dX5_onto_0 rfl 0 rfl ?_
  refine ww_iload_n C dX5_onto_1 rfl 1 rfl ?_
  refine ww_callqR (cx_V (n := 1) (As := [.int (nI p)]) C  (c_X5_shapeOf_s (kL K) G hA _ cnt p hc hc8 hpc) gX5_onto_X5_shapeOf rfl ⟨rfl, rfl⟩ (by decide +kernel) (by decide) rfl (by decide) rfl rfl rfl (Nat.le_of_ble_eq_true rfl) dX5_onto_2) ?_
  refine ww_astore_n [(3, .ref (gA G 17 (p))), (0, .ref (gA G 0 (0))), (1, .int (nI p)), (2, .int (x))] C dX5_onto_5 rfl (by decide) rfl ?_
  refine ww_aload_n C dX5_onto_6 rfl 1 rfl ?_
  refine ww_iload_n C dX5_onto_7 rfl 3 rfl ?_
  refine ww_callqN (cx_V (n := 1) (As := [.int (x)]) C  (c_X5_shapeOf_n (kL K) G hA _ cnt hc hc8 x hu) gX5_onto_X5_shapeOf rfl ⟨rfl, rfl⟩ (by decide +kernel) (by decide) rfl (by decide) rfl rfl rfl (Nat.le_of_ble_eq_true rfl) dX5_onto_8) ?_
  refine ww_astoreN [(4, .null), (3, .ref (gA G 17 (p))), (0, .ref (gA G 0 (0))), (1, .int (nI p)), (2, .int (x))] C dX5_onto_11 (by decide) rfl ?_
  refine ww_aload_n C dX5_onto_13 rfl 1 rfl ?_
  refine ww_ifnull C dX5_onto_14 ?_
  refine ww_aloadN C dX5_onto_17 0 rfl ?_
  refine ww_ifnonnullN C dX5_onto_19 ?_
  refine ww_bipush (v := -2) C dX5_onto_22 (by decide) ?_
  refine ww_iret C dX5_onto_24 ?_
  exact ⟨rfl, rfl⟩
def symR (w a b : Int32) : Int32 := if w = 0 then a else if w = 1 then a + b else -3
set_option maxHeartbeats 4000000 in
set_option maxRecDepth 100000 in
theorem c_X5_symmetries_s (l : Launch) (G : Gx) (hA : wa G) (σ : Sg) (cnt p n : Nat) (hc : σ 0 0 5 = nI cnt) (hc8 : cnt ≤ 8) (hpc : p < cnt) (hp : p < 8) (hs : σ 14 (p + 1) 2 = nI n) (hn : n ≤ 14) (w : Int32) : CtI l yX5_symmetries wsX5_symmetries (rmd 5) G [.ref (gA G 0 (0)), .int (nI p), .int (w)] σ (fun r σ2 => r = symR w (nI (cntN (fun s => fitC n n (σ 15 (p + 1)) (σ 16 (p + 1)) (σ 15 (p + 1)) (σ 16 (p + 1)) (σ 17 p 2) (σ 17 p 2) (1) s) n)) (nI (cntN (fun s => fitC n n (σ 15 (p + 1)) (σ 16 (p + 1)) (σ 15 (p + 1)) (σ 16 (p + 1)) (σ 17 p 2) (σ 17 p 2) (-1) s) n)) ∧ σ2 = σ) := by
  refine ct_i (maxL := 5) (ret := (some .int)) (by decide) rfl (Nat.le_of_ble_eq_true rfl) hA (fun K hl C => ?_)
  subst hl
  change WW K G _ _ σ [(0, .ref (gA G 0 (0))), (1, .int (nI p)), (2, .int (w))] 0 []
  refine ww_aload_n C dX5_symmetries_0 rfl 0 rfl ?_
  refine ww_iload_n C dX5_symmetries_1 rfl 1 rfl ?_
  refine ww_callqR (cx_V (n := 1) (As := [.int (nI p)]) C  (c_X5_shapeOf_s (kL K) G hA _ cnt p hc hc8 hpc) gX5_symmetries_X5_shapeOf rfl ⟨rfl, rfl⟩ (by decide +kernel) (by decide) rfl (by decide) rfl rfl rfl (Nat.le_of_ble_eq_true rfl) dX5_symmetries_2) ?_
  refine ww_astore_n [(3, .ref (gA G 17 (p))), (0, .ref (gA G 0 (0))), (1, .int (nI p)), (2, .int (w))] C dX5_symmetries_5 rfl (by decide) rfl ?_
  refine ww_aload_n C dX5_symmetries_6 rfl 0 rfl ?_
  refine ww_ifnonnull 13 C dX5_symmetries_7 (by decide) ?_
  refine ww_iload_n C dX5_symmetries_13 rfl 3 rfl ?_
  refine ww_calliF (cx_S (n := 1) (As := [.int (w)]) C  (c_X5_isZeroOrOne (kL K) G hA _ _) gX5_symmetries_X5_isZeroOrOne rfl ⟨rfl, rfl⟩ (by decide +kernel) (by decide) rfl rfl (Nat.le_of_ble_eq_true rfl) dX5_symmetries_14) ?_
  refine ww_if_ne 23 C dX5_symmetries_17 (by decide) (fun h17 => ?_) (fun h17 => ?_)
  · have hz := of_decide_eq_true (bI_1.mp h17)
    refine ww_aload_n C dX5_symmetries_23 rfl 0 rfl ?_
    refine ww_iconst (v := 1) C dX5_symmetries_24 rfl ?_
    refine ww_calliF (cx_V (n := 1) (As := [.int (1)]) C  (c_X3_startCount (kL K) G hA _ p n hp hs hn _) gX5_symmetries_X3_startCount rfl ⟨rfl, rfl⟩ (by decide +kernel) (by decide) rfl hp rfl rfl rfl (Nat.le_of_ble_eq_true rfl) dX5_symmetries_25) ?_
    refine ww_istore (fun y1 => [(4, .int (y1)), (3, .ref (gA G 17 (p))), (0, .ref (gA G 0 (0))), (1, .int (nI p)), (2, .int (w))]) C dX5_symmetries_28 (by decide) (fun _ => rfl) (fun y1 ey1 => ?_)
    rw [ey1]; clear ey1 y1
    refine ww_iload_n C dX5_symmetries_30 rfl 4 rfl ?_
    refine ww_if_ne 39 C dX5_symmetries_31 (by decide) (fun h31 => ?_) (fun h31 => ?_)
    · refine ww_iload C dX5_symmetries_39 0 rfl ?_
      refine ww_aload_n C dX5_symmetries_41 rfl 1 rfl ?_
      refine ww_iconst (v := -1) C dX5_symmetries_42 rfl ?_
      refine ww_calliF (cx_V (n := 1) (As := [.int (-1)]) C  (c_X3_startCount (kL K) G hA _ p n hp hs hn _) gX5_symmetries_X3_startCount rfl ⟨rfl, rfl⟩ (by decide +kernel) (by decide) rfl hp rfl rfl rfl (Nat.le_of_ble_eq_true rfl) dX5_symmetries_43) ?_
      refine ww_iadd C dX5_symmetries_46 ?_
      refine ww_iret C dX5_symmetries_47 ?_
      exact ⟨by rw [symR, if_neg h31, if_pos (hz.resolve_left h31)], rfl⟩
    · refine ww_iload C dX5_symmetries_34 0 rfl ?_
      refine ww_goto 47 C dX5_symmetries_36 (by decide) ?_
      refine ww_iret C dX5_symmetries_47 ?_
      exact ⟨by rw [symR, if_pos h31], rfl⟩
  · have hz := of_decide_eq_false (bI_0.mp h17)
    refine ww_bipush (v := -3) C dX5_symmetries_20 (by decide) ?_
    refine ww_iret C dX5_symmetries_22 ?_
    exact ⟨by rw [symR, if_neg (fun q => hz (Or.inl q)), if_neg (fun q => hz (Or.inr q))], rfl⟩
set_option maxHeartbeats 4000000 in
set_option maxRecDepth 100000 in
theorem c_X5_symmetries_n (l : Launch) (G : Gx) (hA : wa G) (σ : Sg) (cnt : Nat) (hc : σ 0 0 5 = nI cnt) (hc8 : cnt ≤ 8) (x : Int32) (hu : ¬ (0 ≤ x ∧ x < nI cnt)) (w : Int32) : CtI l yX5_symmetries wsX5_symmetries (rmd 5) G [.ref (gA G 0 (0)), .int (x), .int (w)] σ (fun r σ2 => r = -2 ∧ σ2 = σ) := by
  refine ct_i (maxL := 5) (ret := (some .int)) (by decide) rfl (Nat.le_of_ble_eq_true rfl) hA (fun K hl C => ?_)
  subst hl
  change WW K G _ _ σ [(0, .ref (gA G 0 (0))), (1, .int (x)), (2, .int (w))] 0 []
  refine ww_aload_n C dX5_symmetries_0 rfl 0 rfl ?_
  refine ww_iload_n C dX5_symmetries_1 rfl 1 rfl ?_
  refine ww_callqN (cx_V (n := 1) (As := [.int (x)]) C  (c_X5_shapeOf_n (kL K) G hA _ cnt hc hc8 x hu) gX5_symmetries_X5_shapeOf rfl ⟨rfl, rfl⟩ (by decide +kernel) (by decide) rfl (by decide) rfl rfl rfl (Nat.le_of_ble_eq_true rfl) dX5_symmetries_2) ?_
  refine ww_astore_nN [(3, .null), (0, .ref (gA G 0 (0))), (1, .int (x)), (2, .int (w))] C dX5_symmetries_5 rfl (by decide) rfl ?_
  refine ww_aload_nN C dX5_symmetries_6 rfl 0 rfl ?_
  refine ww_ifnonnullN C dX5_symmetries_7 ?_
  refine ww_bipush (v := -2) C dX5_symmetries_10 (by decide) ?_
  refine ww_iret C dX5_symmetries_12 ?_
  exact ⟨rfl, rfl⟩
abbrev wi9 (x : Int32) : Prop := -1000 ≤ x ∧ x ≤ 1000
set_option maxHeartbeats 4000000 in
set_option maxRecDepth 100000 in
theorem c_X5_corner_o (l : Launch) (G : Gx) (hA : wa G) (σ : Sg) (n : Nat) (hs : σ 14 0 2 = nI n) (hn : n ≤ 14) (x y : Int32) (ho : ¬ (wi9 x ∧ wi9 y)) : CtI l yX5_corner wsX5_corner (rmd 3) G [.ref (gA G 0 (0)), .int (x), .int (y)] σ (fun r σ2 => r = -3 ∧ σ2 = σ) := by
  refine ct_i (maxL := 3) (ret := (some .int)) (by decide) rfl (Nat.le_of_ble_eq_true rfl) hA (fun K hl C => ?_)
  subst hl
  change WW K G _ _ σ [(0, .ref (gA G 0 (0))), (1, .int (x)), (2, .int (y))] 0 []
  refine ww_iload_n C dX5_corner_0 rfl 1 rfl ?_
  refine ww_sipush (v := 1000) C dX5_corner_1 (by decide) ?_
  refine ww_calliF (cx_S (n := 2) (As := [.int (x), .int (1000)]) C  (c_X5_isWithin (kL K) G hA _ _ _) gX5_corner_X5_isWithin rfl ⟨rfl, rfl⟩ (by decide +kernel) (by decide) rfl rfl (Nat.le_of_ble_eq_true rfl) dX5_corner_4) ?_
  refine ww_if_eq 20 C dX5_corner_7 (by decide) (fun h7 => ?_) (fun h7 => ?_)
  · have hx := of_decide_eq_false (bI_0.mp h7)
    refine ww_bipush (v := -3) C dX5_corner_20 (by decide) ?_
    refine ww_iret C dX5_corner_22 ?_
    exact ⟨rfl, rfl⟩
  · have hx := of_decide_eq_true (bI_1.mp h7)
    refine ww_iload_n C dX5_corner_10 rfl 2 rfl ?_
    refine ww_sipush (v := 1000) C dX5_corner_11 (by decide) ?_
    refine ww_calliF (cx_S (n := 2) (As := [.int (y), .int (1000)]) C  (c_X5_isWithin (kL K) G hA _ _ _) gX5_corner_X5_isWithin rfl ⟨rfl, rfl⟩ (by decide +kernel) (by decide) rfl rfl (Nat.le_of_ble_eq_true rfl) dX5_corner_14) ?_
    refine ww_if_ne 23 C dX5_corner_17 (by decide) (fun h17 => ?_) (fun h17 => ?_)
    · exact absurd ⟨hx, of_decide_eq_true (bI_1.mp h17)⟩ ho
    · have hy := of_decide_eq_false (bI_0.mp h17)
      refine ww_bipush (v := -3) C dX5_corner_20 (by decide) ?_
      refine ww_iret C dX5_corner_22 ?_
      exact ⟨rfl, rfl⟩
set_option maxHeartbeats 4000000 in
set_option maxRecDepth 100000 in
theorem c_X5_corner_f (l : Launch) (G : Gx) (hA : wa G) (σ : Sg) (n : Nat) (hs : σ 14 0 2 = nI n) (hn : n ≤ 14) (x y : Int32) (hw : wi9 x ∧ wi9 y) (h14 : n = 14) : CtI l yX5_corner wsX5_corner (rmd 3) G [.ref (gA G 0 (0)), .int (x), .int (y)] σ (fun r σ2 => r = -4 ∧ σ2 = σ) := by
  refine ct_i (maxL := 3) (ret := (some .int)) (by decide) rfl (Nat.le_of_ble_eq_true rfl) hA (fun K hl C => ?_)
  subst hl
  change WW K G _ _ σ [(0, .ref (gA G 0 (0))), (1, .int (x)), (2, .int (y))] 0 []
  refine ww_iload_n C dX5_corner_0 rfl 1 rfl ?_
  refine ww_sipush (v := 1000) C dX5_corner_1 (by decide) ?_
  refine ww_calliF (cx_S (n := 2) (As := [.int (x), .int (1000)]) C  (c_X5_isWithin (kL K) G hA _ _ _) gX5_corner_X5_isWithin rfl ⟨rfl, rfl⟩ (by decide +kernel) (by decide) rfl rfl (Nat.le_of_ble_eq_true rfl) dX5_corner_4) ?_
  refine ww_if_eq 20 C dX5_corner_7 (by decide) (fun h7 => ?_) (fun h7 => ?_)
  · exact absurd hw.1 (of_decide_eq_false (bI_0.mp h7))
  · have hx := of_decide_eq_true (bI_1.mp h7)
    refine ww_iload_n C dX5_corner_10 rfl 2 rfl ?_
    refine ww_sipush (v := 1000) C dX5_corner_11 (by decide) ?_
    refine ww_calliF (cx_S (n := 2) (As := [.int (y), .int (1000)]) C  (c_X5_isWithin (kL K) G hA _ _ _) gX5_corner_X5_isWithin rfl ⟨rfl, rfl⟩ (by decide +kernel) (by decide) rfl rfl (Nat.le_of_ble_eq_true rfl) dX5_corner_14) ?_
    refine ww_if_ne 23 C dX5_corner_17 (by decide) (fun h17 => ?_) (fun h17 => ?_)
    · have hy := of_decide_eq_true (bI_1.mp h17)
      refine ww_aload_n C dX5_corner_23 rfl 0 rfl ?_
      refine ww_gr (j := 0) (k := 0) (f := 0) C rfl rfl (by decide) rfl in_X5_corner_X5 (by decide) lk_X5_corner_10 dX5_corner_24 rfl ?_
      refine ww_calliF (cx_V (n := 0) (As := []) C  (c_X1_isFull (kL K) G hA _ 0 n (by decide) hs hn) gX5_corner_X1_isFull rfl ⟨rfl, rfl⟩ (by decide +kernel) (by decide) rfl (by decide) rfl rfl rfl (Nat.le_of_ble_eq_true rfl) dX5_corner_27) ?_
      refine ww_if_eq 36 C dX5_corner_30 (by decide) (fun h30 => ?_) (fun h30 => ?_)
      · exact absurd (of_decide_eq_false (bI_0.mp h30)) (by omega)
      · have hf := of_decide_eq_true (bI_1.mp h30)
        refine ww_bipush (v := -4) C dX5_corner_33 (by decide) ?_
        refine ww_iret C dX5_corner_35 ?_
        exact ⟨rfl, rfl⟩
    · exact absurd hw.2 (of_decide_eq_false (bI_0.mp h17))
set_option maxHeartbeats 4000000 in
set_option maxRecDepth 100000 in
theorem c_X5_corner_a (l : Launch) (G : Gx) (hA : wa G) (σ : Sg) (n : Nat) (hs : σ 14 0 2 = nI n) (hn : n ≤ 14) (x y : Int32) (hw : wi9 x ∧ wi9 y) (h14 : n < 14) : CtI l yX5_corner wsX5_corner (rmd 3) G [.ref (gA G 0 (0)), .int (x), .int (y)] σ (fun r σ2 => r = nI (n + 1) ∧ σ2 = sgu (sgu (sgu σ 15 0 n x) 16 0 n y) 14 0 2 (nI (n + 1))) := by
  refine ct_i (maxL := 3) (ret := (some .int)) (by decide) rfl (Nat.le_of_ble_eq_true rfl) hA (fun K hl C => ?_)
  subst hl
  change WW K G _ _ σ [(0, .ref (gA G 0 (0))), (1, .int (x)), (2, .int (y))] 0 []
  refine ww_iload_n C dX5_corner_0 rfl 1 rfl ?_
  refine ww_sipush (v := 1000) C dX5_corner_1 (by decide) ?_
  refine ww_calliF (cx_S (n := 2) (As := [.int (x), .int (1000)]) C  (c_X5_isWithin (kL K) G hA _ _ _) gX5_corner_X5_isWithin rfl ⟨rfl, rfl⟩ (by decide +kernel) (by decide) rfl rfl (Nat.le_of_ble_eq_true rfl) dX5_corner_4) ?_
  refine ww_if_eq 20 C dX5_corner_7 (by decide) (fun h7 => ?_) (fun h7 => ?_)
  · exact absurd hw.1 (of_decide_eq_false (bI_0.mp h7))
  · have hx := of_decide_eq_true (bI_1.mp h7)
    refine ww_iload_n C dX5_corner_10 rfl 2 rfl ?_
    refine ww_sipush (v := 1000) C dX5_corner_11 (by decide) ?_
    refine ww_calliF (cx_S (n := 2) (As := [.int (y), .int (1000)]) C  (c_X5_isWithin (kL K) G hA _ _ _) gX5_corner_X5_isWithin rfl ⟨rfl, rfl⟩ (by decide +kernel) (by decide) rfl rfl (Nat.le_of_ble_eq_true rfl) dX5_corner_14) ?_
    refine ww_if_ne 23 C dX5_corner_17 (by decide) (fun h17 => ?_) (fun h17 => ?_)
    · have hy := of_decide_eq_true (bI_1.mp h17)
      refine ww_aload_n C dX5_corner_23 rfl 0 rfl ?_
      refine ww_gr (j := 0) (k := 0) (f := 0) C rfl rfl (by decide) rfl in_X5_corner_X5 (by decide) lk_X5_corner_10 dX5_corner_24 rfl ?_
      refine ww_calliF (cx_V (n := 0) (As := []) C  (c_X1_isFull (kL K) G hA _ 0 n (by decide) hs hn) gX5_corner_X1_isFull rfl ⟨rfl, rfl⟩ (by decide +kernel) (by decide) rfl (by decide) rfl rfl rfl (Nat.le_of_ble_eq_true rfl) dX5_corner_27) ?_
      refine ww_if_eq 36 C dX5_corner_30 (by decide) (fun h30 => ?_) (fun h30 => ?_)
      · have hf := of_decide_eq_false (bI_0.mp h30)
        refine ww_aload_n C dX5_corner_36 rfl 0 rfl ?_
        refine ww_gr (j := 0) (k := 0) (f := 0) C rfl rfl (by decide) rfl in_X5_corner_X5 (by decide) lk_X5_corner_10 dX5_corner_37 rfl ?_
        refine ww_iload_n C dX5_corner_40 rfl 1 rfl ?_
        refine ww_iload_n C dX5_corner_41 rfl 2 rfl ?_
        refine ww_callvF (cx_V (n := 2) (As := [.int (x), .int (y)]) C  (c_X1_append (kL K) G hA _ 0 n (by decide) hs hn (by omega) _ _) gX5_corner_X1_append rfl ⟨rfl, rfl⟩ (by decide +kernel) (by decide) rfl (by decide) rfl rfl rfl (Nat.le_of_ble_eq_true rfl) dX5_corner_42) ?_
        refine ww_aload_n C dX5_corner_45 rfl 0 rfl ?_
        refine ww_gr (j := 0) (k := 0) (f := 0) C rfl rfl (by decide) rfl in_X5_corner_X5 (by decide) lk_X5_corner_10 dX5_corner_46 rfl ?_
        refine ww_gi (k := 14) (f := 2) C rfl rfl (by decide) rfl in_X5_corner_X1 (by decide) lk_X5_corner_60 dX5_corner_49 ?_
        refine ww_iret C dX5_corner_52 ?_
        exact ⟨by rw [sgu_self], rfl⟩
      · exact absurd (of_decide_eq_true (bI_1.mp h30)) (by omega)
    · exact absurd hw.2 (of_decide_eq_false (bI_0.mp h17))
