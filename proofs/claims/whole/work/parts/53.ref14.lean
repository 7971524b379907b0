theorem in_X6_diagonal_X6 : ∀ w ∈ wsX60, w ∈ wsX6_diagonal := by decide +kernel
theorem lk_X6_diagonal_163 : Cond.fieldLink RX6 163 "PolyCutsModel" "diagonals" "I" ∈ wsX6_diagonal := by decide +kernel
theorem lk_X6_diagonal_62 : Cond.fieldLink RX6 62 "PolyCutsModel" "stays" "[Z" ∈ wsX6_diagonal := by decide +kernel
theorem lk_X6_diagonal_59 : Cond.fieldLink RX6 59 "PolyCutsModel" "diagonalB" "[I" ∈ wsX6_diagonal := by decide +kernel
theorem lk_X6_diagonal_56 : Cond.fieldLink RX6 56 "PolyCutsModel" "diagonalA" "[I" ∈ wsX6_diagonal := by decide +kernel
theorem in_X6_parts_X6 : ∀ w ∈ wsX60, w ∈ wsX6_parts := by decide +kernel
theorem lk_X6_parts_163 : Cond.fieldLink RX6 163 "PolyCutsModel" "diagonals" "I" ∈ wsX6_parts := by decide +kernel
theorem lk_X6_parts_62 : Cond.fieldLink RX6 62 "PolyCutsModel" "stays" "[Z" ∈ wsX6_parts := by decide +kernel
theorem in_X6_polygon_X6 : ∀ w ∈ wsX60, w ∈ wsX6_polygon := by decide +kernel
theorem lk_X6_polygon_92 : Cond.fieldLink RX6 92 "PolyCutsModel" "polygons" "I" ∈ wsX6_polygon := by decide +kernel
theorem lk_X6_polygon_25 : Cond.fieldLink RX6 25 "PolyCutsModel" "faultFirst" "I" ∈ wsX6_polygon := by decide +kernel
theorem lk_X6_polygon_29 : Cond.fieldLink RX6 29 "PolyCutsModel" "faultSecond" "I" ∈ wsX6_polygon := by decide +kernel
theorem lk_X6_polygon_73 : Cond.fieldLink RX6 73 "PolyCutsModel" "rowMany" "I" ∈ wsX6_polygon := by decide +kernel
theorem lk_X6_polygon_19 : Cond.fieldLink RX6 19 "PolyCutsModel" "xs" "[I" ∈ wsX6_polygon := by decide +kernel
theorem lk_X6_polygon_7 : Cond.fieldLink RX6 7 "PolyCutsModel" "rowX" "[I" ∈ wsX6_polygon := by decide +kernel
theorem lk_X6_polygon_22 : Cond.fieldLink RX6 22 "PolyCutsModel" "ys" "[I" ∈ wsX6_polygon := by decide +kernel
theorem lk_X6_polygon_13 : Cond.fieldLink RX6 13 "PolyCutsModel" "rowY" "[I" ∈ wsX6_polygon := by decide +kernel
theorem lk_X6_polygon_16 : Cond.fieldLink RX6 16 "PolyCutsModel" "corners" "[I" ∈ wsX6_polygon := by decide +kernel
set_option maxHeartbeats 4000000 in
set_option maxRecDepth 100000 in
theorem c_X6_diagonal_s (l : Launch) (G : Gx) (hA : wa G) (σ : Sg) (cnt p n : Nat) (hc : σ 30 0 3 = nI cnt) (hc8 : cnt ≤ 8) (hpc : p < cnt) (hp : p < 8) (hs : σ 33 0 p = nI n) (h3 : 3 ≤ n) (hn : n ≤ 14) (t w : Int32) (hw : 0 ≤ w ∧ w ≤ 2) : CtI l yX6_diagonal wsX6_diagonal (rmd 9) G [.ref (gA G 30 (0)), .int (nI p), .int (t), .int (w)] σ (fun r σ2 => ∃ ρ, PTA σ ρ n (jnA n (fun i => σ 34 0 (14 * p + i)) (fun i => σ 35 0 (14 * p + i))) ∧ LDe σ σ2 n (fun i => σ 34 0 (14 * p + i)) (fun i => σ 35 0 (14 * p + i)) (trF (tb9 ρ 39) (tb9 ρ 38)) ∧ r = lstR (dgL (trF (tb9 ρ 39) (tb9 ρ 38)) n).length t w (σ2 44 0) (σ2 45 0) (σ2 46 0)) := by
  refine ct_i (maxL := 4) (ret := (some .int)) (by decide) rfl (Nat.le_of_ble_eq_true rfl) hA (fun K hl C => ?_)
  subst hl
  change WW K G _ _ σ [(0, .ref (gA G 30 (0))), (1, .int (nI p)), (2, .int (t)), (3, .int (w))] 0 []
  refine ww_aload_n C dX6_diagonal_0 rfl 0 rfl ?_
  refine ww_iload_n C dX6_diagonal_1 rfl 1 rfl ?_
  refine ww_calliF (cx_V (n := 1) (As := [.int (nI p)]) C  (c_X6_isPolygon (kL K) G hA _ cnt hc hc8 _) gX6_diagonal_X6_isPolygon rfl ⟨rfl, rfl⟩ (by decide +kernel) (by decide) rfl (by decide) rfl rfl rfl (Nat.le_of_ble_eq_true rfl) dX6_diagonal_2) ?_
  refine ww_if_ne 11 C dX6_diagonal_5 (by decide) (fun h5 => ?_) (fun h5 => ?_)
  · refine ww_iload_n C dX6_diagonal_11 rfl 3 rfl ?_
    refine ww_iconst (v := 0) C dX6_diagonal_12 rfl ?_
    refine ww_iconst (v := 2) C dX6_diagonal_13 rfl ?_
    refine ww_calliF (cx_S (n := 3) (As := [.int (w), .int (0), .int (2)]) C  (c_X6_within (kL K) G hA _ _ _ _) gX6_diagonal_X6_within rfl ⟨rfl, rfl⟩ (by decide +kernel) (by decide) rfl rfl (Nat.le_of_ble_eq_true rfl) dX6_diagonal_14) ?_
    refine ww_if_ne 23 C dX6_diagonal_17 (by decide) (fun h17 => ?_) (fun h17 => ?_)
    · refine ww_aload_n C dX6_diagonal_23 rfl 0 rfl ?_
      refine ww_iload_n C dX6_diagonal_24 rfl 1 rfl ?_
      refine ww_callv (cx_V (n := 1) (As := [.int (nI p)]) C  (c_X6_layDiagonals (kL K) G hA _ p n hp hs h3 hn) gX6_diagonal_X6_layDiagonals rfl ⟨rfl, rfl⟩ (by decide +kernel) (by decide) rfl (by decide) rfl rfl rfl (Nat.le_of_ble_eq_true rfl) dX6_diagonal_25) ?_
      intro τ hτ
      obtain ⟨ρ, hρ, hL⟩ := hτ
      have hm11 : (dgL (trF (tb9 ρ 39) (tb9 ρ 38)) n).length ≤ 11 := Nat.le_trans (show (dgL (trF (tb9 ρ 39) (tb9 ρ 38)) n).length ≤ n - 3 from dl_len (tr_okT hρ) h3) (by omega)
      have ht18 := hL.2.1
      obtain ⟨m, hm⟩ : ∃ z, z = (dgL (trF (tb9 ρ 39) (tb9 ρ 38)) n).length := ⟨_, rfl⟩
      rw [← hm] at hm11 ht18
      refine ww_iload_n C dX6_diagonal_28 rfl 2 rfl ?_
      refine ww_iconst (v := 0) C dX6_diagonal_29 rfl ?_
      refine ww_aload_n C dX6_diagonal_30 rfl 0 rfl ?_
      refine ww_gi (k := 30) (f := 18) C rfl rfl (by decide) rfl in_X6_diagonal_X6 (by decide) lk_X6_diagonal_163 dX6_diagonal_31 ?_
      rw [ht18]
      refine ww_iconst (v := 1) C dX6_diagonal_34 rfl ?_
      refine ww_isub C dX6_diagonal_35 ?_
      refine ww_calliF (cx_S (n := 3) (As := [.int (t), .int (0), .int ((nI m) - (1))]) C  (c_X6_within (kL K) G hA _ _ _ _) gX6_diagonal_X6_within rfl ⟨rfl, rfl⟩ (by decide +kernel) (by decide) rfl rfl (Nat.le_of_ble_eq_true rfl) dX6_diagonal_36) ?_
      refine ww_if_ne 44 C dX6_diagonal_39 (by decide) (fun h39 => ?_) (fun h39 => ?_)
      · obtain ⟨j, hj, rfl⟩ := ix12 ((le_pred2 (by omega)).mp (of_decide_eq_true (bI_1.mp h39))) (by omega)
        refine ww_iload_n C dX6_diagonal_44 rfl 3 rfl ?_
        refine ww_if_ne 57 C dX6_diagonal_45 (by decide) (fun h45 => ?_) (fun h45 => ?_)
        · refine ww_iload_n C dX6_diagonal_57 rfl 3 rfl ?_
          refine ww_iconst (v := 1) C dX6_diagonal_58 rfl ?_
          refine ww_icmp_ne 71 C dX6_diagonal_59 (by decide) (fun h59 => ?_) (fun h59 => ?_)
          · refine ww_aload_n C dX6_diagonal_71 rfl 0 rfl ?_
            refine ww_gr (j := 0) (k := 30) (f := 21) C rfl rfl (by decide) rfl in_X6_diagonal_X6 (by decide) lk_X6_diagonal_62 dX6_diagonal_72 rfl ?_
            refine ww_iload_n C dX6_diagonal_75 rfl 2 rfl ?_
            refine ww_zald (k := 46) (j := j) C rfl (by decide) (by decide) dX6_diagonal_76 rfl (by omega) ?_
            refine ww_if_eq 84 C dX6_diagonal_77 (by decide) (fun h77 => ?_) (fun h77 => ?_)
            · refine ww_iconst (v := 0) C dX6_diagonal_84 rfl ?_
              refine ww_iret C dX6_diagonal_85 ?_
              exact ⟨ρ, hρ, hL, by rw [← hm, lst_t hw hj (by omega), if_neg h45, if_neg h59, h77]⟩
            · refine ww_iconst (v := 1) C dX6_diagonal_80 rfl ?_
              refine ww_goto 85 C dX6_diagonal_81 (by decide) ?_
              refine ww_iret C dX6_diagonal_85 ?_
              have hb := (hL.2.2 j (by omega)).2.2
              rw [hb] at h77
              rw [bI_1.mp h77] at hb
              exact ⟨ρ, hρ, hL, by rw [← hm, lst_t hw hj (by omega), if_neg h45, if_neg h59, hb]; rfl⟩
          · refine ww_aload_n C dX6_diagonal_62 rfl 0 rfl ?_
            refine ww_gr (j := 0) (k := 30) (f := 20) C rfl rfl (by decide) rfl in_X6_diagonal_X6 (by decide) lk_X6_diagonal_59 dX6_diagonal_63 rfl ?_
            refine ww_iload_n C dX6_diagonal_66 rfl 2 rfl ?_
            refine ww_iald (k := 45) (j := j) C rfl (by decide) (by decide) dX6_diagonal_67 rfl (by omega) ?_
            refine ww_goto 85 C dX6_diagonal_68 (by decide) ?_
            refine ww_iret C dX6_diagonal_85 ?_
            exact ⟨ρ, hρ, hL, by rw [← hm, lst_t hw hj (by omega), if_neg h45, if_pos h59]⟩
        · refine ww_aload_n C dX6_diagonal_48 rfl 0 rfl ?_
          refine ww_gr (j := 0) (k := 30) (f := 19) C rfl rfl (by decide) rfl in_X6_diagonal_X6 (by decide) lk_X6_diagonal_56 dX6_diagonal_49 rfl ?_
          refine ww_iload_n C dX6_diagonal_52 rfl 2 rfl ?_
          refine ww_iald (k := 44) (j := j) C rfl (by decide) (by decide) dX6_diagonal_53 rfl (by omega) ?_
          refine ww_goto 85 C dX6_diagonal_54 (by decide) ?_
          refine ww_iret C dX6_diagonal_85 ?_
          exact ⟨ρ, hρ, hL, by rw [← hm, lst_t hw hj (by omega), if_pos h45]⟩
      · refine ww_iconst (v := -1) C dX6_diagonal_42 rfl ?_
        refine ww_iret C dX6_diagonal_43 ?_
        exact ⟨ρ, hρ, hL, by rw [← hm, lst_n hw (fun q => of_decide_eq_false (bI_0.mp h39) ((le_pred2 (by omega)).mpr q))]⟩
    · exact absurd hw (of_decide_eq_false (bI_0.mp h17))
  · exact absurd (kn_p hpc hc8) (of_decide_eq_false (bI_0.mp h5))
set_option maxHeartbeats 4000000 in
set_option maxRecDepth 100000 in
theorem c_X6_diagonal_o (l : Launch) (G : Gx) (hA : wa G) (σ : Sg) (cnt p n : Nat) (hc : σ 30 0 3 = nI cnt) (hc8 : cnt ≤ 8) (hpc : p < cnt) (hp : p < 8) (hs : σ 33 0 p = nI n) (h3 : 3 ≤ n) (hn : n ≤ 14) (t w : Int32) (hw : ¬ (0 ≤ w ∧ w ≤ 2)) : CtI l yX6_diagonal wsX6_diagonal (rmd 9) G [.ref (gA G 30 (0)), .int (nI p), .int (t), .int (w)] σ (fun r σ2 => r = -3 ∧ σ2 = σ) := by
  refine ct_i (maxL := 4) (ret := (some .int)) (by decide) rfl (Nat.le_of_ble_eq_true rfl) hA (fun K hl C => ?_)
  subst hl
  change WW K G _ _ σ [(0, .ref (gA G 30 (0))), (1, .int (nI p)), (2, .int (t)), (3, .int (w))] 0 []
  refine ww_aload_n C dX6_diagonal_0 rfl 0 rfl ?_
  refine ww_iload_n C dX6_diagonal_1 rfl 1 rfl ?_
  refine ww_calliF (cx_V (n := 1) (As := [.int (nI p)]) C  (c_X6_isPolygon (kL K) G hA _ cnt hc hc8 _) gX6_diagonal_X6_isPolygon rfl ⟨rfl, rfl⟩ (by decide +kernel) (by decide) rfl (by decide) rfl rfl rfl (Nat.le_of_ble_eq_true rfl) dX6_diagonal_2) ?_
  refine ww_if_ne 11 C dX6_diagonal_5 (by decide) (fun h5 => ?_) (fun h5 => ?_)
  · refine ww_iload_n C dX6_diagonal_11 rfl 3 rfl ?_
    refine ww_iconst (v := 0) C dX6_diagonal_12 rfl ?_
    refine ww_iconst (v := 2) C dX6_diagonal_13 rfl ?_
    refine ww_calliF (cx_S (n := 3) (As := [.int (w), .int (0), .int (2)]) C  (c_X6_within (kL K) G hA _ _ _ _) gX6_diagonal_X6_within rfl ⟨rfl, rfl⟩ (by decide +kernel) (by decide) rfl rfl (Nat.le_of_ble_eq_true rfl) dX6_diagonal_14) ?_
    refine ww_if_ne 23 C dX6_diagonal_17 (by decide) (fun h17 => ?_) (fun h17 => ?_)
    · exact absurd (of_decide_eq_true (bI_1.mp h17)) hw
    · refine ww_bipush (v := -3) C dX6_diagonal_20 (by decide) ?_
      refine ww_iret C dX6_diagonal_22 ?_
      exact ⟨rfl, rfl⟩
  · exact absurd (kn_p hpc hc8) (of_decide_eq_false (bI_0.mp h5))
set_option maxHeartbeats 4000000 in
set_option maxRecDepth 100000 in
theorem c_X6_diagonal_n (l : Launch) (G : Gx) (hA : wa G) (σ : Sg) (cnt : Nat) (hc : σ 30 0 3 = nI cnt) (hc8 : cnt ≤ 8) (x : Int32) (hu : ¬ (0 ≤ x ∧ x < nI cnt)) (t w : Int32) : CtI l yX6_diagonal wsX6_diagonal (rmd 9) G [.ref (gA G 30 (0)), .int (x), .int (t), .int (w)] σ (fun r σ2 => r = -2 ∧ σ2 = σ) := by
  refine ct_i (maxL := 4) (ret := (some .int)) (by decide) rfl (Nat.le_of_ble_eq_true rfl) hA (fun K hl C => ?_)
  subst hl
  change WW K G _ _ σ [(0, .ref (gA G 30 (0))), (1, .int (x)), (2, .int (t)), (3, .int (w))] 0 []
  refine ww_aload_n C dX6_diagonal_0 rfl 0 rfl ?_
  refine ww_iload_n C dX6_diagonal_1 rfl 1 rfl ?_
  refine ww_calliF (cx_V (n := 1) (As := [.int (x)]) C  (c_X6_isPolygon (kL K) G hA _ cnt hc hc8 _) gX6_diagonal_X6_isPolygon rfl ⟨rfl, rfl⟩ (by decide +kernel) (by decide) rfl (by decide) rfl rfl rfl (Nat.le_of_ble_eq_true rfl) dX6_diagonal_2) ?_
  refine ww_if_ne 11 C dX6_diagonal_5 (by decide) (fun h5 => ?_) (fun h5 => ?_)
  · exact absurd (of_decide_eq_true (bI_1.mp h5)) hu
  · refine ww_bipush (v := -2) C dX6_diagonal_8 (by decide) ?_
    refine ww_iret C dX6_diagonal_10 ?_
    exact ⟨rfl, rfl⟩
set_option maxHeartbeats 4000000 in
set_option maxRecDepth 100000 in
theorem lp_X6_parts {K : Kx} {G : Gx} (hA : wa G) (C : CX K G cX6_parts 4 RX6 wsX6_parts (rmd 9) (some .int)) (σ τ : Sg) (p m : Nat) (F : Nat → Bool) (hm11 : m ≤ 11) (ht18 : τ 30 0 18 = nI m) (hF : ∀ d, d < m → τ 46 0 d = bI (F d)) (Q : Int32 → Sg → Prop) (kx : Q (nI (1 + cntN F m)) τ) : ∀ (f d : Nat), m - d < f → (d ≤ m) → WW K G 4 (QI K G Q) τ [(3, .int (nI d)), (2, .int (nI ((1 + cntN F d)))), (0, .ref (gA G 30 (0))), (1, .int (nI p))] 20 [] := by
  intro f
  induction f with
  | zero => intro d  h; exact absurd h (Nat.not_lt_zero _)
  | succ f ih =>
    intro d  hf hd
    refine ww_iload_n C dX6_parts_20 rfl 0 rfl ?_
    refine ww_aload_n C dX6_parts_21 rfl 2 rfl ?_
    refine ww_gi (k := 30) (f := 18) C rfl rfl (by decide) rfl in_X6_parts_X6 (by decide) lk_X6_parts_163 dX6_parts_22 ?_
    rw [ht18]
    refine ww_icmp_ge 51 C dX6_parts_25 (by decide) (fun h25 => ?_) (fun h25 => ?_)
    · have g25 : m ≤ d := (cv_le (a := m) (b := d) rfl rfl (by omega) (by omega)).mp h25
      refine ww_iload_n C dX6_parts_51 rfl 1 rfl ?_
      refine ww_iret C dX6_parts_52 ?_
      have e9 : d = m := by omega
      rw [e9]
      exact kx
    · have g25 : ¬ m ≤ d := fun q => h25 ((cv_le (a := m) (b := d) rfl rfl (by omega) (by omega)).mpr q)
      have hFd := hF d (by omega)
      refine ww_iload_n C dX6_parts_28 rfl 1 rfl ?_
      refine ww_aload_n C dX6_parts_29 rfl 2 rfl ?_
      refine ww_gr (j := 0) (k := 30) (f := 21) C rfl rfl (by decide) rfl in_X6_parts_X6 (by decide) lk_X6_parts_62 dX6_parts_30 rfl ?_
      refine ww_iload_n C dX6_parts_33 rfl 0 rfl ?_
      refine ww_zald (k := 46) (j := d) C rfl (by decide) (by decide) dX6_parts_34 rfl (by omega) ?_
      refine ww_if_eq 42 C dX6_parts_35 (by decide) (fun h35 => ?_) (fun h35 => ?_)
      · refine ww_iconst (v := 0) C dX6_parts_42 rfl ?_
        refine ww_iadd C dX6_parts_43 ?_
        rw [show (nI ((1 + cntN F d))) + (0) = nI ((1 + cntN F d) + 0) from nI_add ((1 + cntN F d)) (0)]
        refine ww_istore_n (fun y1 => [(2, .int (y1)), (3, .int (nI d)), (0, .ref (gA G 30 (0))), (1, .int (nI p))]) C dX6_parts_44 rfl (by decide) (fun _ => rfl) (fun y1 ey1 => ?_)
        rw [ey1]; clear ey1 y1
        refine ww_iinc (q := 1) (fun y2 => [(3, .int (y2)), (2, .int (nI ((1 + cntN F d) + 0))), (0, .ref (gA G 30 (0))), (1, .int (nI p))]) C dX6_parts_45 rfl (by decide) (fun _ => rfl) (fun y2 ey2 => ?_)
        obtain rfl : y2 = nI (d + 1) := ninc rfl ey2
        refine ww_goto 20 C dX6_parts_48 (by decide) ?_
        have e9 : nI ((1 + cntN F d) + 0) = nI (1 + cntN F (d + 1)) := congrArg nI (by have q9 := cntN_f (bI_0.mp (hFd.symm.trans h35)); omega)
        rw [e9]
        exact ww_sub [0, 1, 2, 3] rfl (ih (d + 1) (by omega) (by omega))
      · refine ww_iconst (v := 1) C dX6_parts_38 rfl ?_
        refine ww_goto 43 C dX6_parts_39 (by decide) ?_
        refine ww_iadd C dX6_parts_43 ?_
        rw [show (nI ((1 + cntN F d))) + (1) = nI ((1 + cntN F d) + 1) from nI_add ((1 + cntN F d)) (1)]
        refine ww_istore_n (fun y3 => [(2, .int (y3)), (3, .int (nI d)), (0, .ref (gA G 30 (0))), (1, .int (nI p))]) C dX6_parts_44 rfl (by decide) (fun _ => rfl) (fun y3 ey3 => ?_)
        rw [ey3]; clear ey3 y3
        refine ww_iinc (q := 1) (fun y4 => [(3, .int (y4)), (2, .int (nI ((1 + cntN F d) + 1))), (0, .ref (gA G 30 (0))), (1, .int (nI p))]) C dX6_parts_45 rfl (by decide) (fun _ => rfl) (fun y4 ey4 => ?_)
        obtain rfl : y4 = nI (d + 1) := ninc rfl ey4
        refine ww_goto 20 C dX6_parts_48 (by decide) ?_
        have e9 : nI ((1 + cntN F d) + 1) = nI (1 + cntN F (d + 1)) := congrArg nI (by have q9 := cntN_t (bI_1.mp (fun q => h35 (hFd.trans q))); omega)
        rw [e9]
        exact ww_sub [0, 1, 2, 3] rfl (ih (d + 1) (by omega) (by omega))
set_option maxHeartbeats 4000000 in
set_option maxRecDepth 100000 in
theorem c_X6_parts_s (l : Launch) (G : Gx) (hA : wa G) (σ : Sg) (cnt p n : Nat) (hc : σ 30 0 3 = nI cnt) (hc8 : cnt ≤ 8) (hpc : p < cnt) (hp : p < 8) (hs : σ 33 0 p = nI n) (h3 : 3 ≤ n) (hn : n ≤ 14) : CtI l yX6_parts wsX6_parts (rmd 9) G [.ref (gA G 30 (0)), .int (nI p)] σ (fun r σ2 => ∃ ρ, PTA σ ρ n (jnA n (fun i => σ 34 0 (14 * p + i)) (fun i => σ 35 0 (14 * p + i))) ∧ LDe σ σ2 n (fun i => σ 34 0 (14 * p + i)) (fun i => σ 35 0 (14 * p + i)) (trF (tb9 ρ 39) (tb9 ρ 38)) ∧ r = nI (1 + cntN (stF n (fun i => σ 34 0 (14 * p + i)) (fun i => σ 35 0 (14 * p + i)) (lA (dgL (trF (tb9 ρ 39) (tb9 ρ 38)) n)) (lB (dgL (trF (tb9 ρ 39) (tb9 ρ 38)) n)) (dgL (trF (tb9 ρ 39) (tb9 ρ 38)) n).length (dgL (trF (tb9 ρ 39) (tb9 ρ 38)) n).length) (dgL (trF (tb9 ρ 39) (tb9 ρ 38)) n).length)) := by
  refine ct_i (maxL := 4) (ret := (some .int)) (by decide) rfl (Nat.le_of_ble_eq_true rfl) hA (fun K hl C => ?_)
  subst hl
  change WW K G _ _ σ [(0, .ref (gA G 30 (0))), (1, .int (nI p))] 0 []
  refine ww_aload_n C dX6_parts_0 rfl 0 rfl ?_
  refine ww_iload_n C dX6_parts_1 rfl 1 rfl ?_
  refine ww_calliF (cx_V (n := 1) (As := [.int (nI p)]) C  (c_X6_isPolygon (kL K) G hA _ cnt hc hc8 _) gX6_parts_X6_isPolygon rfl ⟨rfl, rfl⟩ (by decide +kernel) (by decide) rfl (by decide) rfl rfl rfl (Nat.le_of_ble_eq_true rfl) dX6_parts_2) ?_
  refine ww_if_ne 11 C dX6_parts_5 (by decide) (fun h5 => ?_) (fun h5 => ?_)
  · refine ww_aload_n C dX6_parts_11 rfl 0 rfl ?_
    refine ww_iload_n C dX6_parts_12 rfl 1 rfl ?_
    refine ww_callv (cx_V (n := 1) (As := [.int (nI p)]) C  (c_X6_layDiagonals (kL K) G hA _ p n hp hs h3 hn) gX6_parts_X6_layDiagonals rfl ⟨rfl, rfl⟩ (by decide +kernel) (by decide) rfl (by decide) rfl rfl rfl (Nat.le_of_ble_eq_true rfl) dX6_parts_13) ?_
    intro τ hτ
    obtain ⟨ρ, hρ, hL⟩ := hτ
    have hm11 : (dgL (trF (tb9 ρ 39) (tb9 ρ 38)) n).length ≤ 11 := Nat.le_trans (show (dgL (trF (tb9 ρ 39) (tb9 ρ 38)) n).length ≤ n - 3 from dl_len (tr_okT hρ) h3) (by omega)
    have ht18 := hL.2.1
    obtain ⟨m, hm⟩ : ∃ z, z = (dgL (trF (tb9 ρ 39) (tb9 ρ 38)) n).length := ⟨_, rfl⟩
    rw [← hm] at hm11 ht18
    refine ww_iconst (v := 1) C dX6_parts_16 rfl ?_
    refine ww_istore_n (fun y4 => [(2, .int (y4)), (0, .ref (gA G 30 (0))), (1, .int (nI p))]) C dX6_parts_17 rfl (by decide) (fun _ => rfl) (fun y4 ey4 => ?_)
    obtain rfl : y4 = nI 1 := (ey4.trans (by decide))
    refine ww_iconst (v := 0) C dX6_parts_18 rfl ?_
    refine ww_istore_n (fun y5 => [(3, .int (y5)), (2, .int (nI 1)), (0, .ref (gA G 30 (0))), (1, .int (nI p))]) C dX6_parts_19 rfl (by decide) (fun _ => rfl) (fun y5 ey5 => ?_)
    obtain rfl : y5 = nI 0 := (ey5.trans (by decide))
    exact ww_sub [0, 1, 2, 3] rfl (lp_X6_parts hA C σ τ p m (stF n (fun i => σ 34 0 (14 * p + i)) (fun i => σ 35 0 (14 * p + i)) (lA (dgL (trF (tb9 ρ 39) (tb9 ρ 38)) n)) (lB (dgL (trF (tb9 ρ 39) (tb9 ρ 38)) n)) (dgL (trF (tb9 ρ 39) (tb9 ρ 38)) n).length (dgL (trF (tb9 ρ 39) (tb9 ρ 38)) n).length) hm11 ht18 (fun d hd => (hL.2.2 d (by omega)).2.2) _ ⟨ρ, hρ, hL, by rw [hm]⟩ (m + 1) 0 (by omega) (by omega))
  · exact absurd (kn_p hpc hc8) (of_decide_eq_false (bI_0.mp h5))
set_option maxHeartbeats 4000000 in
set_option maxRecDepth 100000 in
theorem c_X6_parts_n (l : Launch) (G : Gx) (hA : wa G) (σ : Sg) (cnt : Nat) (hc : σ 30 0 3 = nI cnt) (hc8 : cnt ≤ 8) (x : Int32) (hu : ¬ (0 ≤ x ∧ x < nI cnt)) : CtI l yX6_parts wsX6_parts (rmd 9) G [.ref (gA G 30 (0)), .int (x)] σ (fun r σ2 => r = -2 ∧ σ2 = σ) := by
  refine ct_i (maxL := 4) (ret := (some .int)) (by decide) rfl (Nat.le_of_ble_eq_true rfl) hA (fun K hl C => ?_)
  subst hl
  change WW K G _ _ σ [(0, .ref (gA G 30 (0))), (1, .int (x))] 0 []
  refine ww_aload_n C dX6_parts_0 rfl 0 rfl ?_
  refine ww_iload_n C dX6_parts_1 rfl 1 rfl ?_
  refine ww_calliF (cx_V (n := 1) (As := [.int (x)]) C  (c_X6_isPolygon (kL K) G hA _ cnt hc hc8 _) gX6_parts_X6_isPolygon rfl ⟨rfl, rfl⟩ (by decide +kernel) (by decide) rfl (by decide) rfl rfl rfl (Nat.le_of_ble_eq_true rfl) dX6_parts_2) ?_
  refine ww_if_ne 11 C dX6_parts_5 (by decide) (fun h5 => ?_) (fun h5 => ?_)
  · exact absurd (of_decide_eq_true (bI_1.mp h5)) hu
  · refine ww_bipush (v := -2) C dX6_parts_8 (by decide) ?_
    refine ww_iret C dX6_parts_10 ?_
    exact ⟨rfl, rfl⟩
def FTe (σ τ : Sg) (a b : Int32) : Prop := (∀ k, k ≠ 30 → τ k = σ k) ∧ (∀ f, f ≠ 0 → f ≠ 7 → f ≠ 8 → τ 30 0 f = σ 30 0 f) ∧ τ 30 0 0 = nI 0 ∧ τ 30 0 7 = a ∧ τ 30 0 8 = b
def PGl (σ τ : Sg) (cnt i : Nat) : Prop := (∀ k, k ≠ 34 → k ≠ 35 → τ k = σ k) ∧ (∀ q, τ 34 0 q = if 14 * cnt ≤ q ∧ q < 14 * cnt + i then σ 31 0 (q - 14 * cnt) else σ 34 0 q) ∧ ∀ q, τ 35 0 q = if 14 * cnt ≤ q ∧ q < 14 * cnt + i then σ 32 0 (q - 14 * cnt) else σ 35 0 q
theorem pg_s {σ τ τ1 τ2 : Sg} {cnt i : Nat} (h : PGl σ τ cnt i) (e1 : τ1 = sgu τ 34 0 (14 * cnt + i) (τ 31 0 i)) (e2 : τ2 = sgu τ1 35 0 (14 * cnt + i) (τ1 32 0 i)) : PGl σ τ2 cnt (i + 1) := by
  refine ⟨fun k h4 h5 => by rw [e2, sgu_kk h5, e1, sgu_kk h4, h.1 k h4 h5], fun q => ?_, fun q => ?_⟩
  · rw [e2, sgu_k (by decide), e1]
    by_cases z : q = 14 * cnt + i
    · rw [z, sgu_self, if_pos (by omega), h.1 31 (by decide) (by decide), show 14 * cnt + i - 14 * cnt = i by omega]
    · rw [sgu_f z, h.2.1 q]
      by_cases w : 14 * cnt ≤ q ∧ q < 14 * cnt + i
      · rw [if_pos w, if_pos (by omega)]
      · rw [if_neg w, if_neg (by omega)]
  · rw [e2]
    by_cases z : q = 14 * cnt + i
    · rw [z, sgu_self, if_pos (by omega), e1, sgu_k (by decide), h.1 32 (by decide) (by decide), show 14 * cnt + i - 14 * cnt = i by omega]
    · rw [sgu_f z, e1, sgu_k (by decide), h.2.2 q]
      by_cases w : 14 * cnt ≤ q ∧ q < 14 * cnt + i
      · rw [if_pos w, if_pos (by omega)]
      · rw [if_neg w, if_neg (by omega)]
def PGe (σ τ : Sg) (cnt n : Nat) : Prop := (∀ k, k ≠ 30 → k ≠ 33 → k ≠ 34 → k ≠ 35 → τ k = σ k) ∧ (∀ f, f ≠ 0 → f ≠ 3 → f ≠ 7 → f ≠ 8 → τ 30 0 f = σ 30 0 f) ∧ τ 30 0 0 = nI 0 ∧ τ 30 0 3 = nI (cnt + 1) ∧ τ 30 0 7 = -1 ∧ τ 30 0 8 = -1 ∧ (∀ q, τ 33 0 q = if q = cnt then nI n else σ 33 0 q) ∧ (∀ q, τ 34 0 q = if 14 * cnt ≤ q ∧ q < 14 * cnt + n then σ 31 0 (q - 14 * cnt) else σ 34 0 q) ∧ ∀ q, τ 35 0 q = if 14 * cnt ≤ q ∧ q < 14 * cnt + n then σ 32 0 (q - 14 * cnt) else σ 35 0 q
set_option maxHeartbeats 4000000 in
set_option maxRecDepth 100000 in
theorem c_X6_polygon_f (l : Launch) (G : Gx) (hA : wa G) (σ : Sg) (hc : σ 30 0 3 = nI 8) : CtI l yX6_polygon wsX6_polygon (rmd 5) G [.ref (gA G 30 (0))] σ (fun r σ2 => r = -4 ∧ σ2 = σ) := by
  refine ct_i (maxL := 3) (ret := (some .int)) (by decide) rfl (Nat.le_of_ble_eq_true rfl) hA (fun K hl C => ?_)
  subst hl
  change WW K G _ _ σ [(0, .ref (gA G 30 (0)))] 0 []
  refine ww_aload_n C dX6_polygon_0 rfl 0 rfl ?_
  refine ww_gi (k := 30) (f := 3) C rfl rfl (by decide) rfl in_X6_polygon_X6 (by decide) lk_X6_polygon_92 dX6_polygon_1 ?_
  rw [hc]
  refine ww_bipush (v := 8) C dX6_polygon_4 (by decide) ?_
  refine ww_icmp_ne 12 C dX6_polygon_6 (by decide) (fun h6 => ?_) (fun h6 => ?_)
  · have g6 : ¬ 8 = 8 := fun q => h6 ((cv_eq (a := 8) (b := 8) rfl (by decide) (by omega) (by omega)).mpr q)
    exact absurd g6 (by decide)
  · have g6 : 8 = 8 := (cv_eq (a := 8) (b := 8) rfl (by decide) (by omega) (by omega)).mp h6
    refine ww_bipush (v := -4) C dX6_polygon_9 (by decide) ?_
    refine ww_iret C dX6_polygon_11 ?_
    exact ⟨rfl, rfl⟩
set_option maxHeartbeats 4000000 in
set_option maxRecDepth 100000 in
theorem c_X6_polygon_1 (l : Launch) (G : Gx) (hA : wa G) (σ : Sg) (cnt n : Nat) (hc : σ 30 0 3 = nI cnt) (hc8 : cnt < 8) (hs : σ 30 0 0 = nI n) (hn : n ≤ 14) (h3 : n < 3) : CtI l yX6_polygon wsX6_polygon (rmd 5) G [.ref (gA G 30 (0))] σ (fun r σ2 => r = -11 ∧ FTe σ σ2 (-1) (-1)) := by
  refine ct_i (maxL := 3) (ret := (some .int)) (by decide) rfl (Nat.le_of_ble_eq_true rfl) hA (fun K hl C => ?_)
  subst hl
  change WW K G _ _ σ [(0, .ref (gA G 30 (0)))] 0 []
  refine ww_aload_n C dX6_polygon_0 rfl 0 rfl ?_
  refine ww_gi (k := 30) (f := 3) C rfl rfl (by decide) rfl in_X6_polygon_X6 (by decide) lk_X6_polygon_92 dX6_polygon_1 ?_
  have hq3σ : σ 30 (0) 3 = nI cnt := by rw [hc]
  rw [hq3σ]
  refine ww_bipush (v := 8) C dX6_polygon_4 (by decide) ?_
  refine ww_icmp_ne 12 C dX6_polygon_6 (by decide) (fun h6 => ?_) (fun h6 => ?_)
  · have g6 : ¬ cnt = 8 := fun q => h6 ((cv_eq (a := cnt) (b := 8) rfl (by decide) (by omega) (by omega)).mpr q)
    refine ww_aload_n C dX6_polygon_12 rfl 0 rfl ?_
    refine ww_iconst (v := -1) C dX6_polygon_13 rfl ?_
    refine ww_pi (k := 30) (f := 7) C rfl rfl (by decide) rfl in_X6_polygon_X6 tyX6_ok nmX6 (by decide) lk_X6_polygon_25 rfl rfl dX6_polygon_14 ?_
    obtain ⟨σ1, hσ1⟩ : ∃ z : Sg, z = (sgu σ 30 (0) 7 (-1)) := ⟨_, rfl⟩
    rw [← hσ1]
    refine ww_aload_n C dX6_polygon_17 rfl 0 rfl ?_
    refine ww_iconst (v := -1) C dX6_polygon_18 rfl ?_
    refine ww_pi (k := 30) (f := 8) C rfl rfl (by decide) rfl in_X6_polygon_X6 tyX6_ok nmX6 (by decide) lk_X6_polygon_29 rfl rfl dX6_polygon_19 ?_
    obtain ⟨σ2, hσ2⟩ : ∃ z : Sg, z = (sgu σ1 30 (0) 8 (-1)) := ⟨_, rfl⟩
    rw [← hσ2]
    refine ww_iconst (v := 0) C dX6_polygon_22 rfl ?_
    refine ww_istore_n (fun y3 => [(1, .int (y3)), (0, .ref (gA G 30 (0)))]) C dX6_polygon_23 rfl (by decide) (fun _ => rfl) (fun y3 ey3 => ?_)
    obtain rfl : y3 = nI 0 := (ey3.trans (by decide))
    refine ww_aload_n C dX6_polygon_24 rfl 1 rfl ?_
    refine ww_gi (k := 30) (f := 0) C rfl rfl (by decide) rfl in_X6_polygon_X6 (by decide) lk_X6_polygon_73 dX6_polygon_25 ?_
    have hq0σ2 : σ2 30 (0) 0 = nI n := by rw [hσ2, sgu_f (by decide), hσ1, sgu_f (by decide), hs]
    rw [hq0σ2]
    refine ww_iconst (v := 3) C dX6_polygon_28 rfl ?_
    refine ww_icmp_ge 37 C dX6_polygon_29 (by decide) (fun h29 => ?_) (fun h29 => ?_)
    · have g29 : 3 ≤ n := (cv_le (a := 3) (b := n) (by decide) rfl (by omega) (by omega)).mp h29
      exact absurd g29 (by omega)
    · have g29 : ¬ 3 ≤ n := fun q => h29 ((cv_le (a := 3) (b := n) (by decide) rfl (by omega) (by omega)).mpr q)
      refine ww_iconst (v := 1) C dX6_polygon_32 rfl ?_
      refine ww_istore_n (fun y4 => [(1, .int (y4)), (0, .ref (gA G 30 (0)))]) C dX6_polygon_33 rfl (by decide) (fun _ => rfl) (fun y4 ey4 => ?_)
      obtain rfl : y4 = nI 1 := (ey4.trans (by decide))
      refine ww_goto 59 C dX6_polygon_34 (by decide) ?_
      refine ww_iload_n C dX6_polygon_59 rfl 0 rfl ?_
      refine ww_if_ne 85 C dX6_polygon_60 (by decide) (fun h60 => ?_) (fun h60 => ?_)
      · have g60 : ¬ 1 = 0 := fun q => h60 ((cv_eq (a := 1) (b := 0) rfl (by decide) (by omega) (by omega)).mpr q)
        refine ww_iload_n C dX6_polygon_85 rfl 0 rfl ?_
        refine ww_if_ne 168 C dX6_polygon_86 (by decide) (fun h86 => ?_) (fun h86 => ?_)
        · have g86 : ¬ 1 = 0 := fun q => h86 ((cv_eq (a := 1) (b := 0) rfl (by decide) (by omega) (by omega)).mpr q)
          refine ww_aload_n C dX6_polygon_168 rfl 1 rfl ?_
          refine ww_iconst (v := 0) C dX6_polygon_169 rfl ?_
          refine ww_pi (k := 30) (f := 0) C rfl rfl (by decide) rfl in_X6_polygon_X6 tyX6_ok nmX6 (by decide) lk_X6_polygon_73 rfl rfl dX6_polygon_170 ?_
          obtain ⟨σ5, hσ5⟩ : ∃ z : Sg, z = (sgu σ2 30 (0) 0 (0)) := ⟨_, rfl⟩
          rw [← hσ5]
          refine ww_iload_n C dX6_polygon_173 rfl 0 rfl ?_
          refine ww_if_ne 186 C dX6_polygon_174 (by decide) (fun h174 => ?_) (fun h174 => ?_)
          · have g174 : ¬ 1 = 0 := fun q => h174 ((cv_eq (a := 1) (b := 0) rfl (by decide) (by omega) (by omega)).mpr q)
            refine ww_bipush (v := -10) C dX6_polygon_186 (by decide) ?_
            refine ww_iload_n C dX6_polygon_188 rfl 0 rfl ?_
            refine ww_isub C dX6_polygon_189 ?_
            refine ww_iret C dX6_polygon_190 ?_
            exact ⟨by decide, fun k hk => by rw [hσ5, sgu_kk hk, hσ2, sgu_kk hk, hσ1, sgu_kk hk], fun f h0 h7 h8 => by rw [hσ5, sgu_f h0, hσ2, sgu_f h8, hσ1, sgu_f h7], by rw [hσ5, sgu_self]; rfl, by rw [hσ5, sgu_f (by decide), hσ2, sgu_f (by decide), hσ1, sgu_self], by rw [hσ5, sgu_f (by decide), hσ2, sgu_self]⟩
          · have g174 : 1 = 0 := (cv_eq (a := 1) (b := 0) rfl (by decide) (by omega) (by omega)).mp h174
            exact absurd g174 (by decide)
        · have g86 : 1 = 0 := (cv_eq (a := 1) (b := 0) rfl (by decide) (by omega) (by omega)).mp h86
          exact absurd g86 (by decide)
      · have g60 : 1 = 0 := (cv_eq (a := 1) (b := 0) rfl (by decide) (by omega) (by omega)).mp h60
        exact absurd g60 (by decide)
  · have g6 : cnt = 8 := (cv_eq (a := cnt) (b := 8) rfl (by decide) (by omega) (by omega)).mp h6
    exact absurd g6 (by omega)
set_option maxHeartbeats 4000000 in
set_option maxRecDepth 100000 in
theorem c_X6_polygon_2 (l : Launch) (G : Gx) (hA : wa G) (σ : Sg) (cnt n : Nat) (hc : σ 30 0 3 = nI cnt) (hc8 : cnt < 8) (hs : σ 30 0 0 = nI n) (hn : n ≤ 14) (h3 : 3 ≤ n) (i : Nat) (hi : i < 14) (hfl : fndN (flatP n (σ 31 0) (σ 32 0)) 0 n = some i) : CtI l yX6_polygon wsX6_polygon (rmd 5) G [.ref (gA G 30 (0))] σ (fun r σ2 => r = -12 ∧ FTe σ σ2 (nI i) (-1)) := by
  refine ct_i (maxL := 3) (ret := (some .int)) (by decide) rfl (Nat.le_of_ble_eq_true rfl) hA (fun K hl C => ?_)
  subst hl
  change WW K G _ _ σ [(0, .ref (gA G 30 (0)))] 0 []
  refine ww_aload_n C dX6_polygon_0 rfl 0 rfl ?_
  refine ww_gi (k := 30) (f := 3) C rfl rfl (by decide) rfl in_X6_polygon_X6 (by decide) lk_X6_polygon_92 dX6_polygon_1 ?_
  have hq3σ : σ 30 (0) 3 = nI cnt := by rw [hc]
  rw [hq3σ]
  refine ww_bipush (v := 8) C dX6_polygon_4 (by decide) ?_
  refine ww_icmp_ne 12 C dX6_polygon_6 (by decide) (fun h6 => ?_) (fun h6 => ?_)
  · have g6 : ¬ cnt = 8 := fun q => h6 ((cv_eq (a := cnt) (b := 8) rfl (by decide) (by omega) (by omega)).mpr q)
    refine ww_aload_n C dX6_polygon_12 rfl 0 rfl ?_
    refine ww_iconst (v := -1) C dX6_polygon_13 rfl ?_
    refine ww_pi (k := 30) (f := 7) C rfl rfl (by decide) rfl in_X6_polygon_X6 tyX6_ok nmX6 (by decide) lk_X6_polygon_25 rfl rfl dX6_polygon_14 ?_
    obtain ⟨σ1, hσ1⟩ : ∃ z : Sg, z = (sgu σ 30 (0) 7 (-1)) := ⟨_, rfl⟩
    rw [← hσ1]
    refine ww_aload_n C dX6_polygon_17 rfl 0 rfl ?_
    refine ww_iconst (v := -1) C dX6_polygon_18 rfl ?_
    refine ww_pi (k := 30) (f := 8) C rfl rfl (by decide) rfl in_X6_polygon_X6 tyX6_ok nmX6 (by decide) lk_X6_polygon_29 rfl rfl dX6_polygon_19 ?_
    obtain ⟨σ2, hσ2⟩ : ∃ z : Sg, z = (sgu σ1 30 (0) 8 (-1)) := ⟨_, rfl⟩
    rw [← hσ2]
    refine ww_iconst (v := 0) C dX6_polygon_22 rfl ?_
    refine ww_istore_n (fun y3 => [(1, .int (y3)), (0, .ref (gA G 30 (0)))]) C dX6_polygon_23 rfl (by decide) (fun _ => rfl) (fun y3 ey3 => ?_)
    obtain rfl : y3 = nI 0 := (ey3.trans (by decide))
    refine ww_aload_n C dX6_polygon_24 rfl 1 rfl ?_
    refine ww_gi (k := 30) (f := 0) C rfl rfl (by decide) rfl in_X6_polygon_X6 (by decide) lk_X6_polygon_73 dX6_polygon_25 ?_
    have hq0σ2 : σ2 30 (0) 0 = nI n := by rw [hσ2, sgu_f (by decide), hσ1, sgu_f (by decide), hs]
    rw [hq0σ2]
    refine ww_iconst (v := 3) C dX6_polygon_28 rfl ?_
    refine ww_icmp_ge 37 C dX6_polygon_29 (by decide) (fun h29 => ?_) (fun h29 => ?_)
    · have g29 : 3 ≤ n := (cv_le (a := 3) (b := n) (by decide) rfl (by omega) (by omega)).mp h29
      refine ww_aload_n C dX6_polygon_37 rfl 1 rfl ?_
      refine ww_aload_n C dX6_polygon_38 rfl 1 rfl ?_
      have hs1 : σ2 30 0 0 = nI n := by rw [hσ2, sgu_f (by decide), hσ1, sgu_f (by decide), hs]
      have e31 : σ2 31 = σ 31 := by rw [hσ2, sgu_kk (by decide), hσ1, sgu_kk (by decide)]
      have e32 : σ2 32 = σ 32 := by rw [hσ2, sgu_kk (by decide), hσ1, sgu_kk (by decide)]
      refine ww_calliF (cx_V (n := 0) (As := []) C  (c_X6_straight (kL K) G hA _ n hs1 h3 hn) gX6_polygon_X6_straight rfl ⟨rfl, rfl⟩ (by decide +kernel) (by decide) rfl (by decide) rfl rfl rfl (Nat.le_of_ble_eq_true rfl) dX6_polygon_39) ?_
      refine ww_pi (k := 30) (f := 7) C rfl rfl (by decide) rfl in_X6_polygon_X6 tyX6_ok nmX6 (by decide) lk_X6_polygon_25 rfl rfl dX6_polygon_42 ?_
      obtain ⟨σ4, hσ4⟩ : ∃ z : Sg, z = (sgu σ2 30 (0) 7 (optI (fndN (flatP n (σ2 31 0) (σ2 32 0)) 0 n))) := ⟨_, rfl⟩
      rw [← hσ4]
      refine ww_aload_n C dX6_polygon_45 rfl 1 rfl ?_
      refine ww_gi (k := 30) (f := 7) C rfl rfl (by decide) rfl in_X6_polygon_X6 (by decide) lk_X6_polygon_25 dX6_polygon_46 ?_
      have hq7σ4 : σ4 30 (0) 7 = nI i := by rw [hσ4, sgu_self, e31, e32, hfl]; rfl
      rw [hq7σ4]
      refine ww_iconst (v := -1) C dX6_polygon_49 rfl ?_
      refine ww_icmp_ne 57 C dX6_polygon_50 (by decide) (fun h50 => ?_) (fun h50 => ?_)
      · refine ww_iconst (v := 2) C dX6_polygon_57 rfl ?_
        refine ww_istore_n (fun y5 => [(1, .int (y5)), (0, .ref (gA G 30 (0)))]) C dX6_polygon_58 rfl (by decide) (fun _ => rfl) (fun y5 ey5 => ?_)
        obtain rfl : y5 = nI 2 := (ey5.trans (by decide))
        refine ww_iload_n C dX6_polygon_59 rfl 0 rfl ?_
        refine ww_if_ne 85 C dX6_polygon_60 (by decide) (fun h60 => ?_) (fun h60 => ?_)
        · have g60 : ¬ 2 = 0 := fun q => h60 ((cv_eq (a := 2) (b := 0) rfl (by decide) (by omega) (by omega)).mpr q)
          refine ww_iload_n C dX6_polygon_85 rfl 0 rfl ?_
          refine ww_if_ne 168 C dX6_polygon_86 (by decide) (fun h86 => ?_) (fun h86 => ?_)
          · have g86 : ¬ 2 = 0 := fun q => h86 ((cv_eq (a := 2) (b := 0) rfl (by decide) (by omega) (by omega)).mpr q)
            refine ww_aload_n C dX6_polygon_168 rfl 1 rfl ?_
            refine ww_iconst (v := 0) C dX6_polygon_169 rfl ?_
            refine ww_pi (k := 30) (f := 0) C rfl rfl (by decide) rfl in_X6_polygon_X6 tyX6_ok nmX6 (by decide) lk_X6_polygon_73 rfl rfl dX6_polygon_170 ?_
            obtain ⟨σ6, hσ6⟩ : ∃ z : Sg, z = (sgu σ4 30 (0) 0 (0)) := ⟨_, rfl⟩
            rw [← hσ6]
            refine ww_iload_n C dX6_polygon_173 rfl 0 rfl ?_
            refine ww_if_ne 186 C dX6_polygon_174 (by decide) (fun h174 => ?_) (fun h174 => ?_)
            · have g174 : ¬ 2 = 0 := fun q => h174 ((cv_eq (a := 2) (b := 0) rfl (by decide) (by omega) (by omega)).mpr q)
              refine ww_bipush (v := -10) C dX6_polygon_186 (by decide) ?_
              refine ww_iload_n C dX6_polygon_188 rfl 0 rfl ?_
              refine ww_isub C dX6_polygon_189 ?_
              refine ww_iret C dX6_polygon_190 ?_
              exact ⟨by decide, fun k hk => by rw [hσ6, sgu_kk hk, hσ4, sgu_kk hk, hσ2, sgu_kk hk, hσ1, sgu_kk hk], fun f h0 h7 h8 => by rw [hσ6, sgu_f h0, hσ4, sgu_f h7, hσ2, sgu_f h8, hσ1, sgu_f h7], by rw [hσ6, sgu_self]; rfl, by rw [hσ6, sgu_f (by decide), hσ4, sgu_self, e31, e32, hfl]; rfl, by rw [hσ6, sgu_f (by decide), hσ4, sgu_f (by decide), hσ2, sgu_self]⟩
            · have g174 : 2 = 0 := (cv_eq (a := 2) (b := 0) rfl (by decide) (by omega) (by omega)).mp h174
              exact absurd g174 (by decide)
          · have g86 : 2 = 0 := (cv_eq (a := 2) (b := 0) rfl (by decide) (by omega) (by omega)).mp h86
            exact absurd g86 (by decide)
        · have g60 : 2 = 0 := (cv_eq (a := 2) (b := 0) rfl (by decide) (by omega) (by omega)).mp h60
          exact absurd g60 (by decide)
      · exact absurd h50 (nI_nm1 (by omega))
    · have g29 : ¬ 3 ≤ n := fun q => h29 ((cv_le (a := 3) (b := n) (by decide) rfl (by omega) (by omega)).mpr q)
      exact absurd g29 (by omega)
  · have g6 : cnt = 8 := (cv_eq (a := cnt) (b := 8) rfl (by decide) (by omega) (by omega)).mp h6
    exact absurd g6 (by omega)
set_option maxHeartbeats 4000000 in
set_option maxRecDepth 100000 in
theorem c_X6_polygon_3 (l : Launch) (G : Gx) (hA : wa G) (σ : Sg) (cnt n : Nat) (hc : σ 30 0 3 = nI cnt) (hc8 : cnt < 8) (hs : σ 30 0 0 = nI n) (hn : n ≤ 14) (h3 : 3 ≤ n) (hfl : fndN (flatP n (σ 31 0) (σ 32 0)) 0 n = none) (i j : Nat) (hi : i < 14) (hme : meetNR n (σ 31 0) (σ 32 0) 0 = some (i, j)) : CtI l yX6_polygon wsX6_polygon (rmd 5) G [.ref (gA G 30 (0))] σ (fun r σ2 => r = -13 ∧ FTe σ σ2 (nI i) (nI j)) := by
  refine ct_i (maxL := 3) (ret := (some .int)) (by decide) rfl (Nat.le_of_ble_eq_true rfl) hA (fun K hl C => ?_)
  subst hl
  change WW K G _ _ σ [(0, .ref (gA G 30 (0)))] 0 []
  refine ww_aload_n C dX6_polygon_0 rfl 0 rfl ?_
  refine ww_gi (k := 30) (f := 3) C rfl rfl (by decide) rfl in_X6_polygon_X6 (by decide) lk_X6_polygon_92 dX6_polygon_1 ?_
  have hq3σ : σ 30 (0) 3 = nI cnt := by rw [hc]
  rw [hq3σ]
  refine ww_bipush (v := 8) C dX6_polygon_4 (by decide) ?_
  refine ww_icmp_ne 12 C dX6_polygon_6 (by decide) (fun h6 => ?_) (fun h6 => ?_)
  · have g6 : ¬ cnt = 8 := fun q => h6 ((cv_eq (a := cnt) (b := 8) rfl (by decide) (by omega) (by omega)).mpr q)
    refine ww_aload_n C dX6_polygon_12 rfl 0 rfl ?_
    refine ww_iconst (v := -1) C dX6_polygon_13 rfl ?_
    refine ww_pi (k := 30) (f := 7) C rfl rfl (by decide) rfl in_X6_polygon_X6 tyX6_ok nmX6 (by decide) lk_X6_polygon_25 rfl rfl dX6_polygon_14 ?_
    obtain ⟨σ1, hσ1⟩ : ∃ z : Sg, z = (sgu σ 30 (0) 7 (-1)) := ⟨_, rfl⟩
    rw [← hσ1]
    refine ww_aload_n C dX6_polygon_17 rfl 0 rfl ?_
    refine ww_iconst (v := -1) C dX6_polygon_18 rfl ?_
    refine ww_pi (k := 30) (f := 8) C rfl rfl (by decide) rfl in_X6_polygon_X6 tyX6_ok nmX6 (by decide) lk_X6_polygon_29 rfl rfl dX6_polygon_19 ?_
    obtain ⟨σ2, hσ2⟩ : ∃ z : Sg, z = (sgu σ1 30 (0) 8 (-1)) := ⟨_, rfl⟩
    rw [← hσ2]
    refine ww_iconst (v := 0) C dX6_polygon_22 rfl ?_
    refine ww_istore_n (fun y3 => [(1, .int (y3)), (0, .ref (gA G 30 (0)))]) C dX6_polygon_23 rfl (by decide) (fun _ => rfl) (fun y3 ey3 => ?_)
    obtain rfl : y3 = nI 0 := (ey3.trans (by decide))
    refine ww_aload_n C dX6_polygon_24 rfl 1 rfl ?_
    refine ww_gi (k := 30) (f := 0) C rfl rfl (by decide) rfl in_X6_polygon_X6 (by decide) lk_X6_polygon_73 dX6_polygon_25 ?_
    have hq0σ2 : σ2 30 (0) 0 = nI n := by rw [hσ2, sgu_f (by decide), hσ1, sgu_f (by decide), hs]
    rw [hq0σ2]
    refine ww_iconst (v := 3) C dX6_polygon_28 rfl ?_
    refine ww_icmp_ge 37 C dX6_polygon_29 (by decide) (fun h29 => ?_) (fun h29 => ?_)
    · have g29 : 3 ≤ n := (cv_le (a := 3) (b := n) (by decide) rfl (by omega) (by omega)).mp h29
      refine ww_aload_n C dX6_polygon_37 rfl 1 rfl ?_
      refine ww_aload_n C dX6_polygon_38 rfl 1 rfl ?_
      have hs1 : σ2 30 0 0 = nI n := by rw [hσ2, sgu_f (by decide), hσ1, sgu_f (by decide), hs]
      have e31 : σ2 31 = σ 31 := by rw [hσ2, sgu_kk (by decide), hσ1, sgu_kk (by decide)]
      have e32 : σ2 32 = σ 32 := by rw [hσ2, sgu_kk (by decide), hσ1, sgu_kk (by decide)]
      refine ww_calliF (cx_V (n := 0) (As := []) C  (c_X6_straight (kL K) G hA _ n hs1 h3 hn) gX6_polygon_X6_straight rfl ⟨rfl, rfl⟩ (by decide +kernel) (by decide) rfl (by decide) rfl rfl rfl (Nat.le_of_ble_eq_true rfl) dX6_polygon_39) ?_
      refine ww_pi (k := 30) (f := 7) C rfl rfl (by decide) rfl in_X6_polygon_X6 tyX6_ok nmX6 (by decide) lk_X6_polygon_25 rfl rfl dX6_polygon_42 ?_
      obtain ⟨σ4, hσ4⟩ : ∃ z : Sg, z = (sgu σ2 30 (0) 7 (optI (fndN (flatP n (σ2 31 0) (σ2 32 0)) 0 n))) := ⟨_, rfl⟩
      rw [← hσ4]
      refine ww_aload_n C dX6_polygon_45 rfl 1 rfl ?_
      refine ww_gi (k := 30) (f := 7) C rfl rfl (by decide) rfl in_X6_polygon_X6 (by decide) lk_X6_polygon_25 dX6_polygon_46 ?_
      have hq7σ4 : σ4 30 (0) 7 = -1 := by rw [hσ4, sgu_self, e31, e32, hfl]; rfl
      rw [hq7σ4]
      refine ww_iconst (v := -1) C dX6_polygon_49 rfl ?_
      refine ww_icmp_ne 57 C dX6_polygon_50 (by decide) (fun h50 => ?_) (fun h50 => ?_)
      · exact absurd rfl h50
      · refine ww_iconst (v := 0) C dX6_polygon_53 rfl ?_
        refine ww_goto 58 C dX6_polygon_54 (by decide) ?_
        refine ww_istore_n (fun y5 => [(1, .int (y5)), (0, .ref (gA G 30 (0)))]) C dX6_polygon_58 rfl (by decide) (fun _ => rfl) (fun y5 ey5 => ?_)
        obtain rfl : y5 = nI 0 := (ey5.trans (by decide))
        refine ww_iload_n C dX6_polygon_59 rfl 0 rfl ?_
        refine ww_if_ne 85 C dX6_polygon_60 (by decide) (fun h60 => ?_) (fun h60 => ?_)
        · have g60 : ¬ 0 = 0 := fun q => h60 ((cv_eq (a := 0) (b := 0) rfl (by decide) (by omega) (by omega)).mpr q)
          exact absurd g60 (by decide)
        · have g60 : 0 = 0 := (cv_eq (a := 0) (b := 0) rfl (by decide) (by omega) (by omega)).mp h60
          refine ww_aload_n C dX6_polygon_63 rfl 1 rfl ?_
          refine ww_aload_n C dX6_polygon_64 rfl 1 rfl ?_
          have hs2 : σ4 30 0 0 = nI n := by rw [hσ4, sgu_f (by decide), hσ2, sgu_f (by decide), hσ1, sgu_f (by decide), hs]
          have c31 : σ4 31 = σ 31 := by rw [hσ4, sgu_kk (by decide), hσ2, sgu_kk (by decide), hσ1, sgu_kk (by decide)]
          have c32 : σ4 32 = σ 32 := by rw [hσ4, sgu_kk (by decide), hσ2, sgu_kk (by decide), hσ1, sgu_kk (by decide)]
          refine ww_calli (cx_V (n := 0) (As := []) C  (c_X6_crossed (kL K) G hA _ n hs2 h3 hn) gX6_polygon_X6_crossed rfl ⟨rfl, rfl⟩ (by decide +kernel) (by decide) rfl (by decide) rfl rfl rfl (Nat.le_of_ble_eq_true rfl) dX6_polygon_65) ?_
          intro r6 σ7 h8
          obtain ⟨hr9, hσ7⟩ := h8
          have hσ7 : σ7 = sgu σ4 30 0 8 (nI j) := by rw [hσ7, c31, c32, hme]; rfl
          have hr9 : r6 = nI i := by rw [hr9, c31, c32, hme]; rfl
          rw [hr9]
          refine ww_pi (k := 30) (f := 7) C rfl rfl (by decide) rfl in_X6_polygon_X6 tyX6_ok nmX6 (by decide) lk_X6_polygon_25 rfl rfl dX6_polygon_68 ?_
          obtain ⟨σ9, hσ9⟩ : ∃ z : Sg, z = (sgu σ7 30 (0) 7 (nI i)) := ⟨_, rfl⟩
          rw [← hσ9]
          refine ww_aload_n C dX6_polygon_71 rfl 1 rfl ?_
          refine ww_gi (k := 30) (f := 7) C rfl rfl (by decide) rfl in_X6_polygon_X6 (by decide) lk_X6_polygon_25 dX6_polygon_72 ?_
          have hq7σ9 : σ9 30 (0) 7 = nI i := by rw [hσ9, sgu_self]
          rw [hq7σ9]
          refine ww_iconst (v := -1) C dX6_polygon_75 rfl ?_
          refine ww_icmp_ne 83 C dX6_polygon_76 (by decide) (fun h76 => ?_) (fun h76 => ?_)
          · refine ww_iconst (v := 3) C dX6_polygon_83 rfl ?_
            refine ww_istore_n (fun y10 => [(1, .int (y10)), (0, .ref (gA G 30 (0)))]) C dX6_polygon_84 rfl (by decide) (fun _ => rfl) (fun y10 ey10 => ?_)
            obtain rfl : y10 = nI 3 := (ey10.trans (by decide))
            refine ww_iload_n C dX6_polygon_85 rfl 0 rfl ?_
            refine ww_if_ne 168 C dX6_polygon_86 (by decide) (fun h86 => ?_) (fun h86 => ?_)
            · have g86 : ¬ 3 = 0 := fun q => h86 ((cv_eq (a := 3) (b := 0) rfl (by decide) (by omega) (by omega)).mpr q)
              refine ww_aload_n C dX6_polygon_168 rfl 1 rfl ?_
              refine ww_iconst (v := 0) C dX6_polygon_169 rfl ?_
              refine ww_pi (k := 30) (f := 0) C rfl rfl (by decide) rfl in_X6_polygon_X6 tyX6_ok nmX6 (by decide) lk_X6_polygon_73 rfl rfl dX6_polygon_170 ?_
              obtain ⟨σ11, hσ11⟩ : ∃ z : Sg, z = (sgu σ9 30 (0) 0 (0)) := ⟨_, rfl⟩
              rw [← hσ11]
              refine ww_iload_n C dX6_polygon_173 rfl 0 rfl ?_
              refine ww_if_ne 186 C dX6_polygon_174 (by decide) (fun h174 => ?_) (fun h174 => ?_)
              · have g174 : ¬ 3 = 0 := fun q => h174 ((cv_eq (a := 3) (b := 0) rfl (by decide) (by omega) (by omega)).mpr q)
                refine ww_bipush (v := -10) C dX6_polygon_186 (by decide) ?_
                refine ww_iload_n C dX6_polygon_188 rfl 0 rfl ?_
                refine ww_isub C dX6_polygon_189 ?_
                refine ww_iret C dX6_polygon_190 ?_
                exact ⟨by decide, fun k hk => by rw [hσ11, sgu_kk hk, hσ9, sgu_kk hk, hσ7, sgu_kk hk, hσ4, sgu_kk hk, hσ2, sgu_kk hk, hσ1, sgu_kk hk], fun f h0 h7 h8 => by rw [hσ11, sgu_f h0, hσ9, sgu_f h7, hσ7, sgu_f h8, hσ4, sgu_f h7, hσ2, sgu_f h8, hσ1, sgu_f h7], by rw [hσ11, sgu_self]; rfl, by rw [hσ11, sgu_f (by decide), hσ9, sgu_self], by rw [hσ11, sgu_f (by decide), hσ9, sgu_f (by decide), hσ7, sgu_self]⟩
              · have g174 : 3 = 0 := (cv_eq (a := 3) (b := 0) rfl (by decide) (by omega) (by omega)).mp h174
                exact absurd g174 (by decide)
            · have g86 : 3 = 0 := (cv_eq (a := 3) (b := 0) rfl (by decide) (by omega) (by omega)).mp h86
              exact absurd g86 (by decide)
          · exact absurd h76 (nI_nm1 (by omega))
    · have g29 : ¬ 3 ≤ n := fun q => h29 ((cv_le (a := 3) (b := n) (by decide) rfl (by omega) (by omega)).mpr q)
      exact absurd g29 (by omega)
  · have g6 : cnt = 8 := (cv_eq (a := cnt) (b := 8) rfl (by decide) (by omega) (by omega)).mp h6
    exact absurd g6 (by omega)
set_option maxHeartbeats 4000000 in
set_option maxRecDepth 100000 in
theorem lp_X6_polygon {K : Kx} {G : Gx} (hA : wa G) (C : CX K G cX6_polygon 3 RX6 wsX6_polygon (rmd 5) (some .int)) (ω : Sg) (cnt n : Nat) (hc : ω 30 0 3 = nI cnt) (hc8 : cnt < 8) (hs : ω 30 0 0 = nI n) (hn : n ≤ 14) (Q : State → Prop) (kx : ∀ τ, PGl ω τ cnt n → WW K G 3 Q τ [(1, .int (nI 0)), (0, .ref (gA G 30 (0)))] 158 []) : ∀ (f i : Nat) (τ : Sg), n - i < f → (i ≤ n) → (PGl ω τ cnt i) → WW K G 3 Q τ [(2, .int (nI i)), (1, .int (nI 0)), (0, .ref (gA G 30 (0)))] 104 [] := by
  intro f
  induction f with
  | zero => intro i τ h; exact absurd h (Nat.not_lt_zero _)
  | succ f ih =>
    intro i τ hf hi hk
    have ht0 : τ 30 0 0 = nI n := by rw [hk.1 30 (by decide) (by decide)]; exact hs
    have ht3 : τ 30 0 3 = nI cnt := by rw [hk.1 30 (by decide) (by decide)]; exact hc
    refine ww_iload_n C dX6_polygon_104 rfl 0 rfl ?_
    refine ww_aload_n C dX6_polygon_105 rfl 2 rfl ?_
    refine ww_gi (k := 30) (f := 0) C rfl rfl (by decide) rfl in_X6_polygon_X6 (by decide) lk_X6_polygon_73 dX6_polygon_106 ?_
    have hq0τ : τ 30 (0) 0 = nI n := by rw [ht0]
    rw [hq0τ]
    refine ww_icmp_ge 158 C dX6_polygon_109 (by decide) (fun h109 => ?_) (fun h109 => ?_)
    · have g109 : n ≤ i := (cv_le (a := n) (b := i) rfl rfl (by omega) (by omega)).mp h109
      have e9 : i = n := by omega
      rw [e9] at hk
      exact ww_sub [1, 2] rfl (kx _ hk)
    · have g109 : ¬ n ≤ i := fun q => h109 ((cv_le (a := n) (b := i) rfl rfl (by omega) (by omega)).mpr q)
      refine ww_aload_n C dX6_polygon_112 rfl 2 rfl ?_
      refine ww_gr (j := 0) (k := 30) (f := 5) C rfl rfl (by decide) rfl in_X6_polygon_X6 (by decide) lk_X6_polygon_19 dX6_polygon_113 rfl ?_
      refine ww_bipush (v := 14) C dX6_polygon_116 (by decide) ?_
      refine ww_aload_n C dX6_polygon_118 rfl 2 rfl ?_
      refine ww_gi (k := 30) (f := 3) C rfl rfl (by decide) rfl in_X6_polygon_X6 (by decide) lk_X6_polygon_92 dX6_polygon_119 ?_
      have hq3τ : τ 30 (0) 3 = nI cnt := by rw [ht3]
      rw [hq3τ]
      refine ww_imul C dX6_polygon_122 ?_
      rw [show (14) * (nI cnt) = nI (14 * cnt) from pk_mul (14) (cnt)]
      refine ww_iload_n C dX6_polygon_123 rfl 0 rfl ?_
      refine ww_iadd C dX6_polygon_124 ?_
      rw [show (nI (14 * cnt)) + (nI i) = nI (14 * cnt + i) from nI_add (14 * cnt) (i)]
      refine ww_aload_n C dX6_polygon_125 rfl 2 rfl ?_
      refine ww_gr (j := 0) (k := 30) (f := 1) C rfl rfl (by decide) rfl in_X6_polygon_X6 (by decide) lk_X6_polygon_7 dX6_polygon_126 rfl ?_
      refine ww_iload_n C dX6_polygon_129 rfl 0 rfl ?_
      refine ww_iald (k := 31) (j := i) C rfl (by decide) (by decide) dX6_polygon_130 rfl (by omega) ?_
      refine ww_iast (k := 34) (j := 14 * cnt + i) C rfl (by decide) (by decide) dX6_polygon_131 rfl (by omega) ?_
      obtain ⟨σ1, hσ1⟩ : ∃ z : Sg, z = (sgu τ 34 (0) (14 * cnt + i) (τ 31 (0) (i))) := ⟨_, rfl⟩
      rw [← hσ1]
      refine ww_aload_n C dX6_polygon_132 rfl 2 rfl ?_
      refine ww_gr (j := 0) (k := 30) (f := 6) C rfl rfl (by decide) rfl in_X6_polygon_X6 (by decide) lk_X6_polygon_22 dX6_polygon_133 rfl ?_
      refine ww_bipush (v := 14) C dX6_polygon_136 (by decide) ?_
      refine ww_aload_n C dX6_polygon_138 rfl 2 rfl ?_
      refine ww_gi (k := 30) (f := 3) C rfl rfl (by decide) rfl in_X6_polygon_X6 (by decide) lk_X6_polygon_92 dX6_polygon_139 ?_
      have hq3σ1 : σ1 30 (0) 3 = nI cnt := by rw [hσ1, sgu_k (by decide), ht3]
      rw [hq3σ1]
      refine ww_imul C dX6_polygon_142 ?_
      rw [show (14) * (nI cnt) = nI (14 * cnt) from pk_mul (14) (cnt)]
      refine ww_iload_n C dX6_polygon_143 rfl 0 rfl ?_
      refine ww_iadd C dX6_polygon_144 ?_
      rw [show (nI (14 * cnt)) + (nI i) = nI (14 * cnt + i) from nI_add (14 * cnt) (i)]
      refine ww_aload_n C dX6_polygon_145 rfl 2 rfl ?_
      refine ww_gr (j := 0) (k := 30) (f := 2) C rfl rfl (by decide) rfl in_X6_polygon_X6 (by decide) lk_X6_polygon_13 dX6_polygon_146 rfl ?_
      refine ww_iload_n C dX6_polygon_149 rfl 0 rfl ?_
      refine ww_iald (k := 32) (j := i) C rfl (by decide) (by decide) dX6_polygon_150 rfl (by omega) ?_
      refine ww_iast (k := 35) (j := 14 * cnt + i) C rfl (by decide) (by decide) dX6_polygon_151 rfl (by omega) ?_
      obtain ⟨σ2, hσ2⟩ : ∃ z : Sg, z = (sgu σ1 35 (0) (14 * cnt + i) (σ1 32 (0) (i))) := ⟨_, rfl⟩
      rw [← hσ2]
      refine ww_iinc (q := 0) (fun y3 => [(2, .int (y3)), (1, .int (nI 0)), (0, .ref (gA G 30 (0)))]) C dX6_polygon_152 rfl (by decide) (fun _ => rfl) (fun y3 ey3 => ?_)
      obtain rfl : y3 = nI (i + 1) := ninc rfl ey3
      refine ww_goto 104 C dX6_polygon_155 (by decide) ?_
      exact ww_sub [0, 1, 2] rfl (ih (i + 1) _ (by omega) (by omega) (pg_s hk hσ1 hσ2))
set_option maxHeartbeats 4000000 in
set_option maxRecDepth 100000 in
theorem c_X6_polygon_0 (l : Launch) (G : Gx) (hA : wa G) (σ : Sg) (cnt n : Nat) (hc : σ 30 0 3 = nI cnt) (hc8 : cnt < 8) (hs : σ 30 0 0 = nI n) (hn : n ≤ 14) (h3 : 3 ≤ n) (hfl : fndN (flatP n (σ 31 0) (σ 32 0)) 0 n = none) (hme : meetNR n (σ 31 0) (σ 32 0) 0 = none) : CtI l yX6_polygon wsX6_polygon (rmd 5) G [.ref (gA G 30 (0))] σ (fun r σ2 => r = nI cnt ∧ PGe σ σ2 cnt n) := by
  refine ct_i (maxL := 3) (ret := (some .int)) (by decide) rfl (Nat.le_of_ble_eq_true rfl) hA (fun K hl C => ?_)
  subst hl
  change WW K G _ _ σ [(0, .ref (gA G 30 (0)))] 0 []
  refine ww_aload_n C dX6_polygon_0 rfl 0 rfl ?_
  refine ww_gi (k := 30) (f := 3) C rfl rfl (by decide) rfl in_X6_polygon_X6 (by decide) lk_X6_polygon_92 dX6_polygon_1 ?_
  have hq3σ : σ 30 (0) 3 = nI cnt := by rw [hc]
  rw [hq3σ]
  refine ww_bipush (v := 8) C dX6_polygon_4 (by decide) ?_
  refine ww_icmp_ne 12 C dX6_polygon_6 (by decide) (fun h6 => ?_) (fun h6 => ?_)
  · have g6 : ¬ cnt = 8 := fun q => h6 ((cv_eq (a := cnt) (b := 8) rfl (by decide) (by omega) (by omega)).mpr q)
    refine ww_aload_n C dX6_polygon_12 rfl 0 rfl ?_
    refine ww_iconst (v := -1) C dX6_polygon_13 rfl ?_
    refine ww_pi (k := 30) (f := 7) C rfl rfl (by decide) rfl in_X6_polygon_X6 tyX6_ok nmX6 (by decide) lk_X6_polygon_25 rfl rfl dX6_polygon_14 ?_
    obtain ⟨σ1, hσ1⟩ : ∃ z : Sg, z = (sgu σ 30 (0) 7 (-1)) := ⟨_, rfl⟩
    rw [← hσ1]
    refine ww_aload_n C dX6_polygon_17 rfl 0 rfl ?_
    refine ww_iconst (v := -1) C dX6_polygon_18 rfl ?_
    refine ww_pi (k := 30) (f := 8) C rfl rfl (by decide) rfl in_X6_polygon_X6 tyX6_ok nmX6 (by decide) lk_X6_polygon_29 rfl rfl dX6_polygon_19 ?_
    obtain ⟨σ2, hσ2⟩ : ∃ z : Sg, z = (sgu σ1 30 (0) 8 (-1)) := ⟨_, rfl⟩
    rw [← hσ2]
    refine ww_iconst (v := 0) C dX6_polygon_22 rfl ?_
    refine ww_istore_n (fun y3 => [(1, .int (y3)), (0, .ref (gA G 30 (0)))]) C dX6_polygon_23 rfl (by decide) (fun _ => rfl) (fun y3 ey3 => ?_)
    obtain rfl : y3 = nI 0 := (ey3.trans (by decide))
    refine ww_aload_n C dX6_polygon_24 rfl 1 rfl ?_
    refine ww_gi (k := 30) (f := 0) C rfl rfl (by decide) rfl in_X6_polygon_X6 (by decide) lk_X6_polygon_73 dX6_polygon_25 ?_
    have hq0σ2 : σ2 30 (0) 0 = nI n := by rw [hσ2, sgu_f (by decide), hσ1, sgu_f (by decide), hs]
    rw [hq0σ2]
    refine ww_iconst (v := 3) C dX6_polygon_28 rfl ?_
    refine ww_icmp_ge 37 C dX6_polygon_29 (by decide) (fun h29 => ?_) (fun h29 => ?_)
    · have g29 : 3 ≤ n := (cv_le (a := 3) (b := n) (by decide) rfl (by omega) (by omega)).mp h29
      refine ww_aload_n C dX6_polygon_37 rfl 1 rfl ?_
      refine ww_aload_n C dX6_polygon_38 rfl 1 rfl ?_
      have hs1 : σ2 30 0 0 = nI n := by rw [hσ2, sgu_f (by decide), hσ1, sgu_f (by decide), hs]
      have e31 : σ2 31 = σ 31 := by rw [hσ2, sgu_kk (by decide), hσ1, sgu_kk (by decide)]
      have e32 : σ2 32 = σ 32 := by rw [hσ2, sgu_kk (by decide), hσ1, sgu_kk (by decide)]
      refine ww_calliF (cx_V (n := 0) (As := []) C  (c_X6_straight (kL K) G hA _ n hs1 h3 hn) gX6_polygon_X6_straight rfl ⟨rfl, rfl⟩ (by decide +kernel) (by decide) rfl (by decide) rfl rfl rfl (Nat.le_of_ble_eq_true rfl) dX6_polygon_39) ?_
      refine ww_pi (k := 30) (f := 7) C rfl rfl (by decide) rfl in_X6_polygon_X6 tyX6_ok nmX6 (by decide) lk_X6_polygon_25 rfl rfl dX6_polygon_42 ?_
      obtain ⟨σ4, hσ4⟩ : ∃ z : Sg, z = (sgu σ2 30 (0) 7 (optI (fndN (flatP n (σ2 31 0) (σ2 32 0)) 0 n))) := ⟨_, rfl⟩
      rw [← hσ4]
      refine ww_aload_n C dX6_polygon_45 rfl 1 rfl ?_
      refine ww_gi (k := 30) (f := 7) C rfl rfl (by decide) rfl in_X6_polygon_X6 (by decide) lk_X6_polygon_25 dX6_polygon_46 ?_
      have hq7σ4 : σ4 30 (0) 7 = -1 := by rw [hσ4, sgu_self, e31, e32, hfl]; rfl
      rw [hq7σ4]
      refine ww_iconst (v := -1) C dX6_polygon_49 rfl ?_
      refine ww_icmp_ne 57 C dX6_polygon_50 (by decide) (fun h50 => ?_) (fun h50 => ?_)
      · exact absurd rfl h50
      · refine ww_iconst (v := 0) C dX6_polygon_53 rfl ?_
        refine ww_goto 58 C dX6_polygon_54 (by decide) ?_
        refine ww_istore_n (fun y5 => [(1, .int (y5)), (0, .ref (gA G 30 (0)))]) C dX6_polygon_58 rfl (by decide) (fun _ => rfl) (fun y5 ey5 => ?_)
        obtain rfl : y5 = nI 0 := (ey5.trans (by decide))
        refine ww_iload_n C dX6_polygon_59 rfl 0 rfl ?_
        refine ww_if_ne 85 C dX6_polygon_60 (by decide) (fun h60 => ?_) (fun h60 => ?_)
        · have g60 : ¬ 0 = 0 := fun q => h60 ((cv_eq (a := 0) (b := 0) rfl (by decide) (by omega) (by omega)).mpr q)
          exact absurd g60 (by decide)
        · have g60 : 0 = 0 := (cv_eq (a := 0) (b := 0) rfl (by decide) (by omega) (by omega)).mp h60
          refine ww_aload_n C dX6_polygon_63 rfl 1 rfl ?_
          refine ww_aload_n C dX6_polygon_64 rfl 1 rfl ?_
          have hs2 : σ4 30 0 0 = nI n := by rw [hσ4, sgu_f (by decide), hσ2, sgu_f (by decide), hσ1, sgu_f (by decide), hs]
          have c31 : σ4 31 = σ 31 := by rw [hσ4, sgu_kk (by decide), hσ2, sgu_kk (by decide), hσ1, sgu_kk (by decide)]
          have c32 : σ4 32 = σ 32 := by rw [hσ4, sgu_kk (by decide), hσ2, sgu_kk (by decide), hσ1, sgu_kk (by decide)]
          refine ww_calli (cx_V (n := 0) (As := []) C  (c_X6_crossed (kL K) G hA _ n hs2 h3 hn) gX6_polygon_X6_crossed rfl ⟨rfl, rfl⟩ (by decide +kernel) (by decide) rfl (by decide) rfl rfl rfl (Nat.le_of_ble_eq_true rfl) dX6_polygon_65) ?_
          intro r6 σ7 h8
          obtain ⟨hr9, hσ9⟩ := h8
          have hσ9 : σ7 = σ4 := by rw [hσ9, c31, c32, hme]; rfl
          have hr9 : r6 = -1 := by rw [hr9, c31, c32, hme]; rfl
          rw [hr9, hσ9]
          refine ww_pi (k := 30) (f := 7) C rfl rfl (by decide) rfl in_X6_polygon_X6 tyX6_ok nmX6 (by decide) lk_X6_polygon_25 rfl rfl dX6_polygon_68 ?_
          obtain ⟨σ9, hσ9⟩ : ∃ z : Sg, z = (sgu σ4 30 (0) 7 (-1)) := ⟨_, rfl⟩
          rw [← hσ9]
          refine ww_aload_n C dX6_polygon_71 rfl 1 rfl ?_
          refine ww_gi (k := 30) (f := 7) C rfl rfl (by decide) rfl in_X6_polygon_X6 (by decide) lk_X6_polygon_25 dX6_polygon_72 ?_
          have hq7σ9 : σ9 30 (0) 7 = -1 := by rw [hσ9, sgu_self]
          rw [hq7σ9]
          refine ww_iconst (v := -1) C dX6_polygon_75 rfl ?_
          refine ww_icmp_ne 83 C dX6_polygon_76 (by decide) (fun h76 => ?_) (fun h76 => ?_)
          · exact absurd rfl h76
          · refine ww_iconst (v := 0) C dX6_polygon_79 rfl ?_
            refine ww_goto 84 C dX6_polygon_80 (by decide) ?_
            refine ww_istore_n (fun y10 => [(1, .int (y10)), (0, .ref (gA G 30 (0)))]) C dX6_polygon_84 rfl (by decide) (fun _ => rfl) (fun y10 ey10 => ?_)
            obtain rfl : y10 = nI 0 := (ey10.trans (by decide))
            refine ww_iload_n C dX6_polygon_85 rfl 0 rfl ?_
            refine ww_if_ne 168 C dX6_polygon_86 (by decide) (fun h86 => ?_) (fun h86 => ?_)
            · have g86 : ¬ 0 = 0 := fun q => h86 ((cv_eq (a := 0) (b := 0) rfl (by decide) (by omega) (by omega)).mpr q)
              exact absurd g86 (by decide)
            · have g86 : 0 = 0 := (cv_eq (a := 0) (b := 0) rfl (by decide) (by omega) (by omega)).mp h86
              refine ww_aload_n C dX6_polygon_89 rfl 1 rfl ?_
              refine ww_gr (j := 0) (k := 30) (f := 4) C rfl rfl (by decide) rfl in_X6_polygon_X6 (by decide) lk_X6_polygon_16 dX6_polygon_90 rfl ?_
              refine ww_aload_n C dX6_polygon_93 rfl 1 rfl ?_
              refine ww_gi (k := 30) (f := 3) C rfl rfl (by decide) rfl in_X6_polygon_X6 (by decide) lk_X6_polygon_92 dX6_polygon_94 ?_
              have hq3σ9 : σ9 30 (0) 3 = nI cnt := by rw [hσ9, sgu_f (by decide), hσ4, sgu_f (by decide), hσ2, sgu_f (by decide), hσ1, sgu_f (by decide), hc]
              rw [hq3σ9]
              refine ww_aload_n C dX6_polygon_97 rfl 1 rfl ?_
              refine ww_gi (k := 30) (f := 0) C rfl rfl (by decide) rfl in_X6_polygon_X6 (by decide) lk_X6_polygon_73 dX6_polygon_98 ?_
              have hq0σ9 : σ9 30 (0) 0 = nI n := by rw [hσ9, sgu_f (by decide), hσ4, sgu_f (by decide), hσ2, sgu_f (by decide), hσ1, sgu_f (by decide), hs]
              rw [hq0σ9]
              refine ww_iast (k := 33) (j := cnt) C rfl (by decide) (by decide) dX6_polygon_101 rfl (by omega) ?_
              obtain ⟨σ11, hσ11⟩ : ∃ z : Sg, z = (sgu σ9 33 (0) (cnt) (nI n)) := ⟨_, rfl⟩
              rw [← hσ11]
              refine ww_iconst (v := 0) C dX6_polygon_102 rfl ?_
              refine ww_istore_n (fun y12 => [(2, .int (y12)), (1, .int (nI 0)), (0, .ref (gA G 30 (0)))]) C dX6_polygon_103 rfl (by decide) (fun _ => rfl) (fun y12 ey12 => ?_)
              obtain rfl : y12 = nI 0 := (ey12.trans (by decide))
              have w0 : σ11 30 0 0 = nI n := by rw [hσ11, sgu_k (by decide), hσ9, sgu_f (by decide), hσ4, sgu_f (by decide), hσ2, sgu_f (by decide), hσ1, sgu_f (by decide), hs]
              have w3 : σ11 30 0 3 = nI cnt := by rw [hσ11, sgu_k (by decide), hσ9, sgu_f (by decide), hσ4, sgu_f (by decide), hσ2, sgu_f (by decide), hσ1, sgu_f (by decide), hc]
              have w31 : σ11 31 = σ 31 := by rw [hσ11, sgu_kk (by decide), hσ9, sgu_kk (by decide), hσ4, sgu_kk (by decide), hσ2, sgu_kk (by decide), hσ1, sgu_kk (by decide)]
              have w32 : σ11 32 = σ 32 := by rw [hσ11, sgu_kk (by decide), hσ9, sgu_kk (by decide), hσ4, sgu_kk (by decide), hσ2, sgu_kk (by decide), hσ1, sgu_kk (by decide)]
              have w34 : σ11 34 = σ 34 := by rw [hσ11, sgu_kk (by decide), hσ9, sgu_kk (by decide), hσ4, sgu_kk (by decide), hσ2, sgu_kk (by decide), hσ1, sgu_kk (by decide)]
              have w35 : σ11 35 = σ 35 := by rw [hσ11, sgu_kk (by decide), hσ9, sgu_kk (by decide), hσ4, sgu_kk (by decide), hσ2, sgu_kk (by decide), hσ1, sgu_kk (by decide)]
              refine ww_sub [0, 1, 2] rfl (lp_X6_polygon hA C σ11 cnt n w3 hc8 w0 hn _ (fun τ hk => ?_) (n + 1) 0 _ (by omega) (by omega) ⟨fun _ _ _ => rfl, fun q => by rw [if_neg (by omega)], fun q => by rw [if_neg (by omega)]⟩)
              refine ww_aload_n C dX6_polygon_158 rfl 1 rfl ?_
              refine ww_dup C dX6_polygon_159 rfl ?_
              refine ww_gi (k := 30) (f := 3) C rfl rfl (by decide) rfl in_X6_polygon_X6 (by decide) lk_X6_polygon_92 dX6_polygon_160 ?_
              have hq3τ : τ 30 (0) 3 = nI cnt := by rw [hk.1 30 (by decide) (by decide), hσ11, sgu_k (by decide), hσ9, sgu_f (by decide), hσ4, sgu_f (by decide), hσ2, sgu_f (by decide), hσ1, sgu_f (by decide), hc]
              rw [hq3τ]
              refine ww_iconst (v := 1) C dX6_polygon_163 rfl ?_
              refine ww_iadd C dX6_polygon_164 ?_
              rw [show (nI cnt) + (1) = nI (cnt + 1) from nI_add (cnt) (1)]
              refine ww_pi (k := 30) (f := 3) C rfl rfl (by decide) rfl in_X6_polygon_X6 tyX6_ok nmX6 (by decide) lk_X6_polygon_92 rfl rfl dX6_polygon_165 ?_
              obtain ⟨σ13, hσ13⟩ : ∃ z : Sg, z = (sgu τ 30 (0) 3 (nI (cnt + 1))) := ⟨_, rfl⟩
              rw [← hσ13]
              refine ww_aload_n C dX6_polygon_168 rfl 1 rfl ?_
              refine ww_iconst (v := 0) C dX6_polygon_169 rfl ?_
              refine ww_pi (k := 30) (f := 0) C rfl rfl (by decide) rfl in_X6_polygon_X6 tyX6_ok nmX6 (by decide) lk_X6_polygon_73 rfl rfl dX6_polygon_170 ?_
              obtain ⟨σ14, hσ14⟩ : ∃ z : Sg, z = (sgu σ13 30 (0) 0 (0)) := ⟨_, rfl⟩
              rw [← hσ14]
              refine ww_iload_n C dX6_polygon_173 rfl 0 rfl ?_
              refine ww_if_ne 186 C dX6_polygon_174 (by decide) (fun h174 => ?_) (fun h174 => ?_)
              · have g174 : ¬ 0 = 0 := fun q => h174 ((cv_eq (a := 0) (b := 0) rfl (by decide) (by omega) (by omega)).mpr q)
                exact absurd g174 (by decide)
              · have g174 : 0 = 0 := (cv_eq (a := 0) (b := 0) rfl (by decide) (by omega) (by omega)).mp h174
                refine ww_aload_n C dX6_polygon_177 rfl 1 rfl ?_
                refine ww_gi (k := 30) (f := 3) C rfl rfl (by decide) rfl in_X6_polygon_X6 (by decide) lk_X6_polygon_92 dX6_polygon_178 ?_
                refine ww_iconst (v := 1) C dX6_polygon_181 rfl ?_
                refine ww_isub C dX6_polygon_182 ?_
                refine ww_goto 190 C dX6_polygon_183 (by decide) ?_
                refine ww_iret C dX6_polygon_190 ?_
                refine ⟨by rw [hσ14, sgu_f (by decide), hσ13, sgu_self]; exact nI_pred cnt, fun k h30 h33 h34 h35 => by rw [hσ14, sgu_kk h30, hσ13, sgu_kk h30, hk.1 k h34 h35, hσ11, sgu_kk h33, hσ9, sgu_kk h30, hσ4, sgu_kk h30, hσ2, sgu_kk h30, hσ1, sgu_kk h30], fun f h0 h3 h7 h8 => by rw [hσ14, sgu_f h0, hσ13, sgu_f h3, hk.1 30 (by decide) (by decide), hσ11, sgu_k (by decide), hσ9, sgu_f h7, hσ4, sgu_f h7, hσ2, sgu_f h8, hσ1, sgu_f h7], by rw [hσ14, sgu_self]; rfl, by rw [hσ14, sgu_f (by decide), hσ13, sgu_self], by rw [hσ14, sgu_f (by decide), hσ13, sgu_f (by decide), hk.1 30 (by decide) (by decide), hσ11, sgu_k (by decide), hσ9, sgu_self], by rw [hσ14, sgu_f (by decide), hσ13, sgu_f (by decide), hk.1 30 (by decide) (by decide), hσ11, sgu_k (by decide), hσ9, sgu_f (by decide), hσ4, sgu_f (by decide), hσ2, sgu_self], fun q => ?_, fun q => by rw [hσ14, sgu_kk (by decide), hσ13, sgu_kk (by decide), hk.2.1 q, w31, w34], fun q => by rw [hσ14, sgu_kk (by decide), hσ13, sgu_kk (by decide), hk.2.2 q, w32, w35]⟩
                rw [hσ14, sgu_kk (by decide), hσ13, sgu_kk (by decide), hk.1 33 (by decide) (by decide), hσ11]
                by_cases z : q = cnt
                · rw [z, sgu_self, if_pos rfl]
                · rw [sgu_f z, if_neg z, hσ9, sgu_kk (by decide), hσ4, sgu_kk (by decide), hσ2, sgu_kk (by decide), hσ1, sgu_kk (by decide)]
    · have g29 : ¬ 3 ≤ n := fun q => h29 ((cv_le (a := 3) (b := n) (by decide) rfl (by omega) (by omega)).mpr q)
      exact absurd g29 (by omega)
  · have g6 : cnt = 8 := (cv_eq (a := cnt) (b := 8) rfl (by decide) (by omega) (by omega)).mp h6
    exact absurd g6 (by omega)
