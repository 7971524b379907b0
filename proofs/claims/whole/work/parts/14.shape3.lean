theorem in_X3_fitsCorner_X3 : ∀ w ∈ wsX30, w ∈ wsX3_fitsCorner := by decide +kernel
theorem lk_X3_fitsCorner_12 : Cond.fieldLink RX3 12 "PolyCuts$Shape" "corners" "LPolyCuts$Corners;" ∈ wsX3_fitsCorner := by decide +kernel
theorem in_X3_fits_X3 : ∀ w ∈ wsX30, w ∈ wsX3_fits := by decide +kernel
theorem lk_X3_fits_12 : Cond.fieldLink RX3 12 "PolyCuts$Shape" "corners" "LPolyCuts$Corners;" ∈ wsX3_fits := by decide +kernel
theorem in_X3_fits_X1 : ∀ w ∈ wsX10, w ∈ wsX3_fits := by decide +kernel
theorem lk_X3_fits_59 : Cond.fieldLink RX3 59 "PolyCuts$Corners" "size" "I" ∈ wsX3_fits := by decide +kernel
theorem in_X3_leastStart_X3 : ∀ w ∈ wsX30, w ∈ wsX3_leastStart := by decide +kernel
theorem lk_X3_leastStart_12 : Cond.fieldLink RX3 12 "PolyCuts$Shape" "corners" "LPolyCuts$Corners;" ∈ wsX3_leastStart := by decide +kernel
theorem in_X3_leastStart_X1 : ∀ w ∈ wsX10, w ∈ wsX3_leastStart := by decide +kernel
theorem lk_X3_leastStart_59 : Cond.fieldLink RX3 59 "PolyCuts$Corners" "size" "I" ∈ wsX3_leastStart := by decide +kernel
theorem in_X3_startCount_X3 : ∀ w ∈ wsX30, w ∈ wsX3_startCount := by decide +kernel
theorem lk_X3_startCount_12 : Cond.fieldLink RX3 12 "PolyCuts$Shape" "corners" "LPolyCuts$Corners;" ∈ wsX3_startCount := by decide +kernel
theorem in_X3_startCount_X1 : ∀ w ∈ wsX10, w ∈ wsX3_startCount := by decide +kernel
theorem lk_X3_startCount_59 : Cond.fieldLink RX3 59 "PolyCuts$Corners" "size" "I" ∈ wsX3_startCount := by decide +kernel
set_option maxHeartbeats 4000000 in
set_option maxRecDepth 100000 in
theorem c_X3_fitsCorner (l : Launch) (G : Gx) (hA : wa G) (σ : Sg) (p n : Nat) (hp : p < 8) (hs : σ 14 (p + 1) 2 = nI n) (hn : n ≤ 14) (o : Nat) (ho : o < 9) (i last j next : Nat) (hi : i < n) (hla : last < 14) (hj : j < 14) (hx : next < 14) (how : Int32) : CtI l yX3_fitsCorner wsX3_fitsCorner (rmd 2) G [.ref (gA G 17 (p)), .int (nI i), .ref (gA G 14 (o)), .int (nI last), .int (nI j), .int (nI next), .int (how)] σ (fun r σ2 => r = bI (corC n (σ 15 (p + 1)) (σ 16 (p + 1)) (σ 15 o) (σ 16 o) how i last j next) ∧ σ2 = σ) := by
  refine ct_i (maxL := 9) (ret := (some .boolean)) (by decide) rfl (Nat.le_of_ble_eq_true rfl) hA (fun K hl C => ?_)
  subst hl
  change WW K G _ _ σ [(0, .ref (gA G 17 (p))), (1, .int (nI i)), (2, .ref (gA G 14 (o))), (3, .int (nI last)), (4, .int (nI j)), (5, .int (nI next)), (6, .int (how))] 0 []
  refine ww_aload_n C dX3_fitsCorner_0 rfl 0 rfl ?_
  refine ww_gr (j := p + 1) (k := 17) (f := 0) C rfl rfl hp rfl in_X3_fitsCorner_X3 (by decide) lk_X3_fitsCorner_12 dX3_fitsCorner_1 rfl ?_
  refine ww_iload_n C dX3_fitsCorner_4 rfl 1 rfl ?_
  refine ww_calliF (cx_V (n := 1) (As := [.int (nI i)]) C  (c_X1_before (kL K) G hA _ (p + 1) n (Nat.add_lt_add_right hp 1) hs hn i (by omega) (by omega)) gX3_fitsCorner_X1_before rfl ⟨rfl, rfl⟩ (by decide +kernel) (by decide) rfl (Nat.add_lt_add_right hp 1) rfl rfl rfl (Nat.le_of_ble_eq_true rfl) dX3_fitsCorner_5) ?_
  refine ww_istore (fun y1 => [(7, .int (y1)), (0, .ref (gA G 17 (p))), (1, .int (nI i)), (2, .ref (gA G 14 (o))), (3, .int (nI last)), (4, .int (nI j)), (5, .int (nI next)), (6, .int (how))]) C dX3_fitsCorner_8 (by decide) (fun _ => rfl) (fun y1 ey1 => ?_)
  obtain rfl : y1 = nI (bf n i) := ey1
  refine ww_aload_n C dX3_fitsCorner_10 rfl 1 rfl ?_
  refine ww_gr (j := p + 1) (k := 17) (f := 0) C rfl rfl hp rfl in_X3_fitsCorner_X3 (by decide) lk_X3_fitsCorner_12 dX3_fitsCorner_11 rfl ?_
  refine ww_iload_n C dX3_fitsCorner_14 rfl 2 rfl ?_
  refine ww_calliF (cx_V (n := 1) (As := [.int (nI i)]) C  (c_X1_after (kL K) G hA _ (p + 1) n (Nat.add_lt_add_right hp 1) hs hn i (by omega)) gX3_fitsCorner_X1_after rfl ⟨rfl, rfl⟩ (by decide +kernel) (by decide) rfl (Nat.add_lt_add_right hp 1) rfl rfl rfl (Nat.le_of_ble_eq_true rfl) dX3_fitsCorner_15) ?_
  refine ww_istore (fun y2 => [(8, .int (y2)), (7, .int (nI (bf n i))), (0, .ref (gA G 17 (p))), (1, .int (nI i)), (2, .ref (gA G 14 (o))), (3, .int (nI last)), (4, .int (nI j)), (5, .int (nI next)), (6, .int (how))]) C dX3_fitsCorner_18 (by decide) (fun _ => rfl) (fun y2 ey2 => ?_)
  obtain rfl : y2 = nI (af n i) := ey2
  refine ww_aload_n C dX3_fitsCorner_20 rfl 2 rfl ?_
  refine ww_gr (j := p + 1) (k := 17) (f := 0) C rfl rfl hp rfl in_X3_fitsCorner_X3 (by decide) lk_X3_fitsCorner_12 dX3_fitsCorner_21 rfl ?_
  refine ww_iload_n C dX3_fitsCorner_24 rfl 3 rfl ?_
  refine ww_iload C dX3_fitsCorner_25 0 rfl ?_
  refine ww_calliF (cx_V (n := 2) (As := [.int (nI i), .int (nI (af n i))]) C  (c_X1_squaredLength (kL K) G hA _ (p + 1) (Nat.add_lt_add_right hp 1) i (af n i) (by omega) (nlt14 (af_lt (by omega)) hn)) gX3_fitsCorner_X1_squaredLength rfl ⟨rfl, rfl⟩ (by decide +kernel) (by decide) rfl (Nat.add_lt_add_right hp 1) rfl rfl rfl (Nat.le_of_ble_eq_true rfl) dX3_fitsCorner_27) ?_
  refine ww_aload_n C dX3_fitsCorner_30 rfl 4 rfl ?_
  refine ww_iload C dX3_fitsCorner_31 6 rfl ?_
  refine ww_iload C dX3_fitsCorner_33 7 rfl ?_
  refine ww_calliF (cx_V (n := 2) (As := [.int (nI j), .int (nI next)]) C  (c_X1_squaredLength (kL K) G hA _ (o) ho j next hj hx) gX3_fitsCorner_X1_squaredLength rfl ⟨rfl, rfl⟩ (by decide +kernel) (by decide) rfl ho rfl rfl rfl (Nat.le_of_ble_eq_true rfl) dX3_fitsCorner_35) ?_
  refine ww_icmp_ne 96 C dX3_fitsCorner_38 (by decide) (fun h38 => ?_) (fun h38 => ?_)
  · refine ww_iconst (v := 0) C dX3_fitsCorner_96 rfl ?_
    refine ww_zret C dX3_fitsCorner_97 (by first | rfl | exact bI_n) ?_
    exact ⟨by rw [corC, decide_eq_false h38]; rfl, rfl⟩
  · refine ww_aload_n C dX3_fitsCorner_41 rfl 2 rfl ?_
    refine ww_gr (j := p + 1) (k := 17) (f := 0) C rfl rfl hp rfl in_X3_fitsCorner_X3 (by decide) lk_X3_fitsCorner_12 dX3_fitsCorner_42 rfl ?_
    refine ww_iload C dX3_fitsCorner_45 1 rfl ?_
    refine ww_iload_n C dX3_fitsCorner_47 rfl 3 rfl ?_
    refine ww_iload C dX3_fitsCorner_48 0 rfl ?_
    refine ww_calliF (cx_V (n := 3) (As := [.int (nI (bf n i)), .int (nI i), .int (nI (af n i))]) C  (c_X1_turn (kL K) G hA _ (p + 1) (Nat.add_lt_add_right hp 1) (bf n i) i (af n i) (nlt14 (bf_lt (by omega)) hn) (by omega) (nlt14 (af_lt (by omega)) hn)) gX3_fitsCorner_X1_turn rfl ⟨rfl, rfl⟩ (by decide +kernel) (by decide) rfl (Nat.add_lt_add_right hp 1) rfl rfl rfl (Nat.le_of_ble_eq_true rfl) dX3_fitsCorner_50) ?_
    refine ww_iload C dX3_fitsCorner_53 8 rfl ?_
    refine ww_aload_n C dX3_fitsCorner_55 rfl 4 rfl ?_
    refine ww_iload_n C dX3_fitsCorner_56 rfl 5 rfl ?_
    refine ww_iload C dX3_fitsCorner_57 6 rfl ?_
    refine ww_iload C dX3_fitsCorner_59 7 rfl ?_
    refine ww_calliF (cx_V (n := 3) (As := [.int (nI last), .int (nI j), .int (nI next)]) C  (c_X1_turn (kL K) G hA _ (o) ho last j next hla hj hx) gX3_fitsCorner_X1_turn rfl ⟨rfl, rfl⟩ (by decide +kernel) (by decide) rfl ho rfl rfl rfl (Nat.le_of_ble_eq_true rfl) dX3_fitsCorner_61) ?_
    refine ww_imul C dX3_fitsCorner_64 ?_
    refine ww_icmp_ne 96 C dX3_fitsCorner_65 (by decide) (fun h65 => ?_) (fun h65 => ?_)
    · refine ww_iconst (v := 0) C dX3_fitsCorner_96 rfl ?_
      refine ww_zret C dX3_fitsCorner_97 (by first | rfl | exact bI_n) ?_
      exact ⟨by rw [corC, decide_eq_false h65, Bool.and_false]; rfl, rfl⟩
    · refine ww_aload_n C dX3_fitsCorner_68 rfl 2 rfl ?_
      refine ww_gr (j := p + 1) (k := 17) (f := 0) C rfl rfl hp rfl in_X3_fitsCorner_X3 (by decide) lk_X3_fitsCorner_12 dX3_fitsCorner_69 rfl ?_
      refine ww_iload C dX3_fitsCorner_72 1 rfl ?_
      refine ww_iload_n C dX3_fitsCorner_74 rfl 3 rfl ?_
      refine ww_iload C dX3_fitsCorner_75 0 rfl ?_
      refine ww_calliF (cx_V (n := 3) (As := [.int (nI (bf n i)), .int (nI i), .int (nI (af n i))]) C  (c_X1_advance (kL K) G hA _ (p + 1) (Nat.add_lt_add_right hp 1) (bf n i) i (af n i) (nlt14 (bf_lt (by omega)) hn) (by omega) (nlt14 (af_lt (by omega)) hn)) gX3_fitsCorner_X1_advance rfl ⟨rfl, rfl⟩ (by decide +kernel) (by decide) rfl (Nat.add_lt_add_right hp 1) rfl rfl rfl (Nat.le_of_ble_eq_true rfl) dX3_fitsCorner_77) ?_
      refine ww_aload_n C dX3_fitsCorner_80 rfl 4 rfl ?_
      refine ww_iload_n C dX3_fitsCorner_81 rfl 5 rfl ?_
      refine ww_iload C dX3_fitsCorner_82 6 rfl ?_
      refine ww_iload C dX3_fitsCorner_84 7 rfl ?_
      refine ww_calliF (cx_V (n := 3) (As := [.int (nI last), .int (nI j), .int (nI next)]) C  (c_X1_advance (kL K) G hA _ (o) ho last j next hla hj hx) gX3_fitsCorner_X1_advance rfl ⟨rfl, rfl⟩ (by decide +kernel) (by decide) rfl ho rfl rfl rfl (Nat.le_of_ble_eq_true rfl) dX3_fitsCorner_86) ?_
      refine ww_bc_ne C dX3_fitsCorner_89 dX3_fitsCorner_92 dX3_fitsCorner_93 dX3_fitsCorner_96 ?_
      refine ww_zret C dX3_fitsCorner_97 (by first | rfl | exact bI_n) ?_
      exact ⟨by rw [corC, decide_eq_true h38, decide_eq_true h65]; rfl, rfl⟩
theorem c_neg {b : Bool} (h : b = true) : (!b) = false := by rw [h]; rfl
theorem cntN_t {p : Nat → Bool} {i : Nat} (h : p i = true) : cntN p (i + 1) = cntN p i + 1 := by rw [cntN, h]; rfl
theorem cntN_f {p : Nat → Bool} {i : Nat} (h : p i = false) : cntN p (i + 1) = cntN p i := by rw [cntN, h]; rfl
theorem c_pos {b : Bool} (h : b = false) : (!b) = true := by rw [h]; rfl
set_option maxHeartbeats 4000000 in
set_option maxRecDepth 100000 in
theorem lp_X3_fits_true {K : Kx} {G : Gx} (hA : wa G) (C : CX K G cX3_fits 10 RX3 wsX3_fits (rmd 3) (some .boolean)) (σ : Sg) (p n q m : Nat) (hp : p < 8) (hs : σ 14 (p + 1) 2 = nI n) (hn : n ≤ 14) (hq : q < 8) (hm : σ 14 (q + 1) 2 = nI m) (hm14 : m ≤ 14) (s : Nat) (hsm : s < m) (how : Int32) (hnm : n = m) (hfw : (decide (hnd (σ 17 p 2) * how = hnd (σ 17 q 2))) = true) : ∀ (f i : Nat), n - i < f → i ≤ n → fndN (corN n m (σ 15 (p + 1)) (σ 16 (p + 1)) (σ 15 (q + 1)) (σ 16 (q + 1)) how true s) i n = fndN (corN n m (σ 15 (p + 1)) (σ 16 (p + 1)) (σ 15 (q + 1)) (σ 16 (q + 1)) how true s) 0 n → WW K G 10 (QI K G (fun r σ2 => r = bI (fitC n m (σ 15 (p + 1)) (σ 16 (p + 1)) (σ 15 (q + 1)) (σ 16 (q + 1)) (σ 17 p 2) (σ 17 q 2) how s) ∧ σ2 = σ)) σ [(7, .int (nI i)), (6, .int (nI (goC true m s i))), (5, .int (bI true)), (4, .ref (gA G 14 (q + 1))), (0, .ref (gA G 17 (p))), (1, .ref (gA G 17 (q))), (2, .int (nI s)), (3, .int (how))] 49 [] := by
  intro f
  induction f with
  | zero => intro i  h; exact absurd h (Nat.not_lt_zero _)
  | succ f ih =>
    intro i  hf hi hv
    refine ww_iload C dX3_fits_49 0 rfl ?_
    refine ww_aload_n C dX3_fits_51 rfl 4 rfl ?_
    refine ww_gr (j := p + 1) (k := 17) (f := 0) C rfl rfl hp rfl in_X3_fits_X3 (by decide) lk_X3_fits_12 dX3_fits_52 rfl ?_
    refine ww_gi (k := 14) (f := 2) C rfl rfl (Nat.add_lt_add_right hp 1) rfl in_X3_fits_X1 (by decide) lk_X3_fits_59 dX3_fits_55 ?_
    refine ww_icmp_ge 139 C dX3_fits_58 (by decide) (fun h58 => ?_) (fun h58 => ?_)
    · have g58 : n ≤ i := (cv_le (a := n) (b := i) hs rfl (by omega) (by omega)).mp h58
      refine ww_iconst (v := 1) C dX3_fits_139 rfl ?_
      refine ww_zret C dX3_fits_140 (by first | rfl | exact bI_n) ?_
      exact ⟨by rw [fitC, hfw, ← hv, fndN_end g58, decide_eq_true hnm]; rfl, rfl⟩
    · have g58 : ¬ n ≤ i := fun q => h58 ((cv_le (a := n) (b := i) hs rfl (by omega) (by omega)).mpr q)
      have hj : goC true m s i < m := goC_lt hsm i
      refine ww_iload C dX3_fits_61 2 rfl ?_
      refine ww_if_eq 76 C dX3_fits_63 (by decide) (fun h63 => ?_) (fun h63 => ?_)
      · exact absurd h63 (by decide)
      · refine ww_aload C dX3_fits_66 3 rfl ?_
        refine ww_iload C dX3_fits_68 1 rfl ?_
        refine ww_calliF (cx_V (n := 1) (As := [.int (nI (goC true m s i))]) C  (c_X1_after (kL K) G hA _ (q + 1) m (Nat.add_lt_add_right hq 1) hm hm14 (goC true m s i) (nlt14 hj hm14)) gX3_fits_X1_after rfl ⟨rfl, rfl⟩ (by decide +kernel) (by decide) rfl (Nat.add_lt_add_right hq 1) rfl rfl rfl (Nat.le_of_ble_eq_true rfl) dX3_fits_70) ?_
        refine ww_goto 83 C dX3_fits_73 (by decide) ?_
        refine ww_istore (fun y1 => [(8, .int (y1)), (7, .int (nI i)), (6, .int (nI (goC true m s i))), (5, .int (bI true)), (4, .ref (gA G 14 (q + 1))), (0, .ref (gA G 17 (p))), (1, .ref (gA G 17 (q))), (2, .int (nI s)), (3, .int (how))]) C dX3_fits_83 (by decide) (fun _ => rfl) (fun y1 ey1 => ?_)
        obtain rfl : y1 = nI (af m (goC true m s i)) := ey1
        refine ww_iload C dX3_fits_85 3 rfl ?_
        refine ww_if_eq 100 C dX3_fits_87 (by decide) (fun h87 => ?_) (fun h87 => ?_)
        · exact absurd h87 (by decide)
        · refine ww_aload C dX3_fits_90 4 rfl ?_
          refine ww_iload C dX3_fits_92 2 rfl ?_
          refine ww_calliF (cx_V (n := 1) (As := [.int (nI (goC true m s i))]) C  (c_X1_before (kL K) G hA _ (q + 1) m (Nat.add_lt_add_right hq 1) hm hm14 (goC true m s i) (nlt14 hj hm14) (by omega)) gX3_fits_X1_before rfl ⟨rfl, rfl⟩ (by decide +kernel) (by decide) rfl (Nat.add_lt_add_right hq 1) rfl rfl rfl (Nat.le_of_ble_eq_true rfl) dX3_fits_94) ?_
          refine ww_goto 107 C dX3_fits_97 (by decide) ?_
          refine ww_istore (fun y2 => [(9, .int (y2)), (8, .int (nI (af m (goC true m s i)))), (7, .int (nI i)), (6, .int (nI (goC true m s i))), (5, .int (bI true)), (4, .ref (gA G 14 (q + 1))), (0, .ref (gA G 17 (p))), (1, .ref (gA G 17 (q))), (2, .int (nI s)), (3, .int (how))]) C dX3_fits_107 (by decide) (fun _ => rfl) (fun y2 ey2 => ?_)
          obtain rfl : y2 = nI (bf m (goC true m s i)) := ey2
          refine ww_aload_n C dX3_fits_109 rfl 6 rfl ?_
          refine ww_iload C dX3_fits_110 2 rfl ?_
          refine ww_aload C dX3_fits_112 5 rfl ?_
          refine ww_iload C dX3_fits_114 0 rfl ?_
          refine ww_iload C dX3_fits_116 3 rfl ?_
          refine ww_iload C dX3_fits_118 1 rfl ?_
          refine ww_iload_n C dX3_fits_120 rfl 9 rfl ?_
          refine ww_calliF (cx_V (n := 6) (As := [.int (nI i), .ref (gA G 14 (q + 1)), .int (nI (bf m (goC true m s i))), .int (nI (goC true m s i)), .int (nI (af m (goC true m s i))), .int (how)]) C  (c_X3_fitsCorner (kL K) G hA _ p n hp hs hn (q + 1) (Nat.add_lt_add_right hq 1) i (bf m (goC true m s i)) (goC true m s i) (af m (goC true m s i)) (by omega) (nlt14 (bf_lt hj) hm14) (nlt14 hj hm14) (nlt14 (af_lt (by omega)) hm14) _) gX3_fits_X3_fitsCorner rfl ⟨rfl, rfl⟩ (by decide +kernel) (by decide) rfl hp rfl rfl rfl (Nat.le_of_ble_eq_true rfl) dX3_fits_121) ?_
          refine ww_if_ne 129 C dX3_fits_124 (by decide) (fun h124 => ?_) (fun h124 => ?_)
          · refine ww_iload C dX3_fits_129 1 rfl ?_
            refine ww_istore (fun y3 => [(6, .int (y3)), (9, .int (nI (bf m (goC true m s i)))), (8, .int (nI (af m (goC true m s i)))), (7, .int (nI i)), (5, .int (bI true)), (4, .ref (gA G 14 (q + 1))), (0, .ref (gA G 17 (p))), (1, .ref (gA G 17 (q))), (2, .int (nI s)), (3, .int (how))]) C dX3_fits_131 (by decide) (fun _ => rfl) (fun y3 ey3 => ?_)
            obtain rfl : y3 = nI (af m (goC true m s i)) := ey3
            refine ww_iinc (q := 3) (fun y4 => [(7, .int (y4)), (6, .int (nI (af m (goC true m s i)))), (9, .int (nI (bf m (goC true m s i)))), (8, .int (nI (af m (goC true m s i)))), (5, .int (bI true)), (4, .ref (gA G 14 (q + 1))), (0, .ref (gA G 17 (p))), (1, .ref (gA G 17 (q))), (2, .int (nI s)), (3, .int (how))]) C dX3_fits_133 rfl (by decide) (fun _ => rfl) (fun y4 ey4 => ?_)
            obtain rfl : y4 = nI (i + 1) := ninc rfl ey4
            refine ww_goto 49 C dX3_fits_136 (by decide) ?_
            exact ww_sub [0, 1, 4, 5, 6, 7, 8, 9] rfl (ih (i + 1) (by omega) (by omega) (by rw [← fndN_f (by omega) (c_neg (bI_1.mp h124))]; exact hv))
          · refine ww_iconst (v := 0) C dX3_fits_127 rfl ?_
            refine ww_zret C dX3_fits_128 (by first | rfl | exact bI_n) ?_
            exact ⟨by rw [fitC, hfw, ← hv, fndN_t (by omega) (c_pos (bI_0.mp h124))]; simp; rfl, rfl⟩
set_option maxHeartbeats 4000000 in
set_option maxRecDepth 100000 in
theorem lp_X3_fits_false {K : Kx} {G : Gx} (hA : wa G) (C : CX K G cX3_fits 10 RX3 wsX3_fits (rmd 3) (some .boolean)) (σ : Sg) (p n q m : Nat) (hp : p < 8) (hs : σ 14 (p + 1) 2 = nI n) (hn : n ≤ 14) (hq : q < 8) (hm : σ 14 (q + 1) 2 = nI m) (hm14 : m ≤ 14) (s : Nat) (hsm : s < m) (how : Int32) (hnm : n = m) (hfw : (decide (hnd (σ 17 p 2) * how = hnd (σ 17 q 2))) = false) : ∀ (f i : Nat), n - i < f → i ≤ n → fndN (corN n m (σ 15 (p + 1)) (σ 16 (p + 1)) (σ 15 (q + 1)) (σ 16 (q + 1)) how false s) i n = fndN (corN n m (σ 15 (p + 1)) (σ 16 (p + 1)) (σ 15 (q + 1)) (σ 16 (q + 1)) how false s) 0 n → WW K G 10 (QI K G (fun r σ2 => r = bI (fitC n m (σ 15 (p + 1)) (σ 16 (p + 1)) (σ 15 (q + 1)) (σ 16 (q + 1)) (σ 17 p 2) (σ 17 q 2) how s) ∧ σ2 = σ)) σ [(7, .int (nI i)), (6, .int (nI (goC false m s i))), (5, .int (bI false)), (4, .ref (gA G 14 (q + 1))), (0, .ref (gA G 17 (p))), (1, .ref (gA G 17 (q))), (2, .int (nI s)), (3, .int (how))] 49 [] := by
  intro f
  induction f with
  | zero => intro i  h; exact absurd h (Nat.not_lt_zero _)
  | succ f ih =>
    intro i  hf hi hv
    refine ww_iload C dX3_fits_49 0 rfl ?_
    refine ww_aload_n C dX3_fits_51 rfl 4 rfl ?_
    refine ww_gr (j := p + 1) (k := 17) (f := 0) C rfl rfl hp rfl in_X3_fits_X3 (by decide) lk_X3_fits_12 dX3_fits_52 rfl ?_
    refine ww_gi (k := 14) (f := 2) C rfl rfl (Nat.add_lt_add_right hp 1) rfl in_X3_fits_X1 (by decide) lk_X3_fits_59 dX3_fits_55 ?_
    refine ww_icmp_ge 139 C dX3_fits_58 (by decide) (fun h58 => ?_) (fun h58 => ?_)
    · have g58 : n ≤ i := (cv_le (a := n) (b := i) hs rfl (by omega) (by omega)).mp h58
      refine ww_iconst (v := 1) C dX3_fits_139 rfl ?_
      refine ww_zret C dX3_fits_140 (by first | rfl | exact bI_n) ?_
      exact ⟨by rw [fitC, hfw, ← hv, fndN_end g58, decide_eq_true hnm]; rfl, rfl⟩
    · have g58 : ¬ n ≤ i := fun q => h58 ((cv_le (a := n) (b := i) hs rfl (by omega) (by omega)).mpr q)
      have hj : goC false m s i < m := goC_lt hsm i
      refine ww_iload C dX3_fits_61 2 rfl ?_
      refine ww_if_eq 76 C dX3_fits_63 (by decide) (fun h63 => ?_) (fun h63 => ?_)
      · refine ww_aload C dX3_fits_76 3 rfl ?_
        refine ww_iload C dX3_fits_78 1 rfl ?_
        refine ww_calliF (cx_V (n := 1) (As := [.int (nI (goC false m s i))]) C  (c_X1_before (kL K) G hA _ (q + 1) m (Nat.add_lt_add_right hq 1) hm hm14 (goC false m s i) (nlt14 hj hm14) (by omega)) gX3_fits_X1_before rfl ⟨rfl, rfl⟩ (by decide +kernel) (by decide) rfl (Nat.add_lt_add_right hq 1) rfl rfl rfl (Nat.le_of_ble_eq_true rfl) dX3_fits_80) ?_
        refine ww_istore (fun y1 => [(8, .int (y1)), (7, .int (nI i)), (6, .int (nI (goC false m s i))), (5, .int (bI false)), (4, .ref (gA G 14 (q + 1))), (0, .ref (gA G 17 (p))), (1, .ref (gA G 17 (q))), (2, .int (nI s)), (3, .int (how))]) C dX3_fits_83 (by decide) (fun _ => rfl) (fun y1 ey1 => ?_)
        obtain rfl : y1 = nI (bf m (goC false m s i)) := ey1
        refine ww_iload C dX3_fits_85 3 rfl ?_
        refine ww_if_eq 100 C dX3_fits_87 (by decide) (fun h87 => ?_) (fun h87 => ?_)
        · refine ww_aload C dX3_fits_100 4 rfl ?_
          refine ww_iload C dX3_fits_102 2 rfl ?_
          refine ww_calliF (cx_V (n := 1) (As := [.int (nI (goC false m s i))]) C  (c_X1_after (kL K) G hA _ (q + 1) m (Nat.add_lt_add_right hq 1) hm hm14 (goC false m s i) (nlt14 hj hm14)) gX3_fits_X1_after rfl ⟨rfl, rfl⟩ (by decide +kernel) (by decide) rfl (Nat.add_lt_add_right hq 1) rfl rfl rfl (Nat.le_of_ble_eq_true rfl) dX3_fits_104) ?_
          refine ww_istore (fun y2 => [(9, .int (y2)), (8, .int (nI (bf m (goC false m s i)))), (7, .int (nI i)), (6, .int (nI (goC false m s i))), (5, .int (bI false)), (4, .ref (gA G 14 (q + 1))), (0, .ref (gA G 17 (p))), (1, .ref (gA G 17 (q))), (2, .int (nI s)), (3, .int (how))]) C dX3_fits_107 (by decide) (fun _ => rfl) (fun y2 ey2 => ?_)
          obtain rfl : y2 = nI (af m (goC false m s i)) := ey2
          refine ww_aload_n C dX3_fits_109 rfl 6 rfl ?_
          refine ww_iload C dX3_fits_110 2 rfl ?_
          refine ww_aload C dX3_fits_112 5 rfl ?_
          refine ww_iload C dX3_fits_114 0 rfl ?_
          refine ww_iload C dX3_fits_116 3 rfl ?_
          refine ww_iload C dX3_fits_118 1 rfl ?_
          refine ww_iload_n C dX3_fits_120 rfl 9 rfl ?_
          refine ww_calliF (cx_V (n := 6) (As := [.int (nI i), .ref (gA G 14 (q + 1)), .int (nI (af m (goC false m s i))), .int (nI (goC false m s i)), .int (nI (bf m (goC false m s i))), .int (how)]) C  (c_X3_fitsCorner (kL K) G hA _ p n hp hs hn (q + 1) (Nat.add_lt_add_right hq 1) i (af m (goC false m s i)) (goC false m s i) (bf m (goC false m s i)) (by omega) (nlt14 (af_lt (by omega)) hm14) (nlt14 hj hm14) (nlt14 (bf_lt hj) hm14) _) gX3_fits_X3_fitsCorner rfl ⟨rfl, rfl⟩ (by decide +kernel) (by decide) rfl hp rfl rfl rfl (Nat.le_of_ble_eq_true rfl) dX3_fits_121) ?_
          refine ww_if_ne 129 C dX3_fits_124 (by decide) (fun h124 => ?_) (fun h124 => ?_)
          · refine ww_iload C dX3_fits_129 1 rfl ?_
            refine ww_istore (fun y3 => [(6, .int (y3)), (9, .int (nI (af m (goC false m s i)))), (8, .int (nI (bf m (goC false m s i)))), (7, .int (nI i)), (5, .int (bI false)), (4, .ref (gA G 14 (q + 1))), (0, .ref (gA G 17 (p))), (1, .ref (gA G 17 (q))), (2, .int (nI s)), (3, .int (how))]) C dX3_fits_131 (by decide) (fun _ => rfl) (fun y3 ey3 => ?_)
            obtain rfl : y3 = nI (bf m (goC false m s i)) := ey3
            refine ww_iinc (q := 3) (fun y4 => [(7, .int (y4)), (6, .int (nI (bf m (goC false m s i)))), (9, .int (nI (af m (goC false m s i)))), (8, .int (nI (bf m (goC false m s i)))), (5, .int (bI false)), (4, .ref (gA G 14 (q + 1))), (0, .ref (gA G 17 (p))), (1, .ref (gA G 17 (q))), (2, .int (nI s)), (3, .int (how))]) C dX3_fits_133 rfl (by decide) (fun _ => rfl) (fun y4 ey4 => ?_)
            obtain rfl : y4 = nI (i + 1) := ninc rfl ey4
            refine ww_goto 49 C dX3_fits_136 (by decide) ?_
            exact ww_sub [0, 1, 4, 5, 6, 7, 8, 9] rfl (ih (i + 1) (by omega) (by omega) (by rw [← fndN_f (by omega) (c_neg (bI_1.mp h124))]; exact hv))
          · refine ww_iconst (v := 0) C dX3_fits_127 rfl ?_
            refine ww_zret C dX3_fits_128 (by first | rfl | exact bI_n) ?_
            exact ⟨by rw [fitC, hfw, ← hv, fndN_t (by omega) (c_pos (bI_0.mp h124))]; simp; rfl, rfl⟩
        · exact absurd h87 (by decide)
      · exact absurd h63 (by decide)
theorem fw_eq {P : Prop} [Decidable P] (h : bI (decide P) = bI true) : decide P = true := by
  cases hd : decide P with
  | true => rfl
  | false => rw [hd] at h; exact absurd h (by decide)
set_option maxHeartbeats 4000000 in
set_option maxRecDepth 100000 in
theorem c_X3_fits (l : Launch) (G : Gx) (hA : wa G) (σ : Sg) (p n q m : Nat) (hp : p < 8) (hs : σ 14 (p + 1) 2 = nI n) (hn : n ≤ 14) (hq : q < 8) (hm : σ 14 (q + 1) 2 = nI m) (hm14 : m ≤ 14) (s : Nat) (hsm : s < m) (how : Int32) : CtI l yX3_fits wsX3_fits (rmd 3) G [.ref (gA G 17 (p)), .ref (gA G 17 (q)), .int (nI s), .int (how)] σ (fun r σ2 => r = bI (fitC n m (σ 15 (p + 1)) (σ 16 (p + 1)) (σ 15 (q + 1)) (σ 16 (q + 1)) (σ 17 p 2) (σ 17 q 2) how s) ∧ σ2 = σ) := by
  refine ct_i (maxL := 10) (ret := (some .boolean)) (by decide) rfl (Nat.le_of_ble_eq_true rfl) hA (fun K hl C => ?_)
  subst hl
  change WW K G _ _ σ [(0, .ref (gA G 17 (p))), (1, .ref (gA G 17 (q))), (2, .int (nI s)), (3, .int (how))] 0 []
  refine ww_aload_n C dX3_fits_0 rfl 1 rfl ?_
  refine ww_gr (j := q + 1) (k := 17) (f := 0) C rfl rfl hq rfl in_X3_fits_X3 (by decide) lk_X3_fits_12 dX3_fits_1 rfl ?_
  refine ww_astore [(4, .ref (gA G 14 (q + 1))), (0, .ref (gA G 17 (p))), (1, .ref (gA G 17 (q))), (2, .int (nI s)), (3, .int (how))] C dX3_fits_4 (by decide) rfl ?_
  refine ww_aload_n C dX3_fits_6 rfl 1 rfl ?_
  refine ww_gr (j := p + 1) (k := 17) (f := 0) C rfl rfl hp rfl in_X3_fits_X3 (by decide) lk_X3_fits_12 dX3_fits_7 rfl ?_
  refine ww_gi (k := 14) (f := 2) C rfl rfl (Nat.add_lt_add_right hp 1) rfl in_X3_fits_X1 (by decide) lk_X3_fits_59 dX3_fits_10 ?_
  refine ww_aload C dX3_fits_13 0 rfl ?_
  refine ww_gi (k := 14) (f := 2) C rfl rfl (Nat.add_lt_add_right hq 1) rfl in_X3_fits_X1 (by decide) lk_X3_fits_59 dX3_fits_15 ?_
  refine ww_icmp_eq 23 C dX3_fits_18 (by decide) (fun h18 => ?_) (fun h18 => ?_)
  · have g18 : n = m := (cv_eq (a := n) (b := m) hs hm (by omega) (by omega)).mp h18
    refine ww_aload_n C dX3_fits_23 rfl 1 rfl ?_
    refine ww_calliF (cx_V (n := 0) (As := []) C  (c_X3_hand (kL K) G hA _ p hp) gX3_fits_X3_hand rfl ⟨rfl, rfl⟩ (by decide +kernel) (by decide) rfl hp rfl rfl rfl (Nat.le_of_ble_eq_true rfl) dX3_fits_24) ?_
    refine ww_iload_n C dX3_fits_27 rfl 4 rfl ?_
    refine ww_imul C dX3_fits_28 ?_
    refine ww_aload_n C dX3_fits_29 rfl 2 rfl ?_
    refine ww_calliF (cx_V (n := 0) (As := []) C  (c_X3_hand (kL K) G hA _ q hq) gX3_fits_X3_hand rfl ⟨rfl, rfl⟩ (by decide +kernel) (by decide) rfl hq rfl rfl rfl (Nat.le_of_ble_eq_true rfl) dX3_fits_30) ?_
    refine ww_bc_ne C dX3_fits_33 dX3_fits_36 dX3_fits_37 dX3_fits_40 ?_
    refine ww_istore (fun y1 => [(5, .int (y1)), (4, .ref (gA G 14 (q + 1))), (0, .ref (gA G 17 (p))), (1, .ref (gA G 17 (q))), (2, .int (nI s)), (3, .int (how))]) C dX3_fits_41 (by decide) (fun _ => rfl) (fun y1 ey1 => ?_)
    rw [ey1]; clear ey1 y1
    refine ww_iload_n C dX3_fits_43 rfl 4 rfl ?_
    refine ww_istore (fun y2 => [(6, .int (y2)), (5, .int (bI (decide (((hnd (σ 17 p 2)) * (how)) = (hnd (σ 17 q 2)))))), (4, .ref (gA G 14 (q + 1))), (0, .ref (gA G 17 (p))), (1, .ref (gA G 17 (q))), (2, .int (nI s)), (3, .int (how))]) C dX3_fits_44 (by decide) (fun _ => rfl) (fun y2 ey2 => ?_)
    obtain rfl : y2 = nI s := ey2
    refine ww_iconst (v := 0) C dX3_fits_46 rfl ?_
    refine ww_istore (fun y3 => [(7, .int (y3)), (6, .int (nI s)), (5, .int (bI (decide (((hnd (σ 17 p 2)) * (how)) = (hnd (σ 17 q 2)))))), (4, .ref (gA G 14 (q + 1))), (0, .ref (gA G 17 (p))), (1, .ref (gA G 17 (q))), (2, .int (nI s)), (3, .int (how))]) C dX3_fits_47 (by decide) (fun _ => rfl) (fun y3 ey3 => ?_)
    obtain rfl : y3 = nI 0 := (ey3.trans (by decide))
    cases hfw : (decide (hnd (σ 17 p 2) * how = hnd (σ 17 q 2))) with
    | true =>
      exact lp_X3_fits_true hA C σ p n q m hp hs hn hq hm hm14 s hsm how g18 hfw (n + 1) 0 (by omega) (by omega) rfl
    | false =>
      exact lp_X3_fits_false hA C σ p n q m hp hs hn hq hm hm14 s hsm how g18 hfw (n + 1) 0 (by omega) (by omega) rfl
  · have g18 : ¬ n = m := fun q => h18 ((cv_eq (a := n) (b := m) hs hm (by omega) (by omega)).mpr q)
    refine ww_iconst (v := 0) C dX3_fits_21 rfl ?_
    refine ww_zret C dX3_fits_22 (by first | rfl | exact bI_n) ?_
    exact ⟨by rw [fitC, decide_eq_false g18]; rfl, rfl⟩
set_option maxHeartbeats 4000000 in
set_option maxRecDepth 100000 in
theorem lp_X3_leastStart {K : Kx} {G : Gx} (hA : wa G) (C : CX K G cX3_leastStart 4 RX3 wsX3_leastStart (rmd 4) (some .int)) (σ : Sg) (p n q m : Nat) (hp : p < 8) (hs : σ 14 (p + 1) 2 = nI n) (hn : n ≤ 14) (hq : q < 8) (hm : σ 14 (q + 1) 2 = nI m) (hm14 : m ≤ 14) (how : Int32) : ∀ (f s : Nat), m - s < f → s ≤ m → fndN (fun s => fitC n m (σ 15 (p + 1)) (σ 16 (p + 1)) (σ 15 (q + 1)) (σ 16 (q + 1)) (σ 17 p 2) (σ 17 q 2) how s) s m = fndN (fun s => fitC n m (σ 15 (p + 1)) (σ 16 (p + 1)) (σ 15 (q + 1)) (σ 16 (q + 1)) (σ 17 p 2) (σ 17 q 2) how s) 0 m → WW K G 4 (QI K G (fun r σ2 => r = optI (fndN (fun s => fitC n m (σ 15 (p + 1)) (σ 16 (p + 1)) (σ 15 (q + 1)) (σ 16 (q + 1)) (σ 17 p 2) (σ 17 q 2) how s) 0 m) ∧ σ2 = σ)) σ [(3, .int (nI s)), (0, .ref (gA G 17 (p))), (1, .ref (gA G 17 (q))), (2, .int (how))] 2 [] := by
  intro f
  induction f with
  | zero => intro s  h; exact absurd h (Nat.not_lt_zero _)
  | succ f ih =>
    intro s  hf hi hv
    refine ww_iload_n C dX3_leastStart_2 rfl 0 rfl ?_
    refine ww_aload_n C dX3_leastStart_3 rfl 2 rfl ?_
    refine ww_gr (j := q + 1) (k := 17) (f := 0) C rfl rfl hq rfl in_X3_leastStart_X3 (by decide) lk_X3_leastStart_12 dX3_leastStart_4 rfl ?_
    refine ww_gi (k := 14) (f := 2) C rfl rfl (Nat.add_lt_add_right hq 1) rfl in_X3_leastStart_X1 (by decide) lk_X3_leastStart_59 dX3_leastStart_7 ?_
    refine ww_icmp_ge 31 C dX3_leastStart_10 (by decide) (fun h10 => ?_) (fun h10 => ?_)
    · have g10 : m ≤ s := (cv_le (a := m) (b := s) hm rfl (by omega) (by omega)).mp h10
      refine ww_iconst (v := -1) C dX3_leastStart_31 rfl ?_
      refine ww_iret C dX3_leastStart_32 ?_
      exact ⟨by rw [← hv, fndN_end g10]; rfl, rfl⟩
    · have g10 : ¬ m ≤ s := fun q => h10 ((cv_le (a := m) (b := s) hm rfl (by omega) (by omega)).mpr q)
      refine ww_aload_n C dX3_leastStart_13 rfl 1 rfl ?_
      refine ww_aload_n C dX3_leastStart_14 rfl 2 rfl ?_
      refine ww_iload_n C dX3_leastStart_15 rfl 0 rfl ?_
      refine ww_iload_n C dX3_leastStart_16 rfl 3 rfl ?_
      refine ww_calliF (cx_V (n := 3) (As := [.ref (gA G 17 (q)), .int (nI s), .int (how)]) C  (c_X3_fits (kL K) G hA _ p n q m hp hs hn hq hm hm14 s (by omega) _) gX3_leastStart_X3_fits rfl ⟨rfl, rfl⟩ (by decide +kernel) (by decide) rfl hp rfl rfl rfl (Nat.le_of_ble_eq_true rfl) dX3_leastStart_17) ?_
      refine ww_if_eq 25 C dX3_leastStart_20 (by decide) (fun h20 => ?_) (fun h20 => ?_)
      · refine ww_iinc (q := 0) (fun y1 => [(3, .int (y1)), (0, .ref (gA G 17 (p))), (1, .ref (gA G 17 (q))), (2, .int (how))]) C dX3_leastStart_25 rfl (by decide) (fun _ => rfl) (fun y1 ey1 => ?_)
        obtain rfl : y1 = nI (s + 1) := ninc rfl ey1
        refine ww_goto 2 C dX3_leastStart_28 (by decide) ?_
        exact ww_sub [0, 1, 2, 3] rfl (ih (s + 1) (by omega) (by omega) (by rw [← fndN_f (by omega) (bI_0.mp h20)]; exact hv))
      · refine ww_iload_n C dX3_leastStart_23 rfl 0 rfl ?_
        refine ww_iret C dX3_leastStart_24 ?_
        exact ⟨by rw [← hv, fndN_t (by omega) (bI_1.mp h20)]; rfl, rfl⟩
set_option maxHeartbeats 4000000 in
set_option maxRecDepth 100000 in
theorem c_X3_leastStart (l : Launch) (G : Gx) (hA : wa G) (σ : Sg) (p n q m : Nat) (hp : p < 8) (hs : σ 14 (p + 1) 2 = nI n) (hn : n ≤ 14) (hq : q < 8) (hm : σ 14 (q + 1) 2 = nI m) (hm14 : m ≤ 14) (how : Int32) : CtI l yX3_leastStart wsX3_leastStart (rmd 4) G [.ref (gA G 17 (p)), .ref (gA G 17 (q)), .int (how)] σ (fun r σ2 => r = optI (fndN (fun s => fitC n m (σ 15 (p + 1)) (σ 16 (p + 1)) (σ 15 (q + 1)) (σ 16 (q + 1)) (σ 17 p 2) (σ 17 q 2) how s) 0 m) ∧ σ2 = σ) := by
  refine ct_i (maxL := 4) (ret := (some .int)) (by decide) rfl (Nat.le_of_ble_eq_true rfl) hA (fun K hl C => ?_)
  subst hl
  change WW K G _ _ σ [(0, .ref (gA G 17 (p))), (1, .ref (gA G 17 (q))), (2, .int (how))] 0 []
  refine ww_iconst (v := 0) C dX3_leastStart_0 rfl ?_
  refine ww_istore_n (fun y1 => [(3, .int (y1)), (0, .ref (gA G 17 (p))), (1, .ref (gA G 17 (q))), (2, .int (how))]) C dX3_leastStart_1 rfl (by decide) (fun _ => rfl) (fun y1 ey1 => ?_)
  obtain rfl : y1 = nI 0 := (ey1.trans (by decide))
  exact lp_X3_leastStart hA C σ p n q m hp hs hn hq hm hm14 how (m + 1) 0 (by omega) (by omega) rfl
set_option maxHeartbeats 4000000 in
set_option maxRecDepth 100000 in
theorem lp_X3_startCount {K : Kx} {G : Gx} (hA : wa G) (C : CX K G cX3_startCount 4 RX3 wsX3_startCount (rmd 4) (some .int)) (σ : Sg) (p n : Nat) (hp : p < 8) (hs : σ 14 (p + 1) 2 = nI n) (hn : n ≤ 14) (how : Int32) : ∀ (f s : Nat), n - s < f → s ≤ n → WW K G 4 (QI K G (fun r σ2 => r = nI (cntN (fun s => fitC n n (σ 15 (p + 1)) (σ 16 (p + 1)) (σ 15 (p + 1)) (σ 16 (p + 1)) (σ 17 p 2) (σ 17 p 2) how s) n) ∧ σ2 = σ)) σ [(3, .int (nI s)), (2, .int (nI (cntN (fun s => fitC n n (σ 15 (p + 1)) (σ 16 (p + 1)) (σ 15 (p + 1)) (σ 16 (p + 1)) (σ 17 p 2) (σ 17 p 2) how s) s))), (0, .ref (gA G 17 (p))), (1, .int (how))] 4 [] := by
  intro f
  induction f with
  | zero => intro s  h; exact absurd h (Nat.not_lt_zero _)
  | succ f ih =>
    intro s  hf hi
    refine ww_iload_n C dX3_startCount_4 rfl 0 rfl ?_
    refine ww_aload_n C dX3_startCount_5 rfl 2 rfl ?_
    refine ww_gr (j := p + 1) (k := 17) (f := 0) C rfl rfl hp rfl in_X3_startCount_X3 (by decide) lk_X3_startCount_12 dX3_startCount_6 rfl ?_
    refine ww_gi (k := 14) (f := 2) C rfl rfl (Nat.add_lt_add_right hp 1) rfl in_X3_startCount_X1 (by decide) lk_X3_startCount_59 dX3_startCount_9 ?_
    refine ww_icmp_ge 34 C dX3_startCount_12 (by decide) (fun h12 => ?_) (fun h12 => ?_)
    · have g12 : n ≤ s := (cv_le (a := n) (b := s) hs rfl (by omega) (by omega)).mp h12
      refine ww_iload_n C dX3_startCount_34 rfl 1 rfl ?_
      refine ww_iret C dX3_startCount_35 ?_
      exact ⟨by rw [show s = n by omega], rfl⟩
    · have g12 : ¬ n ≤ s := fun q => h12 ((cv_le (a := n) (b := s) hs rfl (by omega) (by omega)).mpr q)
      refine ww_aload_n C dX3_startCount_15 rfl 2 rfl ?_
      refine ww_aload_n C dX3_startCount_16 rfl 2 rfl ?_
      refine ww_iload_n C dX3_startCount_17 rfl 0 rfl ?_
      refine ww_iload_n C dX3_startCount_18 rfl 3 rfl ?_
      refine ww_calliF (cx_V (n := 3) (As := [.ref (gA G 17 (p)), .int (nI s), .int (how)]) C  (c_X3_fits (kL K) G hA _ p n p n hp hs hn hp hs hn s (by omega) _) gX3_startCount_X3_fits rfl ⟨rfl, rfl⟩ (by decide +kernel) (by decide) rfl hp rfl rfl rfl (Nat.le_of_ble_eq_true rfl) dX3_startCount_19) ?_
      refine ww_if_eq 28 C dX3_startCount_22 (by decide) (fun h22 => ?_) (fun h22 => ?_)
      · refine ww_iinc (q := 0) (fun y1 => [(3, .int (y1)), (2, .int (nI (cntN (fun s => fitC n n (σ 15 (p + 1)) (σ 16 (p + 1)) (σ 15 (p + 1)) (σ 16 (p + 1)) (σ 17 p 2) (σ 17 p 2) how s) s))), (0, .ref (gA G 17 (p))), (1, .int (how))]) C dX3_startCount_28 rfl (by decide) (fun _ => rfl) (fun y1 ey1 => ?_)
        obtain rfl : y1 = nI (s + 1) := ninc rfl ey1
        refine ww_goto 4 C dX3_startCount_31 (by decide) ?_
        have e9 : cntN (fun s => fitC n n (σ 15 (p + 1)) (σ 16 (p + 1)) (σ 15 (p + 1)) (σ 16 (p + 1)) (σ 17 p 2) (σ 17 p 2) how s) (s + 1) = cntN (fun s => fitC n n (σ 15 (p + 1)) (σ 16 (p + 1)) (σ 15 (p + 1)) (σ 16 (p + 1)) (σ 17 p 2) (σ 17 p 2) how s) s := cntN_f (bI_0.mp h22)
        refine ww_sub [0, 1, 2, 3] (L' := [(3, .int (nI (s + 1))), (2, .int (nI (cntN (fun s => fitC n n (σ 15 (p + 1)) (σ 16 (p + 1)) (σ 15 (p + 1)) (σ 16 (p + 1)) (σ 17 p 2) (σ 17 p 2) how s) (s + 1)))), (0, .ref (gA G 17 (p))), (1, .int (how))]) (by rw [e9]; rfl) (ih (s + 1) (by omega) (by omega))
      · refine ww_iinc (q := 1) (fun y2 => [(2, .int (y2)), (3, .int (nI s)), (0, .ref (gA G 17 (p))), (1, .int (how))]) C dX3_startCount_25 rfl (by decide) (fun _ => rfl) (fun y2 ey2 => ?_)
        obtain rfl : y2 = nI (cntN (fun s => fitC n n (σ 15 (p + 1)) (σ 16 (p + 1)) (σ 15 (p + 1)) (σ 16 (p + 1)) (σ 17 p 2) (σ 17 p 2) how s) s + 1) := ninc rfl ey2
        refine ww_iinc (q := 1) (fun y3 => [(3, .int (y3)), (2, .int (nI (cntN (fun s => fitC n n (σ 15 (p + 1)) (σ 16 (p + 1)) (σ 15 (p + 1)) (σ 16 (p + 1)) (σ 17 p 2) (σ 17 p 2) how s) s + 1))), (0, .ref (gA G 17 (p))), (1, .int (how))]) C dX3_startCount_28 rfl (by decide) (fun _ => rfl) (fun y3 ey3 => ?_)
        obtain rfl : y3 = nI (s + 1) := ninc rfl ey3
        refine ww_goto 4 C dX3_startCount_31 (by decide) ?_
        have e9 : cntN (fun s => fitC n n (σ 15 (p + 1)) (σ 16 (p + 1)) (σ 15 (p + 1)) (σ 16 (p + 1)) (σ 17 p 2) (σ 17 p 2) how s) (s + 1) = cntN (fun s => fitC n n (σ 15 (p + 1)) (σ 16 (p + 1)) (σ 15 (p + 1)) (σ 16 (p + 1)) (σ 17 p 2) (σ 17 p 2) how s) s + 1 := cntN_t (bI_1.mp h22)
        refine ww_sub [0, 1, 2, 3] (L' := [(3, .int (nI (s + 1))), (2, .int (nI (cntN (fun s => fitC n n (σ 15 (p + 1)) (σ 16 (p + 1)) (σ 15 (p + 1)) (σ 16 (p + 1)) (σ 17 p 2) (σ 17 p 2) how s) (s + 1)))), (0, .ref (gA G 17 (p))), (1, .int (how))]) (by rw [e9]; rfl) (ih (s + 1) (by omega) (by omega))
set_option maxHeartbeats 4000000 in
set_option maxRecDepth 100000 in
theorem c_X3_startCount (l : Launch) (G : Gx) (hA : wa G) (σ : Sg) (p n : Nat) (hp : p < 8) (hs : σ 14 (p + 1) 2 = nI n) (hn : n ≤ 14) (how : Int32) : CtI l yX3_startCount wsX3_startCount (rmd 4) G [.ref (gA G 17 (p)), .int (how)] σ (fun r σ2 => r = nI (cntN (fun s => fitC n n (σ 15 (p + 1)) (σ 16 (p + 1)) (σ 15 (p + 1)) (σ 16 (p + 1)) (σ 17 p 2) (σ 17 p 2) how s) n) ∧ σ2 = σ) := by
  refine ct_i (maxL := 4) (ret := (some .int)) (by decide) rfl (Nat.le_of_ble_eq_true rfl) hA (fun K hl C => ?_)
  subst hl
  change WW K G _ _ σ [(0, .ref (gA G 17 (p))), (1, .int (how))] 0 []
  refine ww_iconst (v := 0) C dX3_startCount_0 rfl ?_
  refine ww_istore_n (fun y1 => [(2, .int (y1)), (0, .ref (gA G 17 (p))), (1, .int (how))]) C dX3_startCount_1 rfl (by decide) (fun _ => rfl) (fun y1 ey1 => ?_)
  obtain rfl : y1 = nI 0 := (ey1.trans (by decide))
  refine ww_iconst (v := 0) C dX3_startCount_2 rfl ?_
  refine ww_istore_n (fun y2 => [(3, .int (y2)), (2, .int (nI 0)), (0, .ref (gA G 17 (p))), (1, .int (how))]) C dX3_startCount_3 rfl (by decide) (fun _ => rfl) (fun y2 ey2 => ?_)
  obtain rfl : y2 = nI 0 := (ey2.trans (by decide))
  exact lp_X3_startCount hA C σ p n hp hs hn how (n + 1) 0 (by omega) (by omega)
