theorem in_X6_crossed_X6 : ∀ w ∈ wsX60, w ∈ wsX6_crossed := by decide +kernel
theorem lk_X6_crossed_73 : Cond.fieldLink RX6 73 "PolyCutsModel" "rowMany" "I" ∈ wsX6_crossed := by decide +kernel
theorem lk_X6_crossed_7 : Cond.fieldLink RX6 7 "PolyCutsModel" "rowX" "[I" ∈ wsX6_crossed := by decide +kernel
theorem lk_X6_crossed_13 : Cond.fieldLink RX6 13 "PolyCutsModel" "rowY" "[I" ∈ wsX6_crossed := by decide +kernel
theorem lk_X6_crossed_29 : Cond.fieldLink RX6 29 "PolyCutsModel" "faultSecond" "I" ∈ wsX6_crossed := by decide +kernel
theorem in_X6_isPolygon_X6 : ∀ w ∈ wsX60, w ∈ wsX6_isPolygon := by decide +kernel
theorem lk_X6_isPolygon_92 : Cond.fieldLink RX6 92 "PolyCutsModel" "polygons" "I" ∈ wsX6_isPolygon := by decide +kernel
theorem in_X6_isCorner_X6 : ∀ w ∈ wsX60, w ∈ wsX6_isCorner := by decide +kernel
theorem lk_X6_isCorner_16 : Cond.fieldLink RX6 16 "PolyCutsModel" "corners" "[I" ∈ wsX6_isCorner := by decide +kernel
theorem in_X6_fault_X6 : ∀ w ∈ wsX60, w ∈ wsX6_fault := by decide +kernel
theorem lk_X6_fault_29 : Cond.fieldLink RX6 29 "PolyCutsModel" "faultSecond" "I" ∈ wsX6_fault := by decide +kernel
theorem lk_X6_fault_25 : Cond.fieldLink RX6 25 "PolyCutsModel" "faultFirst" "I" ∈ wsX6_fault := by decide +kernel
theorem in_X6_drop_X6 : ∀ w ∈ wsX60, w ∈ wsX6_drop := by decide +kernel
theorem lk_X6_drop_92 : Cond.fieldLink RX6 92 "PolyCutsModel" "polygons" "I" ∈ wsX6_drop := by decide +kernel
theorem in_X6_count_X6 : ∀ w ∈ wsX60, w ∈ wsX6_count := by decide +kernel
theorem lk_X6_count_92 : Cond.fieldLink RX6 92 "PolyCutsModel" "polygons" "I" ∈ wsX6_count := by decide +kernel
theorem lk_X6_count_16 : Cond.fieldLink RX6 16 "PolyCutsModel" "corners" "[I" ∈ wsX6_count := by decide +kernel
theorem in_X6_corner_X6 : ∀ w ∈ wsX60, w ∈ wsX6_corner := by decide +kernel
theorem lk_X6_corner_73 : Cond.fieldLink RX6 73 "PolyCutsModel" "rowMany" "I" ∈ wsX6_corner := by decide +kernel
theorem lk_X6_corner_7 : Cond.fieldLink RX6 7 "PolyCutsModel" "rowX" "[I" ∈ wsX6_corner := by decide +kernel
theorem lk_X6_corner_13 : Cond.fieldLink RX6 13 "PolyCutsModel" "rowY" "[I" ∈ wsX6_corner := by decide +kernel
def mtP (x y : Nat → Int32) (a b c d : Nat) : Bool := mtR (x a) (y a) (x b) (y b) (x c) (y c) (x d) (y d)
def meetPR (n : Nat) (x y : Nat → Int32) (i : Nat) : Nat → Bool := fun j => !(decide (af n j = i)) && mtP x y i (i + 1) j (af n j)
def meetFR (n : Nat) (x y : Nat → Int32) (i : Nat) : Nat → Option (Nat × Nat)
  | 0 => none
  | d + 1 => match fndN (meetPR n x y i) (i + 2) n with
    | some j => some (i, j)
    | none => meetFR n x y (i + 1) d
def meetNR (n : Nat) (x y : Nat → Int32) (i : Nat) : Option (Nat × Nat) := meetFR n x y i (n - i)
theorem meetNR_end {n : Nat} {x y : Nat → Int32} {i : Nat} (h : n ≤ i) : meetNR n x y i = none := by rw [meetNR, Nat.sub_eq_zero_of_le h]; rfl
theorem meetNR_t {n : Nat} {x y : Nat → Int32} {i j : Nat} (h : i < n) (hj : fndN (meetPR n x y i) (i + 2) n = some j) : meetNR n x y i = some (i, j) := by
  rw [meetNR, show n - i = (n - (i + 1)) + 1 by omega, meetFR, hj]
theorem meetNR_f {n : Nat} {x y : Nat → Int32} {i : Nat} (h : i < n) (hj : fndN (meetPR n x y i) (i + 2) n = none) : meetNR n x y i = meetNR n x y (i + 1) := by
  rw [meetNR, show n - i = (n - (i + 1)) + 1 by omega, meetFR, hj]
  rfl
def crosS (σ : Sg) (r : Option (Nat × Nat)) : Sg := match r with
  | none => σ
  | some q => sgu σ 30 0 8 (nI q.2)
def crosI (r : Option (Nat × Nat)) : Int32 := match r with
  | none => -1
  | some q => nI q.1
set_option maxHeartbeats 4000000 in
set_option maxRecDepth 100000 in
theorem lp_X6_crossed_j {K : Kx} {G : Gx} (hA : wa G) (C : CX K G cX6_crossed 6 RX6 wsX6_crossed (rmd 4) (some .int)) (σ : Sg) (n : Nat) (hs : σ 30 0 0 = nI n) (h3 : 3 ≤ n) (hn : n ≤ 14) (i : Nat) (hi : i < n) (hi0 : meetNR n (σ 31 0) (σ 32 0) i = (meetNR n (σ 31 0) (σ 32 0) 0)) (kx : fndN (meetPR n (σ 31 0) (σ 32 0) i) (i + 2) n = none → WW K G 6 (QI K G (fun r σ2 => r = crosI (meetNR n (σ 31 0) (σ 32 0) 0) ∧ σ2 = crosS σ (meetNR n (σ 31 0) (σ 32 0) 0))) σ [(1, .int (nI i)), (0, .ref (gA G 30 (0)))] 130 []) : ∀ (f j : Nat), n - j < f → (i + 2 ≤ j) → (j ≤ n + 1) → (fndN (meetPR n (σ 31 0) (σ 32 0) i) j n = fndN (meetPR n (σ 31 0) (σ 32 0) i) (i + 2) n) → WW K G 6 (QI K G (fun r σ2 => r = crosI (meetNR n (σ 31 0) (σ 32 0) 0) ∧ σ2 = crosS σ (meetNR n (σ 31 0) (σ 32 0) 0))) σ [(2, .int (nI j)), (1, .int (nI i)), (0, .ref (gA G 30 (0)))] 14 [] := by
  intro f
  induction f with
  | zero => intro j  h; exact absurd h (Nat.not_lt_zero _)
  | succ f ih =>
    intro j  hf hj hj2 hv
    refine ww_iload_n C dX6_crossed_14 rfl 0 rfl ?_
    refine ww_aload_n C dX6_crossed_15 rfl 2 rfl ?_
    refine ww_gi (k := 30) (f := 0) C rfl rfl (by decide) rfl in_X6_crossed_X6 (by decide) lk_X6_crossed_73 dX6_crossed_16 ?_
    rw [hs]
    refine ww_icmp_ge 130 C dX6_crossed_19 (by decide) (fun h19 => ?_) (fun h19 => ?_)
    · have g19 : n ≤ j := (cv_le (a := n) (b := j) rfl rfl (by omega) (by omega)).mp h19
      exact ww_sub [1, 2] rfl (kx (by rw [← hv]; exact fndN_end (by omega)))
    · have g19 : ¬ n ≤ j := fun q => h19 ((cv_le (a := n) (b := j) rfl rfl (by omega) (by omega)).mpr q)
      refine ww_iload_n C dX6_crossed_22 rfl 0 rfl ?_
      refine ww_iconst (v := 1) C dX6_crossed_23 rfl ?_
      refine ww_iadd C dX6_crossed_24 ?_
      rw [show (nI j) + (1) = nI (j + 1) from nI_add (j) (1)]
      refine ww_aload_n C dX6_crossed_25 rfl 2 rfl ?_
      refine ww_gi (k := 30) (f := 0) C rfl rfl (by decide) rfl in_X6_crossed_X6 (by decide) lk_X6_crossed_73 dX6_crossed_26 ?_
      rw [hs]
      refine ww_irem C dX6_crossed_29 (nI_ne0 (by omega) (by omega)) ?_
      rw [rem9 (a := j + 1) (b := n) rfl rfl (by omega) (by omega) (by omega)]
      refine ww_iload_n C dX6_crossed_30 rfl 1 rfl ?_
      refine ww_icmp_ne 38 C dX6_crossed_31 (by decide) (fun h31 => ?_) (fun h31 => ?_)
      · have g31 : ¬ (j + 1) % n = i := fun q => h31 ((cv_eq (a := (j + 1) % n) (b := i) rfl rfl (lt31 (mod14 (by omega) hn)) (by omega)).mpr q)
        refine ww_iconst (v := 0) C dX6_crossed_38 rfl ?_
        refine ww_istore_n (fun y1 => [(3, .int (y1)), (2, .int (nI j)), (1, .int (nI i)), (0, .ref (gA G 30 (0)))]) C dX6_crossed_39 rfl (by decide) (fun _ => rfl) (fun y1 ey1 => ?_)
        obtain rfl : y1 = nI 0 := (ey1.trans (by decide))
        refine ww_iload_n C dX6_crossed_40 rfl 2 rfl ?_
        refine ww_iconst (v := 1) C dX6_crossed_41 rfl ?_
        refine ww_iadd C dX6_crossed_42 ?_
        rw [show (nI i) + (1) = nI (i + 1) from nI_add (i) (1)]
        refine ww_istore (fun y2 => [(4, .int (y2)), (3, .int (nI 0)), (2, .int (nI j)), (1, .int (nI i)), (0, .ref (gA G 30 (0)))]) C dX6_crossed_43 (by decide) (fun _ => rfl) (fun y2 ey2 => ?_)
        obtain rfl : y2 = nI (i + 1) := ey2
        refine ww_iload_n C dX6_crossed_45 rfl 2 rfl ?_
        refine ww_iconst (v := 1) C dX6_crossed_46 rfl ?_
        refine ww_iadd C dX6_crossed_47 ?_
        rw [show (nI j) + (1) = nI (j + 1) from nI_add (j) (1)]
        refine ww_aload_n C dX6_crossed_48 rfl 4 rfl ?_
        refine ww_gi (k := 30) (f := 0) C rfl rfl (by decide) rfl in_X6_crossed_X6 (by decide) lk_X6_crossed_73 dX6_crossed_49 ?_
        rw [hs]
        refine ww_irem C dX6_crossed_52 (nI_ne0 (by omega) (by omega)) ?_
        rw [rem9 (a := j + 1) (b := n) rfl rfl (by omega) (by omega) (by omega)]
        refine ww_istore (fun y3 => [(5, .int (y3)), (4, .int (nI (i + 1))), (3, .int (nI 0)), (2, .int (nI j)), (1, .int (nI i)), (0, .ref (gA G 30 (0)))]) C dX6_crossed_53 (by decide) (fun _ => rfl) (fun y3 ey3 => ?_)
        obtain rfl : y3 = nI ((j + 1) % n) := ey3
        refine ww_iload_n C dX6_crossed_55 rfl 2 rfl ?_
        refine ww_if_ne 124 C dX6_crossed_56 (by decide) (fun h56 => ?_) (fun h56 => ?_)
        · have g56 : ¬ 0 = 0 := fun q => h56 ((cv_eq (a := 0) (b := 0) rfl (by decide) (by omega) (by omega)).mpr q)
          exact absurd g56 (by decide)
        · have g56 : 0 = 0 := (cv_eq (a := 0) (b := 0) rfl (by decide) (by omega) (by omega)).mp h56
          refine ww_aload_n C dX6_crossed_59 rfl 5 rfl ?_
          refine ww_gr (j := 0) (k := 30) (f := 1) C rfl rfl (by decide) rfl in_X6_crossed_X6 (by decide) lk_X6_crossed_7 dX6_crossed_60 rfl ?_
          refine ww_iload_n C dX6_crossed_63 rfl 4 rfl ?_
          refine ww_iald (k := 31) (j := i) C rfl (by decide) (by decide) dX6_crossed_64 rfl (by omega) ?_
          refine ww_aload_n C dX6_crossed_65 rfl 5 rfl ?_
          refine ww_gr (j := 0) (k := 30) (f := 2) C rfl rfl (by decide) rfl in_X6_crossed_X6 (by decide) lk_X6_crossed_13 dX6_crossed_66 rfl ?_
          refine ww_iload_n C dX6_crossed_69 rfl 4 rfl ?_
          refine ww_iald (k := 32) (j := i) C rfl (by decide) (by decide) dX6_crossed_70 rfl (by omega) ?_
          refine ww_aload_n C dX6_crossed_71 rfl 5 rfl ?_
          refine ww_gr (j := 0) (k := 30) (f := 1) C rfl rfl (by decide) rfl in_X6_crossed_X6 (by decide) lk_X6_crossed_7 dX6_crossed_72 rfl ?_
          refine ww_iload C dX6_crossed_75 1 rfl ?_
          refine ww_iald (k := 31) (j := i + 1) C rfl (by decide) (by decide) dX6_crossed_77 rfl (by omega) ?_
          refine ww_aload_n C dX6_crossed_78 rfl 5 rfl ?_
          refine ww_gr (j := 0) (k := 30) (f := 2) C rfl rfl (by decide) rfl in_X6_crossed_X6 (by decide) lk_X6_crossed_13 dX6_crossed_79 rfl ?_
          refine ww_iload C dX6_crossed_82 1 rfl ?_
          refine ww_iald (k := 32) (j := i + 1) C rfl (by decide) (by decide) dX6_crossed_84 rfl (by omega) ?_
          refine ww_aload_n C dX6_crossed_85 rfl 5 rfl ?_
          refine ww_gr (j := 0) (k := 30) (f := 1) C rfl rfl (by decide) rfl in_X6_crossed_X6 (by decide) lk_X6_crossed_7 dX6_crossed_86 rfl ?_
          refine ww_iload_n C dX6_crossed_89 rfl 3 rfl ?_
          refine ww_iald (k := 31) (j := j) C rfl (by decide) (by decide) dX6_crossed_90 rfl (by omega) ?_
          refine ww_aload_n C dX6_crossed_91 rfl 5 rfl ?_
          refine ww_gr (j := 0) (k := 30) (f := 2) C rfl rfl (by decide) rfl in_X6_crossed_X6 (by decide) lk_X6_crossed_13 dX6_crossed_92 rfl ?_
          refine ww_iload_n C dX6_crossed_95 rfl 3 rfl ?_
          refine ww_iald (k := 32) (j := j) C rfl (by decide) (by decide) dX6_crossed_96 rfl (by omega) ?_
          refine ww_aload_n C dX6_crossed_97 rfl 5 rfl ?_
          refine ww_gr (j := 0) (k := 30) (f := 1) C rfl rfl (by decide) rfl in_X6_crossed_X6 (by decide) lk_X6_crossed_7 dX6_crossed_98 rfl ?_
          refine ww_iload C dX6_crossed_101 0 rfl ?_
          refine ww_iald (k := 31) (j := (j + 1) % n) C rfl (by decide) (by decide) dX6_crossed_103 rfl (by rw [mod_s (by omega)]; exact nlt14 (af_lt (by omega)) hn) ?_
          refine ww_aload_n C dX6_crossed_104 rfl 5 rfl ?_
          refine ww_gr (j := 0) (k := 30) (f := 2) C rfl rfl (by decide) rfl in_X6_crossed_X6 (by decide) lk_X6_crossed_13 dX6_crossed_105 rfl ?_
          refine ww_iload C dX6_crossed_108 0 rfl ?_
          refine ww_iald (k := 32) (j := (j + 1) % n) C rfl (by decide) (by decide) dX6_crossed_110 rfl (by rw [mod_s (by omega)]; exact nlt14 (af_lt (by omega)) hn) ?_
          refine ww_calliF (cx_S (n := 8) (As := [.int (σ 31 (0) (i)), .int (σ 32 (0) (i)), .int (σ 31 (0) (i + 1)), .int (σ 32 (0) (i + 1)), .int (σ 31 (0) (j)), .int (σ 32 (0) (j)), .int (σ 31 (0) ((j + 1) % n)), .int (σ 32 (0) ((j + 1) % n))]) C  (c_X6_meet (kL K) G hA _ _ _ _ _ _ _ _ _) gX6_crossed_X6_meet rfl ⟨rfl, rfl⟩ (by decide +kernel) (by decide) rfl rfl (Nat.le_of_ble_eq_true rfl) dX6_crossed_111) ?_
          refine ww_if_eq 124 C dX6_crossed_114 (by decide) (fun h114 => ?_) (fun h114 => ?_)
          · refine ww_iinc (q := 3) (fun y4 => [(2, .int (y4)), (5, .int (nI ((j + 1) % n))), (4, .int (nI (i + 1))), (3, .int (nI 0)), (1, .int (nI i)), (0, .ref (gA G 30 (0)))]) C dX6_crossed_124 rfl (by decide) (fun _ => rfl) (fun y4 ey4 => ?_)
            obtain rfl : y4 = nI (j + 1) := ninc rfl ey4
            refine ww_goto 14 C dX6_crossed_127 (by decide) ?_
            exact ww_sub [0, 4, 5] rfl (ih (j + 1) (by omega) (by omega) (by omega) (by rw [← fndN_f (by omega) (by simp only [meetPR]; rw [← mod_s (show j < n by omega), mtP, bI_0.mp h114, Bool.and_false])]; exact hv))
          · refine ww_aload_n C dX6_crossed_117 rfl 5 rfl ?_
            refine ww_iload_n C dX6_crossed_118 rfl 3 rfl ?_
            refine ww_pi (k := 30) (f := 8) C rfl rfl (by decide) rfl in_X6_crossed_X6 tyX6_ok nmX6 (by decide) lk_X6_crossed_29 rfl rfl dX6_crossed_119 ?_
            refine ww_iload_n C dX6_crossed_122 rfl 4 rfl ?_
            refine ww_iret C dX6_crossed_123 ?_
            have e9 : (meetNR n (σ 31 0) (σ 32 0) 0) = some (i, j) := by
              rw [← hi0]
              refine meetNR_t hi ?_
              rw [← hv]
              refine fndN_t (by omega) ?_
              simp only [meetPR]
              rw [← mod_s (show j < n by omega), decide_eq_false g31, mtP, bI_1.mp h114]
              rfl
            exact ⟨by rw [e9]; rfl, by rw [e9]; rfl⟩
      · have g31 : (j + 1) % n = i := (cv_eq (a := (j + 1) % n) (b := i) rfl rfl (lt31 (mod14 (by omega) hn)) (by omega)).mp h31
        refine ww_iconst (v := 1) C dX6_crossed_34 rfl ?_
        refine ww_goto 39 C dX6_crossed_35 (by decide) ?_
        refine ww_istore_n (fun y5 => [(3, .int (y5)), (2, .int (nI j)), (1, .int (nI i)), (0, .ref (gA G 30 (0)))]) C dX6_crossed_39 rfl (by decide) (fun _ => rfl) (fun y5 ey5 => ?_)
        obtain rfl : y5 = nI 1 := (ey5.trans (by decide))
        refine ww_iload_n C dX6_crossed_40 rfl 2 rfl ?_
        refine ww_iconst (v := 1) C dX6_crossed_41 rfl ?_
        refine ww_iadd C dX6_crossed_42 ?_
        rw [show (nI i) + (1) = nI (i + 1) from nI_add (i) (1)]
        refine ww_istore (fun y6 => [(4, .int (y6)), (3, .int (nI 1)), (2, .int (nI j)), (1, .int (nI i)), (0, .ref (gA G 30 (0)))]) C dX6_crossed_43 (by decide) (fun _ => rfl) (fun y6 ey6 => ?_)
        obtain rfl : y6 = nI (i + 1) := ey6
        refine ww_iload_n C dX6_crossed_45 rfl 2 rfl ?_
        refine ww_iconst (v := 1) C dX6_crossed_46 rfl ?_
        refine ww_iadd C dX6_crossed_47 ?_
        rw [show (nI j) + (1) = nI (j + 1) from nI_add (j) (1)]
        refine ww_aload_n C dX6_crossed_48 rfl 4 rfl ?_
        refine ww_gi (k := 30) (f := 0) C rfl rfl (by decide) rfl in_X6_crossed_X6 (by decide) lk_X6_crossed_73 dX6_crossed_49 ?_
        rw [hs]
        refine ww_irem C dX6_crossed_52 (nI_ne0 (by omega) (by omega)) ?_
        rw [rem9 (a := j + 1) (b := n) rfl rfl (by omega) (by omega) (by omega)]
        refine ww_istore (fun y7 => [(5, .int (y7)), (4, .int (nI (i + 1))), (3, .int (nI 1)), (2, .int (nI j)), (1, .int (nI i)), (0, .ref (gA G 30 (0)))]) C dX6_crossed_53 (by decide) (fun _ => rfl) (fun y7 ey7 => ?_)
        obtain rfl : y7 = nI ((j + 1) % n) := ey7
        refine ww_iload_n C dX6_crossed_55 rfl 2 rfl ?_
        refine ww_if_ne 124 C dX6_crossed_56 (by decide) (fun h56 => ?_) (fun h56 => ?_)
        · have g56 : ¬ 1 = 0 := fun q => h56 ((cv_eq (a := 1) (b := 0) rfl (by decide) (by omega) (by omega)).mpr q)
          refine ww_iinc (q := 3) (fun y8 => [(2, .int (y8)), (5, .int (nI ((j + 1) % n))), (4, .int (nI (i + 1))), (3, .int (nI 1)), (1, .int (nI i)), (0, .ref (gA G 30 (0)))]) C dX6_crossed_124 rfl (by decide) (fun _ => rfl) (fun y8 ey8 => ?_)
          obtain rfl : y8 = nI (j + 1) := ninc rfl ey8
          refine ww_goto 14 C dX6_crossed_127 (by decide) ?_
          exact ww_sub [0, 4, 5] rfl (ih (j + 1) (by omega) (by omega) (by omega) (by rw [← fndN_f (by omega) (by simp only [meetPR]; rw [← mod_s (show j < n by omega), decide_eq_true g31]; rfl)]; exact hv))
        · have g56 : 1 = 0 := (cv_eq (a := 1) (b := 0) rfl (by decide) (by omega) (by omega)).mp h56
          exact absurd g56 (by decide)
set_option maxHeartbeats 4000000 in
set_option maxRecDepth 100000 in
theorem lp_X6_crossed_i {K : Kx} {G : Gx} (hA : wa G) (C : CX K G cX6_crossed 6 RX6 wsX6_crossed (rmd 4) (some .int)) (σ : Sg) (n : Nat) (hs : σ 30 0 0 = nI n) (h3 : 3 ≤ n) (hn : n ≤ 14) : ∀ (f i : Nat), n - i < f → (i ≤ n) → (meetNR n (σ 31 0) (σ 32 0) i = (meetNR n (σ 31 0) (σ 32 0) 0)) → WW K G 6 (QI K G (fun r σ2 => r = crosI (meetNR n (σ 31 0) (σ 32 0) 0) ∧ σ2 = crosS σ (meetNR n (σ 31 0) (σ 32 0) 0))) σ [(1, .int (nI i)), (0, .ref (gA G 30 (0)))] 2 [] := by
  intro f
  induction f with
  | zero => intro i  h; exact absurd h (Nat.not_lt_zero _)
  | succ f ih =>
    intro i  hf hi hv
    refine ww_iload_n C dX6_crossed_2 rfl 0 rfl ?_
    refine ww_aload_n C dX6_crossed_3 rfl 1 rfl ?_
    refine ww_gi (k := 30) (f := 0) C rfl rfl (by decide) rfl in_X6_crossed_X6 (by decide) lk_X6_crossed_73 dX6_crossed_4 ?_
    rw [hs]
    refine ww_icmp_ge 136 C dX6_crossed_7 (by decide) (fun h7 => ?_) (fun h7 => ?_)
    · have g7 : n ≤ i := (cv_le (a := n) (b := i) rfl rfl (by omega) (by omega)).mp h7
      refine ww_iconst (v := -1) C dX6_crossed_136 rfl ?_
      refine ww_iret C dX6_crossed_137 ?_
      exact ⟨by rw [← hv, meetNR_end g7]; rfl, by rw [← hv, meetNR_end g7]; rfl⟩
    · have g7 : ¬ n ≤ i := fun q => h7 ((cv_le (a := n) (b := i) rfl rfl (by omega) (by omega)).mpr q)
      refine ww_iload_n C dX6_crossed_10 rfl 0 rfl ?_
      refine ww_iconst (v := 2) C dX6_crossed_11 rfl ?_
      refine ww_iadd C dX6_crossed_12 ?_
      rw [show (nI i) + (2) = nI (i + 2) from nI_add (i) (2)]
      refine ww_istore_n (fun y1 => [(2, .int (y1)), (1, .int (nI i)), (0, .ref (gA G 30 (0)))]) C dX6_crossed_13 rfl (by decide) (fun _ => rfl) (fun y1 ey1 => ?_)
      obtain rfl : y1 = nI (i + 2) := ey1
      refine ww_sub [0, 1, 2] rfl (lp_X6_crossed_j hA C σ n hs h3 hn i (by omega) hv (fun e9 => ?_) (n + 1) (i + 2) (by omega) (by omega) (by omega) rfl)
      refine ww_iinc (q := 0) (fun y2 => [(1, .int (y2)), (0, .ref (gA G 30 (0)))]) C dX6_crossed_130 rfl (by decide) (fun _ => rfl) (fun y2 ey2 => ?_)
      obtain rfl : y2 = nI (i + 1) := ninc rfl ey2
      refine ww_goto 2 C dX6_crossed_133 (by decide) ?_
      exact ww_sub [0, 1] rfl (ih (i + 1) (by omega) (by omega) (by rw [← meetNR_f (by omega) e9]; exact hv))
set_option maxHeartbeats 4000000 in
set_option maxRecDepth 100000 in
theorem c_X6_crossed (l : Launch) (G : Gx) (hA : wa G) (σ : Sg) (n : Nat) (hs : σ 30 0 0 = nI n) (h3 : 3 ≤ n) (hn : n ≤ 14) : CtI l yX6_crossed wsX6_crossed (rmd 4) G [.ref (gA G 30 (0))] σ (fun r σ2 => r = crosI (meetNR n (σ 31 0) (σ 32 0) 0) ∧ σ2 = crosS σ (meetNR n (σ 31 0) (σ 32 0) 0)) := by
  refine ct_i (maxL := 6) (ret := (some .int)) (by decide) rfl (Nat.le_of_ble_eq_true rfl) hA (fun K hl C => ?_)
  subst hl
  change WW K G _ _ σ [(0, .ref (gA G 30 (0)))] 0 []
  refine ww_iconst (v := 0) C dX6_crossed_0 rfl ?_
  refine ww_istore_n (fun y1 => [(1, .int (y1)), (0, .ref (gA G 30 (0)))]) C dX6_crossed_1 rfl (by decide) (fun _ => rfl) (fun y1 ey1 => ?_)
  obtain rfl : y1 = nI 0 := (ey1.trans (by decide))
  exact lp_X6_crossed_i hA C σ n hs h3 hn (n + 1) 0 (by omega) (by omega) rfl
theorem le_pred {x : Int32} {c : Nat} (h : c < 2 ^ 30) : x ≤ nI c - 1 ↔ x < nI c := by
  have h1 : (nI c - 1).toInt = (c : Int) - 1 := pk_sub_toInt (a := c) (b := 1) h (by decide)
  rw [Int32.le_iff_toInt_le, Int32.lt_iff_toInt_lt, h1, nI_toInt (by omega)]
  omega
theorem dec_pred {x : Int32} {c : Nat} (h : c < 2 ^ 30) : decide (0 ≤ x ∧ x ≤ nI c - 1) = decide (0 ≤ x ∧ x < nI c) := decide_eq_decide.mpr (and_congr_right (fun _ => le_pred h))
set_option maxHeartbeats 4000000 in
set_option maxRecDepth 100000 in
theorem c_X6_isPolygon (l : Launch) (G : Gx) (hA : wa G) (σ : Sg) (cnt : Nat) (hc : σ 30 0 3 = nI cnt) (hc8 : cnt ≤ 8) (x : Int32) : CtI l yX6_isPolygon wsX6_isPolygon (rmd 2) G [.ref (gA G 30 (0)), .int (x)] σ (fun r σ2 => r = bI (decide (0 ≤ x ∧ x < nI cnt)) ∧ σ2 = σ) := by
  refine ct_i (maxL := 2) (ret := (some .boolean)) (by decide) rfl (Nat.le_of_ble_eq_true rfl) hA (fun K hl C => ?_)
  subst hl
  change WW K G _ _ σ [(0, .ref (gA G 30 (0))), (1, .int (x))] 0 []
  refine ww_iload_n C dX6_isPolygon_0 rfl 1 rfl ?_
  refine ww_iconst (v := 0) C dX6_isPolygon_1 rfl ?_
  refine ww_aload_n C dX6_isPolygon_2 rfl 0 rfl ?_
  refine ww_gi (k := 30) (f := 3) C rfl rfl (by decide) rfl in_X6_isPolygon_X6 (by decide) lk_X6_isPolygon_92 dX6_isPolygon_3 ?_
  refine ww_iconst (v := 1) C dX6_isPolygon_6 rfl ?_
  refine ww_isub C dX6_isPolygon_7 ?_
  refine ww_calliF (cx_S (n := 3) (As := [.int (x), .int (0), .int ((σ 30 (0) 3) - (1))]) C  (c_X6_within (kL K) G hA _ _ _ _) gX6_isPolygon_X6_within rfl ⟨rfl, rfl⟩ (by decide +kernel) (by decide) rfl rfl (Nat.le_of_ble_eq_true rfl) dX6_isPolygon_8) ?_
  refine ww_zret C dX6_isPolygon_11 (by first | rfl | exact bI_n) ?_
  exact ⟨by rw [hc, dec_pred (by omega)], rfl⟩
set_option maxHeartbeats 4000000 in
set_option maxRecDepth 100000 in
theorem c_X6_isCorner_s (l : Launch) (G : Gx) (hA : wa G) (σ : Sg) (cnt p n : Nat) (hc : σ 30 0 3 = nI cnt) (hc8 : cnt ≤ 8) (hpc : p < cnt) (hp : p < 8) (hs : σ 33 0 p = nI n) (h3 : 3 ≤ n) (hn : n ≤ 14) (c : Int32) : CtI l yX6_isCorner wsX6_isCorner (rmd 3) G [.ref (gA G 30 (0)), .int (nI p), .int (c)] σ (fun r σ2 => r = bI (decide (0 ≤ c ∧ c < nI n)) ∧ σ2 = σ) := by
  refine ct_i (maxL := 3) (ret := (some .boolean)) (by decide) rfl (Nat.le_of_ble_eq_true rfl) hA (fun K hl C => ?_)
  subst hl
  change WW K G _ _ σ [(0, .ref (gA G 30 (0))), (1, .int (nI p)), (2, .int (c))] 0 []
  refine ww_aload_n C dX6_isCorner_0 rfl 0 rfl ?_
  refine ww_iload_n C dX6_isCorner_1 rfl 1 rfl ?_
  refine ww_calliF (cx_V (n := 1) (As := [.int (nI p)]) C  (c_X6_isPolygon (kL K) G hA _ cnt hc hc8 _) gX6_isCorner_X6_isPolygon rfl ⟨rfl, rfl⟩ (by decide +kernel) (by decide) rfl (by decide) rfl rfl rfl (Nat.le_of_ble_eq_true rfl) dX6_isCorner_2) ?_
  refine ww_if_eq 28 C dX6_isCorner_5 (by decide) (fun h5 => ?_) (fun h5 => ?_)
  · exact absurd (kn_p hpc hc8) (of_decide_eq_false (bI_0.mp h5))
  · refine ww_iload_n C dX6_isCorner_8 rfl 2 rfl ?_
    refine ww_iconst (v := 0) C dX6_isCorner_9 rfl ?_
    refine ww_aload_n C dX6_isCorner_10 rfl 0 rfl ?_
    refine ww_gr (j := 0) (k := 30) (f := 4) C rfl rfl (by decide) rfl in_X6_isCorner_X6 (by decide) lk_X6_isCorner_16 dX6_isCorner_11 rfl ?_
    refine ww_iload_n C dX6_isCorner_14 rfl 1 rfl ?_
    refine ww_iald (k := 33) (j := p) C rfl (by decide) (by decide) dX6_isCorner_15 rfl hp ?_
    refine ww_iconst (v := 1) C dX6_isCorner_16 rfl ?_
    refine ww_isub C dX6_isCorner_17 ?_
    refine ww_calliF (cx_S (n := 3) (As := [.int (c), .int (0), .int ((σ 33 (0) (p)) - (1))]) C  (c_X6_within (kL K) G hA _ _ _ _) gX6_isCorner_X6_within rfl ⟨rfl, rfl⟩ (by decide +kernel) (by decide) rfl rfl (Nat.le_of_ble_eq_true rfl) dX6_isCorner_18) ?_
    refine ww_if_eq 28 C dX6_isCorner_21 (by decide) (fun h21 => ?_) (fun h21 => ?_)
    · refine ww_iconst (v := 0) C dX6_isCorner_28 rfl ?_
      refine ww_zret C dX6_isCorner_29 (by first | rfl | exact bI_n) ?_
      exact ⟨by rw [hs, dec_pred (by omega)] at h21; rw [bI_0.mp h21]; rfl, rfl⟩
    · refine ww_iconst (v := 1) C dX6_isCorner_24 rfl ?_
      refine ww_goto 29 C dX6_isCorner_25 (by decide) ?_
      refine ww_zret C dX6_isCorner_29 (by first | rfl | exact bI_n) ?_
      exact ⟨by rw [hs, dec_pred (by omega)] at h21; rw [bI_1.mp h21]; rfl, rfl⟩
set_option maxHeartbeats 4000000 in
set_option maxRecDepth 100000 in
theorem c_X6_isCorner_n (l : Launch) (G : Gx) (hA : wa G) (σ : Sg) (cnt : Nat) (hc : σ 30 0 3 = nI cnt) (hc8 : cnt ≤ 8) (x : Int32) (hu : ¬ (0 ≤ x ∧ x < nI cnt)) (c : Int32) : CtI l yX6_isCorner wsX6_isCorner (rmd 3) G [.ref (gA G 30 (0)), .int (x), .int (c)] σ (fun r σ2 => r = 0 ∧ σ2 = σ) := by
  refine ct_i (maxL := 3) (ret := (some .boolean)) (by decide) rfl (Nat.le_of_ble_eq_true rfl) hA (fun K hl C => ?_)
  subst hl
  change WW K G _ _ σ [(0, .ref (gA G 30 (0))), (1, .int (x)), (2, .int (c))] 0 []
  refine ww_aload_n C dX6_isCorner_0 rfl 0 rfl ?_
  refine ww_iload_n C dX6_isCorner_1 rfl 1 rfl ?_
  refine ww_calliF (cx_V (n := 1) (As := [.int (x)]) C  (c_X6_isPolygon (kL K) G hA _ cnt hc hc8 _) gX6_isCorner_X6_isPolygon rfl ⟨rfl, rfl⟩ (by decide +kernel) (by decide) rfl (by decide) rfl rfl rfl (Nat.le_of_ble_eq_true rfl) dX6_isCorner_2) ?_
  refine ww_if_eq 28 C dX6_isCorner_5 (by decide) (fun h5 => ?_) (fun h5 => ?_)
  · refine ww_iconst (v := 0) C dX6_isCorner_28 rfl ?_
    refine ww_zret C dX6_isCorner_29 (by first | rfl | exact bI_n) ?_
    exact ⟨rfl, rfl⟩
  · exact absurd (of_decide_eq_true (bI_1.mp h5)) hu
theorem w_01 {w : Int32} (h : 0 ≤ w ∧ w ≤ 1) (h0 : ¬ w = 0) : w = 1 := by
  obtain ⟨j, hj, e⟩ := nI_of2 (x := w) (M := 1) (n := 1) (by decide) (Int32.not_lt.mpr h.1) h.2
  subst e
  have h3 : ¬ j = 0 := fun q => h0 (by rw [q]; decide)
  have h5 : j = 1 := by omega
  rw [h5]; decide
theorem w_iff {w : Int32} : (0 ≤ w ∧ w ≤ 1) ↔ (w = 0 ∨ w = 1) := by
  constructor
  · intro h
    by_cases q : w = 0
    · exact Or.inl q
    · exact Or.inr (w_01 h q)
  · rintro (h | h) <;> rw [h] <;> decide
set_option maxHeartbeats 4000000 in
set_option maxRecDepth 100000 in
theorem c_X6_fault (l : Launch) (G : Gx) (hA : wa G) (σ : Sg) (x : Int32) : CtI l yX6_fault wsX6_fault (rmd 2) G [.ref (gA G 30 (0)), .int (x)] σ (fun r σ2 => r = faultR x (σ 30 0 7) (σ 30 0 8) ∧ σ2 = σ) := by
  refine ct_i (maxL := 2) (ret := (some .int)) (by decide) rfl (Nat.le_of_ble_eq_true rfl) hA (fun K hl C => ?_)
  subst hl
  change WW K G _ _ σ [(0, .ref (gA G 30 (0))), (1, .int (x))] 0 []
  refine ww_iload_n C dX6_fault_0 rfl 1 rfl ?_
  refine ww_iconst (v := 0) C dX6_fault_1 rfl ?_
  refine ww_iconst (v := 1) C dX6_fault_2 rfl ?_
  refine ww_calliF (cx_S (n := 3) (As := [.int (x), .int (0), .int (1)]) C  (c_X6_within (kL K) G hA _ _ _ _) gX6_fault_X6_within rfl ⟨rfl, rfl⟩ (by decide +kernel) (by decide) rfl rfl (Nat.le_of_ble_eq_true rfl) dX6_fault_3) ?_
  refine ww_if_ne 12 C dX6_fault_6 (by decide) (fun h6 => ?_) (fun h6 => ?_)
  · refine ww_iload_n C dX6_fault_12 rfl 1 rfl ?_
    refine ww_if_ne 23 C dX6_fault_13 (by decide) (fun h13 => ?_) (fun h13 => ?_)
    · refine ww_aload_n C dX6_fault_23 rfl 0 rfl ?_
      refine ww_gi (k := 30) (f := 8) C rfl rfl (by decide) rfl in_X6_fault_X6 (by decide) lk_X6_fault_29 dX6_fault_24 ?_
      refine ww_iret C dX6_fault_27 ?_
      exact ⟨by rw [faultR, if_neg h13, if_pos (w_01 (of_decide_eq_true (bI_1.mp h6)) h13)], rfl⟩
    · refine ww_aload_n C dX6_fault_16 rfl 0 rfl ?_
      refine ww_gi (k := 30) (f := 7) C rfl rfl (by decide) rfl in_X6_fault_X6 (by decide) lk_X6_fault_25 dX6_fault_17 ?_
      refine ww_goto 27 C dX6_fault_20 (by decide) ?_
      refine ww_iret C dX6_fault_27 ?_
      exact ⟨by rw [faultR, if_pos h13], rfl⟩
  · refine ww_bipush (v := -3) C dX6_fault_9 (by decide) ?_
    refine ww_iret C dX6_fault_11 ?_
    exact ⟨by rw [faultR, if_neg (fun q => of_decide_eq_false (bI_0.mp h6) (by rw [q]; decide)), if_neg (fun q => of_decide_eq_false (bI_0.mp h6) (by rw [q]; decide))], rfl⟩
set_option maxHeartbeats 4000000 in
set_option maxRecDepth 100000 in
theorem c_X6_drop_0 (l : Launch) (G : Gx) (hA : wa G) (σ : Sg) (hc : σ 30 0 3 = nI 0) : CtI l yX6_drop wsX6_drop (rmd 1) G [.ref (gA G 30 (0))] σ (fun r σ2 => r = -2 ∧ σ2 = σ) := by
  refine ct_i (maxL := 1) (ret := (some .int)) (by decide) rfl (Nat.le_of_ble_eq_true rfl) hA (fun K hl C => ?_)
  subst hl
  change WW K G _ _ σ [(0, .ref (gA G 30 (0)))] 0 []
  refine ww_aload_n C dX6_drop_0 rfl 0 rfl ?_
  refine ww_gi (k := 30) (f := 3) C rfl rfl (by decide) rfl in_X6_drop_X6 (by decide) lk_X6_drop_92 dX6_drop_1 ?_
  refine ww_if_ne 10 C dX6_drop_4 (by decide) (fun h4 => ?_) (fun h4 => ?_)
  · have g4 : ¬ 0 = 0 := fun q => h4 ((cv_eq (a := 0) (b := 0) hc (by decide) (by omega) (by omega)).mpr q)
    exact absurd g4 (by decide)
  · have g4 : 0 = 0 := (cv_eq (a := 0) (b := 0) hc (by decide) (by omega) (by omega)).mp h4
    refine ww_bipush (v := -2) C dX6_drop_7 (by decide) ?_
    refine ww_iret C dX6_drop_9 ?_
    exact ⟨rfl, rfl⟩
set_option maxHeartbeats 4000000 in
set_option maxRecDepth 100000 in
theorem c_X6_drop_s (l : Launch) (G : Gx) (hA : wa G) (σ : Sg) (cnt : Nat) (hc : σ 30 0 3 = nI (cnt + 1)) (hc8 : cnt < 8) : CtI l yX6_drop wsX6_drop (rmd 1) G [.ref (gA G 30 (0))] σ (fun r σ2 => r = nI cnt ∧ σ2 = sgu σ 30 0 3 (nI cnt)) := by
  refine ct_i (maxL := 1) (ret := (some .int)) (by decide) rfl (Nat.le_of_ble_eq_true rfl) hA (fun K hl C => ?_)
  subst hl
  change WW K G _ _ σ [(0, .ref (gA G 30 (0)))] 0 []
  refine ww_aload_n C dX6_drop_0 rfl 0 rfl ?_
  refine ww_gi (k := 30) (f := 3) C rfl rfl (by decide) rfl in_X6_drop_X6 (by decide) lk_X6_drop_92 dX6_drop_1 ?_
  refine ww_if_ne 10 C dX6_drop_4 (by decide) (fun h4 => ?_) (fun h4 => ?_)
  · have g4 : ¬ cnt + 1 = 0 := fun q => h4 ((cv_eq (a := cnt + 1) (b := 0) hc (by decide) (by omega) (by omega)).mpr q)
    refine ww_aload_n C dX6_drop_10 rfl 0 rfl ?_
    refine ww_dup C dX6_drop_11 rfl ?_
    refine ww_gi (k := 30) (f := 3) C rfl rfl (by decide) rfl in_X6_drop_X6 (by decide) lk_X6_drop_92 dX6_drop_12 ?_
    refine ww_iconst (v := 1) C dX6_drop_15 rfl ?_
    refine ww_isub C dX6_drop_16 ?_
    refine ww_pi (k := 30) (f := 3) C rfl rfl (by decide) rfl in_X6_drop_X6 tyX6_ok nmX6 (by decide) lk_X6_drop_92 rfl rfl dX6_drop_17 ?_
    refine ww_aload_n C dX6_drop_20 rfl 0 rfl ?_
    refine ww_gi (k := 30) (f := 3) C rfl rfl (by decide) rfl in_X6_drop_X6 (by decide) lk_X6_drop_92 dX6_drop_21 ?_
    refine ww_iret C dX6_drop_24 ?_
    exact ⟨by rw [sgu_self, hc]; exact nI_pred cnt, by rw [hc, nI_pred]⟩
  · have g4 : cnt + 1 = 0 := (cv_eq (a := cnt + 1) (b := 0) hc (by decide) (by omega) (by omega)).mp h4
    exact absurd g4 (by omega)
set_option maxHeartbeats 4000000 in
set_option maxRecDepth 100000 in
theorem c_X6_count_a (l : Launch) (G : Gx) (hA : wa G) (σ : Sg) (cnt : Nat) (hc : σ 30 0 3 = nI cnt) (hc8 : cnt ≤ 8) : CtI l yX6_count wsX6_count (rmd 3) G [.ref (gA G 30 (0)), .int (-1)] σ (fun r σ2 => r = nI cnt ∧ σ2 = σ) := by
  refine ct_i (maxL := 2) (ret := (some .int)) (by decide) rfl (Nat.le_of_ble_eq_true rfl) hA (fun K hl C => ?_)
  subst hl
  change WW K G _ _ σ [(0, .ref (gA G 30 (0))), (1, .int (-1))] 0 []
  refine ww_iload_n C dX6_count_0 rfl 1 rfl ?_
  refine ww_iconst (v := -1) C dX6_count_1 rfl ?_
  refine ww_icmp_ne 10 C dX6_count_2 (by decide) (fun h2 => ?_) (fun h2 => ?_)
  · exact absurd rfl h2
  · refine ww_aload_n C dX6_count_5 rfl 0 rfl ?_
    refine ww_gi (k := 30) (f := 3) C rfl rfl (by decide) rfl in_X6_count_X6 (by decide) lk_X6_count_92 dX6_count_6 ?_
    refine ww_iret C dX6_count_9 ?_
    exact ⟨hc, rfl⟩
set_option maxHeartbeats 4000000 in
set_option maxRecDepth 100000 in
theorem c_X6_count_s (l : Launch) (G : Gx) (hA : wa G) (σ : Sg) (cnt p n : Nat) (hc : σ 30 0 3 = nI cnt) (hc8 : cnt ≤ 8) (hpc : p < cnt) (hp : p < 8) (hs : σ 33 0 p = nI n) (h3 : 3 ≤ n) (hn : n ≤ 14) : CtI l yX6_count wsX6_count (rmd 3) G [.ref (gA G 30 (0)), .int (nI p)] σ (fun r σ2 => r = nI n ∧ σ2 = σ) := by
  refine ct_i (maxL := 2) (ret := (some .int)) (by decide) rfl (Nat.le_of_ble_eq_true rfl) hA (fun K hl C => ?_)
  subst hl
  change WW K G _ _ σ [(0, .ref (gA G 30 (0))), (1, .int (nI p))] 0 []
  refine ww_iload_n C dX6_count_0 rfl 1 rfl ?_
  refine ww_iconst (v := -1) C dX6_count_1 rfl ?_
  refine ww_icmp_ne 10 C dX6_count_2 (by decide) (fun h2 => ?_) (fun h2 => ?_)
  · refine ww_aload_n C dX6_count_10 rfl 0 rfl ?_
    refine ww_iload_n C dX6_count_11 rfl 1 rfl ?_
    refine ww_calliF (cx_V (n := 1) (As := [.int (nI p)]) C  (c_X6_isPolygon (kL K) G hA _ cnt hc hc8 _) gX6_count_X6_isPolygon rfl ⟨rfl, rfl⟩ (by decide +kernel) (by decide) rfl (by decide) rfl rfl rfl (Nat.le_of_ble_eq_true rfl) dX6_count_12) ?_
    refine ww_if_eq 27 C dX6_count_15 (by decide) (fun h15 => ?_) (fun h15 => ?_)
    · exact absurd (kn_p hpc hc8) (of_decide_eq_false (bI_0.mp h15))
    · refine ww_aload_n C dX6_count_18 rfl 0 rfl ?_
      refine ww_gr (j := 0) (k := 30) (f := 4) C rfl rfl (by decide) rfl in_X6_count_X6 (by decide) lk_X6_count_16 dX6_count_19 rfl ?_
      refine ww_iload_n C dX6_count_22 rfl 1 rfl ?_
      refine ww_iald (k := 33) (j := p) C rfl (by decide) (by decide) dX6_count_23 rfl hp ?_
      refine ww_goto 29 C dX6_count_24 (by decide) ?_
      refine ww_iret C dX6_count_29 ?_
      exact ⟨hs, rfl⟩
  · exact absurd h2 (nI_nm1 (by omega))
set_option maxHeartbeats 4000000 in
set_option maxRecDepth 100000 in
theorem c_X6_count_n (l : Launch) (G : Gx) (hA : wa G) (σ : Sg) (cnt : Nat) (hc : σ 30 0 3 = nI cnt) (hc8 : cnt ≤ 8) (x : Int32) (hu : ¬ (0 ≤ x ∧ x < nI cnt)) (hm : ¬ x = -1) : CtI l yX6_count wsX6_count (rmd 3) G [.ref (gA G 30 (0)), .int (x)] σ (fun r σ2 => r = -2 ∧ σ2 = σ) := by
  refine ct_i (maxL := 2) (ret := (some .int)) (by decide) rfl (Nat.le_of_ble_eq_true rfl) hA (fun K hl C => ?_)
  subst hl
  change WW K G _ _ σ [(0, .ref (gA G 30 (0))), (1, .int (x))] 0 []
  refine ww_iload_n C dX6_count_0 rfl 1 rfl ?_
  refine ww_iconst (v := -1) C dX6_count_1 rfl ?_
  refine ww_icmp_ne 10 C dX6_count_2 (by decide) (fun h2 => ?_) (fun h2 => ?_)
  · refine ww_aload_n C dX6_count_10 rfl 0 rfl ?_
    refine ww_iload_n C dX6_count_11 rfl 1 rfl ?_
    refine ww_calliF (cx_V (n := 1) (As := [.int (x)]) C  (c_X6_isPolygon (kL K) G hA _ cnt hc hc8 _) gX6_count_X6_isPolygon rfl ⟨rfl, rfl⟩ (by decide +kernel) (by decide) rfl (by decide) rfl rfl rfl (Nat.le_of_ble_eq_true rfl) dX6_count_12) ?_
    refine ww_if_eq 27 C dX6_count_15 (by decide) (fun h15 => ?_) (fun h15 => ?_)
    · refine ww_bipush (v := -2) C dX6_count_27 (by decide) ?_
      refine ww_iret C dX6_count_29 ?_
      exact ⟨rfl, rfl⟩
    · exact absurd (of_decide_eq_true (bI_1.mp h15)) hu
  · exact absurd h2 hm
set_option maxHeartbeats 4000000 in
set_option maxRecDepth 100000 in
theorem c_X6_corner_o (l : Launch) (G : Gx) (hA : wa G) (σ : Sg) (n : Nat) (hs : σ 30 0 0 = nI n) (hn : n ≤ 14) (x y : Int32) (ho : ¬ (wi9 x ∧ wi9 y)) : CtI l yX6_corner wsX6_corner (rmd 2) G [.ref (gA G 30 (0)), .int (x), .int (y)] σ (fun r σ2 => r = -3 ∧ σ2 = σ) := by
  refine ct_i (maxL := 3) (ret := (some .int)) (by decide) rfl (Nat.le_of_ble_eq_true rfl) hA (fun K hl C => ?_)
  subst hl
  change WW K G _ _ σ [(0, .ref (gA G 30 (0))), (1, .int (x)), (2, .int (y))] 0 []
  refine ww_iload_n C dX6_corner_0 rfl 1 rfl ?_
  refine ww_sipush (v := -1000) C dX6_corner_1 (by decide) ?_
  refine ww_sipush (v := 1000) C dX6_corner_4 (by decide) ?_
  refine ww_calliF (cx_S (n := 3) (As := [.int (x), .int (-1000), .int (1000)]) C  (c_X6_within (kL K) G hA _ _ _ _) gX6_corner_X6_within rfl ⟨rfl, rfl⟩ (by decide +kernel) (by decide) rfl rfl (Nat.le_of_ble_eq_true rfl) dX6_corner_7) ?_
  refine ww_if_eq 26 C dX6_corner_10 (by decide) (fun h10 => ?_) (fun h10 => ?_)
  · refine ww_bipush (v := -3) C dX6_corner_26 (by decide) ?_
    refine ww_iret C dX6_corner_28 ?_
    exact ⟨rfl, rfl⟩
  · refine ww_iload_n C dX6_corner_13 rfl 2 rfl ?_
    refine ww_sipush (v := -1000) C dX6_corner_14 (by decide) ?_
    refine ww_sipush (v := 1000) C dX6_corner_17 (by decide) ?_
    refine ww_calliF (cx_S (n := 3) (As := [.int (y), .int (-1000), .int (1000)]) C  (c_X6_within (kL K) G hA _ _ _ _) gX6_corner_X6_within rfl ⟨rfl, rfl⟩ (by decide +kernel) (by decide) rfl rfl (Nat.le_of_ble_eq_true rfl) dX6_corner_20) ?_
    refine ww_if_ne 29 C dX6_corner_23 (by decide) (fun h23 => ?_) (fun h23 => ?_)
    · exact absurd ⟨of_decide_eq_true (bI_1.mp h10), of_decide_eq_true (bI_1.mp h23)⟩ ho
    · refine ww_bipush (v := -3) C dX6_corner_26 (by decide) ?_
      refine ww_iret C dX6_corner_28 ?_
      exact ⟨rfl, rfl⟩
set_option maxHeartbeats 4000000 in
set_option maxRecDepth 100000 in
theorem c_X6_corner_f (l : Launch) (G : Gx) (hA : wa G) (σ : Sg) (n : Nat) (hs : σ 30 0 0 = nI n) (hn : n ≤ 14) (x y : Int32) (hw : wi9 x ∧ wi9 y) (h14 : n = 14) : CtI l yX6_corner wsX6_corner (rmd 2) G [.ref (gA G 30 (0)), .int (x), .int (y)] σ (fun r σ2 => r = -4 ∧ σ2 = σ) := by
  refine ct_i (maxL := 3) (ret := (some .int)) (by decide) rfl (Nat.le_of_ble_eq_true rfl) hA (fun K hl C => ?_)
  subst hl
  change WW K G _ _ σ [(0, .ref (gA G 30 (0))), (1, .int (x)), (2, .int (y))] 0 []
  refine ww_iload_n C dX6_corner_0 rfl 1 rfl ?_
  refine ww_sipush (v := -1000) C dX6_corner_1 (by decide) ?_
  refine ww_sipush (v := 1000) C dX6_corner_4 (by decide) ?_
  refine ww_calliF (cx_S (n := 3) (As := [.int (x), .int (-1000), .int (1000)]) C  (c_X6_within (kL K) G hA _ _ _ _) gX6_corner_X6_within rfl ⟨rfl, rfl⟩ (by decide +kernel) (by decide) rfl rfl (Nat.le_of_ble_eq_true rfl) dX6_corner_7) ?_
  refine ww_if_eq 26 C dX6_corner_10 (by decide) (fun h10 => ?_) (fun h10 => ?_)
  · exact absurd hw.1 (of_decide_eq_false (bI_0.mp h10))
  · refine ww_iload_n C dX6_corner_13 rfl 2 rfl ?_
    refine ww_sipush (v := -1000) C dX6_corner_14 (by decide) ?_
    refine ww_sipush (v := 1000) C dX6_corner_17 (by decide) ?_
    refine ww_calliF (cx_S (n := 3) (As := [.int (y), .int (-1000), .int (1000)]) C  (c_X6_within (kL K) G hA _ _ _ _) gX6_corner_X6_within rfl ⟨rfl, rfl⟩ (by decide +kernel) (by decide) rfl rfl (Nat.le_of_ble_eq_true rfl) dX6_corner_20) ?_
    refine ww_if_ne 29 C dX6_corner_23 (by decide) (fun h23 => ?_) (fun h23 => ?_)
    · refine ww_aload_n C dX6_corner_29 rfl 0 rfl ?_
      refine ww_gi (k := 30) (f := 0) C rfl rfl (by decide) rfl in_X6_corner_X6 (by decide) lk_X6_corner_73 dX6_corner_30 ?_
      refine ww_bipush (v := 14) C dX6_corner_33 (by decide) ?_
      refine ww_icmp_ne 41 C dX6_corner_35 (by decide) (fun h35 => ?_) (fun h35 => ?_)
      · have g35 : ¬ n = 14 := fun q => h35 ((cv_eq (a := n) (b := 14) hs (by decide) (by omega) (by omega)).mpr q)
        exact absurd h14 g35
      · have g35 : n = 14 := (cv_eq (a := n) (b := 14) hs (by decide) (by omega) (by omega)).mp h35
        refine ww_bipush (v := -4) C dX6_corner_38 (by decide) ?_
        refine ww_iret C dX6_corner_40 ?_
        exact ⟨rfl, rfl⟩
    · exact absurd hw.2 (of_decide_eq_false (bI_0.mp h23))
set_option maxHeartbeats 4000000 in
set_option maxRecDepth 100000 in
theorem c_X6_corner_a (l : Launch) (G : Gx) (hA : wa G) (σ : Sg) (n : Nat) (hs : σ 30 0 0 = nI n) (hn : n ≤ 14) (x y : Int32) (hw : wi9 x ∧ wi9 y) (h14 : n < 14) : CtI l yX6_corner wsX6_corner (rmd 2) G [.ref (gA G 30 (0)), .int (x), .int (y)] σ (fun r σ2 => r = nI (n + 1) ∧ σ2 = sgu (sgu (sgu σ 31 0 n x) 32 0 n y) 30 0 0 (nI (n + 1))) := by
  refine ct_i (maxL := 3) (ret := (some .int)) (by decide) rfl (Nat.le_of_ble_eq_true rfl) hA (fun K hl C => ?_)
  subst hl
  change WW K G _ _ σ [(0, .ref (gA G 30 (0))), (1, .int (x)), (2, .int (y))] 0 []
  refine ww_iload_n C dX6_corner_0 rfl 1 rfl ?_
  refine ww_sipush (v := -1000) C dX6_corner_1 (by decide) ?_
  refine ww_sipush (v := 1000) C dX6_corner_4 (by decide) ?_
  refine ww_calliF (cx_S (n := 3) (As := [.int (x), .int (-1000), .int (1000)]) C  (c_X6_within (kL K) G hA _ _ _ _) gX6_corner_X6_within rfl ⟨rfl, rfl⟩ (by decide +kernel) (by decide) rfl rfl (Nat.le_of_ble_eq_true rfl) dX6_corner_7) ?_
  refine ww_if_eq 26 C dX6_corner_10 (by decide) (fun h10 => ?_) (fun h10 => ?_)
  · exact absurd hw.1 (of_decide_eq_false (bI_0.mp h10))
  · refine ww_iload_n C dX6_corner_13 rfl 2 rfl ?_
    refine ww_sipush (v := -1000) C dX6_corner_14 (by decide) ?_
    refine ww_sipush (v := 1000) C dX6_corner_17 (by decide) ?_
    refine ww_calliF (cx_S (n := 3) (As := [.int (y), .int (-1000), .int (1000)]) C  (c_X6_within (kL K) G hA _ _ _ _) gX6_corner_X6_within rfl ⟨rfl, rfl⟩ (by decide +kernel) (by decide) rfl rfl (Nat.le_of_ble_eq_true rfl) dX6_corner_20) ?_
    refine ww_if_ne 29 C dX6_corner_23 (by decide) (fun h23 => ?_) (fun h23 => ?_)
    · refine ww_aload_n C dX6_corner_29 rfl 0 rfl ?_
      refine ww_gi (k := 30) (f := 0) C rfl rfl (by decide) rfl in_X6_corner_X6 (by decide) lk_X6_corner_73 dX6_corner_30 ?_
      refine ww_bipush (v := 14) C dX6_corner_33 (by decide) ?_
      refine ww_icmp_ne 41 C dX6_corner_35 (by decide) (fun h35 => ?_) (fun h35 => ?_)
      · have g35 : ¬ n = 14 := fun q => h35 ((cv_eq (a := n) (b := 14) hs (by decide) (by omega) (by omega)).mpr q)
        refine ww_aload_n C dX6_corner_41 rfl 0 rfl ?_
        refine ww_gr (j := 0) (k := 30) (f := 1) C rfl rfl (by decide) rfl in_X6_corner_X6 (by decide) lk_X6_corner_7 dX6_corner_42 rfl ?_
        refine ww_aload_n C dX6_corner_45 rfl 0 rfl ?_
        refine ww_gi (k := 30) (f := 0) C rfl rfl (by decide) rfl in_X6_corner_X6 (by decide) lk_X6_corner_73 dX6_corner_46 ?_
        refine ww_iload_n C dX6_corner_49 rfl 1 rfl ?_
        refine ww_iast (k := 31) (j := n) C rfl (by decide) (by decide) dX6_corner_50 hs (by omega) ?_
        refine ww_aload_n C dX6_corner_51 rfl 0 rfl ?_
        refine ww_gr (j := 0) (k := 30) (f := 2) C rfl rfl (by decide) rfl in_X6_corner_X6 (by decide) lk_X6_corner_13 dX6_corner_52 rfl ?_
        refine ww_aload_n C dX6_corner_55 rfl 0 rfl ?_
        refine ww_gi (k := 30) (f := 0) C rfl rfl (by decide) rfl in_X6_corner_X6 (by decide) lk_X6_corner_73 dX6_corner_56 ?_
        refine ww_iload_n C dX6_corner_59 rfl 2 rfl ?_
        refine ww_iast (k := 32) (j := n) C rfl (by decide) (by decide) dX6_corner_60 (by simp [sgu, hs]) (by omega) ?_
        refine ww_aload_n C dX6_corner_61 rfl 0 rfl ?_
        refine ww_dup C dX6_corner_62 rfl ?_
        refine ww_gi (k := 30) (f := 0) C rfl rfl (by decide) rfl in_X6_corner_X6 (by decide) lk_X6_corner_73 dX6_corner_63 ?_
        refine ww_iconst (v := 1) C dX6_corner_66 rfl ?_
        refine ww_iadd C dX6_corner_67 ?_
        refine ww_pi (k := 30) (f := 0) C rfl rfl (by decide) rfl in_X6_corner_X6 tyX6_ok nmX6 (by decide) lk_X6_corner_73 rfl rfl dX6_corner_68 ?_
        refine ww_aload_n C dX6_corner_71 rfl 0 rfl ?_
        refine ww_gi (k := 30) (f := 0) C rfl rfl (by decide) rfl in_X6_corner_X6 (by decide) lk_X6_corner_73 dX6_corner_72 ?_
        refine ww_iret C dX6_corner_75 ?_
        have e9 : (sgu (sgu σ 31 0 n x) 32 0 n y) 30 0 0 = nI n := by simp [sgu, hs]
        exact ⟨by rw [sgu_self, e9, nI_1], by rw [e9, nI_1]⟩
      · have g35 : n = 14 := (cv_eq (a := n) (b := 14) hs (by decide) (by omega) (by omega)).mp h35
        exact absurd g35 (by omega)
    · exact absurd hw.2 (of_decide_eq_false (bI_0.mp h23))
