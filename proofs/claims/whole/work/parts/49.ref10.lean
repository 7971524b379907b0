theorem in_X6_sumBy_X6 : ∀ w ∈ wsX60, w ∈ wsX6_sumBy := by decide +kernel
theorem lk_X6_sumBy_41 : Cond.fieldLink RX6 41 "PolyCutsModel" "joins" "[I" ∈ wsX6_sumBy := by decide +kernel
theorem lk_X6_sumBy_38 : Cond.fieldLink RX6 38 "PolyCutsModel" "sums" "[I" ∈ wsX6_sumBy := by decide +kernel
theorem in_X6_partChain_X6 : ∀ w ∈ wsX60, w ∈ wsX6_partChain := by decide +kernel
theorem lk_X6_partChain_35 : Cond.fieldLink RX6 35 "PolyCutsModel" "ways" "[I" ∈ wsX6_partChain := by decide +kernel
theorem lk_X6_partChain_38 : Cond.fieldLink RX6 38 "PolyCutsModel" "sums" "[I" ∈ wsX6_partChain := by decide +kernel
theorem in_X6_part_X6 : ∀ w ∈ wsX60, w ∈ wsX6_part := by decide +kernel
theorem lk_X6_part_41 : Cond.fieldLink RX6 41 "PolyCutsModel" "joins" "[I" ∈ wsX6_part := by decide +kernel
theorem lk_X6_part_35 : Cond.fieldLink RX6 35 "PolyCutsModel" "ways" "[I" ∈ wsX6_part := by decide +kernel
theorem lk_X6_part_38 : Cond.fieldLink RX6 38 "PolyCutsModel" "sums" "[I" ∈ wsX6_part := by decide +kernel
theorem lk_X6_part_16 : Cond.fieldLink RX6 16 "PolyCutsModel" "corners" "[I" ∈ wsX6_part := by decide +kernel
theorem in_X6_triangulations_X6 : ∀ w ∈ wsX60, w ∈ wsX6_triangulations := by decide +kernel
theorem lk_X6_triangulations_35 : Cond.fieldLink RX6 35 "PolyCutsModel" "ways" "[I" ∈ wsX6_triangulations := by decide +kernel
theorem lk_X6_triangulations_16 : Cond.fieldLink RX6 16 "PolyCutsModel" "corners" "[I" ∈ wsX6_triangulations := by decide +kernel
theorem in_X6_best_X6 : ∀ w ∈ wsX60, w ∈ wsX6_best := by decide +kernel
theorem lk_X6_best_38 : Cond.fieldLink RX6 38 "PolyCutsModel" "sums" "[I" ∈ wsX6_best := by decide +kernel
theorem lk_X6_best_16 : Cond.fieldLink RX6 16 "PolyCutsModel" "corners" "[I" ∈ wsX6_best := by decide +kernel
/-- a table of 14 rows, flat -/
def tb9 (σ : Sg) (k : Nat) (i j : Nat) : Int32 := σ k 0 (14 * i + j)
def sbF (J S : Nat → Nat → Int32) (i k j : Nat) : Int32 := if J i k = -1 ∨ J k j = -1 ∨ S i k = -1 ∨ S k j = -1 then -1 else S i k + S k j + J i k + J k j
def pcS (J W S : Nat → Nat → Int32) (i j : Nat) : Nat → Int32 × Int32
  | 0 => (0, -1)
  | d + 1 => if sbF J S i (i + 1 + d) j = -1 then pcS J W S i j d else ((pcS J W S i j d).1 + W i (i + 1 + d) * W (i + 1 + d) j, if (pcS J W S i j d).2 = -1 ∨ sbF J S i (i + 1 + d) j < (pcS J W S i j d).2 then sbF J S i (i + 1 + d) j else (pcS J W S i j d).2)
theorem pcS_n {J W S : Nat → Nat → Int32} {i j d k : Nat} (hk : i + 1 + d = k) (h : sbF J S i k j = -1) : pcS J W S i j (d + 1) = pcS J W S i j d := by rw [pcS, hk, if_pos h]
theorem pcS_t {J W S : Nat → Nat → Int32} {i j d k : Nat} (hk : i + 1 + d = k) (h : ¬ sbF J S i k j = -1) (h2 : (pcS J W S i j d).2 = -1 ∨ sbF J S i k j < (pcS J W S i j d).2) : pcS J W S i j (d + 1) = ((pcS J W S i j d).1 + W i k * W k j, sbF J S i k j) := by rw [pcS, hk, if_neg h, if_pos h2]
theorem pcS_f {J W S : Nat → Nat → Int32} {i j d k : Nat} (hk : i + 1 + d = k) (h : ¬ sbF J S i k j = -1) (h2 : ¬ ((pcS J W S i j d).2 = -1 ∨ sbF J S i k j < (pcS J W S i j d).2)) : pcS J W S i j (d + 1) = ((pcS J W S i j d).1 + W i k * W k j, (pcS J W S i j d).2) := by rw [pcS, hk, if_neg h, if_neg h2]
set_option maxHeartbeats 4000000 in
set_option maxRecDepth 100000 in
theorem c_X6_sumBy (l : Launch) (G : Gx) (hA : wa G) (σ : Sg) (i k j : Nat) (hi : i < 14) (hk : k < 14) (hj : j < 14) : CtI l yX6_sumBy wsX6_sumBy (rmd 1) G [.ref (gA G 30 (0)), .int (nI i), .int (nI k), .int (nI j)] σ (fun r σ2 => r = sbF (tb9 σ 39) (tb9 σ 38) i k j ∧ σ2 = σ) := by
  refine ct_i (maxL := 4) (ret := (some .int)) (by decide) rfl (Nat.le_of_ble_eq_true rfl) hA (fun K hl C => ?_)
  subst hl
  change WW K G _ _ σ [(0, .ref (gA G 30 (0))), (1, .int (nI i)), (2, .int (nI k)), (3, .int (nI j))] 0 []
  refine ww_aload_n C dX6_sumBy_0 rfl 0 rfl ?_
  refine ww_gr (j := 0) (k := 30) (f := 12) C rfl rfl (by decide) rfl in_X6_sumBy_X6 (by decide) lk_X6_sumBy_41 dX6_sumBy_1 rfl ?_
  refine ww_bipush (v := 14) C dX6_sumBy_4 (by decide) ?_
  refine ww_iload_n C dX6_sumBy_6 rfl 1 rfl ?_
  refine ww_imul C dX6_sumBy_7 ?_
  rw [show (14) * (nI i) = nI (14 * i) from pk_mul (14) (i)]
  refine ww_iload_n C dX6_sumBy_8 rfl 2 rfl ?_
  refine ww_iadd C dX6_sumBy_9 ?_
  rw [show (nI (14 * i)) + (nI k) = nI (14 * i + k) from nI_add (14 * i) (k)]
  refine ww_iald (k := 39) (j := 14 * i + k) C rfl (by decide) (by decide) dX6_sumBy_10 rfl (by omega) ?_
  refine ww_iconst (v := -1) C dX6_sumBy_11 rfl ?_
  refine ww_icmp_eq 60 C dX6_sumBy_12 (by decide) (fun h12 => ?_) (fun h12 => ?_)
  · refine ww_iconst (v := -1) C dX6_sumBy_60 rfl ?_
    refine ww_iret C dX6_sumBy_61 ?_
    exact ⟨(show sbF (tb9 σ 39) (tb9 σ 38) i k j = -1 from if_pos (Or.inl h12)).symm, rfl⟩
  · refine ww_aload_n C dX6_sumBy_15 rfl 0 rfl ?_
    refine ww_gr (j := 0) (k := 30) (f := 12) C rfl rfl (by decide) rfl in_X6_sumBy_X6 (by decide) lk_X6_sumBy_41 dX6_sumBy_16 rfl ?_
    refine ww_bipush (v := 14) C dX6_sumBy_19 (by decide) ?_
    refine ww_iload_n C dX6_sumBy_21 rfl 2 rfl ?_
    refine ww_imul C dX6_sumBy_22 ?_
    rw [show (14) * (nI k) = nI (14 * k) from pk_mul (14) (k)]
    refine ww_iload_n C dX6_sumBy_23 rfl 3 rfl ?_
    refine ww_iadd C dX6_sumBy_24 ?_
    rw [show (nI (14 * k)) + (nI j) = nI (14 * k + j) from nI_add (14 * k) (j)]
    refine ww_iald (k := 39) (j := 14 * k + j) C rfl (by decide) (by decide) dX6_sumBy_25 rfl (by omega) ?_
    refine ww_iconst (v := -1) C dX6_sumBy_26 rfl ?_
    refine ww_icmp_eq 60 C dX6_sumBy_27 (by decide) (fun h27 => ?_) (fun h27 => ?_)
    · refine ww_iconst (v := -1) C dX6_sumBy_60 rfl ?_
      refine ww_iret C dX6_sumBy_61 ?_
      exact ⟨(show sbF (tb9 σ 39) (tb9 σ 38) i k j = -1 from if_pos (Or.inr (Or.inl h27))).symm, rfl⟩
    · refine ww_aload_n C dX6_sumBy_30 rfl 0 rfl ?_
      refine ww_gr (j := 0) (k := 30) (f := 11) C rfl rfl (by decide) rfl in_X6_sumBy_X6 (by decide) lk_X6_sumBy_38 dX6_sumBy_31 rfl ?_
      refine ww_bipush (v := 14) C dX6_sumBy_34 (by decide) ?_
      refine ww_iload_n C dX6_sumBy_36 rfl 1 rfl ?_
      refine ww_imul C dX6_sumBy_37 ?_
      rw [show (14) * (nI i) = nI (14 * i) from pk_mul (14) (i)]
      refine ww_iload_n C dX6_sumBy_38 rfl 2 rfl ?_
      refine ww_iadd C dX6_sumBy_39 ?_
      rw [show (nI (14 * i)) + (nI k) = nI (14 * i + k) from nI_add (14 * i) (k)]
      refine ww_iald (k := 38) (j := 14 * i + k) C rfl (by decide) (by decide) dX6_sumBy_40 rfl (by omega) ?_
      refine ww_iconst (v := -1) C dX6_sumBy_41 rfl ?_
      refine ww_icmp_eq 60 C dX6_sumBy_42 (by decide) (fun h42 => ?_) (fun h42 => ?_)
      · refine ww_iconst (v := -1) C dX6_sumBy_60 rfl ?_
        refine ww_iret C dX6_sumBy_61 ?_
        exact ⟨(show sbF (tb9 σ 39) (tb9 σ 38) i k j = -1 from if_pos (Or.inr (Or.inr (Or.inl h42)))).symm, rfl⟩
      · refine ww_aload_n C dX6_sumBy_45 rfl 0 rfl ?_
        refine ww_gr (j := 0) (k := 30) (f := 11) C rfl rfl (by decide) rfl in_X6_sumBy_X6 (by decide) lk_X6_sumBy_38 dX6_sumBy_46 rfl ?_
        refine ww_bipush (v := 14) C dX6_sumBy_49 (by decide) ?_
        refine ww_iload_n C dX6_sumBy_51 rfl 2 rfl ?_
        refine ww_imul C dX6_sumBy_52 ?_
        rw [show (14) * (nI k) = nI (14 * k) from pk_mul (14) (k)]
        refine ww_iload_n C dX6_sumBy_53 rfl 3 rfl ?_
        refine ww_iadd C dX6_sumBy_54 ?_
        rw [show (nI (14 * k)) + (nI j) = nI (14 * k + j) from nI_add (14 * k) (j)]
        refine ww_iald (k := 38) (j := 14 * k + j) C rfl (by decide) (by decide) dX6_sumBy_55 rfl (by omega) ?_
        refine ww_iconst (v := -1) C dX6_sumBy_56 rfl ?_
        refine ww_icmp_ne 62 C dX6_sumBy_57 (by decide) (fun h57 => ?_) (fun h57 => ?_)
        · refine ww_aload_n C dX6_sumBy_62 rfl 0 rfl ?_
          refine ww_gr (j := 0) (k := 30) (f := 11) C rfl rfl (by decide) rfl in_X6_sumBy_X6 (by decide) lk_X6_sumBy_38 dX6_sumBy_63 rfl ?_
          refine ww_bipush (v := 14) C dX6_sumBy_66 (by decide) ?_
          refine ww_iload_n C dX6_sumBy_68 rfl 1 rfl ?_
          refine ww_imul C dX6_sumBy_69 ?_
          rw [show (14) * (nI i) = nI (14 * i) from pk_mul (14) (i)]
          refine ww_iload_n C dX6_sumBy_70 rfl 2 rfl ?_
          refine ww_iadd C dX6_sumBy_71 ?_
          rw [show (nI (14 * i)) + (nI k) = nI (14 * i + k) from nI_add (14 * i) (k)]
          refine ww_iald (k := 38) (j := 14 * i + k) C rfl (by decide) (by decide) dX6_sumBy_72 rfl (by omega) ?_
          refine ww_aload_n C dX6_sumBy_73 rfl 0 rfl ?_
          refine ww_gr (j := 0) (k := 30) (f := 11) C rfl rfl (by decide) rfl in_X6_sumBy_X6 (by decide) lk_X6_sumBy_38 dX6_sumBy_74 rfl ?_
          refine ww_bipush (v := 14) C dX6_sumBy_77 (by decide) ?_
          refine ww_iload_n C dX6_sumBy_79 rfl 2 rfl ?_
          refine ww_imul C dX6_sumBy_80 ?_
          rw [show (14) * (nI k) = nI (14 * k) from pk_mul (14) (k)]
          refine ww_iload_n C dX6_sumBy_81 rfl 3 rfl ?_
          refine ww_iadd C dX6_sumBy_82 ?_
          rw [show (nI (14 * k)) + (nI j) = nI (14 * k + j) from nI_add (14 * k) (j)]
          refine ww_iald (k := 38) (j := 14 * k + j) C rfl (by decide) (by decide) dX6_sumBy_83 rfl (by omega) ?_
          refine ww_iadd C dX6_sumBy_84 ?_
          refine ww_aload_n C dX6_sumBy_85 rfl 0 rfl ?_
          refine ww_gr (j := 0) (k := 30) (f := 12) C rfl rfl (by decide) rfl in_X6_sumBy_X6 (by decide) lk_X6_sumBy_41 dX6_sumBy_86 rfl ?_
          refine ww_bipush (v := 14) C dX6_sumBy_89 (by decide) ?_
          refine ww_iload_n C dX6_sumBy_91 rfl 1 rfl ?_
          refine ww_imul C dX6_sumBy_92 ?_
          rw [show (14) * (nI i) = nI (14 * i) from pk_mul (14) (i)]
          refine ww_iload_n C dX6_sumBy_93 rfl 2 rfl ?_
          refine ww_iadd C dX6_sumBy_94 ?_
          rw [show (nI (14 * i)) + (nI k) = nI (14 * i + k) from nI_add (14 * i) (k)]
          refine ww_iald (k := 39) (j := 14 * i + k) C rfl (by decide) (by decide) dX6_sumBy_95 rfl (by omega) ?_
          refine ww_iadd C dX6_sumBy_96 ?_
          refine ww_aload_n C dX6_sumBy_97 rfl 0 rfl ?_
          refine ww_gr (j := 0) (k := 30) (f := 12) C rfl rfl (by decide) rfl in_X6_sumBy_X6 (by decide) lk_X6_sumBy_41 dX6_sumBy_98 rfl ?_
          refine ww_bipush (v := 14) C dX6_sumBy_101 (by decide) ?_
          refine ww_iload_n C dX6_sumBy_103 rfl 2 rfl ?_
          refine ww_imul C dX6_sumBy_104 ?_
          rw [show (14) * (nI k) = nI (14 * k) from pk_mul (14) (k)]
          refine ww_iload_n C dX6_sumBy_105 rfl 3 rfl ?_
          refine ww_iadd C dX6_sumBy_106 ?_
          rw [show (nI (14 * k)) + (nI j) = nI (14 * k + j) from nI_add (14 * k) (j)]
          refine ww_iald (k := 39) (j := 14 * k + j) C rfl (by decide) (by decide) dX6_sumBy_107 rfl (by omega) ?_
          refine ww_iadd C dX6_sumBy_108 ?_
          refine ww_iret C dX6_sumBy_109 ?_
          exact ⟨by rw [sbF, if_neg (fun q => q.elim h12 (fun q => q.elim h27 (fun q => q.elim h42 h57)))]; rfl, rfl⟩
        · refine ww_iconst (v := -1) C dX6_sumBy_60 rfl ?_
          refine ww_iret C dX6_sumBy_61 ?_
          exact ⟨(show sbF (tb9 σ 39) (tb9 σ 38) i k j = -1 from if_pos (Or.inr (Or.inr (Or.inr h57)))).symm, rfl⟩
set_option maxHeartbeats 4000000 in
set_option maxRecDepth 100000 in
theorem lp_X6_partChain {K : Kx} {G : Gx} (hA : wa G) (C : CX K G cX6_partChain 7 RX6 wsX6_partChain (rmd 2) none) (σ : Sg) (i j : Nat) (hij : i + 2 ≤ j) (hj : j < 14) : ∀ (f k : Nat), j - k < f → (i + 1 ≤ k) → (k ≤ j) → WW K G 7 (QV K G (fun σ2 => σ2 = sgu (sgu σ 37 0 (14 * i + j) (pcS (tb9 σ 39) (tb9 σ 37) (tb9 σ 38) i j (j - i - 1)).1) 38 0 (14 * i + j) (pcS (tb9 σ 39) (tb9 σ 37) (tb9 σ 38) i j (j - i - 1)).2)) σ [(5, .int (nI k)), (4, .int ((pcS (tb9 σ 39) (tb9 σ 37) (tb9 σ 38) i j (k - (i + 1))).2)), (3, .int ((pcS (tb9 σ 39) (tb9 σ 37) (tb9 σ 38) i j (k - (i + 1))).1)), (0, .ref (gA G 30 (0))), (1, .int (nI i)), (2, .int (nI j))] 10 [] := by
  intro f
  induction f with
  | zero => intro k  h; exact absurd h (Nat.not_lt_zero _)
  | succ f ih =>
    intro k  hf hk hkj
    refine ww_iload C dX6_partChain_10 0 rfl ?_
    refine ww_iload_n C dX6_partChain_12 rfl 5 rfl ?_
    refine ww_icmp_ge 88 C dX6_partChain_13 (by decide) (fun h13 => ?_) (fun h13 => ?_)
    · have g13 : j ≤ k := (cv_le (a := j) (b := k) rfl rfl (by omega) (by omega)).mp h13
      refine ww_aload_n C dX6_partChain_88 rfl 3 rfl ?_
      refine ww_gr (j := 0) (k := 30) (f := 10) C rfl rfl (by decide) rfl in_X6_partChain_X6 (by decide) lk_X6_partChain_35 dX6_partChain_89 rfl ?_
      refine ww_bipush (v := 14) C dX6_partChain_92 (by decide) ?_
      refine ww_iload_n C dX6_partChain_94 rfl 4 rfl ?_
      refine ww_imul C dX6_partChain_95 ?_
      rw [show (14) * (nI i) = nI (14 * i) from pk_mul (14) (i)]
      refine ww_iload_n C dX6_partChain_96 rfl 5 rfl ?_
      refine ww_iadd C dX6_partChain_97 ?_
      rw [show (nI (14 * i)) + (nI j) = nI (14 * i + j) from nI_add (14 * i) (j)]
      refine ww_iload_n C dX6_partChain_98 rfl 2 rfl ?_
      refine ww_iast (k := 37) (j := 14 * i + j) C rfl (by decide) (by decide) dX6_partChain_99 rfl (by omega) ?_
      refine ww_aload_n C dX6_partChain_100 rfl 3 rfl ?_
      refine ww_gr (j := 0) (k := 30) (f := 11) C rfl rfl (by decide) rfl in_X6_partChain_X6 (by decide) lk_X6_partChain_38 dX6_partChain_101 rfl ?_
      refine ww_bipush (v := 14) C dX6_partChain_104 (by decide) ?_
      refine ww_iload_n C dX6_partChain_106 rfl 4 rfl ?_
      refine ww_imul C dX6_partChain_107 ?_
      rw [show (14) * (nI i) = nI (14 * i) from pk_mul (14) (i)]
      refine ww_iload_n C dX6_partChain_108 rfl 5 rfl ?_
      refine ww_iadd C dX6_partChain_109 ?_
      rw [show (nI (14 * i)) + (nI j) = nI (14 * i + j) from nI_add (14 * i) (j)]
      refine ww_iload C dX6_partChain_110 1 rfl ?_
      refine ww_iast (k := 38) (j := 14 * i + j) C rfl (by decide) (by decide) dX6_partChain_112 rfl (by omega) ?_
      refine ww_vret C dX6_partChain_113 ?_
      rw [show k = j by omega, show j - (i + 1) = j - i - 1 by omega]
    · have g13 : ¬ j ≤ k := fun q => h13 ((cv_le (a := j) (b := k) rfl rfl (by omega) (by omega)).mpr q)
      refine ww_aload_n C dX6_partChain_16 rfl 3 rfl ?_
      refine ww_iload_n C dX6_partChain_17 rfl 4 rfl ?_
      refine ww_iload C dX6_partChain_18 0 rfl ?_
      refine ww_iload_n C dX6_partChain_20 rfl 5 rfl ?_
      refine ww_calliF (cx_V (n := 3) (As := [.int (nI i), .int (nI k), .int (nI j)]) C  (c_X6_sumBy (kL K) G hA _ i k j (by omega) (by omega) (by omega)) gX6_partChain_X6_sumBy rfl ⟨rfl, rfl⟩ (by decide +kernel) (by decide) rfl (by decide) rfl rfl rfl (Nat.le_of_ble_eq_true rfl) dX6_partChain_21) ?_
      refine ww_istore (fun y1 => [(6, .int (y1)), (5, .int (nI k)), (4, .int ((pcS (tb9 σ 39) (tb9 σ 37) (tb9 σ 38) i j (k - (i + 1))).2)), (3, .int ((pcS (tb9 σ 39) (tb9 σ 37) (tb9 σ 38) i j (k - (i + 1))).1)), (0, .ref (gA G 30 (0))), (1, .int (nI i)), (2, .int (nI j))]) C dX6_partChain_24 (by decide) (fun _ => rfl) (fun y1 ey1 => ?_)
      rw [ey1]; clear ey1 y1
      refine ww_iload C dX6_partChain_26 0 rfl ?_
      refine ww_iconst (v := -1) C dX6_partChain_28 rfl ?_
      refine ww_icmp_eq 82 C dX6_partChain_29 (by decide) (fun h29 => ?_) (fun h29 => ?_)
      · refine ww_iinc (q := 1) (fun y2 => [(5, .int (y2)), (6, .int (sbF (tb9 σ 39) (tb9 σ 38) i k j)), (4, .int ((pcS (tb9 σ 39) (tb9 σ 37) (tb9 σ 38) i j (k - (i + 1))).2)), (3, .int ((pcS (tb9 σ 39) (tb9 σ 37) (tb9 σ 38) i j (k - (i + 1))).1)), (0, .ref (gA G 30 (0))), (1, .int (nI i)), (2, .int (nI j))]) C dX6_partChain_82 rfl (by decide) (fun _ => rfl) (fun y2 ey2 => ?_)
        obtain rfl : y2 = nI (k + 1) := ninc rfl ey2
        refine ww_goto 10 C dX6_partChain_85 (by decide) ?_
        have hk1 : i + 1 + (k - (i + 1)) = k := by omega
        have hk2 : k + 1 - (i + 1) = (k - (i + 1)) + 1 := by omega
        have hq : (pcS (tb9 σ 39) (tb9 σ 37) (tb9 σ 38) i j (k + 1 - (i + 1))) = (pcS (tb9 σ 39) (tb9 σ 37) (tb9 σ 38) i j (k - (i + 1))) := by rw [hk2]; exact pcS_n hk1 h29
        have hx := ih (k + 1) (by omega) (by omega) (by omega)
        rw [hq] at hx
        exact ww_sub [0, 2, 3, 4, 5, 6] rfl hx
      · refine ww_iload_n C dX6_partChain_32 rfl 3 rfl ?_
        refine ww_aload_n C dX6_partChain_33 rfl 4 rfl ?_
        refine ww_gr (j := 0) (k := 30) (f := 10) C rfl rfl (by decide) rfl in_X6_partChain_X6 (by decide) lk_X6_partChain_35 dX6_partChain_34 rfl ?_
        refine ww_bipush (v := 14) C dX6_partChain_37 (by decide) ?_
        refine ww_iload_n C dX6_partChain_39 rfl 5 rfl ?_
        refine ww_imul C dX6_partChain_40 ?_
        rw [show (14) * (nI i) = nI (14 * i) from pk_mul (14) (i)]
        refine ww_iload C dX6_partChain_41 1 rfl ?_
        refine ww_iadd C dX6_partChain_43 ?_
        rw [show (nI (14 * i)) + (nI k) = nI (14 * i + k) from nI_add (14 * i) (k)]
        refine ww_iald (k := 37) (j := 14 * i + k) C rfl (by decide) (by decide) dX6_partChain_44 rfl (by omega) ?_
        refine ww_aload_n C dX6_partChain_45 rfl 4 rfl ?_
        refine ww_gr (j := 0) (k := 30) (f := 10) C rfl rfl (by decide) rfl in_X6_partChain_X6 (by decide) lk_X6_partChain_35 dX6_partChain_46 rfl ?_
        refine ww_bipush (v := 14) C dX6_partChain_49 (by decide) ?_
        refine ww_iload C dX6_partChain_51 1 rfl ?_
        refine ww_imul C dX6_partChain_53 ?_
        rw [show (14) * (nI k) = nI (14 * k) from pk_mul (14) (k)]
        refine ww_iload_n C dX6_partChain_54 rfl 6 rfl ?_
        refine ww_iadd C dX6_partChain_55 ?_
        rw [show (nI (14 * k)) + (nI j) = nI (14 * k + j) from nI_add (14 * k) (j)]
        refine ww_iald (k := 37) (j := 14 * k + j) C rfl (by decide) (by decide) dX6_partChain_56 rfl (by omega) ?_
        refine ww_imul C dX6_partChain_57 ?_
        refine ww_iadd C dX6_partChain_58 ?_
        refine ww_istore_n (fun y3 => [(3, .int (y3)), (6, .int (sbF (tb9 σ 39) (tb9 σ 38) i k j)), (5, .int (nI k)), (4, .int ((pcS (tb9 σ 39) (tb9 σ 37) (tb9 σ 38) i j (k - (i + 1))).2)), (0, .ref (gA G 30 (0))), (1, .int (nI i)), (2, .int (nI j))]) C dX6_partChain_59 rfl (by decide) (fun _ => rfl) (fun y3 ey3 => ?_)
        rw [ey3]; clear ey3 y3
        refine ww_iload C dX6_partChain_60 3 rfl ?_
        refine ww_iconst (v := -1) C dX6_partChain_62 rfl ?_
        refine ww_icmp_eq 73 C dX6_partChain_63 (by decide) (fun h63 => ?_) (fun h63 => ?_)
        · refine ww_iload C dX6_partChain_73 1 rfl ?_
          refine ww_goto 80 C dX6_partChain_75 (by decide) ?_
          refine ww_istore (fun y4 => [(4, .int (y4)), (3, .int (((pcS (tb9 σ 39) (tb9 σ 37) (tb9 σ 38) i j (k - (i + 1))).1) + ((σ 37 (0) (14 * i + k)) * (σ 37 (0) (14 * k + j))))), (6, .int (sbF (tb9 σ 39) (tb9 σ 38) i k j)), (5, .int (nI k)), (0, .ref (gA G 30 (0))), (1, .int (nI i)), (2, .int (nI j))]) C dX6_partChain_80 (by decide) (fun _ => rfl) (fun y4 ey4 => ?_)
          rw [ey4]; clear ey4 y4
          refine ww_iinc (q := 3) (fun y5 => [(5, .int (y5)), (4, .int (sbF (tb9 σ 39) (tb9 σ 38) i k j)), (3, .int (((pcS (tb9 σ 39) (tb9 σ 37) (tb9 σ 38) i j (k - (i + 1))).1) + ((σ 37 (0) (14 * i + k)) * (σ 37 (0) (14 * k + j))))), (6, .int (sbF (tb9 σ 39) (tb9 σ 38) i k j)), (0, .ref (gA G 30 (0))), (1, .int (nI i)), (2, .int (nI j))]) C dX6_partChain_82 rfl (by decide) (fun _ => rfl) (fun y5 ey5 => ?_)
          obtain rfl : y5 = nI (k + 1) := ninc rfl ey5
          refine ww_goto 10 C dX6_partChain_85 (by decide) ?_
          have hk1 : i + 1 + (k - (i + 1)) = k := by omega
          have hk2 : k + 1 - (i + 1) = (k - (i + 1)) + 1 := by omega
          have hq : (pcS (tb9 σ 39) (tb9 σ 37) (tb9 σ 38) i j (k + 1 - (i + 1))) = ((pcS (tb9 σ 39) (tb9 σ 37) (tb9 σ 38) i j (k - (i + 1))).1 + (tb9 σ 37) i k * (tb9 σ 37) k j, sbF (tb9 σ 39) (tb9 σ 38) i k j) := by rw [hk2]; exact pcS_t hk1 h29 (Or.inl h63)
          have hx := ih (k + 1) (by omega) (by omega) (by omega)
          rw [hq] at hx
          exact ww_sub [0, 1, 2, 4, 5, 6] rfl hx
        · refine ww_iload C dX6_partChain_66 1 rfl ?_
          refine ww_iload C dX6_partChain_68 3 rfl ?_
          refine ww_icmp_ge 78 C dX6_partChain_70 (by decide) (fun h70 => ?_) (fun h70 => ?_)
          · refine ww_iload C dX6_partChain_78 3 rfl ?_
            refine ww_istore (fun y6 => [(4, .int (y6)), (3, .int (((pcS (tb9 σ 39) (tb9 σ 37) (tb9 σ 38) i j (k - (i + 1))).1) + ((σ 37 (0) (14 * i + k)) * (σ 37 (0) (14 * k + j))))), (6, .int (sbF (tb9 σ 39) (tb9 σ 38) i k j)), (5, .int (nI k)), (0, .ref (gA G 30 (0))), (1, .int (nI i)), (2, .int (nI j))]) C dX6_partChain_80 (by decide) (fun _ => rfl) (fun y6 ey6 => ?_)
            rw [ey6]; clear ey6 y6
            refine ww_iinc (q := 3) (fun y7 => [(5, .int (y7)), (4, .int ((pcS (tb9 σ 39) (tb9 σ 37) (tb9 σ 38) i j (k - (i + 1))).2)), (3, .int (((pcS (tb9 σ 39) (tb9 σ 37) (tb9 σ 38) i j (k - (i + 1))).1) + ((σ 37 (0) (14 * i + k)) * (σ 37 (0) (14 * k + j))))), (6, .int (sbF (tb9 σ 39) (tb9 σ 38) i k j)), (0, .ref (gA G 30 (0))), (1, .int (nI i)), (2, .int (nI j))]) C dX6_partChain_82 rfl (by decide) (fun _ => rfl) (fun y7 ey7 => ?_)
            obtain rfl : y7 = nI (k + 1) := ninc rfl ey7
            refine ww_goto 10 C dX6_partChain_85 (by decide) ?_
            have hk1 : i + 1 + (k - (i + 1)) = k := by omega
            have hk2 : k + 1 - (i + 1) = (k - (i + 1)) + 1 := by omega
            have hq : (pcS (tb9 σ 39) (tb9 σ 37) (tb9 σ 38) i j (k + 1 - (i + 1))) = ((pcS (tb9 σ 39) (tb9 σ 37) (tb9 σ 38) i j (k - (i + 1))).1 + (tb9 σ 37) i k * (tb9 σ 37) k j, (pcS (tb9 σ 39) (tb9 σ 37) (tb9 σ 38) i j (k - (i + 1))).2) := by rw [hk2]; exact pcS_f hk1 h29 (fun q => q.elim h63 (fun q => absurd q (Int32.not_lt.mpr h70)))
            have hx := ih (k + 1) (by omega) (by omega) (by omega)
            rw [hq] at hx
            exact ww_sub [0, 1, 2, 4, 5, 6] rfl hx
          · refine ww_iload C dX6_partChain_73 1 rfl ?_
            refine ww_goto 80 C dX6_partChain_75 (by decide) ?_
            refine ww_istore (fun y8 => [(4, .int (y8)), (3, .int (((pcS (tb9 σ 39) (tb9 σ 37) (tb9 σ 38) i j (k - (i + 1))).1) + ((σ 37 (0) (14 * i + k)) * (σ 37 (0) (14 * k + j))))), (6, .int (sbF (tb9 σ 39) (tb9 σ 38) i k j)), (5, .int (nI k)), (0, .ref (gA G 30 (0))), (1, .int (nI i)), (2, .int (nI j))]) C dX6_partChain_80 (by decide) (fun _ => rfl) (fun y8 ey8 => ?_)
            rw [ey8]; clear ey8 y8
            refine ww_iinc (q := 3) (fun y9 => [(5, .int (y9)), (4, .int (sbF (tb9 σ 39) (tb9 σ 38) i k j)), (3, .int (((pcS (tb9 σ 39) (tb9 σ 37) (tb9 σ 38) i j (k - (i + 1))).1) + ((σ 37 (0) (14 * i + k)) * (σ 37 (0) (14 * k + j))))), (6, .int (sbF (tb9 σ 39) (tb9 σ 38) i k j)), (0, .ref (gA G 30 (0))), (1, .int (nI i)), (2, .int (nI j))]) C dX6_partChain_82 rfl (by decide) (fun _ => rfl) (fun y9 ey9 => ?_)
            obtain rfl : y9 = nI (k + 1) := ninc rfl ey9
            refine ww_goto 10 C dX6_partChain_85 (by decide) ?_
            have hk1 : i + 1 + (k - (i + 1)) = k := by omega
            have hk2 : k + 1 - (i + 1) = (k - (i + 1)) + 1 := by omega
            have hq : (pcS (tb9 σ 39) (tb9 σ 37) (tb9 σ 38) i j (k + 1 - (i + 1))) = ((pcS (tb9 σ 39) (tb9 σ 37) (tb9 σ 38) i j (k - (i + 1))).1 + (tb9 σ 37) i k * (tb9 σ 37) k j, sbF (tb9 σ 39) (tb9 σ 38) i k j) := by rw [hk2]; exact pcS_t hk1 h29 (Or.inr (Int32.not_le.mp h70))
            have hx := ih (k + 1) (by omega) (by omega) (by omega)
            rw [hq] at hx
            exact ww_sub [0, 1, 2, 4, 5, 6] rfl hx
set_option maxHeartbeats 4000000 in
set_option maxRecDepth 100000 in
theorem c_X6_partChain (l : Launch) (G : Gx) (hA : wa G) (σ : Sg) (i j : Nat) (hij : i + 2 ≤ j) (hj : j < 14) : CtV l yX6_partChain wsX6_partChain (rmd 2) G [.ref (gA G 30 (0)), .int (nI i), .int (nI j)] σ (fun σ2 => σ2 = sgu (sgu σ 37 0 (14 * i + j) (pcS (tb9 σ 39) (tb9 σ 37) (tb9 σ 38) i j (j - i - 1)).1) 38 0 (14 * i + j) (pcS (tb9 σ 39) (tb9 σ 37) (tb9 σ 38) i j (j - i - 1)).2) := by
  refine ct_v (maxL := 7) (ret := none) (by decide) rfl (Nat.le_of_ble_eq_true rfl) hA (fun K hl C => ?_)
  subst hl
  change WW K G _ _ σ [(0, .ref (gA G 30 (0))), (1, .int (nI i)), (2, .int (nI j))] 0 []
  refine ww_iconst (v := 0) C dX6_partChain_0 rfl ?_
  refine ww_istore_n (fun y1 => [(3, .int (y1)), (0, .ref (gA G 30 (0))), (1, .int (nI i)), (2, .int (nI j))]) C dX6_partChain_1 rfl (by decide) (fun _ => rfl) (fun y1 ey1 => ?_)
  rw [ey1]; clear ey1 y1
  refine ww_iconst (v := -1) C dX6_partChain_2 rfl ?_
  refine ww_istore (fun y2 => [(4, .int (y2)), (3, .int (0)), (0, .ref (gA G 30 (0))), (1, .int (nI i)), (2, .int (nI j))]) C dX6_partChain_3 (by decide) (fun _ => rfl) (fun y2 ey2 => ?_)
  rw [ey2]; clear ey2 y2
  refine ww_iload_n C dX6_partChain_5 rfl 3 rfl ?_
  refine ww_iconst (v := 1) C dX6_partChain_6 rfl ?_
  refine ww_iadd C dX6_partChain_7 ?_
  rw [show (nI i) + (1) = nI (i + 1) from nI_add (i) (1)]
  refine ww_istore (fun y3 => [(5, .int (y3)), (4, .int (-1)), (3, .int (0)), (0, .ref (gA G 30 (0))), (1, .int (nI i)), (2, .int (nI j))]) C dX6_partChain_8 (by decide) (fun _ => rfl) (fun y3 ey3 => ?_)
  obtain rfl : y3 = nI (i + 1) := ey3
  have hx := lp_X6_partChain hA C σ i j hij hj (j + 1) (i + 1) (by omega) (by omega) (by omega)
  rw [Nat.sub_self] at hx
  exact ww_sub [0, 1, 2, 3, 4, 5] rfl hx
def jnF (s q : Int32) : Int32 := if s = 2 then 0 else if s = 1 then q else -1
def PTk (σ τ : Sg) : Prop := ∀ k, k ≠ 37 ∧ k ≠ 38 ∧ k ≠ 39 → τ k = σ k
def PT1 (σ τ : Sg) (n : Nat) (A : Nat → Nat → Int32) (i0 j0 : Nat) : Prop := PTk σ τ ∧ ∀ i j, i < j → j < n → (i < i0 ∨ (i = i0 ∧ j < j0)) → tb9 τ 39 i j = A i j ∧ tb9 τ 37 i j = bI (decide (nI j = nI (i + 1))) ∧ tb9 τ 38 i j = if j = i + 1 then 0 else -1
theorem tb_s {σ : Sg} {k a i j : Nat} {v : Int32} : tb9 (sgu σ k 0 (14 * i + j) v) k i j = v := sgu_self
theorem tb_o {σ : Sg} {k k' i j i0 j0 : Nat} {v : Int32} (hj : j < 14) (hj0 : j0 < 14) (h : ¬ (i = i0 ∧ j = j0)) : tb9 (sgu σ k 0 (14 * i0 + j0) v) k' i j = tb9 σ k' i j := sgu_f (by omega)
theorem tb_k {σ : Sg} {k k' i j a b : Nat} {v : Int32} (h : k' ≠ k) : tb9 (sgu σ k a b v) k' i j = tb9 σ k' i j := sgu_k h
theorem pt1_s {σ τ τ1 τ2 τ3 : Sg} {n : Nat} {A : Nat → Nat → Int32} {i j : Nat} {a b c : Int32} (hn : n ≤ 14) (hj : j < n) (h : PT1 σ τ n A i j) (e1 : τ1 = sgu τ 39 0 (14 * i + j) a) (e2 : τ2 = sgu τ1 37 0 (14 * i + j) b) (e3 : τ3 = sgu τ2 38 0 (14 * i + j) c) (ha : a = A i j) (hb : b = bI (decide (nI j = nI (i + 1)))) (hc : c = if j = i + 1 then 0 else -1) : PT1 σ τ3 n A i (j + 1) := by
  refine ⟨fun k hk => by rw [e3, sgu_kk hk.2.1, e2, sgu_kk hk.1, e1, sgu_kk hk.2.2, h.1 k hk], fun i' j' h1 h2 h3 => ?_⟩
  by_cases q : i' = i ∧ j' = j
  · obtain ⟨rfl, rfl⟩ := q
    refine ⟨?_, ?_, ?_⟩
    · rw [e3, tb_k (by decide), e2, tb_k (by decide), e1]; exact (sgu_self).trans ha
    · rw [e3, tb_k (by decide), e2]; exact (sgu_self).trans hb
    · rw [e3]; exact (sgu_self).trans hc
  · have h4 := h.2 i' j' h1 h2 (by omega)
    refine ⟨?_, ?_, ?_⟩
    · rw [e3, tb_o (by omega) (by omega) q, e2, tb_o (by omega) (by omega) q, e1, tb_o (by omega) (by omega) q]; exact h4.1
    · rw [e3, tb_o (by omega) (by omega) q, e2, tb_o (by omega) (by omega) q, e1, tb_o (by omega) (by omega) q]; exact h4.2.1
    · rw [e3, tb_o (by omega) (by omega) q, e2, tb_o (by omega) (by omega) q, e1, tb_o (by omega) (by omega) q]; exact h4.2.2
def PT2 (σ τ : Sg) (n : Nat) (A : Nat → Nat → Int32) (wd i0 : Nat) : Prop := PTk σ τ ∧ (∀ i j, i < j → j < n → tb9 τ 39 i j = A i j) ∧ (∀ i, i + 1 < n → tb9 τ 37 i (i + 1) = 1 ∧ tb9 τ 38 i (i + 1) = 0) ∧ ∀ i j, i + 2 ≤ j → j < n → (j - i < wd ∨ (j - i = wd ∧ i < i0)) → (tb9 τ 37 i j, tb9 τ 38 i j) = pcS (tb9 τ 39) (tb9 τ 37) (tb9 τ 38) i j (j - i - 1)
theorem pcS_c {J W S J' W' S' : Nat → Nat → Int32} {i j : Nat} : ∀ d, (∀ k, i < k → k < i + 1 + d → (J i k = J' i k ∧ J k j = J' k j) ∧ (W i k = W' i k ∧ W k j = W' k j) ∧ S i k = S' i k ∧ S k j = S' k j) → pcS J W S i j d = pcS J' W' S' i j d
  | 0, _ => rfl
  | d + 1, h => by
    have h1 := pcS_c d (fun k h2 h3 => h k h2 (by omega))
    obtain ⟨⟨e1, e2⟩, ⟨e3, e4⟩, e5, e6⟩ := h (i + 1 + d) (by omega) (by omega)
    have e7 : sbF J S i (i + 1 + d) j = sbF J' S' i (i + 1 + d) j := by simp only [sbF, e1, e2, e5, e6]
    simp only [pcS, h1, e7, e3, e4]
theorem pt2_s {σ τ τ' : Sg} {n : Nat} {A : Nat → Nat → Int32} {wd i0 : Nat} {a b : Int32} (hn : n ≤ 14) (h2 : 2 ≤ wd) (hi : i0 + wd < n) (h : PT2 σ τ n A wd i0) (hab : (a, b) = pcS (tb9 τ 39) (tb9 τ 37) (tb9 τ 38) i0 (i0 + wd) (i0 + wd - i0 - 1)) (e : τ' = sgu (sgu τ 37 0 (14 * i0 + (i0 + wd)) a) 38 0 (14 * i0 + (i0 + wd)) b) : PT2 σ τ' n A wd (i0 + 1) := by
  obtain ⟨h3, h4, h5, h6⟩ := h
  have ho : ∀ k i j, j < 14 → ¬ (i = i0 ∧ j = i0 + wd) → tb9 τ' k i j = tb9 τ k i j := fun k i j hj q => by
    rw [e, tb_o hj (by omega) q, tb_o hj (by omega) q]
  have key : ∀ i j, i + 2 ≤ j → j < n → j - i ≤ wd → pcS (tb9 τ' 39) (tb9 τ' 37) (tb9 τ' 38) i j (j - i - 1) = pcS (tb9 τ 39) (tb9 τ 37) (tb9 τ 38) i j (j - i - 1) := fun i j h1 hj hw => pcS_c _ (fun k hk1 hk2 => by
    have q1 : ¬ (i = i0 ∧ k = i0 + wd) := by omega
    have q2 : ¬ (k = i0 ∧ j = i0 + wd) := by omega
    exact ⟨⟨ho 39 i k (by omega) q1, ho 39 k j (by omega) q2⟩, ⟨ho 37 i k (by omega) q1, ho 37 k j (by omega) q2⟩, ho 38 i k (by omega) q1, ho 38 k j (by omega) q2⟩)
  refine ⟨fun k hk => by rw [e, sgu_kk hk.2.1, sgu_kk hk.1, h3 k hk], fun i j h1 hj => ?_, fun i hi1 => ?_, fun i j h1 hj hc => ?_⟩
  · rw [e, tb_k (by decide), tb_k (by decide)]; exact h4 i j h1 hj
  · rw [ho 37 i (i + 1) (by omega) (by omega), ho 38 i (i + 1) (by omega) (by omega)]; exact h5 i hi1
  · rw [key i j h1 hj (by omega)]
    by_cases q : i = i0 ∧ j = i0 + wd
    · obtain ⟨rfl, rfl⟩ := q
      rw [← hab, e]
      congr 1
      · rw [tb_k (by decide)]; exact sgu_self
      · exact sgu_self
    · rw [ho 37 i j (by omega) q, ho 38 i j (by omega) q]
      exact h6 i j h1 hj (by omega)
theorem pt2_n {σ τ : Sg} {n : Nat} {A : Nat → Nat → Int32} {wd i0 : Nat} (hi : n ≤ i0 + wd) (h : PT2 σ τ n A wd i0) : PT2 σ τ n A (wd + 1) 0 := ⟨h.1, h.2.1, h.2.2.1, fun i j h1 h2 h3 => h.2.2.2 i j h1 h2 (by omega)⟩
theorem pt1_2 {σ τ : Sg} {n : Nat} {A : Nat → Nat → Int32} {i0 j0 : Nat} (hi : n ≤ i0) (h : PT1 σ τ n A i0 j0) : PT2 σ τ n A 2 0 := ⟨h.1, fun i j h1 h2 => (h.2 i j h1 h2 (by omega)).1, fun i h1 => by
  have h2 := h.2 i (i + 1) (by omega) h1 (by omega)
  rw [decide_eq_true rfl, if_pos rfl] at h2
  exact ⟨h2.2.1, h2.2.2⟩, fun i j h1 h2 h3 => by omega⟩
/-- all chains are parted -/
def PTA (σ τ : Sg) (n : Nat) (A : Nat → Nat → Int32) : Prop := PTk σ τ ∧ (∀ i j, i < j → j < n → tb9 τ 39 i j = A i j) ∧ (∀ i, i + 1 < n → tb9 τ 37 i (i + 1) = 1 ∧ tb9 τ 38 i (i + 1) = 0) ∧ ∀ i j, i + 2 ≤ j → j < n → (tb9 τ 37 i j, tb9 τ 38 i j) = pcS (tb9 τ 39) (tb9 τ 37) (tb9 τ 38) i j (j - i - 1)
def jnA (n : Nat) (x y : Nat → Int32) (i j : Nat) : Int32 := jnF (sightR n x y i j) (sq9 x y i j)
theorem jn_2 {s q : Int32} (h : s = 2) : (0 : Int32) = jnF s q := by rw [jnF, if_pos h]
theorem jn_1 {s q : Int32} (h2 : ¬ s = 2) (h : s = 1) : q = jnF s q := by rw [jnF, if_neg h2, if_pos h]
theorem jn_0 {s q : Int32} (h2 : ¬ s = 2) (h : ¬ s = 1) : (-1 : Int32) = jnF s q := by rw [jnF, if_neg h2, if_neg h]
set_option maxHeartbeats 4000000 in
set_option maxRecDepth 100000 in
theorem lp_X6_part_j {K : Kx} {G : Gx} (hA : wa G) (C : CX K G cX6_part 6 RX6 wsX6_part (rmd 6) none) (σ : Sg) (p n : Nat) (hp : p < 8) (hs : σ 33 0 p = nI n) (h3 : 3 ≤ n) (hn : n ≤ 14) (i : Nat) (hi : i < n) (kx : ∀ τ, PT1 σ τ n (jnA n (fun i => σ 34 0 (14 * p + i)) (fun i => σ 35 0 (14 * p + i))) i n → WW K G 6 (QV K G (fun σ2 => PTA σ σ2 n (jnA n (fun i => σ 34 0 (14 * p + i)) (fun i => σ 35 0 (14 * p + i))))) τ [(3, .int (nI i)), (2, .int (nI n)), (0, .ref (gA G 30 (0))), (1, .int (nI p))] 131 []) : ∀ (f j : Nat) (τ : Sg), n - j < f → (j ≤ n) → (PT1 σ τ n (jnA n (fun i => σ 34 0 (14 * p + i)) (fun i => σ 35 0 (14 * p + i))) i j) → WW K G 6 (QV K G (fun σ2 => PTA σ σ2 n (jnA n (fun i => σ 34 0 (14 * p + i)) (fun i => σ 35 0 (14 * p + i))))) τ [(4, .int (nI j)), (3, .int (nI i)), (2, .int (nI n)), (0, .ref (gA G 30 (0))), (1, .int (nI p))] 19 [] := by
  intro f
  induction f with
  | zero => intro j τ h; exact absurd h (Nat.not_lt_zero _)
  | succ f ih =>
    intro j τ hf hj hk
    have hij9 := hi
    have hst : τ 33 0 p = nI n := by rw [hk.1 33 (by decide)]; exact hs
    have e34 : τ 34 = σ 34 := hk.1 34 (by decide)
    have e35 : τ 35 = σ 35 := hk.1 35 (by decide)
    refine ww_iload C dX6_part_19 0 rfl ?_
    refine ww_iload_n C dX6_part_21 rfl 2 rfl ?_
    refine ww_icmp_ge 131 C dX6_part_22 (by decide) (fun h22 => ?_) (fun h22 => ?_)
    · have g22 : n ≤ j := (cv_le (a := n) (b := j) rfl rfl (by omega) (by omega)).mp h22
      exact ww_sub [1, 2, 3, 4] rfl (kx _ ⟨hk.1, fun a b h1 h2 h4 => hk.2 a b h1 h2 (by omega)⟩)
    · have g22 : ¬ n ≤ j := fun q => h22 ((cv_le (a := n) (b := j) rfl rfl (by omega) (by omega)).mpr q)
      refine ww_aload_n C dX6_part_25 rfl 3 rfl ?_
      refine ww_iload_n C dX6_part_26 rfl 4 rfl ?_
      refine ww_iload_n C dX6_part_27 rfl 1 rfl ?_
      refine ww_iload C dX6_part_28 0 rfl ?_
      refine ww_calliF (cx_V (n := 3) (As := [.int (nI p), .int (nI i), .int (nI j)]) C  (c_X6_sight (kL K) G hA _ p n hp hst h3 hn i j (by omega) (by omega)) gX6_part_X6_sight rfl ⟨rfl, rfl⟩ (by decide +kernel) (by decide) rfl (by decide) rfl rfl rfl (Nat.le_of_ble_eq_true rfl) dX6_part_30) ?_
      refine ww_istore (fun y1 => [(5, .int (y1)), (4, .int (nI j)), (3, .int (nI i)), (2, .int (nI n)), (0, .ref (gA G 30 (0))), (1, .int (nI p))]) C dX6_part_33 (by decide) (fun _ => rfl) (fun y1 ey1 => ?_)
      rw [ey1]; clear ey1 y1
      refine ww_aload_n C dX6_part_35 rfl 4 rfl ?_
      refine ww_gr (j := 0) (k := 30) (f := 12) C rfl rfl (by decide) rfl in_X6_part_X6 (by decide) lk_X6_part_41 dX6_part_36 rfl ?_
      refine ww_bipush (v := 14) C dX6_part_39 (by decide) ?_
      refine ww_iload_n C dX6_part_41 rfl 2 rfl ?_
      refine ww_imul C dX6_part_42 ?_
      rw [show (14) * (nI i) = nI (14 * i) from pk_mul (14) (i)]
      refine ww_iload C dX6_part_43 1 rfl ?_
      refine ww_iadd C dX6_part_45 ?_
      rw [show (nI (14 * i)) + (nI j) = nI (14 * i + j) from nI_add (14 * i) (j)]
      refine ww_iload C dX6_part_46 0 rfl ?_
      refine ww_iconst (v := 2) C dX6_part_48 rfl ?_
      refine ww_icmp_ne 56 C dX6_part_49 (by decide) (fun h49 => ?_) (fun h49 => ?_)
      · refine ww_iload C dX6_part_56 0 rfl ?_
        refine ww_iconst (v := 1) C dX6_part_58 rfl ?_
        refine ww_icmp_ne 73 C dX6_part_59 (by decide) (fun h59 => ?_) (fun h59 => ?_)
        · refine ww_iconst (v := -1) C dX6_part_73 rfl ?_
          refine ww_iast (k := 39) (j := 14 * i + j) C rfl (by decide) (by decide) dX6_part_74 rfl (by omega) ?_
          obtain ⟨σ2, hσ2⟩ : ∃ z : Sg, z = (sgu τ 39 (0) (14 * i + j) (-1)) := ⟨_, rfl⟩
          rw [← hσ2]
          refine ww_aload_n C dX6_part_75 rfl 4 rfl ?_
          refine ww_gr (j := 0) (k := 30) (f := 10) C rfl rfl (by decide) rfl in_X6_part_X6 (by decide) lk_X6_part_35 dX6_part_76 rfl ?_
          refine ww_bipush (v := 14) C dX6_part_79 (by decide) ?_
          refine ww_iload_n C dX6_part_81 rfl 2 rfl ?_
          refine ww_imul C dX6_part_82 ?_
          rw [show (14) * (nI i) = nI (14 * i) from pk_mul (14) (i)]
          refine ww_iload C dX6_part_83 1 rfl ?_
          refine ww_iadd C dX6_part_85 ?_
          rw [show (nI (14 * i)) + (nI j) = nI (14 * i + j) from nI_add (14 * i) (j)]
          refine ww_iload C dX6_part_86 1 rfl ?_
          refine ww_iload_n C dX6_part_88 rfl 2 rfl ?_
          refine ww_iconst (v := 1) C dX6_part_89 rfl ?_
          refine ww_iadd C dX6_part_90 ?_
          rw [show (nI i) + (1) = nI (i + 1) from nI_add (i) (1)]
          refine ww_bc_ne C dX6_part_91 dX6_part_94 dX6_part_95 dX6_part_98 ?_
          refine ww_iast (k := 37) (j := 14 * i + j) C rfl (by decide) (by decide) dX6_part_99 rfl (by omega) ?_
          obtain ⟨σ3, hσ3⟩ : ∃ z : Sg, z = (sgu σ2 37 (0) (14 * i + j) (bI (decide ((nI j) = (nI (i + 1)))))) := ⟨_, rfl⟩
          rw [← hσ3]
          refine ww_aload_n C dX6_part_100 rfl 4 rfl ?_
          refine ww_gr (j := 0) (k := 30) (f := 11) C rfl rfl (by decide) rfl in_X6_part_X6 (by decide) lk_X6_part_38 dX6_part_101 rfl ?_
          refine ww_bipush (v := 14) C dX6_part_104 (by decide) ?_
          refine ww_iload_n C dX6_part_106 rfl 2 rfl ?_
          refine ww_imul C dX6_part_107 ?_
          rw [show (14) * (nI i) = nI (14 * i) from pk_mul (14) (i)]
          refine ww_iload C dX6_part_108 1 rfl ?_
          refine ww_iadd C dX6_part_110 ?_
          rw [show (nI (14 * i)) + (nI j) = nI (14 * i + j) from nI_add (14 * i) (j)]
          refine ww_iload C dX6_part_111 1 rfl ?_
          refine ww_iload_n C dX6_part_113 rfl 2 rfl ?_
          refine ww_iconst (v := 1) C dX6_part_114 rfl ?_
          refine ww_iadd C dX6_part_115 ?_
          rw [show (nI i) + (1) = nI (i + 1) from nI_add (i) (1)]
          refine ww_icmp_ne 123 C dX6_part_116 (by decide) (fun h116 => ?_) (fun h116 => ?_)
          · have g116 : ¬ j = i + 1 := fun q => h116 ((cv_eq (a := j) (b := i + 1) rfl rfl (by omega) (by omega)).mpr q)
            refine ww_iconst (v := -1) C dX6_part_123 rfl ?_
            refine ww_iast (k := 38) (j := 14 * i + j) C rfl (by decide) (by decide) dX6_part_124 rfl (by omega) ?_
            obtain ⟨σ4, hσ4⟩ : ∃ z : Sg, z = (sgu σ3 38 (0) (14 * i + j) (-1)) := ⟨_, rfl⟩
            rw [← hσ4]
            refine ww_iinc (q := 1) (fun y5 => [(4, .int (y5)), (5, .int (sightR n (fun i => τ 34 0 (14 * p + i)) (fun i => τ 35 0 (14 * p + i)) i j)), (3, .int (nI i)), (2, .int (nI n)), (0, .ref (gA G 30 (0))), (1, .int (nI p))]) C dX6_part_125 rfl (by decide) (fun _ => rfl) (fun y5 ey5 => ?_)
            obtain rfl : y5 = nI (j + 1) := ninc rfl ey5
            refine ww_goto 19 C dX6_part_128 (by decide) ?_
            exact ww_sub [0, 2, 3, 4, 5] rfl (ih (j + 1) _ (by omega) (by omega) (pt1_s hn (by omega) hk hσ2 hσ3 hσ4 (jn_0 (by rw [e34, e35] at h49; exact h49) (by rw [e34, e35] at h59; exact h59)) rfl (by rw [if_neg g116])))
          · have g116 : j = i + 1 := (cv_eq (a := j) (b := i + 1) rfl rfl (by omega) (by omega)).mp h116
            refine ww_iconst (v := 0) C dX6_part_119 rfl ?_
            refine ww_goto 124 C dX6_part_120 (by decide) ?_
            refine ww_iast (k := 38) (j := 14 * i + j) C rfl (by decide) (by decide) dX6_part_124 rfl (by omega) ?_
            obtain ⟨σ6, hσ6⟩ : ∃ z : Sg, z = (sgu σ3 38 (0) (14 * i + j) (0)) := ⟨_, rfl⟩
            rw [← hσ6]
            refine ww_iinc (q := 1) (fun y7 => [(4, .int (y7)), (5, .int (sightR n (fun i => τ 34 0 (14 * p + i)) (fun i => τ 35 0 (14 * p + i)) i j)), (3, .int (nI i)), (2, .int (nI n)), (0, .ref (gA G 30 (0))), (1, .int (nI p))]) C dX6_part_125 rfl (by decide) (fun _ => rfl) (fun y7 ey7 => ?_)
            obtain rfl : y7 = nI (j + 1) := ninc rfl ey7
            refine ww_goto 19 C dX6_part_128 (by decide) ?_
            exact ww_sub [0, 2, 3, 4, 5] rfl (ih (j + 1) _ (by omega) (by omega) (pt1_s hn (by omega) hk hσ2 hσ3 hσ6 (jn_0 (by rw [e34, e35] at h49; exact h49) (by rw [e34, e35] at h59; exact h59)) rfl (by rw [if_pos g116])))
        · refine ww_aload_n C dX6_part_62 rfl 4 rfl ?_
          refine ww_iload_n C dX6_part_63 rfl 5 rfl ?_
          refine ww_iload_n C dX6_part_64 rfl 2 rfl ?_
          refine ww_iload C dX6_part_65 1 rfl ?_
          refine ww_calliF (cx_V (n := 3) (As := [.int (nI p), .int (nI i), .int (nI j)]) C  (c_X6_square (kL K) G hA τ p n hp hst h3 hn i j (by omega) (by omega)) gX6_part_X6_square rfl ⟨rfl, rfl⟩ (by decide +kernel) (by decide) rfl (by decide) rfl rfl rfl (Nat.le_of_ble_eq_true rfl) dX6_part_67) ?_
          refine ww_goto 74 C dX6_part_70 (by decide) ?_
          refine ww_iast (k := 39) (j := 14 * i + j) C rfl (by decide) (by decide) dX6_part_74 rfl (by omega) ?_
          obtain ⟨σ8, hσ8⟩ : ∃ z : Sg, z = (sgu τ 39 (0) (14 * i + j) (sq9 (fun i => τ 34 0 (14 * p + i)) (fun i => τ 35 0 (14 * p + i)) i j)) := ⟨_, rfl⟩
          rw [← hσ8]
          refine ww_aload_n C dX6_part_75 rfl 4 rfl ?_
          refine ww_gr (j := 0) (k := 30) (f := 10) C rfl rfl (by decide) rfl in_X6_part_X6 (by decide) lk_X6_part_35 dX6_part_76 rfl ?_
          refine ww_bipush (v := 14) C dX6_part_79 (by decide) ?_
          refine ww_iload_n C dX6_part_81 rfl 2 rfl ?_
          refine ww_imul C dX6_part_82 ?_
          rw [show (14) * (nI i) = nI (14 * i) from pk_mul (14) (i)]
          refine ww_iload C dX6_part_83 1 rfl ?_
          refine ww_iadd C dX6_part_85 ?_
          rw [show (nI (14 * i)) + (nI j) = nI (14 * i + j) from nI_add (14 * i) (j)]
          refine ww_iload C dX6_part_86 1 rfl ?_
          refine ww_iload_n C dX6_part_88 rfl 2 rfl ?_
          refine ww_iconst (v := 1) C dX6_part_89 rfl ?_
          refine ww_iadd C dX6_part_90 ?_
          rw [show (nI i) + (1) = nI (i + 1) from nI_add (i) (1)]
          refine ww_bc_ne C dX6_part_91 dX6_part_94 dX6_part_95 dX6_part_98 ?_
          refine ww_iast (k := 37) (j := 14 * i + j) C rfl (by decide) (by decide) dX6_part_99 rfl (by omega) ?_
          obtain ⟨σ9, hσ9⟩ : ∃ z : Sg, z = (sgu σ8 37 (0) (14 * i + j) (bI (decide ((nI j) = (nI (i + 1)))))) := ⟨_, rfl⟩
          rw [← hσ9]
          refine ww_aload_n C dX6_part_100 rfl 4 rfl ?_
          refine ww_gr (j := 0) (k := 30) (f := 11) C rfl rfl (by decide) rfl in_X6_part_X6 (by decide) lk_X6_part_38 dX6_part_101 rfl ?_
          refine ww_bipush (v := 14) C dX6_part_104 (by decide) ?_
          refine ww_iload_n C dX6_part_106 rfl 2 rfl ?_
          refine ww_imul C dX6_part_107 ?_
          rw [show (14) * (nI i) = nI (14 * i) from pk_mul (14) (i)]
          refine ww_iload C dX6_part_108 1 rfl ?_
          refine ww_iadd C dX6_part_110 ?_
          rw [show (nI (14 * i)) + (nI j) = nI (14 * i + j) from nI_add (14 * i) (j)]
          refine ww_iload C dX6_part_111 1 rfl ?_
          refine ww_iload_n C dX6_part_113 rfl 2 rfl ?_
          refine ww_iconst (v := 1) C dX6_part_114 rfl ?_
          refine ww_iadd C dX6_part_115 ?_
          rw [show (nI i) + (1) = nI (i + 1) from nI_add (i) (1)]
          refine ww_icmp_ne 123 C dX6_part_116 (by decide) (fun h116 => ?_) (fun h116 => ?_)
          · have g116 : ¬ j = i + 1 := fun q => h116 ((cv_eq (a := j) (b := i + 1) rfl rfl (by omega) (by omega)).mpr q)
            refine ww_iconst (v := -1) C dX6_part_123 rfl ?_
            refine ww_iast (k := 38) (j := 14 * i + j) C rfl (by decide) (by decide) dX6_part_124 rfl (by omega) ?_
            obtain ⟨σ10, hσ10⟩ : ∃ z : Sg, z = (sgu σ9 38 (0) (14 * i + j) (-1)) := ⟨_, rfl⟩
            rw [← hσ10]
            refine ww_iinc (q := 1) (fun y11 => [(4, .int (y11)), (5, .int (sightR n (fun i => τ 34 0 (14 * p + i)) (fun i => τ 35 0 (14 * p + i)) i j)), (3, .int (nI i)), (2, .int (nI n)), (0, .ref (gA G 30 (0))), (1, .int (nI p))]) C dX6_part_125 rfl (by decide) (fun _ => rfl) (fun y11 ey11 => ?_)
            obtain rfl : y11 = nI (j + 1) := ninc rfl ey11
            refine ww_goto 19 C dX6_part_128 (by decide) ?_
            exact ww_sub [0, 2, 3, 4, 5] rfl (ih (j + 1) _ (by omega) (by omega) (pt1_s hn (by omega) hk hσ8 hσ9 hσ10 (by rw [e34, e35]; exact jn_1 (by rw [e34, e35] at h49; exact h49) (by rw [e34, e35] at h59; exact h59)) rfl (by rw [if_neg g116])))
          · have g116 : j = i + 1 := (cv_eq (a := j) (b := i + 1) rfl rfl (by omega) (by omega)).mp h116
            refine ww_iconst (v := 0) C dX6_part_119 rfl ?_
            refine ww_goto 124 C dX6_part_120 (by decide) ?_
            refine ww_iast (k := 38) (j := 14 * i + j) C rfl (by decide) (by decide) dX6_part_124 rfl (by omega) ?_
            obtain ⟨σ12, hσ12⟩ : ∃ z : Sg, z = (sgu σ9 38 (0) (14 * i + j) (0)) := ⟨_, rfl⟩
            rw [← hσ12]
            refine ww_iinc (q := 1) (fun y13 => [(4, .int (y13)), (5, .int (sightR n (fun i => τ 34 0 (14 * p + i)) (fun i => τ 35 0 (14 * p + i)) i j)), (3, .int (nI i)), (2, .int (nI n)), (0, .ref (gA G 30 (0))), (1, .int (nI p))]) C dX6_part_125 rfl (by decide) (fun _ => rfl) (fun y13 ey13 => ?_)
            obtain rfl : y13 = nI (j + 1) := ninc rfl ey13
            refine ww_goto 19 C dX6_part_128 (by decide) ?_
            exact ww_sub [0, 2, 3, 4, 5] rfl (ih (j + 1) _ (by omega) (by omega) (pt1_s hn (by omega) hk hσ8 hσ9 hσ12 (by rw [e34, e35]; exact jn_1 (by rw [e34, e35] at h49; exact h49) (by rw [e34, e35] at h59; exact h59)) rfl (by rw [if_pos g116])))
      · refine ww_iconst (v := 0) C dX6_part_52 rfl ?_
        refine ww_goto 74 C dX6_part_53 (by decide) ?_
        refine ww_iast (k := 39) (j := 14 * i + j) C rfl (by decide) (by decide) dX6_part_74 rfl (by omega) ?_
        obtain ⟨σ14, hσ14⟩ : ∃ z : Sg, z = (sgu τ 39 (0) (14 * i + j) (0)) := ⟨_, rfl⟩
        rw [← hσ14]
        refine ww_aload_n C dX6_part_75 rfl 4 rfl ?_
        refine ww_gr (j := 0) (k := 30) (f := 10) C rfl rfl (by decide) rfl in_X6_part_X6 (by decide) lk_X6_part_35 dX6_part_76 rfl ?_
        refine ww_bipush (v := 14) C dX6_part_79 (by decide) ?_
        refine ww_iload_n C dX6_part_81 rfl 2 rfl ?_
        refine ww_imul C dX6_part_82 ?_
        rw [show (14) * (nI i) = nI (14 * i) from pk_mul (14) (i)]
        refine ww_iload C dX6_part_83 1 rfl ?_
        refine ww_iadd C dX6_part_85 ?_
        rw [show (nI (14 * i)) + (nI j) = nI (14 * i + j) from nI_add (14 * i) (j)]
        refine ww_iload C dX6_part_86 1 rfl ?_
        refine ww_iload_n C dX6_part_88 rfl 2 rfl ?_
        refine ww_iconst (v := 1) C dX6_part_89 rfl ?_
        refine ww_iadd C dX6_part_90 ?_
        rw [show (nI i) + (1) = nI (i + 1) from nI_add (i) (1)]
        refine ww_bc_ne C dX6_part_91 dX6_part_94 dX6_part_95 dX6_part_98 ?_
        refine ww_iast (k := 37) (j := 14 * i + j) C rfl (by decide) (by decide) dX6_part_99 rfl (by omega) ?_
        obtain ⟨σ15, hσ15⟩ : ∃ z : Sg, z = (sgu σ14 37 (0) (14 * i + j) (bI (decide ((nI j) = (nI (i + 1)))))) := ⟨_, rfl⟩
        rw [← hσ15]
        refine ww_aload_n C dX6_part_100 rfl 4 rfl ?_
        refine ww_gr (j := 0) (k := 30) (f := 11) C rfl rfl (by decide) rfl in_X6_part_X6 (by decide) lk_X6_part_38 dX6_part_101 rfl ?_
        refine ww_bipush (v := 14) C dX6_part_104 (by decide) ?_
        refine ww_iload_n C dX6_part_106 rfl 2 rfl ?_
        refine ww_imul C dX6_part_107 ?_
        rw [show (14) * (nI i) = nI (14 * i) from pk_mul (14) (i)]
        refine ww_iload C dX6_part_108 1 rfl ?_
        refine ww_iadd C dX6_part_110 ?_
        rw [show (nI (14 * i)) + (nI j) = nI (14 * i + j) from nI_add (14 * i) (j)]
        refine ww_iload C dX6_part_111 1 rfl ?_
        refine ww_iload_n C dX6_part_113 rfl 2 rfl ?_
        refine ww_iconst (v := 1) C dX6_part_114 rfl ?_
        refine ww_iadd C dX6_part_115 ?_
        rw [show (nI i) + (1) = nI (i + 1) from nI_add (i) (1)]
        refine ww_icmp_ne 123 C dX6_part_116 (by decide) (fun h116 => ?_) (fun h116 => ?_)
        · have g116 : ¬ j = i + 1 := fun q => h116 ((cv_eq (a := j) (b := i + 1) rfl rfl (by omega) (by omega)).mpr q)
          refine ww_iconst (v := -1) C dX6_part_123 rfl ?_
          refine ww_iast (k := 38) (j := 14 * i + j) C rfl (by decide) (by decide) dX6_part_124 rfl (by omega) ?_
          obtain ⟨σ16, hσ16⟩ : ∃ z : Sg, z = (sgu σ15 38 (0) (14 * i + j) (-1)) := ⟨_, rfl⟩
          rw [← hσ16]
          refine ww_iinc (q := 1) (fun y17 => [(4, .int (y17)), (5, .int (sightR n (fun i => τ 34 0 (14 * p + i)) (fun i => τ 35 0 (14 * p + i)) i j)), (3, .int (nI i)), (2, .int (nI n)), (0, .ref (gA G 30 (0))), (1, .int (nI p))]) C dX6_part_125 rfl (by decide) (fun _ => rfl) (fun y17 ey17 => ?_)
          obtain rfl : y17 = nI (j + 1) := ninc rfl ey17
          refine ww_goto 19 C dX6_part_128 (by decide) ?_
          exact ww_sub [0, 2, 3, 4, 5] rfl (ih (j + 1) _ (by omega) (by omega) (pt1_s hn (by omega) hk hσ14 hσ15 hσ16 (jn_2 (by rw [e34, e35] at h49; exact h49)) rfl (by rw [if_neg g116])))
        · have g116 : j = i + 1 := (cv_eq (a := j) (b := i + 1) rfl rfl (by omega) (by omega)).mp h116
          refine ww_iconst (v := 0) C dX6_part_119 rfl ?_
          refine ww_goto 124 C dX6_part_120 (by decide) ?_
          refine ww_iast (k := 38) (j := 14 * i + j) C rfl (by decide) (by decide) dX6_part_124 rfl (by omega) ?_
          obtain ⟨σ18, hσ18⟩ : ∃ z : Sg, z = (sgu σ15 38 (0) (14 * i + j) (0)) := ⟨_, rfl⟩
          rw [← hσ18]
          refine ww_iinc (q := 1) (fun y19 => [(4, .int (y19)), (5, .int (sightR n (fun i => τ 34 0 (14 * p + i)) (fun i => τ 35 0 (14 * p + i)) i j)), (3, .int (nI i)), (2, .int (nI n)), (0, .ref (gA G 30 (0))), (1, .int (nI p))]) C dX6_part_125 rfl (by decide) (fun _ => rfl) (fun y19 ey19 => ?_)
          obtain rfl : y19 = nI (j + 1) := ninc rfl ey19
          refine ww_goto 19 C dX6_part_128 (by decide) ?_
          exact ww_sub [0, 2, 3, 4, 5] rfl (ih (j + 1) _ (by omega) (by omega) (pt1_s hn (by omega) hk hσ14 hσ15 hσ18 (jn_2 (by rw [e34, e35] at h49; exact h49)) rfl (by rw [if_pos g116])))
set_option maxHeartbeats 4000000 in
set_option maxRecDepth 100000 in
theorem lp_X6_part_c {K : Kx} {G : Gx} (hA : wa G) (C : CX K G cX6_part 6 RX6 wsX6_part (rmd 6) none) (σ : Sg) (p n : Nat) (hp : p < 8) (hs : σ 33 0 p = nI n) (h3 : 3 ≤ n) (hn : n ≤ 14) (wd : Nat) (h2 : 2 ≤ wd) (hw : wd < n) (kx : ∀ τ, PT2 σ τ n (jnA n (fun i => σ 34 0 (14 * p + i)) (fun i => σ 35 0 (14 * p + i))) (wd + 1) 0 → WW K G 6 (QV K G (fun σ2 => PTA σ σ2 n (jnA n (fun i => σ 34 0 (14 * p + i)) (fun i => σ 35 0 (14 * p + i))))) τ [(3, .int (nI wd)), (2, .int (nI n)), (0, .ref (gA G 30 (0))), (1, .int (nI p))] 171 []) : ∀ (f i : Nat) (τ : Sg), n - i < f → (i ≤ n) → (PT2 σ τ n (jnA n (fun i => σ 34 0 (14 * p + i)) (fun i => σ 35 0 (14 * p + i))) wd i) → WW K G 6 (QV K G (fun σ2 => PTA σ σ2 n (jnA n (fun i => σ 34 0 (14 * p + i)) (fun i => σ 35 0 (14 * p + i))))) τ [(4, .int (nI i)), (3, .int (nI wd)), (2, .int (nI n)), (0, .ref (gA G 30 (0))), (1, .int (nI p))] 147 [] := by
  intro f
  induction f with
  | zero => intro i τ h; exact absurd h (Nat.not_lt_zero _)
  | succ f ih =>
    intro i τ hf hi hk
    refine ww_iload C dX6_part_147 0 rfl ?_
    refine ww_iload_n C dX6_part_149 rfl 1 rfl ?_
    refine ww_iadd C dX6_part_150 ?_
    rw [show (nI i) + (nI wd) = nI (i + wd) from nI_add (i) (wd)]
    refine ww_iload_n C dX6_part_151 rfl 2 rfl ?_
    refine ww_icmp_ge 171 C dX6_part_152 (by decide) (fun h152 => ?_) (fun h152 => ?_)
    · have g152 : n ≤ i + wd := (cv_le (a := n) (b := i + wd) rfl rfl (by omega) (by omega)).mp h152
      exact ww_sub [1, 2, 3, 4] rfl (kx _ (pt2_n (by omega) hk))
    · have g152 : ¬ n ≤ i + wd := fun q => h152 ((cv_le (a := n) (b := i + wd) rfl rfl (by omega) (by omega)).mpr q)
      refine ww_aload_n C dX6_part_155 rfl 3 rfl ?_
      refine ww_iload C dX6_part_156 0 rfl ?_
      refine ww_iload C dX6_part_158 0 rfl ?_
      refine ww_iload_n C dX6_part_160 rfl 1 rfl ?_
      refine ww_iadd C dX6_part_161 ?_
      rw [show (nI i) + (nI wd) = nI (i + wd) from nI_add (i) (wd)]
      refine ww_callvF (cx_V (n := 2) (As := [.int (nI i), .int (nI (i + wd))]) C  (c_X6_partChain (kL K) G hA _ i (i + wd) (by omega) (by omega)) gX6_part_X6_partChain rfl ⟨rfl, rfl⟩ (by decide +kernel) (by decide) rfl (by decide) rfl rfl rfl (Nat.le_of_ble_eq_true rfl) dX6_part_162) ?_
      obtain ⟨σ1, hσ1⟩ : ∃ z : Sg, z = (sgu (sgu τ 37 0 (14 * i + (i + wd)) (pcS (tb9 τ 39) (tb9 τ 37) (tb9 τ 38) i (i + wd) ((i + wd) - i - 1)).1) 38 0 (14 * i + (i + wd)) (pcS (tb9 τ 39) (tb9 τ 37) (tb9 τ 38) i (i + wd) ((i + wd) - i - 1)).2) := ⟨_, rfl⟩
      rw [← hσ1]
      refine ww_iinc (q := 0) (fun y2 => [(4, .int (y2)), (3, .int (nI wd)), (2, .int (nI n)), (0, .ref (gA G 30 (0))), (1, .int (nI p))]) C dX6_part_165 rfl (by decide) (fun _ => rfl) (fun y2 ey2 => ?_)
      obtain rfl : y2 = nI (i + 1) := ninc rfl ey2
      refine ww_goto 147 C dX6_part_168 (by decide) ?_
      exact ww_sub [0, 1, 2, 3, 4] rfl (ih (i + 1) _ (by omega) (by omega) (pt2_s hn h2 (by omega) hk rfl hσ1))
set_option maxHeartbeats 4000000 in
set_option maxRecDepth 100000 in
theorem lp_X6_part_w {K : Kx} {G : Gx} (hA : wa G) (C : CX K G cX6_part 6 RX6 wsX6_part (rmd 6) none) (σ : Sg) (p n : Nat) (hp : p < 8) (hs : σ 33 0 p = nI n) (h3 : 3 ≤ n) (hn : n ≤ 14) : ∀ (f wd : Nat) (τ : Sg), n - wd < f → (2 ≤ wd) → (wd ≤ n + 2) → (PT2 σ τ n (jnA n (fun i => σ 34 0 (14 * p + i)) (fun i => σ 35 0 (14 * p + i))) wd 0) → WW K G 6 (QV K G (fun σ2 => PTA σ σ2 n (jnA n (fun i => σ 34 0 (14 * p + i)) (fun i => σ 35 0 (14 * p + i))))) τ [(3, .int (nI wd)), (2, .int (nI n)), (0, .ref (gA G 30 (0))), (1, .int (nI p))] 139 [] := by
  intro f
  induction f with
  | zero => intro wd τ h; exact absurd h (Nat.not_lt_zero _)
  | succ f ih =>
    intro wd τ hf h2 hw hk
    refine ww_iload_n C dX6_part_139 rfl 0 rfl ?_
    refine ww_iload_n C dX6_part_140 rfl 1 rfl ?_
    refine ww_icmp_ge 177 C dX6_part_141 (by decide) (fun h141 => ?_) (fun h141 => ?_)
    · have g141 : n ≤ wd := (cv_le (a := n) (b := wd) rfl rfl (by omega) (by omega)).mp h141
      refine ww_vret C dX6_part_177 ?_
      exact ⟨hk.1, hk.2.1, hk.2.2.1, fun i j h1 h2 => hk.2.2.2 i j h1 h2 (by omega)⟩
    · have g141 : ¬ n ≤ wd := fun q => h141 ((cv_le (a := n) (b := wd) rfl rfl (by omega) (by omega)).mpr q)
      refine ww_iconst (v := 0) C dX6_part_144 rfl ?_
      refine ww_istore (fun y1 => [(4, .int (y1)), (3, .int (nI wd)), (2, .int (nI n)), (0, .ref (gA G 30 (0))), (1, .int (nI p))]) C dX6_part_145 (by decide) (fun _ => rfl) (fun y1 ey1 => ?_)
      obtain rfl : y1 = nI 0 := (ey1.trans (by decide))
      refine ww_sub [0, 1, 2, 3, 4] rfl (lp_X6_part_c hA C σ p n hp hs h3 hn wd h2 (by omega) (fun τ2 hk2 => ?_) (n + 1) 0 τ (by omega) (by omega) hk)
      refine ww_iinc (q := 0) (fun y2 => [(3, .int (y2)), (2, .int (nI n)), (0, .ref (gA G 30 (0))), (1, .int (nI p))]) C dX6_part_171 rfl (by decide) (fun _ => rfl) (fun y2 ey2 => ?_)
      obtain rfl : y2 = nI (wd + 1) := ninc rfl ey2
      refine ww_goto 139 C dX6_part_174 (by decide) ?_
      exact ww_sub [0, 1, 2, 3] rfl (ih (wd + 1) _ (by omega) (by omega) (by omega) hk2)
set_option maxHeartbeats 4000000 in
set_option maxRecDepth 100000 in
theorem lp_X6_part_i {K : Kx} {G : Gx} (hA : wa G) (C : CX K G cX6_part 6 RX6 wsX6_part (rmd 6) none) (σ : Sg) (p n : Nat) (hp : p < 8) (hs : σ 33 0 p = nI n) (h3 : 3 ≤ n) (hn : n ≤ 14) : ∀ (f i : Nat) (τ : Sg), n - i < f → (i ≤ n) → (PT1 σ τ n (jnA n (fun i => σ 34 0 (14 * p + i)) (fun i => σ 35 0 (14 * p + i))) i (i + 1)) → WW K G 6 (QV K G (fun σ2 => PTA σ σ2 n (jnA n (fun i => σ 34 0 (14 * p + i)) (fun i => σ 35 0 (14 * p + i))))) τ [(3, .int (nI i)), (2, .int (nI n)), (0, .ref (gA G 30 (0))), (1, .int (nI p))] 9 [] := by
  intro f
  induction f with
  | zero => intro i τ h; exact absurd h (Nat.not_lt_zero _)
  | succ f ih =>
    intro i τ hf hi hk
    refine ww_iload_n C dX6_part_9 rfl 0 rfl ?_
    refine ww_iload_n C dX6_part_10 rfl 1 rfl ?_
    refine ww_icmp_ge 137 C dX6_part_11 (by decide) (fun h11 => ?_) (fun h11 => ?_)
    · have g11 : n ≤ i := (cv_le (a := n) (b := i) rfl rfl (by omega) (by omega)).mp h11
      refine ww_iconst (v := 2) C dX6_part_137 rfl ?_
      refine ww_istore_n (fun y1 => [(3, .int (y1)), (2, .int (nI n)), (0, .ref (gA G 30 (0))), (1, .int (nI p))]) C dX6_part_138 rfl (by decide) (fun _ => rfl) (fun y1 ey1 => ?_)
      obtain rfl : y1 = nI 2 := (ey1.trans (by decide))
      exact ww_sub [0, 1, 2, 3] rfl (lp_X6_part_w hA C σ p n hp hs h3 hn (n + 3) 2 τ (by omega) (by omega) (by omega) (pt1_2 (by omega) hk))
    · have g11 : ¬ n ≤ i := fun q => h11 ((cv_le (a := n) (b := i) rfl rfl (by omega) (by omega)).mpr q)
      refine ww_iload_n C dX6_part_14 rfl 0 rfl ?_
      refine ww_iconst (v := 1) C dX6_part_15 rfl ?_
      refine ww_iadd C dX6_part_16 ?_
      rw [show (nI i) + (1) = nI (i + 1) from nI_add (i) (1)]
      refine ww_istore (fun y2 => [(4, .int (y2)), (3, .int (nI i)), (2, .int (nI n)), (0, .ref (gA G 30 (0))), (1, .int (nI p))]) C dX6_part_17 (by decide) (fun _ => rfl) (fun y2 ey2 => ?_)
      obtain rfl : y2 = nI (i + 1) := ey2
      refine ww_sub [0, 1, 2, 3, 4] rfl (lp_X6_part_j hA C σ p n hp hs h3 hn i (by omega) (fun τ2 hk2 => ?_) (n + 1) (i + 1) τ (by omega) (by omega) hk)
      refine ww_iinc (q := 0) (fun y3 => [(3, .int (y3)), (2, .int (nI n)), (0, .ref (gA G 30 (0))), (1, .int (nI p))]) C dX6_part_131 rfl (by decide) (fun _ => rfl) (fun y3 ey3 => ?_)
      obtain rfl : y3 = nI (i + 1) := ninc rfl ey3
      refine ww_goto 9 C dX6_part_134 (by decide) ?_
      exact ww_sub [0, 1, 2, 3] rfl (ih (i + 1) _ (by omega) (by omega) ⟨hk2.1, fun a b h1 h2 h4 => hk2.2 a b h1 h2 (by omega)⟩)
set_option maxHeartbeats 4000000 in
set_option maxRecDepth 100000 in
theorem c_X6_part (l : Launch) (G : Gx) (hA : wa G) (σ : Sg) (p n : Nat) (hp : p < 8) (hs : σ 33 0 p = nI n) (h3 : 3 ≤ n) (hn : n ≤ 14) : CtV l yX6_part wsX6_part (rmd 6) G [.ref (gA G 30 (0)), .int (nI p)] σ (fun σ2 => PTA σ σ2 n (jnA n (fun i => σ 34 0 (14 * p + i)) (fun i => σ 35 0 (14 * p + i)))) := by
  refine ct_v (maxL := 6) (ret := none) (by decide) rfl (Nat.le_of_ble_eq_true rfl) hA (fun K hl C => ?_)
  subst hl
  change WW K G _ _ σ [(0, .ref (gA G 30 (0))), (1, .int (nI p))] 0 []
  refine ww_aload_n C dX6_part_0 rfl 0 rfl ?_
  refine ww_gr (j := 0) (k := 30) (f := 4) C rfl rfl (by decide) rfl in_X6_part_X6 (by decide) lk_X6_part_16 dX6_part_1 rfl ?_
  refine ww_iload_n C dX6_part_4 rfl 1 rfl ?_
  refine ww_iald (k := 33) (j := p) C rfl (by decide) (by decide) dX6_part_5 rfl hp ?_
  rw [hs]
  refine ww_istore_n (fun y1 => [(2, .int (y1)), (0, .ref (gA G 30 (0))), (1, .int (nI p))]) C dX6_part_6 rfl (by decide) (fun _ => rfl) (fun y1 ey1 => ?_)
  obtain rfl : y1 = nI n := ey1
  refine ww_iconst (v := 0) C dX6_part_7 rfl ?_
  refine ww_istore_n (fun y2 => [(3, .int (y2)), (2, .int (nI n)), (0, .ref (gA G 30 (0))), (1, .int (nI p))]) C dX6_part_8 rfl (by decide) (fun _ => rfl) (fun y2 ey2 => ?_)
  obtain rfl : y2 = nI 0 := (ey2.trans (by decide))
  exact ww_sub [0, 1, 2, 3] rfl (lp_X6_part_i hA C σ p n hp hs h3 hn (n + 1) 0 σ (by omega) (by omega) ⟨fun _ _ => rfl, fun a b h1 h2 h4 => by omega⟩)
theorem pk_n1 {n : Nat} (h : 1 ≤ n) : nI n - 1 = nI (14 * 0 + (n - 1)) := by
  have h2 := nI_sub1 (n - 1)
  rw [show n - 1 + 1 = n by omega] at h2
  rw [h2]
  exact congrArg nI (by omega)
set_option maxHeartbeats 4000000 in
set_option maxRecDepth 100000 in
theorem c_X6_triangulations_s (l : Launch) (G : Gx) (hA : wa G) (σ : Sg) (cnt p n : Nat) (hc : σ 30 0 3 = nI cnt) (hc8 : cnt ≤ 8) (hpc : p < cnt) (hp : p < 8) (hs : σ 33 0 p = nI n) (h3 : 3 ≤ n) (hn : n ≤ 14) : CtI l yX6_triangulations wsX6_triangulations (rmd 7) G [.ref (gA G 30 (0)), .int (nI p)] σ (fun r σ2 => ∃ τ, PTA σ τ n (jnA n (fun i => σ 34 0 (14 * p + i)) (fun i => σ 35 0 (14 * p + i))) ∧ r = tb9 τ 37 0 (n - 1) ∧ σ2 = τ) := by
  refine ct_i (maxL := 2) (ret := (some .int)) (by decide) rfl (Nat.le_of_ble_eq_true rfl) hA (fun K hl C => ?_)
  subst hl
  change WW K G _ _ σ [(0, .ref (gA G 30 (0))), (1, .int (nI p))] 0 []
  refine ww_aload_n C dX6_triangulations_0 rfl 0 rfl ?_
  refine ww_iload_n C dX6_triangulations_1 rfl 1 rfl ?_
  refine ww_calliF (cx_V (n := 1) (As := [.int (nI p)]) C  (c_X6_isPolygon (kL K) G hA _ cnt hc hc8 _) gX6_triangulations_X6_isPolygon rfl ⟨rfl, rfl⟩ (by decide +kernel) (by decide) rfl (by decide) rfl rfl rfl (Nat.le_of_ble_eq_true rfl) dX6_triangulations_2) ?_
  refine ww_if_ne 11 C dX6_triangulations_5 (by decide) (fun h5 => ?_) (fun h5 => ?_)
  · refine ww_aload_n C dX6_triangulations_11 rfl 0 rfl ?_
    refine ww_iload_n C dX6_triangulations_12 rfl 1 rfl ?_
    refine ww_callv (cx_V (n := 1) (As := [.int (nI p)]) C  (c_X6_part (kL K) G hA _ p n hp hs h3 hn) gX6_triangulations_X6_part rfl ⟨rfl, rfl⟩ (by decide +kernel) (by decide) rfl (by decide) rfl rfl rfl (Nat.le_of_ble_eq_true rfl) dX6_triangulations_13) ?_
    intro σ2 h3
    refine ww_aload_n C dX6_triangulations_16 rfl 0 rfl ?_
    refine ww_gr (j := 0) (k := 30) (f := 10) C rfl rfl (by decide) rfl in_X6_triangulations_X6 (by decide) lk_X6_triangulations_35 dX6_triangulations_17 rfl ?_
    refine ww_aload_n C dX6_triangulations_20 rfl 0 rfl ?_
    refine ww_gr (j := 0) (k := 30) (f := 4) C rfl rfl (by decide) rfl in_X6_triangulations_X6 (by decide) lk_X6_triangulations_16 dX6_triangulations_21 rfl ?_
    refine ww_iload_n C dX6_triangulations_24 rfl 1 rfl ?_
    refine ww_iald (k := 33) (j := p) C rfl (by decide) (by decide) dX6_triangulations_25 rfl hp ?_
    refine ww_iconst (v := 1) C dX6_triangulations_26 rfl ?_
    refine ww_isub C dX6_triangulations_27 ?_
    refine ww_iald (k := 37) (j := 14 * 0 + (n - 1)) C rfl (by decide) (by decide) dX6_triangulations_28 (by rw [h3.1 33 (by decide), hs]; exact pk_n1 (by omega)) (by omega) ?_
    refine ww_iret C dX6_triangulations_29 ?_
    exact ⟨σ2, h3, rfl, rfl⟩
  · exact absurd (kn_p hpc hc8) (of_decide_eq_false (bI_0.mp h5))
set_option maxHeartbeats 4000000 in
set_option maxRecDepth 100000 in
theorem c_X6_triangulations_n (l : Launch) (G : Gx) (hA : wa G) (σ : Sg) (cnt : Nat) (hc : σ 30 0 3 = nI cnt) (hc8 : cnt ≤ 8) (x : Int32) (hu : ¬ (0 ≤ x ∧ x < nI cnt)) : CtI l yX6_triangulations wsX6_triangulations (rmd 7) G [.ref (gA G 30 (0)), .int (x)] σ (fun r σ2 => r = -2 ∧ σ2 = σ) := by
  refine ct_i (maxL := 2) (ret := (some .int)) (by decide) rfl (Nat.le_of_ble_eq_true rfl) hA (fun K hl C => ?_)
  subst hl
  change WW K G _ _ σ [(0, .ref (gA G 30 (0))), (1, .int (x))] 0 []
  refine ww_aload_n C dX6_triangulations_0 rfl 0 rfl ?_
  refine ww_iload_n C dX6_triangulations_1 rfl 1 rfl ?_
  refine ww_calliF (cx_V (n := 1) (As := [.int (x)]) C  (c_X6_isPolygon (kL K) G hA _ cnt hc hc8 _) gX6_triangulations_X6_isPolygon rfl ⟨rfl, rfl⟩ (by decide +kernel) (by decide) rfl (by decide) rfl rfl rfl (Nat.le_of_ble_eq_true rfl) dX6_triangulations_2) ?_
  refine ww_if_ne 11 C dX6_triangulations_5 (by decide) (fun h5 => ?_) (fun h5 => ?_)
  · exact absurd (of_decide_eq_true (bI_1.mp h5)) hu
  · refine ww_bipush (v := -2) C dX6_triangulations_8 (by decide) ?_
    refine ww_iret C dX6_triangulations_10 ?_
    exact ⟨rfl, rfl⟩
set_option maxHeartbeats 4000000 in
set_option maxRecDepth 100000 in
theorem c_X6_best_s (l : Launch) (G : Gx) (hA : wa G) (σ : Sg) (cnt p n : Nat) (hc : σ 30 0 3 = nI cnt) (hc8 : cnt ≤ 8) (hpc : p < cnt) (hp : p < 8) (hs : σ 33 0 p = nI n) (h3 : 3 ≤ n) (hn : n ≤ 14) : CtI l yX6_best wsX6_best (rmd 7) G [.ref (gA G 30 (0)), .int (nI p)] σ (fun r σ2 => ∃ τ, PTA σ τ n (jnA n (fun i => σ 34 0 (14 * p + i)) (fun i => σ 35 0 (14 * p + i))) ∧ r = tb9 τ 38 0 (n - 1) ∧ σ2 = τ) := by
  refine ct_i (maxL := 2) (ret := (some .int)) (by decide) rfl (Nat.le_of_ble_eq_true rfl) hA (fun K hl C => ?_)
  subst hl
  change WW K G _ _ σ [(0, .ref (gA G 30 (0))), (1, .int (nI p))] 0 []
  refine ww_aload_n C dX6_best_0 rfl 0 rfl ?_
  refine ww_iload_n C dX6_best_1 rfl 1 rfl ?_
  refine ww_calliF (cx_V (n := 1) (As := [.int (nI p)]) C  (c_X6_isPolygon (kL K) G hA _ cnt hc hc8 _) gX6_best_X6_isPolygon rfl ⟨rfl, rfl⟩ (by decide +kernel) (by decide) rfl (by decide) rfl rfl rfl (Nat.le_of_ble_eq_true rfl) dX6_best_2) ?_
  refine ww_if_ne 11 C dX6_best_5 (by decide) (fun h5 => ?_) (fun h5 => ?_)
  · refine ww_aload_n C dX6_best_11 rfl 0 rfl ?_
    refine ww_iload_n C dX6_best_12 rfl 1 rfl ?_
    refine ww_callv (cx_V (n := 1) (As := [.int (nI p)]) C  (c_X6_part (kL K) G hA _ p n hp hs h3 hn) gX6_best_X6_part rfl ⟨rfl, rfl⟩ (by decide +kernel) (by decide) rfl (by decide) rfl rfl rfl (Nat.le_of_ble_eq_true rfl) dX6_best_13) ?_
    intro σ2 h3
    refine ww_aload_n C dX6_best_16 rfl 0 rfl ?_
    refine ww_gr (j := 0) (k := 30) (f := 11) C rfl rfl (by decide) rfl in_X6_best_X6 (by decide) lk_X6_best_38 dX6_best_17 rfl ?_
    refine ww_aload_n C dX6_best_20 rfl 0 rfl ?_
    refine ww_gr (j := 0) (k := 30) (f := 4) C rfl rfl (by decide) rfl in_X6_best_X6 (by decide) lk_X6_best_16 dX6_best_21 rfl ?_
    refine ww_iload_n C dX6_best_24 rfl 1 rfl ?_
    refine ww_iald (k := 33) (j := p) C rfl (by decide) (by decide) dX6_best_25 rfl hp ?_
    refine ww_iconst (v := 1) C dX6_best_26 rfl ?_
    refine ww_isub C dX6_best_27 ?_
    refine ww_iald (k := 38) (j := 14 * 0 + (n - 1)) C rfl (by decide) (by decide) dX6_best_28 (by rw [h3.1 33 (by decide), hs]; exact pk_n1 (by omega)) (by omega) ?_
    refine ww_iret C dX6_best_29 ?_
    exact ⟨σ2, h3, rfl, rfl⟩
  · exact absurd (kn_p hpc hc8) (of_decide_eq_false (bI_0.mp h5))
set_option maxHeartbeats 4000000 in
set_option maxRecDepth 100000 in
theorem c_X6_best_n (l : Launch) (G : Gx) (hA : wa G) (σ : Sg) (cnt : Nat) (hc : σ 30 0 3 = nI cnt) (hc8 : cnt ≤ 8) (x : Int32) (hu : ¬ (0 ≤ x ∧ x < nI cnt)) : CtI l yX6_best wsX6_best (rmd 7) G [.ref (gA G 30 (0)), .int (x)] σ (fun r σ2 => r = -2 ∧ σ2 = σ) := by
  refine ct_i (maxL := 2) (ret := (some .int)) (by decide) rfl (Nat.le_of_ble_eq_true rfl) hA (fun K hl C => ?_)
  subst hl
  change WW K G _ _ σ [(0, .ref (gA G 30 (0))), (1, .int (x))] 0 []
  refine ww_aload_n C dX6_best_0 rfl 0 rfl ?_
  refine ww_iload_n C dX6_best_1 rfl 1 rfl ?_
  refine ww_calliF (cx_V (n := 1) (As := [.int (x)]) C  (c_X6_isPolygon (kL K) G hA _ cnt hc hc8 _) gX6_best_X6_isPolygon rfl ⟨rfl, rfl⟩ (by decide +kernel) (by decide) rfl (by decide) rfl rfl rfl (Nat.le_of_ble_eq_true rfl) dX6_best_2) ?_
  refine ww_if_ne 11 C dX6_best_5 (by decide) (fun h5 => ?_) (fun h5 => ?_)
  · exact absurd (of_decide_eq_true (bI_1.mp h5)) hu
  · refine ww_bipush (v := -2) C dX6_best_8 (by decide) ?_
    refine ww_iret C dX6_best_10 ?_
    exact ⟨rfl, rfl⟩
