theorem in_X6_fitting_X6 : ∀ w ∈ wsX60, w ∈ wsX6_fitting := by decide +kernel
theorem lk_X6_fitting_16 : Cond.fieldLink RX6 16 "PolyCutsModel" "corners" "[I" ∈ wsX6_fitting := by decide +kernel
theorem lk_X6_fitting_177 : Cond.fieldLink RX6 177 "PolyCutsModel" "least" "I" ∈ wsX6_fitting := by decide +kernel
theorem in_X6_onto_X6 : ∀ w ∈ wsX60, w ∈ wsX6_onto := by decide +kernel
theorem lk_X6_onto_177 : Cond.fieldLink RX6 177 "PolyCutsModel" "least" "I" ∈ wsX6_onto := by decide +kernel
theorem fnd_snoc {p : Nat → Bool} : ∀ (d a : Nat), fnd p a (d + 1) = match fnd p a d with | some j => some j | none => if p (a + d) then some (a + d) else none
  | 0, a => by simp [fnd]
  | d + 1, a => by
    rw [fnd, fnd_snoc d (a + 1), fnd, show a + 1 + d = a + (d + 1) by omega]
    by_cases h : p a = true
    · rw [if_pos h, if_pos h]
    · rw [if_neg h, if_neg h]
theorem fndN_snoc {p : Nat → Bool} {n : Nat} : fndN p 0 (n + 1) = match fndN p 0 n with | some j => some j | none => if p n then some n else none := by
  have h := fnd_snoc (p := p) n 0
  rw [Nat.zero_add] at h
  exact h
theorem ft_f {p : Nat → Bool} {k : Nat} (h : p k = false) : optI (fndN p 0 (k + 1)) = optI (fndN p 0 k) := by
  rw [fndN_snoc]
  cases fndN p 0 k with
  | none => simp [h]
  | some j => rfl
theorem ft_s {p : Nat → Bool} {k : Nat} (h : ¬ optI (fndN p 0 k) = -1) : optI (fndN p 0 (k + 1)) = optI (fndN p 0 k) := by
  rw [fndN_snoc]
  cases hq : fndN p 0 k with
  | none => rw [hq] at h; exact absurd rfl h
  | some j => rfl
theorem ft_t {p : Nat → Bool} {k : Nat} (h : p k = true) (hk : k < 2 ^ 31) (h2 : optI (fndN p 0 k) = -1) : optI (fndN p 0 (k + 1)) = nI k := by
  rw [fndN_snoc, optI_m rfl h2 hk]
  simp only [h]
  rfl
def fitB (n : Nat) (x y u v : Nat → Int32) (ov : Bool) (k : Nat) : Bool := fitR n x y u v true ov k || fitR n x y u v false ov k
set_option maxHeartbeats 4000000 in
set_option maxRecDepth 100000 in
theorem lp_X6_fitting_0 {K : Kx} {G : Gx} (hA : wa G) (C : CX K G cX6_fitting 7 RX6 wsX6_fitting (rmd 4) (some .int)) (σ : Sg) (p q n : Nat) (hp : p < 8) (hs : σ 33 0 p = nI n) (hq : q < 8) (hsq : σ 33 0 q = nI n) (h3 : 3 ≤ n) (hn : n ≤ 14) : ∀ (f k : Nat) (τ : Sg), n - k < f → (k ≤ n) → (τ = sgu σ 30 0 23 (optI (fndN (fitB n (fun i => σ 34 0 (14 * p + i)) (fun i => σ 35 0 (14 * p + i)) (fun i => σ 34 0 (14 * q + i)) (fun i => σ 35 0 (14 * q + i)) false) 0 k))) → WW K G 7 (QI K G (fun r σ2 => r = nI (cntN (fitB n (fun i => σ 34 0 (14 * p + i)) (fun i => σ 35 0 (14 * p + i)) (fun i => σ 34 0 (14 * q + i)) (fun i => σ 35 0 (14 * q + i)) false) n) ∧ σ2 = sgu σ 30 0 23 (optI (fndN (fitB n (fun i => σ 34 0 (14 * p + i)) (fun i => σ 35 0 (14 * p + i)) (fun i => σ 34 0 (14 * q + i)) (fun i => σ 35 0 (14 * q + i)) false) 0 n)))) τ [(5, .int (nI k)), (4, .int (nI (cntN (fitB n (fun i => σ 34 0 (14 * p + i)) (fun i => σ 35 0 (14 * p + i)) (fun i => σ 34 0 (14 * q + i)) (fun i => σ 35 0 (14 * q + i)) false) k))), (0, .ref (gA G 30 (0))), (1, .int (nI p)), (2, .int (nI q)), (3, .int (0))] 28 [] := by
  intro f
  induction f with
  | zero => intro k τ h; exact absurd h (Nat.not_lt_zero _)
  | succ f ih =>
    intro k τ hf hk ht
    have hst : τ 33 0 p = nI n := by rw [ht, sgu_kk (by decide)]; exact hs
    have hsqt : τ 33 0 q = nI n := by rw [ht, sgu_kk (by decide)]; exact hsq
    have e34 : τ 34 = σ 34 := by rw [ht, sgu_kk (by decide)]
    have e35 : τ 35 = σ 35 := by rw [ht, sgu_kk (by decide)]
    have hcl := cntN_le (p := (fitB n (fun i => σ 34 0 (14 * p + i)) (fun i => σ 35 0 (14 * p + i)) (fun i => σ 34 0 (14 * q + i)) (fun i => σ 35 0 (14 * q + i)) false)) k
    refine ww_iload C dX6_fitting_28 0 rfl ?_
    refine ww_aload_n C dX6_fitting_30 rfl 2 rfl ?_
    refine ww_gr (j := 0) (k := 30) (f := 4) C rfl rfl (by decide) rfl in_X6_fitting_X6 (by decide) lk_X6_fitting_16 dX6_fitting_31 rfl ?_
    refine ww_iload_n C dX6_fitting_34 rfl 4 rfl ?_
    refine ww_iald (k := 33) (j := q) C rfl (by decide) (by decide) dX6_fitting_35 rfl hq ?_
    rw [hsqt]
    refine ww_icmp_ge 119 C dX6_fitting_36 (by decide) (fun h36 => ?_) (fun h36 => ?_)
    · have g36 : n ≤ k := (cv_le (a := n) (b := k) rfl rfl (by omega) (by omega)).mp h36
      refine ww_iload C dX6_fitting_119 1 rfl ?_
      refine ww_iret C dX6_fitting_121 ?_
      exact ⟨by rw [show k = n by omega], by rw [ht, show k = n by omega]⟩
    · have g36 : ¬ n ≤ k := fun q => h36 ((cv_le (a := n) (b := k) rfl rfl (by omega) (by omega)).mpr q)
      refine ww_aload_n C dX6_fitting_39 rfl 2 rfl ?_
      refine ww_iload_n C dX6_fitting_40 rfl 3 rfl ?_
      refine ww_iload_n C dX6_fitting_41 rfl 4 rfl ?_
      refine ww_iload C dX6_fitting_42 0 rfl ?_
      refine ww_iconst (v := 1) C dX6_fitting_44 rfl ?_
      refine ww_iload_n C dX6_fitting_45 rfl 5 rfl ?_
      refine ww_calliF (cx_V (n := 5) (As := [.int (nI p), .int (nI q), .int (nI k), .int (1), .int (0)]) C  (c_X6_fits_10 (kL K) G hA _ p q n hp hst hq hsqt h3 hn k (by omega)) gX6_fitting_X6_fits rfl ⟨rfl, rfl⟩ (by decide +kernel) (by decide) rfl (by decide) rfl rfl rfl (Nat.le_of_ble_eq_true rfl) dX6_fitting_46) ?_
      refine ww_if_ne 65 C dX6_fitting_49 (by decide) (fun h49 => ?_) (fun h49 => ?_)
      · refine ww_iconst (v := 1) C dX6_fitting_65 rfl ?_
        refine ww_goto 70 C dX6_fitting_66 (by decide) ?_
        refine ww_istore (fun y1 => [(6, .int (y1)), (5, .int (nI k)), (4, .int (nI (cntN (fitB n (fun i => σ 34 0 (14 * p + i)) (fun i => σ 35 0 (14 * p + i)) (fun i => σ 34 0 (14 * q + i)) (fun i => σ 35 0 (14 * q + i)) false) k))), (0, .ref (gA G 30 (0))), (1, .int (nI p)), (2, .int (nI q)), (3, .int (0))]) C dX6_fitting_70 (by decide) (fun _ => rfl) (fun y1 ey1 => ?_)
        obtain rfl : y1 = nI 1 := (ey1.trans (by decide))
        refine ww_iload C dX6_fitting_72 2 rfl ?_
        refine ww_iload C dX6_fitting_74 0 rfl ?_
        refine ww_if_eq 83 C dX6_fitting_76 (by decide) (fun h76 => ?_) (fun h76 => ?_)
        · have g76 : 1 = 0 := (cv_eq (a := 1) (b := 0) rfl (by decide) (by omega) (by omega)).mp h76
          exact absurd g76 (by decide)
        · have g76 : ¬ 1 = 0 := fun q => h76 ((cv_eq (a := 1) (b := 0) rfl (by decide) (by omega) (by omega)).mpr q)
          refine ww_iconst (v := 1) C dX6_fitting_79 rfl ?_
          refine ww_goto 84 C dX6_fitting_80 (by decide) ?_
          refine ww_iadd C dX6_fitting_84 ?_
          rw [show (nI (cntN (fitB n (fun i => σ 34 0 (14 * p + i)) (fun i => σ 35 0 (14 * p + i)) (fun i => σ 34 0 (14 * q + i)) (fun i => σ 35 0 (14 * q + i)) false) k)) + (1) = nI (cntN (fitB n (fun i => σ 34 0 (14 * p + i)) (fun i => σ 35 0 (14 * p + i)) (fun i => σ 34 0 (14 * q + i)) (fun i => σ 35 0 (14 * q + i)) false) k + 1) from nI_add (cntN (fitB n (fun i => σ 34 0 (14 * p + i)) (fun i => σ 35 0 (14 * p + i)) (fun i => σ 34 0 (14 * q + i)) (fun i => σ 35 0 (14 * q + i)) false) k) (1)]
          refine ww_istore (fun y2 => [(4, .int (y2)), (6, .int (nI 1)), (5, .int (nI k)), (0, .ref (gA G 30 (0))), (1, .int (nI p)), (2, .int (nI q)), (3, .int (0))]) C dX6_fitting_85 (by decide) (fun _ => rfl) (fun y2 ey2 => ?_)
          obtain rfl : y2 = nI (cntN (fitB n (fun i => σ 34 0 (14 * p + i)) (fun i => σ 35 0 (14 * p + i)) (fun i => σ 34 0 (14 * q + i)) (fun i => σ 35 0 (14 * q + i)) false) k + 1) := ey2
          refine ww_aload_n C dX6_fitting_87 rfl 3 rfl ?_
          refine ww_iload C dX6_fitting_88 1 rfl ?_
          refine ww_if_eq 106 C dX6_fitting_90 (by decide) (fun h90 => ?_) (fun h90 => ?_)
          · have g90 : 1 = 0 := (cv_eq (a := 1) (b := 0) rfl (by decide) (by omega) (by omega)).mp h90
            exact absurd g90 (by decide)
          · have g90 : ¬ 1 = 0 := fun q => h90 ((cv_eq (a := 1) (b := 0) rfl (by decide) (by omega) (by omega)).mpr q)
            refine ww_aload_n C dX6_fitting_93 rfl 3 rfl ?_
            refine ww_gi (k := 30) (f := 23) C rfl rfl (by decide) rfl in_X6_fitting_X6 (by decide) lk_X6_fitting_177 dX6_fitting_94 ?_
            refine ww_iconst (v := -1) C dX6_fitting_97 rfl ?_
            refine ww_icmp_ne 106 C dX6_fitting_98 (by decide) (fun h98 => ?_) (fun h98 => ?_)
            · refine ww_aload_n C dX6_fitting_106 rfl 3 rfl ?_
              refine ww_gi (k := 30) (f := 23) C rfl rfl (by decide) rfl in_X6_fitting_X6 (by decide) lk_X6_fitting_177 dX6_fitting_107 ?_
              refine ww_pi (k := 30) (f := 23) C rfl rfl (by decide) rfl in_X6_fitting_X6 tyX6_ok nmX6 (by decide) lk_X6_fitting_177 rfl rfl dX6_fitting_110 ?_
              obtain ⟨σ3, hσ3⟩ : ∃ z : Sg, z = (sgu τ 30 (0) 23 (τ 30 (0) 23)) := ⟨_, rfl⟩
              rw [← hσ3]
              refine ww_iinc (q := 2) (fun y4 => [(5, .int (y4)), (4, .int (nI (cntN (fitB n (fun i => σ 34 0 (14 * p + i)) (fun i => σ 35 0 (14 * p + i)) (fun i => σ 34 0 (14 * q + i)) (fun i => σ 35 0 (14 * q + i)) false) k + 1))), (6, .int (nI 1)), (0, .ref (gA G 30 (0))), (1, .int (nI p)), (2, .int (nI q)), (3, .int (0))]) C dX6_fitting_113 rfl (by decide) (fun _ => rfl) (fun y4 ey4 => ?_)
              obtain rfl : y4 = nI (k + 1) := ninc rfl ey4
              refine ww_goto 28 C dX6_fitting_116 (by decide) ?_
              have hF : (fitB n (fun i => σ 34 0 (14 * p + i)) (fun i => σ 35 0 (14 * p + i)) (fun i => σ 34 0 (14 * q + i)) (fun i => σ 35 0 (14 * q + i)) false) k = true := by rw [fitB, ← e34, ← e35, bI_1.mp h49]; rfl
              have hl : τ 30 0 23 = optI (fndN (fitB n (fun i => σ 34 0 (14 * p + i)) (fun i => σ 35 0 (14 * p + i)) (fun i => σ 34 0 (14 * q + i)) (fun i => σ 35 0 (14 * q + i)) false) 0 k) := by rw [ht, sgu_self]
              rw [show cntN (fitB n (fun i => σ 34 0 (14 * p + i)) (fun i => σ 35 0 (14 * p + i)) (fun i => σ 34 0 (14 * q + i)) (fun i => σ 35 0 (14 * q + i)) false) k + 1 = cntN (fitB n (fun i => σ 34 0 (14 * p + i)) (fun i => σ 35 0 (14 * p + i)) (fun i => σ 34 0 (14 * q + i)) (fun i => σ 35 0 (14 * q + i)) false) (k + 1) from (cntN_t hF).symm]
              exact ww_sub [0, 1, 3, 4, 5, 6] rfl (ih (k + 1) _ (by omega) (by omega) (by rw [hσ3, hl, ht, sgu_sgu, ft_s (by rw [hl] at h98; exact h98)]))
            · refine ww_iload C dX6_fitting_101 2 rfl ?_
              refine ww_goto 110 C dX6_fitting_103 (by decide) ?_
              refine ww_pi (k := 30) (f := 23) C rfl rfl (by decide) rfl in_X6_fitting_X6 tyX6_ok nmX6 (by decide) lk_X6_fitting_177 rfl rfl dX6_fitting_110 ?_
              obtain ⟨σ5, hσ5⟩ : ∃ z : Sg, z = (sgu τ 30 (0) 23 (nI k)) := ⟨_, rfl⟩
              rw [← hσ5]
              refine ww_iinc (q := 2) (fun y6 => [(5, .int (y6)), (4, .int (nI (cntN (fitB n (fun i => σ 34 0 (14 * p + i)) (fun i => σ 35 0 (14 * p + i)) (fun i => σ 34 0 (14 * q + i)) (fun i => σ 35 0 (14 * q + i)) false) k + 1))), (6, .int (nI 1)), (0, .ref (gA G 30 (0))), (1, .int (nI p)), (2, .int (nI q)), (3, .int (0))]) C dX6_fitting_113 rfl (by decide) (fun _ => rfl) (fun y6 ey6 => ?_)
              obtain rfl : y6 = nI (k + 1) := ninc rfl ey6
              refine ww_goto 28 C dX6_fitting_116 (by decide) ?_
              have hF : (fitB n (fun i => σ 34 0 (14 * p + i)) (fun i => σ 35 0 (14 * p + i)) (fun i => σ 34 0 (14 * q + i)) (fun i => σ 35 0 (14 * q + i)) false) k = true := by rw [fitB, ← e34, ← e35, bI_1.mp h49]; rfl
              have hl : τ 30 0 23 = optI (fndN (fitB n (fun i => σ 34 0 (14 * p + i)) (fun i => σ 35 0 (14 * p + i)) (fun i => σ 34 0 (14 * q + i)) (fun i => σ 35 0 (14 * q + i)) false) 0 k) := by rw [ht, sgu_self]
              rw [show cntN (fitB n (fun i => σ 34 0 (14 * p + i)) (fun i => σ 35 0 (14 * p + i)) (fun i => σ 34 0 (14 * q + i)) (fun i => σ 35 0 (14 * q + i)) false) k + 1 = cntN (fitB n (fun i => σ 34 0 (14 * p + i)) (fun i => σ 35 0 (14 * p + i)) (fun i => σ 34 0 (14 * q + i)) (fun i => σ 35 0 (14 * q + i)) false) (k + 1) from (cntN_t hF).symm]
              exact ww_sub [0, 1, 3, 4, 5, 6] rfl (ih (k + 1) _ (by omega) (by omega) (by rw [hσ5, ht, sgu_sgu, ft_t hF (by omega) (by rw [hl] at h98; exact h98)]))
      · refine ww_aload_n C dX6_fitting_52 rfl 2 rfl ?_
        refine ww_iload_n C dX6_fitting_53 rfl 3 rfl ?_
        refine ww_iload_n C dX6_fitting_54 rfl 4 rfl ?_
        refine ww_iload C dX6_fitting_55 0 rfl ?_
        refine ww_iconst (v := 0) C dX6_fitting_57 rfl ?_
        refine ww_iload_n C dX6_fitting_58 rfl 5 rfl ?_
        refine ww_calliF (cx_V (n := 5) (As := [.int (nI p), .int (nI q), .int (nI k), .int (0), .int (0)]) C  (c_X6_fits_00 (kL K) G hA _ p q n hp hst hq hsqt h3 hn k (by omega)) gX6_fitting_X6_fits rfl ⟨rfl, rfl⟩ (by decide +kernel) (by decide) rfl (by decide) rfl rfl rfl (Nat.le_of_ble_eq_true rfl) dX6_fitting_59) ?_
        refine ww_if_eq 69 C dX6_fitting_62 (by decide) (fun h62 => ?_) (fun h62 => ?_)
        · refine ww_iconst (v := 0) C dX6_fitting_69 rfl ?_
          refine ww_istore (fun y7 => [(6, .int (y7)), (5, .int (nI k)), (4, .int (nI (cntN (fitB n (fun i => σ 34 0 (14 * p + i)) (fun i => σ 35 0 (14 * p + i)) (fun i => σ 34 0 (14 * q + i)) (fun i => σ 35 0 (14 * q + i)) false) k))), (0, .ref (gA G 30 (0))), (1, .int (nI p)), (2, .int (nI q)), (3, .int (0))]) C dX6_fitting_70 (by decide) (fun _ => rfl) (fun y7 ey7 => ?_)
          obtain rfl : y7 = nI 0 := (ey7.trans (by decide))
          refine ww_iload C dX6_fitting_72 2 rfl ?_
          refine ww_iload C dX6_fitting_74 0 rfl ?_
          refine ww_if_eq 83 C dX6_fitting_76 (by decide) (fun h76 => ?_) (fun h76 => ?_)
          · have g76 : 0 = 0 := (cv_eq (a := 0) (b := 0) rfl (by decide) (by omega) (by omega)).mp h76
            refine ww_iconst (v := 0) C dX6_fitting_83 rfl ?_
            refine ww_iadd C dX6_fitting_84 ?_
            rw [show (nI (cntN (fitB n (fun i => σ 34 0 (14 * p + i)) (fun i => σ 35 0 (14 * p + i)) (fun i => σ 34 0 (14 * q + i)) (fun i => σ 35 0 (14 * q + i)) false) k)) + (0) = nI (cntN (fitB n (fun i => σ 34 0 (14 * p + i)) (fun i => σ 35 0 (14 * p + i)) (fun i => σ 34 0 (14 * q + i)) (fun i => σ 35 0 (14 * q + i)) false) k + 0) from nI_add (cntN (fitB n (fun i => σ 34 0 (14 * p + i)) (fun i => σ 35 0 (14 * p + i)) (fun i => σ 34 0 (14 * q + i)) (fun i => σ 35 0 (14 * q + i)) false) k) (0)]
            refine ww_istore (fun y8 => [(4, .int (y8)), (6, .int (nI 0)), (5, .int (nI k)), (0, .ref (gA G 30 (0))), (1, .int (nI p)), (2, .int (nI q)), (3, .int (0))]) C dX6_fitting_85 (by decide) (fun _ => rfl) (fun y8 ey8 => ?_)
            obtain rfl : y8 = nI (cntN (fitB n (fun i => σ 34 0 (14 * p + i)) (fun i => σ 35 0 (14 * p + i)) (fun i => σ 34 0 (14 * q + i)) (fun i => σ 35 0 (14 * q + i)) false) k + 0) := ey8
            refine ww_aload_n C dX6_fitting_87 rfl 3 rfl ?_
            refine ww_iload C dX6_fitting_88 1 rfl ?_
            refine ww_if_eq 106 C dX6_fitting_90 (by decide) (fun h90 => ?_) (fun h90 => ?_)
            · have g90 : 0 = 0 := (cv_eq (a := 0) (b := 0) rfl (by decide) (by omega) (by omega)).mp h90
              refine ww_aload_n C dX6_fitting_106 rfl 3 rfl ?_
              refine ww_gi (k := 30) (f := 23) C rfl rfl (by decide) rfl in_X6_fitting_X6 (by decide) lk_X6_fitting_177 dX6_fitting_107 ?_
              refine ww_pi (k := 30) (f := 23) C rfl rfl (by decide) rfl in_X6_fitting_X6 tyX6_ok nmX6 (by decide) lk_X6_fitting_177 rfl rfl dX6_fitting_110 ?_
              obtain ⟨σ9, hσ9⟩ : ∃ z : Sg, z = (sgu τ 30 (0) 23 (τ 30 (0) 23)) := ⟨_, rfl⟩
              rw [← hσ9]
              refine ww_iinc (q := 2) (fun y10 => [(5, .int (y10)), (4, .int (nI (cntN (fitB n (fun i => σ 34 0 (14 * p + i)) (fun i => σ 35 0 (14 * p + i)) (fun i => σ 34 0 (14 * q + i)) (fun i => σ 35 0 (14 * q + i)) false) k + 0))), (6, .int (nI 0)), (0, .ref (gA G 30 (0))), (1, .int (nI p)), (2, .int (nI q)), (3, .int (0))]) C dX6_fitting_113 rfl (by decide) (fun _ => rfl) (fun y10 ey10 => ?_)
              obtain rfl : y10 = nI (k + 1) := ninc rfl ey10
              refine ww_goto 28 C dX6_fitting_116 (by decide) ?_
              have hF : (fitB n (fun i => σ 34 0 (14 * p + i)) (fun i => σ 35 0 (14 * p + i)) (fun i => σ 34 0 (14 * q + i)) (fun i => σ 35 0 (14 * q + i)) false) k = false := by rw [fitB, ← e34, ← e35, bI_0.mp h49, bI_0.mp h62]; rfl
              have hl : τ 30 0 23 = optI (fndN (fitB n (fun i => σ 34 0 (14 * p + i)) (fun i => σ 35 0 (14 * p + i)) (fun i => σ 34 0 (14 * q + i)) (fun i => σ 35 0 (14 * q + i)) false) 0 k) := by rw [ht, sgu_self]
              rw [show cntN (fitB n (fun i => σ 34 0 (14 * p + i)) (fun i => σ 35 0 (14 * p + i)) (fun i => σ 34 0 (14 * q + i)) (fun i => σ 35 0 (14 * q + i)) false) k + 0 = cntN (fitB n (fun i => σ 34 0 (14 * p + i)) (fun i => σ 35 0 (14 * p + i)) (fun i => σ 34 0 (14 * q + i)) (fun i => σ 35 0 (14 * q + i)) false) (k + 1) from (cntN_f hF).symm]
              exact ww_sub [0, 1, 3, 4, 5, 6] rfl (ih (k + 1) _ (by omega) (by omega) (by rw [hσ9, hl, ht, sgu_sgu, ft_f hF]))
            · have g90 : ¬ 0 = 0 := fun q => h90 ((cv_eq (a := 0) (b := 0) rfl (by decide) (by omega) (by omega)).mpr q)
              exact absurd g90 (by decide)
          · have g76 : ¬ 0 = 0 := fun q => h76 ((cv_eq (a := 0) (b := 0) rfl (by decide) (by omega) (by omega)).mpr q)
            exact absurd g76 (by decide)
        · refine ww_iconst (v := 1) C dX6_fitting_65 rfl ?_
          refine ww_goto 70 C dX6_fitting_66 (by decide) ?_
          refine ww_istore (fun y11 => [(6, .int (y11)), (5, .int (nI k)), (4, .int (nI (cntN (fitB n (fun i => σ 34 0 (14 * p + i)) (fun i => σ 35 0 (14 * p + i)) (fun i => σ 34 0 (14 * q + i)) (fun i => σ 35 0 (14 * q + i)) false) k))), (0, .ref (gA G 30 (0))), (1, .int (nI p)), (2, .int (nI q)), (3, .int (0))]) C dX6_fitting_70 (by decide) (fun _ => rfl) (fun y11 ey11 => ?_)
          obtain rfl : y11 = nI 1 := (ey11.trans (by decide))
          refine ww_iload C dX6_fitting_72 2 rfl ?_
          refine ww_iload C dX6_fitting_74 0 rfl ?_
          refine ww_if_eq 83 C dX6_fitting_76 (by decide) (fun h76 => ?_) (fun h76 => ?_)
          · have g76 : 1 = 0 := (cv_eq (a := 1) (b := 0) rfl (by decide) (by omega) (by omega)).mp h76
            exact absurd g76 (by decide)
          · have g76 : ¬ 1 = 0 := fun q => h76 ((cv_eq (a := 1) (b := 0) rfl (by decide) (by omega) (by omega)).mpr q)
            refine ww_iconst (v := 1) C dX6_fitting_79 rfl ?_
            refine ww_goto 84 C dX6_fitting_80 (by decide) ?_
            refine ww_iadd C dX6_fitting_84 ?_
            rw [show (nI (cntN (fitB n (fun i => σ 34 0 (14 * p + i)) (fun i => σ 35 0 (14 * p + i)) (fun i => σ 34 0 (14 * q + i)) (fun i => σ 35 0 (14 * q + i)) false) k)) + (1) = nI (cntN (fitB n (fun i => σ 34 0 (14 * p + i)) (fun i => σ 35 0 (14 * p + i)) (fun i => σ 34 0 (14 * q + i)) (fun i => σ 35 0 (14 * q + i)) false) k + 1) from nI_add (cntN (fitB n (fun i => σ 34 0 (14 * p + i)) (fun i => σ 35 0 (14 * p + i)) (fun i => σ 34 0 (14 * q + i)) (fun i => σ 35 0 (14 * q + i)) false) k) (1)]
            refine ww_istore (fun y12 => [(4, .int (y12)), (6, .int (nI 1)), (5, .int (nI k)), (0, .ref (gA G 30 (0))), (1, .int (nI p)), (2, .int (nI q)), (3, .int (0))]) C dX6_fitting_85 (by decide) (fun _ => rfl) (fun y12 ey12 => ?_)
            obtain rfl : y12 = nI (cntN (fitB n (fun i => σ 34 0 (14 * p + i)) (fun i => σ 35 0 (14 * p + i)) (fun i => σ 34 0 (14 * q + i)) (fun i => σ 35 0 (14 * q + i)) false) k + 1) := ey12
            refine ww_aload_n C dX6_fitting_87 rfl 3 rfl ?_
            refine ww_iload C dX6_fitting_88 1 rfl ?_
            refine ww_if_eq 106 C dX6_fitting_90 (by decide) (fun h90 => ?_) (fun h90 => ?_)
            · have g90 : 1 = 0 := (cv_eq (a := 1) (b := 0) rfl (by decide) (by omega) (by omega)).mp h90
              exact absurd g90 (by decide)
            · have g90 : ¬ 1 = 0 := fun q => h90 ((cv_eq (a := 1) (b := 0) rfl (by decide) (by omega) (by omega)).mpr q)
              refine ww_aload_n C dX6_fitting_93 rfl 3 rfl ?_
              refine ww_gi (k := 30) (f := 23) C rfl rfl (by decide) rfl in_X6_fitting_X6 (by decide) lk_X6_fitting_177 dX6_fitting_94 ?_
              refine ww_iconst (v := -1) C dX6_fitting_97 rfl ?_
              refine ww_icmp_ne 106 C dX6_fitting_98 (by decide) (fun h98 => ?_) (fun h98 => ?_)
              · refine ww_aload_n C dX6_fitting_106 rfl 3 rfl ?_
                refine ww_gi (k := 30) (f := 23) C rfl rfl (by decide) rfl in_X6_fitting_X6 (by decide) lk_X6_fitting_177 dX6_fitting_107 ?_
                refine ww_pi (k := 30) (f := 23) C rfl rfl (by decide) rfl in_X6_fitting_X6 tyX6_ok nmX6 (by decide) lk_X6_fitting_177 rfl rfl dX6_fitting_110 ?_
                obtain ⟨σ13, hσ13⟩ : ∃ z : Sg, z = (sgu τ 30 (0) 23 (τ 30 (0) 23)) := ⟨_, rfl⟩
                rw [← hσ13]
                refine ww_iinc (q := 2) (fun y14 => [(5, .int (y14)), (4, .int (nI (cntN (fitB n (fun i => σ 34 0 (14 * p + i)) (fun i => σ 35 0 (14 * p + i)) (fun i => σ 34 0 (14 * q + i)) (fun i => σ 35 0 (14 * q + i)) false) k + 1))), (6, .int (nI 1)), (0, .ref (gA G 30 (0))), (1, .int (nI p)), (2, .int (nI q)), (3, .int (0))]) C dX6_fitting_113 rfl (by decide) (fun _ => rfl) (fun y14 ey14 => ?_)
                obtain rfl : y14 = nI (k + 1) := ninc rfl ey14
                refine ww_goto 28 C dX6_fitting_116 (by decide) ?_
                have hF : (fitB n (fun i => σ 34 0 (14 * p + i)) (fun i => σ 35 0 (14 * p + i)) (fun i => σ 34 0 (14 * q + i)) (fun i => σ 35 0 (14 * q + i)) false) k = true := by rw [fitB, ← e34, ← e35, bI_0.mp h49, bI_1.mp h62]; rfl
                have hl : τ 30 0 23 = optI (fndN (fitB n (fun i => σ 34 0 (14 * p + i)) (fun i => σ 35 0 (14 * p + i)) (fun i => σ 34 0 (14 * q + i)) (fun i => σ 35 0 (14 * q + i)) false) 0 k) := by rw [ht, sgu_self]
                rw [show cntN (fitB n (fun i => σ 34 0 (14 * p + i)) (fun i => σ 35 0 (14 * p + i)) (fun i => σ 34 0 (14 * q + i)) (fun i => σ 35 0 (14 * q + i)) false) k + 1 = cntN (fitB n (fun i => σ 34 0 (14 * p + i)) (fun i => σ 35 0 (14 * p + i)) (fun i => σ 34 0 (14 * q + i)) (fun i => σ 35 0 (14 * q + i)) false) (k + 1) from (cntN_t hF).symm]
                exact ww_sub [0, 1, 3, 4, 5, 6] rfl (ih (k + 1) _ (by omega) (by omega) (by rw [hσ13, hl, ht, sgu_sgu, ft_s (by rw [hl] at h98; exact h98)]))
              · refine ww_iload C dX6_fitting_101 2 rfl ?_
                refine ww_goto 110 C dX6_fitting_103 (by decide) ?_
                refine ww_pi (k := 30) (f := 23) C rfl rfl (by decide) rfl in_X6_fitting_X6 tyX6_ok nmX6 (by decide) lk_X6_fitting_177 rfl rfl dX6_fitting_110 ?_
                obtain ⟨σ15, hσ15⟩ : ∃ z : Sg, z = (sgu τ 30 (0) 23 (nI k)) := ⟨_, rfl⟩
                rw [← hσ15]
                refine ww_iinc (q := 2) (fun y16 => [(5, .int (y16)), (4, .int (nI (cntN (fitB n (fun i => σ 34 0 (14 * p + i)) (fun i => σ 35 0 (14 * p + i)) (fun i => σ 34 0 (14 * q + i)) (fun i => σ 35 0 (14 * q + i)) false) k + 1))), (6, .int (nI 1)), (0, .ref (gA G 30 (0))), (1, .int (nI p)), (2, .int (nI q)), (3, .int (0))]) C dX6_fitting_113 rfl (by decide) (fun _ => rfl) (fun y16 ey16 => ?_)
                obtain rfl : y16 = nI (k + 1) := ninc rfl ey16
                refine ww_goto 28 C dX6_fitting_116 (by decide) ?_
                have hF : (fitB n (fun i => σ 34 0 (14 * p + i)) (fun i => σ 35 0 (14 * p + i)) (fun i => σ 34 0 (14 * q + i)) (fun i => σ 35 0 (14 * q + i)) false) k = true := by rw [fitB, ← e34, ← e35, bI_0.mp h49, bI_1.mp h62]; rfl
                have hl : τ 30 0 23 = optI (fndN (fitB n (fun i => σ 34 0 (14 * p + i)) (fun i => σ 35 0 (14 * p + i)) (fun i => σ 34 0 (14 * q + i)) (fun i => σ 35 0 (14 * q + i)) false) 0 k) := by rw [ht, sgu_self]
                rw [show cntN (fitB n (fun i => σ 34 0 (14 * p + i)) (fun i => σ 35 0 (14 * p + i)) (fun i => σ 34 0 (14 * q + i)) (fun i => σ 35 0 (14 * q + i)) false) k + 1 = cntN (fitB n (fun i => σ 34 0 (14 * p + i)) (fun i => σ 35 0 (14 * p + i)) (fun i => σ 34 0 (14 * q + i)) (fun i => σ 35 0 (14 * q + i)) false) (k + 1) from (cntN_t hF).symm]
                exact ww_sub [0, 1, 3, 4, 5, 6] rfl (ih (k + 1) _ (by omega) (by omega) (by rw [hσ15, ht, sgu_sgu, ft_t hF (by omega) (by rw [hl] at h98; exact h98)]))
set_option maxHeartbeats 4000000 in
set_option maxRecDepth 100000 in
theorem c_X6_fitting_e0 (l : Launch) (G : Gx) (hA : wa G) (σ : Sg) (p q n : Nat) (hp : p < 8) (hs : σ 33 0 p = nI n) (hq : q < 8) (hsq : σ 33 0 q = nI n) (h3 : 3 ≤ n) (hn : n ≤ 14) : CtI l yX6_fitting wsX6_fitting (rmd 4) G [.ref (gA G 30 (0)), .int (nI p), .int (nI q), .int (0)] σ (fun r σ2 => r = nI (cntN (fitB n (fun i => σ 34 0 (14 * p + i)) (fun i => σ 35 0 (14 * p + i)) (fun i => σ 34 0 (14 * q + i)) (fun i => σ 35 0 (14 * q + i)) false) n) ∧ σ2 = sgu σ 30 0 23 (optI (fndN (fitB n (fun i => σ 34 0 (14 * p + i)) (fun i => σ 35 0 (14 * p + i)) (fun i => σ 34 0 (14 * q + i)) (fun i => σ 35 0 (14 * q + i)) false) 0 n))) := by
  refine ct_i (maxL := 7) (ret := (some .int)) (by decide) rfl (Nat.le_of_ble_eq_true rfl) hA (fun K hl C => ?_)
  subst hl
  change WW K G _ _ σ [(0, .ref (gA G 30 (0))), (1, .int (nI p)), (2, .int (nI q)), (3, .int (0))] 0 []
  have hst : (sgu σ 30 (0) 23 (-1)) 33 (0) (p) = nI n := by rw [sgu_kk (by decide)]; exact hs
  have hsqt : (sgu σ 30 (0) 23 (-1)) 33 (0) (q) = nI n := by rw [sgu_kk (by decide)]; exact hsq
  refine ww_aload_n C dX6_fitting_0 rfl 0 rfl ?_
  refine ww_iconst (v := -1) C dX6_fitting_1 rfl ?_
  refine ww_pi (k := 30) (f := 23) C rfl rfl (by decide) rfl in_X6_fitting_X6 tyX6_ok nmX6 (by decide) lk_X6_fitting_177 rfl rfl dX6_fitting_2 ?_
  refine ww_aload_n C dX6_fitting_5 rfl 0 rfl ?_
  refine ww_gr (j := 0) (k := 30) (f := 4) C rfl rfl (by decide) rfl in_X6_fitting_X6 (by decide) lk_X6_fitting_16 dX6_fitting_6 rfl ?_
  refine ww_iload_n C dX6_fitting_9 rfl 1 rfl ?_
  refine ww_iald (k := 33) (j := p) C rfl (by decide) (by decide) dX6_fitting_10 rfl hp ?_
  rw [hst]
  refine ww_aload_n C dX6_fitting_11 rfl 0 rfl ?_
  refine ww_gr (j := 0) (k := 30) (f := 4) C rfl rfl (by decide) rfl in_X6_fitting_X6 (by decide) lk_X6_fitting_16 dX6_fitting_12 rfl ?_
  refine ww_iload_n C dX6_fitting_15 rfl 2 rfl ?_
  refine ww_iald (k := 33) (j := q) C rfl (by decide) (by decide) dX6_fitting_16 rfl hq ?_
  rw [hsqt]
  refine ww_icmp_eq 22 C dX6_fitting_17 (by decide) (fun h17 => ?_) (fun h17 => ?_)
  · have g17 : n = n := (cv_eq (a := n) (b := n) rfl rfl (by omega) (by omega)).mp h17
    refine ww_iconst (v := 0) C dX6_fitting_22 rfl ?_
    refine ww_istore (fun y1 => [(4, .int (y1)), (0, .ref (gA G 30 (0))), (1, .int (nI p)), (2, .int (nI q)), (3, .int (0))]) C dX6_fitting_23 (by decide) (fun _ => rfl) (fun y1 ey1 => ?_)
    obtain rfl : y1 = nI 0 := (ey1.trans (by decide))
    refine ww_iconst (v := 0) C dX6_fitting_25 rfl ?_
    refine ww_istore (fun y2 => [(5, .int (y2)), (4, .int (nI 0)), (0, .ref (gA G 30 (0))), (1, .int (nI p)), (2, .int (nI q)), (3, .int (0))]) C dX6_fitting_26 (by decide) (fun _ => rfl) (fun y2 ey2 => ?_)
    obtain rfl : y2 = nI 0 := (ey2.trans (by decide))
    exact ww_sub [0, 1, 2, 3, 4, 5] rfl (lp_X6_fitting_0 hA C σ p q n hp hs hq hsq h3 hn (n + 1) 0 _ (by omega) (by omega) rfl)
  · have g17 : ¬ n = n := fun q => h17 ((cv_eq (a := n) (b := n) rfl rfl (by omega) (by omega)).mpr q)
    exact absurd rfl g17
set_option maxHeartbeats 4000000 in
set_option maxRecDepth 100000 in
theorem c_X6_fitting_d0 (l : Launch) (G : Gx) (hA : wa G) (σ : Sg) (p q n m : Nat) (hp : p < 8) (hs : σ 33 0 p = nI n) (hq : q < 8) (hsq : σ 33 0 q = nI m) (h3 : 3 ≤ n) (hn : n ≤ 14) (hm : m ≤ 14) (hnm : n ≠ m) : CtI l yX6_fitting wsX6_fitting (rmd 4) G [.ref (gA G 30 (0)), .int (nI p), .int (nI q), .int (0)] σ (fun r σ2 => r = 0 ∧ σ2 = sgu σ 30 0 23 (-1)) := by
  refine ct_i (maxL := 7) (ret := (some .int)) (by decide) rfl (Nat.le_of_ble_eq_true rfl) hA (fun K hl C => ?_)
  subst hl
  change WW K G _ _ σ [(0, .ref (gA G 30 (0))), (1, .int (nI p)), (2, .int (nI q)), (3, .int (0))] 0 []
  have hst : (sgu σ 30 (0) 23 (-1)) 33 (0) (p) = nI n := by rw [sgu_kk (by decide)]; exact hs
  have hsqt : (sgu σ 30 (0) 23 (-1)) 33 (0) (q) = nI m := by rw [sgu_kk (by decide)]; exact hsq
  refine ww_aload_n C dX6_fitting_0 rfl 0 rfl ?_
  refine ww_iconst (v := -1) C dX6_fitting_1 rfl ?_
  refine ww_pi (k := 30) (f := 23) C rfl rfl (by decide) rfl in_X6_fitting_X6 tyX6_ok nmX6 (by decide) lk_X6_fitting_177 rfl rfl dX6_fitting_2 ?_
  refine ww_aload_n C dX6_fitting_5 rfl 0 rfl ?_
  refine ww_gr (j := 0) (k := 30) (f := 4) C rfl rfl (by decide) rfl in_X6_fitting_X6 (by decide) lk_X6_fitting_16 dX6_fitting_6 rfl ?_
  refine ww_iload_n C dX6_fitting_9 rfl 1 rfl ?_
  refine ww_iald (k := 33) (j := p) C rfl (by decide) (by decide) dX6_fitting_10 rfl hp ?_
  rw [hst]
  refine ww_aload_n C dX6_fitting_11 rfl 0 rfl ?_
  refine ww_gr (j := 0) (k := 30) (f := 4) C rfl rfl (by decide) rfl in_X6_fitting_X6 (by decide) lk_X6_fitting_16 dX6_fitting_12 rfl ?_
  refine ww_iload_n C dX6_fitting_15 rfl 2 rfl ?_
  refine ww_iald (k := 33) (j := q) C rfl (by decide) (by decide) dX6_fitting_16 rfl hq ?_
  rw [hsqt]
  refine ww_icmp_eq 22 C dX6_fitting_17 (by decide) (fun h17 => ?_) (fun h17 => ?_)
  · have g17 : n = m := (cv_eq (a := n) (b := m) rfl rfl (by omega) (by omega)).mp h17
    exact absurd g17 hnm
  · have g17 : ¬ n = m := fun q => h17 ((cv_eq (a := n) (b := m) rfl rfl (by omega) (by omega)).mpr q)
    refine ww_iconst (v := 0) C dX6_fitting_20 rfl ?_
    refine ww_iret C dX6_fitting_21 ?_
    exact ⟨rfl, rfl⟩
set_option maxHeartbeats 4000000 in
set_option maxRecDepth 100000 in
theorem lp_X6_fitting_1 {K : Kx} {G : Gx} (hA : wa G) (C : CX K G cX6_fitting 7 RX6 wsX6_fitting (rmd 4) (some .int)) (σ : Sg) (p q n : Nat) (hp : p < 8) (hs : σ 33 0 p = nI n) (hq : q < 8) (hsq : σ 33 0 q = nI n) (h3 : 3 ≤ n) (hn : n ≤ 14) : ∀ (f k : Nat) (τ : Sg), n - k < f → (k ≤ n) → (τ = sgu σ 30 0 23 (optI (fndN (fitB n (fun i => σ 34 0 (14 * p + i)) (fun i => σ 35 0 (14 * p + i)) (fun i => σ 34 0 (14 * q + i)) (fun i => σ 35 0 (14 * q + i)) true) 0 k))) → WW K G 7 (QI K G (fun r σ2 => r = nI (cntN (fitB n (fun i => σ 34 0 (14 * p + i)) (fun i => σ 35 0 (14 * p + i)) (fun i => σ 34 0 (14 * q + i)) (fun i => σ 35 0 (14 * q + i)) true) n) ∧ σ2 = sgu σ 30 0 23 (optI (fndN (fitB n (fun i => σ 34 0 (14 * p + i)) (fun i => σ 35 0 (14 * p + i)) (fun i => σ 34 0 (14 * q + i)) (fun i => σ 35 0 (14 * q + i)) true) 0 n)))) τ [(5, .int (nI k)), (4, .int (nI (cntN (fitB n (fun i => σ 34 0 (14 * p + i)) (fun i => σ 35 0 (14 * p + i)) (fun i => σ 34 0 (14 * q + i)) (fun i => σ 35 0 (14 * q + i)) true) k))), (0, .ref (gA G 30 (0))), (1, .int (nI p)), (2, .int (nI q)), (3, .int (1))] 28 [] := by
  intro f
  induction f with
  | zero => intro k τ h; exact absurd h (Nat.not_lt_zero _)
  | succ f ih =>
    intro k τ hf hk ht
    have hst : τ 33 0 p = nI n := by rw [ht, sgu_kk (by decide)]; exact hs
    have hsqt : τ 33 0 q = nI n := by rw [ht, sgu_kk (by decide)]; exact hsq
    have e34 : τ 34 = σ 34 := by rw [ht, sgu_kk (by decide)]
    have e35 : τ 35 = σ 35 := by rw [ht, sgu_kk (by decide)]
    have hcl := cntN_le (p := (fitB n (fun i => σ 34 0 (14 * p + i)) (fun i => σ 35 0 (14 * p + i)) (fun i => σ 34 0 (14 * q + i)) (fun i => σ 35 0 (14 * q + i)) true)) k
    refine ww_iload C dX6_fitting_28 0 rfl ?_
    refine ww_aload_n C dX6_fitting_30 rfl 2 rfl ?_
    refine ww_gr (j := 0) (k := 30) (f := 4) C rfl rfl (by decide) rfl in_X6_fitting_X6 (by decide) lk_X6_fitting_16 dX6_fitting_31 rfl ?_
    refine ww_iload_n C dX6_fitting_34 rfl 4 rfl ?_
    refine ww_iald (k := 33) (j := q) C rfl (by decide) (by decide) dX6_fitting_35 rfl hq ?_
    rw [hsqt]
    refine ww_icmp_ge 119 C dX6_fitting_36 (by decide) (fun h36 => ?_) (fun h36 => ?_)
    · have g36 : n ≤ k := (cv_le (a := n) (b := k) rfl rfl (by omega) (by omega)).mp h36
      refine ww_iload C dX6_fitting_119 1 rfl ?_
      refine ww_iret C dX6_fitting_121 ?_
      exact ⟨by rw [show k = n by omega], by rw [ht, show k = n by omega]⟩
    · have g36 : ¬ n ≤ k := fun q => h36 ((cv_le (a := n) (b := k) rfl rfl (by omega) (by omega)).mpr q)
      refine ww_aload_n C dX6_fitting_39 rfl 2 rfl ?_
      refine ww_iload_n C dX6_fitting_40 rfl 3 rfl ?_
      refine ww_iload_n C dX6_fitting_41 rfl 4 rfl ?_
      refine ww_iload C dX6_fitting_42 0 rfl ?_
      refine ww_iconst (v := 1) C dX6_fitting_44 rfl ?_
      refine ww_iload_n C dX6_fitting_45 rfl 5 rfl ?_
      refine ww_calliF (cx_V (n := 5) (As := [.int (nI p), .int (nI q), .int (nI k), .int (1), .int (1)]) C  (c_X6_fits_11 (kL K) G hA _ p q n hp hst hq hsqt h3 hn k (by omega)) gX6_fitting_X6_fits rfl ⟨rfl, rfl⟩ (by decide +kernel) (by decide) rfl (by decide) rfl rfl rfl (Nat.le_of_ble_eq_true rfl) dX6_fitting_46) ?_
      refine ww_if_ne 65 C dX6_fitting_49 (by decide) (fun h49 => ?_) (fun h49 => ?_)
      · refine ww_iconst (v := 1) C dX6_fitting_65 rfl ?_
        refine ww_goto 70 C dX6_fitting_66 (by decide) ?_
        refine ww_istore (fun y1 => [(6, .int (y1)), (5, .int (nI k)), (4, .int (nI (cntN (fitB n (fun i => σ 34 0 (14 * p + i)) (fun i => σ 35 0 (14 * p + i)) (fun i => σ 34 0 (14 * q + i)) (fun i => σ 35 0 (14 * q + i)) true) k))), (0, .ref (gA G 30 (0))), (1, .int (nI p)), (2, .int (nI q)), (3, .int (1))]) C dX6_fitting_70 (by decide) (fun _ => rfl) (fun y1 ey1 => ?_)
        obtain rfl : y1 = nI 1 := (ey1.trans (by decide))
        refine ww_iload C dX6_fitting_72 2 rfl ?_
        refine ww_iload C dX6_fitting_74 0 rfl ?_
        refine ww_if_eq 83 C dX6_fitting_76 (by decide) (fun h76 => ?_) (fun h76 => ?_)
        · have g76 : 1 = 0 := (cv_eq (a := 1) (b := 0) rfl (by decide) (by omega) (by omega)).mp h76
          exact absurd g76 (by decide)
        · have g76 : ¬ 1 = 0 := fun q => h76 ((cv_eq (a := 1) (b := 0) rfl (by decide) (by omega) (by omega)).mpr q)
          refine ww_iconst (v := 1) C dX6_fitting_79 rfl ?_
          refine ww_goto 84 C dX6_fitting_80 (by decide) ?_
          refine ww_iadd C dX6_fitting_84 ?_
          rw [show (nI (cntN (fitB n (fun i => σ 34 0 (14 * p + i)) (fun i => σ 35 0 (14 * p + i)) (fun i => σ 34 0 (14 * q + i)) (fun i => σ 35 0 (14 * q + i)) true) k)) + (1) = nI (cntN (fitB n (fun i => σ 34 0 (14 * p + i)) (fun i => σ 35 0 (14 * p + i)) (fun i => σ 34 0 (14 * q + i)) (fun i => σ 35 0 (14 * q + i)) true) k + 1) from nI_add (cntN (fitB n (fun i => σ 34 0 (14 * p + i)) (fun i => σ 35 0 (14 * p + i)) (fun i => σ 34 0 (14 * q + i)) (fun i => σ 35 0 (14 * q + i)) true) k) (1)]
          refine ww_istore (fun y2 => [(4, .int (y2)), (6, .int (nI 1)), (5, .int (nI k)), (0, .ref (gA G 30 (0))), (1, .int (nI p)), (2, .int (nI q)), (3, .int (1))]) C dX6_fitting_85 (by decide) (fun _ => rfl) (fun y2 ey2 => ?_)
          obtain rfl : y2 = nI (cntN (fitB n (fun i => σ 34 0 (14 * p + i)) (fun i => σ 35 0 (14 * p + i)) (fun i => σ 34 0 (14 * q + i)) (fun i => σ 35 0 (14 * q + i)) true) k + 1) := ey2
          refine ww_aload_n C dX6_fitting_87 rfl 3 rfl ?_
          refine ww_iload C dX6_fitting_88 1 rfl ?_
          refine ww_if_eq 106 C dX6_fitting_90 (by decide) (fun h90 => ?_) (fun h90 => ?_)
          · have g90 : 1 = 0 := (cv_eq (a := 1) (b := 0) rfl (by decide) (by omega) (by omega)).mp h90
            exact absurd g90 (by decide)
          · have g90 : ¬ 1 = 0 := fun q => h90 ((cv_eq (a := 1) (b := 0) rfl (by decide) (by omega) (by omega)).mpr q)
            refine ww_aload_n C dX6_fitting_93 rfl 3 rfl ?_
            refine ww_gi (k := 30) (f := 23) C rfl rfl (by decide) rfl in_X6_fitting_X6 (by decide) lk_X6_fitting_177 dX6_fitting_94 ?_
            refine ww_iconst (v := -1) C dX6_fitting_97 rfl ?_
            refine ww_icmp_ne 106 C dX6_fitting_98 (by decide) (fun h98 => ?_) (fun h98 => ?_)
            · refine ww_aload_n C dX6_fitting_106 rfl 3 rfl ?_
              refine ww_gi (k := 30) (f := 23) C rfl rfl (by decide) rfl in_X6_fitting_X6 (by decide) lk_X6_fitting_177 dX6_fitting_107 ?_
              refine ww_pi (k := 30) (f := 23) C rfl rfl (by decide) rfl in_X6_fitting_X6 tyX6_ok nmX6 (by decide) lk_X6_fitting_177 rfl rfl dX6_fitting_110 ?_
              obtain ⟨σ3, hσ3⟩ : ∃ z : Sg, z = (sgu τ 30 (0) 23 (τ 30 (0) 23)) := ⟨_, rfl⟩
              rw [← hσ3]
              refine ww_iinc (q := 2) (fun y4 => [(5, .int (y4)), (4, .int (nI (cntN (fitB n (fun i => σ 34 0 (14 * p + i)) (fun i => σ 35 0 (14 * p + i)) (fun i => σ 34 0 (14 * q + i)) (fun i => σ 35 0 (14 * q + i)) true) k + 1))), (6, .int (nI 1)), (0, .ref (gA G 30 (0))), (1, .int (nI p)), (2, .int (nI q)), (3, .int (1))]) C dX6_fitting_113 rfl (by decide) (fun _ => rfl) (fun y4 ey4 => ?_)
              obtain rfl : y4 = nI (k + 1) := ninc rfl ey4
              refine ww_goto 28 C dX6_fitting_116 (by decide) ?_
              have hF : (fitB n (fun i => σ 34 0 (14 * p + i)) (fun i => σ 35 0 (14 * p + i)) (fun i => σ 34 0 (14 * q + i)) (fun i => σ 35 0 (14 * q + i)) true) k = true := by rw [fitB, ← e34, ← e35, bI_1.mp h49]; rfl
              have hl : τ 30 0 23 = optI (fndN (fitB n (fun i => σ 34 0 (14 * p + i)) (fun i => σ 35 0 (14 * p + i)) (fun i => σ 34 0 (14 * q + i)) (fun i => σ 35 0 (14 * q + i)) true) 0 k) := by rw [ht, sgu_self]
              rw [show cntN (fitB n (fun i => σ 34 0 (14 * p + i)) (fun i => σ 35 0 (14 * p + i)) (fun i => σ 34 0 (14 * q + i)) (fun i => σ 35 0 (14 * q + i)) true) k + 1 = cntN (fitB n (fun i => σ 34 0 (14 * p + i)) (fun i => σ 35 0 (14 * p + i)) (fun i => σ 34 0 (14 * q + i)) (fun i => σ 35 0 (14 * q + i)) true) (k + 1) from (cntN_t hF).symm]
              exact ww_sub [0, 1, 3, 4, 5, 6] rfl (ih (k + 1) _ (by omega) (by omega) (by rw [hσ3, hl, ht, sgu_sgu, ft_s (by rw [hl] at h98; exact h98)]))
            · refine ww_iload C dX6_fitting_101 2 rfl ?_
              refine ww_goto 110 C dX6_fitting_103 (by decide) ?_
              refine ww_pi (k := 30) (f := 23) C rfl rfl (by decide) rfl in_X6_fitting_X6 tyX6_ok nmX6 (by decide) lk_X6_fitting_177 rfl rfl dX6_fitting_110 ?_
              obtain ⟨σ5, hσ5⟩ : ∃ z : Sg, z = (sgu τ 30 (0) 23 (nI k)) := ⟨_, rfl⟩
              rw [← hσ5]
              refine ww_iinc (q := 2) (fun y6 => [(5, .int (y6)), (4, .int (nI (cntN (fitB n (fun i => σ 34 0 (14 * p + i)) (fun i => σ 35 0 (14 * p + i)) (fun i => σ 34 0 (14 * q + i)) (fun i => σ 35 0 (14 * q + i)) true) k + 1))), (6, .int (nI 1)), (0, .ref (gA G 30 (0))), (1, .int (nI p)), (2, .int (nI q)), (3, .int (1))]) C dX6_fitting_113 rfl (by decide) (fun _ => rfl) (fun y6 ey6 => ?_)
              obtain rfl : y6 = nI (k + 1) := ninc rfl ey6
              refine ww_goto 28 C dX6_fitting_116 (by decide) ?_
              have hF : (fitB n (fun i => σ 34 0 (14 * p + i)) (fun i => σ 35 0 (14 * p + i)) (fun i => σ 34 0 (14 * q + i)) (fun i => σ 35 0 (14 * q + i)) true) k = true := by rw [fitB, ← e34, ← e35, bI_1.mp h49]; rfl
              have hl : τ 30 0 23 = optI (fndN (fitB n (fun i => σ 34 0 (14 * p + i)) (fun i => σ 35 0 (14 * p + i)) (fun i => σ 34 0 (14 * q + i)) (fun i => σ 35 0 (14 * q + i)) true) 0 k) := by rw [ht, sgu_self]
              rw [show cntN (fitB n (fun i => σ 34 0 (14 * p + i)) (fun i => σ 35 0 (14 * p + i)) (fun i => σ 34 0 (14 * q + i)) (fun i => σ 35 0 (14 * q + i)) true) k + 1 = cntN (fitB n (fun i => σ 34 0 (14 * p + i)) (fun i => σ 35 0 (14 * p + i)) (fun i => σ 34 0 (14 * q + i)) (fun i => σ 35 0 (14 * q + i)) true) (k + 1) from (cntN_t hF).symm]
              exact ww_sub [0, 1, 3, 4, 5, 6] rfl (ih (k + 1) _ (by omega) (by omega) (by rw [hσ5, ht, sgu_sgu, ft_t hF (by omega) (by rw [hl] at h98; exact h98)]))
      · refine ww_aload_n C dX6_fitting_52 rfl 2 rfl ?_
        refine ww_iload_n C dX6_fitting_53 rfl 3 rfl ?_
        refine ww_iload_n C dX6_fitting_54 rfl 4 rfl ?_
        refine ww_iload C dX6_fitting_55 0 rfl ?_
        refine ww_iconst (v := 0) C dX6_fitting_57 rfl ?_
        refine ww_iload_n C dX6_fitting_58 rfl 5 rfl ?_
        refine ww_calliF (cx_V (n := 5) (As := [.int (nI p), .int (nI q), .int (nI k), .int (0), .int (1)]) C  (c_X6_fits_01 (kL K) G hA _ p q n hp hst hq hsqt h3 hn k (by omega)) gX6_fitting_X6_fits rfl ⟨rfl, rfl⟩ (by decide +kernel) (by decide) rfl (by decide) rfl rfl rfl (Nat.le_of_ble_eq_true rfl) dX6_fitting_59) ?_
        refine ww_if_eq 69 C dX6_fitting_62 (by decide) (fun h62 => ?_) (fun h62 => ?_)
        · refine ww_iconst (v := 0) C dX6_fitting_69 rfl ?_
          refine ww_istore (fun y7 => [(6, .int (y7)), (5, .int (nI k)), (4, .int (nI (cntN (fitB n (fun i => σ 34 0 (14 * p + i)) (fun i => σ 35 0 (14 * p + i)) (fun i => σ 34 0 (14 * q + i)) (fun i => σ 35 0 (14 * q + i)) true) k))), (0, .ref (gA G 30 (0))), (1, .int (nI p)), (2, .int (nI q)), (3, .int (1))]) C dX6_fitting_70 (by decide) (fun _ => rfl) (fun y7 ey7 => ?_)
          obtain rfl : y7 = nI 0 := (ey7.trans (by decide))
          refine ww_iload C dX6_fitting_72 2 rfl ?_
          refine ww_iload C dX6_fitting_74 0 rfl ?_
          refine ww_if_eq 83 C dX6_fitting_76 (by decide) (fun h76 => ?_) (fun h76 => ?_)
          · have g76 : 0 = 0 := (cv_eq (a := 0) (b := 0) rfl (by decide) (by omega) (by omega)).mp h76
            refine ww_iconst (v := 0) C dX6_fitting_83 rfl ?_
            refine ww_iadd C dX6_fitting_84 ?_
            rw [show (nI (cntN (fitB n (fun i => σ 34 0 (14 * p + i)) (fun i => σ 35 0 (14 * p + i)) (fun i => σ 34 0 (14 * q + i)) (fun i => σ 35 0 (14 * q + i)) true) k)) + (0) = nI (cntN (fitB n (fun i => σ 34 0 (14 * p + i)) (fun i => σ 35 0 (14 * p + i)) (fun i => σ 34 0 (14 * q + i)) (fun i => σ 35 0 (14 * q + i)) true) k + 0) from nI_add (cntN (fitB n (fun i => σ 34 0 (14 * p + i)) (fun i => σ 35 0 (14 * p + i)) (fun i => σ 34 0 (14 * q + i)) (fun i => σ 35 0 (14 * q + i)) true) k) (0)]
            refine ww_istore (fun y8 => [(4, .int (y8)), (6, .int (nI 0)), (5, .int (nI k)), (0, .ref (gA G 30 (0))), (1, .int (nI p)), (2, .int (nI q)), (3, .int (1))]) C dX6_fitting_85 (by decide) (fun _ => rfl) (fun y8 ey8 => ?_)
            obtain rfl : y8 = nI (cntN (fitB n (fun i => σ 34 0 (14 * p + i)) (fun i => σ 35 0 (14 * p + i)) (fun i => σ 34 0 (14 * q + i)) (fun i => σ 35 0 (14 * q + i)) true) k + 0) := ey8
            refine ww_aload_n C dX6_fitting_87 rfl 3 rfl ?_
            refine ww_iload C dX6_fitting_88 1 rfl ?_
            refine ww_if_eq 106 C dX6_fitting_90 (by decide) (fun h90 => ?_) (fun h90 => ?_)
            · have g90 : 0 = 0 := (cv_eq (a := 0) (b := 0) rfl (by decide) (by omega) (by omega)).mp h90
              refine ww_aload_n C dX6_fitting_106 rfl 3 rfl ?_
              refine ww_gi (k := 30) (f := 23) C rfl rfl (by decide) rfl in_X6_fitting_X6 (by decide) lk_X6_fitting_177 dX6_fitting_107 ?_
              refine ww_pi (k := 30) (f := 23) C rfl rfl (by decide) rfl in_X6_fitting_X6 tyX6_ok nmX6 (by decide) lk_X6_fitting_177 rfl rfl dX6_fitting_110 ?_
              obtain ⟨σ9, hσ9⟩ : ∃ z : Sg, z = (sgu τ 30 (0) 23 (τ 30 (0) 23)) := ⟨_, rfl⟩
              rw [← hσ9]
              refine ww_iinc (q := 2) (fun y10 => [(5, .int (y10)), (4, .int (nI (cntN (fitB n (fun i => σ 34 0 (14 * p + i)) (fun i => σ 35 0 (14 * p + i)) (fun i => σ 34 0 (14 * q + i)) (fun i => σ 35 0 (14 * q + i)) true) k + 0))), (6, .int (nI 0)), (0, .ref (gA G 30 (0))), (1, .int (nI p)), (2, .int (nI q)), (3, .int (1))]) C dX6_fitting_113 rfl (by decide) (fun _ => rfl) (fun y10 ey10 => ?_)
              obtain rfl : y10 = nI (k + 1) := ninc rfl ey10
              refine ww_goto 28 C dX6_fitting_116 (by decide) ?_
              have hF : (fitB n (fun i => σ 34 0 (14 * p + i)) (fun i => σ 35 0 (14 * p + i)) (fun i => σ 34 0 (14 * q + i)) (fun i => σ 35 0 (14 * q + i)) true) k = false := by rw [fitB, ← e34, ← e35, bI_0.mp h49, bI_0.mp h62]; rfl
              have hl : τ 30 0 23 = optI (fndN (fitB n (fun i => σ 34 0 (14 * p + i)) (fun i => σ 35 0 (14 * p + i)) (fun i => σ 34 0 (14 * q + i)) (fun i => σ 35 0 (14 * q + i)) true) 0 k) := by rw [ht, sgu_self]
              rw [show cntN (fitB n (fun i => σ 34 0 (14 * p + i)) (fun i => σ 35 0 (14 * p + i)) (fun i => σ 34 0 (14 * q + i)) (fun i => σ 35 0 (14 * q + i)) true) k + 0 = cntN (fitB n (fun i => σ 34 0 (14 * p + i)) (fun i => σ 35 0 (14 * p + i)) (fun i => σ 34 0 (14 * q + i)) (fun i => σ 35 0 (14 * q + i)) true) (k + 1) from (cntN_f hF).symm]
              exact ww_sub [0, 1, 3, 4, 5, 6] rfl (ih (k + 1) _ (by omega) (by omega) (by rw [hσ9, hl, ht, sgu_sgu, ft_f hF]))
            · have g90 : ¬ 0 = 0 := fun q => h90 ((cv_eq (a := 0) (b := 0) rfl (by decide) (by omega) (by omega)).mpr q)
              exact absurd g90 (by decide)
          · have g76 : ¬ 0 = 0 := fun q => h76 ((cv_eq (a := 0) (b := 0) rfl (by decide) (by omega) (by omega)).mpr q)
            exact absurd g76 (by decide)
        · refine ww_iconst (v := 1) C dX6_fitting_65 rfl ?_
          refine ww_goto 70 C dX6_fitting_66 (by decide) ?_
          refine ww_istore (fun y11 => [(6, .int (y11)), (5, .int (nI k)), (4, .int (nI (cntN (fitB n (fun i => σ 34 0 (14 * p + i)) (fun i => σ 35 0 (14 * p + i)) (fun i => σ 34 0 (14 * q + i)) (fun i => σ 35 0 (14 * q + i)) true) k))), (0, .ref (gA G 30 (0))), (1, .int (nI p)), (2, .int (nI q)), (3, .int (1))]) C dX6_fitting_70 (by decide) (fun _ => rfl) (fun y11 ey11 => ?_)
          obtain rfl : y11 = nI 1 := (ey11.trans (by decide))
          refine ww_iload C dX6_fitting_72 2 rfl ?_
          refine ww_iload C dX6_fitting_74 0 rfl ?_
          refine ww_if_eq 83 C dX6_fitting_76 (by decide) (fun h76 => ?_) (fun h76 => ?_)
          · have g76 : 1 = 0 := (cv_eq (a := 1) (b := 0) rfl (by decide) (by omega) (by omega)).mp h76
            exact absurd g76 (by decide)
          · have g76 : ¬ 1 = 0 := fun q => h76 ((cv_eq (a := 1) (b := 0) rfl (by decide) (by omega) (by omega)).mpr q)
            refine ww_iconst (v := 1) C dX6_fitting_79 rfl ?_
            refine ww_goto 84 C dX6_fitting_80 (by decide) ?_
            refine ww_iadd C dX6_fitting_84 ?_
            rw [show (nI (cntN (fitB n (fun i => σ 34 0 (14 * p + i)) (fun i => σ 35 0 (14 * p + i)) (fun i => σ 34 0 (14 * q + i)) (fun i => σ 35 0 (14 * q + i)) true) k)) + (1) = nI (cntN (fitB n (fun i => σ 34 0 (14 * p + i)) (fun i => σ 35 0 (14 * p + i)) (fun i => σ 34 0 (14 * q + i)) (fun i => σ 35 0 (14 * q + i)) true) k + 1) from nI_add (cntN (fitB n (fun i => σ 34 0 (14 * p + i)) (fun i => σ 35 0 (14 * p + i)) (fun i => σ 34 0 (14 * q + i)) (fun i => σ 35 0 (14 * q + i)) true) k) (1)]
            refine ww_istore (fun y12 => [(4, .int (y12)), (6, .int (nI 1)), (5, .int (nI k)), (0, .ref (gA G 30 (0))), (1, .int (nI p)), (2, .int (nI q)), (3, .int (1))]) C dX6_fitting_85 (by decide) (fun _ => rfl) (fun y12 ey12 => ?_)
            obtain rfl : y12 = nI (cntN (fitB n (fun i => σ 34 0 (14 * p + i)) (fun i => σ 35 0 (14 * p + i)) (fun i => σ 34 0 (14 * q + i)) (fun i => σ 35 0 (14 * q + i)) true) k + 1) := ey12
            refine ww_aload_n C dX6_fitting_87 rfl 3 rfl ?_
            refine ww_iload C dX6_fitting_88 1 rfl ?_
            refine ww_if_eq 106 C dX6_fitting_90 (by decide) (fun h90 => ?_) (fun h90 => ?_)
            · have g90 : 1 = 0 := (cv_eq (a := 1) (b := 0) rfl (by decide) (by omega) (by omega)).mp h90
              exact absurd g90 (by decide)
            · have g90 : ¬ 1 = 0 := fun q => h90 ((cv_eq (a := 1) (b := 0) rfl (by decide) (by omega) (by omega)).mpr q)
              refine ww_aload_n C dX6_fitting_93 rfl 3 rfl ?_
              refine ww_gi (k := 30) (f := 23) C rfl rfl (by decide) rfl in_X6_fitting_X6 (by decide) lk_X6_fitting_177 dX6_fitting_94 ?_
              refine ww_iconst (v := -1) C dX6_fitting_97 rfl ?_
              refine ww_icmp_ne 106 C dX6_fitting_98 (by decide) (fun h98 => ?_) (fun h98 => ?_)
              · refine ww_aload_n C dX6_fitting_106 rfl 3 rfl ?_
                refine ww_gi (k := 30) (f := 23) C rfl rfl (by decide) rfl in_X6_fitting_X6 (by decide) lk_X6_fitting_177 dX6_fitting_107 ?_
                refine ww_pi (k := 30) (f := 23) C rfl rfl (by decide) rfl in_X6_fitting_X6 tyX6_ok nmX6 (by decide) lk_X6_fitting_177 rfl rfl dX6_fitting_110 ?_
                obtain ⟨σ13, hσ13⟩ : ∃ z : Sg, z = (sgu τ 30 (0) 23 (τ 30 (0) 23)) := ⟨_, rfl⟩
                rw [← hσ13]
                refine ww_iinc (q := 2) (fun y14 => [(5, .int (y14)), (4, .int (nI (cntN (fitB n (fun i => σ 34 0 (14 * p + i)) (fun i => σ 35 0 (14 * p + i)) (fun i => σ 34 0 (14 * q + i)) (fun i => σ 35 0 (14 * q + i)) true) k + 1))), (6, .int (nI 1)), (0, .ref (gA G 30 (0))), (1, .int (nI p)), (2, .int (nI q)), (3, .int (1))]) C dX6_fitting_113 rfl (by decide) (fun _ => rfl) (fun y14 ey14 => ?_)
                obtain rfl : y14 = nI (k + 1) := ninc rfl ey14
                refine ww_goto 28 C dX6_fitting_116 (by decide) ?_
                have hF : (fitB n (fun i => σ 34 0 (14 * p + i)) (fun i => σ 35 0 (14 * p + i)) (fun i => σ 34 0 (14 * q + i)) (fun i => σ 35 0 (14 * q + i)) true) k = true := by rw [fitB, ← e34, ← e35, bI_0.mp h49, bI_1.mp h62]; rfl
                have hl : τ 30 0 23 = optI (fndN (fitB n (fun i => σ 34 0 (14 * p + i)) (fun i => σ 35 0 (14 * p + i)) (fun i => σ 34 0 (14 * q + i)) (fun i => σ 35 0 (14 * q + i)) true) 0 k) := by rw [ht, sgu_self]
                rw [show cntN (fitB n (fun i => σ 34 0 (14 * p + i)) (fun i => σ 35 0 (14 * p + i)) (fun i => σ 34 0 (14 * q + i)) (fun i => σ 35 0 (14 * q + i)) true) k + 1 = cntN (fitB n (fun i => σ 34 0 (14 * p + i)) (fun i => σ 35 0 (14 * p + i)) (fun i => σ 34 0 (14 * q + i)) (fun i => σ 35 0 (14 * q + i)) true) (k + 1) from (cntN_t hF).symm]
                exact ww_sub [0, 1, 3, 4, 5, 6] rfl (ih (k + 1) _ (by omega) (by omega) (by rw [hσ13, hl, ht, sgu_sgu, ft_s (by rw [hl] at h98; exact h98)]))
              · refine ww_iload C dX6_fitting_101 2 rfl ?_
                refine ww_goto 110 C dX6_fitting_103 (by decide) ?_
                refine ww_pi (k := 30) (f := 23) C rfl rfl (by decide) rfl in_X6_fitting_X6 tyX6_ok nmX6 (by decide) lk_X6_fitting_177 rfl rfl dX6_fitting_110 ?_
                obtain ⟨σ15, hσ15⟩ : ∃ z : Sg, z = (sgu τ 30 (0) 23 (nI k)) := ⟨_, rfl⟩
                rw [← hσ15]
                refine ww_iinc (q := 2) (fun y16 => [(5, .int (y16)), (4, .int (nI (cntN (fitB n (fun i => σ 34 0 (14 * p + i)) (fun i => σ 35 0 (14 * p + i)) (fun i => σ 34 0 (14 * q + i)) (fun i => σ 35 0 (14 * q + i)) true) k + 1))), (6, .int (nI 1)), (0, .ref (gA G 30 (0))), (1, .int (nI p)), (2, .int (nI q)), (3, .int (1))]) C dX6_fitting_113 rfl (by decide) (fun _ => rfl) (fun y16 ey16 => ?_)
                obtain rfl : y16 = nI (k + 1) := ninc rfl ey16
                refine ww_goto 28 C dX6_fitting_116 (by decide) ?_
                have hF : (fitB n (fun i => σ 34 0 (14 * p + i)) (fun i => σ 35 0 (14 * p + i)) (fun i => σ 34 0 (14 * q + i)) (fun i => σ 35 0 (14 * q + i)) true) k = true := by rw [fitB, ← e34, ← e35, bI_0.mp h49, bI_1.mp h62]; rfl
                have hl : τ 30 0 23 = optI (fndN (fitB n (fun i => σ 34 0 (14 * p + i)) (fun i => σ 35 0 (14 * p + i)) (fun i => σ 34 0 (14 * q + i)) (fun i => σ 35 0 (14 * q + i)) true) 0 k) := by rw [ht, sgu_self]
                rw [show cntN (fitB n (fun i => σ 34 0 (14 * p + i)) (fun i => σ 35 0 (14 * p + i)) (fun i => σ 34 0 (14 * q + i)) (fun i => σ 35 0 (14 * q + i)) true) k + 1 = cntN (fitB n (fun i => σ 34 0 (14 * p + i)) (fun i => σ 35 0 (14 * p + i)) (fun i => σ 34 0 (14 * q + i)) (fun i => σ 35 0 (14 * q + i)) true) (k + 1) from (cntN_t hF).symm]
                exact ww_sub [0, 1, 3, 4, 5, 6] rfl (ih (k + 1) _ (by omega) (by omega) (by rw [hσ15, ht, sgu_sgu, ft_t hF (by omega) (by rw [hl] at h98; exact h98)]))
set_option maxHeartbeats 4000000 in
set_option maxRecDepth 100000 in
theorem c_X6_fitting_e1 (l : Launch) (G : Gx) (hA : wa G) (σ : Sg) (p q n : Nat) (hp : p < 8) (hs : σ 33 0 p = nI n) (hq : q < 8) (hsq : σ 33 0 q = nI n) (h3 : 3 ≤ n) (hn : n ≤ 14) : CtI l yX6_fitting wsX6_fitting (rmd 4) G [.ref (gA G 30 (0)), .int (nI p), .int (nI q), .int (1)] σ (fun r σ2 => r = nI (cntN (fitB n (fun i => σ 34 0 (14 * p + i)) (fun i => σ 35 0 (14 * p + i)) (fun i => σ 34 0 (14 * q + i)) (fun i => σ 35 0 (14 * q + i)) true) n) ∧ σ2 = sgu σ 30 0 23 (optI (fndN (fitB n (fun i => σ 34 0 (14 * p + i)) (fun i => σ 35 0 (14 * p + i)) (fun i => σ 34 0 (14 * q + i)) (fun i => σ 35 0 (14 * q + i)) true) 0 n))) := by
  refine ct_i (maxL := 7) (ret := (some .int)) (by decide) rfl (Nat.le_of_ble_eq_true rfl) hA (fun K hl C => ?_)
  subst hl
  change WW K G _ _ σ [(0, .ref (gA G 30 (0))), (1, .int (nI p)), (2, .int (nI q)), (3, .int (1))] 0 []
  have hst : (sgu σ 30 (0) 23 (-1)) 33 (0) (p) = nI n := by rw [sgu_kk (by decide)]; exact hs
  have hsqt : (sgu σ 30 (0) 23 (-1)) 33 (0) (q) = nI n := by rw [sgu_kk (by decide)]; exact hsq
  refine ww_aload_n C dX6_fitting_0 rfl 0 rfl ?_
  refine ww_iconst (v := -1) C dX6_fitting_1 rfl ?_
  refine ww_pi (k := 30) (f := 23) C rfl rfl (by decide) rfl in_X6_fitting_X6 tyX6_ok nmX6 (by decide) lk_X6_fitting_177 rfl rfl dX6_fitting_2 ?_
  refine ww_aload_n C dX6_fitting_5 rfl 0 rfl ?_
  refine ww_gr (j := 0) (k := 30) (f := 4) C rfl rfl (by decide) rfl in_X6_fitting_X6 (by decide) lk_X6_fitting_16 dX6_fitting_6 rfl ?_
  refine ww_iload_n C dX6_fitting_9 rfl 1 rfl ?_
  refine ww_iald (k := 33) (j := p) C rfl (by decide) (by decide) dX6_fitting_10 rfl hp ?_
  rw [hst]
  refine ww_aload_n C dX6_fitting_11 rfl 0 rfl ?_
  refine ww_gr (j := 0) (k := 30) (f := 4) C rfl rfl (by decide) rfl in_X6_fitting_X6 (by decide) lk_X6_fitting_16 dX6_fitting_12 rfl ?_
  refine ww_iload_n C dX6_fitting_15 rfl 2 rfl ?_
  refine ww_iald (k := 33) (j := q) C rfl (by decide) (by decide) dX6_fitting_16 rfl hq ?_
  rw [hsqt]
  refine ww_icmp_eq 22 C dX6_fitting_17 (by decide) (fun h17 => ?_) (fun h17 => ?_)
  · have g17 : n = n := (cv_eq (a := n) (b := n) rfl rfl (by omega) (by omega)).mp h17
    refine ww_iconst (v := 0) C dX6_fitting_22 rfl ?_
    refine ww_istore (fun y1 => [(4, .int (y1)), (0, .ref (gA G 30 (0))), (1, .int (nI p)), (2, .int (nI q)), (3, .int (1))]) C dX6_fitting_23 (by decide) (fun _ => rfl) (fun y1 ey1 => ?_)
    obtain rfl : y1 = nI 0 := (ey1.trans (by decide))
    refine ww_iconst (v := 0) C dX6_fitting_25 rfl ?_
    refine ww_istore (fun y2 => [(5, .int (y2)), (4, .int (nI 0)), (0, .ref (gA G 30 (0))), (1, .int (nI p)), (2, .int (nI q)), (3, .int (1))]) C dX6_fitting_26 (by decide) (fun _ => rfl) (fun y2 ey2 => ?_)
    obtain rfl : y2 = nI 0 := (ey2.trans (by decide))
    exact ww_sub [0, 1, 2, 3, 4, 5] rfl (lp_X6_fitting_1 hA C σ p q n hp hs hq hsq h3 hn (n + 1) 0 _ (by omega) (by omega) rfl)
  · have g17 : ¬ n = n := fun q => h17 ((cv_eq (a := n) (b := n) rfl rfl (by omega) (by omega)).mpr q)
    exact absurd rfl g17
set_option maxHeartbeats 4000000 in
set_option maxRecDepth 100000 in
theorem c_X6_fitting_d1 (l : Launch) (G : Gx) (hA : wa G) (σ : Sg) (p q n m : Nat) (hp : p < 8) (hs : σ 33 0 p = nI n) (hq : q < 8) (hsq : σ 33 0 q = nI m) (h3 : 3 ≤ n) (hn : n ≤ 14) (hm : m ≤ 14) (hnm : n ≠ m) : CtI l yX6_fitting wsX6_fitting (rmd 4) G [.ref (gA G 30 (0)), .int (nI p), .int (nI q), .int (1)] σ (fun r σ2 => r = 0 ∧ σ2 = sgu σ 30 0 23 (-1)) := by
  refine ct_i (maxL := 7) (ret := (some .int)) (by decide) rfl (Nat.le_of_ble_eq_true rfl) hA (fun K hl C => ?_)
  subst hl
  change WW K G _ _ σ [(0, .ref (gA G 30 (0))), (1, .int (nI p)), (2, .int (nI q)), (3, .int (1))] 0 []
  have hst : (sgu σ 30 (0) 23 (-1)) 33 (0) (p) = nI n := by rw [sgu_kk (by decide)]; exact hs
  have hsqt : (sgu σ 30 (0) 23 (-1)) 33 (0) (q) = nI m := by rw [sgu_kk (by decide)]; exact hsq
  refine ww_aload_n C dX6_fitting_0 rfl 0 rfl ?_
  refine ww_iconst (v := -1) C dX6_fitting_1 rfl ?_
  refine ww_pi (k := 30) (f := 23) C rfl rfl (by decide) rfl in_X6_fitting_X6 tyX6_ok nmX6 (by decide) lk_X6_fitting_177 rfl rfl dX6_fitting_2 ?_
  refine ww_aload_n C dX6_fitting_5 rfl 0 rfl ?_
  refine ww_gr (j := 0) (k := 30) (f := 4) C rfl rfl (by decide) rfl in_X6_fitting_X6 (by decide) lk_X6_fitting_16 dX6_fitting_6 rfl ?_
  refine ww_iload_n C dX6_fitting_9 rfl 1 rfl ?_
  refine ww_iald (k := 33) (j := p) C rfl (by decide) (by decide) dX6_fitting_10 rfl hp ?_
  rw [hst]
  refine ww_aload_n C dX6_fitting_11 rfl 0 rfl ?_
  refine ww_gr (j := 0) (k := 30) (f := 4) C rfl rfl (by decide) rfl in_X6_fitting_X6 (by decide) lk_X6_fitting_16 dX6_fitting_12 rfl ?_
  refine ww_iload_n C dX6_fitting_15 rfl 2 rfl ?_
  refine ww_iald (k := 33) (j := q) C rfl (by decide) (by decide) dX6_fitting_16 rfl hq ?_
  rw [hsqt]
  refine ww_icmp_eq 22 C dX6_fitting_17 (by decide) (fun h17 => ?_) (fun h17 => ?_)
  · have g17 : n = m := (cv_eq (a := n) (b := m) rfl rfl (by omega) (by omega)).mp h17
    exact absurd g17 hnm
  · have g17 : ¬ n = m := fun q => h17 ((cv_eq (a := n) (b := m) rfl rfl (by omega) (by omega)).mpr q)
    refine ww_iconst (v := 0) C dX6_fitting_20 rfl ?_
    refine ww_iret C dX6_fitting_21 ?_
    exact ⟨rfl, rfl⟩
def ftP (n m : Nat) (x y u v : Nat → Int32) (ov : Bool) (k : Nat) : Bool := decide (n = m) && fitB n x y u v ov k
theorem ftP_e {n : Nat} {x y u v : Nat → Int32} {ov : Bool} : ftP n n x y u v ov = fitB n x y u v ov := by
  funext k
  simp [ftP]
theorem fndN_no {p : Nat → Bool} : ∀ (n : Nat), (∀ k, p k = false) → fndN p 0 n = none
  | 0, _ => rfl
  | n + 1, h => by rw [fndN_snoc, fndN_no n h]; simp [h n]
theorem cntN_no {p : Nat → Bool} : ∀ (n : Nat), (∀ k, p k = false) → cntN p n = 0
  | 0, _ => rfl
  | n + 1, h => by rw [cntN_f (h n), cntN_no n h]
theorem ftP_d {n m : Nat} {x y u v : Nat → Int32} {ov : Bool} (h : n ≠ m) (k : Nat) : ftP n m x y u v ov k = false := by
  simp [ftP, h]
theorem c_fitting_0 (l : Launch) (G : Gx) (hA : wa G) (σ : Sg) (p q n m : Nat) (hp : p < 8) (hs : σ 33 0 p = nI n) (hq : q < 8) (hsq : σ 33 0 q = nI m) (h3 : 3 ≤ n) (hn : n ≤ 14) (hm : m ≤ 14) : CtI l yX6_fitting wsX6_fitting (rmd 4) G [.ref (gA G 30 (0)), .int (nI p), .int (nI q), .int (0)] σ (fun r σ2 => r = nI (cntN (ftP n m (fun i => σ 34 0 (14 * p + i)) (fun i => σ 35 0 (14 * p + i)) (fun i => σ 34 0 (14 * q + i)) (fun i => σ 35 0 (14 * q + i)) false) m) ∧ σ2 = sgu σ 30 0 23 (optI (fndN (ftP n m (fun i => σ 34 0 (14 * p + i)) (fun i => σ 35 0 (14 * p + i)) (fun i => σ 34 0 (14 * q + i)) (fun i => σ 35 0 (14 * q + i)) false) 0 m))) := by
  by_cases h : n = m
  · subst h
    rw [ftP_e]
    exact c_X6_fitting_e0 l G hA σ p q n hp hs hq hsq h3 hn
  · rw [cntN_no m (ftP_d h), fndN_no m (ftP_d h)]
    exact c_X6_fitting_d0 l G hA σ p q n m hp hs hq hsq h3 hn hm h
theorem c_fitting_1 (l : Launch) (G : Gx) (hA : wa G) (σ : Sg) (p q n m : Nat) (hp : p < 8) (hs : σ 33 0 p = nI n) (hq : q < 8) (hsq : σ 33 0 q = nI m) (h3 : 3 ≤ n) (hn : n ≤ 14) (hm : m ≤ 14) : CtI l yX6_fitting wsX6_fitting (rmd 4) G [.ref (gA G 30 (0)), .int (nI p), .int (nI q), .int (1)] σ (fun r σ2 => r = nI (cntN (ftP n m (fun i => σ 34 0 (14 * p + i)) (fun i => σ 35 0 (14 * p + i)) (fun i => σ 34 0 (14 * q + i)) (fun i => σ 35 0 (14 * q + i)) true) m) ∧ σ2 = sgu σ 30 0 23 (optI (fndN (ftP n m (fun i => σ 34 0 (14 * p + i)) (fun i => σ 35 0 (14 * p + i)) (fun i => σ 34 0 (14 * q + i)) (fun i => σ 35 0 (14 * q + i)) true) 0 m))) := by
  by_cases h : n = m
  · subst h
    rw [ftP_e]
    exact c_X6_fitting_e1 l G hA σ p q n hp hs hq hsq h3 hn
  · rw [cntN_no m (ftP_d h), fndN_no m (ftP_d h)]
    exact c_X6_fitting_d1 l G hA σ p q n m hp hs hq hsq h3 hn hm h
theorem cnt_fnd {p : Nat → Bool} : ∀ (n : Nat), cntN p n = 0 ↔ fndN p 0 n = none
  | 0 => by simp [cntN, fndN, fnd]
  | n + 1 => by
    rw [fndN_snoc]
    cases hq : p n with
    | true =>
      rw [cntN_t hq]
      cases h2 : fndN p 0 n with
      | none => simp
      | some j => simp
    | false =>
      rw [cntN_f hq, cnt_fnd n]
      cases h2 : fndN p 0 n with
      | none => simp
      | some j => simp
theorem cnt_le0 {p : Nat → Bool} {n : Nat} (hn : n ≤ 14) (h : nI (cntN p n) ≤ 0) : fndN p 0 n = none := by
  have h1 : cntN p n ≤ 0 := (cv_le (a := cntN p n) (b := 0) rfl (by decide) (by have := cntN_le (p := p) n; omega) (by omega)).mp h
  exact (cnt_fnd n).mp (by omega)
theorem cnt_gt0 {p : Nat → Bool} {n : Nat} (hn : n ≤ 14) (h : ¬ nI (cntN p n) ≤ 0) : fndN p 0 n ≠ none := fun q => h (by rw [(cnt_fnd n).mpr q]; decide)
set_option maxHeartbeats 4000000 in
set_option maxRecDepth 100000 in
theorem c_X6_same_ss (l : Launch) (G : Gx) (hA : wa G) (σ : Sg) (cnt p n q m : Nat) (hc : σ 30 0 3 = nI cnt) (hc8 : cnt ≤ 8) (hpc : p < cnt) (hp : p < 8) (hs : σ 33 0 p = nI n) (h3 : 3 ≤ n) (hn : n ≤ 14) (hqc : q < cnt) (hq : q < 8) (hsq : σ 33 0 q = nI m) (h3m : 3 ≤ m) (hm : m ≤ 14) : CtI l yX6_same wsX6_same (rmd 5) G [.ref (gA G 30 (0)), .int (nI p), .int (nI q)] σ (fun r σ2 => r = sameR (fndN (ftP n m (fun i => σ 34 0 (14 * p + i)) (fun i => σ 35 0 (14 * p + i)) (fun i => σ 34 0 (14 * q + i)) (fun i => σ 35 0 (14 * q + i)) false) 0 m) (fndN (ftP n m (fun i => σ 34 0 (14 * p + i)) (fun i => σ 35 0 (14 * p + i)) (fun i => σ 34 0 (14 * q + i)) (fun i => σ 35 0 (14 * q + i)) true) 0 m) ∧ ((∀ k, k ≠ 30 → σ2 k = σ k) ∧ ∀ f, f ≠ 23 → σ2 30 0 f = σ 30 0 f)) := by
  refine ct_i (maxL := 3) (ret := (some .int)) (by decide) rfl (Nat.le_of_ble_eq_true rfl) hA (fun K hl C => ?_)
  subst hl
  change WW K G _ _ σ [(0, .ref (gA G 30 (0))), (1, .int (nI p)), (2, .int (nI q))] 0 []
  refine ww_aload_n C dX6_same_0 rfl 0 rfl ?_
  refine ww_iload_n C dX6_same_1 rfl 1 rfl ?_
  refine ww_calliF (cx_V (n := 1) (As := [.int (nI p)]) C  (c_X6_isPolygon (kL K) G hA _ cnt hc hc8 _) gX6_same_X6_isPolygon rfl ⟨rfl, rfl⟩ (by decide +kernel) (by decide) rfl (by decide) rfl rfl rfl (Nat.le_of_ble_eq_true rfl) dX6_same_2) ?_
  refine ww_if_eq 16 C dX6_same_5 (by decide) (fun h5 => ?_) (fun h5 => ?_)
  · exact absurd (kn_p hpc hc8) (of_decide_eq_false (bI_0.mp h5))
  · refine ww_aload_n C dX6_same_8 rfl 0 rfl ?_
    refine ww_iload_n C dX6_same_9 rfl 2 rfl ?_
    refine ww_calliF (cx_V (n := 1) (As := [.int (nI q)]) C  (c_X6_isPolygon (kL K) G hA _ cnt hc hc8 _) gX6_same_X6_isPolygon rfl ⟨rfl, rfl⟩ (by decide +kernel) (by decide) rfl (by decide) rfl rfl rfl (Nat.le_of_ble_eq_true rfl) dX6_same_10) ?_
    refine ww_if_ne 19 C dX6_same_13 (by decide) (fun h13 => ?_) (fun h13 => ?_)
    · refine ww_aload_n C dX6_same_19 rfl 0 rfl ?_
      refine ww_iload_n C dX6_same_20 rfl 1 rfl ?_
      refine ww_iload_n C dX6_same_21 rfl 2 rfl ?_
      refine ww_iconst (v := 0) C dX6_same_22 rfl ?_
      refine ww_calliF (cx_V (n := 3) (As := [.int (nI p), .int (nI q), .int (0)]) C  (c_fitting_0 (kL K) G hA _ p q n m hp hs hq hsq h3 hn hm) gX6_same_X6_fitting rfl ⟨rfl, rfl⟩ (by decide +kernel) (by decide) rfl (by decide) rfl rfl rfl (Nat.le_of_ble_eq_true rfl) dX6_same_23) ?_
      obtain ⟨σ1, hσ1⟩ : ∃ z : Sg, z = (sgu σ 30 0 23 (optI (fndN (ftP n m (fun i => σ 34 0 (14 * p + i)) (fun i => σ 35 0 (14 * p + i)) (fun i => σ 34 0 (14 * q + i)) (fun i => σ 35 0 (14 * q + i)) false) 0 m))) := ⟨_, rfl⟩
      rw [← hσ1]
      refine ww_if_le 33 C dX6_same_26 (by decide) (fun h26 => ?_) (fun h26 => ?_)
      · have hs1 : σ1 33 0 p = nI n := by rw [hσ1, sgu_kk (by decide)]; exact hs
        have hsq1 : σ1 33 0 q = nI m := by rw [hσ1, sgu_kk (by decide)]; exact hsq
        have e34 : σ1 34 = σ 34 := by rw [hσ1, sgu_kk (by decide)]
        have e35 : σ1 35 = σ 35 := by rw [hσ1, sgu_kk (by decide)]
        refine ww_aload_n C dX6_same_33 rfl 0 rfl ?_
        refine ww_iload_n C dX6_same_34 rfl 1 rfl ?_
        refine ww_iload_n C dX6_same_35 rfl 2 rfl ?_
        refine ww_iconst (v := 1) C dX6_same_36 rfl ?_
        refine ww_calliF (cx_V (n := 3) (As := [.int (nI p), .int (nI q), .int (1)]) C  (c_fitting_1 (kL K) G hA _ p q n m hp hs1 hq hsq1 h3 hn hm) gX6_same_X6_fitting rfl ⟨rfl, rfl⟩ (by decide +kernel) (by decide) rfl (by decide) rfl rfl rfl (Nat.le_of_ble_eq_true rfl) dX6_same_37) ?_
        obtain ⟨σ2, hσ2⟩ : ∃ z : Sg, z = (sgu σ1 30 0 23 (optI (fndN (ftP n m (fun i => σ1 34 0 (14 * p + i)) (fun i => σ1 35 0 (14 * p + i)) (fun i => σ1 34 0 (14 * q + i)) (fun i => σ1 35 0 (14 * q + i)) true) 0 m))) := ⟨_, rfl⟩
        rw [← hσ2]
        refine ww_if_le 47 C dX6_same_40 (by decide) (fun h40 => ?_) (fun h40 => ?_)
        · refine ww_iconst (v := 0) C dX6_same_47 rfl ?_
          refine ww_iret C dX6_same_48 ?_
          rw [e34, e35] at h40
          exact ⟨by rw [sameR, if_neg (not_not_intro (cnt_le0 hm h26)), if_neg (not_not_intro (cnt_le0 hm h40))], ⟨fun k hk => by rw [hσ2, sgu_kk hk, hσ1, sgu_kk hk], fun f hf => by rw [hσ2, sgu_f hf, hσ1, sgu_f hf]⟩⟩
        · refine ww_iconst (v := 2) C dX6_same_43 rfl ?_
          refine ww_goto 48 C dX6_same_44 (by decide) ?_
          refine ww_iret C dX6_same_48 ?_
          rw [e34, e35] at h40
          exact ⟨by rw [sameR, if_neg (not_not_intro (cnt_le0 hm h26)), if_pos (cnt_gt0 hm h40)], ⟨fun k hk => by rw [hσ2, sgu_kk hk, hσ1, sgu_kk hk], fun f hf => by rw [hσ2, sgu_f hf, hσ1, sgu_f hf]⟩⟩
      · refine ww_iconst (v := 1) C dX6_same_29 rfl ?_
        refine ww_goto 48 C dX6_same_30 (by decide) ?_
        refine ww_iret C dX6_same_48 ?_
        exact ⟨by rw [sameR, if_pos (cnt_gt0 hm h26)], ⟨fun k hk => by rw [hσ1, sgu_kk hk], fun f hf => by rw [hσ1, sgu_f hf]⟩⟩
    · exact absurd (kn_p hqc hc8) (of_decide_eq_false (bI_0.mp h13))
set_option maxHeartbeats 4000000 in
set_option maxRecDepth 100000 in
theorem c_X6_onto_ss (l : Launch) (G : Gx) (hA : wa G) (σ : Sg) (cnt p n q m : Nat) (hc : σ 30 0 3 = nI cnt) (hc8 : cnt ≤ 8) (hpc : p < cnt) (hp : p < 8) (hs : σ 33 0 p = nI n) (h3 : 3 ≤ n) (hn : n ≤ 14) (hqc : q < cnt) (hq : q < 8) (hsq : σ 33 0 q = nI m) (h3m : 3 ≤ m) (hm : m ≤ 14) : CtI l yX6_onto wsX6_onto (rmd 5) G [.ref (gA G 30 (0)), .int (nI p), .int (nI q)] σ (fun r σ2 => r = ontoR (fndN (ftP n m (fun i => σ 34 0 (14 * p + i)) (fun i => σ 35 0 (14 * p + i)) (fun i => σ 34 0 (14 * q + i)) (fun i => σ 35 0 (14 * q + i)) false) 0 m) (fndN (ftP n m (fun i => σ 34 0 (14 * p + i)) (fun i => σ 35 0 (14 * p + i)) (fun i => σ 34 0 (14 * q + i)) (fun i => σ 35 0 (14 * q + i)) true) 0 m) ∧ ((∀ k, k ≠ 30 → σ2 k = σ k) ∧ ∀ f, f ≠ 23 → σ2 30 0 f = σ 30 0 f)) := by
  refine ct_i (maxL := 4) (ret := (some .int)) (by decide) rfl (Nat.le_of_ble_eq_true rfl) hA (fun K hl C => ?_)
  subst hl
  change WW K G _ _ σ [(0, .ref (gA G 30 (0))), (1, .int (nI p)), (2, .int (nI q))] 0 []
  refine ww_aload_n C dX6_onto_0 rfl 0 rfl ?_
  refine ww_iload_n C dX6_onto_1 rfl 1 rfl ?_
  refine ww_calliF (cx_V (n := 1) (As := [.int (nI p)]) C  (c_X6_isPolygon (kL K) G hA _ cnt hc hc8 _) gX6_onto_X6_isPolygon rfl ⟨rfl, rfl⟩ (by decide +kernel) (by decide) rfl (by decide) rfl rfl rfl (Nat.le_of_ble_eq_true rfl) dX6_onto_2) ?_
  refine ww_if_eq 16 C dX6_onto_5 (by decide) (fun h5 => ?_) (fun h5 => ?_)
  · exact absurd (kn_p hpc hc8) (of_decide_eq_false (bI_0.mp h5))
  · refine ww_aload_n C dX6_onto_8 rfl 0 rfl ?_
    refine ww_iload_n C dX6_onto_9 rfl 2 rfl ?_
    refine ww_calliF (cx_V (n := 1) (As := [.int (nI q)]) C  (c_X6_isPolygon (kL K) G hA _ cnt hc hc8 _) gX6_onto_X6_isPolygon rfl ⟨rfl, rfl⟩ (by decide +kernel) (by decide) rfl (by decide) rfl rfl rfl (Nat.le_of_ble_eq_true rfl) dX6_onto_10) ?_
    refine ww_if_ne 19 C dX6_onto_13 (by decide) (fun h13 => ?_) (fun h13 => ?_)
    · refine ww_aload_n C dX6_onto_19 rfl 0 rfl ?_
      refine ww_iload_n C dX6_onto_20 rfl 1 rfl ?_
      refine ww_iload_n C dX6_onto_21 rfl 2 rfl ?_
      refine ww_iconst (v := 0) C dX6_onto_22 rfl ?_
      refine ww_calliF (cx_V (n := 3) (As := [.int (nI p), .int (nI q), .int (0)]) C  (c_fitting_0 (kL K) G hA _ p q n m hp hs hq hsq h3 hn hm) gX6_onto_X6_fitting rfl ⟨rfl, rfl⟩ (by decide +kernel) (by decide) rfl (by decide) rfl rfl rfl (Nat.le_of_ble_eq_true rfl) dX6_onto_23) ?_
      obtain ⟨σ1, hσ1⟩ : ∃ z : Sg, z = (sgu σ 30 0 23 (optI (fndN (ftP n m (fun i => σ 34 0 (14 * p + i)) (fun i => σ 35 0 (14 * p + i)) (fun i => σ 34 0 (14 * q + i)) (fun i => σ 35 0 (14 * q + i)) false) 0 m))) := ⟨_, rfl⟩
      rw [← hσ1]
      refine ww_istore_n (fun y1 => [(3, .int (y1)), (0, .ref (gA G 30 (0))), (1, .int (nI p)), (2, .int (nI q))]) C dX6_onto_26 rfl (by decide) (fun _ => rfl) (fun y1 ey1 => ?_)
      obtain rfl : y1 = nI (cntN (ftP n m (fun i => σ 34 0 (14 * p + i)) (fun i => σ 35 0 (14 * p + i)) (fun i => σ 34 0 (14 * q + i)) (fun i => σ 35 0 (14 * q + i)) false) m) := ey1
      refine ww_iload_n C dX6_onto_27 rfl 0 rfl ?_
      refine ww_if_le 35 C dX6_onto_28 (by decide) (fun h28 => ?_) (fun h28 => ?_)
      · have hs1 : σ1 33 0 p = nI n := by rw [hσ1, sgu_kk (by decide)]; exact hs
        have hsq1 : σ1 33 0 q = nI m := by rw [hσ1, sgu_kk (by decide)]; exact hsq
        have e34 : σ1 34 = σ 34 := by rw [hσ1, sgu_kk (by decide)]
        have e35 : σ1 35 = σ 35 := by rw [hσ1, sgu_kk (by decide)]
        refine ww_aload_n C dX6_onto_35 rfl 1 rfl ?_
        refine ww_iload_n C dX6_onto_36 rfl 2 rfl ?_
        refine ww_iload_n C dX6_onto_37 rfl 3 rfl ?_
        refine ww_iconst (v := 1) C dX6_onto_38 rfl ?_
        refine ww_calliF (cx_V (n := 3) (As := [.int (nI p), .int (nI q), .int (1)]) C  (c_fitting_1 (kL K) G hA _ p q n m hp hs1 hq hsq1 h3 hn hm) gX6_onto_X6_fitting rfl ⟨rfl, rfl⟩ (by decide +kernel) (by decide) rfl (by decide) rfl rfl rfl (Nat.le_of_ble_eq_true rfl) dX6_onto_39) ?_
        obtain ⟨σ2, hσ2⟩ : ∃ z : Sg, z = (sgu σ1 30 0 23 (optI (fndN (ftP n m (fun i => σ1 34 0 (14 * p + i)) (fun i => σ1 35 0 (14 * p + i)) (fun i => σ1 34 0 (14 * q + i)) (fun i => σ1 35 0 (14 * q + i)) true) 0 m))) := ⟨_, rfl⟩
        rw [← hσ2]
        refine ww_istore_n (fun y2 => [(3, .int (y2)), (0, .ref (gA G 30 (0))), (1, .int (nI p)), (2, .int (nI q))]) C dX6_onto_42 rfl (by decide) (fun _ => rfl) (fun y2 ey2 => ?_)
        obtain rfl : y2 = nI (cntN (ftP n m (fun i => σ1 34 0 (14 * p + i)) (fun i => σ1 35 0 (14 * p + i)) (fun i => σ1 34 0 (14 * q + i)) (fun i => σ1 35 0 (14 * q + i)) true) m) := ey2
        refine ww_aload_n C dX6_onto_43 rfl 1 rfl ?_
        refine ww_gi (k := 30) (f := 23) C rfl rfl (by decide) rfl in_X6_onto_X6 (by decide) lk_X6_onto_177 dX6_onto_44 ?_
        refine ww_iret C dX6_onto_47 ?_
        exact ⟨by rw [ontoR, if_neg (not_not_intro (cnt_le0 hm h28)), hσ2, sgu_self, e34, e35], ⟨fun k hk => by rw [hσ2, sgu_kk hk, hσ1, sgu_kk hk], fun f hf => by rw [hσ2, sgu_f hf, hσ1, sgu_f hf]⟩⟩
      · refine ww_iload_n C dX6_onto_31 rfl 0 rfl ?_
        refine ww_goto 42 C dX6_onto_32 (by decide) ?_
        refine ww_istore_n (fun y3 => [(3, .int (y3)), (0, .ref (gA G 30 (0))), (1, .int (nI p)), (2, .int (nI q))]) C dX6_onto_42 rfl (by decide) (fun _ => rfl) (fun y3 ey3 => ?_)
        obtain rfl : y3 = nI (cntN (ftP n m (fun i => σ 34 0 (14 * p + i)) (fun i => σ 35 0 (14 * p + i)) (fun i => σ 34 0 (14 * q + i)) (fun i => σ 35 0 (14 * q + i)) false) m) := ey3
        refine ww_aload_n C dX6_onto_43 rfl 1 rfl ?_
        refine ww_gi (k := 30) (f := 23) C rfl rfl (by decide) rfl in_X6_onto_X6 (by decide) lk_X6_onto_177 dX6_onto_44 ?_
        refine ww_iret C dX6_onto_47 ?_
        exact ⟨by rw [ontoR, if_pos (cnt_gt0 hm h28), hσ1, sgu_self], ⟨fun k hk => by rw [hσ1, sgu_kk hk], fun f hf => by rw [hσ1, sgu_f hf]⟩⟩
    · exact absurd (kn_p hqc hc8) (of_decide_eq_false (bI_0.mp h13))
set_option maxHeartbeats 4000000 in
set_option maxRecDepth 100000 in
theorem c_X6_same_nn (l : Launch) (G : Gx) (hA : wa G) (σ : Sg) (cnt : Nat) (hc : σ 30 0 3 = nI cnt) (hc8 : cnt ≤ 8) (x : Int32) (hu : ¬ (0 ≤ x ∧ x < nI cnt)) (z : Int32) (hz : ¬ (0 ≤ z ∧ z < nI cnt)) : CtI l yX6_same wsX6_same (rmd 5) G [.ref (gA G 30 (0)), .int (x), .int (z)] σ (fun r σ2 => r = -2 ∧ σ2 = σ) := by
  refine ct_i (maxL := 3) (ret := (some .int)) (by decide) rfl (Nat.le_of_ble_eq_true rfl) hA (fun K hl C => ?_)
  subst hl
  change WW K G _ _ σ [(0, .ref (gA G 30 (0))), (1, .int (x)), (2, .int (z))] 0 []
  refine ww_aload_n C dX6_same_0 rfl 0 rfl ?_
  refine ww_iload_n C dX6_same_1 rfl 1 rfl ?_
  refine ww_calliF (cx_V (n := 1) (As := [.int (x)]) C  (c_X6_isPolygon (kL K) G hA _ cnt hc hc8 _) gX6_same_X6_isPolygon rfl ⟨rfl, rfl⟩ (by decide +kernel) (by decide) rfl (by decide) rfl rfl rfl (Nat.le_of_ble_eq_true rfl) dX6_same_2) ?_
  refine ww_if_eq 16 C dX6_same_5 (by decide) (fun h5 => ?_) (fun h5 => ?_)
  · refine ww_bipush (v := -2) C dX6_same_16 (by decide) ?_
    refine ww_iret C dX6_same_18 ?_
    exact ⟨rfl, rfl⟩
  · exact absurd (of_decide_eq_true (bI_1.mp h5)) hu
set_option maxHeartbeats 4000000 in
set_option maxRecDepth 100000 in
theorem c_X6_same_ns (l : Launch) (G : Gx) (hA : wa G) (σ : Sg) (cnt : Nat) (hc : σ 30 0 3 = nI cnt) (hc8 : cnt ≤ 8) (x : Int32) (hu : ¬ (0 ≤ x ∧ x < nI cnt)) (p : Nat) (hpc : p < cnt) (hp : p < 8) : CtI l yX6_same wsX6_same (rmd 5) G [.ref (gA G 30 (0)), .int (x), .int (nI p)] σ (fun r σ2 => r = -2 ∧ σ2 = σ) := by
  refine ct_i (maxL := 3) (ret := (some .int)) (by decide) rfl (Nat.le_of_ble_eq_true rfl) hA (fun K hl C => ?_)
  subst hl
  change WW K G _ _ σ [(0, .ref (gA G 30 (0))), (1, .int (x)), (2, .int (nI p))] 0 []
  refine ww_aload_n C dX6_same_0 rfl 0 rfl ?_
  refine ww_iload_n C dX6_same_1 rfl 1 rfl ?_
  refine ww_calliF (cx_V (n := 1) (As := [.int (x)]) C  (c_X6_isPolygon (kL K) G hA _ cnt hc hc8 _) gX6_same_X6_isPolygon rfl ⟨rfl, rfl⟩ (by decide +kernel) (by decide) rfl (by decide) rfl rfl rfl (Nat.le_of_ble_eq_true rfl) dX6_same_2) ?_
  refine ww_if_eq 16 C dX6_same_5 (by decide) (fun h5 => ?_) (fun h5 => ?_)
  · refine ww_bipush (v := -2) C dX6_same_16 (by decide) ?_
    refine ww_iret C dX6_same_18 ?_
    exact ⟨rfl, rfl⟩
  · exact absurd (of_decide_eq_true (bI_1.mp h5)) hu
set_option maxHeartbeats 4000000 in
set_option maxRecDepth 100000 in
theorem c_X6_same_sn (l : Launch) (G : Gx) (hA : wa G) (σ : Sg) (cnt : Nat) (hc : σ 30 0 3 = nI cnt) (hc8 : cnt ≤ 8) (x : Int32) (hu : ¬ (0 ≤ x ∧ x < nI cnt)) (p : Nat) (hpc : p < cnt) (hp : p < 8) : CtI l yX6_same wsX6_same (rmd 5) G [.ref (gA G 30 (0)), .int (nI p), .int (x)] σ (fun r σ2 => r = -2 ∧ σ2 = σ) := by
  refine ct_i (maxL := 3) (ret := (some .int)) (by decide) rfl (Nat.le_of_ble_eq_true rfl) hA (fun K hl C => ?_)
  subst hl
  change WW K G _ _ σ [(0, .ref (gA G 30 (0))), (1, .int (nI p)), (2, .int (x))] 0 []
  refine ww_aload_n C dX6_same_0 rfl 0 rfl ?_
  refine ww_iload_n C dX6_same_1 rfl 1 rfl ?_
  refine ww_calliF (cx_V (n := 1) (As := [.int (nI p)]) C  (c_X6_isPolygon (kL K) G hA _ cnt hc hc8 _) gX6_same_X6_isPolygon rfl ⟨rfl, rfl⟩ (by decide +kernel) (by decide) rfl (by decide) rfl rfl rfl (Nat.le_of_ble_eq_true rfl) dX6_same_2) ?_
  refine ww_if_eq 16 C dX6_same_5 (by decide) (fun h5 => ?_) (fun h5 => ?_)
  · exact absurd (kn_p hpc hc8) (of_decide_eq_false (bI_0.mp h5))
  · refine ww_aload_n C dX6_same_8 rfl 0 rfl ?_
    refine ww_iload_n C dX6_same_9 rfl 2 rfl ?_
    refine ww_calliF (cx_V (n := 1) (As := [.int (x)]) C  (c_X6_isPolygon (kL K) G hA _ cnt hc hc8 _) gX6_same_X6_isPolygon rfl ⟨rfl, rfl⟩ (by decide +kernel) (by decide) rfl (by decide) rfl rfl rfl (Nat.le_of_ble_eq_true rfl) dX6_same_10) ?_
    refine ww_if_ne 19 C dX6_same_13 (by decide) (fun h13 => ?_) (fun h13 => ?_)
    · exact absurd (of_decide_eq_true (bI_1.mp h13)) hu
    · refine ww_bipush (v := -2) C dX6_same_16 (by decide) ?_
      refine ww_iret C dX6_same_18 ?_
      exact ⟨rfl, rfl⟩
set_option maxHeartbeats 4000000 in
set_option maxRecDepth 100000 in
theorem c_X6_onto_nn (l : Launch) (G : Gx) (hA : wa G) (σ : Sg) (cnt : Nat) (hc : σ 30 0 3 = nI cnt) (hc8 : cnt ≤ 8) (x : Int32) (hu : ¬ (0 ≤ x ∧ x < nI cnt)) (z : Int32) (hz : ¬ (0 ≤ z ∧ z < nI cnt)) : CtI l yX6_onto wsX6_onto (rmd 5) G [.ref (gA G 30 (0)), .int (x), .int (z)] σ (fun r σ2 => r = -2 ∧ σ2 = σ) := by
  refine ct_i (maxL := 4) (ret := (some .int)) (by decide) rfl (Nat.le_of_ble_eq_true rfl) hA (fun K hl C => ?_)
  subst hl
  change WW K G _ _ σ [(0, .ref (gA G 30 (0))), (1, .int (x)), (2, .int (z))] 0 []
  refine ww_aload_n C dX6_onto_0 rfl 0 rfl ?_
  refine ww_iload_n C dX6_onto_1 rfl 1 rfl ?_
  refine ww_calliF (cx_V (n := 1) (As := [.int (x)]) C  (c_X6_isPolygon (kL K) G hA _ cnt hc hc8 _) gX6_onto_X6_isPolygon rfl ⟨rfl, rfl⟩ (by decide +kernel) (by decide) rfl (by decide) rfl rfl rfl (Nat.le_of_ble_eq_true rfl) dX6_onto_2) ?_
  refine ww_if_eq 16 C dX6_onto_5 (by decide) (fun h5 => ?_) (fun h5 => ?_)
  · refine ww_bipush (v := -2) C dX6_onto_16 (by decide) ?_
    refine ww_iret C dX6_onto_18 ?_
    exact ⟨rfl, rfl⟩
  · exact absurd (of_decide_eq_true (bI_1.mp h5)) hu
set_option maxHeartbeats 4000000 in
set_option maxRecDepth 100000 in
theorem c_X6_onto_ns (l : Launch) (G : Gx) (hA : wa G) (σ : Sg) (cnt : Nat) (hc : σ 30 0 3 = nI cnt) (hc8 : cnt ≤ 8) (x : Int32) (hu : ¬ (0 ≤ x ∧ x < nI cnt)) (p : Nat) (hpc : p < cnt) (hp : p < 8) : CtI l yX6_onto wsX6_onto (rmd 5) G [.ref (gA G 30 (0)), .int (x), .int (nI p)] σ (fun r σ2 => r = -2 ∧ σ2 = σ) := by
  refine ct_i (maxL := 4) (ret := (some .int)) (by decide) rfl (Nat.le_of_ble_eq_true rfl) hA (fun K hl C => ?_)
  subst hl
  change WW K G _ _ σ [(0, .ref (gA G 30 (0))), (1, .int (x)), (2, .int (nI p))] 0 []
  refine ww_aload_n C dX6_onto_0 rfl 0 rfl ?_
  refine ww_iload_n C dX6_onto_1 rfl 1 rfl ?_
  refine ww_calliF (cx_V (n := 1) (As := [.int (x)]) C  (c_X6_isPolygon (kL K) G hA _ cnt hc hc8 _) gX6_onto_X6_isPolygon rfl ⟨rfl, rfl⟩ (by decide +kernel) (by decide) rfl (by decide) rfl rfl rfl (Nat.le_of_ble_eq_true rfl) dX6_onto_2) ?_
  refine ww_if_eq 16 C dX6_onto_5 (by decide) (fun h5 => ?_) (fun h5 => ?_)
  · refine ww_bipush (v := -2) C dX6_onto_16 (by decide) ?_
    refine ww_iret C dX6_onto_18 ?_
    exact ⟨rfl, rfl⟩
  · exact absurd (of_decide_eq_true (bI_1.mp h5)) hu
set_option maxHeartbeats 4000000 in
set_option maxRecDepth 100000 in
theorem c_X6_onto_sn (l : Launch) (G : Gx) (hA : wa G) (σ : Sg) (cnt : Nat) (hc : σ 30 0 3 = nI cnt) (hc8 : cnt ≤ 8) (x : Int32) (hu : ¬ (0 ≤ x ∧ x < nI cnt)) (p : Nat) (hpc : p < cnt) (hp : p < 8) : CtI l yX6_onto wsX6_onto (rmd 5) G [.ref (gA G 30 (0)), .int (nI p), .int (x)] σ (fun r σ2 => r = -2 ∧ σ2 = σ) := by
  refine ct_i (maxL := 4) (ret := (some .int)) (by decide) rfl (Nat.le_of_ble_eq_true rfl) hA (fun K hl C => ?_)
  subst hl
  change WW K G _ _ σ [(0, .ref (gA G 30 (0))), (1, .int (nI p)), (2, .int (x))] 0 []
  refine ww_aload_n C dX6_onto_0 rfl 0 rfl ?_
  refine ww_iload_n C dX6_onto_1 rfl 1 rfl ?_
  refine ww_calliF (cx_V (n := 1) (As := [.int (nI p)]) C  (c_X6_isPolygon (kL K) G hA _ cnt hc hc8 _) gX6_onto_X6_isPolygon rfl ⟨rfl, rfl⟩ (by decide +kernel) (by decide) rfl (by decide) rfl rfl rfl (Nat.le_of_ble_eq_true rfl) dX6_onto_2) ?_
  refine ww_if_eq 16 C dX6_onto_5 (by decide) (fun h5 => ?_) (fun h5 => ?_)
  · exact absurd (kn_p hpc hc8) (of_decide_eq_false (bI_0.mp h5))
  · refine ww_aload_n C dX6_onto_8 rfl 0 rfl ?_
    refine ww_iload_n C dX6_onto_9 rfl 2 rfl ?_
    refine ww_calliF (cx_V (n := 1) (As := [.int (x)]) C  (c_X6_isPolygon (kL K) G hA _ cnt hc hc8 _) gX6_onto_X6_isPolygon rfl ⟨rfl, rfl⟩ (by decide +kernel) (by decide) rfl (by decide) rfl rfl rfl (Nat.le_of_ble_eq_true rfl) dX6_onto_10) ?_
    refine ww_if_ne 19 C dX6_onto_13 (by decide) (fun h13 => ?_) (fun h13 => ?_)
    · exact absurd (of_decide_eq_true (bI_1.mp h13)) hu
    · refine ww_bipush (v := -2) C dX6_onto_16 (by decide) ?_
      refine ww_iret C dX6_onto_18 ?_
      exact ⟨rfl, rfl⟩
set_option maxHeartbeats 4000000 in
set_option maxRecDepth 100000 in
theorem c_X6_symmetries_s (l : Launch) (G : Gx) (hA : wa G) (σ : Sg) (cnt p n : Nat) (hc : σ 30 0 3 = nI cnt) (hc8 : cnt ≤ 8) (hpc : p < cnt) (hp : p < 8) (hs : σ 33 0 p = nI n) (h3 : 3 ≤ n) (hn : n ≤ 14) (w : Int32) : CtI l yX6_symmetries wsX6_symmetries (rmd 5) G [.ref (gA G 30 (0)), .int (nI p), .int (w)] σ (fun r σ2 => r = symR w (nI (cntN (ftP n n (fun i => σ 34 0 (14 * p + i)) (fun i => σ 35 0 (14 * p + i)) (fun i => σ 34 0 (14 * p + i)) (fun i => σ 35 0 (14 * p + i)) false) n)) (nI (cntN (ftP n n (fun i => σ 34 0 (14 * p + i)) (fun i => σ 35 0 (14 * p + i)) (fun i => σ 34 0 (14 * p + i)) (fun i => σ 35 0 (14 * p + i)) true) n)) ∧ ((∀ k, k ≠ 30 → σ2 k = σ k) ∧ ∀ f, f ≠ 23 → σ2 30 0 f = σ 30 0 f)) := by
  refine ct_i (maxL := 3) (ret := (some .int)) (by decide) rfl (Nat.le_of_ble_eq_true rfl) hA (fun K hl C => ?_)
  subst hl
  change WW K G _ _ σ [(0, .ref (gA G 30 (0))), (1, .int (nI p)), (2, .int (w))] 0 []
  refine ww_aload_n C dX6_symmetries_0 rfl 0 rfl ?_
  refine ww_iload_n C dX6_symmetries_1 rfl 1 rfl ?_
  refine ww_calliF (cx_V (n := 1) (As := [.int (nI p)]) C  (c_X6_isPolygon (kL K) G hA _ cnt hc hc8 _) gX6_symmetries_X6_isPolygon rfl ⟨rfl, rfl⟩ (by decide +kernel) (by decide) rfl (by decide) rfl rfl rfl (Nat.le_of_ble_eq_true rfl) dX6_symmetries_2) ?_
  refine ww_if_ne 11 C dX6_symmetries_5 (by decide) (fun h5 => ?_) (fun h5 => ?_)
  · refine ww_iload_n C dX6_symmetries_11 rfl 2 rfl ?_
    refine ww_iconst (v := 0) C dX6_symmetries_12 rfl ?_
    refine ww_iconst (v := 1) C dX6_symmetries_13 rfl ?_
    refine ww_calliF (cx_S (n := 3) (As := [.int (w), .int (0), .int (1)]) C  (c_X6_within (kL K) G hA _ _ _ _) gX6_symmetries_X6_within rfl ⟨rfl, rfl⟩ (by decide +kernel) (by decide) rfl rfl (Nat.le_of_ble_eq_true rfl) dX6_symmetries_14) ?_
    refine ww_if_ne 23 C dX6_symmetries_17 (by decide) (fun h17 => ?_) (fun h17 => ?_)
    · have hz := w_iff.mp (of_decide_eq_true (bI_1.mp h17))
      refine ww_aload_n C dX6_symmetries_23 rfl 0 rfl ?_
      refine ww_iload_n C dX6_symmetries_24 rfl 1 rfl ?_
      refine ww_iload_n C dX6_symmetries_25 rfl 1 rfl ?_
      refine ww_iconst (v := 0) C dX6_symmetries_26 rfl ?_
      refine ww_calliF (cx_V (n := 3) (As := [.int (nI p), .int (nI p), .int (0)]) C  (c_fitting_0 (kL K) G hA _ p p n n hp hs hp hs h3 hn hn) gX6_symmetries_X6_fitting rfl ⟨rfl, rfl⟩ (by decide +kernel) (by decide) rfl (by decide) rfl rfl rfl (Nat.le_of_ble_eq_true rfl) dX6_symmetries_27) ?_
      obtain ⟨σ1, hσ1⟩ : ∃ z : Sg, z = (sgu σ 30 0 23 (optI (fndN (ftP n n (fun i => σ 34 0 (14 * p + i)) (fun i => σ 35 0 (14 * p + i)) (fun i => σ 34 0 (14 * p + i)) (fun i => σ 35 0 (14 * p + i)) false) 0 n))) := ⟨_, rfl⟩
      rw [← hσ1]
      refine ww_iload_n C dX6_symmetries_30 rfl 2 rfl ?_
      refine ww_iconst (v := 1) C dX6_symmetries_31 rfl ?_
      refine ww_icmp_ne 45 C dX6_symmetries_32 (by decide) (fun h32 => ?_) (fun h32 => ?_)
      · refine ww_iconst (v := 0) C dX6_symmetries_45 rfl ?_
        refine ww_iadd C dX6_symmetries_46 ?_
        refine ww_iret C dX6_symmetries_47 ?_
        exact ⟨by rw [symR, if_pos (hz.resolve_right h32)]; exact Int32.add_zero _, ⟨fun k hk => by rw [hσ1, sgu_kk hk], fun f hf => by rw [hσ1, sgu_f hf]⟩⟩
      · have hs1 : σ1 33 0 p = nI n := by rw [hσ1, sgu_kk (by decide)]; exact hs
        have e34 : σ1 34 = σ 34 := by rw [hσ1, sgu_kk (by decide)]
        have e35 : σ1 35 = σ 35 := by rw [hσ1, sgu_kk (by decide)]
        refine ww_aload_n C dX6_symmetries_35 rfl 0 rfl ?_
        refine ww_iload_n C dX6_symmetries_36 rfl 1 rfl ?_
        refine ww_iload_n C dX6_symmetries_37 rfl 1 rfl ?_
        refine ww_iconst (v := 1) C dX6_symmetries_38 rfl ?_
        refine ww_calliF (cx_V (n := 3) (As := [.int (nI p), .int (nI p), .int (1)]) C  (c_fitting_1 (kL K) G hA _ p p n n hp hs1 hp hs1 h3 hn hn) gX6_symmetries_X6_fitting rfl ⟨rfl, rfl⟩ (by decide +kernel) (by decide) rfl (by decide) rfl rfl rfl (Nat.le_of_ble_eq_true rfl) dX6_symmetries_39) ?_
        obtain ⟨σ2, hσ2⟩ : ∃ z : Sg, z = (sgu σ1 30 0 23 (optI (fndN (ftP n n (fun i => σ1 34 0 (14 * p + i)) (fun i => σ1 35 0 (14 * p + i)) (fun i => σ1 34 0 (14 * p + i)) (fun i => σ1 35 0 (14 * p + i)) true) 0 n))) := ⟨_, rfl⟩
        rw [← hσ2]
        refine ww_goto 46 C dX6_symmetries_42 (by decide) ?_
        refine ww_iadd C dX6_symmetries_46 ?_
        refine ww_iret C dX6_symmetries_47 ?_
        exact ⟨by rw [symR, if_neg (fun q => absurd (h32.symm.trans q) (by decide)), if_pos h32, e34, e35], ⟨fun k hk => by rw [hσ2, sgu_kk hk, hσ1, sgu_kk hk], fun f hf => by rw [hσ2, sgu_f hf, hσ1, sgu_f hf]⟩⟩
    · have hz := of_decide_eq_false (bI_0.mp h17)
      refine ww_bipush (v := -3) C dX6_symmetries_20 (by decide) ?_
      refine ww_iret C dX6_symmetries_22 ?_
      exact ⟨by rw [symR, if_neg (fun q => hz (by rw [q]; decide)), if_neg (fun q => hz (by rw [q]; decide))], fun _ _ => rfl, fun _ _ => rfl⟩
  · exact absurd (kn_p hpc hc8) (of_decide_eq_false (bI_0.mp h5))
set_option maxHeartbeats 4000000 in
set_option maxRecDepth 100000 in
theorem c_X6_symmetries_n (l : Launch) (G : Gx) (hA : wa G) (σ : Sg) (cnt : Nat) (hc : σ 30 0 3 = nI cnt) (hc8 : cnt ≤ 8) (x : Int32) (hu : ¬ (0 ≤ x ∧ x < nI cnt)) (w : Int32) : CtI l yX6_symmetries wsX6_symmetries (rmd 5) G [.ref (gA G 30 (0)), .int (x), .int (w)] σ (fun r σ2 => r = -2 ∧ σ2 = σ) := by
  refine ct_i (maxL := 3) (ret := (some .int)) (by decide) rfl (Nat.le_of_ble_eq_true rfl) hA (fun K hl C => ?_)
  subst hl
  change WW K G _ _ σ [(0, .ref (gA G 30 (0))), (1, .int (x)), (2, .int (w))] 0 []
  refine ww_aload_n C dX6_symmetries_0 rfl 0 rfl ?_
  refine ww_iload_n C dX6_symmetries_1 rfl 1 rfl ?_
  refine ww_calliF (cx_V (n := 1) (As := [.int (x)]) C  (c_X6_isPolygon (kL K) G hA _ cnt hc hc8 _) gX6_symmetries_X6_isPolygon rfl ⟨rfl, rfl⟩ (by decide +kernel) (by decide) rfl (by decide) rfl rfl rfl (Nat.le_of_ble_eq_true rfl) dX6_symmetries_2) ?_
  refine ww_if_ne 11 C dX6_symmetries_5 (by decide) (fun h5 => ?_) (fun h5 => ?_)
  · exact absurd (of_decide_eq_true (bI_1.mp h5)) hu
  · refine ww_bipush (v := -2) C dX6_symmetries_8 (by decide) ?_
    refine ww_iret C dX6_symmetries_10 ?_
    exact ⟨rfl, rfl⟩
