theorem lc_X6_centroid_172 : Jvm.Cond.constantLong RX6 120 3 ∈ wsX6_centroid := by decide +kernel
theorem in_X6_centroid_X6 : ∀ w ∈ wsX60, w ∈ wsX6_centroid := by decide +kernel
theorem lk_X6_centroid_16 : Cond.fieldLink RX6 16 "PolyCutsModel" "corners" "[I" ∈ wsX6_centroid := by decide +kernel
theorem in_X6_points_X6 : ∀ w ∈ wsX60, w ∈ wsX6_points := by decide +kernel
theorem lk_X6_points_16 : Cond.fieldLink RX6 16 "PolyCutsModel" "corners" "[I" ∈ wsX6_points := by decide +kernel
theorem nab_i (v : Int32) : nab v.toInt64 < 2 ^ 62 := by
  have h1 := v.le_toInt
  have h2 := v.toInt_lt
  rw [nab, Int32.toInt_toInt64]
  omega
theorem nab_z {a : Int64} (h : nab a < 2 ^ 62) : nab (0 - a) < 2 ^ 62 := by
  unfold nab at h ⊢
  have h2 : (0 - a).toInt = - a.toInt := by
    rw [Int64.toInt_sub]
    simp only [Int64.toInt_zero, Int.zero_sub]
    rw [Int.bmod_eq_of_le] <;> omega
  rw [h2]
  omega
theorem sub_ne {a : Int64} (h : ¬ a = 0) : ¬ 0 - a = 0 := fun q => h (by
  have h2 : a = 0 - (0 - a) := by grind
  rw [h2, q]
  decide)
theorem nab_0 {b : Int64} (h0 : ¬ b = 0) : 0 < nab b := by
  rcases Nat.eq_zero_or_pos (nab b) with h | h
  · exfalso
    apply h0
    apply Int64.toInt_inj.mp
    have : b.toInt = 0 := Int.natAbs_eq_zero.mp h
    rw [this]
    decide
  · exact h
theorem gne {a b : Int64} (hb : nab b < 2 ^ 62) (h0 : ¬ b = 0) : ¬ lN (Nat.gcd (nab a) (nab b)) = 0 := by
  intro q
  have h1 := nab_0 h0
  have h2 : Nat.gcd (nab a) (nab b) ≤ nab b := Nat.gcd_le_right _ h1
  have h3 : 0 < Nat.gcd (nab a) (nab b) := Nat.gcd_pos_of_pos_right _ h1
  rw [← lN_0] at q
  have := (pk_lEQ (by omega) (by decide)).mp q
  omega
theorem nab_3 (v : Int32) : nab (3 * v.toInt64) < 2 ^ 62 := by
  have h1 := v.le_toInt
  have h2 := v.toInt_lt
  rw [nab, Int64.toInt_mul, Int32.toInt_toInt64]
  have h3 : (3 : Int64).toInt = 3 := by decide
  rw [h3, Int.bmod_eq_of_le] <;> omega
def cenM (ab be : Int64) (w : Int32) : Int64 := if 0 ≤ be then (if w = 0 then ab / lN (Nat.gcd (nab ab) (nab be)) else be / lN (Nat.gcd (nab ab) (nab be))) else (if w = 0 then (0 - ab) / lN (Nat.gcd (nab (0 - ab)) (nab (0 - be))) else (0 - be) / lN (Nat.gcd (nab (0 - ab)) (nab (0 - be))))
def fanL (v x y : Nat → Int32) (j : Nat) : Int64 := (fanF x y j).toInt64 * (v 0 + v (j + 1) + v (j + 1 + 1)).toInt64
set_option maxHeartbeats 4000000 in
set_option maxRecDepth 100000 in
theorem sg_X6_centroid {K : Kx} {G : Gx} (hA : wa G) (C : CX K G cX6_centroid 11 RX6 wsX6_centroid (rmd 3) (some .long)) (σ : Sg) (p n : Nat) (hp : p < 8) (hs : σ 33 0 p = nI n) (h3 : 3 ≤ n) (hn : n ≤ 14) (ab : Int64) (u w : Int32) (hw : w = 0 ∨ w = 1) (hab : nab ab < 2 ^ 62) (hfan : ¬ (3 * (fan n (fun i => σ 34 0 (14 * p + i)) (fun i => σ 35 0 (14 * p + i))).toInt64) = 0) : WW K G 11 (QL K G (fun r σ2 => r = (if w = 0 ∨ w = 1 then cenM ab (3 * (fan n (fun i => σ 34 0 (14 * p + i)) (fun i => σ 35 0 (14 * p + i))).toInt64) w else 0) ∧ σ2 = σ)) σ [(4, .long (ab)), (0, .ref (gA G 30 (0))), (1, .int (nI p)), (2, .int (u)), (3, .int (w))] 172 [] := by
  refine ww_ldc2 (v := 3) C lc_X6_centroid_172 dX6_centroid_172 ?_
  refine ww_aload_n C dX6_centroid_175 rfl 1 rfl ?_
  refine ww_iload_n C dX6_centroid_176 rfl 2 rfl ?_
  refine ww_calliF (cx_V (n := 1) (As := [.int (nI p)]) C  (c_X6_twice (kL K) G hA _ p n hp hs h3 hn) gX6_centroid_X6_twice rfl ⟨rfl, rfl⟩ (by decide +kernel) (by decide) rfl (by decide) rfl rfl rfl (Nat.le_of_ble_eq_true rfl) dX6_centroid_177) ?_
  refine ww_i2l C dX6_centroid_180 ?_
  refine ww_lmul C dX6_centroid_181 ?_
  refine ww_lstore (fun be => [(6, .long (be)), (4, .long (ab)), (0, .ref (gA G 30 (0))), (1, .int (nI p)), (2, .int (u)), (3, .int (w))]) C dX6_centroid_182 (by decide) (fun _ => rfl) (fun be ebe => ?_)
  have hbb : nab be < 2 ^ 62 := by rw [ebe]; exact nab_3 _
  have hb0 : ¬ be = 0 := by rw [ebe]; exact hfan
  refine ww_lload C dX6_centroid_184 0 rfl ?_
  refine ww_lconst (v := 0) C dX6_centroid_186 rfl ?_
  refine ww_lcmp C dX6_centroid_187 ?_
  refine ww_if_ge 203 C dX6_centroid_188 (by decide) (fun h188 => ?_) (fun h188 => ?_)
  · refine ww_lload C dX6_centroid_203 1 rfl ?_
    refine ww_lload C dX6_centroid_205 0 rfl ?_
    refine ww_calllF (cx_S (n := 2) (As := [.long (ab), .long (be)]) C  (c_X6_common (kL K) G hA _ _ _ hab hbb) gX6_centroid_X6_common rfl ⟨rfl, rfl⟩ (by decide +kernel) (by decide) rfl rfl (Nat.le_of_ble_eq_true rfl) dX6_centroid_207) ?_
    refine ww_lstore (fun y1 => [(8, .long (y1)), (6, .long (be)), (4, .long (ab)), (0, .ref (gA G 30 (0))), (1, .int (nI p)), (2, .int (u)), (3, .int (w))]) C dX6_centroid_210 (by decide) (fun _ => rfl) (fun y1 ey1 => ?_)
    rw [ey1]; clear ey1 y1
    refine ww_iload_n C dX6_centroid_212 rfl 6 rfl ?_
    refine ww_if_ne 224 C dX6_centroid_213 (by decide) (fun h213 => ?_) (fun h213 => ?_)
    · refine ww_lload C dX6_centroid_224 1 rfl ?_
      refine ww_lload C dX6_centroid_226 0 rfl ?_
      refine ww_ldiv C dX6_centroid_228 (by first | exact gne hbb hb0 | exact gne (nab_z hbb) (sub_ne hb0)) ?_
      refine ww_lret C dX6_centroid_229 ?_
      exact ⟨by rw [if_pos hw, ← ebe, cenM, if_pos ((lg_cmp_ge _ _).mp h188), if_neg h213], rfl⟩
    · refine ww_lload C dX6_centroid_216 2 rfl ?_
      refine ww_lload C dX6_centroid_218 0 rfl ?_
      refine ww_ldiv C dX6_centroid_220 (by first | exact gne hbb hb0 | exact gne (nab_z hbb) (sub_ne hb0)) ?_
      refine ww_goto 229 C dX6_centroid_221 (by decide) ?_
      refine ww_lret C dX6_centroid_229 ?_
      exact ⟨by rw [if_pos hw, ← ebe, cenM, if_pos ((lg_cmp_ge _ _).mp h188), if_pos h213], rfl⟩
  · refine ww_lconst (v := 0) C dX6_centroid_191 rfl ?_
    refine ww_lload C dX6_centroid_192 0 rfl ?_
    refine ww_lsub C dX6_centroid_194 ?_
    refine ww_lstore (fun y2 => [(6, .long (y2)), (4, .long (ab)), (0, .ref (gA G 30 (0))), (1, .int (nI p)), (2, .int (u)), (3, .int (w))]) C dX6_centroid_195 (by decide) (fun _ => rfl) (fun y2 ey2 => ?_)
    rw [ey2]; clear ey2 y2
    refine ww_lconst (v := 0) C dX6_centroid_197 rfl ?_
    refine ww_lload C dX6_centroid_198 1 rfl ?_
    refine ww_lsub C dX6_centroid_200 ?_
    refine ww_lstore (fun y3 => [(4, .long (y3)), (6, .long ((0) - (be))), (0, .ref (gA G 30 (0))), (1, .int (nI p)), (2, .int (u)), (3, .int (w))]) C dX6_centroid_201 (by decide) (fun _ => rfl) (fun y3 ey3 => ?_)
    rw [ey3]; clear ey3 y3
    refine ww_lload C dX6_centroid_203 0 rfl ?_
    refine ww_lload C dX6_centroid_205 1 rfl ?_
    refine ww_calllF (cx_S (n := 2) (As := [.long ((0) - (ab)), .long ((0) - (be))]) C  (c_X6_common (kL K) G hA _ _ _ (nab_z hab) (nab_z hbb)) gX6_centroid_X6_common rfl ⟨rfl, rfl⟩ (by decide +kernel) (by decide) rfl rfl (Nat.le_of_ble_eq_true rfl) dX6_centroid_207) ?_
    refine ww_lstore (fun y4 => [(8, .long (y4)), (4, .long ((0) - (ab))), (6, .long ((0) - (be))), (0, .ref (gA G 30 (0))), (1, .int (nI p)), (2, .int (u)), (3, .int (w))]) C dX6_centroid_210 (by decide) (fun _ => rfl) (fun y4 ey4 => ?_)
    rw [ey4]; clear ey4 y4
    refine ww_iload_n C dX6_centroid_212 rfl 6 rfl ?_
    refine ww_if_ne 224 C dX6_centroid_213 (by decide) (fun h213 => ?_) (fun h213 => ?_)
    · refine ww_lload C dX6_centroid_224 2 rfl ?_
      refine ww_lload C dX6_centroid_226 0 rfl ?_
      refine ww_ldiv C dX6_centroid_228 (by first | exact gne hbb hb0 | exact gne (nab_z hbb) (sub_ne hb0)) ?_
      refine ww_lret C dX6_centroid_229 ?_
      exact ⟨by rw [if_pos hw, ← ebe, cenM, if_neg (fun q => h188 ((lg_cmp_ge _ _).mpr q)), if_neg h213], rfl⟩
    · refine ww_lload C dX6_centroid_216 1 rfl ?_
      refine ww_lload C dX6_centroid_218 0 rfl ?_
      refine ww_ldiv C dX6_centroid_220 (by first | exact gne hbb hb0 | exact gne (nab_z hbb) (sub_ne hb0)) ?_
      refine ww_goto 229 C dX6_centroid_221 (by decide) ?_
      refine ww_lret C dX6_centroid_229 ?_
      exact ⟨by rw [if_pos hw, ← ebe, cenM, if_neg (fun q => h188 ((lg_cmp_ge _ _).mpr q)), if_pos h213], rfl⟩
set_option maxHeartbeats 4000000 in
set_option maxRecDepth 100000 in
theorem lp_X6_centroid_0 {K : Kx} {G : Gx} (hA : wa G) (C : CX K G cX6_centroid 11 RX6 wsX6_centroid (rmd 3) (some .long)) (σ : Sg) (p n : Nat) (hp : p < 8) (hs : σ 33 0 p = nI n) (h3 : 3 ≤ n) (hn : n ≤ 14) (w : Int32) (hw : w = 0 ∨ w = 1) (hab : nab (sumL (fanL (fun i => σ 34 0 (14 * p + i)) (fun i => σ 34 0 (14 * p + i)) (fun i => σ 35 0 (14 * p + i))) (n - 2)) < 2 ^ 62) (hfan : ¬ (3 * (fan n (fun i => σ 34 0 (14 * p + i)) (fun i => σ 35 0 (14 * p + i))).toInt64) = 0) : ∀ (f j : Nat), n - j < f → (j + 2 ≤ n) → WW K G 11 (QL K G (fun r σ2 => r = (if w = 0 ∨ w = 1 then cenM (sumL (fanL (fun i => σ 34 0 (14 * p + i)) (fun i => σ 34 0 (14 * p + i)) (fun i => σ 35 0 (14 * p + i))) (n - 2)) (3 * (fan n (fun i => σ 34 0 (14 * p + i)) (fun i => σ 35 0 (14 * p + i))).toInt64) w else 0) ∧ σ2 = σ)) σ [(6, .int (nI (j + 1))), (4, .long (sumL (fanL (fun i => σ 34 0 (14 * p + i)) (fun i => σ 34 0 (14 * p + i)) (fun i => σ 35 0 (14 * p + i))) j)), (0, .ref (gA G 30 (0))), (1, .int (nI p)), (2, .int (0)), (3, .int (w))] 34 [] := by
  intro f
  induction f with
  | zero => intro j  h; exact absurd h (Nat.not_lt_zero _)
  | succ f ih =>
    intro j  hf hj
    refine ww_iload C dX6_centroid_34 0 rfl ?_
    refine ww_iconst (v := 1) C dX6_centroid_36 rfl ?_
    refine ww_iadd C dX6_centroid_37 ?_
    rw [show (nI (j + 1)) + (1) = nI (j + 1 + 1) from nI_add (j + 1) (1)]
    refine ww_aload_n C dX6_centroid_38 rfl 2 rfl ?_
    refine ww_gr (j := 0) (k := 30) (f := 4) C rfl rfl (by decide) rfl in_X6_centroid_X6 (by decide) lk_X6_centroid_16 dX6_centroid_39 rfl ?_
    refine ww_iload_n C dX6_centroid_42 rfl 3 rfl ?_
    refine ww_iald (k := 33) (j := p) C rfl (by decide) (by decide) dX6_centroid_43 rfl hp ?_
    rw [hs]
    refine ww_icmp_ge 172 C dX6_centroid_44 (by decide) (fun h44 => ?_) (fun h44 => ?_)
    · have g44 : n ≤ j + 1 + 1 := (cv_le (a := n) (b := j + 1 + 1) rfl rfl (by omega) (by omega)).mp h44
      rw [show sumL (fanL (fun i => σ 34 0 (14 * p + i)) (fun i => σ 34 0 (14 * p + i)) (fun i => σ 35 0 (14 * p + i))) j = sumL (fanL (fun i => σ 34 0 (14 * p + i)) (fun i => σ 34 0 (14 * p + i)) (fun i => σ 35 0 (14 * p + i))) (n - 2) by rw [show j = n - 2 by omega]]
      exact ww_sub [1, 2, 3, 4, 5] rfl (sg_X6_centroid hA C σ p n hp hs h3 hn _ 0 w hw hab hfan)
    · have g44 : ¬ n ≤ j + 1 + 1 := fun q => h44 ((cv_le (a := n) (b := j + 1 + 1) rfl rfl (by omega) (by omega)).mpr q)
      refine ww_aload_n C dX6_centroid_47 rfl 2 rfl ?_
      refine ww_iload_n C dX6_centroid_48 rfl 3 rfl ?_
      refine ww_iconst (v := 0) C dX6_centroid_49 rfl ?_
      refine ww_calliF (cx_V (n := 2) (As := [.int (nI p), .int (0)]) C  (c_xOf_i (kL K) G hA _ p n hp hs h3 hn 0 (by omega)) gX6_centroid_X6_xOf rfl ⟨rfl, rfl⟩ (by decide +kernel) (by decide) rfl (by decide) rfl rfl rfl (Nat.le_of_ble_eq_true rfl) dX6_centroid_50) ?_
      refine ww_aload_n C dX6_centroid_53 rfl 2 rfl ?_
      refine ww_iload_n C dX6_centroid_54 rfl 3 rfl ?_
      refine ww_iconst (v := 0) C dX6_centroid_55 rfl ?_
      refine ww_calliF (cx_V (n := 2) (As := [.int (nI p), .int (0)]) C  (c_yOf_i (kL K) G hA _ p n hp hs h3 hn 0 (by omega)) gX6_centroid_X6_yOf rfl ⟨rfl, rfl⟩ (by decide +kernel) (by decide) rfl (by decide) rfl rfl rfl (Nat.le_of_ble_eq_true rfl) dX6_centroid_56) ?_
      refine ww_aload_n C dX6_centroid_59 rfl 2 rfl ?_
      refine ww_iload_n C dX6_centroid_60 rfl 3 rfl ?_
      refine ww_iload C dX6_centroid_61 0 rfl ?_
      refine ww_calliF (cx_V (n := 2) (As := [.int (nI p), .int (nI (j + 1))]) C  (c_xOf_i (kL K) G hA _ p n hp hs h3 hn (j + 1) (by omega)) gX6_centroid_X6_xOf rfl ⟨rfl, rfl⟩ (by decide +kernel) (by decide) rfl (by decide) rfl rfl rfl (Nat.le_of_ble_eq_true rfl) dX6_centroid_63) ?_
      refine ww_aload_n C dX6_centroid_66 rfl 2 rfl ?_
      refine ww_iload_n C dX6_centroid_67 rfl 3 rfl ?_
      refine ww_iload C dX6_centroid_68 0 rfl ?_
      refine ww_calliF (cx_V (n := 2) (As := [.int (nI p), .int (nI (j + 1))]) C  (c_yOf_i (kL K) G hA _ p n hp hs h3 hn (j + 1) (by omega)) gX6_centroid_X6_yOf rfl ⟨rfl, rfl⟩ (by decide +kernel) (by decide) rfl (by decide) rfl rfl rfl (Nat.le_of_ble_eq_true rfl) dX6_centroid_70) ?_
      refine ww_aload_n C dX6_centroid_73 rfl 2 rfl ?_
      refine ww_iload_n C dX6_centroid_74 rfl 3 rfl ?_
      refine ww_iload C dX6_centroid_75 0 rfl ?_
      refine ww_iconst (v := 1) C dX6_centroid_77 rfl ?_
      refine ww_iadd C dX6_centroid_78 ?_
      rw [show (nI (j + 1)) + (1) = nI (j + 1 + 1) from nI_add (j + 1) (1)]
      refine ww_calliF (cx_V (n := 2) (As := [.int (nI p), .int (nI (j + 1 + 1))]) C  (c_xOf_i (kL K) G hA _ p n hp hs h3 hn (j + 1 + 1) (by omega)) gX6_centroid_X6_xOf rfl ⟨rfl, rfl⟩ (by decide +kernel) (by decide) rfl (by decide) rfl rfl rfl (Nat.le_of_ble_eq_true rfl) dX6_centroid_79) ?_
      refine ww_aload_n C dX6_centroid_82 rfl 2 rfl ?_
      refine ww_iload_n C dX6_centroid_83 rfl 3 rfl ?_
      refine ww_iload C dX6_centroid_84 0 rfl ?_
      refine ww_iconst (v := 1) C dX6_centroid_86 rfl ?_
      refine ww_iadd C dX6_centroid_87 ?_
      rw [show (nI (j + 1)) + (1) = nI (j + 1 + 1) from nI_add (j + 1) (1)]
      refine ww_calliF (cx_V (n := 2) (As := [.int (nI p), .int (nI (j + 1 + 1))]) C  (c_yOf_i (kL K) G hA _ p n hp hs h3 hn (j + 1 + 1) (by omega)) gX6_centroid_X6_yOf rfl ⟨rfl, rfl⟩ (by decide +kernel) (by decide) rfl (by decide) rfl rfl rfl (Nat.le_of_ble_eq_true rfl) dX6_centroid_88) ?_
      refine ww_calliF (cx_S (n := 6) (As := [.int (σ 34 0 (14 * p + 0)), .int (σ 35 0 (14 * p + 0)), .int (σ 34 0 (14 * p + (j + 1))), .int (σ 35 0 (14 * p + (j + 1))), .int (σ 34 0 (14 * p + (j + 1 + 1))), .int (σ 35 0 (14 * p + (j + 1 + 1)))]) C  (c_X6_turn (kL K) G hA _ _ _ _ _ _ _) gX6_centroid_X6_turn rfl ⟨rfl, rfl⟩ (by decide +kernel) (by decide) rfl rfl (Nat.le_of_ble_eq_true rfl) dX6_centroid_91) ?_
      refine ww_i2l C dX6_centroid_94 ?_
      refine ww_lstore (fun y1 => [(7, .long (y1)), (6, .int (nI (j + 1))), (4, .long (sumL (fanL (fun i => σ 34 0 (14 * p + i)) (fun i => σ 34 0 (14 * p + i)) (fun i => σ 35 0 (14 * p + i))) j)), (0, .ref (gA G 30 (0))), (1, .int (nI p)), (2, .int (0)), (3, .int (w))]) C dX6_centroid_95 (by decide) (fun _ => rfl) (fun y1 ey1 => ?_)
      rw [ey1]; clear ey1 y1
      refine ww_iload_n C dX6_centroid_97 rfl 5 rfl ?_
      refine ww_if_ne 129 C dX6_centroid_98 (by decide) (fun h98 => ?_) (fun h98 => ?_)
      · have g98 : ¬ 0 = 0 := fun q => h98 ((cv_eq (a := 0) (b := 0) (by decide) (by decide) (by omega) (by omega)).mpr q)
        exact absurd g98 (by decide)
      · have g98 : 0 = 0 := (cv_eq (a := 0) (b := 0) (by decide) (by decide) (by omega) (by omega)).mp h98
        refine ww_aload_n C dX6_centroid_101 rfl 3 rfl ?_
        refine ww_iload_n C dX6_centroid_102 rfl 4 rfl ?_
        refine ww_iconst (v := 0) C dX6_centroid_103 rfl ?_
        refine ww_calliF (cx_V (n := 2) (As := [.int (nI p), .int (0)]) C  (c_xOf_i (kL K) G hA _ p n hp hs h3 hn 0 (by omega)) gX6_centroid_X6_xOf rfl ⟨rfl, rfl⟩ (by decide +kernel) (by decide) rfl (by decide) rfl rfl rfl (Nat.le_of_ble_eq_true rfl) dX6_centroid_104) ?_
        refine ww_aload_n C dX6_centroid_107 rfl 3 rfl ?_
        refine ww_iload_n C dX6_centroid_108 rfl 4 rfl ?_
        refine ww_iload C dX6_centroid_109 1 rfl ?_
        refine ww_calliF (cx_V (n := 2) (As := [.int (nI p), .int (nI (j + 1))]) C  (c_xOf_i (kL K) G hA _ p n hp hs h3 hn (j + 1) (by omega)) gX6_centroid_X6_xOf rfl ⟨rfl, rfl⟩ (by decide +kernel) (by decide) rfl (by decide) rfl rfl rfl (Nat.le_of_ble_eq_true rfl) dX6_centroid_111) ?_
        refine ww_iadd C dX6_centroid_114 ?_
        refine ww_aload_n C dX6_centroid_115 rfl 3 rfl ?_
        refine ww_iload_n C dX6_centroid_116 rfl 4 rfl ?_
        refine ww_iload C dX6_centroid_117 1 rfl ?_
        refine ww_iconst (v := 1) C dX6_centroid_119 rfl ?_
        refine ww_iadd C dX6_centroid_120 ?_
        rw [show (nI (j + 1)) + (1) = nI (j + 1 + 1) from nI_add (j + 1) (1)]
        refine ww_calliF (cx_V (n := 2) (As := [.int (nI p), .int (nI (j + 1 + 1))]) C  (c_xOf_i (kL K) G hA _ p n hp hs h3 hn (j + 1 + 1) (by omega)) gX6_centroid_X6_xOf rfl ⟨rfl, rfl⟩ (by decide +kernel) (by decide) rfl (by decide) rfl rfl rfl (Nat.le_of_ble_eq_true rfl) dX6_centroid_121) ?_
        refine ww_iadd C dX6_centroid_124 ?_
        refine ww_i2l C dX6_centroid_125 ?_
        refine ww_goto 154 C dX6_centroid_126 (by decide) ?_
        refine ww_lstore (fun y2 => [(9, .long (y2)), (7, .long ((tnR (σ 34 0 (14 * p + 0)) (σ 35 0 (14 * p + 0)) (σ 34 0 (14 * p + (j + 1))) (σ 35 0 (14 * p + (j + 1))) (σ 34 0 (14 * p + (j + 1 + 1))) (σ 35 0 (14 * p + (j + 1 + 1)))).toInt64)), (6, .int (nI (j + 1))), (4, .long (sumL (fanL (fun i => σ 34 0 (14 * p + i)) (fun i => σ 34 0 (14 * p + i)) (fun i => σ 35 0 (14 * p + i))) j)), (0, .ref (gA G 30 (0))), (1, .int (nI p)), (2, .int (0)), (3, .int (w))]) C dX6_centroid_154 (by decide) (fun _ => rfl) (fun y2 ey2 => ?_)
        rw [ey2]; clear ey2 y2
        refine ww_lload C dX6_centroid_156 3 rfl ?_
        refine ww_lload C dX6_centroid_158 1 rfl ?_
        refine ww_lload C dX6_centroid_160 0 rfl ?_
        refine ww_lmul C dX6_centroid_162 ?_
        refine ww_ladd C dX6_centroid_163 ?_
        refine ww_lstore (fun y3 => [(4, .long (y3)), (9, .long ((((σ 34 0 (14 * p + 0)) + (σ 34 0 (14 * p + (j + 1)))) + (σ 34 0 (14 * p + (j + 1 + 1)))).toInt64)), (7, .long ((tnR (σ 34 0 (14 * p + 0)) (σ 35 0 (14 * p + 0)) (σ 34 0 (14 * p + (j + 1))) (σ 35 0 (14 * p + (j + 1))) (σ 34 0 (14 * p + (j + 1 + 1))) (σ 35 0 (14 * p + (j + 1 + 1)))).toInt64)), (6, .int (nI (j + 1))), (0, .ref (gA G 30 (0))), (1, .int (nI p)), (2, .int (0)), (3, .int (w))]) C dX6_centroid_164 (by decide) (fun _ => rfl) (fun y3 ey3 => ?_)
        rw [ey3]; clear ey3 y3
        refine ww_iinc (q := 3) (fun y4 => [(6, .int (y4)), (4, .long ((sumL (fanL (fun i => σ 34 0 (14 * p + i)) (fun i => σ 34 0 (14 * p + i)) (fun i => σ 35 0 (14 * p + i))) j) + (((tnR (σ 34 0 (14 * p + 0)) (σ 35 0 (14 * p + 0)) (σ 34 0 (14 * p + (j + 1))) (σ 35 0 (14 * p + (j + 1))) (σ 34 0 (14 * p + (j + 1 + 1))) (σ 35 0 (14 * p + (j + 1 + 1)))).toInt64) * ((((σ 34 0 (14 * p + 0)) + (σ 34 0 (14 * p + (j + 1)))) + (σ 34 0 (14 * p + (j + 1 + 1)))).toInt64)))), (9, .long ((((σ 34 0 (14 * p + 0)) + (σ 34 0 (14 * p + (j + 1)))) + (σ 34 0 (14 * p + (j + 1 + 1)))).toInt64)), (7, .long ((tnR (σ 34 0 (14 * p + 0)) (σ 35 0 (14 * p + 0)) (σ 34 0 (14 * p + (j + 1))) (σ 35 0 (14 * p + (j + 1))) (σ 34 0 (14 * p + (j + 1 + 1))) (σ 35 0 (14 * p + (j + 1 + 1)))).toInt64)), (0, .ref (gA G 30 (0))), (1, .int (nI p)), (2, .int (0)), (3, .int (w))]) C dX6_centroid_166 rfl (by decide) (fun _ => rfl) (fun y4 ey4 => ?_)
        obtain rfl : y4 = nI (j + 1 + 1) := ninc rfl ey4
        refine ww_goto 34 C dX6_centroid_169 (by decide) ?_
        exact ww_sub [0, 1, 4, 5, 6, 7] rfl (ih (j + 1) (by omega) (by omega))
set_option maxHeartbeats 4000000 in
set_option maxRecDepth 100000 in
theorem c_X6_centroid_0 (l : Launch) (G : Gx) (hA : wa G) (σ : Sg) (cnt p n : Nat) (hc : σ 30 0 3 = nI cnt) (hc8 : cnt ≤ 8) (hpc : p < cnt) (hp : p < 8) (hs : σ 33 0 p = nI n) (h3 : 3 ≤ n) (hn : n ≤ 14) (w : Int32) (hab : nab (sumL (fanL (fun i => σ 34 0 (14 * p + i)) (fun i => σ 34 0 (14 * p + i)) (fun i => σ 35 0 (14 * p + i))) (n - 2)) < 2 ^ 62) (hfan : ¬ (3 * (fan n (fun i => σ 34 0 (14 * p + i)) (fun i => σ 35 0 (14 * p + i))).toInt64) = 0) : CtL l yX6_centroid wsX6_centroid (rmd 3) G [.ref (gA G 30 (0)), .int (nI p), .int (0), .int (w)] σ (fun r σ2 => r = (if w = 0 ∨ w = 1 then cenM (sumL (fanL (fun i => σ 34 0 (14 * p + i)) (fun i => σ 34 0 (14 * p + i)) (fun i => σ 35 0 (14 * p + i))) (n - 2)) (3 * (fan n (fun i => σ 34 0 (14 * p + i)) (fun i => σ 35 0 (14 * p + i))).toInt64) w else 0) ∧ σ2 = σ) := by
  refine ct_l (maxL := 11) (ret := (some .long)) (by decide) rfl (Nat.le_of_ble_eq_true rfl) hA (fun K hl C => ?_)
  subst hl
  change WW K G _ _ σ [(0, .ref (gA G 30 (0))), (1, .int (nI p)), (2, .int (0)), (3, .int (w))] 0 []
  refine ww_aload_n C dX6_centroid_0 rfl 0 rfl ?_
  refine ww_iload_n C dX6_centroid_1 rfl 1 rfl ?_
  refine ww_calliF (cx_V (n := 1) (As := [.int (nI p)]) C  (c_X6_isPolygon (kL K) G hA _ cnt hc hc8 _) gX6_centroid_X6_isPolygon rfl ⟨rfl, rfl⟩ (by decide +kernel) (by decide) rfl (by decide) rfl rfl rfl (Nat.le_of_ble_eq_true rfl) dX6_centroid_2) ?_
  refine ww_if_eq 26 C dX6_centroid_5 (by decide) (fun h5 => ?_) (fun h5 => ?_)
  · exact absurd (kn_p hpc hc8) (of_decide_eq_false (bI_0.mp h5))
  · refine ww_iload_n C dX6_centroid_8 rfl 2 rfl ?_
    refine ww_iconst (v := 0) C dX6_centroid_9 rfl ?_
    refine ww_iconst (v := 1) C dX6_centroid_10 rfl ?_
    refine ww_calliF (cx_S (n := 3) (As := [.int (0), .int (0), .int (1)]) C  (c_X6_within (kL K) G hA _ _ _ _) gX6_centroid_X6_within rfl ⟨rfl, rfl⟩ (by decide +kernel) (by decide) rfl rfl (Nat.le_of_ble_eq_true rfl) dX6_centroid_11) ?_
    refine ww_if_eq 26 C dX6_centroid_14 (by decide) (fun h14 => ?_) (fun h14 => ?_)
    · exact absurd h14 (by decide)
    · refine ww_iload_n C dX6_centroid_17 rfl 3 rfl ?_
      refine ww_iconst (v := 0) C dX6_centroid_18 rfl ?_
      refine ww_iconst (v := 1) C dX6_centroid_19 rfl ?_
      refine ww_calliF (cx_S (n := 3) (As := [.int (w), .int (0), .int (1)]) C  (c_X6_within (kL K) G hA _ _ _ _) gX6_centroid_X6_within rfl ⟨rfl, rfl⟩ (by decide +kernel) (by decide) rfl rfl (Nat.le_of_ble_eq_true rfl) dX6_centroid_20) ?_
      refine ww_if_ne 28 C dX6_centroid_23 (by decide) (fun h23 => ?_) (fun h23 => ?_)
      · have hw := w_iff.mp (of_decide_eq_true (bI_1.mp h23))
        refine ww_lconst (v := 0) C dX6_centroid_28 rfl ?_
        refine ww_lstore (fun y1 => [(4, .long (y1)), (0, .ref (gA G 30 (0))), (1, .int (nI p)), (2, .int (0)), (3, .int (w))]) C dX6_centroid_29 (by decide) (fun _ => rfl) (fun y1 ey1 => ?_)
        rw [ey1]; clear ey1 y1
        refine ww_iconst (v := 1) C dX6_centroid_31 rfl ?_
        refine ww_istore (fun y2 => [(6, .int (y2)), (4, .long (0)), (0, .ref (gA G 30 (0))), (1, .int (nI p)), (2, .int (0)), (3, .int (w))]) C dX6_centroid_32 (by decide) (fun _ => rfl) (fun y2 ey2 => ?_)
        obtain rfl : y2 = nI 1 := (ey2.trans (by decide))
        exact ww_sub [0, 1, 2, 3, 4, 5] rfl (lp_X6_centroid_0 hA C σ p n hp hs h3 hn w hw hab hfan (n + 1) 0 (by omega) (by omega))
      · refine ww_lconst (v := 0) C dX6_centroid_26 rfl ?_
        refine ww_lret C dX6_centroid_27 ?_
        exact ⟨by rw [if_neg (fun q => of_decide_eq_false (bI_0.mp h23) (w_iff.mpr q))], rfl⟩
set_option maxHeartbeats 4000000 in
set_option maxRecDepth 100000 in
theorem lp_X6_centroid_1 {K : Kx} {G : Gx} (hA : wa G) (C : CX K G cX6_centroid 11 RX6 wsX6_centroid (rmd 3) (some .long)) (σ : Sg) (p n : Nat) (hp : p < 8) (hs : σ 33 0 p = nI n) (h3 : 3 ≤ n) (hn : n ≤ 14) (w : Int32) (hw : w = 0 ∨ w = 1) (hab : nab (sumL (fanL (fun i => σ 35 0 (14 * p + i)) (fun i => σ 34 0 (14 * p + i)) (fun i => σ 35 0 (14 * p + i))) (n - 2)) < 2 ^ 62) (hfan : ¬ (3 * (fan n (fun i => σ 34 0 (14 * p + i)) (fun i => σ 35 0 (14 * p + i))).toInt64) = 0) : ∀ (f j : Nat), n - j < f → (j + 2 ≤ n) → WW K G 11 (QL K G (fun r σ2 => r = (if w = 0 ∨ w = 1 then cenM (sumL (fanL (fun i => σ 35 0 (14 * p + i)) (fun i => σ 34 0 (14 * p + i)) (fun i => σ 35 0 (14 * p + i))) (n - 2)) (3 * (fan n (fun i => σ 34 0 (14 * p + i)) (fun i => σ 35 0 (14 * p + i))).toInt64) w else 0) ∧ σ2 = σ)) σ [(6, .int (nI (j + 1))), (4, .long (sumL (fanL (fun i => σ 35 0 (14 * p + i)) (fun i => σ 34 0 (14 * p + i)) (fun i => σ 35 0 (14 * p + i))) j)), (0, .ref (gA G 30 (0))), (1, .int (nI p)), (2, .int (1)), (3, .int (w))] 34 [] := by
  intro f
  induction f with
  | zero => intro j  h; exact absurd h (Nat.not_lt_zero _)
  | succ f ih =>
    intro j  hf hj
    refine ww_iload C dX6_centroid_34 0 rfl ?_
    refine ww_iconst (v := 1) C dX6_centroid_36 rfl ?_
    refine ww_iadd C dX6_centroid_37 ?_
    rw [show (nI (j + 1)) + (1) = nI (j + 1 + 1) from nI_add (j + 1) (1)]
    refine ww_aload_n C dX6_centroid_38 rfl 2 rfl ?_
    refine ww_gr (j := 0) (k := 30) (f := 4) C rfl rfl (by decide) rfl in_X6_centroid_X6 (by decide) lk_X6_centroid_16 dX6_centroid_39 rfl ?_
    refine ww_iload_n C dX6_centroid_42 rfl 3 rfl ?_
    refine ww_iald (k := 33) (j := p) C rfl (by decide) (by decide) dX6_centroid_43 rfl hp ?_
    rw [hs]
    refine ww_icmp_ge 172 C dX6_centroid_44 (by decide) (fun h44 => ?_) (fun h44 => ?_)
    · have g44 : n ≤ j + 1 + 1 := (cv_le (a := n) (b := j + 1 + 1) rfl rfl (by omega) (by omega)).mp h44
      rw [show sumL (fanL (fun i => σ 35 0 (14 * p + i)) (fun i => σ 34 0 (14 * p + i)) (fun i => σ 35 0 (14 * p + i))) j = sumL (fanL (fun i => σ 35 0 (14 * p + i)) (fun i => σ 34 0 (14 * p + i)) (fun i => σ 35 0 (14 * p + i))) (n - 2) by rw [show j = n - 2 by omega]]
      exact ww_sub [1, 2, 3, 4, 5] rfl (sg_X6_centroid hA C σ p n hp hs h3 hn _ 1 w hw hab hfan)
    · have g44 : ¬ n ≤ j + 1 + 1 := fun q => h44 ((cv_le (a := n) (b := j + 1 + 1) rfl rfl (by omega) (by omega)).mpr q)
      refine ww_aload_n C dX6_centroid_47 rfl 2 rfl ?_
      refine ww_iload_n C dX6_centroid_48 rfl 3 rfl ?_
      refine ww_iconst (v := 0) C dX6_centroid_49 rfl ?_
      refine ww_calliF (cx_V (n := 2) (As := [.int (nI p), .int (0)]) C  (c_xOf_i (kL K) G hA _ p n hp hs h3 hn 0 (by omega)) gX6_centroid_X6_xOf rfl ⟨rfl, rfl⟩ (by decide +kernel) (by decide) rfl (by decide) rfl rfl rfl (Nat.le_of_ble_eq_true rfl) dX6_centroid_50) ?_
      refine ww_aload_n C dX6_centroid_53 rfl 2 rfl ?_
      refine ww_iload_n C dX6_centroid_54 rfl 3 rfl ?_
      refine ww_iconst (v := 0) C dX6_centroid_55 rfl ?_
      refine ww_calliF (cx_V (n := 2) (As := [.int (nI p), .int (0)]) C  (c_yOf_i (kL K) G hA _ p n hp hs h3 hn 0 (by omega)) gX6_centroid_X6_yOf rfl ⟨rfl, rfl⟩ (by decide +kernel) (by decide) rfl (by decide) rfl rfl rfl (Nat.le_of_ble_eq_true rfl) dX6_centroid_56) ?_
      refine ww_aload_n C dX6_centroid_59 rfl 2 rfl ?_
      refine ww_iload_n C dX6_centroid_60 rfl 3 rfl ?_
      refine ww_iload C dX6_centroid_61 0 rfl ?_
      refine ww_calliF (cx_V (n := 2) (As := [.int (nI p), .int (nI (j + 1))]) C  (c_xOf_i (kL K) G hA _ p n hp hs h3 hn (j + 1) (by omega)) gX6_centroid_X6_xOf rfl ⟨rfl, rfl⟩ (by decide +kernel) (by decide) rfl (by decide) rfl rfl rfl (Nat.le_of_ble_eq_true rfl) dX6_centroid_63) ?_
      refine ww_aload_n C dX6_centroid_66 rfl 2 rfl ?_
      refine ww_iload_n C dX6_centroid_67 rfl 3 rfl ?_
      refine ww_iload C dX6_centroid_68 0 rfl ?_
      refine ww_calliF (cx_V (n := 2) (As := [.int (nI p), .int (nI (j + 1))]) C  (c_yOf_i (kL K) G hA _ p n hp hs h3 hn (j + 1) (by omega)) gX6_centroid_X6_yOf rfl ⟨rfl, rfl⟩ (by decide +kernel) (by decide) rfl (by decide) rfl rfl rfl (Nat.le_of_ble_eq_true rfl) dX6_centroid_70) ?_
      refine ww_aload_n C dX6_centroid_73 rfl 2 rfl ?_
      refine ww_iload_n C dX6_centroid_74 rfl 3 rfl ?_
      refine ww_iload C dX6_centroid_75 0 rfl ?_
      refine ww_iconst (v := 1) C dX6_centroid_77 rfl ?_
      refine ww_iadd C dX6_centroid_78 ?_
      rw [show (nI (j + 1)) + (1) = nI (j + 1 + 1) from nI_add (j + 1) (1)]
      refine ww_calliF (cx_V (n := 2) (As := [.int (nI p), .int (nI (j + 1 + 1))]) C  (c_xOf_i (kL K) G hA _ p n hp hs h3 hn (j + 1 + 1) (by omega)) gX6_centroid_X6_xOf rfl ⟨rfl, rfl⟩ (by decide +kernel) (by decide) rfl (by decide) rfl rfl rfl (Nat.le_of_ble_eq_true rfl) dX6_centroid_79) ?_
      refine ww_aload_n C dX6_centroid_82 rfl 2 rfl ?_
      refine ww_iload_n C dX6_centroid_83 rfl 3 rfl ?_
      refine ww_iload C dX6_centroid_84 0 rfl ?_
      refine ww_iconst (v := 1) C dX6_centroid_86 rfl ?_
      refine ww_iadd C dX6_centroid_87 ?_
      rw [show (nI (j + 1)) + (1) = nI (j + 1 + 1) from nI_add (j + 1) (1)]
      refine ww_calliF (cx_V (n := 2) (As := [.int (nI p), .int (nI (j + 1 + 1))]) C  (c_yOf_i (kL K) G hA _ p n hp hs h3 hn (j + 1 + 1) (by omega)) gX6_centroid_X6_yOf rfl ⟨rfl, rfl⟩ (by decide +kernel) (by decide) rfl (by decide) rfl rfl rfl (Nat.le_of_ble_eq_true rfl) dX6_centroid_88) ?_
      refine ww_calliF (cx_S (n := 6) (As := [.int (σ 34 0 (14 * p + 0)), .int (σ 35 0 (14 * p + 0)), .int (σ 34 0 (14 * p + (j + 1))), .int (σ 35 0 (14 * p + (j + 1))), .int (σ 34 0 (14 * p + (j + 1 + 1))), .int (σ 35 0 (14 * p + (j + 1 + 1)))]) C  (c_X6_turn (kL K) G hA _ _ _ _ _ _ _) gX6_centroid_X6_turn rfl ⟨rfl, rfl⟩ (by decide +kernel) (by decide) rfl rfl (Nat.le_of_ble_eq_true rfl) dX6_centroid_91) ?_
      refine ww_i2l C dX6_centroid_94 ?_
      refine ww_lstore (fun y1 => [(7, .long (y1)), (6, .int (nI (j + 1))), (4, .long (sumL (fanL (fun i => σ 35 0 (14 * p + i)) (fun i => σ 34 0 (14 * p + i)) (fun i => σ 35 0 (14 * p + i))) j)), (0, .ref (gA G 30 (0))), (1, .int (nI p)), (2, .int (1)), (3, .int (w))]) C dX6_centroid_95 (by decide) (fun _ => rfl) (fun y1 ey1 => ?_)
      rw [ey1]; clear ey1 y1
      refine ww_iload_n C dX6_centroid_97 rfl 5 rfl ?_
      refine ww_if_ne 129 C dX6_centroid_98 (by decide) (fun h98 => ?_) (fun h98 => ?_)
      · have g98 : ¬ 1 = 0 := fun q => h98 ((cv_eq (a := 1) (b := 0) (by decide) (by decide) (by omega) (by omega)).mpr q)
        refine ww_aload_n C dX6_centroid_129 rfl 3 rfl ?_
        refine ww_iload_n C dX6_centroid_130 rfl 4 rfl ?_
        refine ww_iconst (v := 0) C dX6_centroid_131 rfl ?_
        refine ww_calliF (cx_V (n := 2) (As := [.int (nI p), .int (0)]) C  (c_yOf_i (kL K) G hA _ p n hp hs h3 hn 0 (by omega)) gX6_centroid_X6_yOf rfl ⟨rfl, rfl⟩ (by decide +kernel) (by decide) rfl (by decide) rfl rfl rfl (Nat.le_of_ble_eq_true rfl) dX6_centroid_132) ?_
        refine ww_aload_n C dX6_centroid_135 rfl 3 rfl ?_
        refine ww_iload_n C dX6_centroid_136 rfl 4 rfl ?_
        refine ww_iload C dX6_centroid_137 1 rfl ?_
        refine ww_calliF (cx_V (n := 2) (As := [.int (nI p), .int (nI (j + 1))]) C  (c_yOf_i (kL K) G hA _ p n hp hs h3 hn (j + 1) (by omega)) gX6_centroid_X6_yOf rfl ⟨rfl, rfl⟩ (by decide +kernel) (by decide) rfl (by decide) rfl rfl rfl (Nat.le_of_ble_eq_true rfl) dX6_centroid_139) ?_
        refine ww_iadd C dX6_centroid_142 ?_
        refine ww_aload_n C dX6_centroid_143 rfl 3 rfl ?_
        refine ww_iload_n C dX6_centroid_144 rfl 4 rfl ?_
        refine ww_iload C dX6_centroid_145 1 rfl ?_
        refine ww_iconst (v := 1) C dX6_centroid_147 rfl ?_
        refine ww_iadd C dX6_centroid_148 ?_
        rw [show (nI (j + 1)) + (1) = nI (j + 1 + 1) from nI_add (j + 1) (1)]
        refine ww_calliF (cx_V (n := 2) (As := [.int (nI p), .int (nI (j + 1 + 1))]) C  (c_yOf_i (kL K) G hA _ p n hp hs h3 hn (j + 1 + 1) (by omega)) gX6_centroid_X6_yOf rfl ⟨rfl, rfl⟩ (by decide +kernel) (by decide) rfl (by decide) rfl rfl rfl (Nat.le_of_ble_eq_true rfl) dX6_centroid_149) ?_
        refine ww_iadd C dX6_centroid_152 ?_
        refine ww_i2l C dX6_centroid_153 ?_
        refine ww_lstore (fun y2 => [(9, .long (y2)), (7, .long ((tnR (σ 34 0 (14 * p + 0)) (σ 35 0 (14 * p + 0)) (σ 34 0 (14 * p + (j + 1))) (σ 35 0 (14 * p + (j + 1))) (σ 34 0 (14 * p + (j + 1 + 1))) (σ 35 0 (14 * p + (j + 1 + 1)))).toInt64)), (6, .int (nI (j + 1))), (4, .long (sumL (fanL (fun i => σ 35 0 (14 * p + i)) (fun i => σ 34 0 (14 * p + i)) (fun i => σ 35 0 (14 * p + i))) j)), (0, .ref (gA G 30 (0))), (1, .int (nI p)), (2, .int (1)), (3, .int (w))]) C dX6_centroid_154 (by decide) (fun _ => rfl) (fun y2 ey2 => ?_)
        rw [ey2]; clear ey2 y2
        refine ww_lload C dX6_centroid_156 3 rfl ?_
        refine ww_lload C dX6_centroid_158 1 rfl ?_
        refine ww_lload C dX6_centroid_160 0 rfl ?_
        refine ww_lmul C dX6_centroid_162 ?_
        refine ww_ladd C dX6_centroid_163 ?_
        refine ww_lstore (fun y3 => [(4, .long (y3)), (9, .long ((((σ 35 0 (14 * p + 0)) + (σ 35 0 (14 * p + (j + 1)))) + (σ 35 0 (14 * p + (j + 1 + 1)))).toInt64)), (7, .long ((tnR (σ 34 0 (14 * p + 0)) (σ 35 0 (14 * p + 0)) (σ 34 0 (14 * p + (j + 1))) (σ 35 0 (14 * p + (j + 1))) (σ 34 0 (14 * p + (j + 1 + 1))) (σ 35 0 (14 * p + (j + 1 + 1)))).toInt64)), (6, .int (nI (j + 1))), (0, .ref (gA G 30 (0))), (1, .int (nI p)), (2, .int (1)), (3, .int (w))]) C dX6_centroid_164 (by decide) (fun _ => rfl) (fun y3 ey3 => ?_)
        rw [ey3]; clear ey3 y3
        refine ww_iinc (q := 3) (fun y4 => [(6, .int (y4)), (4, .long ((sumL (fanL (fun i => σ 35 0 (14 * p + i)) (fun i => σ 34 0 (14 * p + i)) (fun i => σ 35 0 (14 * p + i))) j) + (((tnR (σ 34 0 (14 * p + 0)) (σ 35 0 (14 * p + 0)) (σ 34 0 (14 * p + (j + 1))) (σ 35 0 (14 * p + (j + 1))) (σ 34 0 (14 * p + (j + 1 + 1))) (σ 35 0 (14 * p + (j + 1 + 1)))).toInt64) * ((((σ 35 0 (14 * p + 0)) + (σ 35 0 (14 * p + (j + 1)))) + (σ 35 0 (14 * p + (j + 1 + 1)))).toInt64)))), (9, .long ((((σ 35 0 (14 * p + 0)) + (σ 35 0 (14 * p + (j + 1)))) + (σ 35 0 (14 * p + (j + 1 + 1)))).toInt64)), (7, .long ((tnR (σ 34 0 (14 * p + 0)) (σ 35 0 (14 * p + 0)) (σ 34 0 (14 * p + (j + 1))) (σ 35 0 (14 * p + (j + 1))) (σ 34 0 (14 * p + (j + 1 + 1))) (σ 35 0 (14 * p + (j + 1 + 1)))).toInt64)), (0, .ref (gA G 30 (0))), (1, .int (nI p)), (2, .int (1)), (3, .int (w))]) C dX6_centroid_166 rfl (by decide) (fun _ => rfl) (fun y4 ey4 => ?_)
        obtain rfl : y4 = nI (j + 1 + 1) := ninc rfl ey4
        refine ww_goto 34 C dX6_centroid_169 (by decide) ?_
        exact ww_sub [0, 1, 4, 5, 6, 7] rfl (ih (j + 1) (by omega) (by omega))
      · have g98 : 1 = 0 := (cv_eq (a := 1) (b := 0) (by decide) (by decide) (by omega) (by omega)).mp h98
        exact absurd g98 (by decide)
set_option maxHeartbeats 4000000 in
set_option maxRecDepth 100000 in
theorem c_X6_centroid_1 (l : Launch) (G : Gx) (hA : wa G) (σ : Sg) (cnt p n : Nat) (hc : σ 30 0 3 = nI cnt) (hc8 : cnt ≤ 8) (hpc : p < cnt) (hp : p < 8) (hs : σ 33 0 p = nI n) (h3 : 3 ≤ n) (hn : n ≤ 14) (w : Int32) (hab : nab (sumL (fanL (fun i => σ 35 0 (14 * p + i)) (fun i => σ 34 0 (14 * p + i)) (fun i => σ 35 0 (14 * p + i))) (n - 2)) < 2 ^ 62) (hfan : ¬ (3 * (fan n (fun i => σ 34 0 (14 * p + i)) (fun i => σ 35 0 (14 * p + i))).toInt64) = 0) : CtL l yX6_centroid wsX6_centroid (rmd 3) G [.ref (gA G 30 (0)), .int (nI p), .int (1), .int (w)] σ (fun r σ2 => r = (if w = 0 ∨ w = 1 then cenM (sumL (fanL (fun i => σ 35 0 (14 * p + i)) (fun i => σ 34 0 (14 * p + i)) (fun i => σ 35 0 (14 * p + i))) (n - 2)) (3 * (fan n (fun i => σ 34 0 (14 * p + i)) (fun i => σ 35 0 (14 * p + i))).toInt64) w else 0) ∧ σ2 = σ) := by
  refine ct_l (maxL := 11) (ret := (some .long)) (by decide) rfl (Nat.le_of_ble_eq_true rfl) hA (fun K hl C => ?_)
  subst hl
  change WW K G _ _ σ [(0, .ref (gA G 30 (0))), (1, .int (nI p)), (2, .int (1)), (3, .int (w))] 0 []
  refine ww_aload_n C dX6_centroid_0 rfl 0 rfl ?_
  refine ww_iload_n C dX6_centroid_1 rfl 1 rfl ?_
  refine ww_calliF (cx_V (n := 1) (As := [.int (nI p)]) C  (c_X6_isPolygon (kL K) G hA _ cnt hc hc8 _) gX6_centroid_X6_isPolygon rfl ⟨rfl, rfl⟩ (by decide +kernel) (by decide) rfl (by decide) rfl rfl rfl (Nat.le_of_ble_eq_true rfl) dX6_centroid_2) ?_
  refine ww_if_eq 26 C dX6_centroid_5 (by decide) (fun h5 => ?_) (fun h5 => ?_)
  · exact absurd (kn_p hpc hc8) (of_decide_eq_false (bI_0.mp h5))
  · refine ww_iload_n C dX6_centroid_8 rfl 2 rfl ?_
    refine ww_iconst (v := 0) C dX6_centroid_9 rfl ?_
    refine ww_iconst (v := 1) C dX6_centroid_10 rfl ?_
    refine ww_calliF (cx_S (n := 3) (As := [.int (1), .int (0), .int (1)]) C  (c_X6_within (kL K) G hA _ _ _ _) gX6_centroid_X6_within rfl ⟨rfl, rfl⟩ (by decide +kernel) (by decide) rfl rfl (Nat.le_of_ble_eq_true rfl) dX6_centroid_11) ?_
    refine ww_if_eq 26 C dX6_centroid_14 (by decide) (fun h14 => ?_) (fun h14 => ?_)
    · exact absurd h14 (by decide)
    · refine ww_iload_n C dX6_centroid_17 rfl 3 rfl ?_
      refine ww_iconst (v := 0) C dX6_centroid_18 rfl ?_
      refine ww_iconst (v := 1) C dX6_centroid_19 rfl ?_
      refine ww_calliF (cx_S (n := 3) (As := [.int (w), .int (0), .int (1)]) C  (c_X6_within (kL K) G hA _ _ _ _) gX6_centroid_X6_within rfl ⟨rfl, rfl⟩ (by decide +kernel) (by decide) rfl rfl (Nat.le_of_ble_eq_true rfl) dX6_centroid_20) ?_
      refine ww_if_ne 28 C dX6_centroid_23 (by decide) (fun h23 => ?_) (fun h23 => ?_)
      · have hw := w_iff.mp (of_decide_eq_true (bI_1.mp h23))
        refine ww_lconst (v := 0) C dX6_centroid_28 rfl ?_
        refine ww_lstore (fun y1 => [(4, .long (y1)), (0, .ref (gA G 30 (0))), (1, .int (nI p)), (2, .int (1)), (3, .int (w))]) C dX6_centroid_29 (by decide) (fun _ => rfl) (fun y1 ey1 => ?_)
        rw [ey1]; clear ey1 y1
        refine ww_iconst (v := 1) C dX6_centroid_31 rfl ?_
        refine ww_istore (fun y2 => [(6, .int (y2)), (4, .long (0)), (0, .ref (gA G 30 (0))), (1, .int (nI p)), (2, .int (1)), (3, .int (w))]) C dX6_centroid_32 (by decide) (fun _ => rfl) (fun y2 ey2 => ?_)
        obtain rfl : y2 = nI 1 := (ey2.trans (by decide))
        exact ww_sub [0, 1, 2, 3, 4, 5] rfl (lp_X6_centroid_1 hA C σ p n hp hs h3 hn w hw hab hfan (n + 1) 0 (by omega) (by omega))
      · refine ww_lconst (v := 0) C dX6_centroid_26 rfl ?_
        refine ww_lret C dX6_centroid_27 ?_
        exact ⟨by rw [if_neg (fun q => of_decide_eq_false (bI_0.mp h23) (w_iff.mpr q))], rfl⟩
set_option maxHeartbeats 4000000 in
set_option maxRecDepth 100000 in
theorem c_X6_centroid_o (l : Launch) (G : Gx) (hA : wa G) (σ : Sg) (cnt p n : Nat) (hc : σ 30 0 3 = nI cnt) (hc8 : cnt ≤ 8) (hpc : p < cnt) (hp : p < 8) (hs : σ 33 0 p = nI n) (h3 : 3 ≤ n) (hn : n ≤ 14) (u w : Int32) (hu : ¬ (u = 0 ∨ u = 1)) : CtL l yX6_centroid wsX6_centroid (rmd 3) G [.ref (gA G 30 (0)), .int (nI p), .int (u), .int (w)] σ (fun r σ2 => r = 0 ∧ σ2 = σ) := by
  refine ct_l (maxL := 11) (ret := (some .long)) (by decide) rfl (Nat.le_of_ble_eq_true rfl) hA (fun K hl C => ?_)
  subst hl
  change WW K G _ _ σ [(0, .ref (gA G 30 (0))), (1, .int (nI p)), (2, .int (u)), (3, .int (w))] 0 []
  refine ww_aload_n C dX6_centroid_0 rfl 0 rfl ?_
  refine ww_iload_n C dX6_centroid_1 rfl 1 rfl ?_
  refine ww_calliF (cx_V (n := 1) (As := [.int (nI p)]) C  (c_X6_isPolygon (kL K) G hA _ cnt hc hc8 _) gX6_centroid_X6_isPolygon rfl ⟨rfl, rfl⟩ (by decide +kernel) (by decide) rfl (by decide) rfl rfl rfl (Nat.le_of_ble_eq_true rfl) dX6_centroid_2) ?_
  refine ww_if_eq 26 C dX6_centroid_5 (by decide) (fun h5 => ?_) (fun h5 => ?_)
  · exact absurd (kn_p hpc hc8) (of_decide_eq_false (bI_0.mp h5))
  · refine ww_iload_n C dX6_centroid_8 rfl 2 rfl ?_
    refine ww_iconst (v := 0) C dX6_centroid_9 rfl ?_
    refine ww_iconst (v := 1) C dX6_centroid_10 rfl ?_
    refine ww_calliF (cx_S (n := 3) (As := [.int (u), .int (0), .int (1)]) C  (c_X6_within (kL K) G hA _ _ _ _) gX6_centroid_X6_within rfl ⟨rfl, rfl⟩ (by decide +kernel) (by decide) rfl rfl (Nat.le_of_ble_eq_true rfl) dX6_centroid_11) ?_
    refine ww_if_eq 26 C dX6_centroid_14 (by decide) (fun h14 => ?_) (fun h14 => ?_)
    · refine ww_lconst (v := 0) C dX6_centroid_26 rfl ?_
      refine ww_lret C dX6_centroid_27 ?_
      exact ⟨rfl, rfl⟩
    · exact absurd (w_iff.mp (of_decide_eq_true (bI_1.mp h14))) hu
set_option maxHeartbeats 4000000 in
set_option maxRecDepth 100000 in
theorem c_X6_centroid_n (l : Launch) (G : Gx) (hA : wa G) (σ : Sg) (cnt : Nat) (hc : σ 30 0 3 = nI cnt) (hc8 : cnt ≤ 8) (x : Int32) (hu : ¬ (0 ≤ x ∧ x < nI cnt)) (u w : Int32) : CtL l yX6_centroid wsX6_centroid (rmd 3) G [.ref (gA G 30 (0)), .int (x), .int (u), .int (w)] σ (fun r σ2 => r = 0 ∧ σ2 = σ) := by
  refine ct_l (maxL := 11) (ret := (some .long)) (by decide) rfl (Nat.le_of_ble_eq_true rfl) hA (fun K hl C => ?_)
  subst hl
  change WW K G _ _ σ [(0, .ref (gA G 30 (0))), (1, .int (x)), (2, .int (u)), (3, .int (w))] 0 []
  refine ww_aload_n C dX6_centroid_0 rfl 0 rfl ?_
  refine ww_iload_n C dX6_centroid_1 rfl 1 rfl ?_
  refine ww_calliF (cx_V (n := 1) (As := [.int (x)]) C  (c_X6_isPolygon (kL K) G hA _ cnt hc hc8 _) gX6_centroid_X6_isPolygon rfl ⟨rfl, rfl⟩ (by decide +kernel) (by decide) rfl (by decide) rfl rfl rfl (Nat.le_of_ble_eq_true rfl) dX6_centroid_2) ?_
  refine ww_if_eq 26 C dX6_centroid_5 (by decide) (fun h5 => ?_) (fun h5 => ?_)
  · refine ww_lconst (v := 0) C dX6_centroid_26 rfl ?_
    refine ww_lret C dX6_centroid_27 ?_
    exact ⟨rfl, rfl⟩
  · exact absurd (of_decide_eq_true (bI_1.mp h5)) hu
def ptsM (n : Nat) (x y : Nat → Int32) (i : Nat) : Int32 := (lN (Nat.gcd (nab (x (af n i) - x i).toInt64) (nab (y (af n i) - y i).toInt64))).toInt32
set_option maxHeartbeats 4000000 in
set_option maxRecDepth 100000 in
theorem lp_X6_points {K : Kx} {G : Gx} (hA : wa G) (C : CX K G cX6_points 5 RX6 wsX6_points (rmd 3) (some .int)) (σ : Sg) (p n : Nat) (hp : p < 8) (hs : σ 33 0 p = nI n) (h3 : 3 ≤ n) (hn : n ≤ 14) (w : Int32) (hw : w = 0 ∨ w = 1) : ∀ (f i : Nat), n - i < f → (i ≤ n) → WW K G 5 (QI K G (fun r σ2 => r = ptsR (sumN (ptsM n (fun i => σ 34 0 (14 * p + i)) (fun i => σ 35 0 (14 * p + i))) n) (fan n (fun i => σ 34 0 (14 * p + i)) (fun i => σ 35 0 (14 * p + i))) w ∧ σ2 = σ)) σ [(4, .int (nI i)), (3, .int (sumN (ptsM n (fun i => σ 34 0 (14 * p + i)) (fun i => σ 35 0 (14 * p + i))) i)), (0, .ref (gA G 30 (0))), (1, .int (nI p)), (2, .int (w))] 28 [] := by
  intro f
  induction f with
  | zero => intro i  h; exact absurd h (Nat.not_lt_zero _)
  | succ f ih =>
    intro i  hf hi
    refine ww_iload C dX6_points_28 0 rfl ?_
    refine ww_aload_n C dX6_points_30 rfl 2 rfl ?_
    refine ww_gr (j := 0) (k := 30) (f := 4) C rfl rfl (by decide) rfl in_X6_points_X6 (by decide) lk_X6_points_16 dX6_points_31 rfl ?_
    refine ww_iload_n C dX6_points_34 rfl 3 rfl ?_
    refine ww_iald (k := 33) (j := p) C rfl (by decide) (by decide) dX6_points_35 rfl hp ?_
    rw [hs]
    refine ww_icmp_ge 88 C dX6_points_36 (by decide) (fun h36 => ?_) (fun h36 => ?_)
    · have g36 : n ≤ i := (cv_le (a := n) (b := i) rfl rfl (by omega) (by omega)).mp h36
      refine ww_aload_n C dX6_points_88 rfl 2 rfl ?_
      refine ww_iload_n C dX6_points_89 rfl 3 rfl ?_
      refine ww_calliF (cx_V (n := 1) (As := [.int (nI p)]) C  (c_X6_twice (kL K) G hA _ p n hp hs h3 hn) gX6_points_X6_twice rfl ⟨rfl, rfl⟩ (by decide +kernel) (by decide) rfl (by decide) rfl rfl rfl (Nat.le_of_ble_eq_true rfl) dX6_points_90) ?_
      refine ww_istore (fun y1 => [(4, .int (y1)), (3, .int (sumN (ptsM n (fun i => σ 34 0 (14 * p + i)) (fun i => σ 35 0 (14 * p + i))) i)), (0, .ref (gA G 30 (0))), (1, .int (nI p)), (2, .int (w))]) C dX6_points_93 (by decide) (fun _ => rfl) (fun y1 ey1 => ?_)
      rw [ey1]; clear ey1 y1
      refine ww_iload C dX6_points_95 0 rfl ?_
      refine ww_if_ge 107 C dX6_points_97 (by decide) (fun h97 => ?_) (fun h97 => ?_)
      · refine ww_iload C dX6_points_107 0 rfl ?_
        refine ww_istore (fun y2 => [(4, .int (y2)), (3, .int (sumN (ptsM n (fun i => σ 34 0 (14 * p + i)) (fun i => σ 35 0 (14 * p + i))) i)), (0, .ref (gA G 30 (0))), (1, .int (nI p)), (2, .int (w))]) C dX6_points_109 (by decide) (fun _ => rfl) (fun y2 ey2 => ?_)
        rw [ey2]; clear ey2 y2
        refine ww_iload_n C dX6_points_111 rfl 4 rfl ?_
        refine ww_if_ne 119 C dX6_points_112 (by decide) (fun h112 => ?_) (fun h112 => ?_)
        · refine ww_iload C dX6_points_119 0 rfl ?_
          refine ww_iload_n C dX6_points_121 rfl 1 rfl ?_
          refine ww_isub C dX6_points_122 ?_
          refine ww_iconst (v := 2) C dX6_points_123 rfl ?_
          refine ww_iadd C dX6_points_124 ?_
          refine ww_iconst (v := 2) C dX6_points_125 rfl ?_
          refine ww_idiv C dX6_points_126 (by decide) ?_
          refine ww_iret C dX6_points_127 ?_
          exact ⟨by rw [ptsR, if_neg h112, if_pos (hw.resolve_left h112), if_pos h97, show i = n by omega], rfl⟩
        · refine ww_iload_n C dX6_points_115 rfl 1 rfl ?_
          refine ww_goto 127 C dX6_points_116 (by decide) ?_
          refine ww_iret C dX6_points_127 ?_
          exact ⟨by rw [ptsR, if_pos h112, show i = n by omega], rfl⟩
      · refine ww_iconst (v := 0) C dX6_points_100 rfl ?_
        refine ww_iload C dX6_points_101 0 rfl ?_
        refine ww_isub C dX6_points_103 ?_
        refine ww_goto 109 C dX6_points_104 (by decide) ?_
        refine ww_istore (fun y3 => [(4, .int (y3)), (3, .int (sumN (ptsM n (fun i => σ 34 0 (14 * p + i)) (fun i => σ 35 0 (14 * p + i))) i)), (0, .ref (gA G 30 (0))), (1, .int (nI p)), (2, .int (w))]) C dX6_points_109 (by decide) (fun _ => rfl) (fun y3 ey3 => ?_)
        rw [ey3]; clear ey3 y3
        refine ww_iload_n C dX6_points_111 rfl 4 rfl ?_
        refine ww_if_ne 119 C dX6_points_112 (by decide) (fun h112 => ?_) (fun h112 => ?_)
        · refine ww_iload C dX6_points_119 0 rfl ?_
          refine ww_iload_n C dX6_points_121 rfl 1 rfl ?_
          refine ww_isub C dX6_points_122 ?_
          refine ww_iconst (v := 2) C dX6_points_123 rfl ?_
          refine ww_iadd C dX6_points_124 ?_
          refine ww_iconst (v := 2) C dX6_points_125 rfl ?_
          refine ww_idiv C dX6_points_126 (by decide) ?_
          refine ww_iret C dX6_points_127 ?_
          exact ⟨by rw [ptsR, if_neg h112, if_pos (hw.resolve_left h112), if_neg h97, show i = n by omega], rfl⟩
        · refine ww_iload_n C dX6_points_115 rfl 1 rfl ?_
          refine ww_goto 127 C dX6_points_116 (by decide) ?_
          refine ww_iret C dX6_points_127 ?_
          exact ⟨by rw [ptsR, if_pos h112, show i = n by omega], rfl⟩
    · have g36 : ¬ n ≤ i := fun q => h36 ((cv_le (a := n) (b := i) rfl rfl (by omega) (by omega)).mpr q)
      refine ww_iload_n C dX6_points_39 rfl 1 rfl ?_
      refine ww_aload_n C dX6_points_40 rfl 2 rfl ?_
      refine ww_iload_n C dX6_points_41 rfl 3 rfl ?_
      refine ww_iload C dX6_points_42 0 rfl ?_
      refine ww_iconst (v := 1) C dX6_points_44 rfl ?_
      refine ww_iadd C dX6_points_45 ?_
      rw [show (nI i) + (1) = nI (i + 1) from nI_add (i) (1)]
      refine ww_calliF (cx_V (n := 2) (As := [.int (nI p), .int (nI (i + 1))]) C  (c_xOf_s (kL K) G hA _ p n hp hs h3 hn i (by omega)) gX6_points_X6_xOf rfl ⟨rfl, rfl⟩ (by decide +kernel) (by decide) rfl (by decide) rfl rfl rfl (Nat.le_of_ble_eq_true rfl) dX6_points_46) ?_
      refine ww_aload_n C dX6_points_49 rfl 2 rfl ?_
      refine ww_iload_n C dX6_points_50 rfl 3 rfl ?_
      refine ww_iload C dX6_points_51 0 rfl ?_
      refine ww_calliF (cx_V (n := 2) (As := [.int (nI p), .int (nI i)]) C  (c_xOf_i (kL K) G hA _ p n hp hs h3 hn i (by omega)) gX6_points_X6_xOf rfl ⟨rfl, rfl⟩ (by decide +kernel) (by decide) rfl (by decide) rfl rfl rfl (Nat.le_of_ble_eq_true rfl) dX6_points_53) ?_
      refine ww_isub C dX6_points_56 ?_
      refine ww_i2l C dX6_points_57 ?_
      refine ww_aload_n C dX6_points_58 rfl 2 rfl ?_
      refine ww_iload_n C dX6_points_59 rfl 3 rfl ?_
      refine ww_iload C dX6_points_60 0 rfl ?_
      refine ww_iconst (v := 1) C dX6_points_62 rfl ?_
      refine ww_iadd C dX6_points_63 ?_
      rw [show (nI i) + (1) = nI (i + 1) from nI_add (i) (1)]
      refine ww_calliF (cx_V (n := 2) (As := [.int (nI p), .int (nI (i + 1))]) C  (c_yOf_s (kL K) G hA _ p n hp hs h3 hn i (by omega)) gX6_points_X6_yOf rfl ⟨rfl, rfl⟩ (by decide +kernel) (by decide) rfl (by decide) rfl rfl rfl (Nat.le_of_ble_eq_true rfl) dX6_points_64) ?_
      refine ww_aload_n C dX6_points_67 rfl 2 rfl ?_
      refine ww_iload_n C dX6_points_68 rfl 3 rfl ?_
      refine ww_iload C dX6_points_69 0 rfl ?_
      refine ww_calliF (cx_V (n := 2) (As := [.int (nI p), .int (nI i)]) C  (c_yOf_i (kL K) G hA _ p n hp hs h3 hn i (by omega)) gX6_points_X6_yOf rfl ⟨rfl, rfl⟩ (by decide +kernel) (by decide) rfl (by decide) rfl rfl rfl (Nat.le_of_ble_eq_true rfl) dX6_points_71) ?_
      refine ww_isub C dX6_points_74 ?_
      refine ww_i2l C dX6_points_75 ?_
      refine ww_calllF (cx_S (n := 2) (As := [.long (((σ 34 0 (14 * p + af n i)) - (σ 34 0 (14 * p + i))).toInt64), .long (((σ 35 0 (14 * p + af n i)) - (σ 35 0 (14 * p + i))).toInt64)]) C  (c_X6_common (kL K) G hA _ _ _ (nab_i _) (nab_i _)) gX6_points_X6_common rfl ⟨rfl, rfl⟩ (by decide +kernel) (by decide) rfl rfl (Nat.le_of_ble_eq_true rfl) dX6_points_76) ?_
      refine ww_l2i C dX6_points_79 ?_
      refine ww_iadd C dX6_points_80 ?_
      refine ww_istore_n (fun y4 => [(3, .int (y4)), (4, .int (nI i)), (0, .ref (gA G 30 (0))), (1, .int (nI p)), (2, .int (w))]) C dX6_points_81 rfl (by decide) (fun _ => rfl) (fun y4 ey4 => ?_)
      rw [ey4]; clear ey4 y4
      refine ww_iinc (q := 1) (fun y5 => [(4, .int (y5)), (3, .int ((sumN (ptsM n (fun i => σ 34 0 (14 * p + i)) (fun i => σ 35 0 (14 * p + i))) i) + ((lN (Nat.gcd (nab (((σ 34 0 (14 * p + af n i)) - (σ 34 0 (14 * p + i))).toInt64)) (nab (((σ 35 0 (14 * p + af n i)) - (σ 35 0 (14 * p + i))).toInt64)))).toInt32))), (0, .ref (gA G 30 (0))), (1, .int (nI p)), (2, .int (w))]) C dX6_points_82 rfl (by decide) (fun _ => rfl) (fun y5 ey5 => ?_)
      obtain rfl : y5 = nI (i + 1) := ninc rfl ey5
      refine ww_goto 28 C dX6_points_85 (by decide) ?_
      exact ww_sub [0, 1, 2, 3, 4] rfl (ih (i + 1) (by omega) (by omega))
set_option maxHeartbeats 4000000 in
set_option maxRecDepth 100000 in
theorem c_X6_points_s (l : Launch) (G : Gx) (hA : wa G) (σ : Sg) (cnt p n : Nat) (hc : σ 30 0 3 = nI cnt) (hc8 : cnt ≤ 8) (hpc : p < cnt) (hp : p < 8) (hs : σ 33 0 p = nI n) (h3 : 3 ≤ n) (hn : n ≤ 14) (w : Int32) : CtI l yX6_points wsX6_points (rmd 3) G [.ref (gA G 30 (0)), .int (nI p), .int (w)] σ (fun r σ2 => r = ptsR (sumN (ptsM n (fun i => σ 34 0 (14 * p + i)) (fun i => σ 35 0 (14 * p + i))) n) (fan n (fun i => σ 34 0 (14 * p + i)) (fun i => σ 35 0 (14 * p + i))) w ∧ σ2 = σ) := by
  refine ct_i (maxL := 5) (ret := (some .int)) (by decide) rfl (Nat.le_of_ble_eq_true rfl) hA (fun K hl C => ?_)
  subst hl
  change WW K G _ _ σ [(0, .ref (gA G 30 (0))), (1, .int (nI p)), (2, .int (w))] 0 []
  refine ww_aload_n C dX6_points_0 rfl 0 rfl ?_
  refine ww_iload_n C dX6_points_1 rfl 1 rfl ?_
  refine ww_calliF (cx_V (n := 1) (As := [.int (nI p)]) C  (c_X6_isPolygon (kL K) G hA _ cnt hc hc8 _) gX6_points_X6_isPolygon rfl ⟨rfl, rfl⟩ (by decide +kernel) (by decide) rfl (by decide) rfl rfl rfl (Nat.le_of_ble_eq_true rfl) dX6_points_2) ?_
  refine ww_if_ne 11 C dX6_points_5 (by decide) (fun h5 => ?_) (fun h5 => ?_)
  · refine ww_iload_n C dX6_points_11 rfl 2 rfl ?_
    refine ww_iconst (v := 0) C dX6_points_12 rfl ?_
    refine ww_iconst (v := 1) C dX6_points_13 rfl ?_
    refine ww_calliF (cx_S (n := 3) (As := [.int (w), .int (0), .int (1)]) C  (c_X6_within (kL K) G hA _ _ _ _) gX6_points_X6_within rfl ⟨rfl, rfl⟩ (by decide +kernel) (by decide) rfl rfl (Nat.le_of_ble_eq_true rfl) dX6_points_14) ?_
    refine ww_if_ne 23 C dX6_points_17 (by decide) (fun h17 => ?_) (fun h17 => ?_)
    · have hw := w_iff.mp (of_decide_eq_true (bI_1.mp h17))
      refine ww_iconst (v := 0) C dX6_points_23 rfl ?_
      refine ww_istore_n (fun y1 => [(3, .int (y1)), (0, .ref (gA G 30 (0))), (1, .int (nI p)), (2, .int (w))]) C dX6_points_24 rfl (by decide) (fun _ => rfl) (fun y1 ey1 => ?_)
      rw [ey1]; clear ey1 y1
      refine ww_iconst (v := 0) C dX6_points_25 rfl ?_
      refine ww_istore (fun y2 => [(4, .int (y2)), (3, .int (0)), (0, .ref (gA G 30 (0))), (1, .int (nI p)), (2, .int (w))]) C dX6_points_26 (by decide) (fun _ => rfl) (fun y2 ey2 => ?_)
      obtain rfl : y2 = nI 0 := (ey2.trans (by decide))
      exact ww_sub [0, 1, 2, 3, 4] rfl (lp_X6_points hA C σ p n hp hs h3 hn w hw (n + 1) 0 (by omega) (by omega))
    · have hw := fun q => of_decide_eq_false (bI_0.mp h17) (w_iff.mpr q)
      refine ww_bipush (v := -3) C dX6_points_20 (by decide) ?_
      refine ww_iret C dX6_points_22 ?_
      exact ⟨by rw [ptsR, if_neg (fun q => hw (Or.inl q)), if_neg (fun q => hw (Or.inr q))], rfl⟩
  · exact absurd (kn_p hpc hc8) (of_decide_eq_false (bI_0.mp h5))
set_option maxHeartbeats 4000000 in
set_option maxRecDepth 100000 in
theorem c_X6_points_n (l : Launch) (G : Gx) (hA : wa G) (σ : Sg) (cnt : Nat) (hc : σ 30 0 3 = nI cnt) (hc8 : cnt ≤ 8) (x : Int32) (hu : ¬ (0 ≤ x ∧ x < nI cnt)) (w : Int32) : CtI l yX6_points wsX6_points (rmd 3) G [.ref (gA G 30 (0)), .int (x), .int (w)] σ (fun r σ2 => r = -2 ∧ σ2 = σ) := by
  refine ct_i (maxL := 5) (ret := (some .int)) (by decide) rfl (Nat.le_of_ble_eq_true rfl) hA (fun K hl C => ?_)
  subst hl
  change WW K G _ _ σ [(0, .ref (gA G 30 (0))), (1, .int (x)), (2, .int (w))] 0 []
  refine ww_aload_n C dX6_points_0 rfl 0 rfl ?_
  refine ww_iload_n C dX6_points_1 rfl 1 rfl ?_
  refine ww_calliF (cx_V (n := 1) (As := [.int (x)]) C  (c_X6_isPolygon (kL K) G hA _ cnt hc hc8 _) gX6_points_X6_isPolygon rfl ⟨rfl, rfl⟩ (by decide +kernel) (by decide) rfl (by decide) rfl rfl rfl (Nat.le_of_ble_eq_true rfl) dX6_points_2) ?_
  refine ww_if_ne 11 C dX6_points_5 (by decide) (fun h5 => ?_) (fun h5 => ?_)
  · exact absurd (of_decide_eq_true (bI_1.mp h5)) hu
  · refine ww_bipush (v := -2) C dX6_points_8 (by decide) ?_
    refine ww_iret C dX6_points_10 ?_
    exact ⟨rfl, rfl⟩
