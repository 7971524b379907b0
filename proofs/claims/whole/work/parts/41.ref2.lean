theorem in_X6_straight_X6 : ∀ w ∈ wsX60, w ∈ wsX6_straight := by decide +kernel
theorem lk_X6_straight_73 : Cond.fieldLink RX6 73 "PolyCutsModel" "rowMany" "I" ∈ wsX6_straight := by decide +kernel
theorem lk_X6_straight_7 : Cond.fieldLink RX6 7 "PolyCutsModel" "rowX" "[I" ∈ wsX6_straight := by decide +kernel
theorem lk_X6_straight_13 : Cond.fieldLink RX6 13 "PolyCutsModel" "rowY" "[I" ∈ wsX6_straight := by decide +kernel
theorem lN_0 : lN 0 = 0 := by decide
theorem lN_ne {w : Nat} (h : w < 2 ^ 63) (h0 : ¬ lN w = 0) : 0 < w := Nat.pos_of_ne_zero (fun q => h0 (by rw [q]; decide))
theorem lN_rem {u w : Nat} (hu : u < 2 ^ 63) (h0 : 0 < w) (hw : w < 2 ^ 63) : lN u - lN u / lN w * lN w = lN (u % w) := pk_lRem hu h0 hw
/-- the size of a long -/
def nab (a : Int64) : Nat := a.toInt.natAbs
theorem nab_p {a : Int64} (h : 0 ≤ a) : a = lN (nab a) := by
  obtain ⟨k, hk, rfl⟩ := pk_lOf (x := a) (Int64.not_lt.mpr h)
  rw [nab, pk_lT hk]
  rfl
theorem nab_n {a : Int64} (h : ¬ 0 ≤ a) (hb : nab a < 2 ^ 62) : 0 - a = lN (nab a) := by
  have h1 : a.toInt < 0 := by
    have := Int64.not_le.mp h
    simpa using Int64.lt_iff_toInt_lt.mp this
  apply Int64.toInt_inj.mp
  rw [pk_lT (by omega)]
  have h2 : (0 - a).toInt = - a.toInt := by
    rw [Int64.toInt_sub]
    simp only [Int64.toInt_zero, Int.zero_sub]
    unfold nab at hb
    rw [Int.bmod_eq_of_le] <;> omega
  rw [h2]
  unfold nab
  omega
set_option maxHeartbeats 4000000 in
set_option maxRecDepth 100000 in
theorem lp_X6_common {K : Kx} {G : Gx} (hA : wa G) (C : CX K G cX6_common 10 RX6 wsX6_common (rmd 1) (some .long)) (σ : Sg) (a b : Int64) : ∀ (f z : Nat) (w u : Nat), w - z < f → (z = 0) → (u < 2 ^ 63) → (w < 2 ^ 63) → (Nat.gcd u w = Nat.gcd (nab a) (nab b)) → WW K G 10 (QL K G (fun r σ2 => r = lN (Nat.gcd (nab a) (nab b)) ∧ σ2 = σ)) σ [(6, .long (lN w)), (4, .long (lN u)), (0, .long (a)), (2, .long (b))] 30 [] := by
  intro f
  induction f with
  | zero => intro z w u h; exact absurd h (Nat.not_lt_zero _)
  | succ f ih =>
    intro z w u hf hz hu hw hv
    refine ww_lload C dX6_common_30 0 rfl ?_
    refine ww_lconst (v := 0) C dX6_common_32 rfl ?_
    refine ww_lcmp C dX6_common_33 ?_
    refine ww_if_eq 55 C dX6_common_34 (by decide) (fun h34 => ?_) (fun h34 => ?_)
    · refine ww_lload C dX6_common_55 1 rfl ?_
      refine ww_lret C dX6_common_57 ?_
      exact ⟨by rw [← hv, show w = 0 from Nat.eq_zero_of_not_pos (fun q => absurd ((lg_cmp_eq _ _).mp h34) (fun e => by rw [← lN_0] at e; exact absurd ((pk_lEQ hw (by decide)).mp e) (by omega))), Nat.gcd_zero_right], rfl⟩
    · refine ww_lload C dX6_common_37 1 rfl ?_
      refine ww_lload C dX6_common_39 0 rfl ?_
      refine ww_lrem C dX6_common_41 (fun q => h34 ((lg_cmp_eq _ _).mpr q)) ?_
      refine ww_lstore (fun y1 => [(8, .long (y1)), (6, .long (lN w)), (4, .long (lN u)), (0, .long (a)), (2, .long (b))]) C dX6_common_42 (by decide) (fun _ => rfl) (fun y1 ey1 => ?_)
      rw [ey1]; clear ey1 y1
      refine ww_lload C dX6_common_44 1 rfl ?_
      refine ww_lstore (fun y2 => [(4, .long (y2)), (8, .long ((lN u) - (lN u) / (lN w) * (lN w))), (6, .long (lN w)), (0, .long (a)), (2, .long (b))]) C dX6_common_46 (by decide) (fun _ => rfl) (fun y2 ey2 => ?_)
      rw [ey2]; clear ey2 y2
      refine ww_lload C dX6_common_48 1 rfl ?_
      refine ww_lstore (fun y3 => [(6, .long (y3)), (4, .long (lN w)), (8, .long ((lN u) - (lN u) / (lN w) * (lN w))), (0, .long (a)), (2, .long (b))]) C dX6_common_50 (by decide) (fun _ => rfl) (fun y3 ey3 => ?_)
      rw [ey3]; clear ey3 y3
      refine ww_goto 30 C dX6_common_52 (by decide) ?_
      have hw0 : 0 < w := lN_ne hw (fun q => h34 ((lg_cmp_eq _ _).mpr q))
      have hlt : u % w < w := Nat.mod_lt u hw0
      rw [lN_rem hu hw0 hw]
      exact ww_sub [0, 1, 3, 4] rfl (ih 0 (u % w) w (by omega) rfl hw (by omega) (by rw [← hv, Nat.gcd_comm w, ← Nat.gcd_rec, Nat.gcd_comm])) 
set_option maxHeartbeats 4000000 in
set_option maxRecDepth 100000 in
theorem c_X6_common (l : Launch) (G : Gx) (hA : wa G) (σ : Sg) (a b : Int64) (ha : nab a < 2 ^ 62) (hb : nab b < 2 ^ 62) : CtL l yX6_common wsX6_common (rmd 1) G [.long (a), .long (b)] σ (fun r σ2 => r = lN (Nat.gcd (nab a) (nab b)) ∧ σ2 = σ) := by
  refine ct_l (maxL := 10) (ret := (some .long)) (by decide) rfl (Nat.le_of_ble_eq_true rfl) hA (fun K hl C => ?_)
  subst hl
  change WW K G _ _ σ [(0, .long (a)), (2, .long (b))] 0 []
  refine ww_lload_n C dX6_common_0 rfl 0 rfl ?_
  refine ww_lconst (v := 0) C dX6_common_1 rfl ?_
  refine ww_lcmp C dX6_common_2 ?_
  refine ww_if_ge 12 C dX6_common_3 (by decide) (fun h3 => ?_) (fun h3 => ?_)
  · refine ww_lload_n C dX6_common_12 rfl 0 rfl ?_
    refine ww_lstore (fun y1 => [(4, .long (y1)), (0, .long (a)), (2, .long (b))]) C dX6_common_13 (by decide) (fun _ => rfl) (fun y1 ey1 => ?_)
    rw [ey1]; clear ey1 y1
    refine ww_lload_n C dX6_common_15 rfl 2 rfl ?_
    refine ww_lconst (v := 0) C dX6_common_16 rfl ?_
    refine ww_lcmp C dX6_common_17 ?_
    refine ww_if_ge 27 C dX6_common_18 (by decide) (fun h18 => ?_) (fun h18 => ?_)
    · refine ww_lload_n C dX6_common_27 rfl 2 rfl ?_
      refine ww_lstore (fun y2 => [(6, .long (y2)), (4, .long (a)), (0, .long (a)), (2, .long (b))]) C dX6_common_28 (by decide) (fun _ => rfl) (fun y2 ey2 => ?_)
      rw [ey2]; clear ey2 y2
      have ex : a = lN (nab a) := (nab_p ((lg_cmp_ge _ _).mp h3))
      have ey : b = lN (nab b) := (nab_p ((lg_cmp_ge _ _).mp h18))
      refine ww_sub [0, 1, 2, 3] (L' := [(6, .long (lN (nab b))), (4, .long (lN (nab a))), (0, .long a), (2, .long b)]) (by rw [← ex, ← ey]; rfl) ?_
      exact lp_X6_common hA C σ a b (nab b + 1) 0 (nab b) (nab a) (by omega) rfl (by omega) (by omega) rfl
    · refine ww_lconst (v := 0) C dX6_common_21 rfl ?_
      refine ww_lload_n C dX6_common_22 rfl 2 rfl ?_
      refine ww_lsub C dX6_common_23 ?_
      refine ww_goto 28 C dX6_common_24 (by decide) ?_
      refine ww_lstore (fun y3 => [(6, .long (y3)), (4, .long (a)), (0, .long (a)), (2, .long (b))]) C dX6_common_28 (by decide) (fun _ => rfl) (fun y3 ey3 => ?_)
      rw [ey3]; clear ey3 y3
      have ex : a = lN (nab a) := (nab_p ((lg_cmp_ge _ _).mp h3))
      have ey : (0) - (b) = lN (nab b) := (nab_n (fun q => h18 ((lg_cmp_ge _ _).mpr q)) hb)
      refine ww_sub [0, 1, 2, 3] (L' := [(6, .long (lN (nab b))), (4, .long (lN (nab a))), (0, .long a), (2, .long b)]) (by rw [← ex, ← ey]; rfl) ?_
      exact lp_X6_common hA C σ a b (nab b + 1) 0 (nab b) (nab a) (by omega) rfl (by omega) (by omega) rfl
  · refine ww_lconst (v := 0) C dX6_common_6 rfl ?_
    refine ww_lload_n C dX6_common_7 rfl 0 rfl ?_
    refine ww_lsub C dX6_common_8 ?_
    refine ww_goto 13 C dX6_common_9 (by decide) ?_
    refine ww_lstore (fun y4 => [(4, .long (y4)), (0, .long (a)), (2, .long (b))]) C dX6_common_13 (by decide) (fun _ => rfl) (fun y4 ey4 => ?_)
    rw [ey4]; clear ey4 y4
    refine ww_lload_n C dX6_common_15 rfl 2 rfl ?_
    refine ww_lconst (v := 0) C dX6_common_16 rfl ?_
    refine ww_lcmp C dX6_common_17 ?_
    refine ww_if_ge 27 C dX6_common_18 (by decide) (fun h18 => ?_) (fun h18 => ?_)
    · refine ww_lload_n C dX6_common_27 rfl 2 rfl ?_
      refine ww_lstore (fun y5 => [(6, .long (y5)), (4, .long ((0) - (a))), (0, .long (a)), (2, .long (b))]) C dX6_common_28 (by decide) (fun _ => rfl) (fun y5 ey5 => ?_)
      rw [ey5]; clear ey5 y5
      have ex : (0) - (a) = lN (nab a) := (nab_n (fun q => h3 ((lg_cmp_ge _ _).mpr q)) ha)
      have ey : b = lN (nab b) := (nab_p ((lg_cmp_ge _ _).mp h18))
      refine ww_sub [0, 1, 2, 3] (L' := [(6, .long (lN (nab b))), (4, .long (lN (nab a))), (0, .long a), (2, .long b)]) (by rw [← ex, ← ey]; rfl) ?_
      exact lp_X6_common hA C σ a b (nab b + 1) 0 (nab b) (nab a) (by omega) rfl (by omega) (by omega) rfl
    · refine ww_lconst (v := 0) C dX6_common_21 rfl ?_
      refine ww_lload_n C dX6_common_22 rfl 2 rfl ?_
      refine ww_lsub C dX6_common_23 ?_
      refine ww_goto 28 C dX6_common_24 (by decide) ?_
      refine ww_lstore (fun y6 => [(6, .long (y6)), (4, .long ((0) - (a))), (0, .long (a)), (2, .long (b))]) C dX6_common_28 (by decide) (fun _ => rfl) (fun y6 ey6 => ?_)
      rw [ey6]; clear ey6 y6
      have ex : (0) - (a) = lN (nab a) := (nab_n (fun q => h3 ((lg_cmp_ge _ _).mpr q)) ha)
      have ey : (0) - (b) = lN (nab b) := (nab_n (fun q => h18 ((lg_cmp_ge _ _).mpr q)) hb)
      refine ww_sub [0, 1, 2, 3] (L' := [(6, .long (lN (nab b))), (4, .long (lN (nab a))), (0, .long a), (2, .long b)]) (by rw [← ex, ← ey]; rfl) ?_
      exact lp_X6_common hA C σ a b (nab b + 1) 0 (nab b) (nab a) (by omega) rfl (by omega) (by omega) rfl
theorem mod_s {n i : Nat} (h : i < n) : (i + 1) % n = af n i := by
  unfold af
  split
  · exact Nat.mod_eq_of_lt (by omega)
  · rw [show i + 1 = n by omega, Nat.mod_self]
theorem mod_b {n i : Nat} (h : i < n) : (i + n - 1) % n = bf n i := by
  unfold bf
  split
  · rw [show i + n - 1 = (i - 1) + n by omega, Nat.add_mod_right, Nat.mod_eq_of_lt (by omega)]
  · rw [show i = 0 by omega, Nat.zero_add, Nat.mod_eq_of_lt (by omega)]
theorem mod_ss {n i : Nat} (h : i < n) (h2 : 2 ≤ n) : (i + 2) % n = af n (af n i) := by
  rw [← mod_s (af_lt (by omega)), ← mod_s h, Nat.mod_add_mod]
def flatR (n : Nat) (x y : Nat → Int32) : Nat → Bool := flatP n x y
set_option maxHeartbeats 4000000 in
set_option maxRecDepth 100000 in
theorem lp_X6_straight {K : Kx} {G : Gx} (hA : wa G) (C : CX K G cX6_straight 4 RX6 wsX6_straight (rmd 2) (some .int)) (σ : Sg) (n : Nat) (hs : σ 30 0 0 = nI n) (h3 : 3 ≤ n) (hn : n ≤ 14) : ∀ (f i : Nat), n - i < f → (i ≤ n) → (fndN (flatP n (σ 31 0) (σ 32 0)) i n = fndN (flatP n (σ 31 0) (σ 32 0)) 0 n) → WW K G 4 (QI K G (fun r σ2 => r = optI (fndN (flatP n (σ 31 0) (σ 32 0)) 0 n) ∧ σ2 = σ)) σ [(1, .int (nI i)), (0, .ref (gA G 30 (0)))] 2 [] := by
  intro f
  induction f with
  | zero => intro i  h; exact absurd h (Nat.not_lt_zero _)
  | succ f ih =>
    intro i  hf hi hv
    refine ww_iload_n C dX6_straight_2 rfl 0 rfl ?_
    refine ww_aload_n C dX6_straight_3 rfl 1 rfl ?_
    refine ww_gi (k := 30) (f := 0) C rfl rfl (by decide) rfl in_X6_straight_X6 (by decide) lk_X6_straight_73 dX6_straight_4 ?_
    rw [hs]
    refine ww_icmp_ge 83 C dX6_straight_7 (by decide) (fun h7 => ?_) (fun h7 => ?_)
    · have g7 : n ≤ i := (cv_le (a := n) (b := i) rfl rfl (by omega) (by omega)).mp h7
      refine ww_iconst (v := -1) C dX6_straight_83 rfl ?_
      refine ww_iret C dX6_straight_84 ?_
      exact ⟨by rw [← hv, fndN_end g7]; rfl, rfl⟩
    · have g7 : ¬ n ≤ i := fun q => h7 ((cv_le (a := n) (b := i) rfl rfl (by omega) (by omega)).mpr q)
      refine ww_iload_n C dX6_straight_10 rfl 0 rfl ?_
      refine ww_aload_n C dX6_straight_11 rfl 1 rfl ?_
      refine ww_gi (k := 30) (f := 0) C rfl rfl (by decide) rfl in_X6_straight_X6 (by decide) lk_X6_straight_73 dX6_straight_12 ?_
      rw [hs]
      refine ww_iadd C dX6_straight_15 ?_
      rw [show (nI i) + (nI n) = nI (i + n) from nI_add (i) (n)]
      refine ww_iconst (v := 1) C dX6_straight_16 rfl ?_
      refine ww_isub C dX6_straight_17 ?_
      rw [show (nI (i + n)) - (1) = nI (i + n - 1) from pk_sub (a := i + n) (b := 1) (by omega)]
      refine ww_aload_n C dX6_straight_18 rfl 1 rfl ?_
      refine ww_gi (k := 30) (f := 0) C rfl rfl (by decide) rfl in_X6_straight_X6 (by decide) lk_X6_straight_73 dX6_straight_19 ?_
      rw [hs]
      refine ww_irem C dX6_straight_22 (nI_ne0 (by omega) (by omega)) ?_
      rw [rem9 (a := i + n - 1) (b := n) rfl rfl (by omega) (by omega) (by omega)]
      refine ww_istore_n (fun y1 => [(2, .int (y1)), (1, .int (nI i)), (0, .ref (gA G 30 (0)))]) C dX6_straight_23 rfl (by decide) (fun _ => rfl) (fun y1 ey1 => ?_)
      obtain rfl : y1 = nI ((i + n - 1) % n) := ey1
      refine ww_iload_n C dX6_straight_24 rfl 1 rfl ?_
      refine ww_iconst (v := 1) C dX6_straight_25 rfl ?_
      refine ww_iadd C dX6_straight_26 ?_
      rw [show (nI i) + (1) = nI (i + 1) from nI_add (i) (1)]
      refine ww_aload_n C dX6_straight_27 rfl 2 rfl ?_
      refine ww_gi (k := 30) (f := 0) C rfl rfl (by decide) rfl in_X6_straight_X6 (by decide) lk_X6_straight_73 dX6_straight_28 ?_
      rw [hs]
      refine ww_irem C dX6_straight_31 (nI_ne0 (by omega) (by omega)) ?_
      rw [rem9 (a := i + 1) (b := n) rfl rfl (by omega) (by omega) (by omega)]
      refine ww_istore_n (fun y2 => [(3, .int (y2)), (2, .int (nI ((i + n - 1) % n))), (1, .int (nI i)), (0, .ref (gA G 30 (0)))]) C dX6_straight_32 rfl (by decide) (fun _ => rfl) (fun y2 ey2 => ?_)
      obtain rfl : y2 = nI ((i + 1) % n) := ey2
      refine ww_aload_n C dX6_straight_33 rfl 3 rfl ?_
      refine ww_gr (j := 0) (k := 30) (f := 1) C rfl rfl (by decide) rfl in_X6_straight_X6 (by decide) lk_X6_straight_7 dX6_straight_34 rfl ?_
      refine ww_iload_n C dX6_straight_37 rfl 1 rfl ?_
      refine ww_iald (k := 31) (j := (i + n - 1) % n) C rfl (by decide) (by decide) dX6_straight_38 rfl (by rw [mod_b (by omega)]; exact nlt14 (bf_lt (by omega)) hn) ?_
      refine ww_aload_n C dX6_straight_39 rfl 3 rfl ?_
      refine ww_gr (j := 0) (k := 30) (f := 2) C rfl rfl (by decide) rfl in_X6_straight_X6 (by decide) lk_X6_straight_13 dX6_straight_40 rfl ?_
      refine ww_iload_n C dX6_straight_43 rfl 1 rfl ?_
      refine ww_iald (k := 32) (j := (i + n - 1) % n) C rfl (by decide) (by decide) dX6_straight_44 rfl (by rw [mod_b (by omega)]; exact nlt14 (bf_lt (by omega)) hn) ?_
      refine ww_aload_n C dX6_straight_45 rfl 3 rfl ?_
      refine ww_gr (j := 0) (k := 30) (f := 1) C rfl rfl (by decide) rfl in_X6_straight_X6 (by decide) lk_X6_straight_7 dX6_straight_46 rfl ?_
      refine ww_iload_n C dX6_straight_49 rfl 2 rfl ?_
      refine ww_iald (k := 31) (j := i) C rfl (by decide) (by decide) dX6_straight_50 rfl (by omega) ?_
      refine ww_aload_n C dX6_straight_51 rfl 3 rfl ?_
      refine ww_gr (j := 0) (k := 30) (f := 2) C rfl rfl (by decide) rfl in_X6_straight_X6 (by decide) lk_X6_straight_13 dX6_straight_52 rfl ?_
      refine ww_iload_n C dX6_straight_55 rfl 2 rfl ?_
      refine ww_iald (k := 32) (j := i) C rfl (by decide) (by decide) dX6_straight_56 rfl (by omega) ?_
      refine ww_aload_n C dX6_straight_57 rfl 3 rfl ?_
      refine ww_gr (j := 0) (k := 30) (f := 1) C rfl rfl (by decide) rfl in_X6_straight_X6 (by decide) lk_X6_straight_7 dX6_straight_58 rfl ?_
      refine ww_iload_n C dX6_straight_61 rfl 0 rfl ?_
      refine ww_iald (k := 31) (j := (i + 1) % n) C rfl (by decide) (by decide) dX6_straight_62 rfl (by rw [mod_s (by omega)]; exact nlt14 (af_lt (by omega)) hn) ?_
      refine ww_aload_n C dX6_straight_63 rfl 3 rfl ?_
      refine ww_gr (j := 0) (k := 30) (f := 2) C rfl rfl (by decide) rfl in_X6_straight_X6 (by decide) lk_X6_straight_13 dX6_straight_64 rfl ?_
      refine ww_iload_n C dX6_straight_67 rfl 0 rfl ?_
      refine ww_iald (k := 32) (j := (i + 1) % n) C rfl (by decide) (by decide) dX6_straight_68 rfl (by rw [mod_s (by omega)]; exact nlt14 (af_lt (by omega)) hn) ?_
      refine ww_calliF (cx_S (n := 6) (As := [.int (σ 31 (0) ((i + n - 1) % n)), .int (σ 32 (0) ((i + n - 1) % n)), .int (σ 31 (0) (i)), .int (σ 32 (0) (i)), .int (σ 31 (0) ((i + 1) % n)), .int (σ 32 (0) ((i + 1) % n))]) C  (c_X6_turn (kL K) G hA _ _ _ _ _ _ _) gX6_straight_X6_turn rfl ⟨rfl, rfl⟩ (by decide +kernel) (by decide) rfl rfl (Nat.le_of_ble_eq_true rfl) dX6_straight_69) ?_
      refine ww_if_ne 77 C dX6_straight_72 (by decide) (fun h72 => ?_) (fun h72 => ?_)
      · refine ww_iinc (q := 2) (fun y3 => [(1, .int (y3)), (3, .int (nI ((i + 1) % n))), (2, .int (nI ((i + n - 1) % n))), (0, .ref (gA G 30 (0)))]) C dX6_straight_77 rfl (by decide) (fun _ => rfl) (fun y3 ey3 => ?_)
        obtain rfl : y3 = nI (i + 1) := ninc rfl ey3
        refine ww_goto 2 C dX6_straight_80 (by decide) ?_
        exact ww_sub [0, 3] rfl (ih (i + 1) (by omega) (by omega) (by rw [← fndN_f (by omega) (by rw [mod_b (by omega), mod_s (by omega)] at h72; exact decide_eq_false h72)]; exact hv))
      · refine ww_iload_n C dX6_straight_75 rfl 2 rfl ?_
        refine ww_iret C dX6_straight_76 ?_
        exact ⟨by rw [← hv, fndN_t (by omega) (by rw [mod_b (by omega), mod_s (by omega)] at h72; exact decide_eq_true h72)]; rfl, rfl⟩
set_option maxHeartbeats 4000000 in
set_option maxRecDepth 100000 in
theorem c_X6_straight (l : Launch) (G : Gx) (hA : wa G) (σ : Sg) (n : Nat) (hs : σ 30 0 0 = nI n) (h3 : 3 ≤ n) (hn : n ≤ 14) : CtI l yX6_straight wsX6_straight (rmd 2) G [.ref (gA G 30 (0))] σ (fun r σ2 => r = optI (fndN (flatP n (σ 31 0) (σ 32 0)) 0 n) ∧ σ2 = σ) := by
  refine ct_i (maxL := 4) (ret := (some .int)) (by decide) rfl (Nat.le_of_ble_eq_true rfl) hA (fun K hl C => ?_)
  subst hl
  change WW K G _ _ σ [(0, .ref (gA G 30 (0)))] 0 []
  refine ww_iconst (v := 0) C dX6_straight_0 rfl ?_
  refine ww_istore_n (fun y1 => [(1, .int (y1)), (0, .ref (gA G 30 (0)))]) C dX6_straight_1 rfl (by decide) (fun _ => rfl) (fun y1 ey1 => ?_)
  obtain rfl : y1 = nI 0 := (ey1.trans (by decide))
  exact lp_X6_straight hA C σ n hs h3 hn (n + 1) 0 (by omega) (by omega) rfl
