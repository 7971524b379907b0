theorem lw_X5_greatestDivisor_mal190 : Cond.methodLink RX5 190 Lib.MathLoose.abs_long.x ∈ wsX5_greatestDivisor := by decide +kernel
theorem lw_X5_greatestDivisor_mals : Cond.static Lib.MathLoose.abs_long.x ∈ wsX5_greatestDivisor := by decide +kernel
theorem lw_X5_greatestDivisor_mi : Cond.initialized "java/lang/Math" ∈ wsX5_greatestDivisor := by decide +kernel
theorem lw_X5_greatestDivisor_malc : Cond.code Lib.MathLoose.abs_long.x Lib.MathLoose.abs_long.code 2 (some .long) ∈ wsX5_greatestDivisor := by decide +kernel
theorem in_X3_centroidMoment_X3 : ∀ w ∈ wsX30, w ∈ wsX3_centroidMoment := by decide +kernel
theorem lk_X3_centroidMoment_12 : Cond.fieldLink RX3 12 "PolyCuts$Shape" "corners" "LPolyCuts$Corners;" ∈ wsX3_centroidMoment := by decide +kernel
theorem in_X3_centroidMoment_X1 : ∀ w ∈ wsX10, w ∈ wsX3_centroidMoment := by decide +kernel
theorem lk_X3_centroidMoment_59 : Cond.fieldLink RX3 59 "PolyCuts$Corners" "size" "I" ∈ wsX3_centroidMoment := by decide +kernel
theorem lw_X3_pointsOnEdges_ini : Cond.initialized yX5_greatestDivisor.cls ∈ wsX3_pointsOnEdges := by decide +kernel
theorem lw_X3_pointsOnEdges_sta : Cond.static yX5_greatestDivisor ∈ wsX3_pointsOnEdges := by decide +kernel
theorem in_X3_pointsOnEdges_X3 : ∀ w ∈ wsX30, w ∈ wsX3_pointsOnEdges := by decide +kernel
theorem lk_X3_pointsOnEdges_12 : Cond.fieldLink RX3 12 "PolyCuts$Shape" "corners" "LPolyCuts$Corners;" ∈ wsX3_pointsOnEdges := by decide +kernel
theorem in_X3_pointsOnEdges_X1 : ∀ w ∈ wsX10, w ∈ wsX3_pointsOnEdges := by decide +kernel
theorem lk_X3_pointsOnEdges_59 : Cond.fieldLink RX3 59 "PolyCuts$Corners" "size" "I" ∈ wsX3_pointsOnEdges := by decide +kernel
theorem lk_X3_pointsOnEdges_77 : Cond.fieldLink RX3 77 "PolyCuts$Corners" "x" "[I" ∈ wsX3_pointsOnEdges := by decide +kernel
theorem lk_X3_pointsOnEdges_80 : Cond.fieldLink RX3 80 "PolyCuts$Corners" "y" "[I" ∈ wsX3_pointsOnEdges := by decide +kernel
def abL (a : Int64) : Int64 := if 0 < a then a else -a
def gcL (a b : Int64) : Nat → Int64
  | 0 => a
  | d + 1 => if b = 0 then a else gcL b (a - a / b * b) d
def gcdC (a b : Int64) : Int64 := gcL (abL a) (abL b) 100
def sumL (f : Nat → Int64) : Nat → Int64
  | 0 => 0
  | i + 1 => sumL f i + f i
def momF (n : Nat) (v x y : Nat → Int32) (i : Nat) : Int64 := (v i + v (af n i)).toInt64 * (crs9 n x y i).toInt64
def ptsF (n : Nat) (x y : Nat → Int32) (i : Nat) : Int32 := (gcdC (x (af n i) - x i).toInt64 (y (af n i) - y i).toInt64).toInt32
def cntN (p : Nat → Bool) : Nat → Nat
  | 0 => 0
  | i + 1 => cntN p i + (if p i then 1 else 0)
def optI (r : Option Nat) : Int32 := match r with
  | none => -1
  | some i => nI i
def corC (n : Nat) (x y u v : Nat → Int32) (how : Int32) (i last j next : Nat) : Bool := decide (sq9 x y i (af n i) = sq9 u v j next) && decide (tn x y (bf n i) i (af n i) = how * tn u v last j next) && decide (adv x y (bf n i) i (af n i) = adv u v last j next)
def stp (fwd : Bool) (m j : Nat) : Nat := if fwd then af m j else bf m j
def goC (fwd : Bool) (m s : Nat) : Nat → Nat
  | 0 => s
  | i + 1 => stp fwd m (goC fwd m s i)
def corN (n m : Nat) (x y u v : Nat → Int32) (how : Int32) (fwd : Bool) (s : Nat) : Nat → Bool := fun i => !corC n x y u v how i (stp (!fwd) m (goC fwd m s i)) (goC fwd m s i) (stp fwd m (goC fwd m s i))
def fitC (n m : Nat) (x y u v : Nat → Int32) (a b how : Int32) (s : Nat) : Bool := decide (n = m) && (fndN (corN n m x y u v how (decide (hnd a * how = hnd b)) s) 0 n).isNone
theorem stp_lt {fwd : Bool} {m j : Nat} (h : j < m) : stp fwd m j < m := by
  unfold stp
  split
  · exact af_lt (by omega)
  · exact bf_lt h
theorem goC_lt {fwd : Bool} {m s : Nat} (h : s < m) : ∀ i, goC fwd m s i < m
  | 0 => h
  | i + 1 => stp_lt (goC_lt h i)
theorem cntN_le {p : Nat → Bool} : ∀ i, cntN p i ≤ i
  | 0 => Nat.le_refl 0
  | i + 1 => by
    have := cntN_le (p := p) i
    simp only [cntN]
    split <;> omega
theorem gcL_z {a b : Int64} {d : Nat} (h : b = 0) : gcL a b d = a := by
  cases d with
  | zero => rfl
  | succ d => exact if_pos h
theorem gcL_s {a b : Int64} {i : Nat} (h : ¬ b = 0) (hi : i < 100) : gcL a b (100 - i) = gcL b (a - a / b * b) (100 - (i + 1)) := by
  rw [show 100 - i = (100 - (i + 1)) + 1 by omega]
  exact if_neg h
set_option maxHeartbeats 4000000 in
set_option maxRecDepth 100000 in
theorem lp_X5_greatestDivisor {K : Kx} {G : Gx} (hA : wa G) (C : CX K G cX5_greatestDivisor 11 RX5 wsX5_greatestDivisor (rmd 1) (some .long)) (σ : Sg) (u w : Int64) : ∀ (f i : Nat) (a b : Int64), 100 - i < f → i ≤ 100 → gcL a b (100 - i) = gcdC u w → WW K G 11 (QL K G (fun r σ2 => r = gcdC u w ∧ σ2 = σ)) σ [(8, .int (nI i)), (6, .long (b)), (4, .long (a)), (0, .long (u)), (2, .long (w))] 15 [] := by
  intro f
  induction f with
  | zero => intro i a b h; exact absurd h (Nat.not_lt_zero _)
  | succ f ih =>
    intro i a b hf hi hv
    refine ww_iload C dX5_greatestDivisor_15 0 rfl ?_
    refine ww_bipush (v := 100) C dX5_greatestDivisor_17 (by decide) ?_
    refine ww_icmp_ge 50 C dX5_greatestDivisor_19 (by decide) (fun h19 => ?_) (fun h19 => ?_)
    · have g19 : 100 ≤ i := (cv_le (a := 100) (b := i) (by decide) rfl (by omega) (by omega)).mp h19
      refine ww_lload C dX5_greatestDivisor_50 2 rfl ?_
      refine ww_lret C dX5_greatestDivisor_52 ?_
      exact ⟨by rw [← hv, show 100 - i = 0 by omega]; rfl, rfl⟩
    · have g19 : ¬ 100 ≤ i := fun q => h19 ((cv_le (a := 100) (b := i) (by decide) rfl (by omega) (by omega)).mpr q)
      refine ww_lload C dX5_greatestDivisor_22 1 rfl ?_
      refine ww_lconst (v := 0) C dX5_greatestDivisor_24 rfl ?_
      refine ww_lcmp C dX5_greatestDivisor_25 ?_
      refine ww_if_eq 50 C dX5_greatestDivisor_26 (by decide) (fun h26 => ?_) (fun h26 => ?_)
      · refine ww_lload C dX5_greatestDivisor_50 2 rfl ?_
        refine ww_lret C dX5_greatestDivisor_52 ?_
        exact ⟨by rw [← hv, gcL_z ((lg_cmp_eq _ _).mp h26)], rfl⟩
      · refine ww_lload C dX5_greatestDivisor_29 2 rfl ?_
        refine ww_lload C dX5_greatestDivisor_31 1 rfl ?_
        refine ww_lrem C dX5_greatestDivisor_33 (fun q => h26 ((lg_cmp_eq _ _).mpr q)) ?_
        refine ww_lstore (fun y1 => [(9, .long (y1)), (8, .int (nI i)), (6, .long (b)), (4, .long (a)), (0, .long (u)), (2, .long (w))]) C dX5_greatestDivisor_34 (by decide) (fun _ => rfl) (fun y1 ey1 => ?_)
        rw [ey1]; clear ey1 y1
        refine ww_lload C dX5_greatestDivisor_36 2 rfl ?_
        refine ww_lstore (fun y2 => [(4, .long (y2)), (9, .long ((a) - (a) / (b) * (b))), (8, .int (nI i)), (6, .long (b)), (0, .long (u)), (2, .long (w))]) C dX5_greatestDivisor_38 (by decide) (fun _ => rfl) (fun y2 ey2 => ?_)
        rw [ey2]; clear ey2 y2
        refine ww_lload C dX5_greatestDivisor_40 1 rfl ?_
        refine ww_lstore (fun y3 => [(6, .long (y3)), (4, .long (b)), (9, .long ((a) - (a) / (b) * (b))), (8, .int (nI i)), (0, .long (u)), (2, .long (w))]) C dX5_greatestDivisor_42 (by decide) (fun _ => rfl) (fun y3 ey3 => ?_)
        rw [ey3]; clear ey3 y3
        refine ww_iinc (q := 3) (fun y4 => [(8, .int (y4)), (6, .long ((a) - (a) / (b) * (b))), (4, .long (b)), (9, .long ((a) - (a) / (b) * (b))), (0, .long (u)), (2, .long (w))]) C dX5_greatestDivisor_44 rfl (by decide) (fun _ => rfl) (fun y4 ey4 => ?_)
        obtain rfl : y4 = nI (i + 1) := ninc rfl ey4
        refine ww_goto 15 C dX5_greatestDivisor_47 (by decide) ?_
        exact ww_sub [0, 1, 2, 4, 5] rfl (ih (i + 1) b (a - a / b * b) (by omega) (by omega) (by rw [← gcL_s (fun q => h26 ((lg_cmp_eq _ _).mpr q)) (by omega)]; exact hv))
set_option maxHeartbeats 4000000 in
set_option maxRecDepth 100000 in
theorem c_X5_greatestDivisor (l : Launch) (G : Gx) (hA : wa G) (σ : Sg) (u w : Int64) : CtL l yX5_greatestDivisor wsX5_greatestDivisor (rmd 1) G [.long (u), .long (w)] σ (fun r σ2 => r = gcdC u w ∧ σ2 = σ) := by
  refine ct_l (maxL := 11) (ret := (some .long)) (by decide) rfl (Nat.le_of_ble_eq_true rfl) hA (fun K hl C => ?_)
  subst hl
  change WW K G _ _ σ [(0, .long (u)), (2, .long (w))] 0 []
  refine ww_lload_n C dX5_greatestDivisor_0 rfl 0 rfl ?_
  refine ww_mabsl C lw_X5_greatestDivisor_mal190 lw_X5_greatestDivisor_mals lw_X5_greatestDivisor_mi lw_X5_greatestDivisor_malc (by decide) (Nat.le_of_ble_eq_true rfl) dX5_greatestDivisor_1 ?_
  refine ww_lstore (fun y1 => [(4, .long (y1)), (0, .long (u)), (2, .long (w))]) C dX5_greatestDivisor_4 (by decide) (fun _ => rfl) (fun y1 ey1 => ?_)
  rw [ey1]; clear ey1 y1
  refine ww_lload_n C dX5_greatestDivisor_6 rfl 2 rfl ?_
  refine ww_mabsl C lw_X5_greatestDivisor_mal190 lw_X5_greatestDivisor_mals lw_X5_greatestDivisor_mi lw_X5_greatestDivisor_malc (by decide) (Nat.le_of_ble_eq_true rfl) dX5_greatestDivisor_7 ?_
  refine ww_lstore (fun y2 => [(6, .long (y2)), (4, .long (if 0 < (u) then (u) else -(u))), (0, .long (u)), (2, .long (w))]) C dX5_greatestDivisor_10 (by decide) (fun _ => rfl) (fun y2 ey2 => ?_)
  rw [ey2]; clear ey2 y2
  refine ww_iconst (v := 0) C dX5_greatestDivisor_12 rfl ?_
  refine ww_istore (fun y3 => [(8, .int (y3)), (6, .long (if 0 < (w) then (w) else -(w))), (4, .long (if 0 < (u) then (u) else -(u))), (0, .long (u)), (2, .long (w))]) C dX5_greatestDivisor_13 (by decide) (fun _ => rfl) (fun y3 ey3 => ?_)
  obtain rfl : y3 = nI 0 := (ey3.trans (by decide))
  exact lp_X5_greatestDivisor hA C σ u w 101 0 (abL u) (abL w) (by omega) (by omega) rfl
set_option maxHeartbeats 4000000 in
set_option maxRecDepth 100000 in
theorem lp_X3_centroidMoment_0 {K : Kx} {G : Gx} (hA : wa G) (C : CX K G cX3_centroidMoment 6 RX3 wsX3_centroidMoment (rmd 3) (some .long)) (σ : Sg) (p n : Nat) (hp : p < 8) (hs : σ 14 (p + 1) 2 = nI n) (hn : n ≤ 14) : ∀ (f i : Nat), n - i < f → i ≤ n → WW K G 6 (QL K G (fun r σ2 => r = sumL (momF n (σ 15 (p + 1)) (σ 15 (p + 1)) (σ 16 (p + 1))) n ∧ σ2 = σ)) σ [(5, .int (nI i)), (3, .long (sumL (momF n (σ 15 (p + 1)) (σ 15 (p + 1)) (σ 16 (p + 1))) i)), (2, .ref (gA G 15 (p + 1))), (0, .ref (gA G 17 (p))), (1, .int (0))] 14 [] := by
  intro f
  induction f with
  | zero => intro i  h; exact absurd h (Nat.not_lt_zero _)
  | succ f ih =>
    intro i  hf hi
    refine ww_iload C dX3_centroidMoment_14 0 rfl ?_
    refine ww_aload_n C dX3_centroidMoment_16 rfl 3 rfl ?_
    refine ww_gr (j := p + 1) (k := 17) (f := 0) C rfl rfl hp rfl in_X3_centroidMoment_X3 (by decide) lk_X3_centroidMoment_12 dX3_centroidMoment_17 rfl ?_
    refine ww_gi (k := 14) (f := 2) C rfl rfl (Nat.add_lt_add_right hp 1) rfl in_X3_centroidMoment_X1 (by decide) lk_X3_centroidMoment_59 dX3_centroidMoment_20 ?_
    refine ww_icmp_ge 60 C dX3_centroidMoment_23 (by decide) (fun h23 => ?_) (fun h23 => ?_)
    · have g23 : n ≤ i := (cv_le (a := n) (b := i) hs rfl (by omega) (by omega)).mp h23
      refine ww_lload_n C dX3_centroidMoment_60 rfl 1 rfl ?_
      refine ww_lret C dX3_centroidMoment_61 ?_
      exact ⟨by rw [show i = n by omega], rfl⟩
    · have g23 : ¬ n ≤ i := fun q => h23 ((cv_le (a := n) (b := i) hs rfl (by omega) (by omega)).mpr q)
      refine ww_lload_n C dX3_centroidMoment_26 rfl 1 rfl ?_
      refine ww_aload_n C dX3_centroidMoment_27 rfl 2 rfl ?_
      refine ww_iload C dX3_centroidMoment_28 0 rfl ?_
      refine ww_iald (k := 15) (j := i) C rfl (Nat.add_lt_add_right hp 1) (by decide) dX3_centroidMoment_30 rfl (by omega) ?_
      refine ww_aload_n C dX3_centroidMoment_31 rfl 2 rfl ?_
      refine ww_aload_n C dX3_centroidMoment_32 rfl 3 rfl ?_
      refine ww_gr (j := p + 1) (k := 17) (f := 0) C rfl rfl hp rfl in_X3_centroidMoment_X3 (by decide) lk_X3_centroidMoment_12 dX3_centroidMoment_33 rfl ?_
      refine ww_iload C dX3_centroidMoment_36 0 rfl ?_
      refine ww_calliF (cx_V (n := 1) (As := [.int (nI i)]) C  (c_X1_after (kL K) G hA _ (p + 1) n (Nat.add_lt_add_right hp 1) hs hn i (by omega)) gX3_centroidMoment_X1_after rfl ⟨rfl, rfl⟩ (by decide +kernel) (by decide) rfl (Nat.add_lt_add_right hp 1) rfl rfl rfl (Nat.le_of_ble_eq_true rfl) dX3_centroidMoment_38) ?_
      refine ww_iald (k := 15) (j := af n i) C rfl (Nat.add_lt_add_right hp 1) (by decide) dX3_centroidMoment_41 rfl (nlt14 (af_lt (by omega)) hn) ?_
      refine ww_iadd C dX3_centroidMoment_42 ?_
      refine ww_i2l C dX3_centroidMoment_43 ?_
      refine ww_aload_n C dX3_centroidMoment_44 rfl 3 rfl ?_
      refine ww_iload C dX3_centroidMoment_45 0 rfl ?_
      refine ww_calliF (cx_V (n := 1) (As := [.int (nI i)]) C  (c_X3_crossOfEdge (kL K) G hA _ p n hp hs hn i (by omega)) gX3_centroidMoment_X3_crossOfEdge rfl ⟨rfl, rfl⟩ (by decide +kernel) (by decide) rfl hp rfl rfl rfl (Nat.le_of_ble_eq_true rfl) dX3_centroidMoment_47) ?_
      refine ww_i2l C dX3_centroidMoment_50 ?_
      refine ww_lmul C dX3_centroidMoment_51 ?_
      refine ww_ladd C dX3_centroidMoment_52 ?_
      refine ww_lstore_n (fun y1 => [(3, .long (y1)), (5, .int (nI i)), (2, .ref (gA G 15 (p + 1))), (0, .ref (gA G 17 (p))), (1, .int (0))]) C dX3_centroidMoment_53 rfl (by decide) (fun _ => rfl) (fun y1 ey1 => ?_)
      rw [ey1]; clear ey1 y1
      refine ww_iinc (q := 1) (fun y2 => [(5, .int (y2)), (3, .long ((sumL (momF n (σ 15 (p + 1)) (σ 15 (p + 1)) (σ 16 (p + 1))) i) + ((((σ 15 (p + 1) (i)) + (σ 15 (p + 1) (af n i))).toInt64) * ((crs9 n (σ 15 (p + 1)) (σ 16 (p + 1)) i).toInt64)))), (2, .ref (gA G 15 (p + 1))), (0, .ref (gA G 17 (p))), (1, .int (0))]) C dX3_centroidMoment_54 rfl (by decide) (fun _ => rfl) (fun y2 ey2 => ?_)
      obtain rfl : y2 = nI (i + 1) := ninc rfl ey2
      refine ww_goto 14 C dX3_centroidMoment_57 (by decide) ?_
      exact ww_sub [0, 1, 2, 3, 4] rfl (ih (i + 1) (by omega) (by omega))
set_option maxHeartbeats 4000000 in
set_option maxRecDepth 100000 in
theorem c_X3_centroidMoment_0 (l : Launch) (G : Gx) (hA : wa G) (σ : Sg) (p n : Nat) (hp : p < 8) (hs : σ 14 (p + 1) 2 = nI n) (hn : n ≤ 14) : CtL l yX3_centroidMoment wsX3_centroidMoment (rmd 3) G [.ref (gA G 17 (p)), .int (0)] σ (fun r σ2 => r = sumL (momF n (σ 15 (p + 1)) (σ 15 (p + 1)) (σ 16 (p + 1))) n ∧ σ2 = σ) := by
  refine ct_l (maxL := 6) (ret := (some .long)) (by decide) rfl (Nat.le_of_ble_eq_true rfl) hA (fun K hl C => ?_)
  subst hl
  change WW K G _ _ σ [(0, .ref (gA G 17 (p))), (1, .int (0))] 0 []
  refine ww_aload_n C dX3_centroidMoment_0 rfl 0 rfl ?_
  refine ww_gr (j := p + 1) (k := 17) (f := 0) C rfl rfl hp rfl in_X3_centroidMoment_X3 (by decide) lk_X3_centroidMoment_12 dX3_centroidMoment_1 rfl ?_
  refine ww_iload_n C dX3_centroidMoment_4 rfl 1 rfl ?_
  refine ww_callqR (cx_V (n := 1) (As := [.int (0)]) C  (c_X1_along_0 (kL K) G hA _ _ (Nat.add_lt_add_right hp 1)) gX3_centroidMoment_X1_along rfl ⟨rfl, rfl⟩ (by decide +kernel) (by decide) rfl (Nat.add_lt_add_right hp 1) rfl rfl rfl (Nat.le_of_ble_eq_true rfl) dX3_centroidMoment_5) ?_
  refine ww_astore_n [(2, .ref (gA G 15 (p + 1))), (0, .ref (gA G 17 (p))), (1, .int (0))] C dX3_centroidMoment_8 rfl (by decide) rfl ?_
  refine ww_lconst (v := 0) C dX3_centroidMoment_9 rfl ?_
  refine ww_lstore_n (fun y1 => [(3, .long (y1)), (2, .ref (gA G 15 (p + 1))), (0, .ref (gA G 17 (p))), (1, .int (0))]) C dX3_centroidMoment_10 rfl (by decide) (fun _ => rfl) (fun y1 ey1 => ?_)
  rw [ey1]; clear ey1 y1
  refine ww_iconst (v := 0) C dX3_centroidMoment_11 rfl ?_
  refine ww_istore (fun y2 => [(5, .int (y2)), (3, .long (0)), (2, .ref (gA G 15 (p + 1))), (0, .ref (gA G 17 (p))), (1, .int (0))]) C dX3_centroidMoment_12 (by decide) (fun _ => rfl) (fun y2 ey2 => ?_)
  obtain rfl : y2 = nI 0 := (ey2.trans (by decide))
  exact lp_X3_centroidMoment_0 hA C σ p n hp hs hn (n + 1) 0 (by omega) (by omega)
set_option maxHeartbeats 4000000 in
set_option maxRecDepth 100000 in
theorem lp_X3_centroidMoment_1 {K : Kx} {G : Gx} (hA : wa G) (C : CX K G cX3_centroidMoment 6 RX3 wsX3_centroidMoment (rmd 3) (some .long)) (σ : Sg) (p n : Nat) (hp : p < 8) (hs : σ 14 (p + 1) 2 = nI n) (hn : n ≤ 14) : ∀ (f i : Nat), n - i < f → i ≤ n → WW K G 6 (QL K G (fun r σ2 => r = sumL (momF n (σ 16 (p + 1)) (σ 15 (p + 1)) (σ 16 (p + 1))) n ∧ σ2 = σ)) σ [(5, .int (nI i)), (3, .long (sumL (momF n (σ 16 (p + 1)) (σ 15 (p + 1)) (σ 16 (p + 1))) i)), (2, .ref (gA G 16 (p + 1))), (0, .ref (gA G 17 (p))), (1, .int (1))] 14 [] := by
  intro f
  induction f with
  | zero => intro i  h; exact absurd h (Nat.not_lt_zero _)
  | succ f ih =>
    intro i  hf hi
    refine ww_iload C dX3_centroidMoment_14 0 rfl ?_
    refine ww_aload_n C dX3_centroidMoment_16 rfl 3 rfl ?_
    refine ww_gr (j := p + 1) (k := 17) (f := 0) C rfl rfl hp rfl in_X3_centroidMoment_X3 (by decide) lk_X3_centroidMoment_12 dX3_centroidMoment_17 rfl ?_
    refine ww_gi (k := 14) (f := 2) C rfl rfl (Nat.add_lt_add_right hp 1) rfl in_X3_centroidMoment_X1 (by decide) lk_X3_centroidMoment_59 dX3_centroidMoment_20 ?_
    refine ww_icmp_ge 60 C dX3_centroidMoment_23 (by decide) (fun h23 => ?_) (fun h23 => ?_)
    · have g23 : n ≤ i := (cv_le (a := n) (b := i) hs rfl (by omega) (by omega)).mp h23
      refine ww_lload_n C dX3_centroidMoment_60 rfl 1 rfl ?_
      refine ww_lret C dX3_centroidMoment_61 ?_
      exact ⟨by rw [show i = n by omega], rfl⟩
    · have g23 : ¬ n ≤ i := fun q => h23 ((cv_le (a := n) (b := i) hs rfl (by omega) (by omega)).mpr q)
      refine ww_lload_n C dX3_centroidMoment_26 rfl 1 rfl ?_
      refine ww_aload_n C dX3_centroidMoment_27 rfl 2 rfl ?_
      refine ww_iload C dX3_centroidMoment_28 0 rfl ?_
      refine ww_iald (k := 16) (j := i) C rfl (Nat.add_lt_add_right hp 1) (by decide) dX3_centroidMoment_30 rfl (by omega) ?_
      refine ww_aload_n C dX3_centroidMoment_31 rfl 2 rfl ?_
      refine ww_aload_n C dX3_centroidMoment_32 rfl 3 rfl ?_
      refine ww_gr (j := p + 1) (k := 17) (f := 0) C rfl rfl hp rfl in_X3_centroidMoment_X3 (by decide) lk_X3_centroidMoment_12 dX3_centroidMoment_33 rfl ?_
      refine ww_iload C dX3_centroidMoment_36 0 rfl ?_
      refine ww_calliF (cx_V (n := 1) (As := [.int (nI i)]) C  (c_X1_after (kL K) G hA _ (p + 1) n (Nat.add_lt_add_right hp 1) hs hn i (by omega)) gX3_centroidMoment_X1_after rfl ⟨rfl, rfl⟩ (by decide +kernel) (by decide) rfl (Nat.add_lt_add_right hp 1) rfl rfl rfl (Nat.le_of_ble_eq_true rfl) dX3_centroidMoment_38) ?_
      refine ww_iald (k := 16) (j := af n i) C rfl (Nat.add_lt_add_right hp 1) (by decide) dX3_centroidMoment_41 rfl (nlt14 (af_lt (by omega)) hn) ?_
      refine ww_iadd C dX3_centroidMoment_42 ?_
      refine ww_i2l C dX3_centroidMoment_43 ?_
      refine ww_aload_n C dX3_centroidMoment_44 rfl 3 rfl ?_
      refine ww_iload C dX3_centroidMoment_45 0 rfl ?_
      refine ww_calliF (cx_V (n := 1) (As := [.int (nI i)]) C  (c_X3_crossOfEdge (kL K) G hA _ p n hp hs hn i (by omega)) gX3_centroidMoment_X3_crossOfEdge rfl ⟨rfl, rfl⟩ (by decide +kernel) (by decide) rfl hp rfl rfl rfl (Nat.le_of_ble_eq_true rfl) dX3_centroidMoment_47) ?_
      refine ww_i2l C dX3_centroidMoment_50 ?_
      refine ww_lmul C dX3_centroidMoment_51 ?_
      refine ww_ladd C dX3_centroidMoment_52 ?_
      refine ww_lstore_n (fun y1 => [(3, .long (y1)), (5, .int (nI i)), (2, .ref (gA G 16 (p + 1))), (0, .ref (gA G 17 (p))), (1, .int (1))]) C dX3_centroidMoment_53 rfl (by decide) (fun _ => rfl) (fun y1 ey1 => ?_)
      rw [ey1]; clear ey1 y1
      refine ww_iinc (q := 1) (fun y2 => [(5, .int (y2)), (3, .long ((sumL (momF n (σ 16 (p + 1)) (σ 15 (p + 1)) (σ 16 (p + 1))) i) + ((((σ 16 (p + 1) (i)) + (σ 16 (p + 1) (af n i))).toInt64) * ((crs9 n (σ 15 (p + 1)) (σ 16 (p + 1)) i).toInt64)))), (2, .ref (gA G 16 (p + 1))), (0, .ref (gA G 17 (p))), (1, .int (1))]) C dX3_centroidMoment_54 rfl (by decide) (fun _ => rfl) (fun y2 ey2 => ?_)
      obtain rfl : y2 = nI (i + 1) := ninc rfl ey2
      refine ww_goto 14 C dX3_centroidMoment_57 (by decide) ?_
      exact ww_sub [0, 1, 2, 3, 4] rfl (ih (i + 1) (by omega) (by omega))
set_option maxHeartbeats 4000000 in
set_option maxRecDepth 100000 in
theorem c_X3_centroidMoment_1 (l : Launch) (G : Gx) (hA : wa G) (σ : Sg) (p n : Nat) (hp : p < 8) (hs : σ 14 (p + 1) 2 = nI n) (hn : n ≤ 14) : CtL l yX3_centroidMoment wsX3_centroidMoment (rmd 3) G [.ref (gA G 17 (p)), .int (1)] σ (fun r σ2 => r = sumL (momF n (σ 16 (p + 1)) (σ 15 (p + 1)) (σ 16 (p + 1))) n ∧ σ2 = σ) := by
  refine ct_l (maxL := 6) (ret := (some .long)) (by decide) rfl (Nat.le_of_ble_eq_true rfl) hA (fun K hl C => ?_)
  subst hl
  change WW K G _ _ σ [(0, .ref (gA G 17 (p))), (1, .int (1))] 0 []
  refine ww_aload_n C dX3_centroidMoment_0 rfl 0 rfl ?_
  refine ww_gr (j := p + 1) (k := 17) (f := 0) C rfl rfl hp rfl in_X3_centroidMoment_X3 (by decide) lk_X3_centroidMoment_12 dX3_centroidMoment_1 rfl ?_
  refine ww_iload_n C dX3_centroidMoment_4 rfl 1 rfl ?_
  refine ww_callqR (cx_V (n := 1) (As := [.int (1)]) C  (c_X1_along_1 (kL K) G hA _ _ (Nat.add_lt_add_right hp 1)) gX3_centroidMoment_X1_along rfl ⟨rfl, rfl⟩ (by decide +kernel) (by decide) rfl (Nat.add_lt_add_right hp 1) rfl rfl rfl (Nat.le_of_ble_eq_true rfl) dX3_centroidMoment_5) ?_
  refine ww_astore_n [(2, .ref (gA G 16 (p + 1))), (0, .ref (gA G 17 (p))), (1, .int (1))] C dX3_centroidMoment_8 rfl (by decide) rfl ?_
  refine ww_lconst (v := 0) C dX3_centroidMoment_9 rfl ?_
  refine ww_lstore_n (fun y1 => [(3, .long (y1)), (2, .ref (gA G 16 (p + 1))), (0, .ref (gA G 17 (p))), (1, .int (1))]) C dX3_centroidMoment_10 rfl (by decide) (fun _ => rfl) (fun y1 ey1 => ?_)
  rw [ey1]; clear ey1 y1
  refine ww_iconst (v := 0) C dX3_centroidMoment_11 rfl ?_
  refine ww_istore (fun y2 => [(5, .int (y2)), (3, .long (0)), (2, .ref (gA G 16 (p + 1))), (0, .ref (gA G 17 (p))), (1, .int (1))]) C dX3_centroidMoment_12 (by decide) (fun _ => rfl) (fun y2 ey2 => ?_)
  obtain rfl : y2 = nI 0 := (ey2.trans (by decide))
  exact lp_X3_centroidMoment_1 hA C σ p n hp hs hn (n + 1) 0 (by omega) (by omega)
set_option maxHeartbeats 4000000 in
set_option maxRecDepth 100000 in
theorem lp_X3_pointsOnEdges {K : Kx} {G : Gx} (hA : wa G) (C : CX K G cX3_pointsOnEdges 4 RX3 wsX3_pointsOnEdges (rmd 3) (some .int)) (σ : Sg) (p n : Nat) (hp : p < 8) (hs : σ 14 (p + 1) 2 = nI n) (hn : n ≤ 14) : ∀ (f i : Nat), n - i < f → i ≤ n → WW K G 4 (QI K G (fun r σ2 => r = sumN (ptsF n (σ 15 (p + 1)) (σ 16 (p + 1))) n ∧ σ2 = σ)) σ [(2, .int (nI i)), (1, .int (sumN (ptsF n (σ 15 (p + 1)) (σ 16 (p + 1))) i)), (0, .ref (gA G 17 (p)))] 4 [] := by
  intro f
  induction f with
  | zero => intro i  h; exact absurd h (Nat.not_lt_zero _)
  | succ f ih =>
    intro i  hf hi
    refine ww_iload_n C dX3_pointsOnEdges_4 rfl 0 rfl ?_
    refine ww_aload_n C dX3_pointsOnEdges_5 rfl 2 rfl ?_
    refine ww_gr (j := p + 1) (k := 17) (f := 0) C rfl rfl hp rfl in_X3_pointsOnEdges_X3 (by decide) lk_X3_pointsOnEdges_12 dX3_pointsOnEdges_6 rfl ?_
    refine ww_gi (k := 14) (f := 2) C rfl rfl (Nat.add_lt_add_right hp 1) rfl in_X3_pointsOnEdges_X1 (by decide) lk_X3_pointsOnEdges_59 dX3_pointsOnEdges_9 ?_
    refine ww_icmp_ge 77 C dX3_pointsOnEdges_12 (by decide) (fun h12 => ?_) (fun h12 => ?_)
    · have g12 : n ≤ i := (cv_le (a := n) (b := i) hs rfl (by omega) (by omega)).mp h12
      refine ww_iload_n C dX3_pointsOnEdges_77 rfl 1 rfl ?_
      refine ww_iret C dX3_pointsOnEdges_78 ?_
      exact ⟨by rw [show i = n by omega], rfl⟩
    · have g12 : ¬ n ≤ i := fun q => h12 ((cv_le (a := n) (b := i) hs rfl (by omega) (by omega)).mpr q)
      refine ww_aload_n C dX3_pointsOnEdges_15 rfl 2 rfl ?_
      refine ww_gr (j := p + 1) (k := 17) (f := 0) C rfl rfl hp rfl in_X3_pointsOnEdges_X3 (by decide) lk_X3_pointsOnEdges_12 dX3_pointsOnEdges_16 rfl ?_
      refine ww_iload_n C dX3_pointsOnEdges_19 rfl 0 rfl ?_
      refine ww_calliF (cx_V (n := 1) (As := [.int (nI i)]) C  (c_X1_after (kL K) G hA _ (p + 1) n (Nat.add_lt_add_right hp 1) hs hn i (by omega)) gX3_pointsOnEdges_X1_after rfl ⟨rfl, rfl⟩ (by decide +kernel) (by decide) rfl (Nat.add_lt_add_right hp 1) rfl rfl rfl (Nat.le_of_ble_eq_true rfl) dX3_pointsOnEdges_20) ?_
      refine ww_istore_n (fun y1 => [(3, .int (y1)), (2, .int (nI i)), (1, .int (sumN (ptsF n (σ 15 (p + 1)) (σ 16 (p + 1))) i)), (0, .ref (gA G 17 (p)))]) C dX3_pointsOnEdges_23 rfl (by decide) (fun _ => rfl) (fun y1 ey1 => ?_)
      obtain rfl : y1 = nI (af n i) := ey1
      refine ww_iload_n C dX3_pointsOnEdges_24 rfl 2 rfl ?_
      refine ww_aload_n C dX3_pointsOnEdges_25 rfl 3 rfl ?_
      refine ww_gr (j := p + 1) (k := 17) (f := 0) C rfl rfl hp rfl in_X3_pointsOnEdges_X3 (by decide) lk_X3_pointsOnEdges_12 dX3_pointsOnEdges_26 rfl ?_
      refine ww_gr (j := p + 1) (k := 14) (f := 0) C rfl rfl (Nat.add_lt_add_right hp 1) rfl in_X3_pointsOnEdges_X1 (by decide) lk_X3_pointsOnEdges_77 dX3_pointsOnEdges_29 rfl ?_
      refine ww_iload_n C dX3_pointsOnEdges_32 rfl 0 rfl ?_
      refine ww_iald (k := 15) (j := af n i) C rfl (Nat.add_lt_add_right hp 1) (by decide) dX3_pointsOnEdges_33 rfl (nlt14 (af_lt (by omega)) hn) ?_
      refine ww_aload_n C dX3_pointsOnEdges_34 rfl 3 rfl ?_
      refine ww_gr (j := p + 1) (k := 17) (f := 0) C rfl rfl hp rfl in_X3_pointsOnEdges_X3 (by decide) lk_X3_pointsOnEdges_12 dX3_pointsOnEdges_35 rfl ?_
      refine ww_gr (j := p + 1) (k := 14) (f := 0) C rfl rfl (Nat.add_lt_add_right hp 1) rfl in_X3_pointsOnEdges_X1 (by decide) lk_X3_pointsOnEdges_77 dX3_pointsOnEdges_38 rfl ?_
      refine ww_iload_n C dX3_pointsOnEdges_41 rfl 1 rfl ?_
      refine ww_iald (k := 15) (j := i) C rfl (Nat.add_lt_add_right hp 1) (by decide) dX3_pointsOnEdges_42 rfl (by omega) ?_
      refine ww_isub C dX3_pointsOnEdges_43 ?_
      refine ww_i2l C dX3_pointsOnEdges_44 ?_
      refine ww_aload_n C dX3_pointsOnEdges_45 rfl 3 rfl ?_
      refine ww_gr (j := p + 1) (k := 17) (f := 0) C rfl rfl hp rfl in_X3_pointsOnEdges_X3 (by decide) lk_X3_pointsOnEdges_12 dX3_pointsOnEdges_46 rfl ?_
      refine ww_gr (j := p + 1) (k := 14) (f := 1) C rfl rfl (Nat.add_lt_add_right hp 1) rfl in_X3_pointsOnEdges_X1 (by decide) lk_X3_pointsOnEdges_80 dX3_pointsOnEdges_49 rfl ?_
      refine ww_iload_n C dX3_pointsOnEdges_52 rfl 0 rfl ?_
      refine ww_iald (k := 16) (j := af n i) C rfl (Nat.add_lt_add_right hp 1) (by decide) dX3_pointsOnEdges_53 rfl (nlt14 (af_lt (by omega)) hn) ?_
      refine ww_aload_n C dX3_pointsOnEdges_54 rfl 3 rfl ?_
      refine ww_gr (j := p + 1) (k := 17) (f := 0) C rfl rfl hp rfl in_X3_pointsOnEdges_X3 (by decide) lk_X3_pointsOnEdges_12 dX3_pointsOnEdges_55 rfl ?_
      refine ww_gr (j := p + 1) (k := 14) (f := 1) C rfl rfl (Nat.add_lt_add_right hp 1) rfl in_X3_pointsOnEdges_X1 (by decide) lk_X3_pointsOnEdges_80 dX3_pointsOnEdges_58 rfl ?_
      refine ww_iload_n C dX3_pointsOnEdges_61 rfl 1 rfl ?_
      refine ww_iald (k := 16) (j := i) C rfl (Nat.add_lt_add_right hp 1) (by decide) dX3_pointsOnEdges_62 rfl (by omega) ?_
      refine ww_isub C dX3_pointsOnEdges_63 ?_
      refine ww_i2l C dX3_pointsOnEdges_64 ?_
      refine ww_calllF (cx_N (n := 2) (As := [.long (((σ 15 (p + 1) (af n i)) - (σ 15 (p + 1) (i))).toInt64), .long (((σ 16 (p + 1) (af n i)) - (σ 16 (p + 1) (i))).toInt64)]) C (c_X5_greatestDivisor (kL K) G hA _ _ _) gX3_pointsOnEdges_X5_greatestDivisor_n83 rfl ⟨rfl, rfl⟩ (by decide +kernel) (by decide) rfl rfl (Nat.le_of_ble_eq_true rfl) dX3_pointsOnEdges_65 rfl lw_X3_pointsOnEdges_ini lw_X3_pointsOnEdges_sta) ?_
      refine ww_l2i C dX3_pointsOnEdges_68 ?_
      refine ww_iadd C dX3_pointsOnEdges_69 ?_
      refine ww_istore_n (fun y2 => [(1, .int (y2)), (3, .int (nI (af n i))), (2, .int (nI i)), (0, .ref (gA G 17 (p)))]) C dX3_pointsOnEdges_70 rfl (by decide) (fun _ => rfl) (fun y2 ey2 => ?_)
      rw [ey2]; clear ey2 y2
      refine ww_iinc (q := 2) (fun y3 => [(2, .int (y3)), (1, .int ((sumN (ptsF n (σ 15 (p + 1)) (σ 16 (p + 1))) i) + ((gcdC (((σ 15 (p + 1) (af n i)) - (σ 15 (p + 1) (i))).toInt64) (((σ 16 (p + 1) (af n i)) - (σ 16 (p + 1) (i))).toInt64)).toInt32))), (3, .int (nI (af n i))), (0, .ref (gA G 17 (p)))]) C dX3_pointsOnEdges_71 rfl (by decide) (fun _ => rfl) (fun y3 ey3 => ?_)
      obtain rfl : y3 = nI (i + 1) := ninc rfl ey3
      refine ww_goto 4 C dX3_pointsOnEdges_74 (by decide) ?_
      exact ww_sub [0, 1, 3] rfl (ih (i + 1) (by omega) (by omega))
set_option maxHeartbeats 4000000 in
set_option maxRecDepth 100000 in
theorem c_X3_pointsOnEdges (l : Launch) (G : Gx) (hA : wa G) (σ : Sg) (p n : Nat) (hp : p < 8) (hs : σ 14 (p + 1) 2 = nI n) (hn : n ≤ 14) : CtI l yX3_pointsOnEdges wsX3_pointsOnEdges (rmd 3) G [.ref (gA G 17 (p))] σ (fun r σ2 => r = sumN (ptsF n (σ 15 (p + 1)) (σ 16 (p + 1))) n ∧ σ2 = σ) := by
  refine ct_i (maxL := 4) (ret := (some .int)) (by decide) rfl (Nat.le_of_ble_eq_true rfl) hA (fun K hl C => ?_)
  subst hl
  change WW K G _ _ σ [(0, .ref (gA G 17 (p)))] 0 []
  refine ww_iconst (v := 0) C dX3_pointsOnEdges_0 rfl ?_
  refine ww_istore_n (fun y1 => [(1, .int (y1)), (0, .ref (gA G 17 (p)))]) C dX3_pointsOnEdges_1 rfl (by decide) (fun _ => rfl) (fun y1 ey1 => ?_)
  rw [ey1]; clear ey1 y1
  refine ww_iconst (v := 0) C dX3_pointsOnEdges_2 rfl ?_
  refine ww_istore_n (fun y2 => [(2, .int (y2)), (1, .int (0)), (0, .ref (gA G 17 (p)))]) C dX3_pointsOnEdges_3 rfl (by decide) (fun _ => rfl) (fun y2 ey2 => ?_)
  obtain rfl : y2 = nI 0 := (ey2.trans (by decide))
  exact lp_X3_pointsOnEdges hA C σ p n hp hs hn (n + 1) 0 (by omega) (by omega)
