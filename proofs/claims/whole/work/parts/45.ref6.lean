theorem in_X6_go_X6 : ∀ w ∈ wsX60, w ∈ wsX6_go := by decide +kernel
theorem lk_X6_go_16 : Cond.fieldLink RX6 16 "PolyCutsModel" "corners" "[I" ∈ wsX6_go := by decide +kernel
theorem in_X6_fits_X6 : ∀ w ∈ wsX60, w ∈ wsX6_fits := by decide +kernel
theorem lk_X6_fits_16 : Cond.fieldLink RX6 16 "PolyCutsModel" "corners" "[I" ∈ wsX6_fits := by decide +kernel
theorem go9 {f i m : Nat} (h : i ≤ f + m) : nI f - nI i + nI m = nI (f + m - i) := by
  rw [← pk_sub h, ← nI_add]
  grind
set_option maxHeartbeats 4000000 in
set_option maxRecDepth 100000 in
theorem c_X6_go_1 (l : Launch) (G : Gx) (hA : wa G) (σ : Sg) (p n : Nat) (hp : p < 8) (hs : σ 33 0 p = nI n) (h3 : 3 ≤ n) (hn : n ≤ 14) (f i : Nat) (hf : f < n) (hi : i ≤ 2 * n) : CtI l yX6_go wsX6_go (rmd 1) G [.ref (gA G 30 (0)), .int (nI p), .int (nI f), .int (nI i), .int (1)] σ (fun r σ2 => r = nI ((f + i) % n) ∧ σ2 = σ) := by
  refine ct_i (maxL := 6) (ret := (some .int)) (by decide) rfl (Nat.le_of_ble_eq_true rfl) hA (fun K hl C => ?_)
  subst hl
  change WW K G _ _ σ [(0, .ref (gA G 30 (0))), (1, .int (nI p)), (2, .int (nI f)), (3, .int (nI i)), (4, .int (1))] 0 []
  refine ww_aload_n C dX6_go_0 rfl 0 rfl ?_
  refine ww_gr (j := 0) (k := 30) (f := 4) C rfl rfl (by decide) rfl in_X6_go_X6 (by decide) lk_X6_go_16 dX6_go_1 rfl ?_
  refine ww_iload_n C dX6_go_4 rfl 1 rfl ?_
  refine ww_iald (k := 33) (j := p) C rfl (by decide) (by decide) dX6_go_5 rfl hp ?_
  rw [hs]
  refine ww_istore (fun y1 => [(5, .int (y1)), (0, .ref (gA G 30 (0))), (1, .int (nI p)), (2, .int (nI f)), (3, .int (nI i)), (4, .int (1))]) C dX6_go_6 (by decide) (fun _ => rfl) (fun y1 ey1 => ?_)
  obtain rfl : y1 = nI n := ey1
  refine ww_iload C dX6_go_8 5 rfl ?_
  refine ww_if_eq 22 C dX6_go_10 (by decide) (fun h10 => ?_) (fun h10 => ?_)
  · have g10 : 1 = 0 := (cv_eq (a := 1) (b := 0) (by decide) (by decide) (by omega) (by omega)).mp h10
    exact absurd g10 (by decide)
  · have g10 : ¬ 1 = 0 := fun q => h10 ((cv_eq (a := 1) (b := 0) (by decide) (by decide) (by omega) (by omega)).mpr q)
    refine ww_iload_n C dX6_go_13 rfl 3 rfl ?_
    refine ww_iload_n C dX6_go_14 rfl 4 rfl ?_
    refine ww_iadd C dX6_go_15 ?_
    rw [show (nI f) + (nI i) = nI (f + i) from nI_add (f) (i)]
    refine ww_iload C dX6_go_16 0 rfl ?_
    refine ww_irem C dX6_go_18 (nI_ne0 (by omega) (by omega)) ?_
    rw [rem9 (a := f + i) (b := n) rfl rfl (by omega) (by omega) (by omega)]
    refine ww_goto 33 C dX6_go_19 (by decide) ?_
    refine ww_iret C dX6_go_33 ?_
    exact ⟨rfl, rfl⟩
set_option maxHeartbeats 4000000 in
set_option maxRecDepth 100000 in
theorem c_X6_go_0 (l : Launch) (G : Gx) (hA : wa G) (σ : Sg) (p n : Nat) (hp : p < 8) (hs : σ 33 0 p = nI n) (h3 : 3 ≤ n) (hn : n ≤ 14) (f i : Nat) (hf : f < n) (hi : i ≤ 2 * n) : CtI l yX6_go wsX6_go (rmd 1) G [.ref (gA G 30 (0)), .int (nI p), .int (nI f), .int (nI i), .int (0)] σ (fun r σ2 => r = nI ((f + 2 * n - i) % n) ∧ σ2 = σ) := by
  refine ct_i (maxL := 6) (ret := (some .int)) (by decide) rfl (Nat.le_of_ble_eq_true rfl) hA (fun K hl C => ?_)
  subst hl
  change WW K G _ _ σ [(0, .ref (gA G 30 (0))), (1, .int (nI p)), (2, .int (nI f)), (3, .int (nI i)), (4, .int (0))] 0 []
  refine ww_aload_n C dX6_go_0 rfl 0 rfl ?_
  refine ww_gr (j := 0) (k := 30) (f := 4) C rfl rfl (by decide) rfl in_X6_go_X6 (by decide) lk_X6_go_16 dX6_go_1 rfl ?_
  refine ww_iload_n C dX6_go_4 rfl 1 rfl ?_
  refine ww_iald (k := 33) (j := p) C rfl (by decide) (by decide) dX6_go_5 rfl hp ?_
  rw [hs]
  refine ww_istore (fun y1 => [(5, .int (y1)), (0, .ref (gA G 30 (0))), (1, .int (nI p)), (2, .int (nI f)), (3, .int (nI i)), (4, .int (0))]) C dX6_go_6 (by decide) (fun _ => rfl) (fun y1 ey1 => ?_)
  obtain rfl : y1 = nI n := ey1
  refine ww_iload C dX6_go_8 5 rfl ?_
  refine ww_if_eq 22 C dX6_go_10 (by decide) (fun h10 => ?_) (fun h10 => ?_)
  · have g10 : 0 = 0 := (cv_eq (a := 0) (b := 0) (by decide) (by decide) (by omega) (by omega)).mp h10
    refine ww_iload_n C dX6_go_22 rfl 3 rfl ?_
    refine ww_iload_n C dX6_go_23 rfl 4 rfl ?_
    refine ww_isub C dX6_go_24 ?_
    refine ww_iconst (v := 2) C dX6_go_25 rfl ?_
    refine ww_iload C dX6_go_26 0 rfl ?_
    refine ww_imul C dX6_go_28 ?_
    rw [show (2) * (nI n) = nI (2 * n) from pk_mul (2) (n)]
    refine ww_iadd C dX6_go_29 ?_
    rw [show ((nI f) - (nI i)) + (nI (2 * n)) = nI (f + 2 * n - i) from go9 (by omega)]
    refine ww_iload C dX6_go_30 0 rfl ?_
    refine ww_irem C dX6_go_32 (nI_ne0 (by omega) (by omega)) ?_
    rw [rem9 (a := f + 2 * n - i) (b := n) rfl rfl (by omega) (by omega) (by omega)]
    refine ww_iret C dX6_go_33 ?_
    exact ⟨rfl, rfl⟩
  · have g10 : ¬ 0 = 0 := fun q => h10 ((cv_eq (a := 0) (b := 0) (by decide) (by decide) (by omega) (by omega)).mpr q)
    exact absurd g10 (by decide)
set_option maxHeartbeats 4000000 in
set_option maxRecDepth 100000 in
theorem c_sq_s (l : Launch) (G : Gx) (hA : wa G) (σ : Sg) (p n : Nat) (hp : p < 8) (hs : σ 33 0 p = nI n) (h3 : 3 ≤ n) (hn : n ≤ 14) (i : Nat) (hi : i < n) : CtI l yX6_square wsX6_square (rmd 2) G [.ref (gA G 30 (0)), .int (nI p), .int (nI i), .int (nI (i + 1))] σ (fun r σ2 => r = sq9 (fun i => σ 34 0 (14 * p + i)) (fun i => σ 35 0 (14 * p + i)) i (af n i) ∧ σ2 = σ) := by
  refine ct_i (maxL := 6) (ret := (some .int)) (by decide) rfl (Nat.le_of_ble_eq_true rfl) hA (fun K hl C => ?_)
  subst hl
  change WW K G _ _ σ [(0, .ref (gA G 30 (0))), (1, .int (nI p)), (2, .int (nI i)), (3, .int (nI (i + 1)))] 0 []
  refine ww_aload_n C dX6_square_0 rfl 0 rfl ?_
  refine ww_iload_n C dX6_square_1 rfl 1 rfl ?_
  refine ww_iload_n C dX6_square_2 rfl 3 rfl ?_
  refine ww_calliF (cx_V (n := 2) (As := [.int (nI p), .int (nI (i + 1))]) C  (c_xOf_s (kL K) G hA _ p n hp hs h3 hn i (by omega)) gX6_square_X6_xOf rfl ⟨rfl, rfl⟩ (by decide +kernel) (by decide) rfl (by decide) rfl rfl rfl (Nat.le_of_ble_eq_true rfl) dX6_square_3) ?_
  refine ww_aload_n C dX6_square_6 rfl 0 rfl ?_
  refine ww_iload_n C dX6_square_7 rfl 1 rfl ?_
  refine ww_iload_n C dX6_square_8 rfl 2 rfl ?_
  refine ww_calliF (cx_V (n := 2) (As := [.int (nI p), .int (nI i)]) C  (c_xOf_i (kL K) G hA _ p n hp hs h3 hn i (by omega)) gX6_square_X6_xOf rfl ⟨rfl, rfl⟩ (by decide +kernel) (by decide) rfl (by decide) rfl rfl rfl (Nat.le_of_ble_eq_true rfl) dX6_square_9) ?_
  refine ww_isub C dX6_square_12 ?_
  refine ww_istore (fun y1 => [(4, .int (y1)), (0, .ref (gA G 30 (0))), (1, .int (nI p)), (2, .int (nI i)), (3, .int (nI (i + 1)))]) C dX6_square_13 (by decide) (fun _ => rfl) (fun y1 ey1 => ?_)
  rw [ey1]; clear ey1 y1
  refine ww_aload_n C dX6_square_15 rfl 1 rfl ?_
  refine ww_iload_n C dX6_square_16 rfl 2 rfl ?_
  refine ww_iload_n C dX6_square_17 rfl 4 rfl ?_
  refine ww_calliF (cx_V (n := 2) (As := [.int (nI p), .int (nI (i + 1))]) C  (c_yOf_s (kL K) G hA _ p n hp hs h3 hn i (by omega)) gX6_square_X6_yOf rfl ⟨rfl, rfl⟩ (by decide +kernel) (by decide) rfl (by decide) rfl rfl rfl (Nat.le_of_ble_eq_true rfl) dX6_square_18) ?_
  refine ww_aload_n C dX6_square_21 rfl 1 rfl ?_
  refine ww_iload_n C dX6_square_22 rfl 2 rfl ?_
  refine ww_iload_n C dX6_square_23 rfl 3 rfl ?_
  refine ww_calliF (cx_V (n := 2) (As := [.int (nI p), .int (nI i)]) C  (c_yOf_i (kL K) G hA _ p n hp hs h3 hn i (by omega)) gX6_square_X6_yOf rfl ⟨rfl, rfl⟩ (by decide +kernel) (by decide) rfl (by decide) rfl rfl rfl (Nat.le_of_ble_eq_true rfl) dX6_square_24) ?_
  refine ww_isub C dX6_square_27 ?_
  refine ww_istore (fun y2 => [(5, .int (y2)), (4, .int ((σ 34 0 (14 * p + af n i)) - (σ 34 0 (14 * p + i)))), (0, .ref (gA G 30 (0))), (1, .int (nI p)), (2, .int (nI i)), (3, .int (nI (i + 1)))]) C dX6_square_28 (by decide) (fun _ => rfl) (fun y2 ey2 => ?_)
  rw [ey2]; clear ey2 y2
  refine ww_iload C dX6_square_30 1 rfl ?_
  refine ww_iload C dX6_square_32 1 rfl ?_
  refine ww_imul C dX6_square_34 ?_
  refine ww_iload C dX6_square_35 0 rfl ?_
  refine ww_iload C dX6_square_37 0 rfl ?_
  refine ww_imul C dX6_square_39 ?_
  refine ww_iadd C dX6_square_40 ?_
  refine ww_iret C dX6_square_41 ?_
  exact ⟨rfl, rfl⟩
set_option maxHeartbeats 4000000 in
set_option maxRecDepth 100000 in
theorem c_sq_ss (l : Launch) (G : Gx) (hA : wa G) (σ : Sg) (p n : Nat) (hp : p < 8) (hs : σ 33 0 p = nI n) (h3 : 3 ≤ n) (hn : n ≤ 14) (i : Nat) (hi : i < n) : CtI l yX6_square wsX6_square (rmd 2) G [.ref (gA G 30 (0)), .int (nI p), .int (nI i), .int (nI (i + 2))] σ (fun r σ2 => r = sq9 (fun i => σ 34 0 (14 * p + i)) (fun i => σ 35 0 (14 * p + i)) i (af n (af n i)) ∧ σ2 = σ) := by
  refine ct_i (maxL := 6) (ret := (some .int)) (by decide) rfl (Nat.le_of_ble_eq_true rfl) hA (fun K hl C => ?_)
  subst hl
  change WW K G _ _ σ [(0, .ref (gA G 30 (0))), (1, .int (nI p)), (2, .int (nI i)), (3, .int (nI (i + 2)))] 0 []
  refine ww_aload_n C dX6_square_0 rfl 0 rfl ?_
  refine ww_iload_n C dX6_square_1 rfl 1 rfl ?_
  refine ww_iload_n C dX6_square_2 rfl 3 rfl ?_
  refine ww_calliF (cx_V (n := 2) (As := [.int (nI p), .int (nI (i + 2))]) C  (c_xOf_ss (kL K) G hA _ p n hp hs h3 hn i (by omega)) gX6_square_X6_xOf rfl ⟨rfl, rfl⟩ (by decide +kernel) (by decide) rfl (by decide) rfl rfl rfl (Nat.le_of_ble_eq_true rfl) dX6_square_3) ?_
  refine ww_aload_n C dX6_square_6 rfl 0 rfl ?_
  refine ww_iload_n C dX6_square_7 rfl 1 rfl ?_
  refine ww_iload_n C dX6_square_8 rfl 2 rfl ?_
  refine ww_calliF (cx_V (n := 2) (As := [.int (nI p), .int (nI i)]) C  (c_xOf_i (kL K) G hA _ p n hp hs h3 hn i (by omega)) gX6_square_X6_xOf rfl ⟨rfl, rfl⟩ (by decide +kernel) (by decide) rfl (by decide) rfl rfl rfl (Nat.le_of_ble_eq_true rfl) dX6_square_9) ?_
  refine ww_isub C dX6_square_12 ?_
  refine ww_istore (fun y1 => [(4, .int (y1)), (0, .ref (gA G 30 (0))), (1, .int (nI p)), (2, .int (nI i)), (3, .int (nI (i + 2)))]) C dX6_square_13 (by decide) (fun _ => rfl) (fun y1 ey1 => ?_)
  rw [ey1]; clear ey1 y1
  refine ww_aload_n C dX6_square_15 rfl 1 rfl ?_
  refine ww_iload_n C dX6_square_16 rfl 2 rfl ?_
  refine ww_iload_n C dX6_square_17 rfl 4 rfl ?_
  refine ww_calliF (cx_V (n := 2) (As := [.int (nI p), .int (nI (i + 2))]) C  (c_yOf_ss (kL K) G hA _ p n hp hs h3 hn i (by omega)) gX6_square_X6_yOf rfl ⟨rfl, rfl⟩ (by decide +kernel) (by decide) rfl (by decide) rfl rfl rfl (Nat.le_of_ble_eq_true rfl) dX6_square_18) ?_
  refine ww_aload_n C dX6_square_21 rfl 1 rfl ?_
  refine ww_iload_n C dX6_square_22 rfl 2 rfl ?_
  refine ww_iload_n C dX6_square_23 rfl 3 rfl ?_
  refine ww_calliF (cx_V (n := 2) (As := [.int (nI p), .int (nI i)]) C  (c_yOf_i (kL K) G hA _ p n hp hs h3 hn i (by omega)) gX6_square_X6_yOf rfl ⟨rfl, rfl⟩ (by decide +kernel) (by decide) rfl (by decide) rfl rfl rfl (Nat.le_of_ble_eq_true rfl) dX6_square_24) ?_
  refine ww_isub C dX6_square_27 ?_
  refine ww_istore (fun y2 => [(5, .int (y2)), (4, .int ((σ 34 0 (14 * p + af n (af n i))) - (σ 34 0 (14 * p + i)))), (0, .ref (gA G 30 (0))), (1, .int (nI p)), (2, .int (nI i)), (3, .int (nI (i + 2)))]) C dX6_square_28 (by decide) (fun _ => rfl) (fun y2 ey2 => ?_)
  rw [ey2]; clear ey2 y2
  refine ww_iload C dX6_square_30 1 rfl ?_
  refine ww_iload C dX6_square_32 1 rfl ?_
  refine ww_imul C dX6_square_34 ?_
  refine ww_iload C dX6_square_35 0 rfl ?_
  refine ww_iload C dX6_square_37 0 rfl ?_
  refine ww_imul C dX6_square_39 ?_
  refine ww_iadd C dX6_square_40 ?_
  refine ww_iret C dX6_square_41 ?_
  exact ⟨rfl, rfl⟩
def goR (fw : Bool) (n f i : Nat) : Nat := if fw then (f + i) % n else (f + 2 * n - i) % n
def corR (n : Nat) (x y u v : Nat → Int32) (ov : Bool) (i a b c : Nat) : Bool := (decide (sq9 u v a b = sq9 x y i (af n i)) && decide (sq9 u v a c = sq9 x y i (af n (af n i)))) && decide (tn u v a b c = if ov then 0 - tn x y i (af n i) (af n (af n i)) else tn x y i (af n i) (af n (af n i)))
def corRN (n : Nat) (x y u v : Nat → Int32) (fw ov : Bool) (f : Nat) : Nat → Bool := fun i => !corR n x y u v ov i (goR fw n f i) (goR fw n f (i + 1)) (goR fw n f (i + 2))
def fitR (n : Nat) (x y u v : Nat → Int32) (fw ov : Bool) (f : Nat) : Bool := (fndN (corRN n x y u v fw ov f) 0 n).isNone
theorem and3 {a b c : Bool} (h1 : a = true) (h2 : b = true) (h3 : c = true) : ((a && b) && c) = true := by rw [h1, h2, h3]; rfl
theorem nand1 {a b c : Bool} (h : a = false) : ((a && b) && c) = false := by rw [h]; rfl
theorem nand2 {a b c : Bool} (h : b = false) : ((a && b) && c) = false := by rw [h, Bool.and_false]; rfl
theorem nand3 {a b c : Bool} (h : c = false) : ((a && b) && c) = false := by rw [h, Bool.and_false]
set_option maxHeartbeats 4000000 in
set_option maxRecDepth 100000 in
theorem lp_X6_fits_10 {K : Kx} {G : Gx} (hA : wa G) (C : CX K G cX6_fits 14 RX6 wsX6_fits (rmd 3) (some .boolean)) (σ : Sg) (p q n : Nat) (hp : p < 8) (hs : σ 33 0 p = nI n) (hq : q < 8) (hsq : σ 33 0 q = nI n) (h3 : 3 ≤ n) (hn : n ≤ 14) (w : Nat) (hw : w < n) : ∀ (f i : Nat), n - i < f → (i ≤ n) → (fndN (corRN n (fun i => σ 34 0 (14 * p + i)) (fun i => σ 35 0 (14 * p + i)) (fun i => σ 34 0 (14 * q + i)) (fun i => σ 35 0 (14 * q + i)) true false w) i n = fndN (corRN n (fun i => σ 34 0 (14 * p + i)) (fun i => σ 35 0 (14 * p + i)) (fun i => σ 34 0 (14 * q + i)) (fun i => σ 35 0 (14 * q + i)) true false w) 0 n) → WW K G 14 (QI K G (fun r σ2 => r = bI (fitR n (fun i => σ 34 0 (14 * p + i)) (fun i => σ 35 0 (14 * p + i)) (fun i => σ 34 0 (14 * q + i)) (fun i => σ 35 0 (14 * q + i)) true false w) ∧ σ2 = σ)) σ [(7, .int (nI i)), (6, .int (nI n)), (0, .ref (gA G 30 (0))), (1, .int (nI p)), (2, .int (nI q)), (3, .int (nI w)), (4, .int (1)), (5, .int (0))] 11 [] := by
  intro f
  induction f with
  | zero => intro i  h; exact absurd h (Nat.not_lt_zero _)
  | succ f ih =>
    intro i  hf hi hv
    refine ww_iload C dX6_fits_11 0 rfl ?_
    refine ww_iload C dX6_fits_13 1 rfl ?_
    refine ww_icmp_ge 245 C dX6_fits_15 (by decide) (fun h15 => ?_) (fun h15 => ?_)
    · have g15 : n ≤ i := (cv_le (a := n) (b := i) rfl rfl (by omega) (by omega)).mp h15
      refine ww_iconst (v := 1) C dX6_fits_245 rfl ?_
      refine ww_zret C dX6_fits_246 (by first | rfl | exact bI_n) ?_
      exact ⟨by rw [fitR, ← hv, fndN_end g15]; rfl, rfl⟩
    · have g15 : ¬ n ≤ i := fun q => h15 ((cv_le (a := n) (b := i) rfl rfl (by omega) (by omega)).mpr q)
      refine ww_aload_n C dX6_fits_18 rfl 2 rfl ?_
      refine ww_iload_n C dX6_fits_19 rfl 4 rfl ?_
      refine ww_iload_n C dX6_fits_20 rfl 5 rfl ?_
      refine ww_iload C dX6_fits_21 0 rfl ?_
      refine ww_iload C dX6_fits_23 6 rfl ?_
      refine ww_calliF (cx_V (n := 4) (As := [.int (nI q), .int (nI w), .int (nI i), .int (1)]) C  (c_X6_go_1 (kL K) G hA _ q n hq hsq h3 hn w i (by omega) (by omega)) gX6_fits_X6_go rfl ⟨rfl, rfl⟩ (by decide +kernel) (by decide) rfl (by decide) rfl rfl rfl (Nat.le_of_ble_eq_true rfl) dX6_fits_25) ?_
      refine ww_istore (fun ya => [(8, .int (ya)), (7, .int (nI i)), (6, .int (nI n)), (0, .ref (gA G 30 (0))), (1, .int (nI p)), (2, .int (nI q)), (3, .int (nI w)), (4, .int (1)), (5, .int (0))]) C dX6_fits_28 (by decide) (fun _ => rfl) (fun ya eya => ?_)
      obtain ⟨a, ha⟩ : ∃ z, z = goR true n w i := ⟨_, rfl⟩
      have ka : a < n := by rw [ha]; exact Nat.mod_lt _ (by omega)
      obtain rfl : ya = nI a := eya.trans (congrArg nI ha.symm)
      refine ww_aload_n C dX6_fits_30 rfl 3 rfl ?_
      refine ww_iload_n C dX6_fits_31 rfl 5 rfl ?_
      refine ww_iload_n C dX6_fits_32 rfl 6 rfl ?_
      refine ww_iload C dX6_fits_33 1 rfl ?_
      refine ww_iconst (v := 1) C dX6_fits_35 rfl ?_
      refine ww_iadd C dX6_fits_36 ?_
      rw [show (nI i) + (1) = nI (i + 1) from nI_add (i) (1)]
      refine ww_iload C dX6_fits_37 7 rfl ?_
      refine ww_calliF (cx_V (n := 4) (As := [.int (nI q), .int (nI w), .int (nI (i + 1)), .int (1)]) C  (c_X6_go_1 (kL K) G hA _ q n hq hsq h3 hn w (i + 1) (by omega) (by omega)) gX6_fits_X6_go rfl ⟨rfl, rfl⟩ (by decide +kernel) (by decide) rfl (by decide) rfl rfl rfl (Nat.le_of_ble_eq_true rfl) dX6_fits_39) ?_
      refine ww_istore (fun yb => [(9, .int (yb)), (8, .int (nI a)), (7, .int (nI i)), (6, .int (nI n)), (0, .ref (gA G 30 (0))), (1, .int (nI p)), (2, .int (nI q)), (3, .int (nI w)), (4, .int (1)), (5, .int (0))]) C dX6_fits_42 (by decide) (fun _ => rfl) (fun yb eyb => ?_)
      obtain ⟨b, hb⟩ : ∃ z, z = goR true n w (i + 1) := ⟨_, rfl⟩
      have kb : b < n := by rw [hb]; exact Nat.mod_lt _ (by omega)
      obtain rfl : yb = nI b := eyb.trans (congrArg nI hb.symm)
      refine ww_aload_n C dX6_fits_44 rfl 4 rfl ?_
      refine ww_iload_n C dX6_fits_45 rfl 6 rfl ?_
      refine ww_iload_n C dX6_fits_46 rfl 7 rfl ?_
      refine ww_iload C dX6_fits_47 2 rfl ?_
      refine ww_iconst (v := 2) C dX6_fits_49 rfl ?_
      refine ww_iadd C dX6_fits_50 ?_
      rw [show (nI i) + (2) = nI (i + 2) from nI_add (i) (2)]
      refine ww_iload C dX6_fits_51 8 rfl ?_
      refine ww_calliF (cx_V (n := 4) (As := [.int (nI q), .int (nI w), .int (nI (i + 2)), .int (1)]) C  (c_X6_go_1 (kL K) G hA _ q n hq hsq h3 hn w (i + 2) (by omega) (by omega)) gX6_fits_X6_go rfl ⟨rfl, rfl⟩ (by decide +kernel) (by decide) rfl (by decide) rfl rfl rfl (Nat.le_of_ble_eq_true rfl) dX6_fits_53) ?_
      refine ww_istore (fun yc => [(10, .int (yc)), (9, .int (nI b)), (8, .int (nI a)), (7, .int (nI i)), (6, .int (nI n)), (0, .ref (gA G 30 (0))), (1, .int (nI p)), (2, .int (nI q)), (3, .int (nI w)), (4, .int (1)), (5, .int (0))]) C dX6_fits_56 (by decide) (fun _ => rfl) (fun yc eyc => ?_)
      obtain ⟨c, hc⟩ : ∃ z, z = goR true n w (i + 2) := ⟨_, rfl⟩
      have kc : c < n := by rw [hc]; exact Nat.mod_lt _ (by omega)
      obtain rfl : yc = nI c := eyc.trans (congrArg nI hc.symm)
      refine ww_aload_n C dX6_fits_58 rfl 5 rfl ?_
      refine ww_iload_n C dX6_fits_59 rfl 7 rfl ?_
      refine ww_iload C dX6_fits_60 2 rfl ?_
      refine ww_calliF (cx_V (n := 2) (As := [.int (nI q), .int (nI a)]) C  (c_xOf_i (kL K) G hA _ q n hq hsq h3 hn a (by omega)) gX6_fits_X6_xOf rfl ⟨rfl, rfl⟩ (by decide +kernel) (by decide) rfl (by decide) rfl rfl rfl (Nat.le_of_ble_eq_true rfl) dX6_fits_62) ?_
      refine ww_aload_n C dX6_fits_65 rfl 5 rfl ?_
      refine ww_iload_n C dX6_fits_66 rfl 7 rfl ?_
      refine ww_iload C dX6_fits_67 2 rfl ?_
      refine ww_calliF (cx_V (n := 2) (As := [.int (nI q), .int (nI a)]) C  (c_yOf_i (kL K) G hA _ q n hq hsq h3 hn a (by omega)) gX6_fits_X6_yOf rfl ⟨rfl, rfl⟩ (by decide +kernel) (by decide) rfl (by decide) rfl rfl rfl (Nat.le_of_ble_eq_true rfl) dX6_fits_69) ?_
      refine ww_aload_n C dX6_fits_72 rfl 5 rfl ?_
      refine ww_iload_n C dX6_fits_73 rfl 7 rfl ?_
      refine ww_iload C dX6_fits_74 1 rfl ?_
      refine ww_calliF (cx_V (n := 2) (As := [.int (nI q), .int (nI b)]) C  (c_xOf_i (kL K) G hA _ q n hq hsq h3 hn b (by omega)) gX6_fits_X6_xOf rfl ⟨rfl, rfl⟩ (by decide +kernel) (by decide) rfl (by decide) rfl rfl rfl (Nat.le_of_ble_eq_true rfl) dX6_fits_76) ?_
      refine ww_aload_n C dX6_fits_79 rfl 5 rfl ?_
      refine ww_iload_n C dX6_fits_80 rfl 7 rfl ?_
      refine ww_iload C dX6_fits_81 1 rfl ?_
      refine ww_calliF (cx_V (n := 2) (As := [.int (nI q), .int (nI b)]) C  (c_yOf_i (kL K) G hA _ q n hq hsq h3 hn b (by omega)) gX6_fits_X6_yOf rfl ⟨rfl, rfl⟩ (by decide +kernel) (by decide) rfl (by decide) rfl rfl rfl (Nat.le_of_ble_eq_true rfl) dX6_fits_83) ?_
      refine ww_aload_n C dX6_fits_86 rfl 5 rfl ?_
      refine ww_iload_n C dX6_fits_87 rfl 7 rfl ?_
      refine ww_iload C dX6_fits_88 0 rfl ?_
      refine ww_calliF (cx_V (n := 2) (As := [.int (nI q), .int (nI c)]) C  (c_xOf_i (kL K) G hA _ q n hq hsq h3 hn c (by omega)) gX6_fits_X6_xOf rfl ⟨rfl, rfl⟩ (by decide +kernel) (by decide) rfl (by decide) rfl rfl rfl (Nat.le_of_ble_eq_true rfl) dX6_fits_90) ?_
      refine ww_aload_n C dX6_fits_93 rfl 5 rfl ?_
      refine ww_iload_n C dX6_fits_94 rfl 7 rfl ?_
      refine ww_iload C dX6_fits_95 0 rfl ?_
      refine ww_calliF (cx_V (n := 2) (As := [.int (nI q), .int (nI c)]) C  (c_yOf_i (kL K) G hA _ q n hq hsq h3 hn c (by omega)) gX6_fits_X6_yOf rfl ⟨rfl, rfl⟩ (by decide +kernel) (by decide) rfl (by decide) rfl rfl rfl (Nat.le_of_ble_eq_true rfl) dX6_fits_97) ?_
      refine ww_calliF (cx_S (n := 6) (As := [.int (σ 34 0 (14 * q + a)), .int (σ 35 0 (14 * q + a)), .int (σ 34 0 (14 * q + b)), .int (σ 35 0 (14 * q + b)), .int (σ 34 0 (14 * q + c)), .int (σ 35 0 (14 * q + c))]) C  (c_X6_turn (kL K) G hA _ _ _ _ _ _ _) gX6_fits_X6_turn rfl ⟨rfl, rfl⟩ (by decide +kernel) (by decide) rfl rfl (Nat.le_of_ble_eq_true rfl) dX6_fits_100) ?_
      refine ww_istore (fun y1 => [(11, .int (y1)), (10, .int (nI c)), (9, .int (nI b)), (8, .int (nI a)), (7, .int (nI i)), (6, .int (nI n)), (0, .ref (gA G 30 (0))), (1, .int (nI p)), (2, .int (nI q)), (3, .int (nI w)), (4, .int (1)), (5, .int (0))]) C dX6_fits_103 (by decide) (fun _ => rfl) (fun y1 ey1 => ?_)
      rw [ey1]; clear ey1 y1
      refine ww_aload_n C dX6_fits_105 rfl 6 rfl ?_
      refine ww_iload_n C dX6_fits_106 rfl 7 rfl ?_
      refine ww_iload C dX6_fits_107 4 rfl ?_
      refine ww_calliF (cx_V (n := 2) (As := [.int (nI p), .int (nI i)]) C  (c_xOf_i (kL K) G hA _ p n hp hs h3 hn i (by omega)) gX6_fits_X6_xOf rfl ⟨rfl, rfl⟩ (by decide +kernel) (by decide) rfl (by decide) rfl rfl rfl (Nat.le_of_ble_eq_true rfl) dX6_fits_109) ?_
      refine ww_aload_n C dX6_fits_112 rfl 6 rfl ?_
      refine ww_iload_n C dX6_fits_113 rfl 7 rfl ?_
      refine ww_iload C dX6_fits_114 4 rfl ?_
      refine ww_calliF (cx_V (n := 2) (As := [.int (nI p), .int (nI i)]) C  (c_yOf_i (kL K) G hA _ p n hp hs h3 hn i (by omega)) gX6_fits_X6_yOf rfl ⟨rfl, rfl⟩ (by decide +kernel) (by decide) rfl (by decide) rfl rfl rfl (Nat.le_of_ble_eq_true rfl) dX6_fits_116) ?_
      refine ww_aload_n C dX6_fits_119 rfl 6 rfl ?_
      refine ww_iload_n C dX6_fits_120 rfl 7 rfl ?_
      refine ww_iload C dX6_fits_121 4 rfl ?_
      refine ww_iconst (v := 1) C dX6_fits_123 rfl ?_
      refine ww_iadd C dX6_fits_124 ?_
      rw [show (nI i) + (1) = nI (i + 1) from nI_add (i) (1)]
      refine ww_calliF (cx_V (n := 2) (As := [.int (nI p), .int (nI (i + 1))]) C  (c_xOf_s (kL K) G hA _ p n hp hs h3 hn i (by omega)) gX6_fits_X6_xOf rfl ⟨rfl, rfl⟩ (by decide +kernel) (by decide) rfl (by decide) rfl rfl rfl (Nat.le_of_ble_eq_true rfl) dX6_fits_125) ?_
      refine ww_aload_n C dX6_fits_128 rfl 6 rfl ?_
      refine ww_iload_n C dX6_fits_129 rfl 7 rfl ?_
      refine ww_iload C dX6_fits_130 4 rfl ?_
      refine ww_iconst (v := 1) C dX6_fits_132 rfl ?_
      refine ww_iadd C dX6_fits_133 ?_
      rw [show (nI i) + (1) = nI (i + 1) from nI_add (i) (1)]
      refine ww_calliF (cx_V (n := 2) (As := [.int (nI p), .int (nI (i + 1))]) C  (c_yOf_s (kL K) G hA _ p n hp hs h3 hn i (by omega)) gX6_fits_X6_yOf rfl ⟨rfl, rfl⟩ (by decide +kernel) (by decide) rfl (by decide) rfl rfl rfl (Nat.le_of_ble_eq_true rfl) dX6_fits_134) ?_
      refine ww_aload_n C dX6_fits_137 rfl 6 rfl ?_
      refine ww_iload_n C dX6_fits_138 rfl 7 rfl ?_
      refine ww_iload C dX6_fits_139 4 rfl ?_
      refine ww_iconst (v := 2) C dX6_fits_141 rfl ?_
      refine ww_iadd C dX6_fits_142 ?_
      rw [show (nI i) + (2) = nI (i + 2) from nI_add (i) (2)]
      refine ww_calliF (cx_V (n := 2) (As := [.int (nI p), .int (nI (i + 2))]) C  (c_xOf_ss (kL K) G hA _ p n hp hs h3 hn i (by omega)) gX6_fits_X6_xOf rfl ⟨rfl, rfl⟩ (by decide +kernel) (by decide) rfl (by decide) rfl rfl rfl (Nat.le_of_ble_eq_true rfl) dX6_fits_143) ?_
      refine ww_aload_n C dX6_fits_146 rfl 6 rfl ?_
      refine ww_iload_n C dX6_fits_147 rfl 7 rfl ?_
      refine ww_iload C dX6_fits_148 4 rfl ?_
      refine ww_iconst (v := 2) C dX6_fits_150 rfl ?_
      refine ww_iadd C dX6_fits_151 ?_
      rw [show (nI i) + (2) = nI (i + 2) from nI_add (i) (2)]
      refine ww_calliF (cx_V (n := 2) (As := [.int (nI p), .int (nI (i + 2))]) C  (c_yOf_ss (kL K) G hA _ p n hp hs h3 hn i (by omega)) gX6_fits_X6_yOf rfl ⟨rfl, rfl⟩ (by decide +kernel) (by decide) rfl (by decide) rfl rfl rfl (Nat.le_of_ble_eq_true rfl) dX6_fits_152) ?_
      refine ww_calliF (cx_S (n := 6) (As := [.int (σ 34 0 (14 * p + i)), .int (σ 35 0 (14 * p + i)), .int (σ 34 0 (14 * p + af n i)), .int (σ 35 0 (14 * p + af n i)), .int (σ 34 0 (14 * p + af n (af n i))), .int (σ 35 0 (14 * p + af n (af n i)))]) C  (c_X6_turn (kL K) G hA _ _ _ _ _ _ _) gX6_fits_X6_turn rfl ⟨rfl, rfl⟩ (by decide +kernel) (by decide) rfl rfl (Nat.le_of_ble_eq_true rfl) dX6_fits_155) ?_
      refine ww_istore (fun y2 => [(12, .int (y2)), (11, .int (tnR (σ 34 0 (14 * q + a)) (σ 35 0 (14 * q + a)) (σ 34 0 (14 * q + b)) (σ 35 0 (14 * q + b)) (σ 34 0 (14 * q + c)) (σ 35 0 (14 * q + c)))), (10, .int (nI c)), (9, .int (nI b)), (8, .int (nI a)), (7, .int (nI i)), (6, .int (nI n)), (0, .ref (gA G 30 (0))), (1, .int (nI p)), (2, .int (nI q)), (3, .int (nI w)), (4, .int (1)), (5, .int (0))]) C dX6_fits_158 (by decide) (fun _ => rfl) (fun y2 ey2 => ?_)
      rw [ey2]; clear ey2 y2
      refine ww_aload_n C dX6_fits_160 rfl 7 rfl ?_
      refine ww_iload_n C dX6_fits_161 rfl 9 rfl ?_
      refine ww_iload C dX6_fits_162 4 rfl ?_
      refine ww_iload C dX6_fits_164 3 rfl ?_
      refine ww_calliF (cx_V (n := 3) (As := [.int (nI q), .int (nI a), .int (nI b)]) C  (c_X6_square (kL K) G hA _ q n hq hsq h3 hn a b (by omega) (by omega)) gX6_fits_X6_square rfl ⟨rfl, rfl⟩ (by decide +kernel) (by decide) rfl (by decide) rfl rfl rfl (Nat.le_of_ble_eq_true rfl) dX6_fits_166) ?_
      refine ww_aload_n C dX6_fits_169 rfl 7 rfl ?_
      refine ww_iload_n C dX6_fits_170 rfl 8 rfl ?_
      refine ww_iload C dX6_fits_171 5 rfl ?_
      refine ww_iload C dX6_fits_173 5 rfl ?_
      refine ww_iconst (v := 1) C dX6_fits_175 rfl ?_
      refine ww_iadd C dX6_fits_176 ?_
      rw [show (nI i) + (1) = nI (i + 1) from nI_add (i) (1)]
      refine ww_calliF (cx_V (n := 3) (As := [.int (nI p), .int (nI i), .int (nI (i + 1))]) C  (c_sq_s (kL K) G hA _ p n hp hs h3 hn i (by omega)) gX6_fits_X6_square rfl ⟨rfl, rfl⟩ (by decide +kernel) (by decide) rfl (by decide) rfl rfl rfl (Nat.le_of_ble_eq_true rfl) dX6_fits_177) ?_
      refine ww_icmp_ne 210 C dX6_fits_180 (by decide) (fun h180 => ?_) (fun h180 => ?_)
      · refine ww_iconst (v := 0) C dX6_fits_210 rfl ?_
        refine ww_istore (fun y3 => [(13, .int (y3)), (12, .int (tnR (σ 34 0 (14 * p + i)) (σ 35 0 (14 * p + i)) (σ 34 0 (14 * p + af n i)) (σ 35 0 (14 * p + af n i)) (σ 34 0 (14 * p + af n (af n i))) (σ 35 0 (14 * p + af n (af n i))))), (11, .int (tnR (σ 34 0 (14 * q + a)) (σ 35 0 (14 * q + a)) (σ 34 0 (14 * q + b)) (σ 35 0 (14 * q + b)) (σ 34 0 (14 * q + c)) (σ 35 0 (14 * q + c)))), (10, .int (nI c)), (9, .int (nI b)), (8, .int (nI a)), (7, .int (nI i)), (6, .int (nI n)), (0, .ref (gA G 30 (0))), (1, .int (nI p)), (2, .int (nI q)), (3, .int (nI w)), (4, .int (1)), (5, .int (0))]) C dX6_fits_211 (by decide) (fun _ => rfl) (fun y3 ey3 => ?_)
        obtain rfl : y3 = nI 0 := (ey3.trans (by decide))
        refine ww_iload C dX6_fits_213 0 rfl ?_
        refine ww_if_eq 237 C dX6_fits_215 (by decide) (fun h215 => ?_) (fun h215 => ?_)
        · have g215 : 0 = 0 := (cv_eq (a := 0) (b := 0) rfl (by decide) (by omega) (by omega)).mp h215
          refine ww_iconst (v := 0) C dX6_fits_237 rfl ?_
          refine ww_zret C dX6_fits_238 (by first | rfl | exact bI_n) ?_
          exact ⟨by rw [fitR, ← hv, fndN_t (by omega) (show (corRN n (fun i => σ 34 0 (14 * p + i)) (fun i => σ 35 0 (14 * p + i)) (fun i => σ 34 0 (14 * q + i)) (fun i => σ 35 0 (14 * q + i)) true false w) i = true from congrArg (!·) (show corR n _ _ _ _ _ _ _ _ _ = false from by rw [corR, ← ha, ← hb, ← hc]; exact nand1 (decide_eq_false h180)))]; rfl, rfl⟩
        · have g215 : ¬ 0 = 0 := fun q => h215 ((cv_eq (a := 0) (b := 0) rfl (by decide) (by omega) (by omega)).mpr q)
          exact absurd g215 (by decide)
      · refine ww_aload_n C dX6_fits_183 rfl 7 rfl ?_
        refine ww_iload_n C dX6_fits_184 rfl 9 rfl ?_
        refine ww_iload C dX6_fits_185 4 rfl ?_
        refine ww_iload C dX6_fits_187 2 rfl ?_
        refine ww_calliF (cx_V (n := 3) (As := [.int (nI q), .int (nI a), .int (nI c)]) C  (c_X6_square (kL K) G hA _ q n hq hsq h3 hn a c (by omega) (by omega)) gX6_fits_X6_square rfl ⟨rfl, rfl⟩ (by decide +kernel) (by decide) rfl (by decide) rfl rfl rfl (Nat.le_of_ble_eq_true rfl) dX6_fits_189) ?_
        refine ww_aload_n C dX6_fits_192 rfl 7 rfl ?_
        refine ww_iload_n C dX6_fits_193 rfl 8 rfl ?_
        refine ww_iload C dX6_fits_194 5 rfl ?_
        refine ww_iload C dX6_fits_196 5 rfl ?_
        refine ww_iconst (v := 2) C dX6_fits_198 rfl ?_
        refine ww_iadd C dX6_fits_199 ?_
        rw [show (nI i) + (2) = nI (i + 2) from nI_add (i) (2)]
        refine ww_calliF (cx_V (n := 3) (As := [.int (nI p), .int (nI i), .int (nI (i + 2))]) C  (c_sq_ss (kL K) G hA _ p n hp hs h3 hn i (by omega)) gX6_fits_X6_square rfl ⟨rfl, rfl⟩ (by decide +kernel) (by decide) rfl (by decide) rfl rfl rfl (Nat.le_of_ble_eq_true rfl) dX6_fits_200) ?_
        refine ww_icmp_ne 210 C dX6_fits_203 (by decide) (fun h203 => ?_) (fun h203 => ?_)
        · refine ww_iconst (v := 0) C dX6_fits_210 rfl ?_
          refine ww_istore (fun y4 => [(13, .int (y4)), (12, .int (tnR (σ 34 0 (14 * p + i)) (σ 35 0 (14 * p + i)) (σ 34 0 (14 * p + af n i)) (σ 35 0 (14 * p + af n i)) (σ 34 0 (14 * p + af n (af n i))) (σ 35 0 (14 * p + af n (af n i))))), (11, .int (tnR (σ 34 0 (14 * q + a)) (σ 35 0 (14 * q + a)) (σ 34 0 (14 * q + b)) (σ 35 0 (14 * q + b)) (σ 34 0 (14 * q + c)) (σ 35 0 (14 * q + c)))), (10, .int (nI c)), (9, .int (nI b)), (8, .int (nI a)), (7, .int (nI i)), (6, .int (nI n)), (0, .ref (gA G 30 (0))), (1, .int (nI p)), (2, .int (nI q)), (3, .int (nI w)), (4, .int (1)), (5, .int (0))]) C dX6_fits_211 (by decide) (fun _ => rfl) (fun y4 ey4 => ?_)
          obtain rfl : y4 = nI 0 := (ey4.trans (by decide))
          refine ww_iload C dX6_fits_213 0 rfl ?_
          refine ww_if_eq 237 C dX6_fits_215 (by decide) (fun h215 => ?_) (fun h215 => ?_)
          · have g215 : 0 = 0 := (cv_eq (a := 0) (b := 0) rfl (by decide) (by omega) (by omega)).mp h215
            refine ww_iconst (v := 0) C dX6_fits_237 rfl ?_
            refine ww_zret C dX6_fits_238 (by first | rfl | exact bI_n) ?_
            exact ⟨by rw [fitR, ← hv, fndN_t (by omega) (show (corRN n (fun i => σ 34 0 (14 * p + i)) (fun i => σ 35 0 (14 * p + i)) (fun i => σ 34 0 (14 * q + i)) (fun i => σ 35 0 (14 * q + i)) true false w) i = true from congrArg (!·) (show corR n _ _ _ _ _ _ _ _ _ = false from by rw [corR, ← ha, ← hb, ← hc]; exact nand2 (decide_eq_false h203)))]; rfl, rfl⟩
          · have g215 : ¬ 0 = 0 := fun q => h215 ((cv_eq (a := 0) (b := 0) rfl (by decide) (by omega) (by omega)).mpr q)
            exact absurd g215 (by decide)
        · refine ww_iconst (v := 1) C dX6_fits_206 rfl ?_
          refine ww_goto 211 C dX6_fits_207 (by decide) ?_
          refine ww_istore (fun y5 => [(13, .int (y5)), (12, .int (tnR (σ 34 0 (14 * p + i)) (σ 35 0 (14 * p + i)) (σ 34 0 (14 * p + af n i)) (σ 35 0 (14 * p + af n i)) (σ 34 0 (14 * p + af n (af n i))) (σ 35 0 (14 * p + af n (af n i))))), (11, .int (tnR (σ 34 0 (14 * q + a)) (σ 35 0 (14 * q + a)) (σ 34 0 (14 * q + b)) (σ 35 0 (14 * q + b)) (σ 34 0 (14 * q + c)) (σ 35 0 (14 * q + c)))), (10, .int (nI c)), (9, .int (nI b)), (8, .int (nI a)), (7, .int (nI i)), (6, .int (nI n)), (0, .ref (gA G 30 (0))), (1, .int (nI p)), (2, .int (nI q)), (3, .int (nI w)), (4, .int (1)), (5, .int (0))]) C dX6_fits_211 (by decide) (fun _ => rfl) (fun y5 ey5 => ?_)
          obtain rfl : y5 = nI 1 := (ey5.trans (by decide))
          refine ww_iload C dX6_fits_213 0 rfl ?_
          refine ww_if_eq 237 C dX6_fits_215 (by decide) (fun h215 => ?_) (fun h215 => ?_)
          · have g215 : 1 = 0 := (cv_eq (a := 1) (b := 0) rfl (by decide) (by omega) (by omega)).mp h215
            exact absurd g215 (by decide)
          · have g215 : ¬ 1 = 0 := fun q => h215 ((cv_eq (a := 1) (b := 0) rfl (by decide) (by omega) (by omega)).mpr q)
            refine ww_iload C dX6_fits_218 2 rfl ?_
            refine ww_iload C dX6_fits_220 13 rfl ?_
            refine ww_if_eq 232 C dX6_fits_222 (by decide) (fun h222 => ?_) (fun h222 => ?_)
            · have g222 : 0 = 0 := (cv_eq (a := 0) (b := 0) (by decide) (by decide) (by omega) (by omega)).mp h222
              refine ww_iload C dX6_fits_232 1 rfl ?_
              refine ww_icmp_eq 239 C dX6_fits_234 (by decide) (fun h234 => ?_) (fun h234 => ?_)
              · refine ww_iinc (q := 6) (fun y6 => [(7, .int (y6)), (13, .int (nI 1)), (12, .int (tnR (σ 34 0 (14 * p + i)) (σ 35 0 (14 * p + i)) (σ 34 0 (14 * p + af n i)) (σ 35 0 (14 * p + af n i)) (σ 34 0 (14 * p + af n (af n i))) (σ 35 0 (14 * p + af n (af n i))))), (11, .int (tnR (σ 34 0 (14 * q + a)) (σ 35 0 (14 * q + a)) (σ 34 0 (14 * q + b)) (σ 35 0 (14 * q + b)) (σ 34 0 (14 * q + c)) (σ 35 0 (14 * q + c)))), (10, .int (nI c)), (9, .int (nI b)), (8, .int (nI a)), (6, .int (nI n)), (0, .ref (gA G 30 (0))), (1, .int (nI p)), (2, .int (nI q)), (3, .int (nI w)), (4, .int (1)), (5, .int (0))]) C dX6_fits_239 rfl (by decide) (fun _ => rfl) (fun y6 ey6 => ?_)
                obtain rfl : y6 = nI (i + 1) := ninc rfl ey6
                refine ww_goto 11 C dX6_fits_242 (by decide) ?_
                exact ww_sub [0, 7, 8, 9, 10, 11, 12, 13] rfl (ih (i + 1) (by omega) (by omega) (by rw [← fndN_f (by omega) (show (corRN n (fun i => σ 34 0 (14 * p + i)) (fun i => σ 35 0 (14 * p + i)) (fun i => σ 34 0 (14 * q + i)) (fun i => σ 35 0 (14 * q + i)) true false w) i = false from congrArg (!·) (show corR n _ _ _ _ _ _ _ _ _ = true from by rw [corR, ← ha, ← hb, ← hc]; exact and3 (decide_eq_true h180) (decide_eq_true h203) (decide_eq_true h234)))]; exact hv))
              · refine ww_iconst (v := 0) C dX6_fits_237 rfl ?_
                refine ww_zret C dX6_fits_238 (by first | rfl | exact bI_n) ?_
                exact ⟨by rw [fitR, ← hv, fndN_t (by omega) (show (corRN n (fun i => σ 34 0 (14 * p + i)) (fun i => σ 35 0 (14 * p + i)) (fun i => σ 34 0 (14 * q + i)) (fun i => σ 35 0 (14 * q + i)) true false w) i = true from congrArg (!·) (show corR n _ _ _ _ _ _ _ _ _ = false from by rw [corR, ← ha, ← hb, ← hc]; exact nand3 (decide_eq_false h234)))]; rfl, rfl⟩
            · have g222 : ¬ 0 = 0 := fun q => h222 ((cv_eq (a := 0) (b := 0) (by decide) (by decide) (by omega) (by omega)).mpr q)
              exact absurd g222 (by decide)
set_option maxHeartbeats 4000000 in
set_option maxRecDepth 100000 in
theorem c_X6_fits_10 (l : Launch) (G : Gx) (hA : wa G) (σ : Sg) (p q n : Nat) (hp : p < 8) (hs : σ 33 0 p = nI n) (hq : q < 8) (hsq : σ 33 0 q = nI n) (h3 : 3 ≤ n) (hn : n ≤ 14) (w : Nat) (hw : w < n) : CtI l yX6_fits wsX6_fits (rmd 3) G [.ref (gA G 30 (0)), .int (nI p), .int (nI q), .int (nI w), .int (1), .int (0)] σ (fun r σ2 => r = bI (fitR n (fun i => σ 34 0 (14 * p + i)) (fun i => σ 35 0 (14 * p + i)) (fun i => σ 34 0 (14 * q + i)) (fun i => σ 35 0 (14 * q + i)) true false w) ∧ σ2 = σ) := by
  refine ct_i (maxL := 14) (ret := (some .boolean)) (by decide) rfl (Nat.le_of_ble_eq_true rfl) hA (fun K hl C => ?_)
  subst hl
  change WW K G _ _ σ [(0, .ref (gA G 30 (0))), (1, .int (nI p)), (2, .int (nI q)), (3, .int (nI w)), (4, .int (1)), (5, .int (0))] 0 []
  refine ww_aload_n C dX6_fits_0 rfl 0 rfl ?_
  refine ww_gr (j := 0) (k := 30) (f := 4) C rfl rfl (by decide) rfl in_X6_fits_X6 (by decide) lk_X6_fits_16 dX6_fits_1 rfl ?_
  refine ww_iload_n C dX6_fits_4 rfl 1 rfl ?_
  refine ww_iald (k := 33) (j := p) C rfl (by decide) (by decide) dX6_fits_5 rfl hp ?_
  rw [hs]
  refine ww_istore (fun y1 => [(6, .int (y1)), (0, .ref (gA G 30 (0))), (1, .int (nI p)), (2, .int (nI q)), (3, .int (nI w)), (4, .int (1)), (5, .int (0))]) C dX6_fits_6 (by decide) (fun _ => rfl) (fun y1 ey1 => ?_)
  obtain rfl : y1 = nI n := ey1
  refine ww_iconst (v := 0) C dX6_fits_8 rfl ?_
  refine ww_istore (fun y2 => [(7, .int (y2)), (6, .int (nI n)), (0, .ref (gA G 30 (0))), (1, .int (nI p)), (2, .int (nI q)), (3, .int (nI w)), (4, .int (1)), (5, .int (0))]) C dX6_fits_9 (by decide) (fun _ => rfl) (fun y2 ey2 => ?_)
  obtain rfl : y2 = nI 0 := (ey2.trans (by decide))
  exact ww_sub [0, 1, 2, 3, 4, 5, 6, 7] rfl (lp_X6_fits_10 hA C σ p q n hp hs hq hsq h3 hn w hw (n + 1) 0 (by omega) (by omega) rfl)
set_option maxHeartbeats 4000000 in
set_option maxRecDepth 100000 in
theorem lp_X6_fits_11 {K : Kx} {G : Gx} (hA : wa G) (C : CX K G cX6_fits 14 RX6 wsX6_fits (rmd 3) (some .boolean)) (σ : Sg) (p q n : Nat) (hp : p < 8) (hs : σ 33 0 p = nI n) (hq : q < 8) (hsq : σ 33 0 q = nI n) (h3 : 3 ≤ n) (hn : n ≤ 14) (w : Nat) (hw : w < n) : ∀ (f i : Nat), n - i < f → (i ≤ n) → (fndN (corRN n (fun i => σ 34 0 (14 * p + i)) (fun i => σ 35 0 (14 * p + i)) (fun i => σ 34 0 (14 * q + i)) (fun i => σ 35 0 (14 * q + i)) true true w) i n = fndN (corRN n (fun i => σ 34 0 (14 * p + i)) (fun i => σ 35 0 (14 * p + i)) (fun i => σ 34 0 (14 * q + i)) (fun i => σ 35 0 (14 * q + i)) true true w) 0 n) → WW K G 14 (QI K G (fun r σ2 => r = bI (fitR n (fun i => σ 34 0 (14 * p + i)) (fun i => σ 35 0 (14 * p + i)) (fun i => σ 34 0 (14 * q + i)) (fun i => σ 35 0 (14 * q + i)) true true w) ∧ σ2 = σ)) σ [(7, .int (nI i)), (6, .int (nI n)), (0, .ref (gA G 30 (0))), (1, .int (nI p)), (2, .int (nI q)), (3, .int (nI w)), (4, .int (1)), (5, .int (1))] 11 [] := by
  intro f
  induction f with
  | zero => intro i  h; exact absurd h (Nat.not_lt_zero _)
  | succ f ih =>
    intro i  hf hi hv
    refine ww_iload C dX6_fits_11 0 rfl ?_
    refine ww_iload C dX6_fits_13 1 rfl ?_
    refine ww_icmp_ge 245 C dX6_fits_15 (by decide) (fun h15 => ?_) (fun h15 => ?_)
    · have g15 : n ≤ i := (cv_le (a := n) (b := i) rfl rfl (by omega) (by omega)).mp h15
      refine ww_iconst (v := 1) C dX6_fits_245 rfl ?_
      refine ww_zret C dX6_fits_246 (by first | rfl | exact bI_n) ?_
      exact ⟨by rw [fitR, ← hv, fndN_end g15]; rfl, rfl⟩
    · have g15 : ¬ n ≤ i := fun q => h15 ((cv_le (a := n) (b := i) rfl rfl (by omega) (by omega)).mpr q)
      refine ww_aload_n C dX6_fits_18 rfl 2 rfl ?_
      refine ww_iload_n C dX6_fits_19 rfl 4 rfl ?_
      refine ww_iload_n C dX6_fits_20 rfl 5 rfl ?_
      refine ww_iload C dX6_fits_21 0 rfl ?_
      refine ww_iload C dX6_fits_23 6 rfl ?_
      refine ww_calliF (cx_V (n := 4) (As := [.int (nI q), .int (nI w), .int (nI i), .int (1)]) C  (c_X6_go_1 (kL K) G hA _ q n hq hsq h3 hn w i (by omega) (by omega)) gX6_fits_X6_go rfl ⟨rfl, rfl⟩ (by decide +kernel) (by decide) rfl (by decide) rfl rfl rfl (Nat.le_of_ble_eq_true rfl) dX6_fits_25) ?_
      refine ww_istore (fun ya => [(8, .int (ya)), (7, .int (nI i)), (6, .int (nI n)), (0, .ref (gA G 30 (0))), (1, .int (nI p)), (2, .int (nI q)), (3, .int (nI w)), (4, .int (1)), (5, .int (1))]) C dX6_fits_28 (by decide) (fun _ => rfl) (fun ya eya => ?_)
      obtain ⟨a, ha⟩ : ∃ z, z = goR true n w i := ⟨_, rfl⟩
      have ka : a < n := by rw [ha]; exact Nat.mod_lt _ (by omega)
      obtain rfl : ya = nI a := eya.trans (congrArg nI ha.symm)
      refine ww_aload_n C dX6_fits_30 rfl 3 rfl ?_
      refine ww_iload_n C dX6_fits_31 rfl 5 rfl ?_
      refine ww_iload_n C dX6_fits_32 rfl 6 rfl ?_
      refine ww_iload C dX6_fits_33 1 rfl ?_
      refine ww_iconst (v := 1) C dX6_fits_35 rfl ?_
      refine ww_iadd C dX6_fits_36 ?_
      rw [show (nI i) + (1) = nI (i + 1) from nI_add (i) (1)]
      refine ww_iload C dX6_fits_37 7 rfl ?_
      refine ww_calliF (cx_V (n := 4) (As := [.int (nI q), .int (nI w), .int (nI (i + 1)), .int (1)]) C  (c_X6_go_1 (kL K) G hA _ q n hq hsq h3 hn w (i + 1) (by omega) (by omega)) gX6_fits_X6_go rfl ⟨rfl, rfl⟩ (by decide +kernel) (by decide) rfl (by decide) rfl rfl rfl (Nat.le_of_ble_eq_true rfl) dX6_fits_39) ?_
      refine ww_istore (fun yb => [(9, .int (yb)), (8, .int (nI a)), (7, .int (nI i)), (6, .int (nI n)), (0, .ref (gA G 30 (0))), (1, .int (nI p)), (2, .int (nI q)), (3, .int (nI w)), (4, .int (1)), (5, .int (1))]) C dX6_fits_42 (by decide) (fun _ => rfl) (fun yb eyb => ?_)
      obtain ⟨b, hb⟩ : ∃ z, z = goR true n w (i + 1) := ⟨_, rfl⟩
      have kb : b < n := by rw [hb]; exact Nat.mod_lt _ (by omega)
      obtain rfl : yb = nI b := eyb.trans (congrArg nI hb.symm)
      refine ww_aload_n C dX6_fits_44 rfl 4 rfl ?_
      refine ww_iload_n C dX6_fits_45 rfl 6 rfl ?_
      refine ww_iload_n C dX6_fits_46 rfl 7 rfl ?_
      refine ww_iload C dX6_fits_47 2 rfl ?_
      refine ww_iconst (v := 2) C dX6_fits_49 rfl ?_
      refine ww_iadd C dX6_fits_50 ?_
      rw [show (nI i) + (2) = nI (i + 2) from nI_add (i) (2)]
      refine ww_iload C dX6_fits_51 8 rfl ?_
      refine ww_calliF (cx_V (n := 4) (As := [.int (nI q), .int (nI w), .int (nI (i + 2)), .int (1)]) C  (c_X6_go_1 (kL K) G hA _ q n hq hsq h3 hn w (i + 2) (by omega) (by omega)) gX6_fits_X6_go rfl ⟨rfl, rfl⟩ (by decide +kernel) (by decide) rfl (by decide) rfl rfl rfl (Nat.le_of_ble_eq_true rfl) dX6_fits_53) ?_
      refine ww_istore (fun yc => [(10, .int (yc)), (9, .int (nI b)), (8, .int (nI a)), (7, .int (nI i)), (6, .int (nI n)), (0, .ref (gA G 30 (0))), (1, .int (nI p)), (2, .int (nI q)), (3, .int (nI w)), (4, .int (1)), (5, .int (1))]) C dX6_fits_56 (by decide) (fun _ => rfl) (fun yc eyc => ?_)
      obtain ⟨c, hc⟩ : ∃ z, z = goR true n w (i + 2) := ⟨_, rfl⟩
      have kc : c < n := by rw [hc]; exact Nat.mod_lt _ (by omega)
      obtain rfl : yc = nI c := eyc.trans (congrArg nI hc.symm)
      refine ww_aload_n C dX6_fits_58 rfl 5 rfl ?_
      refine ww_iload_n C dX6_fits_59 rfl 7 rfl ?_
      refine ww_iload C dX6_fits_60 2 rfl ?_
      refine ww_calliF (cx_V (n := 2) (As := [.int (nI q), .int (nI a)]) C  (c_xOf_i (kL K) G hA _ q n hq hsq h3 hn a (by omega)) gX6_fits_X6_xOf rfl ⟨rfl, rfl⟩ (by decide +kernel) (by decide) rfl (by decide) rfl rfl rfl (Nat.le_of_ble_eq_true rfl) dX6_fits_62) ?_
      refine ww_aload_n C dX6_fits_65 rfl 5 rfl ?_
      refine ww_iload_n C dX6_fits_66 rfl 7 rfl ?_
      refine ww_iload C dX6_fits_67 2 rfl ?_
      refine ww_calliF (cx_V (n := 2) (As := [.int (nI q), .int (nI a)]) C  (c_yOf_i (kL K) G hA _ q n hq hsq h3 hn a (by omega)) gX6_fits_X6_yOf rfl ⟨rfl, rfl⟩ (by decide +kernel) (by decide) rfl (by decide) rfl rfl rfl (Nat.le_of_ble_eq_true rfl) dX6_fits_69) ?_
      refine ww_aload_n C dX6_fits_72 rfl 5 rfl ?_
      refine ww_iload_n C dX6_fits_73 rfl 7 rfl ?_
      refine ww_iload C dX6_fits_74 1 rfl ?_
      refine ww_calliF (cx_V (n := 2) (As := [.int (nI q), .int (nI b)]) C  (c_xOf_i (kL K) G hA _ q n hq hsq h3 hn b (by omega)) gX6_fits_X6_xOf rfl ⟨rfl, rfl⟩ (by decide +kernel) (by decide) rfl (by decide) rfl rfl rfl (Nat.le_of_ble_eq_true rfl) dX6_fits_76) ?_
      refine ww_aload_n C dX6_fits_79 rfl 5 rfl ?_
      refine ww_iload_n C dX6_fits_80 rfl 7 rfl ?_
      refine ww_iload C dX6_fits_81 1 rfl ?_
      refine ww_calliF (cx_V (n := 2) (As := [.int (nI q), .int (nI b)]) C  (c_yOf_i (kL K) G hA _ q n hq hsq h3 hn b (by omega)) gX6_fits_X6_yOf rfl ⟨rfl, rfl⟩ (by decide +kernel) (by decide) rfl (by decide) rfl rfl rfl (Nat.le_of_ble_eq_true rfl) dX6_fits_83) ?_
      refine ww_aload_n C dX6_fits_86 rfl 5 rfl ?_
      refine ww_iload_n C dX6_fits_87 rfl 7 rfl ?_
      refine ww_iload C dX6_fits_88 0 rfl ?_
      refine ww_calliF (cx_V (n := 2) (As := [.int (nI q), .int (nI c)]) C  (c_xOf_i (kL K) G hA _ q n hq hsq h3 hn c (by omega)) gX6_fits_X6_xOf rfl ⟨rfl, rfl⟩ (by decide +kernel) (by decide) rfl (by decide) rfl rfl rfl (Nat.le_of_ble_eq_true rfl) dX6_fits_90) ?_
      refine ww_aload_n C dX6_fits_93 rfl 5 rfl ?_
      refine ww_iload_n C dX6_fits_94 rfl 7 rfl ?_
      refine ww_iload C dX6_fits_95 0 rfl ?_
      refine ww_calliF (cx_V (n := 2) (As := [.int (nI q), .int (nI c)]) C  (c_yOf_i (kL K) G hA _ q n hq hsq h3 hn c (by omega)) gX6_fits_X6_yOf rfl ⟨rfl, rfl⟩ (by decide +kernel) (by decide) rfl (by decide) rfl rfl rfl (Nat.le_of_ble_eq_true rfl) dX6_fits_97) ?_
      refine ww_calliF (cx_S (n := 6) (As := [.int (σ 34 0 (14 * q + a)), .int (σ 35 0 (14 * q + a)), .int (σ 34 0 (14 * q + b)), .int (σ 35 0 (14 * q + b)), .int (σ 34 0 (14 * q + c)), .int (σ 35 0 (14 * q + c))]) C  (c_X6_turn (kL K) G hA _ _ _ _ _ _ _) gX6_fits_X6_turn rfl ⟨rfl, rfl⟩ (by decide +kernel) (by decide) rfl rfl (Nat.le_of_ble_eq_true rfl) dX6_fits_100) ?_
      refine ww_istore (fun y1 => [(11, .int (y1)), (10, .int (nI c)), (9, .int (nI b)), (8, .int (nI a)), (7, .int (nI i)), (6, .int (nI n)), (0, .ref (gA G 30 (0))), (1, .int (nI p)), (2, .int (nI q)), (3, .int (nI w)), (4, .int (1)), (5, .int (1))]) C dX6_fits_103 (by decide) (fun _ => rfl) (fun y1 ey1 => ?_)
      rw [ey1]; clear ey1 y1
      refine ww_aload_n C dX6_fits_105 rfl 6 rfl ?_
      refine ww_iload_n C dX6_fits_106 rfl 7 rfl ?_
      refine ww_iload C dX6_fits_107 4 rfl ?_
      refine ww_calliF (cx_V (n := 2) (As := [.int (nI p), .int (nI i)]) C  (c_xOf_i (kL K) G hA _ p n hp hs h3 hn i (by omega)) gX6_fits_X6_xOf rfl ⟨rfl, rfl⟩ (by decide +kernel) (by decide) rfl (by decide) rfl rfl rfl (Nat.le_of_ble_eq_true rfl) dX6_fits_109) ?_
      refine ww_aload_n C dX6_fits_112 rfl 6 rfl ?_
      refine ww_iload_n C dX6_fits_113 rfl 7 rfl ?_
      refine ww_iload C dX6_fits_114 4 rfl ?_
      refine ww_calliF (cx_V (n := 2) (As := [.int (nI p), .int (nI i)]) C  (c_yOf_i (kL K) G hA _ p n hp hs h3 hn i (by omega)) gX6_fits_X6_yOf rfl ⟨rfl, rfl⟩ (by decide +kernel) (by decide) rfl (by decide) rfl rfl rfl (Nat.le_of_ble_eq_true rfl) dX6_fits_116) ?_
      refine ww_aload_n C dX6_fits_119 rfl 6 rfl ?_
      refine ww_iload_n C dX6_fits_120 rfl 7 rfl ?_
      refine ww_iload C dX6_fits_121 4 rfl ?_
      refine ww_iconst (v := 1) C dX6_fits_123 rfl ?_
      refine ww_iadd C dX6_fits_124 ?_
      rw [show (nI i) + (1) = nI (i + 1) from nI_add (i) (1)]
      refine ww_calliF (cx_V (n := 2) (As := [.int (nI p), .int (nI (i + 1))]) C  (c_xOf_s (kL K) G hA _ p n hp hs h3 hn i (by omega)) gX6_fits_X6_xOf rfl ⟨rfl, rfl⟩ (by decide +kernel) (by decide) rfl (by decide) rfl rfl rfl (Nat.le_of_ble_eq_true rfl) dX6_fits_125) ?_
      refine ww_aload_n C dX6_fits_128 rfl 6 rfl ?_
      refine ww_iload_n C dX6_fits_129 rfl 7 rfl ?_
      refine ww_iload C dX6_fits_130 4 rfl ?_
      refine ww_iconst (v := 1) C dX6_fits_132 rfl ?_
      refine ww_iadd C dX6_fits_133 ?_
      rw [show (nI i) + (1) = nI (i + 1) from nI_add (i) (1)]
      refine ww_calliF (cx_V (n := 2) (As := [.int (nI p), .int (nI (i + 1))]) C  (c_yOf_s (kL K) G hA _ p n hp hs h3 hn i (by omega)) gX6_fits_X6_yOf rfl ⟨rfl, rfl⟩ (by decide +kernel) (by decide) rfl (by decide) rfl rfl rfl (Nat.le_of_ble_eq_true rfl) dX6_fits_134) ?_
      refine ww_aload_n C dX6_fits_137 rfl 6 rfl ?_
      refine ww_iload_n C dX6_fits_138 rfl 7 rfl ?_
      refine ww_iload C dX6_fits_139 4 rfl ?_
      refine ww_iconst (v := 2) C dX6_fits_141 rfl ?_
      refine ww_iadd C dX6_fits_142 ?_
      rw [show (nI i) + (2) = nI (i + 2) from nI_add (i) (2)]
      refine ww_calliF (cx_V (n := 2) (As := [.int (nI p), .int (nI (i + 2))]) C  (c_xOf_ss (kL K) G hA _ p n hp hs h3 hn i (by omega)) gX6_fits_X6_xOf rfl ⟨rfl, rfl⟩ (by decide +kernel) (by decide) rfl (by decide) rfl rfl rfl (Nat.le_of_ble_eq_true rfl) dX6_fits_143) ?_
      refine ww_aload_n C dX6_fits_146 rfl 6 rfl ?_
      refine ww_iload_n C dX6_fits_147 rfl 7 rfl ?_
      refine ww_iload C dX6_fits_148 4 rfl ?_
      refine ww_iconst (v := 2) C dX6_fits_150 rfl ?_
      refine ww_iadd C dX6_fits_151 ?_
      rw [show (nI i) + (2) = nI (i + 2) from nI_add (i) (2)]
      refine ww_calliF (cx_V (n := 2) (As := [.int (nI p), .int (nI (i + 2))]) C  (c_yOf_ss (kL K) G hA _ p n hp hs h3 hn i (by omega)) gX6_fits_X6_yOf rfl ⟨rfl, rfl⟩ (by decide +kernel) (by decide) rfl (by decide) rfl rfl rfl (Nat.le_of_ble_eq_true rfl) dX6_fits_152) ?_
      refine ww_calliF (cx_S (n := 6) (As := [.int (σ 34 0 (14 * p + i)), .int (σ 35 0 (14 * p + i)), .int (σ 34 0 (14 * p + af n i)), .int (σ 35 0 (14 * p + af n i)), .int (σ 34 0 (14 * p + af n (af n i))), .int (σ 35 0 (14 * p + af n (af n i)))]) C  (c_X6_turn (kL K) G hA _ _ _ _ _ _ _) gX6_fits_X6_turn rfl ⟨rfl, rfl⟩ (by decide +kernel) (by decide) rfl rfl (Nat.le_of_ble_eq_true rfl) dX6_fits_155) ?_
      refine ww_istore (fun y2 => [(12, .int (y2)), (11, .int (tnR (σ 34 0 (14 * q + a)) (σ 35 0 (14 * q + a)) (σ 34 0 (14 * q + b)) (σ 35 0 (14 * q + b)) (σ 34 0 (14 * q + c)) (σ 35 0 (14 * q + c)))), (10, .int (nI c)), (9, .int (nI b)), (8, .int (nI a)), (7, .int (nI i)), (6, .int (nI n)), (0, .ref (gA G 30 (0))), (1, .int (nI p)), (2, .int (nI q)), (3, .int (nI w)), (4, .int (1)), (5, .int (1))]) C dX6_fits_158 (by decide) (fun _ => rfl) (fun y2 ey2 => ?_)
      rw [ey2]; clear ey2 y2
      refine ww_aload_n C dX6_fits_160 rfl 7 rfl ?_
      refine ww_iload_n C dX6_fits_161 rfl 9 rfl ?_
      refine ww_iload C dX6_fits_162 4 rfl ?_
      refine ww_iload C dX6_fits_164 3 rfl ?_
      refine ww_calliF (cx_V (n := 3) (As := [.int (nI q), .int (nI a), .int (nI b)]) C  (c_X6_square (kL K) G hA _ q n hq hsq h3 hn a b (by omega) (by omega)) gX6_fits_X6_square rfl ⟨rfl, rfl⟩ (by decide +kernel) (by decide) rfl (by decide) rfl rfl rfl (Nat.le_of_ble_eq_true rfl) dX6_fits_166) ?_
      refine ww_aload_n C dX6_fits_169 rfl 7 rfl ?_
      refine ww_iload_n C dX6_fits_170 rfl 8 rfl ?_
      refine ww_iload C dX6_fits_171 5 rfl ?_
      refine ww_iload C dX6_fits_173 5 rfl ?_
      refine ww_iconst (v := 1) C dX6_fits_175 rfl ?_
      refine ww_iadd C dX6_fits_176 ?_
      rw [show (nI i) + (1) = nI (i + 1) from nI_add (i) (1)]
      refine ww_calliF (cx_V (n := 3) (As := [.int (nI p), .int (nI i), .int (nI (i + 1))]) C  (c_sq_s (kL K) G hA _ p n hp hs h3 hn i (by omega)) gX6_fits_X6_square rfl ⟨rfl, rfl⟩ (by decide +kernel) (by decide) rfl (by decide) rfl rfl rfl (Nat.le_of_ble_eq_true rfl) dX6_fits_177) ?_
      refine ww_icmp_ne 210 C dX6_fits_180 (by decide) (fun h180 => ?_) (fun h180 => ?_)
      · refine ww_iconst (v := 0) C dX6_fits_210 rfl ?_
        refine ww_istore (fun y3 => [(13, .int (y3)), (12, .int (tnR (σ 34 0 (14 * p + i)) (σ 35 0 (14 * p + i)) (σ 34 0 (14 * p + af n i)) (σ 35 0 (14 * p + af n i)) (σ 34 0 (14 * p + af n (af n i))) (σ 35 0 (14 * p + af n (af n i))))), (11, .int (tnR (σ 34 0 (14 * q + a)) (σ 35 0 (14 * q + a)) (σ 34 0 (14 * q + b)) (σ 35 0 (14 * q + b)) (σ 34 0 (14 * q + c)) (σ 35 0 (14 * q + c)))), (10, .int (nI c)), (9, .int (nI b)), (8, .int (nI a)), (7, .int (nI i)), (6, .int (nI n)), (0, .ref (gA G 30 (0))), (1, .int (nI p)), (2, .int (nI q)), (3, .int (nI w)), (4, .int (1)), (5, .int (1))]) C dX6_fits_211 (by decide) (fun _ => rfl) (fun y3 ey3 => ?_)
        obtain rfl : y3 = nI 0 := (ey3.trans (by decide))
        refine ww_iload C dX6_fits_213 0 rfl ?_
        refine ww_if_eq 237 C dX6_fits_215 (by decide) (fun h215 => ?_) (fun h215 => ?_)
        · have g215 : 0 = 0 := (cv_eq (a := 0) (b := 0) rfl (by decide) (by omega) (by omega)).mp h215
          refine ww_iconst (v := 0) C dX6_fits_237 rfl ?_
          refine ww_zret C dX6_fits_238 (by first | rfl | exact bI_n) ?_
          exact ⟨by rw [fitR, ← hv, fndN_t (by omega) (show (corRN n (fun i => σ 34 0 (14 * p + i)) (fun i => σ 35 0 (14 * p + i)) (fun i => σ 34 0 (14 * q + i)) (fun i => σ 35 0 (14 * q + i)) true true w) i = true from congrArg (!·) (show corR n _ _ _ _ _ _ _ _ _ = false from by rw [corR, ← ha, ← hb, ← hc]; exact nand1 (decide_eq_false h180)))]; rfl, rfl⟩
        · have g215 : ¬ 0 = 0 := fun q => h215 ((cv_eq (a := 0) (b := 0) rfl (by decide) (by omega) (by omega)).mpr q)
          exact absurd g215 (by decide)
      · refine ww_aload_n C dX6_fits_183 rfl 7 rfl ?_
        refine ww_iload_n C dX6_fits_184 rfl 9 rfl ?_
        refine ww_iload C dX6_fits_185 4 rfl ?_
        refine ww_iload C dX6_fits_187 2 rfl ?_
        refine ww_calliF (cx_V (n := 3) (As := [.int (nI q), .int (nI a), .int (nI c)]) C  (c_X6_square (kL K) G hA _ q n hq hsq h3 hn a c (by omega) (by omega)) gX6_fits_X6_square rfl ⟨rfl, rfl⟩ (by decide +kernel) (by decide) rfl (by decide) rfl rfl rfl (Nat.le_of_ble_eq_true rfl) dX6_fits_189) ?_
        refine ww_aload_n C dX6_fits_192 rfl 7 rfl ?_
        refine ww_iload_n C dX6_fits_193 rfl 8 rfl ?_
        refine ww_iload C dX6_fits_194 5 rfl ?_
        refine ww_iload C dX6_fits_196 5 rfl ?_
        refine ww_iconst (v := 2) C dX6_fits_198 rfl ?_
        refine ww_iadd C dX6_fits_199 ?_
        rw [show (nI i) + (2) = nI (i + 2) from nI_add (i) (2)]
        refine ww_calliF (cx_V (n := 3) (As := [.int (nI p), .int (nI i), .int (nI (i + 2))]) C  (c_sq_ss (kL K) G hA _ p n hp hs h3 hn i (by omega)) gX6_fits_X6_square rfl ⟨rfl, rfl⟩ (by decide +kernel) (by decide) rfl (by decide) rfl rfl rfl (Nat.le_of_ble_eq_true rfl) dX6_fits_200) ?_
        refine ww_icmp_ne 210 C dX6_fits_203 (by decide) (fun h203 => ?_) (fun h203 => ?_)
        · refine ww_iconst (v := 0) C dX6_fits_210 rfl ?_
          refine ww_istore (fun y4 => [(13, .int (y4)), (12, .int (tnR (σ 34 0 (14 * p + i)) (σ 35 0 (14 * p + i)) (σ 34 0 (14 * p + af n i)) (σ 35 0 (14 * p + af n i)) (σ 34 0 (14 * p + af n (af n i))) (σ 35 0 (14 * p + af n (af n i))))), (11, .int (tnR (σ 34 0 (14 * q + a)) (σ 35 0 (14 * q + a)) (σ 34 0 (14 * q + b)) (σ 35 0 (14 * q + b)) (σ 34 0 (14 * q + c)) (σ 35 0 (14 * q + c)))), (10, .int (nI c)), (9, .int (nI b)), (8, .int (nI a)), (7, .int (nI i)), (6, .int (nI n)), (0, .ref (gA G 30 (0))), (1, .int (nI p)), (2, .int (nI q)), (3, .int (nI w)), (4, .int (1)), (5, .int (1))]) C dX6_fits_211 (by decide) (fun _ => rfl) (fun y4 ey4 => ?_)
          obtain rfl : y4 = nI 0 := (ey4.trans (by decide))
          refine ww_iload C dX6_fits_213 0 rfl ?_
          refine ww_if_eq 237 C dX6_fits_215 (by decide) (fun h215 => ?_) (fun h215 => ?_)
          · have g215 : 0 = 0 := (cv_eq (a := 0) (b := 0) rfl (by decide) (by omega) (by omega)).mp h215
            refine ww_iconst (v := 0) C dX6_fits_237 rfl ?_
            refine ww_zret C dX6_fits_238 (by first | rfl | exact bI_n) ?_
            exact ⟨by rw [fitR, ← hv, fndN_t (by omega) (show (corRN n (fun i => σ 34 0 (14 * p + i)) (fun i => σ 35 0 (14 * p + i)) (fun i => σ 34 0 (14 * q + i)) (fun i => σ 35 0 (14 * q + i)) true true w) i = true from congrArg (!·) (show corR n _ _ _ _ _ _ _ _ _ = false from by rw [corR, ← ha, ← hb, ← hc]; exact nand2 (decide_eq_false h203)))]; rfl, rfl⟩
          · have g215 : ¬ 0 = 0 := fun q => h215 ((cv_eq (a := 0) (b := 0) rfl (by decide) (by omega) (by omega)).mpr q)
            exact absurd g215 (by decide)
        · refine ww_iconst (v := 1) C dX6_fits_206 rfl ?_
          refine ww_goto 211 C dX6_fits_207 (by decide) ?_
          refine ww_istore (fun y5 => [(13, .int (y5)), (12, .int (tnR (σ 34 0 (14 * p + i)) (σ 35 0 (14 * p + i)) (σ 34 0 (14 * p + af n i)) (σ 35 0 (14 * p + af n i)) (σ 34 0 (14 * p + af n (af n i))) (σ 35 0 (14 * p + af n (af n i))))), (11, .int (tnR (σ 34 0 (14 * q + a)) (σ 35 0 (14 * q + a)) (σ 34 0 (14 * q + b)) (σ 35 0 (14 * q + b)) (σ 34 0 (14 * q + c)) (σ 35 0 (14 * q + c)))), (10, .int (nI c)), (9, .int (nI b)), (8, .int (nI a)), (7, .int (nI i)), (6, .int (nI n)), (0, .ref (gA G 30 (0))), (1, .int (nI p)), (2, .int (nI q)), (3, .int (nI w)), (4, .int (1)), (5, .int (1))]) C dX6_fits_211 (by decide) (fun _ => rfl) (fun y5 ey5 => ?_)
          obtain rfl : y5 = nI 1 := (ey5.trans (by decide))
          refine ww_iload C dX6_fits_213 0 rfl ?_
          refine ww_if_eq 237 C dX6_fits_215 (by decide) (fun h215 => ?_) (fun h215 => ?_)
          · have g215 : 1 = 0 := (cv_eq (a := 1) (b := 0) rfl (by decide) (by omega) (by omega)).mp h215
            exact absurd g215 (by decide)
          · have g215 : ¬ 1 = 0 := fun q => h215 ((cv_eq (a := 1) (b := 0) rfl (by decide) (by omega) (by omega)).mpr q)
            refine ww_iload C dX6_fits_218 2 rfl ?_
            refine ww_iload C dX6_fits_220 13 rfl ?_
            refine ww_if_eq 232 C dX6_fits_222 (by decide) (fun h222 => ?_) (fun h222 => ?_)
            · have g222 : 1 = 0 := (cv_eq (a := 1) (b := 0) (by decide) (by decide) (by omega) (by omega)).mp h222
              exact absurd g222 (by decide)
            · have g222 : ¬ 1 = 0 := fun q => h222 ((cv_eq (a := 1) (b := 0) (by decide) (by decide) (by omega) (by omega)).mpr q)
              refine ww_iconst (v := 0) C dX6_fits_225 rfl ?_
              refine ww_iload C dX6_fits_226 1 rfl ?_
              refine ww_isub C dX6_fits_228 ?_
              refine ww_goto 234 C dX6_fits_229 (by decide) ?_
              refine ww_icmp_eq 239 C dX6_fits_234 (by decide) (fun h234 => ?_) (fun h234 => ?_)
              · refine ww_iinc (q := 6) (fun y6 => [(7, .int (y6)), (13, .int (nI 1)), (12, .int (tnR (σ 34 0 (14 * p + i)) (σ 35 0 (14 * p + i)) (σ 34 0 (14 * p + af n i)) (σ 35 0 (14 * p + af n i)) (σ 34 0 (14 * p + af n (af n i))) (σ 35 0 (14 * p + af n (af n i))))), (11, .int (tnR (σ 34 0 (14 * q + a)) (σ 35 0 (14 * q + a)) (σ 34 0 (14 * q + b)) (σ 35 0 (14 * q + b)) (σ 34 0 (14 * q + c)) (σ 35 0 (14 * q + c)))), (10, .int (nI c)), (9, .int (nI b)), (8, .int (nI a)), (6, .int (nI n)), (0, .ref (gA G 30 (0))), (1, .int (nI p)), (2, .int (nI q)), (3, .int (nI w)), (4, .int (1)), (5, .int (1))]) C dX6_fits_239 rfl (by decide) (fun _ => rfl) (fun y6 ey6 => ?_)
                obtain rfl : y6 = nI (i + 1) := ninc rfl ey6
                refine ww_goto 11 C dX6_fits_242 (by decide) ?_
                exact ww_sub [0, 7, 8, 9, 10, 11, 12, 13] rfl (ih (i + 1) (by omega) (by omega) (by rw [← fndN_f (by omega) (show (corRN n (fun i => σ 34 0 (14 * p + i)) (fun i => σ 35 0 (14 * p + i)) (fun i => σ 34 0 (14 * q + i)) (fun i => σ 35 0 (14 * q + i)) true true w) i = false from congrArg (!·) (show corR n _ _ _ _ _ _ _ _ _ = true from by rw [corR, ← ha, ← hb, ← hc]; exact and3 (decide_eq_true h180) (decide_eq_true h203) (decide_eq_true h234)))]; exact hv))
              · refine ww_iconst (v := 0) C dX6_fits_237 rfl ?_
                refine ww_zret C dX6_fits_238 (by first | rfl | exact bI_n) ?_
                exact ⟨by rw [fitR, ← hv, fndN_t (by omega) (show (corRN n (fun i => σ 34 0 (14 * p + i)) (fun i => σ 35 0 (14 * p + i)) (fun i => σ 34 0 (14 * q + i)) (fun i => σ 35 0 (14 * q + i)) true true w) i = true from congrArg (!·) (show corR n _ _ _ _ _ _ _ _ _ = false from by rw [corR, ← ha, ← hb, ← hc]; exact nand3 (decide_eq_false h234)))]; rfl, rfl⟩
set_option maxHeartbeats 4000000 in
set_option maxRecDepth 100000 in
theorem c_X6_fits_11 (l : Launch) (G : Gx) (hA : wa G) (σ : Sg) (p q n : Nat) (hp : p < 8) (hs : σ 33 0 p = nI n) (hq : q < 8) (hsq : σ 33 0 q = nI n) (h3 : 3 ≤ n) (hn : n ≤ 14) (w : Nat) (hw : w < n) : CtI l yX6_fits wsX6_fits (rmd 3) G [.ref (gA G 30 (0)), .int (nI p), .int (nI q), .int (nI w), .int (1), .int (1)] σ (fun r σ2 => r = bI (fitR n (fun i => σ 34 0 (14 * p + i)) (fun i => σ 35 0 (14 * p + i)) (fun i => σ 34 0 (14 * q + i)) (fun i => σ 35 0 (14 * q + i)) true true w) ∧ σ2 = σ) := by
  refine ct_i (maxL := 14) (ret := (some .boolean)) (by decide) rfl (Nat.le_of_ble_eq_true rfl) hA (fun K hl C => ?_)
  subst hl
  change WW K G _ _ σ [(0, .ref (gA G 30 (0))), (1, .int (nI p)), (2, .int (nI q)), (3, .int (nI w)), (4, .int (1)), (5, .int (1))] 0 []
  refine ww_aload_n C dX6_fits_0 rfl 0 rfl ?_
  refine ww_gr (j := 0) (k := 30) (f := 4) C rfl rfl (by decide) rfl in_X6_fits_X6 (by decide) lk_X6_fits_16 dX6_fits_1 rfl ?_
  refine ww_iload_n C dX6_fits_4 rfl 1 rfl ?_
  refine ww_iald (k := 33) (j := p) C rfl (by decide) (by decide) dX6_fits_5 rfl hp ?_
  rw [hs]
  refine ww_istore (fun y1 => [(6, .int (y1)), (0, .ref (gA G 30 (0))), (1, .int (nI p)), (2, .int (nI q)), (3, .int (nI w)), (4, .int (1)), (5, .int (1))]) C dX6_fits_6 (by decide) (fun _ => rfl) (fun y1 ey1 => ?_)
  obtain rfl : y1 = nI n := ey1
  refine ww_iconst (v := 0) C dX6_fits_8 rfl ?_
  refine ww_istore (fun y2 => [(7, .int (y2)), (6, .int (nI n)), (0, .ref (gA G 30 (0))), (1, .int (nI p)), (2, .int (nI q)), (3, .int (nI w)), (4, .int (1)), (5, .int (1))]) C dX6_fits_9 (by decide) (fun _ => rfl) (fun y2 ey2 => ?_)
  obtain rfl : y2 = nI 0 := (ey2.trans (by decide))
  exact ww_sub [0, 1, 2, 3, 4, 5, 6, 7] rfl (lp_X6_fits_11 hA C σ p q n hp hs hq hsq h3 hn w hw (n + 1) 0 (by omega) (by omega) rfl)
set_option maxHeartbeats 4000000 in
set_option maxRecDepth 100000 in
theorem lp_X6_fits_00 {K : Kx} {G : Gx} (hA : wa G) (C : CX K G cX6_fits 14 RX6 wsX6_fits (rmd 3) (some .boolean)) (σ : Sg) (p q n : Nat) (hp : p < 8) (hs : σ 33 0 p = nI n) (hq : q < 8) (hsq : σ 33 0 q = nI n) (h3 : 3 ≤ n) (hn : n ≤ 14) (w : Nat) (hw : w < n) : ∀ (f i : Nat), n - i < f → (i ≤ n) → (fndN (corRN n (fun i => σ 34 0 (14 * p + i)) (fun i => σ 35 0 (14 * p + i)) (fun i => σ 34 0 (14 * q + i)) (fun i => σ 35 0 (14 * q + i)) false false w) i n = fndN (corRN n (fun i => σ 34 0 (14 * p + i)) (fun i => σ 35 0 (14 * p + i)) (fun i => σ 34 0 (14 * q + i)) (fun i => σ 35 0 (14 * q + i)) false false w) 0 n) → WW K G 14 (QI K G (fun r σ2 => r = bI (fitR n (fun i => σ 34 0 (14 * p + i)) (fun i => σ 35 0 (14 * p + i)) (fun i => σ 34 0 (14 * q + i)) (fun i => σ 35 0 (14 * q + i)) false false w) ∧ σ2 = σ)) σ [(7, .int (nI i)), (6, .int (nI n)), (0, .ref (gA G 30 (0))), (1, .int (nI p)), (2, .int (nI q)), (3, .int (nI w)), (4, .int (0)), (5, .int (0))] 11 [] := by
  intro f
  induction f with
  | zero => intro i  h; exact absurd h (Nat.not_lt_zero _)
  | succ f ih =>
    intro i  hf hi hv
    refine ww_iload C dX6_fits_11 0 rfl ?_
    refine ww_iload C dX6_fits_13 1 rfl ?_
    refine ww_icmp_ge 245 C dX6_fits_15 (by decide) (fun h15 => ?_) (fun h15 => ?_)
    · have g15 : n ≤ i := (cv_le (a := n) (b := i) rfl rfl (by omega) (by omega)).mp h15
      refine ww_iconst (v := 1) C dX6_fits_245 rfl ?_
      refine ww_zret C dX6_fits_246 (by first | rfl | exact bI_n) ?_
      exact ⟨by rw [fitR, ← hv, fndN_end g15]; rfl, rfl⟩
    · have g15 : ¬ n ≤ i := fun q => h15 ((cv_le (a := n) (b := i) rfl rfl (by omega) (by omega)).mpr q)
      refine ww_aload_n C dX6_fits_18 rfl 2 rfl ?_
      refine ww_iload_n C dX6_fits_19 rfl 4 rfl ?_
      refine ww_iload_n C dX6_fits_20 rfl 5 rfl ?_
      refine ww_iload C dX6_fits_21 0 rfl ?_
      refine ww_iload C dX6_fits_23 6 rfl ?_
      refine ww_calliF (cx_V (n := 4) (As := [.int (nI q), .int (nI w), .int (nI i), .int (0)]) C  (c_X6_go_0 (kL K) G hA _ q n hq hsq h3 hn w i (by omega) (by omega)) gX6_fits_X6_go rfl ⟨rfl, rfl⟩ (by decide +kernel) (by decide) rfl (by decide) rfl rfl rfl (Nat.le_of_ble_eq_true rfl) dX6_fits_25) ?_
      refine ww_istore (fun ya => [(8, .int (ya)), (7, .int (nI i)), (6, .int (nI n)), (0, .ref (gA G 30 (0))), (1, .int (nI p)), (2, .int (nI q)), (3, .int (nI w)), (4, .int (0)), (5, .int (0))]) C dX6_fits_28 (by decide) (fun _ => rfl) (fun ya eya => ?_)
      obtain ⟨a, ha⟩ : ∃ z, z = goR false n w i := ⟨_, rfl⟩
      have ka : a < n := by rw [ha]; exact Nat.mod_lt _ (by omega)
      obtain rfl : ya = nI a := eya.trans (congrArg nI ha.symm)
      refine ww_aload_n C dX6_fits_30 rfl 3 rfl ?_
      refine ww_iload_n C dX6_fits_31 rfl 5 rfl ?_
      refine ww_iload_n C dX6_fits_32 rfl 6 rfl ?_
      refine ww_iload C dX6_fits_33 1 rfl ?_
      refine ww_iconst (v := 1) C dX6_fits_35 rfl ?_
      refine ww_iadd C dX6_fits_36 ?_
      rw [show (nI i) + (1) = nI (i + 1) from nI_add (i) (1)]
      refine ww_iload C dX6_fits_37 7 rfl ?_
      refine ww_calliF (cx_V (n := 4) (As := [.int (nI q), .int (nI w), .int (nI (i + 1)), .int (0)]) C  (c_X6_go_0 (kL K) G hA _ q n hq hsq h3 hn w (i + 1) (by omega) (by omega)) gX6_fits_X6_go rfl ⟨rfl, rfl⟩ (by decide +kernel) (by decide) rfl (by decide) rfl rfl rfl (Nat.le_of_ble_eq_true rfl) dX6_fits_39) ?_
      refine ww_istore (fun yb => [(9, .int (yb)), (8, .int (nI a)), (7, .int (nI i)), (6, .int (nI n)), (0, .ref (gA G 30 (0))), (1, .int (nI p)), (2, .int (nI q)), (3, .int (nI w)), (4, .int (0)), (5, .int (0))]) C dX6_fits_42 (by decide) (fun _ => rfl) (fun yb eyb => ?_)
      obtain ⟨b, hb⟩ : ∃ z, z = goR false n w (i + 1) := ⟨_, rfl⟩
      have kb : b < n := by rw [hb]; exact Nat.mod_lt _ (by omega)
      obtain rfl : yb = nI b := eyb.trans (congrArg nI hb.symm)
      refine ww_aload_n C dX6_fits_44 rfl 4 rfl ?_
      refine ww_iload_n C dX6_fits_45 rfl 6 rfl ?_
      refine ww_iload_n C dX6_fits_46 rfl 7 rfl ?_
      refine ww_iload C dX6_fits_47 2 rfl ?_
      refine ww_iconst (v := 2) C dX6_fits_49 rfl ?_
      refine ww_iadd C dX6_fits_50 ?_
      rw [show (nI i) + (2) = nI (i + 2) from nI_add (i) (2)]
      refine ww_iload C dX6_fits_51 8 rfl ?_
      refine ww_calliF (cx_V (n := 4) (As := [.int (nI q), .int (nI w), .int (nI (i + 2)), .int (0)]) C  (c_X6_go_0 (kL K) G hA _ q n hq hsq h3 hn w (i + 2) (by omega) (by omega)) gX6_fits_X6_go rfl ⟨rfl, rfl⟩ (by decide +kernel) (by decide) rfl (by decide) rfl rfl rfl (Nat.le_of_ble_eq_true rfl) dX6_fits_53) ?_
      refine ww_istore (fun yc => [(10, .int (yc)), (9, .int (nI b)), (8, .int (nI a)), (7, .int (nI i)), (6, .int (nI n)), (0, .ref (gA G 30 (0))), (1, .int (nI p)), (2, .int (nI q)), (3, .int (nI w)), (4, .int (0)), (5, .int (0))]) C dX6_fits_56 (by decide) (fun _ => rfl) (fun yc eyc => ?_)
      obtain ⟨c, hc⟩ : ∃ z, z = goR false n w (i + 2) := ⟨_, rfl⟩
      have kc : c < n := by rw [hc]; exact Nat.mod_lt _ (by omega)
      obtain rfl : yc = nI c := eyc.trans (congrArg nI hc.symm)
      refine ww_aload_n C dX6_fits_58 rfl 5 rfl ?_
      refine ww_iload_n C dX6_fits_59 rfl 7 rfl ?_
      refine ww_iload C dX6_fits_60 2 rfl ?_
      refine ww_calliF (cx_V (n := 2) (As := [.int (nI q), .int (nI a)]) C  (c_xOf_i (kL K) G hA _ q n hq hsq h3 hn a (by omega)) gX6_fits_X6_xOf rfl ⟨rfl, rfl⟩ (by decide +kernel) (by decide) rfl (by decide) rfl rfl rfl (Nat.le_of_ble_eq_true rfl) dX6_fits_62) ?_
      refine ww_aload_n C dX6_fits_65 rfl 5 rfl ?_
      refine ww_iload_n C dX6_fits_66 rfl 7 rfl ?_
      refine ww_iload C dX6_fits_67 2 rfl ?_
      refine ww_calliF (cx_V (n := 2) (As := [.int (nI q), .int (nI a)]) C  (c_yOf_i (kL K) G hA _ q n hq hsq h3 hn a (by omega)) gX6_fits_X6_yOf rfl ⟨rfl, rfl⟩ (by decide +kernel) (by decide) rfl (by decide) rfl rfl rfl (Nat.le_of_ble_eq_true rfl) dX6_fits_69) ?_
      refine ww_aload_n C dX6_fits_72 rfl 5 rfl ?_
      refine ww_iload_n C dX6_fits_73 rfl 7 rfl ?_
      refine ww_iload C dX6_fits_74 1 rfl ?_
      refine ww_calliF (cx_V (n := 2) (As := [.int (nI q), .int (nI b)]) C  (c_xOf_i (kL K) G hA _ q n hq hsq h3 hn b (by omega)) gX6_fits_X6_xOf rfl ⟨rfl, rfl⟩ (by decide +kernel) (by decide) rfl (by decide) rfl rfl rfl (Nat.le_of_ble_eq_true rfl) dX6_fits_76) ?_
      refine ww_aload_n C dX6_fits_79 rfl 5 rfl ?_
      refine ww_iload_n C dX6_fits_80 rfl 7 rfl ?_
      refine ww_iload C dX6_fits_81 1 rfl ?_
      refine ww_calliF (cx_V (n := 2) (As := [.int (nI q), .int (nI b)]) C  (c_yOf_i (kL K) G hA _ q n hq hsq h3 hn b (by omega)) gX6_fits_X6_yOf rfl ⟨rfl, rfl⟩ (by decide +kernel) (by decide) rfl (by decide) rfl rfl rfl (Nat.le_of_ble_eq_true rfl) dX6_fits_83) ?_
      refine ww_aload_n C dX6_fits_86 rfl 5 rfl ?_
      refine ww_iload_n C dX6_fits_87 rfl 7 rfl ?_
      refine ww_iload C dX6_fits_88 0 rfl ?_
      refine ww_calliF (cx_V (n := 2) (As := [.int (nI q), .int (nI c)]) C  (c_xOf_i (kL K) G hA _ q n hq hsq h3 hn c (by omega)) gX6_fits_X6_xOf rfl ⟨rfl, rfl⟩ (by decide +kernel) (by decide) rfl (by decide) rfl rfl rfl (Nat.le_of_ble_eq_true rfl) dX6_fits_90) ?_
      refine ww_aload_n C dX6_fits_93 rfl 5 rfl ?_
      refine ww_iload_n C dX6_fits_94 rfl 7 rfl ?_
      refine ww_iload C dX6_fits_95 0 rfl ?_
      refine ww_calliF (cx_V (n := 2) (As := [.int (nI q), .int (nI c)]) C  (c_yOf_i (kL K) G hA _ q n hq hsq h3 hn c (by omega)) gX6_fits_X6_yOf rfl ⟨rfl, rfl⟩ (by decide +kernel) (by decide) rfl (by decide) rfl rfl rfl (Nat.le_of_ble_eq_true rfl) dX6_fits_97) ?_
      refine ww_calliF (cx_S (n := 6) (As := [.int (σ 34 0 (14 * q + a)), .int (σ 35 0 (14 * q + a)), .int (σ 34 0 (14 * q + b)), .int (σ 35 0 (14 * q + b)), .int (σ 34 0 (14 * q + c)), .int (σ 35 0 (14 * q + c))]) C  (c_X6_turn (kL K) G hA _ _ _ _ _ _ _) gX6_fits_X6_turn rfl ⟨rfl, rfl⟩ (by decide +kernel) (by decide) rfl rfl (Nat.le_of_ble_eq_true rfl) dX6_fits_100) ?_
      refine ww_istore (fun y1 => [(11, .int (y1)), (10, .int (nI c)), (9, .int (nI b)), (8, .int (nI a)), (7, .int (nI i)), (6, .int (nI n)), (0, .ref (gA G 30 (0))), (1, .int (nI p)), (2, .int (nI q)), (3, .int (nI w)), (4, .int (0)), (5, .int (0))]) C dX6_fits_103 (by decide) (fun _ => rfl) (fun y1 ey1 => ?_)
      rw [ey1]; clear ey1 y1
      refine ww_aload_n C dX6_fits_105 rfl 6 rfl ?_
      refine ww_iload_n C dX6_fits_106 rfl 7 rfl ?_
      refine ww_iload C dX6_fits_107 4 rfl ?_
      refine ww_calliF (cx_V (n := 2) (As := [.int (nI p), .int (nI i)]) C  (c_xOf_i (kL K) G hA _ p n hp hs h3 hn i (by omega)) gX6_fits_X6_xOf rfl ⟨rfl, rfl⟩ (by decide +kernel) (by decide) rfl (by decide) rfl rfl rfl (Nat.le_of_ble_eq_true rfl) dX6_fits_109) ?_
      refine ww_aload_n C dX6_fits_112 rfl 6 rfl ?_
      refine ww_iload_n C dX6_fits_113 rfl 7 rfl ?_
      refine ww_iload C dX6_fits_114 4 rfl ?_
      refine ww_calliF (cx_V (n := 2) (As := [.int (nI p), .int (nI i)]) C  (c_yOf_i (kL K) G hA _ p n hp hs h3 hn i (by omega)) gX6_fits_X6_yOf rfl ⟨rfl, rfl⟩ (by decide +kernel) (by decide) rfl (by decide) rfl rfl rfl (Nat.le_of_ble_eq_true rfl) dX6_fits_116) ?_
      refine ww_aload_n C dX6_fits_119 rfl 6 rfl ?_
      refine ww_iload_n C dX6_fits_120 rfl 7 rfl ?_
      refine ww_iload C dX6_fits_121 4 rfl ?_
      refine ww_iconst (v := 1) C dX6_fits_123 rfl ?_
      refine ww_iadd C dX6_fits_124 ?_
      rw [show (nI i) + (1) = nI (i + 1) from nI_add (i) (1)]
      refine ww_calliF (cx_V (n := 2) (As := [.int (nI p), .int (nI (i + 1))]) C  (c_xOf_s (kL K) G hA _ p n hp hs h3 hn i (by omega)) gX6_fits_X6_xOf rfl ⟨rfl, rfl⟩ (by decide +kernel) (by decide) rfl (by decide) rfl rfl rfl (Nat.le_of_ble_eq_true rfl) dX6_fits_125) ?_
      refine ww_aload_n C dX6_fits_128 rfl 6 rfl ?_
      refine ww_iload_n C dX6_fits_129 rfl 7 rfl ?_
      refine ww_iload C dX6_fits_130 4 rfl ?_
      refine ww_iconst (v := 1) C dX6_fits_132 rfl ?_
      refine ww_iadd C dX6_fits_133 ?_
      rw [show (nI i) + (1) = nI (i + 1) from nI_add (i) (1)]
      refine ww_calliF (cx_V (n := 2) (As := [.int (nI p), .int (nI (i + 1))]) C  (c_yOf_s (kL K) G hA _ p n hp hs h3 hn i (by omega)) gX6_fits_X6_yOf rfl ⟨rfl, rfl⟩ (by decide +kernel) (by decide) rfl (by decide) rfl rfl rfl (Nat.le_of_ble_eq_true rfl) dX6_fits_134) ?_
      refine ww_aload_n C dX6_fits_137 rfl 6 rfl ?_
      refine ww_iload_n C dX6_fits_138 rfl 7 rfl ?_
      refine ww_iload C dX6_fits_139 4 rfl ?_
      refine ww_iconst (v := 2) C dX6_fits_141 rfl ?_
      refine ww_iadd C dX6_fits_142 ?_
      rw [show (nI i) + (2) = nI (i + 2) from nI_add (i) (2)]
      refine ww_calliF (cx_V (n := 2) (As := [.int (nI p), .int (nI (i + 2))]) C  (c_xOf_ss (kL K) G hA _ p n hp hs h3 hn i (by omega)) gX6_fits_X6_xOf rfl ⟨rfl, rfl⟩ (by decide +kernel) (by decide) rfl (by decide) rfl rfl rfl (Nat.le_of_ble_eq_true rfl) dX6_fits_143) ?_
      refine ww_aload_n C dX6_fits_146 rfl 6 rfl ?_
      refine ww_iload_n C dX6_fits_147 rfl 7 rfl ?_
      refine ww_iload C dX6_fits_148 4 rfl ?_
      refine ww_iconst (v := 2) C dX6_fits_150 rfl ?_
      refine ww_iadd C dX6_fits_151 ?_
      rw [show (nI i) + (2) = nI (i + 2) from nI_add (i) (2)]
      refine ww_calliF (cx_V (n := 2) (As := [.int (nI p), .int (nI (i + 2))]) C  (c_yOf_ss (kL K) G hA _ p n hp hs h3 hn i (by omega)) gX6_fits_X6_yOf rfl ⟨rfl, rfl⟩ (by decide +kernel) (by decide) rfl (by decide) rfl rfl rfl (Nat.le_of_ble_eq_true rfl) dX6_fits_152) ?_
      refine ww_calliF (cx_S (n := 6) (As := [.int (σ 34 0 (14 * p + i)), .int (σ 35 0 (14 * p + i)), .int (σ 34 0 (14 * p + af n i)), .int (σ 35 0 (14 * p + af n i)), .int (σ 34 0 (14 * p + af n (af n i))), .int (σ 35 0 (14 * p + af n (af n i)))]) C  (c_X6_turn (kL K) G hA _ _ _ _ _ _ _) gX6_fits_X6_turn rfl ⟨rfl, rfl⟩ (by decide +kernel) (by decide) rfl rfl (Nat.le_of_ble_eq_true rfl) dX6_fits_155) ?_
      refine ww_istore (fun y2 => [(12, .int (y2)), (11, .int (tnR (σ 34 0 (14 * q + a)) (σ 35 0 (14 * q + a)) (σ 34 0 (14 * q + b)) (σ 35 0 (14 * q + b)) (σ 34 0 (14 * q + c)) (σ 35 0 (14 * q + c)))), (10, .int (nI c)), (9, .int (nI b)), (8, .int (nI a)), (7, .int (nI i)), (6, .int (nI n)), (0, .ref (gA G 30 (0))), (1, .int (nI p)), (2, .int (nI q)), (3, .int (nI w)), (4, .int (0)), (5, .int (0))]) C dX6_fits_158 (by decide) (fun _ => rfl) (fun y2 ey2 => ?_)
      rw [ey2]; clear ey2 y2
      refine ww_aload_n C dX6_fits_160 rfl 7 rfl ?_
      refine ww_iload_n C dX6_fits_161 rfl 9 rfl ?_
      refine ww_iload C dX6_fits_162 4 rfl ?_
      refine ww_iload C dX6_fits_164 3 rfl ?_
      refine ww_calliF (cx_V (n := 3) (As := [.int (nI q), .int (nI a), .int (nI b)]) C  (c_X6_square (kL K) G hA _ q n hq hsq h3 hn a b (by omega) (by omega)) gX6_fits_X6_square rfl ⟨rfl, rfl⟩ (by decide +kernel) (by decide) rfl (by decide) rfl rfl rfl (Nat.le_of_ble_eq_true rfl) dX6_fits_166) ?_
      refine ww_aload_n C dX6_fits_169 rfl 7 rfl ?_
      refine ww_iload_n C dX6_fits_170 rfl 8 rfl ?_
      refine ww_iload C dX6_fits_171 5 rfl ?_
      refine ww_iload C dX6_fits_173 5 rfl ?_
      refine ww_iconst (v := 1) C dX6_fits_175 rfl ?_
      refine ww_iadd C dX6_fits_176 ?_
      rw [show (nI i) + (1) = nI (i + 1) from nI_add (i) (1)]
      refine ww_calliF (cx_V (n := 3) (As := [.int (nI p), .int (nI i), .int (nI (i + 1))]) C  (c_sq_s (kL K) G hA _ p n hp hs h3 hn i (by omega)) gX6_fits_X6_square rfl ⟨rfl, rfl⟩ (by decide +kernel) (by decide) rfl (by decide) rfl rfl rfl (Nat.le_of_ble_eq_true rfl) dX6_fits_177) ?_
      refine ww_icmp_ne 210 C dX6_fits_180 (by decide) (fun h180 => ?_) (fun h180 => ?_)
      · refine ww_iconst (v := 0) C dX6_fits_210 rfl ?_
        refine ww_istore (fun y3 => [(13, .int (y3)), (12, .int (tnR (σ 34 0 (14 * p + i)) (σ 35 0 (14 * p + i)) (σ 34 0 (14 * p + af n i)) (σ 35 0 (14 * p + af n i)) (σ 34 0 (14 * p + af n (af n i))) (σ 35 0 (14 * p + af n (af n i))))), (11, .int (tnR (σ 34 0 (14 * q + a)) (σ 35 0 (14 * q + a)) (σ 34 0 (14 * q + b)) (σ 35 0 (14 * q + b)) (σ 34 0 (14 * q + c)) (σ 35 0 (14 * q + c)))), (10, .int (nI c)), (9, .int (nI b)), (8, .int (nI a)), (7, .int (nI i)), (6, .int (nI n)), (0, .ref (gA G 30 (0))), (1, .int (nI p)), (2, .int (nI q)), (3, .int (nI w)), (4, .int (0)), (5, .int (0))]) C dX6_fits_211 (by decide) (fun _ => rfl) (fun y3 ey3 => ?_)
        obtain rfl : y3 = nI 0 := (ey3.trans (by decide))
        refine ww_iload C dX6_fits_213 0 rfl ?_
        refine ww_if_eq 237 C dX6_fits_215 (by decide) (fun h215 => ?_) (fun h215 => ?_)
        · have g215 : 0 = 0 := (cv_eq (a := 0) (b := 0) rfl (by decide) (by omega) (by omega)).mp h215
          refine ww_iconst (v := 0) C dX6_fits_237 rfl ?_
          refine ww_zret C dX6_fits_238 (by first | rfl | exact bI_n) ?_
          exact ⟨by rw [fitR, ← hv, fndN_t (by omega) (show (corRN n (fun i => σ 34 0 (14 * p + i)) (fun i => σ 35 0 (14 * p + i)) (fun i => σ 34 0 (14 * q + i)) (fun i => σ 35 0 (14 * q + i)) false false w) i = true from congrArg (!·) (show corR n _ _ _ _ _ _ _ _ _ = false from by rw [corR, ← ha, ← hb, ← hc]; exact nand1 (decide_eq_false h180)))]; rfl, rfl⟩
        · have g215 : ¬ 0 = 0 := fun q => h215 ((cv_eq (a := 0) (b := 0) rfl (by decide) (by omega) (by omega)).mpr q)
          exact absurd g215 (by decide)
      · refine ww_aload_n C dX6_fits_183 rfl 7 rfl ?_
        refine ww_iload_n C dX6_fits_184 rfl 9 rfl ?_
        refine ww_iload C dX6_fits_185 4 rfl ?_
        refine ww_iload C dX6_fits_187 2 rfl ?_
        refine ww_calliF (cx_V (n := 3) (As := [.int (nI q), .int (nI a), .int (nI c)]) C  (c_X6_square (kL K) G hA _ q n hq hsq h3 hn a c (by omega) (by omega)) gX6_fits_X6_square rfl ⟨rfl, rfl⟩ (by decide +kernel) (by decide) rfl (by decide) rfl rfl rfl (Nat.le_of_ble_eq_true rfl) dX6_fits_189) ?_
        refine ww_aload_n C dX6_fits_192 rfl 7 rfl ?_
        refine ww_iload_n C dX6_fits_193 rfl 8 rfl ?_
        refine ww_iload C dX6_fits_194 5 rfl ?_
        refine ww_iload C dX6_fits_196 5 rfl ?_
        refine ww_iconst (v := 2) C dX6_fits_198 rfl ?_
        refine ww_iadd C dX6_fits_199 ?_
        rw [show (nI i) + (2) = nI (i + 2) from nI_add (i) (2)]
        refine ww_calliF (cx_V (n := 3) (As := [.int (nI p), .int (nI i), .int (nI (i + 2))]) C  (c_sq_ss (kL K) G hA _ p n hp hs h3 hn i (by omega)) gX6_fits_X6_square rfl ⟨rfl, rfl⟩ (by decide +kernel) (by decide) rfl (by decide) rfl rfl rfl (Nat.le_of_ble_eq_true rfl) dX6_fits_200) ?_
        refine ww_icmp_ne 210 C dX6_fits_203 (by decide) (fun h203 => ?_) (fun h203 => ?_)
        · refine ww_iconst (v := 0) C dX6_fits_210 rfl ?_
          refine ww_istore (fun y4 => [(13, .int (y4)), (12, .int (tnR (σ 34 0 (14 * p + i)) (σ 35 0 (14 * p + i)) (σ 34 0 (14 * p + af n i)) (σ 35 0 (14 * p + af n i)) (σ 34 0 (14 * p + af n (af n i))) (σ 35 0 (14 * p + af n (af n i))))), (11, .int (tnR (σ 34 0 (14 * q + a)) (σ 35 0 (14 * q + a)) (σ 34 0 (14 * q + b)) (σ 35 0 (14 * q + b)) (σ 34 0 (14 * q + c)) (σ 35 0 (14 * q + c)))), (10, .int (nI c)), (9, .int (nI b)), (8, .int (nI a)), (7, .int (nI i)), (6, .int (nI n)), (0, .ref (gA G 30 (0))), (1, .int (nI p)), (2, .int (nI q)), (3, .int (nI w)), (4, .int (0)), (5, .int (0))]) C dX6_fits_211 (by decide) (fun _ => rfl) (fun y4 ey4 => ?_)
          obtain rfl : y4 = nI 0 := (ey4.trans (by decide))
          refine ww_iload C dX6_fits_213 0 rfl ?_
          refine ww_if_eq 237 C dX6_fits_215 (by decide) (fun h215 => ?_) (fun h215 => ?_)
          · have g215 : 0 = 0 := (cv_eq (a := 0) (b := 0) rfl (by decide) (by omega) (by omega)).mp h215
            refine ww_iconst (v := 0) C dX6_fits_237 rfl ?_
            refine ww_zret C dX6_fits_238 (by first | rfl | exact bI_n) ?_
            exact ⟨by rw [fitR, ← hv, fndN_t (by omega) (show (corRN n (fun i => σ 34 0 (14 * p + i)) (fun i => σ 35 0 (14 * p + i)) (fun i => σ 34 0 (14 * q + i)) (fun i => σ 35 0 (14 * q + i)) false false w) i = true from congrArg (!·) (show corR n _ _ _ _ _ _ _ _ _ = false from by rw [corR, ← ha, ← hb, ← hc]; exact nand2 (decide_eq_false h203)))]; rfl, rfl⟩
          · have g215 : ¬ 0 = 0 := fun q => h215 ((cv_eq (a := 0) (b := 0) rfl (by decide) (by omega) (by omega)).mpr q)
            exact absurd g215 (by decide)
        · refine ww_iconst (v := 1) C dX6_fits_206 rfl ?_
          refine ww_goto 211 C dX6_fits_207 (by decide) ?_
          refine ww_istore (fun y5 => [(13, .int (y5)), (12, .int (tnR (σ 34 0 (14 * p + i)) (σ 35 0 (14 * p + i)) (σ 34 0 (14 * p + af n i)) (σ 35 0 (14 * p + af n i)) (σ 34 0 (14 * p + af n (af n i))) (σ 35 0 (14 * p + af n (af n i))))), (11, .int (tnR (σ 34 0 (14 * q + a)) (σ 35 0 (14 * q + a)) (σ 34 0 (14 * q + b)) (σ 35 0 (14 * q + b)) (σ 34 0 (14 * q + c)) (σ 35 0 (14 * q + c)))), (10, .int (nI c)), (9, .int (nI b)), (8, .int (nI a)), (7, .int (nI i)), (6, .int (nI n)), (0, .ref (gA G 30 (0))), (1, .int (nI p)), (2, .int (nI q)), (3, .int (nI w)), (4, .int (0)), (5, .int (0))]) C dX6_fits_211 (by decide) (fun _ => rfl) (fun y5 ey5 => ?_)
          obtain rfl : y5 = nI 1 := (ey5.trans (by decide))
          refine ww_iload C dX6_fits_213 0 rfl ?_
          refine ww_if_eq 237 C dX6_fits_215 (by decide) (fun h215 => ?_) (fun h215 => ?_)
          · have g215 : 1 = 0 := (cv_eq (a := 1) (b := 0) rfl (by decide) (by omega) (by omega)).mp h215
            exact absurd g215 (by decide)
          · have g215 : ¬ 1 = 0 := fun q => h215 ((cv_eq (a := 1) (b := 0) rfl (by decide) (by omega) (by omega)).mpr q)
            refine ww_iload C dX6_fits_218 2 rfl ?_
            refine ww_iload C dX6_fits_220 13 rfl ?_
            refine ww_if_eq 232 C dX6_fits_222 (by decide) (fun h222 => ?_) (fun h222 => ?_)
            · have g222 : 0 = 0 := (cv_eq (a := 0) (b := 0) (by decide) (by decide) (by omega) (by omega)).mp h222
              refine ww_iload C dX6_fits_232 1 rfl ?_
              refine ww_icmp_eq 239 C dX6_fits_234 (by decide) (fun h234 => ?_) (fun h234 => ?_)
              · refine ww_iinc (q := 6) (fun y6 => [(7, .int (y6)), (13, .int (nI 1)), (12, .int (tnR (σ 34 0 (14 * p + i)) (σ 35 0 (14 * p + i)) (σ 34 0 (14 * p + af n i)) (σ 35 0 (14 * p + af n i)) (σ 34 0 (14 * p + af n (af n i))) (σ 35 0 (14 * p + af n (af n i))))), (11, .int (tnR (σ 34 0 (14 * q + a)) (σ 35 0 (14 * q + a)) (σ 34 0 (14 * q + b)) (σ 35 0 (14 * q + b)) (σ 34 0 (14 * q + c)) (σ 35 0 (14 * q + c)))), (10, .int (nI c)), (9, .int (nI b)), (8, .int (nI a)), (6, .int (nI n)), (0, .ref (gA G 30 (0))), (1, .int (nI p)), (2, .int (nI q)), (3, .int (nI w)), (4, .int (0)), (5, .int (0))]) C dX6_fits_239 rfl (by decide) (fun _ => rfl) (fun y6 ey6 => ?_)
                obtain rfl : y6 = nI (i + 1) := ninc rfl ey6
                refine ww_goto 11 C dX6_fits_242 (by decide) ?_
                exact ww_sub [0, 7, 8, 9, 10, 11, 12, 13] rfl (ih (i + 1) (by omega) (by omega) (by rw [← fndN_f (by omega) (show (corRN n (fun i => σ 34 0 (14 * p + i)) (fun i => σ 35 0 (14 * p + i)) (fun i => σ 34 0 (14 * q + i)) (fun i => σ 35 0 (14 * q + i)) false false w) i = false from congrArg (!·) (show corR n _ _ _ _ _ _ _ _ _ = true from by rw [corR, ← ha, ← hb, ← hc]; exact and3 (decide_eq_true h180) (decide_eq_true h203) (decide_eq_true h234)))]; exact hv))
              · refine ww_iconst (v := 0) C dX6_fits_237 rfl ?_
                refine ww_zret C dX6_fits_238 (by first | rfl | exact bI_n) ?_
                exact ⟨by rw [fitR, ← hv, fndN_t (by omega) (show (corRN n (fun i => σ 34 0 (14 * p + i)) (fun i => σ 35 0 (14 * p + i)) (fun i => σ 34 0 (14 * q + i)) (fun i => σ 35 0 (14 * q + i)) false false w) i = true from congrArg (!·) (show corR n _ _ _ _ _ _ _ _ _ = false from by rw [corR, ← ha, ← hb, ← hc]; exact nand3 (decide_eq_false h234)))]; rfl, rfl⟩
            · have g222 : ¬ 0 = 0 := fun q => h222 ((cv_eq (a := 0) (b := 0) (by decide) (by decide) (by omega) (by omega)).mpr q)
              exact absurd g222 (by decide)
set_option maxHeartbeats 4000000 in
set_option maxRecDepth 100000 in
theorem c_X6_fits_00 (l : Launch) (G : Gx) (hA : wa G) (σ : Sg) (p q n : Nat) (hp : p < 8) (hs : σ 33 0 p = nI n) (hq : q < 8) (hsq : σ 33 0 q = nI n) (h3 : 3 ≤ n) (hn : n ≤ 14) (w : Nat) (hw : w < n) : CtI l yX6_fits wsX6_fits (rmd 3) G [.ref (gA G 30 (0)), .int (nI p), .int (nI q), .int (nI w), .int (0), .int (0)] σ (fun r σ2 => r = bI (fitR n (fun i => σ 34 0 (14 * p + i)) (fun i => σ 35 0 (14 * p + i)) (fun i => σ 34 0 (14 * q + i)) (fun i => σ 35 0 (14 * q + i)) false false w) ∧ σ2 = σ) := by
  refine ct_i (maxL := 14) (ret := (some .boolean)) (by decide) rfl (Nat.le_of_ble_eq_true rfl) hA (fun K hl C => ?_)
  subst hl
  change WW K G _ _ σ [(0, .ref (gA G 30 (0))), (1, .int (nI p)), (2, .int (nI q)), (3, .int (nI w)), (4, .int (0)), (5, .int (0))] 0 []
  refine ww_aload_n C dX6_fits_0 rfl 0 rfl ?_
  refine ww_gr (j := 0) (k := 30) (f := 4) C rfl rfl (by decide) rfl in_X6_fits_X6 (by decide) lk_X6_fits_16 dX6_fits_1 rfl ?_
  refine ww_iload_n C dX6_fits_4 rfl 1 rfl ?_
  refine ww_iald (k := 33) (j := p) C rfl (by decide) (by decide) dX6_fits_5 rfl hp ?_
  rw [hs]
  refine ww_istore (fun y1 => [(6, .int (y1)), (0, .ref (gA G 30 (0))), (1, .int (nI p)), (2, .int (nI q)), (3, .int (nI w)), (4, .int (0)), (5, .int (0))]) C dX6_fits_6 (by decide) (fun _ => rfl) (fun y1 ey1 => ?_)
  obtain rfl : y1 = nI n := ey1
  refine ww_iconst (v := 0) C dX6_fits_8 rfl ?_
  refine ww_istore (fun y2 => [(7, .int (y2)), (6, .int (nI n)), (0, .ref (gA G 30 (0))), (1, .int (nI p)), (2, .int (nI q)), (3, .int (nI w)), (4, .int (0)), (5, .int (0))]) C dX6_fits_9 (by decide) (fun _ => rfl) (fun y2 ey2 => ?_)
  obtain rfl : y2 = nI 0 := (ey2.trans (by decide))
  exact ww_sub [0, 1, 2, 3, 4, 5, 6, 7] rfl (lp_X6_fits_00 hA C σ p q n hp hs hq hsq h3 hn w hw (n + 1) 0 (by omega) (by omega) rfl)
set_option maxHeartbeats 4000000 in
set_option maxRecDepth 100000 in
theorem lp_X6_fits_01 {K : Kx} {G : Gx} (hA : wa G) (C : CX K G cX6_fits 14 RX6 wsX6_fits (rmd 3) (some .boolean)) (σ : Sg) (p q n : Nat) (hp : p < 8) (hs : σ 33 0 p = nI n) (hq : q < 8) (hsq : σ 33 0 q = nI n) (h3 : 3 ≤ n) (hn : n ≤ 14) (w : Nat) (hw : w < n) : ∀ (f i : Nat), n - i < f → (i ≤ n) → (fndN (corRN n (fun i => σ 34 0 (14 * p + i)) (fun i => σ 35 0 (14 * p + i)) (fun i => σ 34 0 (14 * q + i)) (fun i => σ 35 0 (14 * q + i)) false true w) i n = fndN (corRN n (fun i => σ 34 0 (14 * p + i)) (fun i => σ 35 0 (14 * p + i)) (fun i => σ 34 0 (14 * q + i)) (fun i => σ 35 0 (14 * q + i)) false true w) 0 n) → WW K G 14 (QI K G (fun r σ2 => r = bI (fitR n (fun i => σ 34 0 (14 * p + i)) (fun i => σ 35 0 (14 * p + i)) (fun i => σ 34 0 (14 * q + i)) (fun i => σ 35 0 (14 * q + i)) false true w) ∧ σ2 = σ)) σ [(7, .int (nI i)), (6, .int (nI n)), (0, .ref (gA G 30 (0))), (1, .int (nI p)), (2, .int (nI q)), (3, .int (nI w)), (4, .int (0)), (5, .int (1))] 11 [] := by
  intro f
  induction f with
  | zero => intro i  h; exact absurd h (Nat.not_lt_zero _)
  | succ f ih =>
    intro i  hf hi hv
    refine ww_iload C dX6_fits_11 0 rfl ?_
    refine ww_iload C dX6_fits_13 1 rfl ?_
    refine ww_icmp_ge 245 C dX6_fits_15 (by decide) (fun h15 => ?_) (fun h15 => ?_)
    · have g15 : n ≤ i := (cv_le (a := n) (b := i) rfl rfl (by omega) (by omega)).mp h15
      refine ww_iconst (v := 1) C dX6_fits_245 rfl ?_
      refine ww_zret C dX6_fits_246 (by first | rfl | exact bI_n) ?_
      exact ⟨by rw [fitR, ← hv, fndN_end g15]; rfl, rfl⟩
    · have g15 : ¬ n ≤ i := fun q => h15 ((cv_le (a := n) (b := i) rfl rfl (by omega) (by omega)).mpr q)
      refine ww_aload_n C dX6_fits_18 rfl 2 rfl ?_
      refine ww_iload_n C dX6_fits_19 rfl 4 rfl ?_
      refine ww_iload_n C dX6_fits_20 rfl 5 rfl ?_
      refine ww_iload C dX6_fits_21 0 rfl ?_
      refine ww_iload C dX6_fits_23 6 rfl ?_
      refine ww_calliF (cx_V (n := 4) (As := [.int (nI q), .int (nI w), .int (nI i), .int (0)]) C  (c_X6_go_0 (kL K) G hA _ q n hq hsq h3 hn w i (by omega) (by omega)) gX6_fits_X6_go rfl ⟨rfl, rfl⟩ (by decide +kernel) (by decide) rfl (by decide) rfl rfl rfl (Nat.le_of_ble_eq_true rfl) dX6_fits_25) ?_
      refine ww_istore (fun ya => [(8, .int (ya)), (7, .int (nI i)), (6, .int (nI n)), (0, .ref (gA G 30 (0))), (1, .int (nI p)), (2, .int (nI q)), (3, .int (nI w)), (4, .int (0)), (5, .int (1))]) C dX6_fits_28 (by decide) (fun _ => rfl) (fun ya eya => ?_)
      obtain ⟨a, ha⟩ : ∃ z, z = goR false n w i := ⟨_, rfl⟩
      have ka : a < n := by rw [ha]; exact Nat.mod_lt _ (by omega)
      obtain rfl : ya = nI a := eya.trans (congrArg nI ha.symm)
      refine ww_aload_n C dX6_fits_30 rfl 3 rfl ?_
      refine ww_iload_n C dX6_fits_31 rfl 5 rfl ?_
      refine ww_iload_n C dX6_fits_32 rfl 6 rfl ?_
      refine ww_iload C dX6_fits_33 1 rfl ?_
      refine ww_iconst (v := 1) C dX6_fits_35 rfl ?_
      refine ww_iadd C dX6_fits_36 ?_
      rw [show (nI i) + (1) = nI (i + 1) from nI_add (i) (1)]
      refine ww_iload C dX6_fits_37 7 rfl ?_
      refine ww_calliF (cx_V (n := 4) (As := [.int (nI q), .int (nI w), .int (nI (i + 1)), .int (0)]) C  (c_X6_go_0 (kL K) G hA _ q n hq hsq h3 hn w (i + 1) (by omega) (by omega)) gX6_fits_X6_go rfl ⟨rfl, rfl⟩ (by decide +kernel) (by decide) rfl (by decide) rfl rfl rfl (Nat.le_of_ble_eq_true rfl) dX6_fits_39) ?_
      refine ww_istore (fun yb => [(9, .int (yb)), (8, .int (nI a)), (7, .int (nI i)), (6, .int (nI n)), (0, .ref (gA G 30 (0))), (1, .int (nI p)), (2, .int (nI q)), (3, .int (nI w)), (4, .int (0)), (5, .int (1))]) C dX6_fits_42 (by decide) (fun _ => rfl) (fun yb eyb => ?_)
      obtain ⟨b, hb⟩ : ∃ z, z = goR false n w (i + 1) := ⟨_, rfl⟩
      have kb : b < n := by rw [hb]; exact Nat.mod_lt _ (by omega)
      obtain rfl : yb = nI b := eyb.trans (congrArg nI hb.symm)
      refine ww_aload_n C dX6_fits_44 rfl 4 rfl ?_
      refine ww_iload_n C dX6_fits_45 rfl 6 rfl ?_
      refine ww_iload_n C dX6_fits_46 rfl 7 rfl ?_
      refine ww_iload C dX6_fits_47 2 rfl ?_
      refine ww_iconst (v := 2) C dX6_fits_49 rfl ?_
      refine ww_iadd C dX6_fits_50 ?_
      rw [show (nI i) + (2) = nI (i + 2) from nI_add (i) (2)]
      refine ww_iload C dX6_fits_51 8 rfl ?_
      refine ww_calliF (cx_V (n := 4) (As := [.int (nI q), .int (nI w), .int (nI (i + 2)), .int (0)]) C  (c_X6_go_0 (kL K) G hA _ q n hq hsq h3 hn w (i + 2) (by omega) (by omega)) gX6_fits_X6_go rfl ⟨rfl, rfl⟩ (by decide +kernel) (by decide) rfl (by decide) rfl rfl rfl (Nat.le_of_ble_eq_true rfl) dX6_fits_53) ?_
      refine ww_istore (fun yc => [(10, .int (yc)), (9, .int (nI b)), (8, .int (nI a)), (7, .int (nI i)), (6, .int (nI n)), (0, .ref (gA G 30 (0))), (1, .int (nI p)), (2, .int (nI q)), (3, .int (nI w)), (4, .int (0)), (5, .int (1))]) C dX6_fits_56 (by decide) (fun _ => rfl) (fun yc eyc => ?_)
      obtain ⟨c, hc⟩ : ∃ z, z = goR false n w (i + 2) := ⟨_, rfl⟩
      have kc : c < n := by rw [hc]; exact Nat.mod_lt _ (by omega)
      obtain rfl : yc = nI c := eyc.trans (congrArg nI hc.symm)
      refine ww_aload_n C dX6_fits_58 rfl 5 rfl ?_
      refine ww_iload_n C dX6_fits_59 rfl 7 rfl ?_
      refine ww_iload C dX6_fits_60 2 rfl ?_
      refine ww_calliF (cx_V (n := 2) (As := [.int (nI q), .int (nI a)]) C  (c_xOf_i (kL K) G hA _ q n hq hsq h3 hn a (by omega)) gX6_fits_X6_xOf rfl ⟨rfl, rfl⟩ (by decide +kernel) (by decide) rfl (by decide) rfl rfl rfl (Nat.le_of_ble_eq_true rfl) dX6_fits_62) ?_
      refine ww_aload_n C dX6_fits_65 rfl 5 rfl ?_
      refine ww_iload_n C dX6_fits_66 rfl 7 rfl ?_
      refine ww_iload C dX6_fits_67 2 rfl ?_
      refine ww_calliF (cx_V (n := 2) (As := [.int (nI q), .int (nI a)]) C  (c_yOf_i (kL K) G hA _ q n hq hsq h3 hn a (by omega)) gX6_fits_X6_yOf rfl ⟨rfl, rfl⟩ (by decide +kernel) (by decide) rfl (by decide) rfl rfl rfl (Nat.le_of_ble_eq_true rfl) dX6_fits_69) ?_
      refine ww_aload_n C dX6_fits_72 rfl 5 rfl ?_
      refine ww_iload_n C dX6_fits_73 rfl 7 rfl ?_
      refine ww_iload C dX6_fits_74 1 rfl ?_
      refine ww_calliF (cx_V (n := 2) (As := [.int (nI q), .int (nI b)]) C  (c_xOf_i (kL K) G hA _ q n hq hsq h3 hn b (by omega)) gX6_fits_X6_xOf rfl ⟨rfl, rfl⟩ (by decide +kernel) (by decide) rfl (by decide) rfl rfl rfl (Nat.le_of_ble_eq_true rfl) dX6_fits_76) ?_
      refine ww_aload_n C dX6_fits_79 rfl 5 rfl ?_
      refine ww_iload_n C dX6_fits_80 rfl 7 rfl ?_
      refine ww_iload C dX6_fits_81 1 rfl ?_
      refine ww_calliF (cx_V (n := 2) (As := [.int (nI q), .int (nI b)]) C  (c_yOf_i (kL K) G hA _ q n hq hsq h3 hn b (by omega)) gX6_fits_X6_yOf rfl ⟨rfl, rfl⟩ (by decide +kernel) (by decide) rfl (by decide) rfl rfl rfl (Nat.le_of_ble_eq_true rfl) dX6_fits_83) ?_
      refine ww_aload_n C dX6_fits_86 rfl 5 rfl ?_
      refine ww_iload_n C dX6_fits_87 rfl 7 rfl ?_
      refine ww_iload C dX6_fits_88 0 rfl ?_
      refine ww_calliF (cx_V (n := 2) (As := [.int (nI q), .int (nI c)]) C  (c_xOf_i (kL K) G hA _ q n hq hsq h3 hn c (by omega)) gX6_fits_X6_xOf rfl ⟨rfl, rfl⟩ (by decide +kernel) (by decide) rfl (by decide) rfl rfl rfl (Nat.le_of_ble_eq_true rfl) dX6_fits_90) ?_
      refine ww_aload_n C dX6_fits_93 rfl 5 rfl ?_
      refine ww_iload_n C dX6_fits_94 rfl 7 rfl ?_
      refine ww_iload C dX6_fits_95 0 rfl ?_
      refine ww_calliF (cx_V (n := 2) (As := [.int (nI q), .int (nI c)]) C  (c_yOf_i (kL K) G hA _ q n hq hsq h3 hn c (by omega)) gX6_fits_X6_yOf rfl ⟨rfl, rfl⟩ (by decide +kernel) (by decide) rfl (by decide) rfl rfl rfl (Nat.le_of_ble_eq_true rfl) dX6_fits_97) ?_
      refine ww_calliF (cx_S (n := 6) (As := [.int (σ 34 0 (14 * q + a)), .int (σ 35 0 (14 * q + a)), .int (σ 34 0 (14 * q + b)), .int (σ 35 0 (14 * q + b)), .int (σ 34 0 (14 * q + c)), .int (σ 35 0 (14 * q + c))]) C  (c_X6_turn (kL K) G hA _ _ _ _ _ _ _) gX6_fits_X6_turn rfl ⟨rfl, rfl⟩ (by decide +kernel) (by decide) rfl rfl (Nat.le_of_ble_eq_true rfl) dX6_fits_100) ?_
      refine ww_istore (fun y1 => [(11, .int (y1)), (10, .int (nI c)), (9, .int (nI b)), (8, .int (nI a)), (7, .int (nI i)), (6, .int (nI n)), (0, .ref (gA G 30 (0))), (1, .int (nI p)), (2, .int (nI q)), (3, .int (nI w)), (4, .int (0)), (5, .int (1))]) C dX6_fits_103 (by decide) (fun _ => rfl) (fun y1 ey1 => ?_)
      rw [ey1]; clear ey1 y1
      refine ww_aload_n C dX6_fits_105 rfl 6 rfl ?_
      refine ww_iload_n C dX6_fits_106 rfl 7 rfl ?_
      refine ww_iload C dX6_fits_107 4 rfl ?_
      refine ww_calliF (cx_V (n := 2) (As := [.int (nI p), .int (nI i)]) C  (c_xOf_i (kL K) G hA _ p n hp hs h3 hn i (by omega)) gX6_fits_X6_xOf rfl ⟨rfl, rfl⟩ (by decide +kernel) (by decide) rfl (by decide) rfl rfl rfl (Nat.le_of_ble_eq_true rfl) dX6_fits_109) ?_
      refine ww_aload_n C dX6_fits_112 rfl 6 rfl ?_
      refine ww_iload_n C dX6_fits_113 rfl 7 rfl ?_
      refine ww_iload C dX6_fits_114 4 rfl ?_
      refine ww_calliF (cx_V (n := 2) (As := [.int (nI p), .int (nI i)]) C  (c_yOf_i (kL K) G hA _ p n hp hs h3 hn i (by omega)) gX6_fits_X6_yOf rfl ⟨rfl, rfl⟩ (by decide +kernel) (by decide) rfl (by decide) rfl rfl rfl (Nat.le_of_ble_eq_true rfl) dX6_fits_116) ?_
      refine ww_aload_n C dX6_fits_119 rfl 6 rfl ?_
      refine ww_iload_n C dX6_fits_120 rfl 7 rfl ?_
      refine ww_iload C dX6_fits_121 4 rfl ?_
      refine ww_iconst (v := 1) C dX6_fits_123 rfl ?_
      refine ww_iadd C dX6_fits_124 ?_
      rw [show (nI i) + (1) = nI (i + 1) from nI_add (i) (1)]
      refine ww_calliF (cx_V (n := 2) (As := [.int (nI p), .int (nI (i + 1))]) C  (c_xOf_s (kL K) G hA _ p n hp hs h3 hn i (by omega)) gX6_fits_X6_xOf rfl ⟨rfl, rfl⟩ (by decide +kernel) (by decide) rfl (by decide) rfl rfl rfl (Nat.le_of_ble_eq_true rfl) dX6_fits_125) ?_
      refine ww_aload_n C dX6_fits_128 rfl 6 rfl ?_
      refine ww_iload_n C dX6_fits_129 rfl 7 rfl ?_
      refine ww_iload C dX6_fits_130 4 rfl ?_
      refine ww_iconst (v := 1) C dX6_fits_132 rfl ?_
      refine ww_iadd C dX6_fits_133 ?_
      rw [show (nI i) + (1) = nI (i + 1) from nI_add (i) (1)]
      refine ww_calliF (cx_V (n := 2) (As := [.int (nI p), .int (nI (i + 1))]) C  (c_yOf_s (kL K) G hA _ p n hp hs h3 hn i (by omega)) gX6_fits_X6_yOf rfl ⟨rfl, rfl⟩ (by decide +kernel) (by decide) rfl (by decide) rfl rfl rfl (Nat.le_of_ble_eq_true rfl) dX6_fits_134) ?_
      refine ww_aload_n C dX6_fits_137 rfl 6 rfl ?_
      refine ww_iload_n C dX6_fits_138 rfl 7 rfl ?_
      refine ww_iload C dX6_fits_139 4 rfl ?_
      refine ww_iconst (v := 2) C dX6_fits_141 rfl ?_
      refine ww_iadd C dX6_fits_142 ?_
      rw [show (nI i) + (2) = nI (i + 2) from nI_add (i) (2)]
      refine ww_calliF (cx_V (n := 2) (As := [.int (nI p), .int (nI (i + 2))]) C  (c_xOf_ss (kL K) G hA _ p n hp hs h3 hn i (by omega)) gX6_fits_X6_xOf rfl ⟨rfl, rfl⟩ (by decide +kernel) (by decide) rfl (by decide) rfl rfl rfl (Nat.le_of_ble_eq_true rfl) dX6_fits_143) ?_
      refine ww_aload_n C dX6_fits_146 rfl 6 rfl ?_
      refine ww_iload_n C dX6_fits_147 rfl 7 rfl ?_
      refine ww_iload C dX6_fits_148 4 rfl ?_
      refine ww_iconst (v := 2) C dX6_fits_150 rfl ?_
      refine ww_iadd C dX6_fits_151 ?_
      rw [show (nI i) + (2) = nI (i + 2) from nI_add (i) (2)]
      refine ww_calliF (cx_V (n := 2) (As := [.int (nI p), .int (nI (i + 2))]) C  (c_yOf_ss (kL K) G hA _ p n hp hs h3 hn i (by omega)) gX6_fits_X6_yOf rfl ⟨rfl, rfl⟩ (by decide +kernel) (by decide) rfl (by decide) rfl rfl rfl (Nat.le_of_ble_eq_true rfl) dX6_fits_152) ?_
      refine ww_calliF (cx_S (n := 6) (As := [.int (σ 34 0 (14 * p + i)), .int (σ 35 0 (14 * p + i)), .int (σ 34 0 (14 * p + af n i)), .int (σ 35 0 (14 * p + af n i)), .int (σ 34 0 (14 * p + af n (af n i))), .int (σ 35 0 (14 * p + af n (af n i)))]) C  (c_X6_turn (kL K) G hA _ _ _ _ _ _ _) gX6_fits_X6_turn rfl ⟨rfl, rfl⟩ (by decide +kernel) (by decide) rfl rfl (Nat.le_of_ble_eq_true rfl) dX6_fits_155) ?_
      refine ww_istore (fun y2 => [(12, .int (y2)), (11, .int (tnR (σ 34 0 (14 * q + a)) (σ 35 0 (14 * q + a)) (σ 34 0 (14 * q + b)) (σ 35 0 (14 * q + b)) (σ 34 0 (14 * q + c)) (σ 35 0 (14 * q + c)))), (10, .int (nI c)), (9, .int (nI b)), (8, .int (nI a)), (7, .int (nI i)), (6, .int (nI n)), (0, .ref (gA G 30 (0))), (1, .int (nI p)), (2, .int (nI q)), (3, .int (nI w)), (4, .int (0)), (5, .int (1))]) C dX6_fits_158 (by decide) (fun _ => rfl) (fun y2 ey2 => ?_)
      rw [ey2]; clear ey2 y2
      refine ww_aload_n C dX6_fits_160 rfl 7 rfl ?_
      refine ww_iload_n C dX6_fits_161 rfl 9 rfl ?_
      refine ww_iload C dX6_fits_162 4 rfl ?_
      refine ww_iload C dX6_fits_164 3 rfl ?_
      refine ww_calliF (cx_V (n := 3) (As := [.int (nI q), .int (nI a), .int (nI b)]) C  (c_X6_square (kL K) G hA _ q n hq hsq h3 hn a b (by omega) (by omega)) gX6_fits_X6_square rfl ⟨rfl, rfl⟩ (by decide +kernel) (by decide) rfl (by decide) rfl rfl rfl (Nat.le_of_ble_eq_true rfl) dX6_fits_166) ?_
      refine ww_aload_n C dX6_fits_169 rfl 7 rfl ?_
      refine ww_iload_n C dX6_fits_170 rfl 8 rfl ?_
      refine ww_iload C dX6_fits_171 5 rfl ?_
      refine ww_iload C dX6_fits_173 5 rfl ?_
      refine ww_iconst (v := 1) C dX6_fits_175 rfl ?_
      refine ww_iadd C dX6_fits_176 ?_
      rw [show (nI i) + (1) = nI (i + 1) from nI_add (i) (1)]
      refine ww_calliF (cx_V (n := 3) (As := [.int (nI p), .int (nI i), .int (nI (i + 1))]) C  (c_sq_s (kL K) G hA _ p n hp hs h3 hn i (by omega)) gX6_fits_X6_square rfl ⟨rfl, rfl⟩ (by decide +kernel) (by decide) rfl (by decide) rfl rfl rfl (Nat.le_of_ble_eq_true rfl) dX6_fits_177) ?_
      refine ww_icmp_ne 210 C dX6_fits_180 (by decide) (fun h180 => ?_) (fun h180 => ?_)
      · refine ww_iconst (v := 0) C dX6_fits_210 rfl ?_
        refine ww_istore (fun y3 => [(13, .int (y3)), (12, .int (tnR (σ 34 0 (14 * p + i)) (σ 35 0 (14 * p + i)) (σ 34 0 (14 * p + af n i)) (σ 35 0 (14 * p + af n i)) (σ 34 0 (14 * p + af n (af n i))) (σ 35 0 (14 * p + af n (af n i))))), (11, .int (tnR (σ 34 0 (14 * q + a)) (σ 35 0 (14 * q + a)) (σ 34 0 (14 * q + b)) (σ 35 0 (14 * q + b)) (σ 34 0 (14 * q + c)) (σ 35 0 (14 * q + c)))), (10, .int (nI c)), (9, .int (nI b)), (8, .int (nI a)), (7, .int (nI i)), (6, .int (nI n)), (0, .ref (gA G 30 (0))), (1, .int (nI p)), (2, .int (nI q)), (3, .int (nI w)), (4, .int (0)), (5, .int (1))]) C dX6_fits_211 (by decide) (fun _ => rfl) (fun y3 ey3 => ?_)
        obtain rfl : y3 = nI 0 := (ey3.trans (by decide))
        refine ww_iload C dX6_fits_213 0 rfl ?_
        refine ww_if_eq 237 C dX6_fits_215 (by decide) (fun h215 => ?_) (fun h215 => ?_)
        · have g215 : 0 = 0 := (cv_eq (a := 0) (b := 0) rfl (by decide) (by omega) (by omega)).mp h215
          refine ww_iconst (v := 0) C dX6_fits_237 rfl ?_
          refine ww_zret C dX6_fits_238 (by first | rfl | exact bI_n) ?_
          exact ⟨by rw [fitR, ← hv, fndN_t (by omega) (show (corRN n (fun i => σ 34 0 (14 * p + i)) (fun i => σ 35 0 (14 * p + i)) (fun i => σ 34 0 (14 * q + i)) (fun i => σ 35 0 (14 * q + i)) false true w) i = true from congrArg (!·) (show corR n _ _ _ _ _ _ _ _ _ = false from by rw [corR, ← ha, ← hb, ← hc]; exact nand1 (decide_eq_false h180)))]; rfl, rfl⟩
        · have g215 : ¬ 0 = 0 := fun q => h215 ((cv_eq (a := 0) (b := 0) rfl (by decide) (by omega) (by omega)).mpr q)
          exact absurd g215 (by decide)
      · refine ww_aload_n C dX6_fits_183 rfl 7 rfl ?_
        refine ww_iload_n C dX6_fits_184 rfl 9 rfl ?_
        refine ww_iload C dX6_fits_185 4 rfl ?_
        refine ww_iload C dX6_fits_187 2 rfl ?_
        refine ww_calliF (cx_V (n := 3) (As := [.int (nI q), .int (nI a), .int (nI c)]) C  (c_X6_square (kL K) G hA _ q n hq hsq h3 hn a c (by omega) (by omega)) gX6_fits_X6_square rfl ⟨rfl, rfl⟩ (by decide +kernel) (by decide) rfl (by decide) rfl rfl rfl (Nat.le_of_ble_eq_true rfl) dX6_fits_189) ?_
        refine ww_aload_n C dX6_fits_192 rfl 7 rfl ?_
        refine ww_iload_n C dX6_fits_193 rfl 8 rfl ?_
        refine ww_iload C dX6_fits_194 5 rfl ?_
        refine ww_iload C dX6_fits_196 5 rfl ?_
        refine ww_iconst (v := 2) C dX6_fits_198 rfl ?_
        refine ww_iadd C dX6_fits_199 ?_
        rw [show (nI i) + (2) = nI (i + 2) from nI_add (i) (2)]
        refine ww_calliF (cx_V (n := 3) (As := [.int (nI p), .int (nI i), .int (nI (i + 2))]) C  (c_sq_ss (kL K) G hA _ p n hp hs h3 hn i (by omega)) gX6_fits_X6_square rfl ⟨rfl, rfl⟩ (by decide +kernel) (by decide) rfl (by decide) rfl rfl rfl (Nat.le_of_ble_eq_true rfl) dX6_fits_200) ?_
        refine ww_icmp_ne 210 C dX6_fits_203 (by decide) (fun h203 => ?_) (fun h203 => ?_)
        · refine ww_iconst (v := 0) C dX6_fits_210 rfl ?_
          refine ww_istore (fun y4 => [(13, .int (y4)), (12, .int (tnR (σ 34 0 (14 * p + i)) (σ 35 0 (14 * p + i)) (σ 34 0 (14 * p + af n i)) (σ 35 0 (14 * p + af n i)) (σ 34 0 (14 * p + af n (af n i))) (σ 35 0 (14 * p + af n (af n i))))), (11, .int (tnR (σ 34 0 (14 * q + a)) (σ 35 0 (14 * q + a)) (σ 34 0 (14 * q + b)) (σ 35 0 (14 * q + b)) (σ 34 0 (14 * q + c)) (σ 35 0 (14 * q + c)))), (10, .int (nI c)), (9, .int (nI b)), (8, .int (nI a)), (7, .int (nI i)), (6, .int (nI n)), (0, .ref (gA G 30 (0))), (1, .int (nI p)), (2, .int (nI q)), (3, .int (nI w)), (4, .int (0)), (5, .int (1))]) C dX6_fits_211 (by decide) (fun _ => rfl) (fun y4 ey4 => ?_)
          obtain rfl : y4 = nI 0 := (ey4.trans (by decide))
          refine ww_iload C dX6_fits_213 0 rfl ?_
          refine ww_if_eq 237 C dX6_fits_215 (by decide) (fun h215 => ?_) (fun h215 => ?_)
          · have g215 : 0 = 0 := (cv_eq (a := 0) (b := 0) rfl (by decide) (by omega) (by omega)).mp h215
            refine ww_iconst (v := 0) C dX6_fits_237 rfl ?_
            refine ww_zret C dX6_fits_238 (by first | rfl | exact bI_n) ?_
            exact ⟨by rw [fitR, ← hv, fndN_t (by omega) (show (corRN n (fun i => σ 34 0 (14 * p + i)) (fun i => σ 35 0 (14 * p + i)) (fun i => σ 34 0 (14 * q + i)) (fun i => σ 35 0 (14 * q + i)) false true w) i = true from congrArg (!·) (show corR n _ _ _ _ _ _ _ _ _ = false from by rw [corR, ← ha, ← hb, ← hc]; exact nand2 (decide_eq_false h203)))]; rfl, rfl⟩
          · have g215 : ¬ 0 = 0 := fun q => h215 ((cv_eq (a := 0) (b := 0) rfl (by decide) (by omega) (by omega)).mpr q)
            exact absurd g215 (by decide)
        · refine ww_iconst (v := 1) C dX6_fits_206 rfl ?_
          refine ww_goto 211 C dX6_fits_207 (by decide) ?_
          refine ww_istore (fun y5 => [(13, .int (y5)), (12, .int (tnR (σ 34 0 (14 * p + i)) (σ 35 0 (14 * p + i)) (σ 34 0 (14 * p + af n i)) (σ 35 0 (14 * p + af n i)) (σ 34 0 (14 * p + af n (af n i))) (σ 35 0 (14 * p + af n (af n i))))), (11, .int (tnR (σ 34 0 (14 * q + a)) (σ 35 0 (14 * q + a)) (σ 34 0 (14 * q + b)) (σ 35 0 (14 * q + b)) (σ 34 0 (14 * q + c)) (σ 35 0 (14 * q + c)))), (10, .int (nI c)), (9, .int (nI b)), (8, .int (nI a)), (7, .int (nI i)), (6, .int (nI n)), (0, .ref (gA G 30 (0))), (1, .int (nI p)), (2, .int (nI q)), (3, .int (nI w)), (4, .int (0)), (5, .int (1))]) C dX6_fits_211 (by decide) (fun _ => rfl) (fun y5 ey5 => ?_)
          obtain rfl : y5 = nI 1 := (ey5.trans (by decide))
          refine ww_iload C dX6_fits_213 0 rfl ?_
          refine ww_if_eq 237 C dX6_fits_215 (by decide) (fun h215 => ?_) (fun h215 => ?_)
          · have g215 : 1 = 0 := (cv_eq (a := 1) (b := 0) rfl (by decide) (by omega) (by omega)).mp h215
            exact absurd g215 (by decide)
          · have g215 : ¬ 1 = 0 := fun q => h215 ((cv_eq (a := 1) (b := 0) rfl (by decide) (by omega) (by omega)).mpr q)
            refine ww_iload C dX6_fits_218 2 rfl ?_
            refine ww_iload C dX6_fits_220 13 rfl ?_
            refine ww_if_eq 232 C dX6_fits_222 (by decide) (fun h222 => ?_) (fun h222 => ?_)
            · have g222 : 1 = 0 := (cv_eq (a := 1) (b := 0) (by decide) (by decide) (by omega) (by omega)).mp h222
              exact absurd g222 (by decide)
            · have g222 : ¬ 1 = 0 := fun q => h222 ((cv_eq (a := 1) (b := 0) (by decide) (by decide) (by omega) (by omega)).mpr q)
              refine ww_iconst (v := 0) C dX6_fits_225 rfl ?_
              refine ww_iload C dX6_fits_226 1 rfl ?_
              refine ww_isub C dX6_fits_228 ?_
              refine ww_goto 234 C dX6_fits_229 (by decide) ?_
              refine ww_icmp_eq 239 C dX6_fits_234 (by decide) (fun h234 => ?_) (fun h234 => ?_)
              · refine ww_iinc (q := 6) (fun y6 => [(7, .int (y6)), (13, .int (nI 1)), (12, .int (tnR (σ 34 0 (14 * p + i)) (σ 35 0 (14 * p + i)) (σ 34 0 (14 * p + af n i)) (σ 35 0 (14 * p + af n i)) (σ 34 0 (14 * p + af n (af n i))) (σ 35 0 (14 * p + af n (af n i))))), (11, .int (tnR (σ 34 0 (14 * q + a)) (σ 35 0 (14 * q + a)) (σ 34 0 (14 * q + b)) (σ 35 0 (14 * q + b)) (σ 34 0 (14 * q + c)) (σ 35 0 (14 * q + c)))), (10, .int (nI c)), (9, .int (nI b)), (8, .int (nI a)), (6, .int (nI n)), (0, .ref (gA G 30 (0))), (1, .int (nI p)), (2, .int (nI q)), (3, .int (nI w)), (4, .int (0)), (5, .int (1))]) C dX6_fits_239 rfl (by decide) (fun _ => rfl) (fun y6 ey6 => ?_)
                obtain rfl : y6 = nI (i + 1) := ninc rfl ey6
                refine ww_goto 11 C dX6_fits_242 (by decide) ?_
                exact ww_sub [0, 7, 8, 9, 10, 11, 12, 13] rfl (ih (i + 1) (by omega) (by omega) (by rw [← fndN_f (by omega) (show (corRN n (fun i => σ 34 0 (14 * p + i)) (fun i => σ 35 0 (14 * p + i)) (fun i => σ 34 0 (14 * q + i)) (fun i => σ 35 0 (14 * q + i)) false true w) i = false from congrArg (!·) (show corR n _ _ _ _ _ _ _ _ _ = true from by rw [corR, ← ha, ← hb, ← hc]; exact and3 (decide_eq_true h180) (decide_eq_true h203) (decide_eq_true h234)))]; exact hv))
              · refine ww_iconst (v := 0) C dX6_fits_237 rfl ?_
                refine ww_zret C dX6_fits_238 (by first | rfl | exact bI_n) ?_
                exact ⟨by rw [fitR, ← hv, fndN_t (by omega) (show (corRN n (fun i => σ 34 0 (14 * p + i)) (fun i => σ 35 0 (14 * p + i)) (fun i => σ 34 0 (14 * q + i)) (fun i => σ 35 0 (14 * q + i)) false true w) i = true from congrArg (!·) (show corR n _ _ _ _ _ _ _ _ _ = false from by rw [corR, ← ha, ← hb, ← hc]; exact nand3 (decide_eq_false h234)))]; rfl, rfl⟩
set_option maxHeartbeats 4000000 in
set_option maxRecDepth 100000 in
theorem c_X6_fits_01 (l : Launch) (G : Gx) (hA : wa G) (σ : Sg) (p q n : Nat) (hp : p < 8) (hs : σ 33 0 p = nI n) (hq : q < 8) (hsq : σ 33 0 q = nI n) (h3 : 3 ≤ n) (hn : n ≤ 14) (w : Nat) (hw : w < n) : CtI l yX6_fits wsX6_fits (rmd 3) G [.ref (gA G 30 (0)), .int (nI p), .int (nI q), .int (nI w), .int (0), .int (1)] σ (fun r σ2 => r = bI (fitR n (fun i => σ 34 0 (14 * p + i)) (fun i => σ 35 0 (14 * p + i)) (fun i => σ 34 0 (14 * q + i)) (fun i => σ 35 0 (14 * q + i)) false true w) ∧ σ2 = σ) := by
  refine ct_i (maxL := 14) (ret := (some .boolean)) (by decide) rfl (Nat.le_of_ble_eq_true rfl) hA (fun K hl C => ?_)
  subst hl
  change WW K G _ _ σ [(0, .ref (gA G 30 (0))), (1, .int (nI p)), (2, .int (nI q)), (3, .int (nI w)), (4, .int (0)), (5, .int (1))] 0 []
  refine ww_aload_n C dX6_fits_0 rfl 0 rfl ?_
  refine ww_gr (j := 0) (k := 30) (f := 4) C rfl rfl (by decide) rfl in_X6_fits_X6 (by decide) lk_X6_fits_16 dX6_fits_1 rfl ?_
  refine ww_iload_n C dX6_fits_4 rfl 1 rfl ?_
  refine ww_iald (k := 33) (j := p) C rfl (by decide) (by decide) dX6_fits_5 rfl hp ?_
  rw [hs]
  refine ww_istore (fun y1 => [(6, .int (y1)), (0, .ref (gA G 30 (0))), (1, .int (nI p)), (2, .int (nI q)), (3, .int (nI w)), (4, .int (0)), (5, .int (1))]) C dX6_fits_6 (by decide) (fun _ => rfl) (fun y1 ey1 => ?_)
  obtain rfl : y1 = nI n := ey1
  refine ww_iconst (v := 0) C dX6_fits_8 rfl ?_
  refine ww_istore (fun y2 => [(7, .int (y2)), (6, .int (nI n)), (0, .ref (gA G 30 (0))), (1, .int (nI p)), (2, .int (nI q)), (3, .int (nI w)), (4, .int (0)), (5, .int (1))]) C dX6_fits_9 (by decide) (fun _ => rfl) (fun y2 ey2 => ?_)
  obtain rfl : y2 = nI 0 := (ey2.trans (by decide))
  exact ww_sub [0, 1, 2, 3, 4, 5, 6, 7] rfl (lp_X6_fits_01 hA C σ p q n hp hs hq hsq h3 hn w hw (n + 1) 0 (by omega) (by omega) rfl)
