theorem in_X3_triangleCount_X3 : ∀ w ∈ wsX30, w ∈ wsX3_triangleCount := by decide +kernel
theorem lk_X3_triangleCount_12 : Cond.fieldLink RX3 12 "PolyCuts$Shape" "corners" "LPolyCuts$Corners;" ∈ wsX3_triangleCount := by decide +kernel
theorem in_X3_triangleCount_X1 : ∀ w ∈ wsX10, w ∈ wsX3_triangleCount := by decide +kernel
theorem lk_X3_triangleCount_59 : Cond.fieldLink RX3 59 "PolyCuts$Corners" "size" "I" ∈ wsX3_triangleCount := by decide +kernel
theorem in_X3_diagonalCount_X3 : ∀ w ∈ wsX30, w ∈ wsX3_diagonalCount := by decide +kernel
theorem lk_X3_diagonalCount_12 : Cond.fieldLink RX3 12 "PolyCuts$Shape" "corners" "LPolyCuts$Corners;" ∈ wsX3_diagonalCount := by decide +kernel
theorem in_X3_diagonalCount_X1 : ∀ w ∈ wsX10, w ∈ wsX3_diagonalCount := by decide +kernel
theorem lk_X3_diagonalCount_59 : Cond.fieldLink RX3 59 "PolyCuts$Corners" "size" "I" ∈ wsX3_diagonalCount := by decide +kernel
theorem in_X3_hand_X3 : ∀ w ∈ wsX30, w ∈ wsX3_hand := by decide +kernel
theorem lk_X3_hand_23 : Cond.fieldLink RX3 23 "PolyCuts$Shape" "doubleArea" "I" ∈ wsX3_hand := by decide +kernel
theorem in_X3_crossOfEdge_X3 : ∀ w ∈ wsX30, w ∈ wsX3_crossOfEdge := by decide +kernel
theorem lk_X3_crossOfEdge_12 : Cond.fieldLink RX3 12 "PolyCuts$Shape" "corners" "LPolyCuts$Corners;" ∈ wsX3_crossOfEdge := by decide +kernel
theorem in_X3_crossOfEdge_X1 : ∀ w ∈ wsX10, w ∈ wsX3_crossOfEdge := by decide +kernel
theorem lk_X3_crossOfEdge_77 : Cond.fieldLink RX3 77 "PolyCuts$Corners" "x" "[I" ∈ wsX3_crossOfEdge := by decide +kernel
theorem lk_X3_crossOfEdge_80 : Cond.fieldLink RX3 80 "PolyCuts$Corners" "y" "[I" ∈ wsX3_crossOfEdge := by decide +kernel
theorem in_X3_isFree_X3 : ∀ w ∈ wsX30, w ∈ wsX3_isFree := by decide +kernel
theorem lk_X3_isFree_12 : Cond.fieldLink RX3 12 "PolyCuts$Shape" "corners" "LPolyCuts$Corners;" ∈ wsX3_isFree := by decide +kernel
theorem in_X3_isFree_X1 : ∀ w ∈ wsX10, w ∈ wsX3_isFree := by decide +kernel
theorem lk_X3_isFree_59 : Cond.fieldLink RX3 59 "PolyCuts$Corners" "size" "I" ∈ wsX3_isFree := by decide +kernel
theorem in_X3_placeOf_X3 : ∀ w ∈ wsX30, w ∈ wsX3_placeOf := by decide +kernel
theorem lk_X3_placeOf_12 : Cond.fieldLink RX3 12 "PolyCuts$Shape" "corners" "LPolyCuts$Corners;" ∈ wsX3_placeOf := by decide +kernel
theorem in_X3_placeOf_X1 : ∀ w ∈ wsX10, w ∈ wsX3_placeOf := by decide +kernel
theorem lk_X3_placeOf_59 : Cond.fieldLink RX3 59 "PolyCuts$Corners" "size" "I" ∈ wsX3_placeOf := by decide +kernel
theorem lk_X3_placeOf_77 : Cond.fieldLink RX3 77 "PolyCuts$Corners" "x" "[I" ∈ wsX3_placeOf := by decide +kernel
theorem lk_X3_placeOf_80 : Cond.fieldLink RX3 80 "PolyCuts$Corners" "y" "[I" ∈ wsX3_placeOf := by decide +kernel
theorem in_X3_look_X3 : ∀ w ∈ wsX30, w ∈ wsX3_look := by decide +kernel
theorem lk_X3_look_12 : Cond.fieldLink RX3 12 "PolyCuts$Shape" "corners" "LPolyCuts$Corners;" ∈ wsX3_look := by decide +kernel
theorem in_X3_look_X1 : ∀ w ∈ wsX10, w ∈ wsX3_look := by decide +kernel
theorem lk_X3_look_77 : Cond.fieldLink RX3 77 "PolyCuts$Corners" "x" "[I" ∈ wsX3_look := by decide +kernel
theorem lk_X3_look_80 : Cond.fieldLink RX3 80 "PolyCuts$Corners" "y" "[I" ∈ wsX3_look := by decide +kernel
def crs9 (n : Nat) (x y : Nat → Int32) (i : Nat) : Int32 := x i * y (af n i) - y i * x (af n i)
def sumN (f : Nat → Int32) : Nat → Int32
  | 0 => 0
  | i + 1 => sumN f i + f i
def hnd (a : Int32) : Int32 := if 0 < a then 1 else -1
def freeP (n : Nat) (x y : Nat → Int32) (i j : Nat) : Nat → Bool := fun a => !(decide (a = i) || decide (a = j) || decide (af n a = i) || decide (af n a = j)) && meetC x y i j a (af n a)
def plcF (on cr : Nat → Bool) : Nat → Nat → Bool → Int32
  | _, 0, b => if b then 2 else 0
  | i, d + 1, b => if on i then 1 else plcF on cr (i + 1) d (b ^^ cr i)
def plcN (on cr : Nat → Bool) (i n : Nat) (b : Bool) : Int32 := plcF on cr i (n - i) b
theorem plcN_end {on cr : Nat → Bool} {i n : Nat} {b : Bool} (h : n ≤ i) : plcN on cr i n b = if b then 2 else 0 := by rw [plcN, Nat.sub_eq_zero_of_le h]; rfl
theorem plcN_on {on cr : Nat → Bool} {i n : Nat} {b : Bool} (h : i < n) (ho : on i = true) : plcN on cr i n b = 1 := by
  rw [plcN, show n - i = (n - (i + 1)) + 1 by omega, plcF, ho]; rfl
theorem plcN_step {on cr : Nat → Bool} {i n : Nat} {b : Bool} (h : i < n) (ho : on i = false) : plcN on cr i n b = plcN on cr (i + 1) n (b ^^ cr i) := by
  rw [plcN, show n - i = (n - (i + 1)) + 1 by omega, plcF, ho]; rfl
def sidC (n : Nat) (x y : Nat → Int32) (px py sc : Int32) (i : Nat) : Int32 := (x i * sc - px) * (y (af n i) * sc - py) - (y i * sc - py) * (x (af n i) * sc - px)
def onC (n : Nat) (x y : Nat → Int32) (px py sc : Int32) : Nat → Bool := fun i => decide (sidC n x y px py sc i = 0) && decide ((x i * sc - px) * (x (af n i) * sc - px) ≤ 0) && decide ((y i * sc - py) * (y (af n i) * sc - py) ≤ 0)
def crC (n : Nat) (x y : Nat → Int32) (px py sc : Int32) : Nat → Bool := fun i => (decide (0 < y i * sc - py) ^^ decide (0 < y (af n i) * sc - py)) && (decide (0 < sidC n x y px py sc i) == decide (y i * sc - py < y (af n i) * sc - py))
def plcC (n : Nat) (x y : Nat → Int32) (px py sc : Int32) : Int32 := plcN (onC n x y px py sc) (crC n x y px py sc) 0 n false
def lookF (n : Nat) (x y : Nat → Int32) (i j : Nat) : Int32 := if af n i = j ∨ af n j = i then 2 else if fndN (freeP n x y i j) 0 n = none ∧ plcC n x y (x i + x j) (y i + y j) 2 = 2 then 1 else 0
theorem bI_ne {a b : Bool} : ¬ bI a = bI b ↔ (a ^^ b) = true := by cases a <;> cases b <;> decide
theorem bI_eq {a b : Bool} : bI a = bI b ↔ (a ^^ b) = false := by cases a <;> cases b <;> decide
theorem bI_not {b : Bool} : bI (decide (¬ ¬ bI b = 0)) = bI (!b) := by cases b <;> decide
set_option maxHeartbeats 4000000 in
set_option maxRecDepth 100000 in
theorem c_X3_triangleCount (l : Launch) (G : Gx) (hA : wa G) (σ : Sg) (p n : Nat) (hp : p < 8) (hs : σ 14 (p + 1) 2 = nI n) (hn : n ≤ 14) : CtI l yX3_triangleCount wsX3_triangleCount (rmd 1) G [.ref (gA G 17 (p))] σ (fun r σ' => r = nI n - 2 ∧ σ' = σ) := by
  refine ct_i (maxL := 1) (ret := (some .int)) (by decide) rfl (Nat.le_of_ble_eq_true rfl) hA (fun K hl C => ?_)
  subst hl
  change WW K G _ _ σ [(0, .ref (gA G 17 (p)))] 0 []
  refine ww_aload_n C dX3_triangleCount_0 rfl 0 rfl ?_
  refine ww_gr (j := p + 1) (k := 17) (f := 0) C rfl rfl hp rfl in_X3_triangleCount_X3 (by decide) lk_X3_triangleCount_12 dX3_triangleCount_1 rfl ?_
  refine ww_gi (k := 14) (f := 2) C rfl rfl (Nat.add_lt_add_right hp 1) rfl in_X3_triangleCount_X1 (by decide) lk_X3_triangleCount_59 dX3_triangleCount_4 ?_
  refine ww_iconst (v := 2) C dX3_triangleCount_7 rfl ?_
  refine ww_isub C dX3_triangleCount_8 ?_
  refine ww_iret C dX3_triangleCount_9 ?_
  exact ⟨by rw [hs], rfl⟩
set_option maxHeartbeats 4000000 in
set_option maxRecDepth 100000 in
theorem c_X3_diagonalCount (l : Launch) (G : Gx) (hA : wa G) (σ : Sg) (p n : Nat) (hp : p < 8) (hs : σ 14 (p + 1) 2 = nI n) (hn : n ≤ 14) : CtI l yX3_diagonalCount wsX3_diagonalCount (rmd 1) G [.ref (gA G 17 (p))] σ (fun r σ' => r = nI n - 3 ∧ σ' = σ) := by
  refine ct_i (maxL := 1) (ret := (some .int)) (by decide) rfl (Nat.le_of_ble_eq_true rfl) hA (fun K hl C => ?_)
  subst hl
  change WW K G _ _ σ [(0, .ref (gA G 17 (p)))] 0 []
  refine ww_aload_n C dX3_diagonalCount_0 rfl 0 rfl ?_
  refine ww_gr (j := p + 1) (k := 17) (f := 0) C rfl rfl hp rfl in_X3_diagonalCount_X3 (by decide) lk_X3_diagonalCount_12 dX3_diagonalCount_1 rfl ?_
  refine ww_gi (k := 14) (f := 2) C rfl rfl (Nat.add_lt_add_right hp 1) rfl in_X3_diagonalCount_X1 (by decide) lk_X3_diagonalCount_59 dX3_diagonalCount_4 ?_
  refine ww_iconst (v := 3) C dX3_diagonalCount_7 rfl ?_
  refine ww_isub C dX3_diagonalCount_8 ?_
  refine ww_iret C dX3_diagonalCount_9 ?_
  exact ⟨by rw [hs], rfl⟩
set_option maxHeartbeats 4000000 in
set_option maxRecDepth 100000 in
theorem c_X3_hand (l : Launch) (G : Gx) (hA : wa G) (σ : Sg) (p : Nat) (hp : p < 8) : CtI l yX3_hand wsX3_hand (rmd 1) G [.ref (gA G 17 (p))] σ (fun r σ' => r = hnd (σ 17 p 2) ∧ σ' = σ) := by
  refine ct_i (maxL := 1) (ret := (some .int)) (by decide) rfl (Nat.le_of_ble_eq_true rfl) hA (fun K hl C => ?_)
  subst hl
  change WW K G _ _ σ [(0, .ref (gA G 17 (p)))] 0 []
  refine ww_aload_n C dX3_hand_0 rfl 0 rfl ?_
  refine ww_gi (k := 17) (f := 2) C rfl rfl hp rfl in_X3_hand_X3 (by decide) lk_X3_hand_23 dX3_hand_1 ?_
  refine ww_if_le 11 C dX3_hand_4 (by decide) (fun h4 => ?_) (fun h4 => ?_)
  · refine ww_iconst (v := -1) C dX3_hand_11 rfl ?_
    refine ww_iret C dX3_hand_12 ?_
    exact ⟨by rw [hnd, if_neg (i32_nlt.mpr h4)], rfl⟩
  · refine ww_iconst (v := 1) C dX3_hand_7 rfl ?_
    refine ww_goto 12 C dX3_hand_8 (by decide) ?_
    refine ww_iret C dX3_hand_12 ?_
    exact ⟨by rw [hnd, if_pos (i32_nle.mp h4)], rfl⟩
set_option maxHeartbeats 4000000 in
set_option maxRecDepth 100000 in
theorem c_X3_crossOfEdge (l : Launch) (G : Gx) (hA : wa G) (σ : Sg) (p n : Nat) (hp : p < 8) (hs : σ 14 (p + 1) 2 = nI n) (hn : n ≤ 14) (i : Nat) (hi : i < n) : CtI l yX3_crossOfEdge wsX3_crossOfEdge (rmd 2) G [.ref (gA G 17 (p)), .int (nI i)] σ (fun r σ' => r = crs9 n (σ 15 (p + 1)) (σ 16 (p + 1)) i ∧ σ' = σ) := by
  refine ct_i (maxL := 3) (ret := (some .int)) (by decide) rfl (Nat.le_of_ble_eq_true rfl) hA (fun K hl C => ?_)
  subst hl
  change WW K G _ _ σ [(0, .ref (gA G 17 (p))), (1, .int (nI i))] 0 []
  refine ww_aload_n C dX3_crossOfEdge_0 rfl 0 rfl ?_
  refine ww_gr (j := p + 1) (k := 17) (f := 0) C rfl rfl hp rfl in_X3_crossOfEdge_X3 (by decide) lk_X3_crossOfEdge_12 dX3_crossOfEdge_1 rfl ?_
  refine ww_iload_n C dX3_crossOfEdge_4 rfl 1 rfl ?_
  refine ww_calliF (cx_V (n := 1) (As := [.int (nI i)]) C  (c_X1_after (kL K) G hA _ (p + 1) n (Nat.add_lt_add_right hp 1) hs hn i (by omega)) gX3_crossOfEdge_X1_after rfl ⟨rfl, rfl⟩ (by decide +kernel) (by decide) rfl (Nat.add_lt_add_right hp 1) rfl rfl rfl (Nat.le_of_ble_eq_true rfl) dX3_crossOfEdge_5) ?_
  refine ww_istore_n (fun y1 => [(2, .int (y1)), (0, .ref (gA G 17 (p))), (1, .int (nI i))]) C dX3_crossOfEdge_8 rfl (by decide) (fun _ => rfl) (fun y1 ey1 => ?_)
  obtain rfl : y1 = nI (af n i) := ey1
  refine ww_aload_n C dX3_crossOfEdge_9 rfl 1 rfl ?_
  refine ww_gr (j := p + 1) (k := 17) (f := 0) C rfl rfl hp rfl in_X3_crossOfEdge_X3 (by decide) lk_X3_crossOfEdge_12 dX3_crossOfEdge_10 rfl ?_
  refine ww_gr (j := p + 1) (k := 14) (f := 0) C rfl rfl (Nat.add_lt_add_right hp 1) rfl in_X3_crossOfEdge_X1 (by decide) lk_X3_crossOfEdge_77 dX3_crossOfEdge_13 rfl ?_
  refine ww_iload_n C dX3_crossOfEdge_16 rfl 2 rfl ?_
  refine ww_iald (k := 15) (j := i) C rfl (Nat.add_lt_add_right hp 1) (by decide) dX3_crossOfEdge_17 rfl (by omega) ?_
  refine ww_aload_n C dX3_crossOfEdge_18 rfl 1 rfl ?_
  refine ww_gr (j := p + 1) (k := 17) (f := 0) C rfl rfl hp rfl in_X3_crossOfEdge_X3 (by decide) lk_X3_crossOfEdge_12 dX3_crossOfEdge_19 rfl ?_
  refine ww_gr (j := p + 1) (k := 14) (f := 1) C rfl rfl (Nat.add_lt_add_right hp 1) rfl in_X3_crossOfEdge_X1 (by decide) lk_X3_crossOfEdge_80 dX3_crossOfEdge_22 rfl ?_
  refine ww_iload_n C dX3_crossOfEdge_25 rfl 0 rfl ?_
  refine ww_iald (k := 16) (j := af n i) C rfl (Nat.add_lt_add_right hp 1) (by decide) dX3_crossOfEdge_26 rfl (nlt14 (af_lt (by omega)) hn) ?_
  refine ww_imul C dX3_crossOfEdge_27 ?_
  refine ww_aload_n C dX3_crossOfEdge_28 rfl 1 rfl ?_
  refine ww_gr (j := p + 1) (k := 17) (f := 0) C rfl rfl hp rfl in_X3_crossOfEdge_X3 (by decide) lk_X3_crossOfEdge_12 dX3_crossOfEdge_29 rfl ?_
  refine ww_gr (j := p + 1) (k := 14) (f := 1) C rfl rfl (Nat.add_lt_add_right hp 1) rfl in_X3_crossOfEdge_X1 (by decide) lk_X3_crossOfEdge_80 dX3_crossOfEdge_32 rfl ?_
  refine ww_iload_n C dX3_crossOfEdge_35 rfl 2 rfl ?_
  refine ww_iald (k := 16) (j := i) C rfl (Nat.add_lt_add_right hp 1) (by decide) dX3_crossOfEdge_36 rfl (by omega) ?_
  refine ww_aload_n C dX3_crossOfEdge_37 rfl 1 rfl ?_
  refine ww_gr (j := p + 1) (k := 17) (f := 0) C rfl rfl hp rfl in_X3_crossOfEdge_X3 (by decide) lk_X3_crossOfEdge_12 dX3_crossOfEdge_38 rfl ?_
  refine ww_gr (j := p + 1) (k := 14) (f := 0) C rfl rfl (Nat.add_lt_add_right hp 1) rfl in_X3_crossOfEdge_X1 (by decide) lk_X3_crossOfEdge_77 dX3_crossOfEdge_41 rfl ?_
  refine ww_iload_n C dX3_crossOfEdge_44 rfl 0 rfl ?_
  refine ww_iald (k := 15) (j := af n i) C rfl (Nat.add_lt_add_right hp 1) (by decide) dX3_crossOfEdge_45 rfl (nlt14 (af_lt (by omega)) hn) ?_
  refine ww_imul C dX3_crossOfEdge_46 ?_
  refine ww_isub C dX3_crossOfEdge_47 ?_
  refine ww_iret C dX3_crossOfEdge_48 ?_
  exact ⟨rfl, rfl⟩
set_option maxHeartbeats 4000000 in
set_option maxRecDepth 100000 in
theorem lp_X3_isFree {K : Kx} {G : Gx} (hA : wa G) (C : CX K G cX3_isFree 6 RX3 wsX3_isFree (rmd 4) (some .boolean)) (σ : Sg) (p n : Nat) (hp : p < 8) (hs : σ 14 (p + 1) 2 = nI n) (hn : n ≤ 14) (i j : Nat) (hi : i < n) (hj : j < n) : ∀ (f a : Nat), n - a < f → a ≤ n → fndN (freeP n (σ 15 (p + 1)) (σ 16 (p + 1)) i j) a n = fndN (freeP n (σ 15 (p + 1)) (σ 16 (p + 1)) i j) 0 n → WW K G 6 (QI K G (fun r σ2 => r = bI (fndN (freeP n (σ 15 (p + 1)) (σ 16 (p + 1)) i j) 0 n).isNone ∧ σ2 = σ)) σ [(3, .int (nI a)), (0, .ref (gA G 17 (p))), (1, .int (nI i)), (2, .int (nI j))] 2 [] := by
  intro f
  induction f with
  | zero => intro a  h; exact absurd h (Nat.not_lt_zero _)
  | succ f ih =>
    intro a  hf ha hv
    refine ww_iload_n C dX3_isFree_2 rfl 0 rfl ?_
    refine ww_aload_n C dX3_isFree_3 rfl 1 rfl ?_
    refine ww_gr (j := p + 1) (k := 17) (f := 0) C rfl rfl hp rfl in_X3_isFree_X3 (by decide) lk_X3_isFree_12 dX3_isFree_4 rfl ?_
    refine ww_gi (k := 14) (f := 2) C rfl rfl (Nat.add_lt_add_right hp 1) rfl in_X3_isFree_X1 (by decide) lk_X3_isFree_59 dX3_isFree_7 ?_
    refine ww_icmp_ge 80 C dX3_isFree_10 (by decide) (fun h10 => ?_) (fun h10 => ?_)
    · have g10 : n ≤ a := (cv_le (a := n) (b := a) hs rfl (by omega) (by omega)).mp h10
      refine ww_iconst (v := 1) C dX3_isFree_80 rfl ?_
      refine ww_zret C dX3_isFree_81 rfl ?_
      exact ⟨by rw [← hv, fndN_end g10]; rfl, rfl⟩
    · have g10 : ¬ n ≤ a := fun q => h10 ((cv_le (a := n) (b := a) hs rfl (by omega) (by omega)).mpr q)
      refine ww_aload_n C dX3_isFree_13 rfl 1 rfl ?_
      refine ww_gr (j := p + 1) (k := 17) (f := 0) C rfl rfl hp rfl in_X3_isFree_X3 (by decide) lk_X3_isFree_12 dX3_isFree_14 rfl ?_
      refine ww_iload_n C dX3_isFree_17 rfl 0 rfl ?_
      refine ww_calliF (cx_V (n := 1) (As := [.int (nI a)]) C  (c_X1_after (kL K) G hA _ (p + 1) n (Nat.add_lt_add_right hp 1) hs hn a (by omega)) gX3_isFree_X1_after rfl ⟨rfl, rfl⟩ (by decide +kernel) (by decide) rfl (Nat.add_lt_add_right hp 1) rfl rfl rfl (Nat.le_of_ble_eq_true rfl) dX3_isFree_18) ?_
      refine ww_istore (fun y1 => [(4, .int (y1)), (3, .int (nI a)), (0, .ref (gA G 17 (p))), (1, .int (nI i)), (2, .int (nI j))]) C dX3_isFree_21 (by decide) (fun _ => rfl) (fun y1 ey1 => ?_)
      obtain rfl : y1 = nI (af n a) := ey1
      refine ww_iload_n C dX3_isFree_23 rfl 1 rfl ?_
      refine ww_iload_n C dX3_isFree_24 rfl 3 rfl ?_
      refine ww_icmp_eq 45 C dX3_isFree_25 (by decide) (fun h25 => ?_) (fun h25 => ?_)
      · have g25 : a = i := (cv_eq (a := a) (b := i) rfl rfl (by omega) (by omega)).mp h25
        refine ww_iconst (v := 1) C dX3_isFree_45 rfl ?_
        refine ww_goto 50 C dX3_isFree_46 (by decide) ?_
        refine ww_istore (fun y2 => [(5, .int (y2)), (4, .int (nI (af n a))), (3, .int (nI a)), (0, .ref (gA G 17 (p))), (1, .int (nI i)), (2, .int (nI j))]) C dX3_isFree_50 (by decide) (fun _ => rfl) (fun y2 ey2 => ?_)
        obtain rfl : y2 = nI 1 := (ey2.trans (by decide))
        refine ww_iload C dX3_isFree_52 0 rfl ?_
        refine ww_if_ne 74 C dX3_isFree_54 (by decide) (fun h54 => ?_) (fun h54 => ?_)
        · have g54 : ¬ 1 = 0 := fun q => h54 ((cv_eq (a := 1) (b := 0) rfl (by decide) (by omega) (by omega)).mpr q)
          refine ww_iinc (q := 2) (fun y3 => [(3, .int (y3)), (5, .int (nI 1)), (4, .int (nI (af n a))), (0, .ref (gA G 17 (p))), (1, .int (nI i)), (2, .int (nI j))]) C dX3_isFree_74 rfl (by decide) (fun _ => rfl) (fun y3 ey3 => ?_)
          obtain rfl : y3 = nI (a + 1) := ninc rfl ey3
          refine ww_goto 2 C dX3_isFree_77 (by decide) ?_
          exact ww_sub [0, 3, 4, 5] rfl (ih (a + 1) (by omega) (by omega) (by rw [← fndN_f (by omega) (by simp [freeP, g25])]; exact hv))
        · have g54 : 1 = 0 := (cv_eq (a := 1) (b := 0) rfl (by decide) (by omega) (by omega)).mp h54
          exact absurd g54 (by decide)
      · have g25 : ¬ a = i := fun q => h25 ((cv_eq (a := a) (b := i) rfl rfl (by omega) (by omega)).mpr q)
        refine ww_iload_n C dX3_isFree_28 rfl 1 rfl ?_
        refine ww_iload_n C dX3_isFree_29 rfl 4 rfl ?_
        refine ww_icmp_eq 45 C dX3_isFree_30 (by decide) (fun h30 => ?_) (fun h30 => ?_)
        · have g30 : a = j := (cv_eq (a := a) (b := j) rfl rfl (by omega) (by omega)).mp h30
          refine ww_iconst (v := 1) C dX3_isFree_45 rfl ?_
          refine ww_goto 50 C dX3_isFree_46 (by decide) ?_
          refine ww_istore (fun y4 => [(5, .int (y4)), (4, .int (nI (af n a))), (3, .int (nI a)), (0, .ref (gA G 17 (p))), (1, .int (nI i)), (2, .int (nI j))]) C dX3_isFree_50 (by decide) (fun _ => rfl) (fun y4 ey4 => ?_)
          obtain rfl : y4 = nI 1 := (ey4.trans (by decide))
          refine ww_iload C dX3_isFree_52 0 rfl ?_
          refine ww_if_ne 74 C dX3_isFree_54 (by decide) (fun h54 => ?_) (fun h54 => ?_)
          · have g54 : ¬ 1 = 0 := fun q => h54 ((cv_eq (a := 1) (b := 0) rfl (by decide) (by omega) (by omega)).mpr q)
            refine ww_iinc (q := 2) (fun y5 => [(3, .int (y5)), (5, .int (nI 1)), (4, .int (nI (af n a))), (0, .ref (gA G 17 (p))), (1, .int (nI i)), (2, .int (nI j))]) C dX3_isFree_74 rfl (by decide) (fun _ => rfl) (fun y5 ey5 => ?_)
            obtain rfl : y5 = nI (a + 1) := ninc rfl ey5
            refine ww_goto 2 C dX3_isFree_77 (by decide) ?_
            exact ww_sub [0, 3, 4, 5] rfl (ih (a + 1) (by omega) (by omega) (by rw [← fndN_f (by omega) (by simp [freeP, g30])]; exact hv))
          · have g54 : 1 = 0 := (cv_eq (a := 1) (b := 0) rfl (by decide) (by omega) (by omega)).mp h54
            exact absurd g54 (by decide)
        · have g30 : ¬ a = j := fun q => h30 ((cv_eq (a := a) (b := j) rfl rfl (by omega) (by omega)).mpr q)
          refine ww_iload C dX3_isFree_33 0 rfl ?_
          refine ww_iload_n C dX3_isFree_35 rfl 3 rfl ?_
          refine ww_icmp_eq 45 C dX3_isFree_36 (by decide) (fun h36 => ?_) (fun h36 => ?_)
          · have g36 : af n a = i := (cv_eq (a := af n a) (b := i) rfl rfl (lt31 (nlt14 (af_lt (by omega)) hn)) (by omega)).mp h36
            refine ww_iconst (v := 1) C dX3_isFree_45 rfl ?_
            refine ww_goto 50 C dX3_isFree_46 (by decide) ?_
            refine ww_istore (fun y6 => [(5, .int (y6)), (4, .int (nI (af n a))), (3, .int (nI a)), (0, .ref (gA G 17 (p))), (1, .int (nI i)), (2, .int (nI j))]) C dX3_isFree_50 (by decide) (fun _ => rfl) (fun y6 ey6 => ?_)
            obtain rfl : y6 = nI 1 := (ey6.trans (by decide))
            refine ww_iload C dX3_isFree_52 0 rfl ?_
            refine ww_if_ne 74 C dX3_isFree_54 (by decide) (fun h54 => ?_) (fun h54 => ?_)
            · have g54 : ¬ 1 = 0 := fun q => h54 ((cv_eq (a := 1) (b := 0) rfl (by decide) (by omega) (by omega)).mpr q)
              refine ww_iinc (q := 2) (fun y7 => [(3, .int (y7)), (5, .int (nI 1)), (4, .int (nI (af n a))), (0, .ref (gA G 17 (p))), (1, .int (nI i)), (2, .int (nI j))]) C dX3_isFree_74 rfl (by decide) (fun _ => rfl) (fun y7 ey7 => ?_)
              obtain rfl : y7 = nI (a + 1) := ninc rfl ey7
              refine ww_goto 2 C dX3_isFree_77 (by decide) ?_
              exact ww_sub [0, 3, 4, 5] rfl (ih (a + 1) (by omega) (by omega) (by rw [← fndN_f (by omega) (by simp [freeP, g36])]; exact hv))
            · have g54 : 1 = 0 := (cv_eq (a := 1) (b := 0) rfl (by decide) (by omega) (by omega)).mp h54
              exact absurd g54 (by decide)
          · have g36 : ¬ af n a = i := fun q => h36 ((cv_eq (a := af n a) (b := i) rfl rfl (lt31 (nlt14 (af_lt (by omega)) hn)) (by omega)).mpr q)
            refine ww_iload C dX3_isFree_39 0 rfl ?_
            refine ww_iload_n C dX3_isFree_41 rfl 4 rfl ?_
            refine ww_icmp_ne 49 C dX3_isFree_42 (by decide) (fun h42 => ?_) (fun h42 => ?_)
            · have g42 : ¬ af n a = j := fun q => h42 ((cv_eq (a := af n a) (b := j) rfl rfl (lt31 (nlt14 (af_lt (by omega)) hn)) (by omega)).mpr q)
              refine ww_iconst (v := 0) C dX3_isFree_49 rfl ?_
              refine ww_istore (fun y8 => [(5, .int (y8)), (4, .int (nI (af n a))), (3, .int (nI a)), (0, .ref (gA G 17 (p))), (1, .int (nI i)), (2, .int (nI j))]) C dX3_isFree_50 (by decide) (fun _ => rfl) (fun y8 ey8 => ?_)
              obtain rfl : y8 = nI 0 := (ey8.trans (by decide))
              refine ww_iload C dX3_isFree_52 0 rfl ?_
              refine ww_if_ne 74 C dX3_isFree_54 (by decide) (fun h54 => ?_) (fun h54 => ?_)
              · have g54 : ¬ 0 = 0 := fun q => h54 ((cv_eq (a := 0) (b := 0) rfl (by decide) (by omega) (by omega)).mpr q)
                exact absurd g54 (by decide)
              · have g54 : 0 = 0 := (cv_eq (a := 0) (b := 0) rfl (by decide) (by omega) (by omega)).mp h54
                refine ww_aload_n C dX3_isFree_57 rfl 3 rfl ?_
                refine ww_gr (j := p + 1) (k := 17) (f := 0) C rfl rfl hp rfl in_X3_isFree_X3 (by decide) lk_X3_isFree_12 dX3_isFree_58 rfl ?_
                refine ww_iload_n C dX3_isFree_61 rfl 4 rfl ?_
                refine ww_iload_n C dX3_isFree_62 rfl 5 rfl ?_
                refine ww_iload_n C dX3_isFree_63 rfl 2 rfl ?_
                refine ww_iload C dX3_isFree_64 1 rfl ?_
                refine ww_calliF (cx_V (n := 4) (As := [.int (nI i), .int (nI j), .int (nI a), .int (nI (af n a))]) C  (c_X1_meet (kL K) G hA _ (p + 1) (Nat.add_lt_add_right hp 1) i j a (af n a) (by omega) (by omega) (by omega) (nlt14 (af_lt (by omega)) hn)) gX3_isFree_X1_meet rfl ⟨rfl, rfl⟩ (by decide +kernel) (by decide) rfl (Nat.add_lt_add_right hp 1) rfl rfl rfl (Nat.le_of_ble_eq_true rfl) dX3_isFree_66) ?_
                refine ww_if_eq 74 C dX3_isFree_69 (by decide) (fun h69 => ?_) (fun h69 => ?_)
                · refine ww_iinc (q := 2) (fun y9 => [(3, .int (y9)), (5, .int (nI 0)), (4, .int (nI (af n a))), (0, .ref (gA G 17 (p))), (1, .int (nI i)), (2, .int (nI j))]) C dX3_isFree_74 rfl (by decide) (fun _ => rfl) (fun y9 ey9 => ?_)
                  obtain rfl : y9 = nI (a + 1) := ninc rfl ey9
                  refine ww_goto 2 C dX3_isFree_77 (by decide) ?_
                  exact ww_sub [0, 3, 4, 5] rfl (ih (a + 1) (by omega) (by omega) (by rw [← fndN_f (by omega) (by rw [freeP, bI_0.mp h69, Bool.and_false])]; exact hv))
                · refine ww_iconst (v := 0) C dX3_isFree_72 rfl ?_
                  refine ww_zret C dX3_isFree_73 rfl ?_
                  exact ⟨by rw [← hv, fndN_t (by omega) (by simp [freeP, g25, g30, g36, g42, bI_1.mp h69])]; rfl, rfl⟩
            · have g42 : af n a = j := (cv_eq (a := af n a) (b := j) rfl rfl (lt31 (nlt14 (af_lt (by omega)) hn)) (by omega)).mp h42
              refine ww_iconst (v := 1) C dX3_isFree_45 rfl ?_
              refine ww_goto 50 C dX3_isFree_46 (by decide) ?_
              refine ww_istore (fun y10 => [(5, .int (y10)), (4, .int (nI (af n a))), (3, .int (nI a)), (0, .ref (gA G 17 (p))), (1, .int (nI i)), (2, .int (nI j))]) C dX3_isFree_50 (by decide) (fun _ => rfl) (fun y10 ey10 => ?_)
              obtain rfl : y10 = nI 1 := (ey10.trans (by decide))
              refine ww_iload C dX3_isFree_52 0 rfl ?_
              refine ww_if_ne 74 C dX3_isFree_54 (by decide) (fun h54 => ?_) (fun h54 => ?_)
              · have g54 : ¬ 1 = 0 := fun q => h54 ((cv_eq (a := 1) (b := 0) rfl (by decide) (by omega) (by omega)).mpr q)
                refine ww_iinc (q := 2) (fun y11 => [(3, .int (y11)), (5, .int (nI 1)), (4, .int (nI (af n a))), (0, .ref (gA G 17 (p))), (1, .int (nI i)), (2, .int (nI j))]) C dX3_isFree_74 rfl (by decide) (fun _ => rfl) (fun y11 ey11 => ?_)
                obtain rfl : y11 = nI (a + 1) := ninc rfl ey11
                refine ww_goto 2 C dX3_isFree_77 (by decide) ?_
                exact ww_sub [0, 3, 4, 5] rfl (ih (a + 1) (by omega) (by omega) (by rw [← fndN_f (by omega) (by simp [freeP, g42])]; exact hv))
              · have g54 : 1 = 0 := (cv_eq (a := 1) (b := 0) rfl (by decide) (by omega) (by omega)).mp h54
                exact absurd g54 (by decide)
set_option maxHeartbeats 4000000 in
set_option maxRecDepth 100000 in
theorem c_X3_isFree (l : Launch) (G : Gx) (hA : wa G) (σ : Sg) (p n : Nat) (hp : p < 8) (hs : σ 14 (p + 1) 2 = nI n) (hn : n ≤ 14) (i j : Nat) (hi : i < n) (hj : j < n) : CtI l yX3_isFree wsX3_isFree (rmd 4) G [.ref (gA G 17 (p)), .int (nI i), .int (nI j)] σ (fun r σ2 => r = bI (fndN (freeP n (σ 15 (p + 1)) (σ 16 (p + 1)) i j) 0 n).isNone ∧ σ2 = σ) := by
  refine ct_i (maxL := 6) (ret := (some .boolean)) (by decide) rfl (Nat.le_of_ble_eq_true rfl) hA (fun K hl C => ?_)
  subst hl
  change WW K G _ _ σ [(0, .ref (gA G 17 (p))), (1, .int (nI i)), (2, .int (nI j))] 0 []
  refine ww_iconst (v := 0) C dX3_isFree_0 rfl ?_
  refine ww_istore_n (fun y1 => [(3, .int (y1)), (0, .ref (gA G 17 (p))), (1, .int (nI i)), (2, .int (nI j))]) C dX3_isFree_1 rfl (by decide) (fun _ => rfl) (fun y1 ey1 => ?_)
  obtain rfl : y1 = nI 0 := (ey1.trans (by decide))
  exact lp_X3_isFree hA C σ p n hp hs hn i j hi hj (n + 1) 0 (by omega) (by omega) rfl
theorem pl_of1 {n : Nat} {x y : Nat → Int32} {px py sc : Int32} {i : Nat} (h : ¬ sidC n x y px py sc i = 0) : onC n x y px py sc i = false := by simp [onC, h]
theorem pl_of2 {n : Nat} {x y : Nat → Int32} {px py sc : Int32} {i : Nat} (h : 0 < (x i * sc - px) * (x (af n i) * sc - px)) : onC n x y px py sc i = false := by simp [onC, i32_nle.mpr h]
theorem pl_of3 {n : Nat} {x y : Nat → Int32} {px py sc : Int32} {i : Nat} (h : 0 < (y i * sc - py) * (y (af n i) * sc - py)) : onC n x y px py sc i = false := by simp [onC, i32_nle.mpr h]
theorem pl_on {n : Nat} {x y : Nat → Int32} {px py sc : Int32} {i : Nat} (h1 : sidC n x y px py sc i = 0) (h2 : ¬ 0 < (x i * sc - px) * (x (af n i) * sc - px)) (h3 : ¬ 0 < (y i * sc - py) * (y (af n i) * sc - py)) : onC n x y px py sc i = true := by simp [onC, h1, i32_nlt.mp h2, i32_nlt.mp h3]
theorem bx0 {a b : Bool} (h : bI (decide (¬ bI a = bI b)) = 0) : (a ^^ b) = false := by cases a <;> cases b <;> revert h <;> decide
theorem bx1 {a b : Bool} (h : ¬ bI (decide (¬ bI a = bI b)) = 0) : (a ^^ b) = true := by cases a <;> cases b <;> revert h <;> decide
theorem bx2 {a b : Bool} (h : ¬ bI a = bI b) : (a == b) = false := by cases a <;> cases b <;> revert h <;> decide
theorem bx3 {a b : Bool} (h : bI a = bI b) : (a == b) = true := by cases a <;> cases b <;> revert h <;> decide
theorem bI_inv {b : Bool} : bI (decide (bI b = 0)) = bI (!b) := by cases b <;> decide
set_option maxHeartbeats 4000000 in
set_option maxRecDepth 100000 in
theorem lp_X3_placeOf {K : Kx} {G : Gx} (hA : wa G) (C : CX K G cX3_placeOf 13 RX3 wsX3_placeOf (rmd 2) (some .int)) (σ : Sg) (p n : Nat) (hp : p < 8) (hs : σ 14 (p + 1) 2 = nI n) (hn : n ≤ 14) (px py sc : Int32) : ∀ (f i : Nat) (b : Bool), n - i < f → i ≤ n → plcN (onC n (σ 15 (p + 1)) (σ 16 (p + 1)) px py sc) (crC n (σ 15 (p + 1)) (σ 16 (p + 1)) px py sc) i n b = plcC n (σ 15 (p + 1)) (σ 16 (p + 1)) px py sc → WW K G 13 (QI K G (fun r σ2 => r = plcC n (σ 15 (p + 1)) (σ 16 (p + 1)) px py sc ∧ σ2 = σ)) σ [(5, .int (nI i)), (4, .int (bI b)), (0, .ref (gA G 17 (p))), (1, .int (px)), (2, .int (py)), (3, .int (sc))] 6 [] := by
  intro f
  induction f with
  | zero => intro i b h; exact absurd h (Nat.not_lt_zero _)
  | succ f ih =>
    intro i b hf hi hv
    refine ww_iload C dX3_placeOf_6 0 rfl ?_
    refine ww_aload_n C dX3_placeOf_8 rfl 2 rfl ?_
    refine ww_gr (j := p + 1) (k := 17) (f := 0) C rfl rfl hp rfl in_X3_placeOf_X3 (by decide) lk_X3_placeOf_12 dX3_placeOf_9 rfl ?_
    refine ww_gi (k := 14) (f := 2) C rfl rfl (Nat.add_lt_add_right hp 1) rfl in_X3_placeOf_X1 (by decide) lk_X3_placeOf_59 dX3_placeOf_12 ?_
    refine ww_icmp_ge 207 C dX3_placeOf_15 (by decide) (fun h15 => ?_) (fun h15 => ?_)
    · have g15 : n ≤ i := (cv_le (a := n) (b := i) hs rfl (by omega) (by omega)).mp h15
      refine ww_iload C dX3_placeOf_207 1 rfl ?_
      refine ww_if_eq 216 C dX3_placeOf_209 (by decide) (fun h209 => ?_) (fun h209 => ?_)
      · refine ww_iconst (v := 0) C dX3_placeOf_216 rfl ?_
        refine ww_iret C dX3_placeOf_217 ?_
        exact ⟨by rw [← hv, plcN_end g15, bI_0.mp h209]; rfl, rfl⟩
      · refine ww_iconst (v := 2) C dX3_placeOf_212 rfl ?_
        refine ww_goto 217 C dX3_placeOf_213 (by decide) ?_
        refine ww_iret C dX3_placeOf_217 ?_
        exact ⟨by rw [← hv, plcN_end g15, bI_1.mp h209]; rfl, rfl⟩
    · have g15 : ¬ n ≤ i := fun q => h15 ((cv_le (a := n) (b := i) hs rfl (by omega) (by omega)).mpr q)
      refine ww_aload_n C dX3_placeOf_18 rfl 2 rfl ?_
      refine ww_gr (j := p + 1) (k := 17) (f := 0) C rfl rfl hp rfl in_X3_placeOf_X3 (by decide) lk_X3_placeOf_12 dX3_placeOf_19 rfl ?_
      refine ww_iload C dX3_placeOf_22 0 rfl ?_
      refine ww_calliF (cx_V (n := 1) (As := [.int (nI i)]) C  (c_X1_after (kL K) G hA _ (p + 1) n (Nat.add_lt_add_right hp 1) hs hn i (by omega)) gX3_placeOf_X1_after rfl ⟨rfl, rfl⟩ (by decide +kernel) (by decide) rfl (Nat.add_lt_add_right hp 1) rfl rfl rfl (Nat.le_of_ble_eq_true rfl) dX3_placeOf_24) ?_
      refine ww_istore (fun y1 => [(6, .int (y1)), (5, .int (nI i)), (4, .int (bI b)), (0, .ref (gA G 17 (p))), (1, .int (px)), (2, .int (py)), (3, .int (sc))]) C dX3_placeOf_27 (by decide) (fun _ => rfl) (fun y1 ey1 => ?_)
      obtain rfl : y1 = nI (af n i) := ey1
      refine ww_aload_n C dX3_placeOf_29 rfl 3 rfl ?_
      refine ww_gr (j := p + 1) (k := 17) (f := 0) C rfl rfl hp rfl in_X3_placeOf_X3 (by decide) lk_X3_placeOf_12 dX3_placeOf_30 rfl ?_
      refine ww_gr (j := p + 1) (k := 14) (f := 0) C rfl rfl (Nat.add_lt_add_right hp 1) rfl in_X3_placeOf_X1 (by decide) lk_X3_placeOf_77 dX3_placeOf_33 rfl ?_
      refine ww_iload C dX3_placeOf_36 1 rfl ?_
      refine ww_iald (k := 15) (j := i) C rfl (Nat.add_lt_add_right hp 1) (by decide) dX3_placeOf_38 rfl (by omega) ?_
      refine ww_iload_n C dX3_placeOf_39 rfl 6 rfl ?_
      refine ww_imul C dX3_placeOf_40 ?_
      refine ww_iload_n C dX3_placeOf_41 rfl 4 rfl ?_
      refine ww_isub C dX3_placeOf_42 ?_
      refine ww_istore (fun ax => [(7, .int (ax)), (6, .int (nI (af n i))), (5, .int (nI i)), (4, .int (bI b)), (0, .ref (gA G 17 (p))), (1, .int (px)), (2, .int (py)), (3, .int (sc))]) C dX3_placeOf_43 (by decide) (fun _ => rfl) (fun ax eax => ?_)
      refine ww_aload_n C dX3_placeOf_45 rfl 4 rfl ?_
      refine ww_gr (j := p + 1) (k := 17) (f := 0) C rfl rfl hp rfl in_X3_placeOf_X3 (by decide) lk_X3_placeOf_12 dX3_placeOf_46 rfl ?_
      refine ww_gr (j := p + 1) (k := 14) (f := 1) C rfl rfl (Nat.add_lt_add_right hp 1) rfl in_X3_placeOf_X1 (by decide) lk_X3_placeOf_80 dX3_placeOf_49 rfl ?_
      refine ww_iload C dX3_placeOf_52 2 rfl ?_
      refine ww_iald (k := 16) (j := i) C rfl (Nat.add_lt_add_right hp 1) (by decide) dX3_placeOf_54 rfl (by omega) ?_
      refine ww_iload_n C dX3_placeOf_55 rfl 7 rfl ?_
      refine ww_imul C dX3_placeOf_56 ?_
      refine ww_iload_n C dX3_placeOf_57 rfl 6 rfl ?_
      refine ww_isub C dX3_placeOf_58 ?_
      refine ww_istore (fun ay => [(8, .int (ay)), (7, .int (ax)), (6, .int (nI (af n i))), (5, .int (nI i)), (4, .int (bI b)), (0, .ref (gA G 17 (p))), (1, .int (px)), (2, .int (py)), (3, .int (sc))]) C dX3_placeOf_59 (by decide) (fun _ => rfl) (fun ay eay => ?_)
      refine ww_aload_n C dX3_placeOf_61 rfl 5 rfl ?_
      refine ww_gr (j := p + 1) (k := 17) (f := 0) C rfl rfl hp rfl in_X3_placeOf_X3 (by decide) lk_X3_placeOf_12 dX3_placeOf_62 rfl ?_
      refine ww_gr (j := p + 1) (k := 14) (f := 0) C rfl rfl (Nat.add_lt_add_right hp 1) rfl in_X3_placeOf_X1 (by decide) lk_X3_placeOf_77 dX3_placeOf_65 rfl ?_
      refine ww_iload C dX3_placeOf_68 2 rfl ?_
      refine ww_iald (k := 15) (j := af n i) C rfl (Nat.add_lt_add_right hp 1) (by decide) dX3_placeOf_70 rfl (nlt14 (af_lt (by omega)) hn) ?_
      refine ww_iload_n C dX3_placeOf_71 rfl 8 rfl ?_
      refine ww_imul C dX3_placeOf_72 ?_
      refine ww_iload_n C dX3_placeOf_73 rfl 6 rfl ?_
      refine ww_isub C dX3_placeOf_74 ?_
      refine ww_istore (fun bx => [(9, .int (bx)), (8, .int (ay)), (7, .int (ax)), (6, .int (nI (af n i))), (5, .int (nI i)), (4, .int (bI b)), (0, .ref (gA G 17 (p))), (1, .int (px)), (2, .int (py)), (3, .int (sc))]) C dX3_placeOf_75 (by decide) (fun _ => rfl) (fun bx ebx => ?_)
      refine ww_aload_n C dX3_placeOf_77 rfl 6 rfl ?_
      refine ww_gr (j := p + 1) (k := 17) (f := 0) C rfl rfl hp rfl in_X3_placeOf_X3 (by decide) lk_X3_placeOf_12 dX3_placeOf_78 rfl ?_
      refine ww_gr (j := p + 1) (k := 14) (f := 1) C rfl rfl (Nat.add_lt_add_right hp 1) rfl in_X3_placeOf_X1 (by decide) lk_X3_placeOf_80 dX3_placeOf_81 rfl ?_
      refine ww_iload C dX3_placeOf_84 3 rfl ?_
      refine ww_iald (k := 16) (j := af n i) C rfl (Nat.add_lt_add_right hp 1) (by decide) dX3_placeOf_86 rfl (nlt14 (af_lt (by omega)) hn) ?_
      refine ww_iload_n C dX3_placeOf_87 rfl 9 rfl ?_
      refine ww_imul C dX3_placeOf_88 ?_
      refine ww_iload_n C dX3_placeOf_89 rfl 8 rfl ?_
      refine ww_isub C dX3_placeOf_90 ?_
      refine ww_istore (fun bz => [(10, .int (bz)), (9, .int (bx)), (8, .int (ay)), (7, .int (ax)), (6, .int (nI (af n i))), (5, .int (nI i)), (4, .int (bI b)), (0, .ref (gA G 17 (p))), (1, .int (px)), (2, .int (py)), (3, .int (sc))]) C dX3_placeOf_91 (by decide) (fun _ => rfl) (fun bz ebz => ?_)
      refine ww_iload C dX3_placeOf_93 3 rfl ?_
      refine ww_iload C dX3_placeOf_95 0 rfl ?_
      refine ww_imul C dX3_placeOf_97 ?_
      refine ww_iload C dX3_placeOf_98 2 rfl ?_
      refine ww_iload C dX3_placeOf_100 1 rfl ?_
      refine ww_imul C dX3_placeOf_102 ?_
      refine ww_isub C dX3_placeOf_103 ?_
      refine ww_istore (fun sd => [(11, .int (sd)), (10, .int (bz)), (9, .int (bx)), (8, .int (ay)), (7, .int (ax)), (6, .int (nI (af n i))), (5, .int (nI i)), (4, .int (bI b)), (0, .ref (gA G 17 (p))), (1, .int (px)), (2, .int (py)), (3, .int (sc))]) C dX3_placeOf_104 (by decide) (fun _ => rfl) (fun sd esd => ?_)
      have hsd : sidC n (σ 15 (p + 1)) (σ 16 (p + 1)) px py sc i = sd := by rw [esd, eax, eay, ebx, ebz]; rfl
      refine ww_iload C dX3_placeOf_106 0 rfl ?_
      refine ww_if_ne 129 C dX3_placeOf_108 (by decide) (fun h108 => ?_) (fun h108 => ?_)
      · refine ww_iload C dX3_placeOf_129 3 rfl ?_
        refine ww_b_le C dX3_placeOf_131 dX3_placeOf_134 dX3_placeOf_135 dX3_placeOf_138 ?_
        refine ww_iload C dX3_placeOf_139 1 rfl ?_
        refine ww_b_le C dX3_placeOf_141 dX3_placeOf_144 dX3_placeOf_145 dX3_placeOf_148 ?_
        refine ww_bc_eq C dX3_placeOf_149 dX3_placeOf_152 dX3_placeOf_153 dX3_placeOf_156 ?_
        refine ww_istore (fun ch => [(12, .int (ch)), (11, .int (sd)), (10, .int (bz)), (9, .int (bx)), (8, .int (ay)), (7, .int (ax)), (6, .int (nI (af n i))), (5, .int (nI i)), (4, .int (bI b)), (0, .ref (gA G 17 (p))), (1, .int (px)), (2, .int (py)), (3, .int (sc))]) C dX3_placeOf_157 (by decide) (fun _ => rfl) (fun ch ech => ?_)
        refine ww_iload C dX3_placeOf_159 0 rfl ?_
        refine ww_if_eq 201 C dX3_placeOf_161 (by decide) (fun h161 => ?_) (fun h161 => ?_)
        · refine ww_iinc (q := 7) (fun y2 => [(5, .int (y2)), (12, .int (ch)), (11, .int (sd)), (10, .int (bz)), (9, .int (bx)), (8, .int (ay)), (7, .int (ax)), (6, .int (nI (af n i))), (4, .int (bI b)), (0, .ref (gA G 17 (p))), (1, .int (px)), (2, .int (py)), (3, .int (sc))]) C dX3_placeOf_201 rfl (by decide) (fun _ => rfl) (fun y2 ey2 => ?_)
          obtain rfl : y2 = nI (i + 1) := ninc rfl ey2
          refine ww_goto 6 C dX3_placeOf_204 (by decide) ?_
          have hof : (onC n (σ 15 (p + 1)) (σ 16 (p + 1)) px py sc) i = false := pl_of1 (by rw [hsd]; exact h108)
          have hcr : (crC n (σ 15 (p + 1)) (σ 16 (p + 1)) px py sc) i = false := by rw [crC, ← eay, ← ebz, bx0 (ech ▸ h161)]; rfl
          exact ww_sub [0, 8, 9, 10, 11, 12] rfl (ih (i + 1) b (by omega) (by omega) (by rw [← hv, plcN_step (by omega) hof, hcr]; simp))
        · refine ww_iload C dX3_placeOf_164 1 rfl ?_
          refine ww_b_le C dX3_placeOf_166 dX3_placeOf_169 dX3_placeOf_170 dX3_placeOf_173 ?_
          refine ww_iload C dX3_placeOf_174 2 rfl ?_
          refine ww_iload C dX3_placeOf_176 4 rfl ?_
          refine ww_bc_le C dX3_placeOf_178 dX3_placeOf_181 dX3_placeOf_182 dX3_placeOf_185 ?_
          refine ww_icmp_ne 201 C dX3_placeOf_186 (by decide) (fun h186 => ?_) (fun h186 => ?_)
          · refine ww_iinc (q := 7) (fun y3 => [(5, .int (y3)), (12, .int (ch)), (11, .int (sd)), (10, .int (bz)), (9, .int (bx)), (8, .int (ay)), (7, .int (ax)), (6, .int (nI (af n i))), (4, .int (bI b)), (0, .ref (gA G 17 (p))), (1, .int (px)), (2, .int (py)), (3, .int (sc))]) C dX3_placeOf_201 rfl (by decide) (fun _ => rfl) (fun y3 ey3 => ?_)
            obtain rfl : y3 = nI (i + 1) := ninc rfl ey3
            refine ww_goto 6 C dX3_placeOf_204 (by decide) ?_
            have hof : (onC n (σ 15 (p + 1)) (σ 16 (p + 1)) px py sc) i = false := pl_of1 (by rw [hsd]; exact h108)
            have hcr : (crC n (σ 15 (p + 1)) (σ 16 (p + 1)) px py sc) i = false := by rw [crC, hsd, ← eay, ← ebz, bx2 h186, Bool.and_false]
            exact ww_sub [0, 8, 9, 10, 11, 12] rfl (ih (i + 1) b (by omega) (by omega) (by rw [← hv, plcN_step (by omega) hof, hcr]; simp))
          · refine ww_iload C dX3_placeOf_189 8 rfl ?_
            refine ww_b_ne C dX3_placeOf_191 dX3_placeOf_194 dX3_placeOf_195 dX3_placeOf_198 ?_
            refine ww_istore (fun nb => [(4, .int (nb)), (12, .int (ch)), (11, .int (sd)), (10, .int (bz)), (9, .int (bx)), (8, .int (ay)), (7, .int (ax)), (6, .int (nI (af n i))), (5, .int (nI i)), (0, .ref (gA G 17 (p))), (1, .int (px)), (2, .int (py)), (3, .int (sc))]) C dX3_placeOf_199 (by decide) (fun _ => rfl) (fun nb enb => ?_)
            obtain rfl : nb = bI (!b) := enb.trans bI_inv
            refine ww_iinc (q := 8) (fun y4 => [(5, .int (y4)), (4, .int (bI (!b))), (12, .int (ch)), (11, .int (sd)), (10, .int (bz)), (9, .int (bx)), (8, .int (ay)), (7, .int (ax)), (6, .int (nI (af n i))), (0, .ref (gA G 17 (p))), (1, .int (px)), (2, .int (py)), (3, .int (sc))]) C dX3_placeOf_201 rfl (by decide) (fun _ => rfl) (fun y4 ey4 => ?_)
            obtain rfl : y4 = nI (i + 1) := ninc rfl ey4
            refine ww_goto 6 C dX3_placeOf_204 (by decide) ?_
            have hof : (onC n (σ 15 (p + 1)) (σ 16 (p + 1)) px py sc) i = false := pl_of1 (by rw [hsd]; exact h108)
            have hcr : (crC n (σ 15 (p + 1)) (σ 16 (p + 1)) px py sc) i = true := by rw [crC, hsd, ← eay, ← ebz, bx1 (ech ▸ h161), bx3 h186]; rfl
            exact ww_sub [0, 1, 9, 10, 11, 12] rfl (ih (i + 1) (!b) (by omega) (by omega) (by rw [← hv, plcN_step (by omega) hof, hcr]; simp))
      · refine ww_iload C dX3_placeOf_111 4 rfl ?_
        refine ww_iload C dX3_placeOf_113 2 rfl ?_
        refine ww_imul C dX3_placeOf_115 ?_
        refine ww_if_gt 129 C dX3_placeOf_116 (by decide) (fun h116 => ?_) (fun h116 => ?_)
        · refine ww_iload C dX3_placeOf_129 3 rfl ?_
          refine ww_b_le C dX3_placeOf_131 dX3_placeOf_134 dX3_placeOf_135 dX3_placeOf_138 ?_
          refine ww_iload C dX3_placeOf_139 1 rfl ?_
          refine ww_b_le C dX3_placeOf_141 dX3_placeOf_144 dX3_placeOf_145 dX3_placeOf_148 ?_
          refine ww_bc_eq C dX3_placeOf_149 dX3_placeOf_152 dX3_placeOf_153 dX3_placeOf_156 ?_
          refine ww_istore (fun ch => [(12, .int (ch)), (11, .int (sd)), (10, .int (bz)), (9, .int (bx)), (8, .int (ay)), (7, .int (ax)), (6, .int (nI (af n i))), (5, .int (nI i)), (4, .int (bI b)), (0, .ref (gA G 17 (p))), (1, .int (px)), (2, .int (py)), (3, .int (sc))]) C dX3_placeOf_157 (by decide) (fun _ => rfl) (fun ch ech => ?_)
          refine ww_iload C dX3_placeOf_159 0 rfl ?_
          refine ww_if_eq 201 C dX3_placeOf_161 (by decide) (fun h161 => ?_) (fun h161 => ?_)
          · refine ww_iinc (q := 7) (fun y5 => [(5, .int (y5)), (12, .int (ch)), (11, .int (sd)), (10, .int (bz)), (9, .int (bx)), (8, .int (ay)), (7, .int (ax)), (6, .int (nI (af n i))), (4, .int (bI b)), (0, .ref (gA G 17 (p))), (1, .int (px)), (2, .int (py)), (3, .int (sc))]) C dX3_placeOf_201 rfl (by decide) (fun _ => rfl) (fun y5 ey5 => ?_)
            obtain rfl : y5 = nI (i + 1) := ninc rfl ey5
            refine ww_goto 6 C dX3_placeOf_204 (by decide) ?_
            have hof : (onC n (σ 15 (p + 1)) (σ 16 (p + 1)) px py sc) i = false := pl_of2 (by rw [← eax, ← ebx]; exact h116)
            have hcr : (crC n (σ 15 (p + 1)) (σ 16 (p + 1)) px py sc) i = false := by rw [crC, ← eay, ← ebz, bx0 (ech ▸ h161)]; rfl
            exact ww_sub [0, 8, 9, 10, 11, 12] rfl (ih (i + 1) b (by omega) (by omega) (by rw [← hv, plcN_step (by omega) hof, hcr]; simp))
          · refine ww_iload C dX3_placeOf_164 1 rfl ?_
            refine ww_b_le C dX3_placeOf_166 dX3_placeOf_169 dX3_placeOf_170 dX3_placeOf_173 ?_
            refine ww_iload C dX3_placeOf_174 2 rfl ?_
            refine ww_iload C dX3_placeOf_176 4 rfl ?_
            refine ww_bc_le C dX3_placeOf_178 dX3_placeOf_181 dX3_placeOf_182 dX3_placeOf_185 ?_
            refine ww_icmp_ne 201 C dX3_placeOf_186 (by decide) (fun h186 => ?_) (fun h186 => ?_)
            · refine ww_iinc (q := 7) (fun y6 => [(5, .int (y6)), (12, .int (ch)), (11, .int (sd)), (10, .int (bz)), (9, .int (bx)), (8, .int (ay)), (7, .int (ax)), (6, .int (nI (af n i))), (4, .int (bI b)), (0, .ref (gA G 17 (p))), (1, .int (px)), (2, .int (py)), (3, .int (sc))]) C dX3_placeOf_201 rfl (by decide) (fun _ => rfl) (fun y6 ey6 => ?_)
              obtain rfl : y6 = nI (i + 1) := ninc rfl ey6
              refine ww_goto 6 C dX3_placeOf_204 (by decide) ?_
              have hof : (onC n (σ 15 (p + 1)) (σ 16 (p + 1)) px py sc) i = false := pl_of2 (by rw [← eax, ← ebx]; exact h116)
              have hcr : (crC n (σ 15 (p + 1)) (σ 16 (p + 1)) px py sc) i = false := by rw [crC, hsd, ← eay, ← ebz, bx2 h186, Bool.and_false]
              exact ww_sub [0, 8, 9, 10, 11, 12] rfl (ih (i + 1) b (by omega) (by omega) (by rw [← hv, plcN_step (by omega) hof, hcr]; simp))
            · refine ww_iload C dX3_placeOf_189 8 rfl ?_
              refine ww_b_ne C dX3_placeOf_191 dX3_placeOf_194 dX3_placeOf_195 dX3_placeOf_198 ?_
              refine ww_istore (fun nb => [(4, .int (nb)), (12, .int (ch)), (11, .int (sd)), (10, .int (bz)), (9, .int (bx)), (8, .int (ay)), (7, .int (ax)), (6, .int (nI (af n i))), (5, .int (nI i)), (0, .ref (gA G 17 (p))), (1, .int (px)), (2, .int (py)), (3, .int (sc))]) C dX3_placeOf_199 (by decide) (fun _ => rfl) (fun nb enb => ?_)
              obtain rfl : nb = bI (!b) := enb.trans bI_inv
              refine ww_iinc (q := 8) (fun y7 => [(5, .int (y7)), (4, .int (bI (!b))), (12, .int (ch)), (11, .int (sd)), (10, .int (bz)), (9, .int (bx)), (8, .int (ay)), (7, .int (ax)), (6, .int (nI (af n i))), (0, .ref (gA G 17 (p))), (1, .int (px)), (2, .int (py)), (3, .int (sc))]) C dX3_placeOf_201 rfl (by decide) (fun _ => rfl) (fun y7 ey7 => ?_)
              obtain rfl : y7 = nI (i + 1) := ninc rfl ey7
              refine ww_goto 6 C dX3_placeOf_204 (by decide) ?_
              have hof : (onC n (σ 15 (p + 1)) (σ 16 (p + 1)) px py sc) i = false := pl_of2 (by rw [← eax, ← ebx]; exact h116)
              have hcr : (crC n (σ 15 (p + 1)) (σ 16 (p + 1)) px py sc) i = true := by rw [crC, hsd, ← eay, ← ebz, bx1 (ech ▸ h161), bx3 h186]; rfl
              exact ww_sub [0, 1, 9, 10, 11, 12] rfl (ih (i + 1) (!b) (by omega) (by omega) (by rw [← hv, plcN_step (by omega) hof, hcr]; simp))
        · refine ww_iload C dX3_placeOf_119 3 rfl ?_
          refine ww_iload C dX3_placeOf_121 1 rfl ?_
          refine ww_imul C dX3_placeOf_123 ?_
          refine ww_if_gt 129 C dX3_placeOf_124 (by decide) (fun h124 => ?_) (fun h124 => ?_)
          · refine ww_iload C dX3_placeOf_129 3 rfl ?_
            refine ww_b_le C dX3_placeOf_131 dX3_placeOf_134 dX3_placeOf_135 dX3_placeOf_138 ?_
            refine ww_iload C dX3_placeOf_139 1 rfl ?_
            refine ww_b_le C dX3_placeOf_141 dX3_placeOf_144 dX3_placeOf_145 dX3_placeOf_148 ?_
            refine ww_bc_eq C dX3_placeOf_149 dX3_placeOf_152 dX3_placeOf_153 dX3_placeOf_156 ?_
            refine ww_istore (fun ch => [(12, .int (ch)), (11, .int (sd)), (10, .int (bz)), (9, .int (bx)), (8, .int (ay)), (7, .int (ax)), (6, .int (nI (af n i))), (5, .int (nI i)), (4, .int (bI b)), (0, .ref (gA G 17 (p))), (1, .int (px)), (2, .int (py)), (3, .int (sc))]) C dX3_placeOf_157 (by decide) (fun _ => rfl) (fun ch ech => ?_)
            refine ww_iload C dX3_placeOf_159 0 rfl ?_
            refine ww_if_eq 201 C dX3_placeOf_161 (by decide) (fun h161 => ?_) (fun h161 => ?_)
            · refine ww_iinc (q := 7) (fun y8 => [(5, .int (y8)), (12, .int (ch)), (11, .int (sd)), (10, .int (bz)), (9, .int (bx)), (8, .int (ay)), (7, .int (ax)), (6, .int (nI (af n i))), (4, .int (bI b)), (0, .ref (gA G 17 (p))), (1, .int (px)), (2, .int (py)), (3, .int (sc))]) C dX3_placeOf_201 rfl (by decide) (fun _ => rfl) (fun y8 ey8 => ?_)
              obtain rfl : y8 = nI (i + 1) := ninc rfl ey8
              refine ww_goto 6 C dX3_placeOf_204 (by decide) ?_
              have hof : (onC n (σ 15 (p + 1)) (σ 16 (p + 1)) px py sc) i = false := pl_of3 (by rw [← eay, ← ebz]; exact h124)
              have hcr : (crC n (σ 15 (p + 1)) (σ 16 (p + 1)) px py sc) i = false := by rw [crC, ← eay, ← ebz, bx0 (ech ▸ h161)]; rfl
              exact ww_sub [0, 8, 9, 10, 11, 12] rfl (ih (i + 1) b (by omega) (by omega) (by rw [← hv, plcN_step (by omega) hof, hcr]; simp))
            · refine ww_iload C dX3_placeOf_164 1 rfl ?_
              refine ww_b_le C dX3_placeOf_166 dX3_placeOf_169 dX3_placeOf_170 dX3_placeOf_173 ?_
              refine ww_iload C dX3_placeOf_174 2 rfl ?_
              refine ww_iload C dX3_placeOf_176 4 rfl ?_
              refine ww_bc_le C dX3_placeOf_178 dX3_placeOf_181 dX3_placeOf_182 dX3_placeOf_185 ?_
              refine ww_icmp_ne 201 C dX3_placeOf_186 (by decide) (fun h186 => ?_) (fun h186 => ?_)
              · refine ww_iinc (q := 7) (fun y9 => [(5, .int (y9)), (12, .int (ch)), (11, .int (sd)), (10, .int (bz)), (9, .int (bx)), (8, .int (ay)), (7, .int (ax)), (6, .int (nI (af n i))), (4, .int (bI b)), (0, .ref (gA G 17 (p))), (1, .int (px)), (2, .int (py)), (3, .int (sc))]) C dX3_placeOf_201 rfl (by decide) (fun _ => rfl) (fun y9 ey9 => ?_)
                obtain rfl : y9 = nI (i + 1) := ninc rfl ey9
                refine ww_goto 6 C dX3_placeOf_204 (by decide) ?_
                have hof : (onC n (σ 15 (p + 1)) (σ 16 (p + 1)) px py sc) i = false := pl_of3 (by rw [← eay, ← ebz]; exact h124)
                have hcr : (crC n (σ 15 (p + 1)) (σ 16 (p + 1)) px py sc) i = false := by rw [crC, hsd, ← eay, ← ebz, bx2 h186, Bool.and_false]
                exact ww_sub [0, 8, 9, 10, 11, 12] rfl (ih (i + 1) b (by omega) (by omega) (by rw [← hv, plcN_step (by omega) hof, hcr]; simp))
              · refine ww_iload C dX3_placeOf_189 8 rfl ?_
                refine ww_b_ne C dX3_placeOf_191 dX3_placeOf_194 dX3_placeOf_195 dX3_placeOf_198 ?_
                refine ww_istore (fun nb => [(4, .int (nb)), (12, .int (ch)), (11, .int (sd)), (10, .int (bz)), (9, .int (bx)), (8, .int (ay)), (7, .int (ax)), (6, .int (nI (af n i))), (5, .int (nI i)), (0, .ref (gA G 17 (p))), (1, .int (px)), (2, .int (py)), (3, .int (sc))]) C dX3_placeOf_199 (by decide) (fun _ => rfl) (fun nb enb => ?_)
                obtain rfl : nb = bI (!b) := enb.trans bI_inv
                refine ww_iinc (q := 8) (fun y10 => [(5, .int (y10)), (4, .int (bI (!b))), (12, .int (ch)), (11, .int (sd)), (10, .int (bz)), (9, .int (bx)), (8, .int (ay)), (7, .int (ax)), (6, .int (nI (af n i))), (0, .ref (gA G 17 (p))), (1, .int (px)), (2, .int (py)), (3, .int (sc))]) C dX3_placeOf_201 rfl (by decide) (fun _ => rfl) (fun y10 ey10 => ?_)
                obtain rfl : y10 = nI (i + 1) := ninc rfl ey10
                refine ww_goto 6 C dX3_placeOf_204 (by decide) ?_
                have hof : (onC n (σ 15 (p + 1)) (σ 16 (p + 1)) px py sc) i = false := pl_of3 (by rw [← eay, ← ebz]; exact h124)
                have hcr : (crC n (σ 15 (p + 1)) (σ 16 (p + 1)) px py sc) i = true := by rw [crC, hsd, ← eay, ← ebz, bx1 (ech ▸ h161), bx3 h186]; rfl
                exact ww_sub [0, 1, 9, 10, 11, 12] rfl (ih (i + 1) (!b) (by omega) (by omega) (by rw [← hv, plcN_step (by omega) hof, hcr]; simp))
          · refine ww_iconst (v := 1) C dX3_placeOf_127 rfl ?_
            refine ww_iret C dX3_placeOf_128 ?_
            exact ⟨by rw [← hv, plcN_on (by omega) (pl_on (by rw [hsd]; exact h108) (by rw [← eax, ← ebx]; exact h116) (by rw [← eay, ← ebz]; exact h124))], rfl⟩
set_option maxHeartbeats 4000000 in
set_option maxRecDepth 100000 in
theorem c_X3_placeOf (l : Launch) (G : Gx) (hA : wa G) (σ : Sg) (p n : Nat) (hp : p < 8) (hs : σ 14 (p + 1) 2 = nI n) (hn : n ≤ 14) (px py sc : Int32) : CtI l yX3_placeOf wsX3_placeOf (rmd 2) G [.ref (gA G 17 (p)), .int (px), .int (py), .int (sc)] σ (fun r σ2 => r = plcC n (σ 15 (p + 1)) (σ 16 (p + 1)) px py sc ∧ σ2 = σ) := by
  refine ct_i (maxL := 13) (ret := (some .int)) (by decide) rfl (Nat.le_of_ble_eq_true rfl) hA (fun K hl C => ?_)
  subst hl
  change WW K G _ _ σ [(0, .ref (gA G 17 (p))), (1, .int (px)), (2, .int (py)), (3, .int (sc))] 0 []
  refine ww_iconst (v := 0) C dX3_placeOf_0 rfl ?_
  refine ww_istore (fun y1 => [(4, .int (y1)), (0, .ref (gA G 17 (p))), (1, .int (px)), (2, .int (py)), (3, .int (sc))]) C dX3_placeOf_1 (by decide) (fun _ => rfl) (fun y1 ey1 => ?_)
  obtain rfl : y1 = nI 0 := (ey1.trans (by decide))
  refine ww_iconst (v := 0) C dX3_placeOf_3 rfl ?_
  refine ww_istore (fun y2 => [(5, .int (y2)), (4, .int (nI 0)), (0, .ref (gA G 17 (p))), (1, .int (px)), (2, .int (py)), (3, .int (sc))]) C dX3_placeOf_4 (by decide) (fun _ => rfl) (fun y2 ey2 => ?_)
  obtain rfl : y2 = nI 0 := (ey2.trans (by decide))
  exact lp_X3_placeOf hA C σ p n hp hs hn px py sc (n + 1) 0 false (by omega) (by omega) rfl
set_option maxHeartbeats 4000000 in
set_option maxRecDepth 100000 in
theorem c_X3_look (l : Launch) (G : Gx) (hA : wa G) (σ : Sg) (p n : Nat) (hp : p < 8) (hs : σ 14 (p + 1) 2 = nI n) (hn : n ≤ 14) (i j : Nat) (hi : i < n) (hj : j < n) : CtI l yX3_look wsX3_look (rmd 5) G [.ref (gA G 17 (p)), .int (nI i), .int (nI j)] σ (fun r σ2 => r = lookF n (σ 15 (p + 1)) (σ 16 (p + 1)) i j ∧ σ2 = σ) := by
  refine ct_i (maxL := 5) (ret := (some .int)) (by decide) rfl (Nat.le_of_ble_eq_true rfl) hA (fun K hl C => ?_)
  subst hl
  change WW K G _ _ σ [(0, .ref (gA G 17 (p))), (1, .int (nI i)), (2, .int (nI j))] 0 []
  refine ww_aload_n C dX3_look_0 rfl 0 rfl ?_
  refine ww_gr (j := p + 1) (k := 17) (f := 0) C rfl rfl hp rfl in_X3_look_X3 (by decide) lk_X3_look_12 dX3_look_1 rfl ?_
  refine ww_iload_n C dX3_look_4 rfl 1 rfl ?_
  refine ww_calliF (cx_V (n := 1) (As := [.int (nI i)]) C  (c_X1_after (kL K) G hA _ (p + 1) n (Nat.add_lt_add_right hp 1) hs hn i (by omega)) gX3_look_X1_after rfl ⟨rfl, rfl⟩ (by decide +kernel) (by decide) rfl (Nat.add_lt_add_right hp 1) rfl rfl rfl (Nat.le_of_ble_eq_true rfl) dX3_look_5) ?_
  refine ww_iload_n C dX3_look_8 rfl 2 rfl ?_
  refine ww_icmp_eq 24 C dX3_look_9 (by decide) (fun h9 => ?_) (fun h9 => ?_)
  · have g9 : af n i = j := (cv_eq (a := af n i) (b := j) rfl rfl (lt31 (nlt14 (af_lt (by omega)) hn)) (by omega)).mp h9
    refine ww_iconst (v := 2) C dX3_look_24 rfl ?_
    refine ww_iret C dX3_look_25 ?_
    exact ⟨by rw [lookF, if_pos (Or.inl g9)], rfl⟩
  · have g9 : ¬ af n i = j := fun q => h9 ((cv_eq (a := af n i) (b := j) rfl rfl (lt31 (nlt14 (af_lt (by omega)) hn)) (by omega)).mpr q)
    refine ww_aload_n C dX3_look_12 rfl 0 rfl ?_
    refine ww_gr (j := p + 1) (k := 17) (f := 0) C rfl rfl hp rfl in_X3_look_X3 (by decide) lk_X3_look_12 dX3_look_13 rfl ?_
    refine ww_iload_n C dX3_look_16 rfl 2 rfl ?_
    refine ww_calliF (cx_V (n := 1) (As := [.int (nI j)]) C  (c_X1_after (kL K) G hA _ (p + 1) n (Nat.add_lt_add_right hp 1) hs hn j (by omega)) gX3_look_X1_after rfl ⟨rfl, rfl⟩ (by decide +kernel) (by decide) rfl (Nat.add_lt_add_right hp 1) rfl rfl rfl (Nat.le_of_ble_eq_true rfl) dX3_look_17) ?_
    refine ww_iload_n C dX3_look_20 rfl 1 rfl ?_
    refine ww_icmp_ne 26 C dX3_look_21 (by decide) (fun h21 => ?_) (fun h21 => ?_)
    · have g21 : ¬ af n j = i := fun q => h21 ((cv_eq (a := af n j) (b := i) rfl rfl (lt31 (nlt14 (af_lt (by omega)) hn)) (by omega)).mpr q)
      refine ww_aload_n C dX3_look_26 rfl 0 rfl ?_
      refine ww_gr (j := p + 1) (k := 17) (f := 0) C rfl rfl hp rfl in_X3_look_X3 (by decide) lk_X3_look_12 dX3_look_27 rfl ?_
      refine ww_gr (j := p + 1) (k := 14) (f := 0) C rfl rfl (Nat.add_lt_add_right hp 1) rfl in_X3_look_X1 (by decide) lk_X3_look_77 dX3_look_30 rfl ?_
      refine ww_iload_n C dX3_look_33 rfl 1 rfl ?_
      refine ww_iald (k := 15) (j := i) C rfl (Nat.add_lt_add_right hp 1) (by decide) dX3_look_34 rfl (by omega) ?_
      refine ww_aload_n C dX3_look_35 rfl 0 rfl ?_
      refine ww_gr (j := p + 1) (k := 17) (f := 0) C rfl rfl hp rfl in_X3_look_X3 (by decide) lk_X3_look_12 dX3_look_36 rfl ?_
      refine ww_gr (j := p + 1) (k := 14) (f := 0) C rfl rfl (Nat.add_lt_add_right hp 1) rfl in_X3_look_X1 (by decide) lk_X3_look_77 dX3_look_39 rfl ?_
      refine ww_iload_n C dX3_look_42 rfl 2 rfl ?_
      refine ww_iald (k := 15) (j := j) C rfl (Nat.add_lt_add_right hp 1) (by decide) dX3_look_43 rfl (by omega) ?_
      refine ww_iadd C dX3_look_44 ?_
      refine ww_istore_n (fun mx => [(3, .int (mx)), (0, .ref (gA G 17 (p))), (1, .int (nI i)), (2, .int (nI j))]) C dX3_look_45 rfl (by decide) (fun _ => rfl) (fun mx emx => ?_)
      refine ww_aload_n C dX3_look_46 rfl 1 rfl ?_
      refine ww_gr (j := p + 1) (k := 17) (f := 0) C rfl rfl hp rfl in_X3_look_X3 (by decide) lk_X3_look_12 dX3_look_47 rfl ?_
      refine ww_gr (j := p + 1) (k := 14) (f := 1) C rfl rfl (Nat.add_lt_add_right hp 1) rfl in_X3_look_X1 (by decide) lk_X3_look_80 dX3_look_50 rfl ?_
      refine ww_iload_n C dX3_look_53 rfl 2 rfl ?_
      refine ww_iald (k := 16) (j := i) C rfl (Nat.add_lt_add_right hp 1) (by decide) dX3_look_54 rfl (by omega) ?_
      refine ww_aload_n C dX3_look_55 rfl 1 rfl ?_
      refine ww_gr (j := p + 1) (k := 17) (f := 0) C rfl rfl hp rfl in_X3_look_X3 (by decide) lk_X3_look_12 dX3_look_56 rfl ?_
      refine ww_gr (j := p + 1) (k := 14) (f := 1) C rfl rfl (Nat.add_lt_add_right hp 1) rfl in_X3_look_X1 (by decide) lk_X3_look_80 dX3_look_59 rfl ?_
      refine ww_iload_n C dX3_look_62 rfl 3 rfl ?_
      refine ww_iald (k := 16) (j := j) C rfl (Nat.add_lt_add_right hp 1) (by decide) dX3_look_63 rfl (by omega) ?_
      refine ww_iadd C dX3_look_64 ?_
      refine ww_istore (fun my => [(4, .int (my)), (3, .int (mx)), (0, .ref (gA G 17 (p))), (1, .int (nI i)), (2, .int (nI j))]) C dX3_look_65 (by decide) (fun _ => rfl) (fun my emy => ?_)
      refine ww_aload_n C dX3_look_67 rfl 2 rfl ?_
      refine ww_iload_n C dX3_look_68 rfl 3 rfl ?_
      refine ww_iload_n C dX3_look_69 rfl 4 rfl ?_
      refine ww_calliF (cx_V (n := 2) (As := [.int (nI i), .int (nI j)]) C  (c_X3_isFree (kL K) G hA _ p n hp hs hn i j (by omega) (by omega)) gX3_look_X3_isFree rfl ⟨rfl, rfl⟩ (by decide +kernel) (by decide) rfl hp rfl rfl rfl (Nat.le_of_ble_eq_true rfl) dX3_look_70) ?_
      refine ww_if_eq 92 C dX3_look_73 (by decide) (fun h73 => ?_) (fun h73 => ?_)
      · have hfr := bI_0.mp h73
        refine ww_iconst (v := 0) C dX3_look_92 rfl ?_
        refine ww_iret C dX3_look_93 ?_
        exact ⟨by rw [lookF, if_neg (by omega), if_neg (fun q => by rw [q.1] at hfr; cases hfr)], rfl⟩
      · have hfr := bI_1.mp h73
        refine ww_aload_n C dX3_look_76 rfl 2 rfl ?_
        refine ww_iload_n C dX3_look_77 rfl 1 rfl ?_
        refine ww_iload C dX3_look_78 0 rfl ?_
        refine ww_iconst (v := 2) C dX3_look_80 rfl ?_
        refine ww_calliF (cx_V (n := 3) (As := [.int (mx), .int (my), .int (2)]) C  (c_X3_placeOf (kL K) G hA _ p n hp hs hn _ _ _) gX3_look_X3_placeOf rfl ⟨rfl, rfl⟩ (by decide +kernel) (by decide) rfl hp rfl rfl rfl (Nat.le_of_ble_eq_true rfl) dX3_look_81) ?_
        refine ww_iconst (v := 2) C dX3_look_84 rfl ?_
        refine ww_icmp_ne 92 C dX3_look_85 (by decide) (fun h85 => ?_) (fun h85 => ?_)
        · refine ww_iconst (v := 0) C dX3_look_92 rfl ?_
          refine ww_iret C dX3_look_93 ?_
          exact ⟨by rw [lookF, if_neg (by omega), if_neg (fun q => h85 (by rw [emx, emy]; exact q.2))], rfl⟩
        · refine ww_iconst (v := 1) C dX3_look_88 rfl ?_
          refine ww_goto 93 C dX3_look_89 (by decide) ?_
          refine ww_iret C dX3_look_93 ?_
          exact ⟨by rw [lookF, if_neg (by omega), if_pos ⟨Option.isNone_iff_eq_none.mp hfr, by rw [← emx, ← emy]; exact h85⟩], rfl⟩
    · have g21 : af n j = i := (cv_eq (a := af n j) (b := i) rfl rfl (lt31 (nlt14 (af_lt (by omega)) hn)) (by omega)).mp h21
      refine ww_iconst (v := 2) C dX3_look_24 rfl ?_
      refine ww_iret C dX3_look_25 ?_
      exact ⟨by rw [lookF, if_pos (Or.inr g21)], rfl⟩
