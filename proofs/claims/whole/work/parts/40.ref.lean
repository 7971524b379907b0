
theorem mod14 {a n : Nat} (h0 : 0 < n) (hn : n ≤ 14) : a % n < 14 := by
  have := Nat.mod_lt a h0
  omega
theorem rem9 {x y : Int32} {a b : Nat} (hx : x = nI a) (hy : y = nI b) (ha : a < 2 ^ 31) (h0 : 0 < b) (hb : b < 2 ^ 31) : x - x / y * y = nI (a % b) := by
  subst hx; subst hy
  exact pk_rem ha h0 hb
def tnR (ax ay bx bz cx cy : Int32) : Int32 := (bx - ax) * (cy - ay) - (bz - ay) * (cx - ax)
def sg9 (v : Int32) : Int32 := if 0 < v then 1 else if v < 0 then -1 else 0
def inB (a b v : Int32) : Bool := if a < b then decide (a ≤ v) && decide (v ≤ b) else decide (b ≤ v) && decide (v ≤ a)
def btw (ax ay bx bz x y : Int32) : Bool := decide (tnR ax ay bx bz x y = 0) && (inB ax bx x && inB ay bz y)
def mtR (ax ay bx bz cx cy dx dy : Int32) : Bool := (decide (sg9 (tnR ax ay bx bz cx cy) * sg9 (tnR ax ay bx bz dx dy) < 0) && decide (sg9 (tnR cx cy dx dy ax ay) * sg9 (tnR cx cy dx dy bx bz) < 0)) || (btw ax ay bx bz cx cy || (btw ax ay bx bz dx dy || (btw cx cy dx dy ax ay || btw cx cy dx dy bx bz)))
set_option maxHeartbeats 4000000 in
set_option maxRecDepth 100000 in
theorem c_X6_within (l : Launch) (G : Gx) (hA : wa G) (σ : Sg) (v a b : Int32) : CtI l yX6_within wsX6_within (rmd 1) G [.int (v), .int (a), .int (b)] σ (fun r σ2 => r = bI (decide (a ≤ v ∧ v ≤ b)) ∧ σ2 = σ) := by
  refine ct_i (maxL := 3) (ret := (some .boolean)) (by decide) rfl (Nat.le_of_ble_eq_true rfl) hA (fun K hl C => ?_)
  subst hl
  change WW K G _ _ σ [(0, .int (v)), (1, .int (a)), (2, .int (b))] 0 []
  refine ww_iload_n C dX6_within_0 rfl 0 rfl ?_
  refine ww_iload_n C dX6_within_1 rfl 1 rfl ?_
  refine ww_icmp_lt 14 C dX6_within_2 (by decide) (fun h2 => ?_) (fun h2 => ?_)
  · refine ww_iconst (v := 0) C dX6_within_14 rfl ?_
    refine ww_zret C dX6_within_15 (by first | rfl | exact bI_n) ?_
    exact ⟨by rw [decide_eq_false (fun q => absurd q.1 (Int32.not_le.mpr h2))]; rfl, rfl⟩
  · refine ww_iload_n C dX6_within_5 rfl 0 rfl ?_
    refine ww_iload_n C dX6_within_6 rfl 2 rfl ?_
    refine ww_icmp_gt 14 C dX6_within_7 (by decide) (fun h7 => ?_) (fun h7 => ?_)
    · refine ww_iconst (v := 0) C dX6_within_14 rfl ?_
      refine ww_zret C dX6_within_15 (by first | rfl | exact bI_n) ?_
      exact ⟨by rw [decide_eq_false (fun q => absurd q.2 (Int32.not_le.mpr h7))]; rfl, rfl⟩
    · refine ww_iconst (v := 1) C dX6_within_10 rfl ?_
      refine ww_goto 15 C dX6_within_11 (by decide) ?_
      refine ww_zret C dX6_within_15 (by first | rfl | exact bI_n) ?_
      exact ⟨by rw [decide_eq_true ⟨Int32.not_lt.mp h2, Int32.not_lt.mp h7⟩]; rfl, rfl⟩
set_option maxHeartbeats 4000000 in
set_option maxRecDepth 100000 in
theorem c_X6_turn (l : Launch) (G : Gx) (hA : wa G) (σ : Sg) (ax ay bx bz x y : Int32) : CtI l yX6_turn wsX6_turn (rmd 1) G [.int (ax), .int (ay), .int (bx), .int (bz), .int (x), .int (y)] σ (fun r σ2 => r = tnR ax ay bx bz x y ∧ σ2 = σ) := by
  refine ct_i (maxL := 6) (ret := (some .int)) (by decide) rfl (Nat.le_of_ble_eq_true rfl) hA (fun K hl C => ?_)
  subst hl
  change WW K G _ _ σ [(0, .int (ax)), (1, .int (ay)), (2, .int (bx)), (3, .int (bz)), (4, .int (x)), (5, .int (y))] 0 []
  refine ww_iload_n C dX6_turn_0 rfl 2 rfl ?_
  refine ww_iload_n C dX6_turn_1 rfl 0 rfl ?_
  refine ww_isub C dX6_turn_2 ?_
  refine ww_iload C dX6_turn_3 5 rfl ?_
  refine ww_iload_n C dX6_turn_5 rfl 1 rfl ?_
  refine ww_isub C dX6_turn_6 ?_
  refine ww_imul C dX6_turn_7 ?_
  refine ww_iload_n C dX6_turn_8 rfl 3 rfl ?_
  refine ww_iload_n C dX6_turn_9 rfl 1 rfl ?_
  refine ww_isub C dX6_turn_10 ?_
  refine ww_iload C dX6_turn_11 4 rfl ?_
  refine ww_iload_n C dX6_turn_13 rfl 0 rfl ?_
  refine ww_isub C dX6_turn_14 ?_
  refine ww_imul C dX6_turn_15 ?_
  refine ww_isub C dX6_turn_16 ?_
  refine ww_iret C dX6_turn_17 ?_
  exact ⟨rfl, rfl⟩
set_option maxHeartbeats 4000000 in
set_option maxRecDepth 100000 in
theorem c_X6_sign (l : Launch) (G : Gx) (hA : wa G) (σ : Sg) (v : Int32) : CtI l yX6_sign wsX6_sign (rmd 1) G [.int (v)] σ (fun r σ2 => r = sg9 v ∧ σ2 = σ) := by
  refine ct_i (maxL := 1) (ret := (some .int)) (by decide) rfl (Nat.le_of_ble_eq_true rfl) hA (fun K hl C => ?_)
  subst hl
  change WW K G _ _ σ [(0, .int (v))] 0 []
  refine ww_iload_n C dX6_sign_0 rfl 0 rfl ?_
  refine ww_if_le 8 C dX6_sign_1 (by decide) (fun h1 => ?_) (fun h1 => ?_)
  · refine ww_iload_n C dX6_sign_8 rfl 0 rfl ?_
    refine ww_if_ge 16 C dX6_sign_9 (by decide) (fun h9 => ?_) (fun h9 => ?_)
    · refine ww_iconst (v := 0) C dX6_sign_16 rfl ?_
      refine ww_iret C dX6_sign_17 ?_
      exact ⟨by rw [sg9, if_neg (Int32.not_lt.mpr h1), if_neg (Int32.not_lt.mpr h9)], rfl⟩
    · refine ww_iconst (v := -1) C dX6_sign_12 rfl ?_
      refine ww_goto 17 C dX6_sign_13 (by decide) ?_
      refine ww_iret C dX6_sign_17 ?_
      exact ⟨by rw [sg9, if_neg (Int32.not_lt.mpr h1), if_pos (Int32.not_le.mp h9)], rfl⟩
  · refine ww_iconst (v := 1) C dX6_sign_4 rfl ?_
    refine ww_goto 17 C dX6_sign_5 (by decide) ?_
    refine ww_iret C dX6_sign_17 ?_
    exact ⟨by rw [sg9, if_pos (Int32.not_le.mp h1)], rfl⟩
set_option maxHeartbeats 4000000 in
set_option maxRecDepth 100000 in
theorem sg_X6_isBetween_88 {K : Kx} {G : Gx} (hA : wa G) (C : CX K G cX6_isBetween 8 RX6 wsX6_isBetween (rmd 2) (some .boolean)) (σ : Sg) (ax ay bx bz x y : Int32) (u v : Bool) (hu : u = inB ax bx x) (hv : v = inB ay bz y) : WW K G 8 (QI K G (fun r σ2 => r = bI (btw ax ay bx bz x y) ∧ σ2 = σ)) σ [(7, .int (bI v)), (6, .int (bI u)), (0, .int (ax)), (1, .int (ay)), (2, .int (bx)), (3, .int (bz)), (4, .int (x)), (5, .int (y))] 88 [] := by
  refine ww_iload_n C dX6_isBetween_88 rfl 2 rfl ?_
  refine ww_iload_n C dX6_isBetween_89 rfl 3 rfl ?_
  refine ww_iload_n C dX6_isBetween_90 rfl 4 rfl ?_
  refine ww_iload_n C dX6_isBetween_91 rfl 5 rfl ?_
  refine ww_iload C dX6_isBetween_92 6 rfl ?_
  refine ww_iload C dX6_isBetween_94 7 rfl ?_
  refine ww_calliF (cx_S (n := 6) (As := [.int (ax), .int (ay), .int (bx), .int (bz), .int (x), .int (y)]) C  (c_X6_turn (kL K) G hA _ _ _ _ _ _ _) gX6_isBetween_X6_turn rfl ⟨rfl, rfl⟩ (by decide +kernel) (by decide) rfl rfl (Nat.le_of_ble_eq_true rfl) dX6_isBetween_96) ?_
  refine ww_if_ne 116 C dX6_isBetween_99 (by decide) (fun h99 => ?_) (fun h99 => ?_)
  · refine ww_iconst (v := 0) C dX6_isBetween_116 rfl ?_
    refine ww_zret C dX6_isBetween_117 (by first | rfl | exact bI_n) ?_
    exact ⟨by rw [btw, decide_eq_false h99]; rfl, rfl⟩
  · refine ww_iload C dX6_isBetween_102 1 rfl ?_
    refine ww_if_eq 116 C dX6_isBetween_104 (by decide) (fun h104 => ?_) (fun h104 => ?_)
    · refine ww_iconst (v := 0) C dX6_isBetween_116 rfl ?_
      refine ww_zret C dX6_isBetween_117 (by first | rfl | exact bI_n) ?_
      exact ⟨by rw [btw, ← hu, bI_0.mp h104, Bool.false_and, Bool.and_false]; rfl, rfl⟩
    · refine ww_iload C dX6_isBetween_107 0 rfl ?_
      refine ww_if_eq 116 C dX6_isBetween_109 (by decide) (fun h109 => ?_) (fun h109 => ?_)
      · refine ww_iconst (v := 0) C dX6_isBetween_116 rfl ?_
        refine ww_zret C dX6_isBetween_117 (by first | rfl | exact bI_n) ?_
        exact ⟨by rw [btw, ← hv, bI_0.mp h109, Bool.and_false, Bool.and_false]; rfl, rfl⟩
      · refine ww_iconst (v := 1) C dX6_isBetween_112 rfl ?_
        refine ww_goto 117 C dX6_isBetween_113 (by decide) ?_
        refine ww_zret C dX6_isBetween_117 (by first | rfl | exact bI_n) ?_
        exact ⟨by rw [btw, decide_eq_true h99, ← hu, ← hv, bI_1.mp h104, bI_1.mp h109]; rfl, rfl⟩
set_option maxHeartbeats 4000000 in
set_option maxRecDepth 100000 in
theorem sg_X6_isBetween_44 {K : Kx} {G : Gx} (hA : wa G) (C : CX K G cX6_isBetween 8 RX6 wsX6_isBetween (rmd 2) (some .boolean)) (σ : Sg) (ax ay bx bz x y : Int32) (u : Bool) (hu : u = inB ax bx x) : WW K G 8 (QI K G (fun r σ2 => r = bI (btw ax ay bx bz x y) ∧ σ2 = σ)) σ [(6, .int (bI u)), (0, .int (ax)), (1, .int (ay)), (2, .int (bx)), (3, .int (bz)), (4, .int (x)), (5, .int (y))] 44 [] := by
  refine ww_iload_n C dX6_isBetween_44 rfl 2 rfl ?_
  refine ww_iload_n C dX6_isBetween_45 rfl 4 rfl ?_
  refine ww_icmp_ge 69 C dX6_isBetween_46 (by decide) (fun h46 => ?_) (fun h46 => ?_)
  · refine ww_iload C dX6_isBetween_69 6 rfl ?_
    refine ww_iload_n C dX6_isBetween_71 rfl 4 rfl ?_
    refine ww_icmp_lt 85 C dX6_isBetween_72 (by decide) (fun h72 => ?_) (fun h72 => ?_)
    · refine ww_iconst (v := 0) C dX6_isBetween_85 rfl ?_
      refine ww_istore (fun y1 => [(7, .int (y1)), (6, .int (bI u)), (0, .int (ax)), (1, .int (ay)), (2, .int (bx)), (3, .int (bz)), (4, .int (x)), (5, .int (y))]) C dX6_isBetween_86 (by decide) (fun _ => rfl) (fun y1 ey1 => ?_)
      rw [ey1]; clear ey1 y1
      exact ww_sub [0, 1, 2, 3, 4, 5, 6, 7] rfl (sg_X6_isBetween_88 hA C σ ax ay bx bz x y u false hu (by rw [inB, if_neg (i32_nlt.mpr h46), decide_eq_false (i32_nle.mpr h72)]; rfl))
    · refine ww_iload C dX6_isBetween_75 6 rfl ?_
      refine ww_iload_n C dX6_isBetween_77 rfl 2 rfl ?_
      refine ww_icmp_gt 85 C dX6_isBetween_78 (by decide) (fun h78 => ?_) (fun h78 => ?_)
      · refine ww_iconst (v := 0) C dX6_isBetween_85 rfl ?_
        refine ww_istore (fun y2 => [(7, .int (y2)), (6, .int (bI u)), (0, .int (ax)), (1, .int (ay)), (2, .int (bx)), (3, .int (bz)), (4, .int (x)), (5, .int (y))]) C dX6_isBetween_86 (by decide) (fun _ => rfl) (fun y2 ey2 => ?_)
        rw [ey2]; clear ey2 y2
        exact ww_sub [0, 1, 2, 3, 4, 5, 6, 7] rfl (sg_X6_isBetween_88 hA C σ ax ay bx bz x y u false hu (by rw [inB, if_neg (i32_nlt.mpr h46), decide_eq_false (p := y ≤ ay) (i32_nle.mpr h78), Bool.and_false]))
      · refine ww_iconst (v := 1) C dX6_isBetween_81 rfl ?_
        refine ww_goto 86 C dX6_isBetween_82 (by decide) ?_
        refine ww_istore (fun y3 => [(7, .int (y3)), (6, .int (bI u)), (0, .int (ax)), (1, .int (ay)), (2, .int (bx)), (3, .int (bz)), (4, .int (x)), (5, .int (y))]) C dX6_isBetween_86 (by decide) (fun _ => rfl) (fun y3 ey3 => ?_)
        rw [ey3]; clear ey3 y3
        exact ww_sub [0, 1, 2, 3, 4, 5, 6, 7] rfl (sg_X6_isBetween_88 hA C σ ax ay bx bz x y u true hu (by rw [inB, if_neg (i32_nlt.mpr h46), decide_eq_true (i32_nlt.mp h72), decide_eq_true (i32_nlt.mp h78)]; rfl))
  · refine ww_iload C dX6_isBetween_49 6 rfl ?_
    refine ww_iload_n C dX6_isBetween_51 rfl 2 rfl ?_
    refine ww_icmp_lt 65 C dX6_isBetween_52 (by decide) (fun h52 => ?_) (fun h52 => ?_)
    · refine ww_iconst (v := 0) C dX6_isBetween_65 rfl ?_
      refine ww_goto 86 C dX6_isBetween_66 (by decide) ?_
      refine ww_istore (fun y4 => [(7, .int (y4)), (6, .int (bI u)), (0, .int (ax)), (1, .int (ay)), (2, .int (bx)), (3, .int (bz)), (4, .int (x)), (5, .int (y))]) C dX6_isBetween_86 (by decide) (fun _ => rfl) (fun y4 ey4 => ?_)
      rw [ey4]; clear ey4 y4
      exact ww_sub [0, 1, 2, 3, 4, 5, 6, 7] rfl (sg_X6_isBetween_88 hA C σ ax ay bx bz x y u false hu (by rw [inB, if_pos (Int32.not_le.mp h46), decide_eq_false (i32_nle.mpr h52)]; rfl))
    · refine ww_iload C dX6_isBetween_55 6 rfl ?_
      refine ww_iload_n C dX6_isBetween_57 rfl 4 rfl ?_
      refine ww_icmp_gt 65 C dX6_isBetween_58 (by decide) (fun h58 => ?_) (fun h58 => ?_)
      · refine ww_iconst (v := 0) C dX6_isBetween_65 rfl ?_
        refine ww_goto 86 C dX6_isBetween_66 (by decide) ?_
        refine ww_istore (fun y5 => [(7, .int (y5)), (6, .int (bI u)), (0, .int (ax)), (1, .int (ay)), (2, .int (bx)), (3, .int (bz)), (4, .int (x)), (5, .int (y))]) C dX6_isBetween_86 (by decide) (fun _ => rfl) (fun y5 ey5 => ?_)
        rw [ey5]; clear ey5 y5
        exact ww_sub [0, 1, 2, 3, 4, 5, 6, 7] rfl (sg_X6_isBetween_88 hA C σ ax ay bx bz x y u false hu (by rw [inB, if_pos (Int32.not_le.mp h46), decide_eq_false (p := y ≤ bz) (i32_nle.mpr h58), Bool.and_false]))
      · refine ww_iconst (v := 1) C dX6_isBetween_61 rfl ?_
        refine ww_goto 86 C dX6_isBetween_62 (by decide) ?_
        refine ww_istore (fun y6 => [(7, .int (y6)), (6, .int (bI u)), (0, .int (ax)), (1, .int (ay)), (2, .int (bx)), (3, .int (bz)), (4, .int (x)), (5, .int (y))]) C dX6_isBetween_86 (by decide) (fun _ => rfl) (fun y6 ey6 => ?_)
        rw [ey6]; clear ey6 y6
        exact ww_sub [0, 1, 2, 3, 4, 5, 6, 7] rfl (sg_X6_isBetween_88 hA C σ ax ay bx bz x y u true hu (by rw [inB, if_pos (Int32.not_le.mp h46), decide_eq_true (i32_nlt.mp h52), decide_eq_true (i32_nlt.mp h58)]; rfl))
set_option maxHeartbeats 4000000 in
set_option maxRecDepth 100000 in
theorem c_X6_isBetween (l : Launch) (G : Gx) (hA : wa G) (σ : Sg) (ax ay bx bz x y : Int32) : CtI l yX6_isBetween wsX6_isBetween (rmd 2) G [.int (ax), .int (ay), .int (bx), .int (bz), .int (x), .int (y)] σ (fun r σ2 => r = bI (btw ax ay bx bz x y) ∧ σ2 = σ) := by
  refine ct_i (maxL := 8) (ret := (some .boolean)) (by decide) rfl (Nat.le_of_ble_eq_true rfl) hA (fun K hl C => ?_)
  subst hl
  change WW K G _ _ σ [(0, .int (ax)), (1, .int (ay)), (2, .int (bx)), (3, .int (bz)), (4, .int (x)), (5, .int (y))] 0 []
  refine ww_iload_n C dX6_isBetween_0 rfl 0 rfl ?_
  refine ww_iload_n C dX6_isBetween_1 rfl 2 rfl ?_
  refine ww_icmp_ge 25 C dX6_isBetween_2 (by decide) (fun h2 => ?_) (fun h2 => ?_)
  · refine ww_iload C dX6_isBetween_25 4 rfl ?_
    refine ww_iload_n C dX6_isBetween_27 rfl 2 rfl ?_
    refine ww_icmp_lt 41 C dX6_isBetween_28 (by decide) (fun h28 => ?_) (fun h28 => ?_)
    · refine ww_iconst (v := 0) C dX6_isBetween_41 rfl ?_
      refine ww_istore (fun y1 => [(6, .int (y1)), (0, .int (ax)), (1, .int (ay)), (2, .int (bx)), (3, .int (bz)), (4, .int (x)), (5, .int (y))]) C dX6_isBetween_42 (by decide) (fun _ => rfl) (fun y1 ey1 => ?_)
      rw [ey1]; clear ey1 y1
      exact ww_sub [0, 1, 2, 3, 4, 5, 6] rfl (sg_X6_isBetween_44 hA C σ ax ay bx bz x y false (by rw [inB, if_neg (i32_nlt.mpr h2), decide_eq_false (i32_nle.mpr h28)]; rfl))
    · refine ww_iload C dX6_isBetween_31 4 rfl ?_
      refine ww_iload_n C dX6_isBetween_33 rfl 0 rfl ?_
      refine ww_icmp_gt 41 C dX6_isBetween_34 (by decide) (fun h34 => ?_) (fun h34 => ?_)
      · refine ww_iconst (v := 0) C dX6_isBetween_41 rfl ?_
        refine ww_istore (fun y2 => [(6, .int (y2)), (0, .int (ax)), (1, .int (ay)), (2, .int (bx)), (3, .int (bz)), (4, .int (x)), (5, .int (y))]) C dX6_isBetween_42 (by decide) (fun _ => rfl) (fun y2 ey2 => ?_)
        rw [ey2]; clear ey2 y2
        exact ww_sub [0, 1, 2, 3, 4, 5, 6] rfl (sg_X6_isBetween_44 hA C σ ax ay bx bz x y false (by rw [inB, if_neg (i32_nlt.mpr h2), decide_eq_false (p := x ≤ ax) (i32_nle.mpr h34), Bool.and_false]))
      · refine ww_iconst (v := 1) C dX6_isBetween_37 rfl ?_
        refine ww_goto 42 C dX6_isBetween_38 (by decide) ?_
        refine ww_istore (fun y3 => [(6, .int (y3)), (0, .int (ax)), (1, .int (ay)), (2, .int (bx)), (3, .int (bz)), (4, .int (x)), (5, .int (y))]) C dX6_isBetween_42 (by decide) (fun _ => rfl) (fun y3 ey3 => ?_)
        rw [ey3]; clear ey3 y3
        exact ww_sub [0, 1, 2, 3, 4, 5, 6] rfl (sg_X6_isBetween_44 hA C σ ax ay bx bz x y true (by rw [inB, if_neg (i32_nlt.mpr h2), decide_eq_true (i32_nlt.mp h28), decide_eq_true (i32_nlt.mp h34)]; rfl))
  · refine ww_iload C dX6_isBetween_5 4 rfl ?_
    refine ww_iload_n C dX6_isBetween_7 rfl 0 rfl ?_
    refine ww_icmp_lt 21 C dX6_isBetween_8 (by decide) (fun h8 => ?_) (fun h8 => ?_)
    · refine ww_iconst (v := 0) C dX6_isBetween_21 rfl ?_
      refine ww_goto 42 C dX6_isBetween_22 (by decide) ?_
      refine ww_istore (fun y4 => [(6, .int (y4)), (0, .int (ax)), (1, .int (ay)), (2, .int (bx)), (3, .int (bz)), (4, .int (x)), (5, .int (y))]) C dX6_isBetween_42 (by decide) (fun _ => rfl) (fun y4 ey4 => ?_)
      rw [ey4]; clear ey4 y4
      exact ww_sub [0, 1, 2, 3, 4, 5, 6] rfl (sg_X6_isBetween_44 hA C σ ax ay bx bz x y false (by rw [inB, if_pos (Int32.not_le.mp h2), decide_eq_false (i32_nle.mpr h8)]; rfl))
    · refine ww_iload C dX6_isBetween_11 4 rfl ?_
      refine ww_iload_n C dX6_isBetween_13 rfl 2 rfl ?_
      refine ww_icmp_gt 21 C dX6_isBetween_14 (by decide) (fun h14 => ?_) (fun h14 => ?_)
      · refine ww_iconst (v := 0) C dX6_isBetween_21 rfl ?_
        refine ww_goto 42 C dX6_isBetween_22 (by decide) ?_
        refine ww_istore (fun y5 => [(6, .int (y5)), (0, .int (ax)), (1, .int (ay)), (2, .int (bx)), (3, .int (bz)), (4, .int (x)), (5, .int (y))]) C dX6_isBetween_42 (by decide) (fun _ => rfl) (fun y5 ey5 => ?_)
        rw [ey5]; clear ey5 y5
        exact ww_sub [0, 1, 2, 3, 4, 5, 6] rfl (sg_X6_isBetween_44 hA C σ ax ay bx bz x y false (by rw [inB, if_pos (Int32.not_le.mp h2), decide_eq_false (p := x ≤ bx) (i32_nle.mpr h14), Bool.and_false]))
      · refine ww_iconst (v := 1) C dX6_isBetween_17 rfl ?_
        refine ww_goto 42 C dX6_isBetween_18 (by decide) ?_
        refine ww_istore (fun y6 => [(6, .int (y6)), (0, .int (ax)), (1, .int (ay)), (2, .int (bx)), (3, .int (bz)), (4, .int (x)), (5, .int (y))]) C dX6_isBetween_42 (by decide) (fun _ => rfl) (fun y6 ey6 => ?_)
        rw [ey6]; clear ey6 y6
        exact ww_sub [0, 1, 2, 3, 4, 5, 6] rfl (sg_X6_isBetween_44 hA C σ ax ay bx bz x y true (by rw [inB, if_pos (Int32.not_le.mp h2), decide_eq_true (i32_nlt.mp h8), decide_eq_true (i32_nlt.mp h14)]; rfl))
set_option maxHeartbeats 4000000 in
set_option maxRecDepth 100000 in
theorem c_X6_meet (l : Launch) (G : Gx) (hA : wa G) (σ : Sg) (ax ay bx bz cx cy dx dy : Int32) : CtI l yX6_meet wsX6_meet (rmd 3) G [.int (ax), .int (ay), .int (bx), .int (bz), .int (cx), .int (cy), .int (dx), .int (dy)] σ (fun r σ2 => r = bI (mtR ax ay bx bz cx cy dx dy) ∧ σ2 = σ) := by
  refine ct_i (maxL := 12) (ret := (some .boolean)) (by decide) rfl (Nat.le_of_ble_eq_true rfl) hA (fun K hl C => ?_)
  subst hl
  change WW K G _ _ σ [(0, .int (ax)), (1, .int (ay)), (2, .int (bx)), (3, .int (bz)), (4, .int (cx)), (5, .int (cy)), (6, .int (dx)), (7, .int (dy))] 0 []
  refine ww_iload_n C dX6_meet_0 rfl 0 rfl ?_
  refine ww_iload_n C dX6_meet_1 rfl 1 rfl ?_
  refine ww_iload_n C dX6_meet_2 rfl 2 rfl ?_
  refine ww_iload_n C dX6_meet_3 rfl 3 rfl ?_
  refine ww_iload C dX6_meet_4 4 rfl ?_
  refine ww_iload C dX6_meet_6 5 rfl ?_
  refine ww_calliF (cx_S (n := 6) (As := [.int (ax), .int (ay), .int (bx), .int (bz), .int (cx), .int (cy)]) C  (c_X6_turn (kL K) G hA _ _ _ _ _ _ _) gX6_meet_X6_turn rfl ⟨rfl, rfl⟩ (by decide +kernel) (by decide) rfl rfl (Nat.le_of_ble_eq_true rfl) dX6_meet_8) ?_
  refine ww_calliF (cx_S (n := 1) (As := [.int (tnR (ax) (ay) (bx) (bz) (cx) (cy))]) C  (c_X6_sign (kL K) G hA _ _) gX6_meet_X6_sign rfl ⟨rfl, rfl⟩ (by decide +kernel) (by decide) rfl rfl (Nat.le_of_ble_eq_true rfl) dX6_meet_11) ?_
  refine ww_istore (fun y1 => [(8, .int (y1)), (0, .int (ax)), (1, .int (ay)), (2, .int (bx)), (3, .int (bz)), (4, .int (cx)), (5, .int (cy)), (6, .int (dx)), (7, .int (dy))]) C dX6_meet_14 (by decide) (fun _ => rfl) (fun y1 ey1 => ?_)
  rw [ey1]; clear ey1 y1
  refine ww_iload_n C dX6_meet_16 rfl 1 rfl ?_
  refine ww_iload_n C dX6_meet_17 rfl 2 rfl ?_
  refine ww_iload_n C dX6_meet_18 rfl 3 rfl ?_
  refine ww_iload_n C dX6_meet_19 rfl 4 rfl ?_
  refine ww_iload C dX6_meet_20 7 rfl ?_
  refine ww_iload C dX6_meet_22 8 rfl ?_
  refine ww_calliF (cx_S (n := 6) (As := [.int (ax), .int (ay), .int (bx), .int (bz), .int (dx), .int (dy)]) C  (c_X6_turn (kL K) G hA _ _ _ _ _ _ _) gX6_meet_X6_turn rfl ⟨rfl, rfl⟩ (by decide +kernel) (by decide) rfl rfl (Nat.le_of_ble_eq_true rfl) dX6_meet_24) ?_
  refine ww_calliF (cx_S (n := 1) (As := [.int (tnR (ax) (ay) (bx) (bz) (dx) (dy))]) C  (c_X6_sign (kL K) G hA _ _) gX6_meet_X6_sign rfl ⟨rfl, rfl⟩ (by decide +kernel) (by decide) rfl rfl (Nat.le_of_ble_eq_true rfl) dX6_meet_27) ?_
  refine ww_istore (fun y2 => [(9, .int (y2)), (8, .int (sg9 (tnR (ax) (ay) (bx) (bz) (cx) (cy)))), (0, .int (ax)), (1, .int (ay)), (2, .int (bx)), (3, .int (bz)), (4, .int (cx)), (5, .int (cy)), (6, .int (dx)), (7, .int (dy))]) C dX6_meet_30 (by decide) (fun _ => rfl) (fun y2 ey2 => ?_)
  rw [ey2]; clear ey2 y2
  refine ww_iload C dX6_meet_32 6 rfl ?_
  refine ww_iload C dX6_meet_34 7 rfl ?_
  refine ww_iload C dX6_meet_36 8 rfl ?_
  refine ww_iload C dX6_meet_38 9 rfl ?_
  refine ww_iload_n C dX6_meet_40 rfl 2 rfl ?_
  refine ww_iload_n C dX6_meet_41 rfl 3 rfl ?_
  refine ww_calliF (cx_S (n := 6) (As := [.int (cx), .int (cy), .int (dx), .int (dy), .int (ax), .int (ay)]) C  (c_X6_turn (kL K) G hA _ _ _ _ _ _ _) gX6_meet_X6_turn rfl ⟨rfl, rfl⟩ (by decide +kernel) (by decide) rfl rfl (Nat.le_of_ble_eq_true rfl) dX6_meet_42) ?_
  refine ww_calliF (cx_S (n := 1) (As := [.int (tnR (cx) (cy) (dx) (dy) (ax) (ay))]) C  (c_X6_sign (kL K) G hA _ _) gX6_meet_X6_sign rfl ⟨rfl, rfl⟩ (by decide +kernel) (by decide) rfl rfl (Nat.le_of_ble_eq_true rfl) dX6_meet_45) ?_
  refine ww_istore (fun y3 => [(10, .int (y3)), (9, .int (sg9 (tnR (ax) (ay) (bx) (bz) (dx) (dy)))), (8, .int (sg9 (tnR (ax) (ay) (bx) (bz) (cx) (cy)))), (0, .int (ax)), (1, .int (ay)), (2, .int (bx)), (3, .int (bz)), (4, .int (cx)), (5, .int (cy)), (6, .int (dx)), (7, .int (dy))]) C dX6_meet_48 (by decide) (fun _ => rfl) (fun y3 ey3 => ?_)
  rw [ey3]; clear ey3 y3
  refine ww_iload C dX6_meet_50 7 rfl ?_
  refine ww_iload C dX6_meet_52 8 rfl ?_
  refine ww_iload C dX6_meet_54 9 rfl ?_
  refine ww_iload C dX6_meet_56 10 rfl ?_
  refine ww_iload_n C dX6_meet_58 rfl 5 rfl ?_
  refine ww_iload_n C dX6_meet_59 rfl 6 rfl ?_
  refine ww_calliF (cx_S (n := 6) (As := [.int (cx), .int (cy), .int (dx), .int (dy), .int (bx), .int (bz)]) C  (c_X6_turn (kL K) G hA _ _ _ _ _ _ _) gX6_meet_X6_turn rfl ⟨rfl, rfl⟩ (by decide +kernel) (by decide) rfl rfl (Nat.le_of_ble_eq_true rfl) dX6_meet_60) ?_
  refine ww_calliF (cx_S (n := 1) (As := [.int (tnR (cx) (cy) (dx) (dy) (bx) (bz))]) C  (c_X6_sign (kL K) G hA _ _) gX6_meet_X6_sign rfl ⟨rfl, rfl⟩ (by decide +kernel) (by decide) rfl rfl (Nat.le_of_ble_eq_true rfl) dX6_meet_63) ?_
  refine ww_istore (fun y4 => [(11, .int (y4)), (10, .int (sg9 (tnR (cx) (cy) (dx) (dy) (ax) (ay)))), (9, .int (sg9 (tnR (ax) (ay) (bx) (bz) (dx) (dy)))), (8, .int (sg9 (tnR (ax) (ay) (bx) (bz) (cx) (cy)))), (0, .int (ax)), (1, .int (ay)), (2, .int (bx)), (3, .int (bz)), (4, .int (cx)), (5, .int (cy)), (6, .int (dx)), (7, .int (dy))]) C dX6_meet_66 (by decide) (fun _ => rfl) (fun y4 ey4 => ?_)
  rw [ey4]; clear ey4 y4
  refine ww_iload C dX6_meet_68 3 rfl ?_
  refine ww_iload C dX6_meet_70 2 rfl ?_
  refine ww_imul C dX6_meet_72 ?_
  refine ww_if_ge 86 C dX6_meet_73 (by decide) (fun h73 => ?_) (fun h73 => ?_)
  · refine ww_iload_n C dX6_meet_86 rfl 4 rfl ?_
    refine ww_iload_n C dX6_meet_87 rfl 5 rfl ?_
    refine ww_iload_n C dX6_meet_88 rfl 6 rfl ?_
    refine ww_iload_n C dX6_meet_89 rfl 7 rfl ?_
    refine ww_iload C dX6_meet_90 8 rfl ?_
    refine ww_iload C dX6_meet_92 9 rfl ?_
    refine ww_calliF (cx_S (n := 6) (As := [.int (ax), .int (ay), .int (bx), .int (bz), .int (cx), .int (cy)]) C  (c_X6_isBetween (kL K) G hA _ _ _ _ _ _ _) gX6_meet_X6_isBetween rfl ⟨rfl, rfl⟩ (by decide +kernel) (by decide) rfl rfl (Nat.le_of_ble_eq_true rfl) dX6_meet_94) ?_
    refine ww_if_ne 146 C dX6_meet_97 (by decide) (fun h97 => ?_) (fun h97 => ?_)
    · refine ww_iconst (v := 1) C dX6_meet_146 rfl ?_
      refine ww_goto 151 C dX6_meet_147 (by decide) ?_
      refine ww_zret C dX6_meet_151 (by first | rfl | exact bI_n) ?_
      exact ⟨by rw [mtR, decide_eq_false (p := _ * _ < 0) (i32_nlt.mpr h73), Bool.false_and, Bool.false_or, bI_1.mp h97, Bool.true_or]; rfl, rfl⟩
    · refine ww_iload_n C dX6_meet_100 rfl 4 rfl ?_
      refine ww_iload_n C dX6_meet_101 rfl 5 rfl ?_
      refine ww_iload_n C dX6_meet_102 rfl 6 rfl ?_
      refine ww_iload_n C dX6_meet_103 rfl 7 rfl ?_
      refine ww_iload C dX6_meet_104 10 rfl ?_
      refine ww_iload C dX6_meet_106 11 rfl ?_
      refine ww_calliF (cx_S (n := 6) (As := [.int (ax), .int (ay), .int (bx), .int (bz), .int (dx), .int (dy)]) C  (c_X6_isBetween (kL K) G hA _ _ _ _ _ _ _) gX6_meet_X6_isBetween rfl ⟨rfl, rfl⟩ (by decide +kernel) (by decide) rfl rfl (Nat.le_of_ble_eq_true rfl) dX6_meet_108) ?_
      refine ww_if_ne 146 C dX6_meet_111 (by decide) (fun h111 => ?_) (fun h111 => ?_)
      · refine ww_iconst (v := 1) C dX6_meet_146 rfl ?_
        refine ww_goto 151 C dX6_meet_147 (by decide) ?_
        refine ww_zret C dX6_meet_151 (by first | rfl | exact bI_n) ?_
        exact ⟨by rw [mtR, decide_eq_false (p := _ * _ < 0) (i32_nlt.mpr h73), Bool.false_and, Bool.false_or, bI_0.mp h97, Bool.false_or, bI_1.mp h111, Bool.true_or]; rfl, rfl⟩
      · refine ww_iload C dX6_meet_114 8 rfl ?_
        refine ww_iload C dX6_meet_116 9 rfl ?_
        refine ww_iload C dX6_meet_118 10 rfl ?_
        refine ww_iload C dX6_meet_120 11 rfl ?_
        refine ww_iload_n C dX6_meet_122 rfl 4 rfl ?_
        refine ww_iload_n C dX6_meet_123 rfl 5 rfl ?_
        refine ww_calliF (cx_S (n := 6) (As := [.int (cx), .int (cy), .int (dx), .int (dy), .int (ax), .int (ay)]) C  (c_X6_isBetween (kL K) G hA _ _ _ _ _ _ _) gX6_meet_X6_isBetween rfl ⟨rfl, rfl⟩ (by decide +kernel) (by decide) rfl rfl (Nat.le_of_ble_eq_true rfl) dX6_meet_124) ?_
        refine ww_if_ne 146 C dX6_meet_127 (by decide) (fun h127 => ?_) (fun h127 => ?_)
        · refine ww_iconst (v := 1) C dX6_meet_146 rfl ?_
          refine ww_goto 151 C dX6_meet_147 (by decide) ?_
          refine ww_zret C dX6_meet_151 (by first | rfl | exact bI_n) ?_
          exact ⟨by rw [mtR, decide_eq_false (p := _ * _ < 0) (i32_nlt.mpr h73), Bool.false_and, Bool.false_or, bI_0.mp h97, Bool.false_or, bI_0.mp h111, Bool.false_or, bI_1.mp h127, Bool.true_or]; rfl, rfl⟩
        · refine ww_iload C dX6_meet_130 8 rfl ?_
          refine ww_iload C dX6_meet_132 9 rfl ?_
          refine ww_iload C dX6_meet_134 10 rfl ?_
          refine ww_iload C dX6_meet_136 11 rfl ?_
          refine ww_iload_n C dX6_meet_138 rfl 6 rfl ?_
          refine ww_iload_n C dX6_meet_139 rfl 7 rfl ?_
          refine ww_calliF (cx_S (n := 6) (As := [.int (cx), .int (cy), .int (dx), .int (dy), .int (bx), .int (bz)]) C  (c_X6_isBetween (kL K) G hA _ _ _ _ _ _ _) gX6_meet_X6_isBetween rfl ⟨rfl, rfl⟩ (by decide +kernel) (by decide) rfl rfl (Nat.le_of_ble_eq_true rfl) dX6_meet_140) ?_
          refine ww_if_eq 150 C dX6_meet_143 (by decide) (fun h143 => ?_) (fun h143 => ?_)
          · refine ww_iconst (v := 0) C dX6_meet_150 rfl ?_
            refine ww_zret C dX6_meet_151 (by first | rfl | exact bI_n) ?_
            exact ⟨by rw [mtR, decide_eq_false (p := _ * _ < 0) (i32_nlt.mpr h73), Bool.false_and, Bool.false_or, bI_0.mp h97, Bool.false_or, bI_0.mp h111, Bool.false_or, bI_0.mp h127, Bool.false_or, bI_0.mp h143]; rfl, rfl⟩
          · refine ww_iconst (v := 1) C dX6_meet_146 rfl ?_
            refine ww_goto 151 C dX6_meet_147 (by decide) ?_
            refine ww_zret C dX6_meet_151 (by first | rfl | exact bI_n) ?_
            exact ⟨by rw [mtR, decide_eq_false (p := _ * _ < 0) (i32_nlt.mpr h73), Bool.false_and, Bool.false_or, bI_0.mp h97, Bool.false_or, bI_0.mp h111, Bool.false_or, bI_0.mp h127, Bool.false_or, bI_1.mp h143]; rfl, rfl⟩
  · refine ww_iload C dX6_meet_76 1 rfl ?_
    refine ww_iload C dX6_meet_78 0 rfl ?_
    refine ww_imul C dX6_meet_80 ?_
    refine ww_if_ge 86 C dX6_meet_81 (by decide) (fun h81 => ?_) (fun h81 => ?_)
    · refine ww_iload_n C dX6_meet_86 rfl 4 rfl ?_
      refine ww_iload_n C dX6_meet_87 rfl 5 rfl ?_
      refine ww_iload_n C dX6_meet_88 rfl 6 rfl ?_
      refine ww_iload_n C dX6_meet_89 rfl 7 rfl ?_
      refine ww_iload C dX6_meet_90 8 rfl ?_
      refine ww_iload C dX6_meet_92 9 rfl ?_
      refine ww_calliF (cx_S (n := 6) (As := [.int (ax), .int (ay), .int (bx), .int (bz), .int (cx), .int (cy)]) C  (c_X6_isBetween (kL K) G hA _ _ _ _ _ _ _) gX6_meet_X6_isBetween rfl ⟨rfl, rfl⟩ (by decide +kernel) (by decide) rfl rfl (Nat.le_of_ble_eq_true rfl) dX6_meet_94) ?_
      refine ww_if_ne 146 C dX6_meet_97 (by decide) (fun h97 => ?_) (fun h97 => ?_)
      · refine ww_iconst (v := 1) C dX6_meet_146 rfl ?_
        refine ww_goto 151 C dX6_meet_147 (by decide) ?_
        refine ww_zret C dX6_meet_151 (by first | rfl | exact bI_n) ?_
        exact ⟨by rw [mtR, decide_eq_false (p := sg9 (tnR cx cy dx dy ax ay) * _ < 0) (i32_nlt.mpr h81), Bool.and_false, Bool.false_or, bI_1.mp h97, Bool.true_or]; rfl, rfl⟩
      · refine ww_iload_n C dX6_meet_100 rfl 4 rfl ?_
        refine ww_iload_n C dX6_meet_101 rfl 5 rfl ?_
        refine ww_iload_n C dX6_meet_102 rfl 6 rfl ?_
        refine ww_iload_n C dX6_meet_103 rfl 7 rfl ?_
        refine ww_iload C dX6_meet_104 10 rfl ?_
        refine ww_iload C dX6_meet_106 11 rfl ?_
        refine ww_calliF (cx_S (n := 6) (As := [.int (ax), .int (ay), .int (bx), .int (bz), .int (dx), .int (dy)]) C  (c_X6_isBetween (kL K) G hA _ _ _ _ _ _ _) gX6_meet_X6_isBetween rfl ⟨rfl, rfl⟩ (by decide +kernel) (by decide) rfl rfl (Nat.le_of_ble_eq_true rfl) dX6_meet_108) ?_
        refine ww_if_ne 146 C dX6_meet_111 (by decide) (fun h111 => ?_) (fun h111 => ?_)
        · refine ww_iconst (v := 1) C dX6_meet_146 rfl ?_
          refine ww_goto 151 C dX6_meet_147 (by decide) ?_
          refine ww_zret C dX6_meet_151 (by first | rfl | exact bI_n) ?_
          exact ⟨by rw [mtR, decide_eq_false (p := sg9 (tnR cx cy dx dy ax ay) * _ < 0) (i32_nlt.mpr h81), Bool.and_false, Bool.false_or, bI_0.mp h97, Bool.false_or, bI_1.mp h111, Bool.true_or]; rfl, rfl⟩
        · refine ww_iload C dX6_meet_114 8 rfl ?_
          refine ww_iload C dX6_meet_116 9 rfl ?_
          refine ww_iload C dX6_meet_118 10 rfl ?_
          refine ww_iload C dX6_meet_120 11 rfl ?_
          refine ww_iload_n C dX6_meet_122 rfl 4 rfl ?_
          refine ww_iload_n C dX6_meet_123 rfl 5 rfl ?_
          refine ww_calliF (cx_S (n := 6) (As := [.int (cx), .int (cy), .int (dx), .int (dy), .int (ax), .int (ay)]) C  (c_X6_isBetween (kL K) G hA _ _ _ _ _ _ _) gX6_meet_X6_isBetween rfl ⟨rfl, rfl⟩ (by decide +kernel) (by decide) rfl rfl (Nat.le_of_ble_eq_true rfl) dX6_meet_124) ?_
          refine ww_if_ne 146 C dX6_meet_127 (by decide) (fun h127 => ?_) (fun h127 => ?_)
          · refine ww_iconst (v := 1) C dX6_meet_146 rfl ?_
            refine ww_goto 151 C dX6_meet_147 (by decide) ?_
            refine ww_zret C dX6_meet_151 (by first | rfl | exact bI_n) ?_
            exact ⟨by rw [mtR, decide_eq_false (p := sg9 (tnR cx cy dx dy ax ay) * _ < 0) (i32_nlt.mpr h81), Bool.and_false, Bool.false_or, bI_0.mp h97, Bool.false_or, bI_0.mp h111, Bool.false_or, bI_1.mp h127, Bool.true_or]; rfl, rfl⟩
          · refine ww_iload C dX6_meet_130 8 rfl ?_
            refine ww_iload C dX6_meet_132 9 rfl ?_
            refine ww_iload C dX6_meet_134 10 rfl ?_
            refine ww_iload C dX6_meet_136 11 rfl ?_
            refine ww_iload_n C dX6_meet_138 rfl 6 rfl ?_
            refine ww_iload_n C dX6_meet_139 rfl 7 rfl ?_
            refine ww_calliF (cx_S (n := 6) (As := [.int (cx), .int (cy), .int (dx), .int (dy), .int (bx), .int (bz)]) C  (c_X6_isBetween (kL K) G hA _ _ _ _ _ _ _) gX6_meet_X6_isBetween rfl ⟨rfl, rfl⟩ (by decide +kernel) (by decide) rfl rfl (Nat.le_of_ble_eq_true rfl) dX6_meet_140) ?_
            refine ww_if_eq 150 C dX6_meet_143 (by decide) (fun h143 => ?_) (fun h143 => ?_)
            · refine ww_iconst (v := 0) C dX6_meet_150 rfl ?_
              refine ww_zret C dX6_meet_151 (by first | rfl | exact bI_n) ?_
              exact ⟨by rw [mtR, decide_eq_false (p := sg9 (tnR cx cy dx dy ax ay) * _ < 0) (i32_nlt.mpr h81), Bool.and_false, Bool.false_or, bI_0.mp h97, Bool.false_or, bI_0.mp h111, Bool.false_or, bI_0.mp h127, Bool.false_or, bI_0.mp h143]; rfl, rfl⟩
            · refine ww_iconst (v := 1) C dX6_meet_146 rfl ?_
              refine ww_goto 151 C dX6_meet_147 (by decide) ?_
              refine ww_zret C dX6_meet_151 (by first | rfl | exact bI_n) ?_
              exact ⟨by rw [mtR, decide_eq_false (p := sg9 (tnR cx cy dx dy ax ay) * _ < 0) (i32_nlt.mpr h81), Bool.and_false, Bool.false_or, bI_0.mp h97, Bool.false_or, bI_0.mp h111, Bool.false_or, bI_0.mp h127, Bool.false_or, bI_1.mp h143]; rfl, rfl⟩
    · refine ww_iconst (v := 1) C dX6_meet_84 rfl ?_
      refine ww_zret C dX6_meet_85 (by first | rfl | exact bI_n) ?_
      exact ⟨by rw [mtR, decide_eq_true (i32_nle.mp h73), decide_eq_true (i32_nle.mp h81)]; rfl, rfl⟩
