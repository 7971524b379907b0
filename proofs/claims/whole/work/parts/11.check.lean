theorem in_X0_note_X0 : ∀ w ∈ wsX00, w ∈ wsX0_note := by decide +kernel
theorem lk_X0_note_9 : Cond.fieldLink RX0 9 "PolyCuts$Check" "kind" "I" ∈ wsX0_note := by decide +kernel
theorem lk_X0_note_15 : Cond.fieldLink RX0 15 "PolyCuts$Check" "first" "I" ∈ wsX0_note := by decide +kernel
theorem lk_X0_note_18 : Cond.fieldLink RX0 18 "PolyCuts$Check" "second" "I" ∈ wsX0_note := by decide +kernel
theorem in_X0_findFlatCorner_X1 : ∀ w ∈ wsX10, w ∈ wsX0_findFlatCorner := by decide +kernel
theorem lk_X0_findFlatCorner_25 : Cond.fieldLink RX0 25 "PolyCuts$Corners" "size" "I" ∈ wsX0_findFlatCorner := by decide +kernel
theorem in_X0_findMeetingEdges_X1 : ∀ w ∈ wsX10, w ∈ wsX0_findMeetingEdges := by decide +kernel
theorem lk_X0_findMeetingEdges_25 : Cond.fieldLink RX0 25 "PolyCuts$Corners" "size" "I" ∈ wsX0_findMeetingEdges := by decide +kernel
theorem in_X0_examine_X1 : ∀ w ∈ wsX10, w ∈ wsX0_examine := by decide +kernel
theorem lk_X0_examine_25 : Cond.fieldLink RX0 25 "PolyCuts$Corners" "size" "I" ∈ wsX0_examine := by decide +kernel
theorem in_X0_examine_X0 : ∀ w ∈ wsX00, w ∈ wsX0_examine := by decide +kernel
theorem lk_X0_examine_9 : Cond.fieldLink RX0 9 "PolyCuts$Check" "kind" "I" ∈ wsX0_examine := by decide +kernel
def note3 (σ : Sg) (a b c : Int32) : Sg := sgu (sgu (sgu σ 1 0 0 a) 1 0 1 b) 1 0 2 c
def flatP (n : Nat) (x y : Nat → Int32) : Nat → Bool := fun i => decide (tn x y (bf n i) i (af n i) = 0)
def meetP (n : Nat) (x y : Nat → Int32) (i : Nat) : Nat → Bool := fun j => !(decide (af n j = i)) && meetC x y i (af n i) j (af n j)
def noteF (σ : Sg) (r : Option Nat) : Sg := match r with
  | none => σ
  | some i => note3 σ 2 (nI i) (-1)
/-- the first edge at or behind i that meets a later one -/
def meetF (n : Nat) (x y : Nat → Int32) (i : Nat) : Nat → Option (Nat × Nat)
  | 0 => none
  | d + 1 => match fndN (meetP n x y i) (i + 2) n with
    | some j => some (i, j)
    | none => meetF n x y (i + 1) d
def meetN (n : Nat) (x y : Nat → Int32) (i : Nat) : Option (Nat × Nat) := meetF n x y i (n - i)
def noteM (σ : Sg) (r : Option (Nat × Nat)) : Sg := match r with
  | none => σ
  | some q => note3 σ 3 (nI q.1) (nI q.2)
theorem meetN_end {n : Nat} {x y : Nat → Int32} {i : Nat} (h : n ≤ i) : meetN n x y i = none := by rw [meetN, Nat.sub_eq_zero_of_le h]; rfl
theorem meetN_t {n : Nat} {x y : Nat → Int32} {i j : Nat} (h : i < n) (hj : fndN (meetP n x y i) (i + 2) n = some j) : meetN n x y i = some (i, j) := by
  rw [meetN, show n - i = (n - (i + 1)) + 1 by omega, meetF, hj]
theorem meetN_f {n : Nat} {x y : Nat → Int32} {i : Nat} (h : i < n) (hj : fndN (meetP n x y i) (i + 2) n = none) : meetN n x y i = meetN n x y (i + 1) := by
  rw [meetN, show n - i = (n - (i + 1)) + 1 by omega, meetF, hj]
  rfl
set_option maxHeartbeats 4000000 in
set_option maxRecDepth 100000 in
theorem c_X0_note (l : Launch) (G : Gx) (hA : wa G) (σ : Sg) (a b c : Int32) : CtV l yX0_note wsX0_note (rmd 1) G [.ref (gA G 1 (0)), .int (a), .int (b), .int (c)] σ (fun σ' => σ' = note3 σ a b c) := by
  refine ct_v (maxL := 4) (ret := none) (by decide) rfl (Nat.le_of_ble_eq_true rfl) hA (fun K hl C => ?_)
  subst hl
  change WW K G _ _ σ [(0, .ref (gA G 1 (0))), (1, .int (a)), (2, .int (b)), (3, .int (c))] 0 []
  refine ww_aload_n C dX0_note_0 rfl 0 rfl ?_
  refine ww_iload_n C dX0_note_1 rfl 1 rfl ?_
  refine ww_pi (k := 1) (f := 0) C rfl rfl (by decide) rfl in_X0_note_X0 tyX0_ok nmX0 (by decide) lk_X0_note_9 rfl rfl dX0_note_2 ?_
  refine ww_aload_n C dX0_note_5 rfl 0 rfl ?_
  refine ww_iload_n C dX0_note_6 rfl 2 rfl ?_
  refine ww_pi (k := 1) (f := 1) C rfl rfl (by decide) rfl in_X0_note_X0 tyX0_ok nmX0 (by decide) lk_X0_note_15 rfl rfl dX0_note_7 ?_
  refine ww_aload_n C dX0_note_10 rfl 0 rfl ?_
  refine ww_iload_n C dX0_note_11 rfl 3 rfl ?_
  refine ww_pi (k := 1) (f := 2) C rfl rfl (by decide) rfl in_X0_note_X0 tyX0_ok nmX0 (by decide) lk_X0_note_18 rfl rfl dX0_note_12 ?_
  refine ww_vret C dX0_note_15 ?_
  rfl
set_option maxHeartbeats 4000000 in
set_option maxRecDepth 100000 in
theorem lp_X0_findFlatCorner {K : Kx} {G : Gx} (hA : wa G) (C : CX K G cX0_findFlatCorner 3 RX0 wsX0_findFlatCorner (rmd 2) none) (σ : Sg) (o n : Nat) (ho : o < 9) (hs : σ 14 o 2 = nI n) (hn : n ≤ 14) (h0 : 0 < n) : ∀ (f i : Nat), n - i < f → i ≤ n → fndN (flatP n (σ 15 o) (σ 16 o)) i n = fndN (flatP n (σ 15 o) (σ 16 o)) 0 n → WW K G 3 (QV K G (fun σ2 => σ2 = noteF σ (fndN (flatP n (σ 15 o) (σ 16 o)) 0 n))) σ [(2, .int (nI i)), (0, .ref (gA G 1 (0))), (1, .ref (gA G 14 (o)))] 2 [] := by
  intro f
  induction f with
  | zero => intro i  h; exact absurd h (Nat.not_lt_zero _)
  | succ f ih =>
    intro i  hf hi hv
    refine ww_iload_n C dX0_findFlatCorner_2 rfl 0 rfl ?_
    refine ww_aload_n C dX0_findFlatCorner_3 rfl 2 rfl ?_
    refine ww_gi (k := 14) (f := 2) C rfl rfl ho rfl in_X0_findFlatCorner_X1 (by decide) lk_X0_findFlatCorner_25 dX0_findFlatCorner_4 ?_
    refine ww_icmp_ge 42 C dX0_findFlatCorner_7 (by decide) (fun h7 => ?_) (fun h7 => ?_)
    · have g7 : n ≤ i := (cv_le (a := n) (b := i) hs rfl (by omega) (by omega)).mp h7
      refine ww_vret C dX0_findFlatCorner_42 ?_
      rw [← hv, fndN_end g7]; rfl
    · have g7 : ¬ n ≤ i := fun q => h7 ((cv_le (a := n) (b := i) hs rfl (by omega) (by omega)).mpr q)
      refine ww_aload_n C dX0_findFlatCorner_10 rfl 2 rfl ?_
      refine ww_aload_n C dX0_findFlatCorner_11 rfl 2 rfl ?_
      refine ww_iload_n C dX0_findFlatCorner_12 rfl 0 rfl ?_
      refine ww_calliF (cx_V (n := 1) (As := [.int (nI i)]) C  (c_X1_before (kL K) G hA _ o n ho hs hn i (by omega) h0) gX0_findFlatCorner_X1_before rfl ⟨rfl, rfl⟩ (by decide +kernel) (by decide) rfl ho rfl rfl rfl (Nat.le_of_ble_eq_true rfl) dX0_findFlatCorner_13) ?_
      refine ww_iload_n C dX0_findFlatCorner_16 rfl 0 rfl ?_
      refine ww_aload_n C dX0_findFlatCorner_17 rfl 2 rfl ?_
      refine ww_iload_n C dX0_findFlatCorner_18 rfl 0 rfl ?_
      refine ww_calliF (cx_V (n := 1) (As := [.int (nI i)]) C  (c_X1_after (kL K) G hA _ o n ho hs hn i (by omega)) gX0_findFlatCorner_X1_after rfl ⟨rfl, rfl⟩ (by decide +kernel) (by decide) rfl ho rfl rfl rfl (Nat.le_of_ble_eq_true rfl) dX0_findFlatCorner_19) ?_
      refine ww_calliF (cx_V (n := 3) (As := [.int (nI (bf n i)), .int (nI i), .int (nI (af n i))]) C  (c_X1_turn (kL K) G hA _ (o) ho (bf n i) i (af n i) (nlt14 (bf_lt (by omega)) hn) (by omega) (nlt14 (af_lt h0) hn)) gX0_findFlatCorner_X1_turn rfl ⟨rfl, rfl⟩ (by decide +kernel) (by decide) rfl ho rfl rfl rfl (Nat.le_of_ble_eq_true rfl) dX0_findFlatCorner_22) ?_
      refine ww_if_ne 36 C dX0_findFlatCorner_25 (by decide) (fun h25 => ?_) (fun h25 => ?_)
      · refine ww_iinc (q := 0) (fun y1 => [(2, .int (y1)), (0, .ref (gA G 1 (0))), (1, .ref (gA G 14 (o)))]) C dX0_findFlatCorner_36 rfl (by decide) (fun _ => rfl) (fun y1 ey1 => ?_)
        obtain rfl : y1 = nI (i + 1) := ninc rfl ey1
        refine ww_goto 2 C dX0_findFlatCorner_39 (by decide) ?_
        exact ih (i + 1) (by omega) (by omega) (by rw [← fndN_f (by omega) (decide_eq_false h25)]; exact hv)
      · refine ww_aload_n C dX0_findFlatCorner_28 rfl 1 rfl ?_
        refine ww_iconst (v := 2) C dX0_findFlatCorner_29 rfl ?_
        refine ww_iload_n C dX0_findFlatCorner_30 rfl 0 rfl ?_
        refine ww_iconst (v := -1) C dX0_findFlatCorner_31 rfl ?_
        refine ww_callvF (cx_V (n := 3) (As := [.int (2), .int (nI i), .int (-1)]) C  (c_X0_note (kL K) G hA _ _ _ _) gX0_findFlatCorner_X0_note rfl ⟨rfl, rfl⟩ (by decide +kernel) (by decide) rfl (by decide) rfl rfl rfl (Nat.le_of_ble_eq_true rfl) dX0_findFlatCorner_32) ?_
        refine ww_vret C dX0_findFlatCorner_35 ?_
        rw [← hv, fndN_t (by omega) (decide_eq_true h25)]; rfl
set_option maxHeartbeats 4000000 in
set_option maxRecDepth 100000 in
theorem c_X0_findFlatCorner (l : Launch) (G : Gx) (hA : wa G) (σ : Sg) (o n : Nat) (ho : o < 9) (hs : σ 14 o 2 = nI n) (hn : n ≤ 14) (h0 : 0 < n) : CtV l yX0_findFlatCorner wsX0_findFlatCorner (rmd 2) G [.ref (gA G 1 (0)), .ref (gA G 14 (o))] σ (fun σ2 => σ2 = noteF σ (fndN (flatP n (σ 15 o) (σ 16 o)) 0 n)) := by
  refine ct_v (maxL := 3) (ret := none) (by decide) rfl (Nat.le_of_ble_eq_true rfl) hA (fun K hl C => ?_)
  subst hl
  change WW K G _ _ σ [(0, .ref (gA G 1 (0))), (1, .ref (gA G 14 (o)))] 0 []
  refine ww_iconst (v := 0) C dX0_findFlatCorner_0 rfl ?_
  refine ww_istore_n (fun y1 => [(2, .int (y1)), (0, .ref (gA G 1 (0))), (1, .ref (gA G 14 (o)))]) C dX0_findFlatCorner_1 rfl (by decide) (fun _ => rfl) (fun y1 ey1 => ?_)
  obtain rfl : y1 = nI 0 := (ey1.trans (by decide))
  exact lp_X0_findFlatCorner hA C σ o n ho hs hn h0 (n + 1) 0 (by omega) (by omega) rfl
set_option maxHeartbeats 4000000 in
set_option maxRecDepth 100000 in
theorem lp_X0_findMeetingEdges_j {K : Kx} {G : Gx} (hA : wa G) (C : CX K G cX0_findMeetingEdges 4 RX0 wsX0_findMeetingEdges (rmd 4) none) (σ : Sg) (o n : Nat) (ho : o < 9) (hs : σ 14 o 2 = nI n) (hn : n ≤ 14) (h0 : 0 < n) (i : Nat) (hi : i < n) (hi0 : meetN n (σ 15 o) (σ 16 o) i = meetN n (σ 15 o) (σ 16 o) 0) (kx : fndN (meetP n (σ 15 o) (σ 16 o) i) (i + 2) n = none → WW K G 4 (QV K G (fun σ2 => σ2 = noteM σ (meetN n (σ 15 o) (σ 16 o) 0))) σ [(2, .int (nI i)), (0, .ref (gA G 1 (0))), (1, .ref (gA G 14 (o)))] 64 []) : ∀ (f j : Nat), n - j < f → i + 2 ≤ j → j ≤ n + 1 → fndN (meetP n (σ 15 o) (σ 16 o) i) j n = fndN (meetP n (σ 15 o) (σ 16 o) i) (i + 2) n → WW K G 4 (QV K G (fun σ2 => σ2 = noteM σ (meetN n (σ 15 o) (σ 16 o) 0))) σ [(3, .int (nI j)), (2, .int (nI i)), (0, .ref (gA G 1 (0))), (1, .ref (gA G 14 (o)))] 14 [] := by
  intro f
  induction f with
  | zero => intro j  h; exact absurd h (Nat.not_lt_zero _)
  | succ f ih =>
    intro j  hf hj hj2 hv
    refine ww_iload_n C dX0_findMeetingEdges_14 rfl 0 rfl ?_
    refine ww_aload_n C dX0_findMeetingEdges_15 rfl 3 rfl ?_
    refine ww_gi (k := 14) (f := 2) C rfl rfl ho rfl in_X0_findMeetingEdges_X1 (by decide) lk_X0_findMeetingEdges_25 dX0_findMeetingEdges_16 ?_
    refine ww_icmp_ge 64 C dX0_findMeetingEdges_19 (by decide) (fun h19 => ?_) (fun h19 => ?_)
    · have g19 : n ≤ j := (cv_le (a := n) (b := j) hs rfl (by omega) (by omega)).mp h19
      exact ww_sub [1, 2, 3] rfl (kx (by rw [← hv]; exact fndN_end (by omega)))
    · have g19 : ¬ n ≤ j := fun q => h19 ((cv_le (a := n) (b := j) hs rfl (by omega) (by omega)).mpr q)
      refine ww_aload_n C dX0_findMeetingEdges_22 rfl 3 rfl ?_
      refine ww_iload_n C dX0_findMeetingEdges_23 rfl 0 rfl ?_
      refine ww_calliF (cx_V (n := 1) (As := [.int (nI j)]) C  (c_X1_after (kL K) G hA _ o n ho hs hn j (by omega)) gX0_findMeetingEdges_X1_after rfl ⟨rfl, rfl⟩ (by decide +kernel) (by decide) rfl ho rfl rfl rfl (Nat.le_of_ble_eq_true rfl) dX0_findMeetingEdges_24) ?_
      refine ww_iload_n C dX0_findMeetingEdges_27 rfl 1 rfl ?_
      refine ww_icmp_eq 58 C dX0_findMeetingEdges_28 (by decide) (fun h28 => ?_) (fun h28 => ?_)
      · have g28 : af n j = i := (cv_eq (a := af n j) (b := i) rfl rfl (lt31 (nlt14 (af_lt h0) hn)) (by omega)).mp h28
        refine ww_iinc (q := 0) (fun y1 => [(3, .int (y1)), (2, .int (nI i)), (0, .ref (gA G 1 (0))), (1, .ref (gA G 14 (o)))]) C dX0_findMeetingEdges_58 rfl (by decide) (fun _ => rfl) (fun y1 ey1 => ?_)
        obtain rfl : y1 = nI (j + 1) := ninc rfl ey1
        refine ww_goto 14 C dX0_findMeetingEdges_61 (by decide) ?_
        exact ih (j + 1) (by omega) (by omega) (by omega) (by rw [← fndN_f (by omega) (by simp only [meetP]; rw [decide_eq_true g28]; rfl)]; exact hv)
      · have g28 : ¬ af n j = i := fun q => h28 ((cv_eq (a := af n j) (b := i) rfl rfl (lt31 (nlt14 (af_lt h0) hn)) (by omega)).mpr q)
        refine ww_aload_n C dX0_findMeetingEdges_31 rfl 3 rfl ?_
        refine ww_iload_n C dX0_findMeetingEdges_32 rfl 1 rfl ?_
        refine ww_aload_n C dX0_findMeetingEdges_33 rfl 3 rfl ?_
        refine ww_iload_n C dX0_findMeetingEdges_34 rfl 1 rfl ?_
        refine ww_calliF (cx_V (n := 1) (As := [.int (nI i)]) C  (c_X1_after (kL K) G hA _ o n ho hs hn i (by omega)) gX0_findMeetingEdges_X1_after rfl ⟨rfl, rfl⟩ (by decide +kernel) (by decide) rfl ho rfl rfl rfl (Nat.le_of_ble_eq_true rfl) dX0_findMeetingEdges_35) ?_
        refine ww_iload_n C dX0_findMeetingEdges_38 rfl 0 rfl ?_
        refine ww_aload_n C dX0_findMeetingEdges_39 rfl 3 rfl ?_
        refine ww_iload_n C dX0_findMeetingEdges_40 rfl 0 rfl ?_
        refine ww_calliF (cx_V (n := 1) (As := [.int (nI j)]) C  (c_X1_after (kL K) G hA _ o n ho hs hn j (by omega)) gX0_findMeetingEdges_X1_after rfl ⟨rfl, rfl⟩ (by decide +kernel) (by decide) rfl ho rfl rfl rfl (Nat.le_of_ble_eq_true rfl) dX0_findMeetingEdges_41) ?_
        refine ww_calliF (cx_V (n := 4) (As := [.int (nI i), .int (nI (af n i)), .int (nI j), .int (nI (af n j))]) C  (c_X1_meet (kL K) G hA _ (o) ho i (af n i) j (af n j) (by omega) (nlt14 (af_lt h0) hn) (by omega) (nlt14 (af_lt h0) hn)) gX0_findMeetingEdges_X1_meet rfl ⟨rfl, rfl⟩ (by decide +kernel) (by decide) rfl ho rfl rfl rfl (Nat.le_of_ble_eq_true rfl) dX0_findMeetingEdges_44) ?_
        refine ww_if_eq 58 C dX0_findMeetingEdges_47 (by decide) (fun h47 => ?_) (fun h47 => ?_)
        · refine ww_iinc (q := 0) (fun y2 => [(3, .int (y2)), (2, .int (nI i)), (0, .ref (gA G 1 (0))), (1, .ref (gA G 14 (o)))]) C dX0_findMeetingEdges_58 rfl (by decide) (fun _ => rfl) (fun y2 ey2 => ?_)
          obtain rfl : y2 = nI (j + 1) := ninc rfl ey2
          refine ww_goto 14 C dX0_findMeetingEdges_61 (by decide) ?_
          exact ih (j + 1) (by omega) (by omega) (by omega) (by rw [← fndN_f (by omega) (by simp only [meetP]; rw [bI_0.mp h47, Bool.and_false])]; exact hv)
        · refine ww_aload_n C dX0_findMeetingEdges_50 rfl 2 rfl ?_
          refine ww_iconst (v := 3) C dX0_findMeetingEdges_51 rfl ?_
          refine ww_iload_n C dX0_findMeetingEdges_52 rfl 1 rfl ?_
          refine ww_iload_n C dX0_findMeetingEdges_53 rfl 0 rfl ?_
          refine ww_callvF (cx_V (n := 3) (As := [.int (3), .int (nI i), .int (nI j)]) C  (c_X0_note (kL K) G hA _ _ _ _) gX0_findMeetingEdges_X0_note rfl ⟨rfl, rfl⟩ (by decide +kernel) (by decide) rfl (by decide) rfl rfl rfl (Nat.le_of_ble_eq_true rfl) dX0_findMeetingEdges_54) ?_
          refine ww_vret C dX0_findMeetingEdges_57 ?_
          rw [← hi0, meetN_t hi (by rw [← hv]; exact fndN_t (by omega) (by simp only [meetP]; rw [decide_eq_false g28, bI_1.mp h47]; rfl))]; rfl
set_option maxHeartbeats 4000000 in
set_option maxRecDepth 100000 in
theorem lp_X0_findMeetingEdges_i {K : Kx} {G : Gx} (hA : wa G) (C : CX K G cX0_findMeetingEdges 4 RX0 wsX0_findMeetingEdges (rmd 4) none) (σ : Sg) (o n : Nat) (ho : o < 9) (hs : σ 14 o 2 = nI n) (hn : n ≤ 14) (h0 : 0 < n) : ∀ (f i : Nat), n - i < f → i ≤ n → meetN n (σ 15 o) (σ 16 o) i = meetN n (σ 15 o) (σ 16 o) 0 → WW K G 4 (QV K G (fun σ2 => σ2 = noteM σ (meetN n (σ 15 o) (σ 16 o) 0))) σ [(2, .int (nI i)), (0, .ref (gA G 1 (0))), (1, .ref (gA G 14 (o)))] 2 [] := by
  intro f
  induction f with
  | zero => intro i  h; exact absurd h (Nat.not_lt_zero _)
  | succ f ih =>
    intro i  hf hi hv
    refine ww_iload_n C dX0_findMeetingEdges_2 rfl 0 rfl ?_
    refine ww_aload_n C dX0_findMeetingEdges_3 rfl 2 rfl ?_
    refine ww_gi (k := 14) (f := 2) C rfl rfl ho rfl in_X0_findMeetingEdges_X1 (by decide) lk_X0_findMeetingEdges_25 dX0_findMeetingEdges_4 ?_
    refine ww_icmp_ge 70 C dX0_findMeetingEdges_7 (by decide) (fun h7 => ?_) (fun h7 => ?_)
    · have g7 : n ≤ i := (cv_le (a := n) (b := i) hs rfl (by omega) (by omega)).mp h7
      refine ww_vret C dX0_findMeetingEdges_70 ?_
      rw [← hv, meetN_end g7]; rfl
    · have g7 : ¬ n ≤ i := fun q => h7 ((cv_le (a := n) (b := i) hs rfl (by omega) (by omega)).mpr q)
      refine ww_iload_n C dX0_findMeetingEdges_10 rfl 0 rfl ?_
      refine ww_iconst (v := 2) C dX0_findMeetingEdges_11 rfl ?_
      refine ww_iadd C dX0_findMeetingEdges_12 ?_
      refine ww_istore_n (fun y1 => [(3, .int (y1)), (2, .int (nI i)), (0, .ref (gA G 1 (0))), (1, .ref (gA G 14 (o)))]) C dX0_findMeetingEdges_13 rfl (by decide) (fun _ => rfl) (fun y1 ey1 => ?_)
      obtain rfl : y1 = nI (i + 2) := (ey1.trans (nI_add (i) (2)))
      refine lp_X0_findMeetingEdges_j hA C σ o n ho hs hn h0 i (by omega) hv (fun e9 => ?_) (n + 1) (i + 2) (by omega) (by omega) (by omega) rfl
      refine ww_iinc (q := 0) (fun y2 => [(2, .int (y2)), (0, .ref (gA G 1 (0))), (1, .ref (gA G 14 (o)))]) C dX0_findMeetingEdges_64 rfl (by decide) (fun _ => rfl) (fun y2 ey2 => ?_)
      obtain rfl : y2 = nI (i + 1) := ninc rfl ey2
      refine ww_goto 2 C dX0_findMeetingEdges_67 (by decide) ?_
      exact ih (i + 1) (by omega) (by omega) (by rw [← meetN_f (by omega) e9]; exact hv)
set_option maxHeartbeats 4000000 in
set_option maxRecDepth 100000 in
theorem c_X0_findMeetingEdges (l : Launch) (G : Gx) (hA : wa G) (σ : Sg) (o n : Nat) (ho : o < 9) (hs : σ 14 o 2 = nI n) (hn : n ≤ 14) (h0 : 0 < n) : CtV l yX0_findMeetingEdges wsX0_findMeetingEdges (rmd 4) G [.ref (gA G 1 (0)), .ref (gA G 14 (o))] σ (fun σ2 => σ2 = noteM σ (meetN n (σ 15 o) (σ 16 o) 0)) := by
  refine ct_v (maxL := 4) (ret := none) (by decide) rfl (Nat.le_of_ble_eq_true rfl) hA (fun K hl C => ?_)
  subst hl
  change WW K G _ _ σ [(0, .ref (gA G 1 (0))), (1, .ref (gA G 14 (o)))] 0 []
  refine ww_iconst (v := 0) C dX0_findMeetingEdges_0 rfl ?_
  refine ww_istore_n (fun y1 => [(2, .int (y1)), (0, .ref (gA G 1 (0))), (1, .ref (gA G 14 (o)))]) C dX0_findMeetingEdges_1 rfl (by decide) (fun _ => rfl) (fun y1 ey1 => ?_)
  obtain rfl : y1 = nI 0 := (ey1.trans (by decide))
  exact lp_X0_findMeetingEdges_i hA C σ o n ho hs hn h0 (n + 1) 0 (by omega) (by omega) rfl
theorem note3_k {σ : Sg} {a b c : Int32} {k : Nat} (h : k ≠ 1) : note3 σ a b c k = σ k := by
  funext i f
  simp [note3, sgu, h]
theorem noteF_k {σ : Sg} {r : Option Nat} {k : Nat} (h : k ≠ 1) : noteF σ r k = σ k := by
  cases r with
  | none => rfl
  | some i => exact note3_k h
theorem noteM_k {σ : Sg} {r : Option (Nat × Nat)} {k : Nat} (h : k ≠ 1) : noteM σ r k = σ k := by
  cases r with
  | none => rfl
  | some i => exact note3_k h
/-- what examine leaves behind -/
def examF (σ : Sg) (o n : Nat) : Sg := if n < 3 then note3 (note3 σ 0 (-1) (-1)) 1 (-1) (-1) else match fndN (flatP n (σ 15 o) (σ 16 o)) 0 n with
  | some i => noteF (note3 σ 0 (-1) (-1)) (some i)
  | none => noteM (note3 σ 0 (-1) (-1)) (meetN n (σ 15 o) (σ 16 o) 0)
theorem examF_k {σ : Sg} {o n k : Nat} (h : k ≠ 1) : examF σ o n k = σ k := by
  unfold examF
  split
  · rw [note3_k h, note3_k h]
  · cases fndN (flatP n (σ 15 o) (σ 16 o)) 0 n with
    | some i => exact (noteF_k h).trans (note3_k h)
    | none => exact (noteM_k h).trans (note3_k h)
set_option maxHeartbeats 4000000 in
set_option maxRecDepth 100000 in
theorem c_X0_examine (l : Launch) (G : Gx) (hA : wa G) (σ : Sg) (o n : Nat) (ho : o < 9) (hs : σ 14 o 2 = nI n) (hn : n ≤ 14) : CtV l yX0_examine wsX0_examine (rmd 5) G [.ref (gA G 1 (0)), .ref (gA G 14 (o))] σ (fun σ2 => σ2 = examF σ o n) := by
  refine ct_v (maxL := 2) (ret := none) (by decide) rfl (Nat.le_of_ble_eq_true rfl) hA (fun K hl C => ?_)
  subst hl
  change WW K G _ _ σ [(0, .ref (gA G 1 (0))), (1, .ref (gA G 14 (o)))] 0 []
  refine ww_aload_n C dX0_examine_0 rfl 0 rfl ?_
  refine ww_iconst (v := 0) C dX0_examine_1 rfl ?_
  refine ww_iconst (v := -1) C dX0_examine_2 rfl ?_
  refine ww_iconst (v := -1) C dX0_examine_3 rfl ?_
  refine ww_callvF (cx_V (n := 3) (As := [.int (0), .int (-1), .int (-1)]) C  (c_X0_note (kL K) G hA _ _ _ _) gX0_examine_X0_note rfl ⟨rfl, rfl⟩ (by decide +kernel) (by decide) rfl (by decide) rfl rfl rfl (Nat.le_of_ble_eq_true rfl) dX0_examine_4) ?_
  obtain ⟨σ1, hσ1⟩ : ∃ z : Sg, z = (note3 σ (0) (-1) (-1)) := ⟨_, rfl⟩
  rw [← hσ1]
  have hs1 : σ1 14 o 2 = nI n := by rw [hσ1, note3_k (by decide)]; exact hs
  refine ww_aload_n C dX0_examine_7 rfl 1 rfl ?_
  refine ww_gi (k := 14) (f := 2) C rfl rfl ho rfl in_X0_examine_X1 (by decide) lk_X0_examine_25 dX0_examine_8 ?_
  refine ww_iconst (v := 3) C dX0_examine_11 rfl ?_
  refine ww_icmp_ge 23 C dX0_examine_12 (by decide) (fun h12 => ?_) (fun h12 => ?_)
  · have g12 : 3 ≤ n := (cv_le (a := 3) (b := n) (by decide) hs1 (by omega) (by omega)).mp h12
    refine ww_aload_n C dX0_examine_23 rfl 0 rfl ?_
    refine ww_aload_n C dX0_examine_24 rfl 1 rfl ?_
    refine ww_callvF (cx_V (n := 1) (As := [.ref (gA G 14 (o))]) C  (c_X0_findFlatCorner (kL K) G hA _ _ n ho hs1 hn (by omega)) gX0_examine_X0_findFlatCorner rfl ⟨rfl, rfl⟩ (by decide +kernel) (by decide) rfl (by decide) rfl rfl rfl (Nat.le_of_ble_eq_true rfl) dX0_examine_25) ?_
    obtain ⟨σ3, hσ3⟩ : ∃ z : Sg, z = (noteF σ1 (fndN (flatP n (σ1 15 o) (σ1 16 o)) 0 n)) := ⟨_, rfl⟩
    rw [← hσ3]
    have hs1 : σ3 14 o 2 = nI n := by rw [hσ3, noteF_k (by decide)]; exact hs1
    refine ww_aload_n C dX0_examine_28 rfl 0 rfl ?_
    refine ww_gi (k := 1) (f := 0) C rfl rfl (by decide) rfl in_X0_examine_X0 (by decide) lk_X0_examine_9 dX0_examine_29 ?_
    refine ww_if_ne 40 C dX0_examine_32 (by decide) (fun h32 => ?_) (fun h32 => ?_)
    · refine ww_vret C dX0_examine_40 ?_
      rw [hσ3, hσ1, note3_k (by decide), note3_k (by decide), examF, if_neg (by omega)]
      cases hq : fndN (flatP n (σ 15 o) (σ 16 o)) 0 n with
      | some i => rfl
      | none =>
        exfalso
        apply h32
        rw [hσ3, hσ1, note3_k (by decide), note3_k (by decide), hq]
        rfl
    · refine ww_aload_n C dX0_examine_35 rfl 0 rfl ?_
      refine ww_aload_n C dX0_examine_36 rfl 1 rfl ?_
      refine ww_callvF (cx_V (n := 1) (As := [.ref (gA G 14 (o))]) C  (c_X0_findMeetingEdges (kL K) G hA _ _ n ho hs1 hn (by omega)) gX0_examine_X0_findMeetingEdges rfl ⟨rfl, rfl⟩ (by decide +kernel) (by decide) rfl (by decide) rfl rfl rfl (Nat.le_of_ble_eq_true rfl) dX0_examine_37) ?_
      obtain ⟨σ4, hσ4⟩ : ∃ z : Sg, z = (noteM σ3 (meetN n (σ3 15 o) (σ3 16 o) 0)) := ⟨_, rfl⟩
      rw [← hσ4]
      refine ww_vret C dX0_examine_40 ?_
      rw [hσ4, hσ3, hσ1, noteF_k (by decide), noteF_k (by decide), note3_k (by decide), note3_k (by decide), examF, if_neg (by omega)]
      cases hq : fndN (flatP n (σ 15 o) (σ 16 o)) 0 n with
      | some i =>
        exfalso
        rw [hσ3, hσ1, note3_k (by decide), note3_k (by decide), hq] at h32
        exact absurd h32 (by simp [noteF, note3, sgu])
      | none => rfl
  · have g12 : ¬ 3 ≤ n := fun q => h12 ((cv_le (a := 3) (b := n) (by decide) hs1 (by omega) (by omega)).mpr q)
    refine ww_aload_n C dX0_examine_15 rfl 0 rfl ?_
    refine ww_iconst (v := 1) C dX0_examine_16 rfl ?_
    refine ww_iconst (v := -1) C dX0_examine_17 rfl ?_
    refine ww_iconst (v := -1) C dX0_examine_18 rfl ?_
    refine ww_callvF (cx_V (n := 3) (As := [.int (1), .int (-1), .int (-1)]) C  (c_X0_note (kL K) G hA _ _ _ _) gX0_examine_X0_note rfl ⟨rfl, rfl⟩ (by decide +kernel) (by decide) rfl (by decide) rfl rfl rfl (Nat.le_of_ble_eq_true rfl) dX0_examine_19) ?_
    obtain ⟨σ2, hσ2⟩ : ∃ z : Sg, z = (note3 σ1 (1) (-1) (-1)) := ⟨_, rfl⟩
    rw [← hσ2]
    refine ww_vret C dX0_examine_22 ?_
    rw [hσ2, hσ1, examF, if_pos (by omega)]
