theorem in_X2_join_X2 : ∀ w ∈ wsX20, w ∈ wsX2_join := by decide +kernel
theorem lk_X2_join_22 : Cond.fieldLink RX2 22 "PolyCuts$Cutter" "joined" "[[I" ∈ wsX2_join := by decide +kernel
theorem in_X2_nameSpan_X3 : ∀ w ∈ wsX30, w ∈ wsX2_nameSpan := by decide +kernel
theorem lk_X2_nameSpan_67 : Cond.fieldLink RX2 67 "PolyCuts$Shape" "triangleFrom" "[I" ∈ wsX2_nameSpan := by decide +kernel
theorem lk_X2_nameSpan_71 : Cond.fieldLink RX2 71 "PolyCuts$Shape" "triangleTo" "[I" ∈ wsX2_nameSpan := by decide +kernel
theorem in_X2_joinedBefore_X1 : ∀ w ∈ wsX10, w ∈ wsX2_joinedBefore := by decide +kernel
theorem lk_X2_joinedBefore_31 : Cond.fieldLink RX2 31 "PolyCuts$Corners" "size" "I" ∈ wsX2_joinedBefore := by decide +kernel
theorem in_X2_joinedBefore_X2 : ∀ w ∈ wsX20, w ∈ wsX2_joinedBefore := by decide +kernel
theorem lk_X2_joinedBefore_22 : Cond.fieldLink RX2 22 "PolyCuts$Cutter" "joined" "[[I" ∈ wsX2_joinedBefore := by decide +kernel
theorem in_X2_joinedAfter_X1 : ∀ w ∈ wsX10, w ∈ wsX2_joinedAfter := by decide +kernel
theorem lk_X2_joinedAfter_31 : Cond.fieldLink RX2 31 "PolyCuts$Corners" "size" "I" ∈ wsX2_joinedAfter := by decide +kernel
theorem in_X2_joinedAfter_X2 : ∀ w ∈ wsX20, w ∈ wsX2_joinedAfter := by decide +kernel
theorem lk_X2_joinedAfter_22 : Cond.fieldLink RX2 22 "PolyCuts$Cutter" "joined" "[[I" ∈ wsX2_joinedAfter := by decide +kernel
theorem in_X2_isConvexWithout_X3 : ∀ w ∈ wsX30, w ∈ wsX2_isConvexWithout := by decide +kernel
theorem lk_X2_isConvexWithout_25 : Cond.fieldLink RX2 25 "PolyCuts$Shape" "corners" "LPolyCuts$Corners;" ∈ wsX2_isConvexWithout := by decide +kernel
def jn2 (σ : Sg) (i j : Nat) (v : Int32) : Sg := sgu (sgu σ 12 i j v) 12 j i v
def jbF (J : Nat → Int32) (f : Nat → Nat) : Nat → Nat → Nat
  | 0, i => i
  | d + 1, i => if J i = 0 then jbF J f d (f i) else i
theorem jb_0 {J : Nat → Int32} {f : Nat → Nat} {i : Nat} : ∀ {d}, d = 0 → jbF J f d i = i := fun h => by rw [h]; rfl
theorem jb_s {J : Nat → Int32} {f : Nat → Nat} {n t i : Nat} (ht : t < n) (h : J i = 0) : jbF J f (n - t) i = jbF J f (n - (t + 1)) (f i) := by
  rw [show n - t = (n - (t + 1)) + 1 by omega, jbF, if_pos h]
theorem jb_e {J : Nat → Int32} {f : Nat → Nat} {n t i : Nat} (h : ¬ J i = 0) : jbF J f (n - t) i = i := by
  cases n - t with
  | zero => rfl
  | succ d => rw [jbF, if_neg h]
theorem jb_lt {J : Nat → Int32} {f : Nat → Nat} {n : Nat} (hf : ∀ i, i < n → f i < n) : ∀ (d i : Nat), i < n → jbF J f d i < n
  | 0, i, h => h
  | d + 1, i, h => by
    rw [jbF]
    split
    · exact jb_lt hf d _ (hf i h)
    · exact h
def cvx (J : Nat → Nat → Int32) (n : Nat) (x y : Nat → Int32) (a : Int32) (c e : Nat) : Bool := decide (0 ≤ tn x y c (jbF (J c) (bf n) n (bf n e)) (jbF (J c) (af n) n (af n e)) * hnd a)
set_option maxHeartbeats 4000000 in
set_option maxRecDepth 100000 in
theorem c_X2_join (l : Launch) (G : Gx) (hA : wa G) (σ : Sg) (i j : Nat) (hi : i < 14) (hj : j < 14) (v : Int32) : CtV l yX2_join wsX2_join (rmd 1) G [.ref (gA G 4 (0)), .int (nI i), .int (nI j), .int (v)] σ (fun σ2 => σ2 = jn2 σ i j v) := by
  refine ct_v (maxL := 4) (ret := none) (by decide) rfl (Nat.le_of_ble_eq_true rfl) hA (fun K hl C => ?_)
  subst hl
  change WW K G _ _ σ [(0, .ref (gA G 4 (0))), (1, .int (nI i)), (2, .int (nI j)), (3, .int (v))] 0 []
  refine ww_aload_n C dX2_join_0 rfl 0 rfl ?_
  refine ww_gr (j := 0) (k := 4) (f := 3) C rfl rfl (by decide) rfl in_X2_join_X2 (by decide) lk_X2_join_22 dX2_join_1 rfl ?_
  refine ww_iload_n C dX2_join_4 rfl 1 rfl ?_
  refine ww_aald (k := 8) (j := i) (j' := i) C rfl (by decide) (by decide) (by decide) dX2_join_5 rfl hi rfl ?_
  refine ww_iload_n C dX2_join_6 rfl 2 rfl ?_
  refine ww_iload_n C dX2_join_7 rfl 3 rfl ?_
  refine ww_iast (k := 12) (j := j) C rfl (show i < 14 from hi) (by decide) dX2_join_8 rfl hj ?_
  refine ww_aload_n C dX2_join_9 rfl 0 rfl ?_
  refine ww_gr (j := 0) (k := 4) (f := 3) C rfl rfl (by decide) rfl in_X2_join_X2 (by decide) lk_X2_join_22 dX2_join_10 rfl ?_
  refine ww_iload_n C dX2_join_13 rfl 2 rfl ?_
  refine ww_aald (k := 8) (j := j) (j' := j) C rfl (by decide) (by decide) (by decide) dX2_join_14 rfl hj rfl ?_
  refine ww_iload_n C dX2_join_15 rfl 1 rfl ?_
  refine ww_iload_n C dX2_join_16 rfl 3 rfl ?_
  refine ww_iast (k := 12) (j := i) C rfl (show j < 14 from hj) (by decide) dX2_join_17 rfl hi ?_
  refine ww_vret C dX2_join_18 ?_
  rfl
set_option maxHeartbeats 4000000 in
set_option maxRecDepth 100000 in
theorem c_X2_nameSpan (l : Launch) (G : Gx) (hA : wa G) (σ : Sg) (p n : Nat) (hp : p < 8) (hs : σ 14 (p + 1) 2 = nI n) (hn : n ≤ 14) (t a b : Nat) (ht0 : 0 < t) (ht : t < n - 2) : CtV l yX2_nameSpan wsX2_nameSpan (rmd 2) G [.ref (gA G 17 (p)), .int (nI t), .int (nI a), .int (nI b)] σ (fun σ2 => σ2 = sgu (sgu σ 20 p t (nI a)) 22 p t (nI b)) := by
  refine ct_v (maxL := 4) (ret := none) (by decide) rfl (Nat.le_of_ble_eq_true rfl) hA (fun K hl C => ?_)
  subst hl
  change WW K G _ _ σ [(0, .ref (gA G 17 (p))), (1, .int (nI t)), (2, .int (nI a)), (3, .int (nI b))] 0 []
  refine ww_iload_n C dX2_nameSpan_0 rfl 1 rfl ?_
  refine ww_if_le 26 C dX2_nameSpan_1 (by decide) (fun h1 => ?_) (fun h1 => ?_)
  · have g1 : t ≤ 0 := (cv_le (a := t) (b := 0) rfl (by decide) (by omega) (by omega)).mp h1
    omega
  · have g1 : ¬ t ≤ 0 := fun q => h1 ((cv_le (a := t) (b := 0) rfl (by decide) (by omega) (by omega)).mpr q)
    refine ww_iload_n C dX2_nameSpan_4 rfl 1 rfl ?_
    refine ww_aload_n C dX2_nameSpan_5 rfl 0 rfl ?_
    refine ww_calliF (cx_V (n := 0) (As := []) C  (c_X3_triangleCount (kL K) G hA _ p n hp hs hn) gX2_nameSpan_X3_triangleCount rfl ⟨rfl, rfl⟩ (by decide +kernel) (by decide) rfl hp rfl rfl rfl (Nat.le_of_ble_eq_true rfl) dX2_nameSpan_6) ?_
    refine ww_icmp_ge 26 C dX2_nameSpan_9 (by decide) (fun h9 => ?_) (fun h9 => ?_)
    · have g9 : n - 2 ≤ t := (cv_le (a := n - 2) (b := t) (pk_sub (a := n) (b := 2) (by omega)) rfl (by omega) (by omega)).mp h9
      omega
    · have g9 : ¬ n - 2 ≤ t := fun q => h9 ((cv_le (a := n - 2) (b := t) (pk_sub (a := n) (b := 2) (by omega)) rfl (by omega) (by omega)).mpr q)
      refine ww_aload_n C dX2_nameSpan_12 rfl 0 rfl ?_
      refine ww_gr (j := p) (k := 17) (f := 6) C rfl rfl hp rfl in_X2_nameSpan_X3 (by decide) lk_X2_nameSpan_67 dX2_nameSpan_13 rfl ?_
      refine ww_iload_n C dX2_nameSpan_16 rfl 1 rfl ?_
      refine ww_iload_n C dX2_nameSpan_17 rfl 2 rfl ?_
      refine ww_iast (k := 20) (j := t) C rfl hp (by decide) dX2_nameSpan_18 rfl (by omega) ?_
      refine ww_aload_n C dX2_nameSpan_19 rfl 0 rfl ?_
      refine ww_gr (j := p) (k := 17) (f := 8) C rfl rfl hp rfl in_X2_nameSpan_X3 (by decide) lk_X2_nameSpan_71 dX2_nameSpan_20 rfl ?_
      refine ww_iload_n C dX2_nameSpan_23 rfl 1 rfl ?_
      refine ww_iload_n C dX2_nameSpan_24 rfl 3 rfl ?_
      refine ww_iast (k := 22) (j := t) C rfl hp (by decide) dX2_nameSpan_25 rfl (by omega) ?_
      refine ww_vret C dX2_nameSpan_26 ?_
      rfl
set_option maxHeartbeats 4000000 in
set_option maxRecDepth 100000 in
theorem lp_X2_joinedBefore {K : Kx} {G : Gx} (hA : wa G) (C : CX K G cX2_joinedBefore 6 RX2 wsX2_joinedBefore (rmd 2) (some .int)) (σ : Sg) (p n : Nat) (hp : p < 8) (hs : σ 14 (p + 1) 2 = nI n) (hn : n ≤ 14) (c e : Nat) (hc : c < n) (he : e < n) : ∀ (f t : Nat) (i : Nat), n - t < f → (t ≤ n) → (i < n) → (jbF (σ 12 c) (bf n) (n - t) i = jbF (σ 12 c) (bf n) n (bf n e)) → WW K G 6 (QI K G (fun r σ2 => r = nI (jbF (σ 12 c) (bf n) n (bf n e)) ∧ σ2 = σ)) σ [(5, .int (nI t)), (4, .int (nI i)), (0, .ref (gA G 4 (0))), (1, .ref (gA G 14 (p + 1))), (2, .int (nI c)), (3, .int (nI e))] 10 [] := by
  intro f
  induction f with
  | zero => intro t i h; exact absurd h (Nat.not_lt_zero _)
  | succ f ih =>
    intro t i hf ht hz hv
    refine ww_iload C dX2_joinedBefore_10 0 rfl ?_
    refine ww_aload_n C dX2_joinedBefore_12 rfl 3 rfl ?_
    refine ww_gi (k := 14) (f := 2) C rfl rfl (Nat.add_lt_add_right hp 1) rfl in_X2_joinedBefore_X1 (by decide) lk_X2_joinedBefore_31 dX2_joinedBefore_13 ?_
    refine ww_icmp_ge 45 C dX2_joinedBefore_16 (by decide) (fun h16 => ?_) (fun h16 => ?_)
    · have g16 : n ≤ t := (cv_le (a := n) (b := t) hs rfl (by omega) (by omega)).mp h16
      refine ww_iload C dX2_joinedBefore_45 1 rfl ?_
      refine ww_iret C dX2_joinedBefore_47 ?_
      exact ⟨by rw [← hv, jb_0 (by omega)], rfl⟩
    · have g16 : ¬ n ≤ t := fun q => h16 ((cv_le (a := n) (b := t) hs rfl (by omega) (by omega)).mpr q)
      refine ww_aload_n C dX2_joinedBefore_19 rfl 2 rfl ?_
      refine ww_gr (j := 0) (k := 4) (f := 3) C rfl rfl (by decide) rfl in_X2_joinedBefore_X2 (by decide) lk_X2_joinedBefore_22 dX2_joinedBefore_20 rfl ?_
      refine ww_iload_n C dX2_joinedBefore_23 rfl 4 rfl ?_
      refine ww_aald (k := 8) (j := c) (j' := c) C rfl (by decide) (by decide) (by decide) dX2_joinedBefore_24 rfl (by omega) rfl ?_
      refine ww_iload C dX2_joinedBefore_25 1 rfl ?_
      refine ww_iald (k := 12) (j := i) C rfl (show c < 14 from (by omega)) (by decide) dX2_joinedBefore_27 rfl (by omega) ?_
      refine ww_if_ne 45 C dX2_joinedBefore_28 (by decide) (fun h28 => ?_) (fun h28 => ?_)
      · refine ww_iload C dX2_joinedBefore_45 1 rfl ?_
        refine ww_iret C dX2_joinedBefore_47 ?_
        exact ⟨by rw [← hv, jb_e h28], rfl⟩
      · refine ww_aload_n C dX2_joinedBefore_31 rfl 3 rfl ?_
        refine ww_iload C dX2_joinedBefore_32 1 rfl ?_
        refine ww_calliF (cx_V (n := 1) (As := [.int (nI i)]) C  (c_X1_before (kL K) G hA _ (p + 1) n (Nat.add_lt_add_right hp 1) hs hn i (by omega) (by omega)) gX2_joinedBefore_X1_before rfl ⟨rfl, rfl⟩ (by decide +kernel) (by decide) rfl (Nat.add_lt_add_right hp 1) rfl rfl rfl (Nat.le_of_ble_eq_true rfl) dX2_joinedBefore_34) ?_
        refine ww_istore (fun y1 => [(4, .int (y1)), (5, .int (nI t)), (0, .ref (gA G 4 (0))), (1, .ref (gA G 14 (p + 1))), (2, .int (nI c)), (3, .int (nI e))]) C dX2_joinedBefore_37 (by decide) (fun _ => rfl) (fun y1 ey1 => ?_)
        obtain rfl : y1 = nI (bf n i) := ey1
        refine ww_iinc (q := 1) (fun y2 => [(5, .int (y2)), (4, .int (nI (bf n i))), (0, .ref (gA G 4 (0))), (1, .ref (gA G 14 (p + 1))), (2, .int (nI c)), (3, .int (nI e))]) C dX2_joinedBefore_39 rfl (by decide) (fun _ => rfl) (fun y2 ey2 => ?_)
        obtain rfl : y2 = nI (t + 1) := ninc rfl ey2
        refine ww_goto 10 C dX2_joinedBefore_42 (by decide) ?_
        exact ww_sub [0, 1, 2, 3, 4, 5] rfl (ih (t + 1) (bf n i) (by omega) (by omega) (bf_lt hz) (by rw [← hv, jb_s (by omega) h28]))
set_option maxHeartbeats 4000000 in
set_option maxRecDepth 100000 in
theorem c_X2_joinedBefore (l : Launch) (G : Gx) (hA : wa G) (σ : Sg) (p n : Nat) (hp : p < 8) (hs : σ 14 (p + 1) 2 = nI n) (hn : n ≤ 14) (c e : Nat) (hc : c < n) (he : e < n) : CtI l yX2_joinedBefore wsX2_joinedBefore (rmd 2) G [.ref (gA G 4 (0)), .ref (gA G 14 (p + 1)), .int (nI c), .int (nI e)] σ (fun r σ2 => r = nI (jbF (σ 12 c) (bf n) n (bf n e)) ∧ σ2 = σ) := by
  refine ct_i (maxL := 6) (ret := (some .int)) (by decide) rfl (Nat.le_of_ble_eq_true rfl) hA (fun K hl C => ?_)
  subst hl
  change WW K G _ _ σ [(0, .ref (gA G 4 (0))), (1, .ref (gA G 14 (p + 1))), (2, .int (nI c)), (3, .int (nI e))] 0 []
  refine ww_aload_n C dX2_joinedBefore_0 rfl 1 rfl ?_
  refine ww_iload_n C dX2_joinedBefore_1 rfl 3 rfl ?_
  refine ww_calliF (cx_V (n := 1) (As := [.int (nI e)]) C  (c_X1_before (kL K) G hA _ (p + 1) n (Nat.add_lt_add_right hp 1) hs hn e (by omega) (by omega)) gX2_joinedBefore_X1_before rfl ⟨rfl, rfl⟩ (by decide +kernel) (by decide) rfl (Nat.add_lt_add_right hp 1) rfl rfl rfl (Nat.le_of_ble_eq_true rfl) dX2_joinedBefore_2) ?_
  refine ww_istore (fun y1 => [(4, .int (y1)), (0, .ref (gA G 4 (0))), (1, .ref (gA G 14 (p + 1))), (2, .int (nI c)), (3, .int (nI e))]) C dX2_joinedBefore_5 (by decide) (fun _ => rfl) (fun y1 ey1 => ?_)
  obtain rfl : y1 = nI (bf n e) := ey1
  refine ww_iconst (v := 0) C dX2_joinedBefore_7 rfl ?_
  refine ww_istore (fun y2 => [(5, .int (y2)), (4, .int (nI (bf n e))), (0, .ref (gA G 4 (0))), (1, .ref (gA G 14 (p + 1))), (2, .int (nI c)), (3, .int (nI e))]) C dX2_joinedBefore_8 (by decide) (fun _ => rfl) (fun y2 ey2 => ?_)
  obtain rfl : y2 = nI 0 := (ey2.trans (by decide))
  exact ww_sub [0, 1, 2, 3, 4, 5] rfl (lp_X2_joinedBefore hA C σ p n hp hs hn c e hc he (n + 1) 0 (bf n e) (by omega) (by omega) (bf_lt he) rfl)
set_option maxHeartbeats 4000000 in
set_option maxRecDepth 100000 in
theorem lp_X2_joinedAfter {K : Kx} {G : Gx} (hA : wa G) (C : CX K G cX2_joinedAfter 6 RX2 wsX2_joinedAfter (rmd 2) (some .int)) (σ : Sg) (p n : Nat) (hp : p < 8) (hs : σ 14 (p + 1) 2 = nI n) (hn : n ≤ 14) (c e : Nat) (hc : c < n) (he : e < n) : ∀ (f t : Nat) (i : Nat), n - t < f → (t ≤ n) → (i < n) → (jbF (σ 12 c) (af n) (n - t) i = jbF (σ 12 c) (af n) n (af n e)) → WW K G 6 (QI K G (fun r σ2 => r = nI (jbF (σ 12 c) (af n) n (af n e)) ∧ σ2 = σ)) σ [(5, .int (nI t)), (4, .int (nI i)), (0, .ref (gA G 4 (0))), (1, .ref (gA G 14 (p + 1))), (2, .int (nI c)), (3, .int (nI e))] 10 [] := by
  intro f
  induction f with
  | zero => intro t i h; exact absurd h (Nat.not_lt_zero _)
  | succ f ih =>
    intro t i hf ht hz hv
    refine ww_iload C dX2_joinedAfter_10 0 rfl ?_
    refine ww_aload_n C dX2_joinedAfter_12 rfl 3 rfl ?_
    refine ww_gi (k := 14) (f := 2) C rfl rfl (Nat.add_lt_add_right hp 1) rfl in_X2_joinedAfter_X1 (by decide) lk_X2_joinedAfter_31 dX2_joinedAfter_13 ?_
    refine ww_icmp_ge 45 C dX2_joinedAfter_16 (by decide) (fun h16 => ?_) (fun h16 => ?_)
    · have g16 : n ≤ t := (cv_le (a := n) (b := t) hs rfl (by omega) (by omega)).mp h16
      refine ww_iload C dX2_joinedAfter_45 1 rfl ?_
      refine ww_iret C dX2_joinedAfter_47 ?_
      exact ⟨by rw [← hv, jb_0 (by omega)], rfl⟩
    · have g16 : ¬ n ≤ t := fun q => h16 ((cv_le (a := n) (b := t) hs rfl (by omega) (by omega)).mpr q)
      refine ww_aload_n C dX2_joinedAfter_19 rfl 2 rfl ?_
      refine ww_gr (j := 0) (k := 4) (f := 3) C rfl rfl (by decide) rfl in_X2_joinedAfter_X2 (by decide) lk_X2_joinedAfter_22 dX2_joinedAfter_20 rfl ?_
      refine ww_iload_n C dX2_joinedAfter_23 rfl 4 rfl ?_
      refine ww_aald (k := 8) (j := c) (j' := c) C rfl (by decide) (by decide) (by decide) dX2_joinedAfter_24 rfl (by omega) rfl ?_
      refine ww_iload C dX2_joinedAfter_25 1 rfl ?_
      refine ww_iald (k := 12) (j := i) C rfl (show c < 14 from (by omega)) (by decide) dX2_joinedAfter_27 rfl (by omega) ?_
      refine ww_if_ne 45 C dX2_joinedAfter_28 (by decide) (fun h28 => ?_) (fun h28 => ?_)
      · refine ww_iload C dX2_joinedAfter_45 1 rfl ?_
        refine ww_iret C dX2_joinedAfter_47 ?_
        exact ⟨by rw [← hv, jb_e h28], rfl⟩
      · refine ww_aload_n C dX2_joinedAfter_31 rfl 3 rfl ?_
        refine ww_iload C dX2_joinedAfter_32 1 rfl ?_
        refine ww_calliF (cx_V (n := 1) (As := [.int (nI i)]) C  (c_X1_after (kL K) G hA _ (p + 1) n (Nat.add_lt_add_right hp 1) hs hn i (by omega)) gX2_joinedAfter_X1_after rfl ⟨rfl, rfl⟩ (by decide +kernel) (by decide) rfl (Nat.add_lt_add_right hp 1) rfl rfl rfl (Nat.le_of_ble_eq_true rfl) dX2_joinedAfter_34) ?_
        refine ww_istore (fun y1 => [(4, .int (y1)), (5, .int (nI t)), (0, .ref (gA G 4 (0))), (1, .ref (gA G 14 (p + 1))), (2, .int (nI c)), (3, .int (nI e))]) C dX2_joinedAfter_37 (by decide) (fun _ => rfl) (fun y1 ey1 => ?_)
        obtain rfl : y1 = nI (af n i) := ey1
        refine ww_iinc (q := 1) (fun y2 => [(5, .int (y2)), (4, .int (nI (af n i))), (0, .ref (gA G 4 (0))), (1, .ref (gA G 14 (p + 1))), (2, .int (nI c)), (3, .int (nI e))]) C dX2_joinedAfter_39 rfl (by decide) (fun _ => rfl) (fun y2 ey2 => ?_)
        obtain rfl : y2 = nI (t + 1) := ninc rfl ey2
        refine ww_goto 10 C dX2_joinedAfter_42 (by decide) ?_
        exact ww_sub [0, 1, 2, 3, 4, 5] rfl (ih (t + 1) (af n i) (by omega) (by omega) (af_lt (by omega)) (by rw [← hv, jb_s (by omega) h28]))
set_option maxHeartbeats 4000000 in
set_option maxRecDepth 100000 in
theorem c_X2_joinedAfter (l : Launch) (G : Gx) (hA : wa G) (σ : Sg) (p n : Nat) (hp : p < 8) (hs : σ 14 (p + 1) 2 = nI n) (hn : n ≤ 14) (c e : Nat) (hc : c < n) (he : e < n) : CtI l yX2_joinedAfter wsX2_joinedAfter (rmd 2) G [.ref (gA G 4 (0)), .ref (gA G 14 (p + 1)), .int (nI c), .int (nI e)] σ (fun r σ2 => r = nI (jbF (σ 12 c) (af n) n (af n e)) ∧ σ2 = σ) := by
  refine ct_i (maxL := 6) (ret := (some .int)) (by decide) rfl (Nat.le_of_ble_eq_true rfl) hA (fun K hl C => ?_)
  subst hl
  change WW K G _ _ σ [(0, .ref (gA G 4 (0))), (1, .ref (gA G 14 (p + 1))), (2, .int (nI c)), (3, .int (nI e))] 0 []
  refine ww_aload_n C dX2_joinedAfter_0 rfl 1 rfl ?_
  refine ww_iload_n C dX2_joinedAfter_1 rfl 3 rfl ?_
  refine ww_calliF (cx_V (n := 1) (As := [.int (nI e)]) C  (c_X1_after (kL K) G hA _ (p + 1) n (Nat.add_lt_add_right hp 1) hs hn e (by omega)) gX2_joinedAfter_X1_after rfl ⟨rfl, rfl⟩ (by decide +kernel) (by decide) rfl (Nat.add_lt_add_right hp 1) rfl rfl rfl (Nat.le_of_ble_eq_true rfl) dX2_joinedAfter_2) ?_
  refine ww_istore (fun y1 => [(4, .int (y1)), (0, .ref (gA G 4 (0))), (1, .ref (gA G 14 (p + 1))), (2, .int (nI c)), (3, .int (nI e))]) C dX2_joinedAfter_5 (by decide) (fun _ => rfl) (fun y1 ey1 => ?_)
  obtain rfl : y1 = nI (af n e) := ey1
  refine ww_iconst (v := 0) C dX2_joinedAfter_7 rfl ?_
  refine ww_istore (fun y2 => [(5, .int (y2)), (4, .int (nI (af n e))), (0, .ref (gA G 4 (0))), (1, .ref (gA G 14 (p + 1))), (2, .int (nI c)), (3, .int (nI e))]) C dX2_joinedAfter_8 (by decide) (fun _ => rfl) (fun y2 ey2 => ?_)
  obtain rfl : y2 = nI 0 := (ey2.trans (by decide))
  exact ww_sub [0, 1, 2, 3, 4, 5] rfl (lp_X2_joinedAfter hA C σ p n hp hs hn c e hc he (n + 1) 0 (af n e) (by omega) (by omega) (af_lt (by omega)) rfl)
set_option maxHeartbeats 4000000 in
set_option maxRecDepth 100000 in
theorem c_X2_isConvexWithout (l : Launch) (G : Gx) (hA : wa G) (σ : Sg) (p n : Nat) (hp : p < 8) (hs : σ 14 (p + 1) 2 = nI n) (hn : n ≤ 14) (c e : Nat) (hc : c < n) (he : e < n) : CtI l yX2_isConvexWithout wsX2_isConvexWithout (rmd 3) G [.ref (gA G 4 (0)), .ref (gA G 17 (p)), .int (nI c), .int (nI e)] σ (fun r σ2 => r = bI (cvx (σ 12) n (σ 15 (p + 1)) (σ 16 (p + 1)) (σ 17 p 2) c e) ∧ σ2 = σ) := by
  refine ct_i (maxL := 6) (ret := (some .boolean)) (by decide) rfl (Nat.le_of_ble_eq_true rfl) hA (fun K hl C => ?_)
  subst hl
  change WW K G _ _ σ [(0, .ref (gA G 4 (0))), (1, .ref (gA G 17 (p))), (2, .int (nI c)), (3, .int (nI e))] 0 []
  refine ww_aload_n C dX2_isConvexWithout_0 rfl 0 rfl ?_
  refine ww_aload_n C dX2_isConvexWithout_1 rfl 1 rfl ?_
  refine ww_gr (j := p + 1) (k := 17) (f := 0) C rfl rfl hp rfl in_X2_isConvexWithout_X3 (by decide) lk_X2_isConvexWithout_25 dX2_isConvexWithout_2 rfl ?_
  refine ww_iload_n C dX2_isConvexWithout_5 rfl 2 rfl ?_
  refine ww_iload_n C dX2_isConvexWithout_6 rfl 3 rfl ?_
  refine ww_calliF (cx_V (n := 3) (As := [.ref (gA G 14 (p + 1)), .int (nI c), .int (nI e)]) C  (c_X2_joinedBefore (kL K) G hA _ p n hp hs hn c e (by omega) (by omega)) gX2_isConvexWithout_X2_joinedBefore rfl ⟨rfl, rfl⟩ (by decide +kernel) (by decide) rfl (by decide) rfl rfl rfl (Nat.le_of_ble_eq_true rfl) dX2_isConvexWithout_7) ?_
  refine ww_istore (fun y1 => [(4, .int (y1)), (0, .ref (gA G 4 (0))), (1, .ref (gA G 17 (p))), (2, .int (nI c)), (3, .int (nI e))]) C dX2_isConvexWithout_10 (by decide) (fun _ => rfl) (fun y1 ey1 => ?_)
  obtain rfl : y1 = nI (jbF (σ 12 c) (bf n) n (bf n e)) := ey1
  refine ww_aload_n C dX2_isConvexWithout_12 rfl 1 rfl ?_
  refine ww_aload_n C dX2_isConvexWithout_13 rfl 2 rfl ?_
  refine ww_gr (j := p + 1) (k := 17) (f := 0) C rfl rfl hp rfl in_X2_isConvexWithout_X3 (by decide) lk_X2_isConvexWithout_25 dX2_isConvexWithout_14 rfl ?_
  refine ww_iload_n C dX2_isConvexWithout_17 rfl 3 rfl ?_
  refine ww_iload_n C dX2_isConvexWithout_18 rfl 4 rfl ?_
  refine ww_calliF (cx_V (n := 3) (As := [.ref (gA G 14 (p + 1)), .int (nI c), .int (nI e)]) C  (c_X2_joinedAfter (kL K) G hA _ p n hp hs hn c e (by omega) (by omega)) gX2_isConvexWithout_X2_joinedAfter rfl ⟨rfl, rfl⟩ (by decide +kernel) (by decide) rfl (by decide) rfl rfl rfl (Nat.le_of_ble_eq_true rfl) dX2_isConvexWithout_19) ?_
  refine ww_istore (fun y2 => [(5, .int (y2)), (4, .int (nI (jbF (σ 12 c) (bf n) n (bf n e)))), (0, .ref (gA G 4 (0))), (1, .ref (gA G 17 (p))), (2, .int (nI c)), (3, .int (nI e))]) C dX2_isConvexWithout_22 (by decide) (fun _ => rfl) (fun y2 ey2 => ?_)
  obtain rfl : y2 = nI (jbF (σ 12 c) (af n) n (af n e)) := ey2
  refine ww_aload_n C dX2_isConvexWithout_24 rfl 3 rfl ?_
  refine ww_gr (j := p + 1) (k := 17) (f := 0) C rfl rfl hp rfl in_X2_isConvexWithout_X3 (by decide) lk_X2_isConvexWithout_25 dX2_isConvexWithout_25 rfl ?_
  refine ww_iload_n C dX2_isConvexWithout_28 rfl 4 rfl ?_
  refine ww_iload C dX2_isConvexWithout_29 1 rfl ?_
  refine ww_iload C dX2_isConvexWithout_31 0 rfl ?_
  refine ww_calliF (cx_V (n := 3) (As := [.int (nI c), .int (nI (jbF (σ 12 c) (bf n) n (bf n e))), .int (nI (jbF (σ 12 c) (af n) n (af n e)))]) C  (c_X1_turn (kL K) G hA _ (p + 1) (Nat.add_lt_add_right hp 1) c (jbF (σ 12 c) (bf n) n (bf n e)) (jbF (σ 12 c) (af n) n (af n e)) (by omega) (nlt14 (jb_lt (fun i hi => bf_lt hi) n (bf n e) (bf_lt (by omega))) hn) (nlt14 (jb_lt (fun i hi => af_lt (by omega)) n (af n e) (af_lt (by omega))) hn)) gX2_isConvexWithout_X1_turn rfl ⟨rfl, rfl⟩ (by decide +kernel) (by decide) rfl (Nat.add_lt_add_right hp 1) rfl rfl rfl (Nat.le_of_ble_eq_true rfl) dX2_isConvexWithout_33) ?_
  refine ww_aload_n C dX2_isConvexWithout_36 rfl 3 rfl ?_
  refine ww_calliF (cx_V (n := 0) (As := []) C  (c_X3_hand (kL K) G hA _ p hp) gX2_isConvexWithout_X3_hand rfl ⟨rfl, rfl⟩ (by decide +kernel) (by decide) rfl hp rfl rfl rfl (Nat.le_of_ble_eq_true rfl) dX2_isConvexWithout_37) ?_
  refine ww_imul C dX2_isConvexWithout_40 ?_
  refine ww_b_lt C dX2_isConvexWithout_41 dX2_isConvexWithout_44 dX2_isConvexWithout_45 dX2_isConvexWithout_48 ?_
  refine ww_zret C dX2_isConvexWithout_49 (by first | rfl | exact bI_n) ?_
  exact ⟨rfl, rfl⟩
