theorem in_X3_become_X3 : ∀ w ∈ wsX30, w ∈ wsX3_become := by decide +kernel
theorem lk_X3_become_12 : Cond.fieldLink RX3 12 "PolyCuts$Shape" "corners" "LPolyCuts$Corners;" ∈ wsX3_become := by decide +kernel
theorem in_X3_become_X1 : ∀ w ∈ wsX10, w ∈ wsX3_become := by decide +kernel
theorem lk_X3_become_59 : Cond.fieldLink RX3 59 "PolyCuts$Corners" "size" "I" ∈ wsX3_become := by decide +kernel
theorem lk_X3_become_23 : Cond.fieldLink RX3 23 "PolyCuts$Shape" "doubleArea" "I" ∈ wsX3_become := by decide +kernel
theorem in_X3_lookAround_X3 : ∀ w ∈ wsX30, w ∈ wsX3_lookAround := by decide +kernel
theorem lk_X3_lookAround_20 : Cond.fieldLink RX3 20 "PolyCuts$Shape" "sight" "[[I" ∈ wsX3_lookAround := by decide +kernel
theorem lk_X3_lookAround_12 : Cond.fieldLink RX3 12 "PolyCuts$Shape" "corners" "LPolyCuts$Corners;" ∈ wsX3_lookAround := by decide +kernel
theorem in_X3_lookAround_X1 : ∀ w ∈ wsX10, w ∈ wsX3_lookAround := by decide +kernel
theorem lk_X3_lookAround_59 : Cond.fieldLink RX3 59 "PolyCuts$Corners" "size" "I" ∈ wsX3_lookAround := by decide +kernel
theorem sgu_sgu {σ : Sg} {k i f : Nat} {a b : Int32} : sgu (sgu σ k i f a) k i f b = sgu σ k i f b := by
  funext k' i' f'
  by_cases h : k' = k ∧ i' = i ∧ f' = f
  · simp [sgu, h]
  · simp [sgu, h]
theorem sgu_kk {σ : Sg} {k i f k' : Nat} {v : Int32} (h : k' ≠ k) : sgu σ k i f v k' = σ k' := by
  funext i' f'
  exact sgu_k h
theorem sgc_kk {σ : Sg} {k i0 i1 n k' : Nat} (h : k' ≠ k) : sgc σ k i0 i1 n k' = σ k' := by
  funext i' f'
  exact if_neg (fun q => h q.1)
set_option maxHeartbeats 4000000 in
set_option maxRecDepth 100000 in
theorem lp_X3_become {K : Kx} {G : Gx} (hA : wa G) (C : CX K G cX3_become 3 RX3 wsX3_become (rmd 3) none) (σ : Sg) (p n : Nat) (hp : p < 8) (hs : σ 14 (p + 1) 2 = nI n) (hn : n ≤ 14) (o : Nat) (ho : o < 9) : ∀ (f i : Nat) (τ : Sg), n - i < f → i ≤ n → τ = sgu σ 17 p 2 (sumN (crs9 n (σ 15 (p + 1)) (σ 16 (p + 1))) i) → WW K G 3 (QV K G (fun σ2 => σ2 = sgu σ 17 p 2 (sumN (crs9 n (σ 15 (p + 1)) (σ 16 (p + 1))) n))) τ [(2, .int (nI i)), (0, .ref (gA G 17 (p))), (1, .ref (gA G 14 (o)))] 15 [] := by
  intro f
  induction f with
  | zero => intro i τ h; exact absurd h (Nat.not_lt_zero _)
  | succ f ih =>
    intro i τ hf hi ht
    have hst : τ 14 (p + 1) 2 = nI n := by rw [ht, sgu_kk (by decide)]; exact hs
    refine ww_iload_n C dX3_become_15 rfl 0 rfl ?_
    refine ww_aload_n C dX3_become_16 rfl 1 rfl ?_
    refine ww_gr (j := p + 1) (k := 17) (f := 0) C rfl rfl hp rfl in_X3_become_X3 (by decide) lk_X3_become_12 dX3_become_17 rfl ?_
    refine ww_gi (k := 14) (f := 2) C rfl rfl (Nat.add_lt_add_right hp 1) rfl in_X3_become_X1 (by decide) lk_X3_become_59 dX3_become_20 ?_
    refine ww_icmp_ge 46 C dX3_become_23 (by decide) (fun h23 => ?_) (fun h23 => ?_)
    · have g23 : n ≤ i := (cv_le (a := n) (b := i) hst rfl (by omega) (by omega)).mp h23
      refine ww_vret C dX3_become_46 ?_
      rw [ht, show i = n by omega]
    · have g23 : ¬ n ≤ i := fun q => h23 ((cv_le (a := n) (b := i) hst rfl (by omega) (by omega)).mpr q)
      refine ww_aload_n C dX3_become_26 rfl 1 rfl ?_
      refine ww_dup C dX3_become_27 rfl ?_
      refine ww_gi (k := 17) (f := 2) C rfl rfl hp rfl in_X3_become_X3 (by decide) lk_X3_become_23 dX3_become_28 ?_
      refine ww_aload_n C dX3_become_31 rfl 1 rfl ?_
      refine ww_iload_n C dX3_become_32 rfl 0 rfl ?_
      refine ww_calliF (cx_V (n := 1) (As := [.int (nI i)]) C  (c_X3_crossOfEdge (kL K) G hA _ p n hp hst hn i (by omega)) gX3_become_X3_crossOfEdge rfl ⟨rfl, rfl⟩ (by decide +kernel) (by decide) rfl hp rfl rfl rfl (Nat.le_of_ble_eq_true rfl) dX3_become_33) ?_
      refine ww_iadd C dX3_become_36 ?_
      refine ww_pi (k := 17) (f := 2) C rfl rfl hp rfl in_X3_become_X3 tyX3_ok nmX3 (by decide) lk_X3_become_23 rfl rfl dX3_become_37 ?_
      obtain ⟨σ1, hσ1⟩ : ∃ z : Sg, z = (sgu τ 17 (p) 2 ((τ 17 (p) 2) + (crs9 n (τ 15 (p + 1)) (τ 16 (p + 1)) i))) := ⟨_, rfl⟩
      rw [← hσ1]
      refine ww_iinc (q := 0) (fun y2 => [(2, .int (y2)), (0, .ref (gA G 17 (p))), (1, .ref (gA G 14 (o)))]) C dX3_become_40 rfl (by decide) (fun _ => rfl) (fun y2 ey2 => ?_)
      obtain rfl : y2 = nI (i + 1) := ninc rfl ey2
      refine ww_goto 15 C dX3_become_43 (by decide) ?_
      exact ww_sub [0, 1, 2] rfl (ih (i + 1) _ (by omega) (by omega) (by rw [hσ1, ht, sgu_self, sgu_sgu, sgu_kk (by decide), sgu_kk (by decide)]; rfl))
/-- what become leaves behind: the row o of n corners in shape p, and its double area -/
def becF (σ : Sg) (p o n : Nat) : Sg := sgc (sgc (sgu σ 14 (p + 1) 2 (nI n)) 15 o (p + 1) n) 16 o (p + 1) n
set_option maxHeartbeats 4000000 in
set_option maxRecDepth 100000 in
theorem c_X3_become (l : Launch) (G : Gx) (hA : wa G) (σ : Sg) (p o n : Nat) (hp : p < 8) (ho : o < 9) (hs : σ 14 o 2 = nI n) (hn : n ≤ 14) : CtV l yX3_become wsX3_become (rmd 3) G [.ref (gA G 17 (p)), .ref (gA G 14 (o))] σ (fun σ2 => σ2 = sgu (becF σ p o n) 17 p 2 (sumN (crs9 n (becF σ p o n 15 (p + 1)) (becF σ p o n 16 (p + 1))) n)) := by
  refine ct_v (maxL := 3) (ret := none) (by decide) rfl (Nat.le_of_ble_eq_true rfl) hA (fun K hl C => ?_)
  subst hl
  change WW K G _ _ σ [(0, .ref (gA G 17 (p))), (1, .ref (gA G 14 (o)))] 0 []
  refine ww_aload_n C dX3_become_0 rfl 0 rfl ?_
  refine ww_gr (j := p + 1) (k := 17) (f := 0) C rfl rfl hp rfl in_X3_become_X3 (by decide) lk_X3_become_12 dX3_become_1 rfl ?_
  refine ww_aload_n C dX3_become_4 rfl 1 rfl ?_
  refine ww_callvF (cx_V (n := 1) (As := [.ref (gA G 14 (o))]) C  (c_X1_copyOf (kL K) G hA _ o (p + 1) n ho (Nat.add_lt_add_right hp 1) hs hn) gX3_become_X1_copyOf rfl ⟨rfl, rfl⟩ (by decide +kernel) (by decide) rfl (Nat.add_lt_add_right hp 1) rfl rfl rfl (Nat.le_of_ble_eq_true rfl) dX3_become_5) ?_
  obtain ⟨σ1, hσ1⟩ : ∃ z : Sg, z = (sgc (sgc (sgu σ 14 (p + 1) 2 (nI n)) 15 o (p + 1) n) 16 o (p + 1) n) := ⟨_, rfl⟩
  rw [← hσ1]
  refine ww_aload_n C dX3_become_8 rfl 0 rfl ?_
  refine ww_iconst (v := 0) C dX3_become_9 rfl ?_
  refine ww_pi (k := 17) (f := 2) C rfl rfl hp rfl in_X3_become_X3 tyX3_ok nmX3 (by decide) lk_X3_become_23 rfl rfl dX3_become_10 ?_
  obtain ⟨σ2, hσ2⟩ : ∃ z : Sg, z = (sgu σ1 17 (p) 2 (0)) := ⟨_, rfl⟩
  rw [← hσ2]
  refine ww_iconst (v := 0) C dX3_become_13 rfl ?_
  refine ww_istore_n (fun y1 => [(2, .int (y1)), (0, .ref (gA G 17 (p))), (1, .ref (gA G 14 (o)))]) C dX3_become_14 rfl (by decide) (fun _ => rfl) (fun y1 ey1 => ?_)
  obtain rfl : y1 = nI 0 := (ey1.trans (by decide))
  have hb1 : σ1 14 (p + 1) 2 = nI n := by rw [hσ1, sgc_kk (by decide), sgc_kk (by decide), sgu_self]
  rw [show becF σ p o n = σ1 from hσ1.symm]
  exact lp_X3_become hA C σ1 p n hp hb1 hn o ho (n + 1) 0 σ2 (by omega) (by omega) hσ2
def sgt (n : Nat) (x y : Nat → Int32) (a b : Nat) : Int32 := if a = b then 0 else if b < a then lookF n x y a b else lookF n x y b a
def LKo (σ τ : Sg) (p n : Nat) (x y : Nat → Int32) (i : Nat) : Prop := (∀ k, k ≠ 19 → τ k = σ k) ∧ (∀ a f, (∀ c, c < 14 → a ≠ 14 * p + c) → τ 19 a f = σ 19 a f) ∧ ∀ a b, a < i → b < i → τ 19 (14 * p + a) b = sgt n x y a b
def LKi (σ τ : Sg) (p n : Nat) (x y : Nat → Int32) (i j : Nat) : Prop := LKo σ τ p n x y i ∧ τ 19 (14 * p + i) i = 0 ∧ ∀ b, b < j → τ 19 (14 * p + i) b = lookF n x y i b ∧ τ 19 (14 * p + b) i = lookF n x y i b
theorem lk_0 {σ τ τ' : Sg} {p n : Nat} {x y : Nat → Int32} {i : Nat} (hi : i < 14) (h : LKo σ τ p n x y i) (e : τ' = sgu τ 19 (14 * p + i) i 0) : LKi σ τ' p n x y i 0 := by
  obtain ⟨h1, h2, h3⟩ := h
  refine ⟨⟨fun k hk => ?_, fun a f ha => ?_, fun a b ha hb => ?_⟩, ?_, fun b hb => absurd hb (Nat.not_lt_zero b)⟩
  · rw [e, sgu_kk hk, h1 k hk]
  · rw [e, sgu_i (ha i hi), h2 a f ha]
  · rw [e, sgu_f (by omega), h3 a b ha hb]
  · rw [e, sgu_self]
theorem lk_s {σ τ σ1 σ2 : Sg} {p n : Nat} {x y : Nat → Int32} {i j : Nat} {v w : Int32} (hi : i < 14) (hj : j < i) (h : LKi σ τ p n x y i j) (e1 : σ1 = sgu τ 19 (14 * p + i) j v) (e2 : σ2 = sgu σ1 19 (14 * p + j) i w) (hw : w = σ1 19 (14 * p + i) j) (hv : v = lookF n x y i j) : LKi σ σ2 p n x y i (j + 1) := by
  obtain ⟨⟨h1, h2, h3⟩, h4, h5⟩ := h
  have hw2 : w = lookF n x y i j := by rw [hw, e1, sgu_self, hv]
  refine ⟨⟨fun k hk => ?_, fun a f ha => ?_, fun a b ha hb => ?_⟩, ?_, fun b hb => ?_⟩
  · rw [e2, sgu_kk hk, e1, sgu_kk hk, h1 k hk]
  · rw [e2, sgu_i (ha j (by omega)), e1, sgu_i (ha i hi), h2 a f ha]
  · rw [e2, sgu_f (by omega), e1, sgu_i (by omega), h3 a b ha hb]
  · rw [e2, sgu_i (by omega), e1, sgu_f (by omega), h4]
  · rcases Nat.lt_or_ge b j with q | q
    · refine ⟨?_, ?_⟩
      · rw [e2, sgu_i (by omega), e1, sgu_f (by omega), (h5 b q).1]
      · rw [e2, sgu_i (by omega), e1, sgu_i (by omega), (h5 b q).2]
    · obtain rfl : b = j := by omega
      refine ⟨?_, ?_⟩
      · rw [e2, sgu_i (by omega), e1, sgu_self, hv]
      · rw [e2, sgu_self, hw2]
theorem lk_e {σ τ : Sg} {p n : Nat} {x y : Nat → Int32} {i : Nat} (h : LKi σ τ p n x y i i) : LKo σ τ p n x y (i + 1) := by
  obtain ⟨⟨h1, h2, h3⟩, h4, h5⟩ := h
  refine ⟨h1, h2, fun a b ha hb => ?_⟩
  rcases Nat.lt_or_ge a i with qa | qa <;> rcases Nat.lt_or_ge b i with qb | qb
  · exact h3 a b qa qb
  · obtain rfl : b = i := by omega
    rw [(h5 a qa).2, sgt, if_neg (by omega), if_neg (by omega)]
  · obtain rfl : a = i := by omega
    rw [(h5 b qb).1, sgt, if_neg (by omega), if_pos qb]
  · obtain rfl : a = i := by omega
    obtain rfl : b = a := by omega
    rw [h4, sgt, if_pos rfl]
set_option maxHeartbeats 4000000 in
set_option maxRecDepth 100000 in
theorem lp_X3_lookAround_j {K : Kx} {G : Gx} (hA : wa G) (C : CX K G cX3_lookAround 3 RX3 wsX3_lookAround (rmd 6) none) (σ : Sg) (p n : Nat) (hp : p < 8) (hs : σ 14 (p + 1) 2 = nI n) (hn : n ≤ 14) (i : Nat) (hi : i < n) (kx : ∀ τ, LKi σ τ p n (σ 15 (p + 1)) (σ 16 (p + 1)) i i → WW K G 3 (QV K G (fun σ2 => LKo σ σ2 p n (σ 15 (p + 1)) (σ 16 (p + 1)) n)) τ [(1, .int (nI i)), (0, .ref (gA G 17 (p)))] 65 []) : ∀ (f j : Nat) (τ : Sg), i - j < f → j ≤ i → LKi σ τ p n (σ 15 (p + 1)) (σ 16 (p + 1)) i j → WW K G 3 (QV K G (fun σ2 => LKo σ σ2 p n (σ 15 (p + 1)) (σ 16 (p + 1)) n)) τ [(2, .int (nI j)), (1, .int (nI i)), (0, .ref (gA G 17 (p)))] 24 [] := by
  intro f
  induction f with
  | zero => intro j τ h; exact absurd h (Nat.not_lt_zero _)
  | succ f ih =>
    intro j τ hf hj hk
    have hst : τ 14 (p + 1) 2 = nI n := by rw [hk.1.1 14 (by decide)]; exact hs
    have hx5 : τ 15 = σ 15 := hk.1.1 15 (by decide)
    have hx6 : τ 16 = σ 16 := hk.1.1 16 (by decide)
    refine ww_iload_n C dX3_lookAround_24 rfl 0 rfl ?_
    refine ww_iload_n C dX3_lookAround_25 rfl 1 rfl ?_
    refine ww_icmp_ge 65 C dX3_lookAround_26 (by decide) (fun h26 => ?_) (fun h26 => ?_)
    · have g26 : i ≤ j := (cv_le (a := i) (b := j) rfl rfl (by omega) (by omega)).mp h26
      exact ww_sub [1, 2] rfl (kx _ (by rw [show i = j by omega] at hk ⊢; exact hk))
    · have g26 : ¬ i ≤ j := fun q => h26 ((cv_le (a := i) (b := j) rfl rfl (by omega) (by omega)).mpr q)
      refine ww_aload_n C dX3_lookAround_29 rfl 2 rfl ?_
      refine ww_gr (j := p) (k := 17) (f := 1) C rfl rfl hp rfl in_X3_lookAround_X3 (by decide) lk_X3_lookAround_20 dX3_lookAround_30 rfl ?_
      refine ww_iload_n C dX3_lookAround_33 rfl 1 rfl ?_
      refine ww_aald (k := 18) (j := i) (j' := 14 * p + i) C rfl (by decide) hp (by decide) dX3_lookAround_34 rfl (by omega) rfl ?_
      refine ww_iload_n C dX3_lookAround_35 rfl 0 rfl ?_
      refine ww_aload_n C dX3_lookAround_36 rfl 2 rfl ?_
      refine ww_iload_n C dX3_lookAround_37 rfl 1 rfl ?_
      refine ww_iload_n C dX3_lookAround_38 rfl 0 rfl ?_
      refine ww_calliF (cx_V (n := 2) (As := [.int (nI i), .int (nI j)]) C  (c_X3_look (kL K) G hA _ p n hp hst hn i j (by omega) (by omega)) gX3_lookAround_X3_look rfl ⟨rfl, rfl⟩ (by decide +kernel) (by decide) rfl hp rfl rfl rfl (Nat.le_of_ble_eq_true rfl) dX3_lookAround_39) ?_
      refine ww_iast (k := 19) (j := j) C rfl (dm19 hp (by omega)) (by decide) dX3_lookAround_42 rfl (by omega) ?_
      obtain ⟨σ1, hσ1⟩ : ∃ z : Sg, z = (sgu τ 19 (14 * p + i) (j) (lookF n (τ 15 (p + 1)) (τ 16 (p + 1)) i j)) := ⟨_, rfl⟩
      rw [← hσ1]
      refine ww_aload_n C dX3_lookAround_43 rfl 2 rfl ?_
      refine ww_gr (j := p) (k := 17) (f := 1) C rfl rfl hp rfl in_X3_lookAround_X3 (by decide) lk_X3_lookAround_20 dX3_lookAround_44 rfl ?_
      refine ww_iload_n C dX3_lookAround_47 rfl 0 rfl ?_
      refine ww_aald (k := 18) (j := j) (j' := 14 * p + j) C rfl (by decide) hp (by decide) dX3_lookAround_48 rfl (by omega) rfl ?_
      refine ww_iload_n C dX3_lookAround_49 rfl 1 rfl ?_
      refine ww_aload_n C dX3_lookAround_50 rfl 2 rfl ?_
      refine ww_gr (j := p) (k := 17) (f := 1) C rfl rfl hp rfl in_X3_lookAround_X3 (by decide) lk_X3_lookAround_20 dX3_lookAround_51 rfl ?_
      refine ww_iload_n C dX3_lookAround_54 rfl 1 rfl ?_
      refine ww_aald (k := 18) (j := i) (j' := 14 * p + i) C rfl (by decide) hp (by decide) dX3_lookAround_55 rfl (by omega) rfl ?_
      refine ww_iload_n C dX3_lookAround_56 rfl 0 rfl ?_
      refine ww_iald (k := 19) (j := j) C rfl (dm19 hp (by omega)) (by decide) dX3_lookAround_57 rfl (by omega) ?_
      refine ww_iast (k := 19) (j := i) C rfl (dm19 hp (by omega)) (by decide) dX3_lookAround_58 rfl (by omega) ?_
      obtain ⟨σ2, hσ2⟩ : ∃ z : Sg, z = (sgu σ1 19 (14 * p + j) (i) (σ1 19 (14 * p + i) (j))) := ⟨_, rfl⟩
      rw [← hσ2]
      refine ww_iinc (q := 0) (fun y3 => [(2, .int (y3)), (1, .int (nI i)), (0, .ref (gA G 17 (p)))]) C dX3_lookAround_59 rfl (by decide) (fun _ => rfl) (fun y3 ey3 => ?_)
      obtain rfl : y3 = nI (j + 1) := ninc rfl ey3
      refine ww_goto 24 C dX3_lookAround_62 (by decide) ?_
      exact ww_sub [0, 1, 2] rfl (ih (j + 1) _ (by omega) (by omega) (lk_s (by omega) (by omega) hk hσ1 hσ2 rfl (by rw [hx5, hx6])))
set_option maxHeartbeats 4000000 in
set_option maxRecDepth 100000 in
theorem lp_X3_lookAround_i {K : Kx} {G : Gx} (hA : wa G) (C : CX K G cX3_lookAround 3 RX3 wsX3_lookAround (rmd 6) none) (σ : Sg) (p n : Nat) (hp : p < 8) (hs : σ 14 (p + 1) 2 = nI n) (hn : n ≤ 14) : ∀ (f i : Nat) (τ : Sg), n - i < f → i ≤ n → LKo σ τ p n (σ 15 (p + 1)) (σ 16 (p + 1)) i → WW K G 3 (QV K G (fun σ2 => LKo σ σ2 p n (σ 15 (p + 1)) (σ 16 (p + 1)) n)) τ [(1, .int (nI i)), (0, .ref (gA G 17 (p)))] 2 [] := by
  intro f
  induction f with
  | zero => intro i τ h; exact absurd h (Nat.not_lt_zero _)
  | succ f ih =>
    intro i τ hf hi hk
    have hst : τ 14 (p + 1) 2 = nI n := by rw [hk.1 14 (by decide)]; exact hs
    have hx5 : τ 15 = σ 15 := hk.1 15 (by decide)
    have hx6 : τ 16 = σ 16 := hk.1 16 (by decide)
    refine ww_iload_n C dX3_lookAround_2 rfl 0 rfl ?_
    refine ww_aload_n C dX3_lookAround_3 rfl 1 rfl ?_
    refine ww_gr (j := p + 1) (k := 17) (f := 0) C rfl rfl hp rfl in_X3_lookAround_X3 (by decide) lk_X3_lookAround_12 dX3_lookAround_4 rfl ?_
    refine ww_gi (k := 14) (f := 2) C rfl rfl (Nat.add_lt_add_right hp 1) rfl in_X3_lookAround_X1 (by decide) lk_X3_lookAround_59 dX3_lookAround_7 ?_
    refine ww_icmp_ge 71 C dX3_lookAround_10 (by decide) (fun h10 => ?_) (fun h10 => ?_)
    · have g10 : n ≤ i := (cv_le (a := n) (b := i) hst rfl (by omega) (by omega)).mp h10
      refine ww_vret C dX3_lookAround_71 ?_
      rw [show i = n by omega] at hk; exact hk
    · have g10 : ¬ n ≤ i := fun q => h10 ((cv_le (a := n) (b := i) hst rfl (by omega) (by omega)).mpr q)
      refine ww_aload_n C dX3_lookAround_13 rfl 1 rfl ?_
      refine ww_gr (j := p) (k := 17) (f := 1) C rfl rfl hp rfl in_X3_lookAround_X3 (by decide) lk_X3_lookAround_20 dX3_lookAround_14 rfl ?_
      refine ww_iload_n C dX3_lookAround_17 rfl 0 rfl ?_
      refine ww_aald (k := 18) (j := i) (j' := 14 * p + i) C rfl (by decide) hp (by decide) dX3_lookAround_18 rfl (by omega) rfl ?_
      refine ww_iload_n C dX3_lookAround_19 rfl 0 rfl ?_
      refine ww_iconst (v := 0) C dX3_lookAround_20 rfl ?_
      refine ww_iast (k := 19) (j := i) C rfl (dm19 hp (by omega)) (by decide) dX3_lookAround_21 rfl (by omega) ?_
      obtain ⟨σ1, hσ1⟩ : ∃ z : Sg, z = (sgu τ 19 (14 * p + i) (i) (0)) := ⟨_, rfl⟩
      rw [← hσ1]
      refine ww_iconst (v := 0) C dX3_lookAround_22 rfl ?_
      refine ww_istore_n (fun y2 => [(2, .int (y2)), (1, .int (nI i)), (0, .ref (gA G 17 (p)))]) C dX3_lookAround_23 rfl (by decide) (fun _ => rfl) (fun y2 ey2 => ?_)
      obtain rfl : y2 = nI 0 := (ey2.trans (by decide))
      refine lp_X3_lookAround_j hA C σ p n hp hs hn i (by omega) (fun τ2 hk2 => ?_) (i + 1) 0 _ (by omega) (by omega) (lk_0 (by omega) hk hσ1)
      refine ww_iinc (q := 0) (fun y3 => [(1, .int (y3)), (0, .ref (gA G 17 (p)))]) C dX3_lookAround_65 rfl (by decide) (fun _ => rfl) (fun y3 ey3 => ?_)
      obtain rfl : y3 = nI (i + 1) := ninc rfl ey3
      refine ww_goto 2 C dX3_lookAround_68 (by decide) ?_
      exact ww_sub [0, 1] rfl (ih (i + 1) _ (by omega) (by omega) (lk_e hk2))
set_option maxHeartbeats 4000000 in
set_option maxRecDepth 100000 in
theorem c_X3_lookAround (l : Launch) (G : Gx) (hA : wa G) (σ : Sg) (p n : Nat) (hp : p < 8) (hs : σ 14 (p + 1) 2 = nI n) (hn : n ≤ 14) : CtV l yX3_lookAround wsX3_lookAround (rmd 6) G [.ref (gA G 17 (p))] σ (fun σ2 => LKo σ σ2 p n (σ 15 (p + 1)) (σ 16 (p + 1)) n) := by
  refine ct_v (maxL := 3) (ret := none) (by decide) rfl (Nat.le_of_ble_eq_true rfl) hA (fun K hl C => ?_)
  subst hl
  change WW K G _ _ σ [(0, .ref (gA G 17 (p)))] 0 []
  refine ww_iconst (v := 0) C dX3_lookAround_0 rfl ?_
  refine ww_istore_n (fun y1 => [(1, .int (y1)), (0, .ref (gA G 17 (p)))]) C dX3_lookAround_1 rfl (by decide) (fun _ => rfl) (fun y1 ey1 => ?_)
  obtain rfl : y1 = nI 0 := (ey1.trans (by decide))
  exact lp_X3_lookAround_i hA C σ p n hp hs hn (n + 1) 0 σ (by omega) (by omega) ⟨fun _ _ => rfl, fun _ _ _ => rfl, fun _ _ h => absurd h (Nat.not_lt_zero _)⟩
