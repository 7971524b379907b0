theorem in_X4_leastNext_X3 : ∀ w ∈ wsX30, w ∈ wsX4_leastNext := by decide +kernel
theorem lk_X4_leastNext_15 : Cond.fieldLink RX4 15 "PolyCuts$Shape" "corners" "LPolyCuts$Corners;" ∈ wsX4_leastNext := by decide +kernel
theorem in_X4_leastNext_X1 : ∀ w ∈ wsX10, w ∈ wsX4_leastNext := by decide +kernel
theorem lk_X4_leastNext_21 : Cond.fieldLink RX4 21 "PolyCuts$Corners" "size" "I" ∈ wsX4_leastNext := by decide +kernel
theorem lk_X4_leastNext_31 : Cond.fieldLink RX4 31 "PolyCuts$Shape" "sight" "[[I" ∈ wsX4_leastNext := by decide +kernel
theorem in_X4_leastNext_X4 : ∀ w ∈ wsX40, w ∈ wsX4_leastNext := by decide +kernel
theorem lk_X4_leastNext_9 : Cond.fieldLink RX4 9 "PolyCuts$Walk" "stepsLeft" "[I" ∈ wsX4_leastNext := by decide +kernel
theorem in_X4_measure_X4 : ∀ w ∈ wsX40, w ∈ wsX4_measure := by decide +kernel
theorem lk_X4_measure_9 : Cond.fieldLink RX4 9 "PolyCuts$Walk" "stepsLeft" "[I" ∈ wsX4_measure := by decide +kernel
theorem in_X4_measure_X3 : ∀ w ∈ wsX30, w ∈ wsX4_measure := by decide +kernel
theorem lk_X4_measure_15 : Cond.fieldLink RX4 15 "PolyCuts$Shape" "corners" "LPolyCuts$Corners;" ∈ wsX4_measure := by decide +kernel
theorem in_X4_measure_X1 : ∀ w ∈ wsX10, w ∈ wsX4_measure := by decide +kernel
theorem lk_X4_measure_21 : Cond.fieldLink RX4 21 "PolyCuts$Corners" "size" "I" ∈ wsX4_measure := by decide +kernel
theorem in_X4_cornerAfter_X4 : ∀ w ∈ wsX40, w ∈ wsX4_cornerAfter := by decide +kernel
theorem lk_X4_cornerAfter_9 : Cond.fieldLink RX4 9 "PolyCuts$Walk" "stepsLeft" "[I" ∈ wsX4_cornerAfter := by decide +kernel
theorem in_X5_way_X3 : ∀ w ∈ wsX30, w ∈ wsX5_way := by decide +kernel
theorem lk_X5_way_93 : Cond.fieldLink RX5 93 "PolyCuts$Shape" "corners" "LPolyCuts$Corners;" ∈ wsX5_way := by decide +kernel
theorem in_X5_way_X5 : ∀ w ∈ wsX50, w ∈ wsX5_way := by decide +kernel
theorem lk_X5_way_33 : Cond.fieldLink RX5 33 "PolyCuts" "walk" "LPolyCuts$Walk;" ∈ wsX5_way := by decide +kernel
theorem in_X5_way_X4 : ∀ w ∈ wsX40, w ∈ wsX5_way := by decide +kernel
theorem lk_X5_way_142 : Cond.fieldLink RX5 142 "PolyCuts$Walk" "stepsLeft" "[I" ∈ wsX5_way := by decide +kernel
theorem in_X5_step_X3 : ∀ w ∈ wsX30, w ∈ wsX5_step := by decide +kernel
theorem lk_X5_step_93 : Cond.fieldLink RX5 93 "PolyCuts$Shape" "corners" "LPolyCuts$Corners;" ∈ wsX5_step := by decide +kernel
theorem in_X5_step_X5 : ∀ w ∈ wsX50, w ∈ wsX5_step := by decide +kernel
theorem lk_X5_step_33 : Cond.fieldLink RX5 33 "PolyCuts" "walk" "LPolyCuts$Walk;" ∈ wsX5_step := by decide +kernel
def sgr (σ : Sg) (k i : Nat) (D : Nat → Int32) : Sg := fun k' i' f => if k' = k ∧ i' = i then D f else σ k' i' f
theorem sgr_self {σ : Sg} {k i : Nat} {D : Nat → Int32} : sgr σ k i D k i = D := by funext f; exact if_pos ⟨rfl, rfl⟩
theorem sgr_kk {σ : Sg} {k i k' : Nat} {D : Nat → Int32} (h : k' ≠ k) : sgr σ k i D k' = σ k' := by funext i' f; exact if_neg (fun q => h q.1)
theorem sgr_ii {σ : Sg} {k i k' i' : Nat} {D : Nat → Int32} (h : i' ≠ i) : sgr σ k i D k' i' = σ k' i' := by funext f; exact if_neg (fun q => h q.2)
theorem sgr_upd {σ : Sg} {k i f : Nat} {D : Nat → Int32} {v : Int32} : sgu (sgr σ k i D) k i f v = sgr σ k i (upd D f v) := by
  funext k' i' f'
  by_cases h : k' = k ∧ i' = i
  · by_cases hf : f' = f
    · simp [sgu, sgr, upd, h, hf]
    · simp [sgu, sgr, upd, h, hf]
  · simp only [sgu, sgr, if_neg h]
    rw [if_neg (fun q => h ⟨q.1, q.2.1⟩)]
theorem sgr_id {σ : Sg} {k i : Nat} : sgr σ k i (σ k i) = σ := by
  funext k' i' f'
  by_cases h : k' = k ∧ i' = i
  · obtain ⟨rfl, rfl⟩ := h; exact if_pos ⟨rfl, rfl⟩
  · exact if_neg h
def lnP (s D : Nat → Int32) (left : Int32) : Nat → Bool := fun j => !decide (s j = 0) && decide (D j = left)
def mIn (n : Nat) (S : Nat → Nat → Int32) (st : Int32) (D : Nat → Int32) : Nat → Nat → Int32
  | 0 => D
  | i + 1 => if mIn n S st D i i = -1 ∧ fndN (lnP (S i) (mIn n S st D i) (st - 1)) 0 n ≠ none then upd (mIn n S st D i) i st else mIn n S st D i
def mOut (n : Nat) (S : Nat → Nat → Int32) (D : Nat → Int32) : Nat → Nat → Int32
  | 0 => D
  | k + 1 => mIn n S (nI (k + 1)) (mOut n S D k) n
def mD0 (n g : Nat) (D : Nat → Int32) : Nat → Int32 := fun f => if f = g then 0 else if f < n then -1 else D f
def walkC (n : Nat) (S : Nat → Nat → Int32) (D : Nat → Int32) : Nat → Nat → Int32 → Int32
  | 0, h, _ => nI h
  | c + 1, h, left => match fndN (lnP (S h) D left) 0 n with
    | none => -1
    | some j => walkC n S D c j (left - 1)
def caR (n : Nat) (S : Nat → Nat → Int32) (D : Nat → Int32) (fr : Nat) (x : Int32) : Int32 := if 0 ≤ x ∧ x ≤ D fr then walkC n S D x.toNatClampNeg fr (D fr - 1) else -1
theorem mIn_t {n : Nat} {S : Nat → Nat → Int32} {st : Int32} {D : Nat → Int32} {i : Nat} (h1 : mIn n S st D i i = -1) (h2 : fndN (lnP (S i) (mIn n S st D i) (st - 1)) 0 n ≠ none) : mIn n S st D (i + 1) = upd (mIn n S st D i) i st := by rw [mIn, if_pos ⟨h1, h2⟩]
theorem mIn_f {n : Nat} {S : Nat → Nat → Int32} {st : Int32} {D : Nat → Int32} {i : Nat} (h : ¬ (mIn n S st D i i = -1 ∧ fndN (lnP (S i) (mIn n S st D i) (st - 1)) 0 n ≠ none)) : mIn n S st D (i + 1) = mIn n S st D i := by rw [mIn, if_neg h]
theorem ln_0 {s D : Nat → Int32} {l : Int32} {j : Nat} (h : s j = 0) : lnP s D l j = false := by simp [lnP, h]
theorem ln_1 {s D : Nat → Int32} {l : Int32} {j : Nat} (h : ¬ D j = l) : lnP s D l j = false := by simp [lnP, h]
theorem ln_2 {s D : Nat → Int32} {l : Int32} {j : Nat} (h0 : ¬ s j = 0) (h : D j = l) : lnP s D l j = true := by simp [lnP, h0, h]
theorem m0_s {i : Nat} {D : Nat → Int32} : upd (fun f => if f < i then -1 else D f) i (-1) = fun f => if f < i + 1 then -1 else D f := by
  funext f
  by_cases h : f = i
  · subst h; simp [upd]
  · by_cases h2 : f < i
    · simp [upd, h, h2, show f < i + 1 by omega]
    · simp [upd, h, h2, show ¬ f < i + 1 by omega]
theorem m0_e {n g : Nat} {D : Nat → Int32} : upd (fun f => if f < n then -1 else D f) g 0 = fun f => if f = g then 0 else if f < n then -1 else D f := by
  funext f
  by_cases h : f = g
  · simp [upd, h]
  · simp [upd, h]
set_option maxHeartbeats 4000000 in
set_option maxRecDepth 100000 in
theorem lp_X4_leastNext {K : Kx} {G : Gx} (hA : wa G) (C : CX K G cX4_leastNext 5 RX4 wsX4_leastNext (rmd 1) (some .int)) (σ : Sg) (p n : Nat) (hp : p < 8) (hs : σ 14 (p + 1) 2 = nI n) (hn : n ≤ 14) (h : Nat) (hh : h < 14) (left : Int32) : ∀ (f j : Nat), n - j < f → j ≤ n → fndN (lnP (σ 19 (14 * p + h)) (σ 3 0) left) j n = fndN (lnP (σ 19 (14 * p + h)) (σ 3 0) left) 0 n → WW K G 5 (QI K G (fun r σ2 => r = optI (fndN (lnP (σ 19 (14 * p + h)) (σ 3 0) left) 0 n) ∧ σ2 = σ)) σ [(4, .int (nI j)), (0, .ref (gA G 2 (0))), (1, .ref (gA G 17 (p))), (2, .int (nI h)), (3, .int (left))] 3 [] := by
  intro f
  induction f with
  | zero => intro j  h; exact absurd h (Nat.not_lt_zero _)
  | succ f ih =>
    intro j  hf hj hv
    refine ww_iload C dX4_leastNext_3 0 rfl ?_
    refine ww_aload_n C dX4_leastNext_5 rfl 2 rfl ?_
    refine ww_gr (j := p + 1) (k := 17) (f := 0) C rfl rfl hp rfl in_X4_leastNext_X3 (by decide) lk_X4_leastNext_15 dX4_leastNext_6 rfl ?_
    refine ww_gi (k := 14) (f := 2) C rfl rfl (Nat.add_lt_add_right hp 1) rfl in_X4_leastNext_X1 (by decide) lk_X4_leastNext_21 dX4_leastNext_9 ?_
    refine ww_icmp_ge 47 C dX4_leastNext_12 (by decide) (fun h12 => ?_) (fun h12 => ?_)
    · have g12 : n ≤ j := (cv_le (a := n) (b := j) hs rfl (by omega) (by omega)).mp h12
      refine ww_iconst (v := -1) C dX4_leastNext_47 rfl ?_
      refine ww_iret C dX4_leastNext_48 ?_
      exact ⟨by rw [← hv, fndN_end g12]; rfl, rfl⟩
    · have g12 : ¬ n ≤ j := fun q => h12 ((cv_le (a := n) (b := j) hs rfl (by omega) (by omega)).mpr q)
      refine ww_aload_n C dX4_leastNext_15 rfl 2 rfl ?_
      refine ww_gr (j := p) (k := 17) (f := 1) C rfl rfl hp rfl in_X4_leastNext_X3 (by decide) lk_X4_leastNext_31 dX4_leastNext_16 rfl ?_
      refine ww_iload_n C dX4_leastNext_19 rfl 3 rfl ?_
      refine ww_aald (k := 18) (j := h) (j' := 14 * p + h) C rfl (by decide) hp (by decide) dX4_leastNext_20 rfl hh rfl ?_
      refine ww_iload C dX4_leastNext_21 0 rfl ?_
      refine ww_iald (k := 19) (j := j) C rfl (dm19 hp hh) (by decide) dX4_leastNext_23 rfl (by omega) ?_
      refine ww_if_eq 41 C dX4_leastNext_24 (by decide) (fun h24 => ?_) (fun h24 => ?_)
      · refine ww_iinc (q := 0) (fun y1 => [(4, .int (y1)), (0, .ref (gA G 2 (0))), (1, .ref (gA G 17 (p))), (2, .int (nI h)), (3, .int (left))]) C dX4_leastNext_41 rfl (by decide) (fun _ => rfl) (fun y1 ey1 => ?_)
        obtain rfl : y1 = nI (j + 1) := ninc rfl ey1
        refine ww_goto 3 C dX4_leastNext_44 (by decide) ?_
        exact ww_sub [0, 1, 2, 3, 4] rfl (ih (j + 1) (by omega) (by omega) (by rw [← fndN_f (by omega) (ln_0 h24)]; exact hv))
      · refine ww_aload_n C dX4_leastNext_27 rfl 1 rfl ?_
        refine ww_gr (j := 0) (k := 2) (f := 0) C rfl rfl (by decide) rfl in_X4_leastNext_X4 (by decide) lk_X4_leastNext_9 dX4_leastNext_28 rfl ?_
        refine ww_iload C dX4_leastNext_31 0 rfl ?_
        refine ww_iald (k := 3) (j := j) C rfl (by decide) (by decide) dX4_leastNext_33 rfl (by omega) ?_
        refine ww_iload_n C dX4_leastNext_34 rfl 4 rfl ?_
        refine ww_icmp_ne 41 C dX4_leastNext_35 (by decide) (fun h35 => ?_) (fun h35 => ?_)
        · refine ww_iinc (q := 0) (fun y2 => [(4, .int (y2)), (0, .ref (gA G 2 (0))), (1, .ref (gA G 17 (p))), (2, .int (nI h)), (3, .int (left))]) C dX4_leastNext_41 rfl (by decide) (fun _ => rfl) (fun y2 ey2 => ?_)
          obtain rfl : y2 = nI (j + 1) := ninc rfl ey2
          refine ww_goto 3 C dX4_leastNext_44 (by decide) ?_
          exact ww_sub [0, 1, 2, 3, 4] rfl (ih (j + 1) (by omega) (by omega) (by rw [← fndN_f (by omega) (ln_1 h35)]; exact hv))
        · refine ww_iload C dX4_leastNext_38 0 rfl ?_
          refine ww_iret C dX4_leastNext_40 ?_
          exact ⟨by rw [← hv, fndN_t (by omega) (ln_2 h24 h35)]; rfl, rfl⟩
set_option maxHeartbeats 4000000 in
set_option maxRecDepth 100000 in
theorem c_X4_leastNext (l : Launch) (G : Gx) (hA : wa G) (σ : Sg) (p n : Nat) (hp : p < 8) (hs : σ 14 (p + 1) 2 = nI n) (hn : n ≤ 14) (h : Nat) (hh : h < 14) (left : Int32) : CtI l yX4_leastNext wsX4_leastNext (rmd 1) G [.ref (gA G 2 (0)), .ref (gA G 17 (p)), .int (nI h), .int (left)] σ (fun r σ2 => r = optI (fndN (lnP (σ 19 (14 * p + h)) (σ 3 0) left) 0 n) ∧ σ2 = σ) := by
  refine ct_i (maxL := 5) (ret := (some .int)) (by decide) rfl (Nat.le_of_ble_eq_true rfl) hA (fun K hl C => ?_)
  subst hl
  change WW K G _ _ σ [(0, .ref (gA G 2 (0))), (1, .ref (gA G 17 (p))), (2, .int (nI h)), (3, .int (left))] 0 []
  refine ww_iconst (v := 0) C dX4_leastNext_0 rfl ?_
  refine ww_istore (fun y1 => [(4, .int (y1)), (0, .ref (gA G 2 (0))), (1, .ref (gA G 17 (p))), (2, .int (nI h)), (3, .int (left))]) C dX4_leastNext_1 (by decide) (fun _ => rfl) (fun y1 ey1 => ?_)
  obtain rfl : y1 = nI 0 := (ey1.trans (by decide))
  exact lp_X4_leastNext hA C σ p n hp hs hn h hh left (n + 1) 0 (by omega) (by omega) rfl
set_option maxHeartbeats 4000000 in
set_option maxRecDepth 100000 in
theorem lp_X4_measure_i {K : Kx} {G : Gx} (hA : wa G) (C : CX K G cX4_measure 6 RX4 wsX4_measure (rmd 2) none) (σ : Sg) (p n : Nat) (hp : p < 8) (hs : σ 14 (p + 1) 2 = nI n) (hn : n ≤ 14) (g : Nat) (hg : g < n) (st : Nat) (h1 : 1 ≤ st) (hst1 : st < n) (kx : WW K G 6 (QV K G (fun σ2 => σ2 = sgr σ 3 0 (mOut n (fun a b => σ 19 (14 * p + a) b) (mD0 n g (σ 3 0)) (n - 1)))) (sgr σ 3 0 (mIn n (fun a b => σ 19 (14 * p + a) b) (nI st) (mOut n (fun a b => σ 19 (14 * p + a) b) (mD0 n g (σ 3 0)) (st - 1)) n)) [(4, .int (nI st)), (3, .int (nI n)), (0, .ref (gA G 2 (0))), (1, .ref (gA G 17 (p))), (2, .int (nI g))] 97 []) : ∀ (f i : Nat) (τ : Sg), n - i < f → i ≤ n → τ = sgr σ 3 0 (mIn n (fun a b => σ 19 (14 * p + a) b) (nI st) (mOut n (fun a b => σ 19 (14 * p + a) b) (mD0 n g (σ 3 0)) (st - 1)) i) → WW K G 6 (QV K G (fun σ2 => σ2 = sgr σ 3 0 (mOut n (fun a b => σ 19 (14 * p + a) b) (mD0 n g (σ 3 0)) (n - 1)))) τ [(5, .int (nI i)), (4, .int (nI st)), (3, .int (nI n)), (0, .ref (gA G 2 (0))), (1, .ref (gA G 17 (p))), (2, .int (nI g))] 50 [] := by
  intro f
  induction f with
  | zero => intro i τ h; exact absurd h (Nat.not_lt_zero _)
  | succ f ih =>
    intro i τ hf hi ht
    have hst : τ 14 (p + 1) 2 = nI n := by rw [ht, sgr_kk (by decide)]; exact hs
    refine ww_iload C dX4_measure_50 0 rfl ?_
    refine ww_iload_n C dX4_measure_52 rfl 2 rfl ?_
    refine ww_icmp_ge 97 C dX4_measure_53 (by decide) (fun h53 => ?_) (fun h53 => ?_)
    · have g53 : n ≤ i := (cv_le (a := n) (b := i) rfl rfl (by omega) (by omega)).mp h53
      exact ww_sub [1, 2, 3, 4, 5] rfl (by rw [ht, show i = n by omega]; exact kx)
    · have g53 : ¬ n ≤ i := fun q => h53 ((cv_le (a := n) (b := i) rfl rfl (by omega) (by omega)).mpr q)
      refine ww_aload_n C dX4_measure_56 rfl 3 rfl ?_
      refine ww_gr (j := 0) (k := 2) (f := 0) C rfl rfl (by decide) rfl in_X4_measure_X4 (by decide) lk_X4_measure_9 dX4_measure_57 rfl ?_
      refine ww_iload C dX4_measure_60 0 rfl ?_
      refine ww_iald (k := 3) (j := i) C rfl (by decide) (by decide) dX4_measure_62 rfl (by omega) ?_
      refine ww_iconst (v := -1) C dX4_measure_63 rfl ?_
      refine ww_icmp_ne 91 C dX4_measure_64 (by decide) (fun h64 => ?_) (fun h64 => ?_)
      · refine ww_iinc (q := 0) (fun y1 => [(5, .int (y1)), (4, .int (nI st)), (3, .int (nI n)), (0, .ref (gA G 2 (0))), (1, .ref (gA G 17 (p))), (2, .int (nI g))]) C dX4_measure_91 rfl (by decide) (fun _ => rfl) (fun y1 ey1 => ?_)
        obtain rfl : y1 = nI (i + 1) := ninc rfl ey1
        refine ww_goto 50 C dX4_measure_94 (by decide) ?_
        exact ww_sub [0, 1, 2, 3, 4, 5] rfl (ih (i + 1) _ (by omega) (by omega) (ht.trans (by rw [mIn_f (fun q => h64 (by rw [ht, sgr_self]; exact q.1))])))
      · refine ww_aload_n C dX4_measure_67 rfl 3 rfl ?_
        refine ww_aload_n C dX4_measure_68 rfl 4 rfl ?_
        refine ww_iload C dX4_measure_69 0 rfl ?_
        refine ww_iload C dX4_measure_71 1 rfl ?_
        refine ww_iconst (v := 1) C dX4_measure_73 rfl ?_
        refine ww_isub C dX4_measure_74 ?_
        refine ww_calliF (cx_V (n := 3) (As := [.ref (gA G 17 (p)), .int (nI i), .int ((nI st) - (1))]) C  (c_X4_leastNext (kL K) G hA _ p n hp hst hn i (by omega) _) gX4_measure_X4_leastNext rfl ⟨rfl, rfl⟩ (by decide +kernel) (by decide) rfl (by decide) rfl rfl rfl (Nat.le_of_ble_eq_true rfl) dX4_measure_75) ?_
        refine ww_iconst (v := -1) C dX4_measure_78 rfl ?_
        refine ww_icmp_eq 91 C dX4_measure_79 (by decide) (fun h79 => ?_) (fun h79 => ?_)
        · refine ww_iinc (q := 0) (fun y2 => [(5, .int (y2)), (4, .int (nI st)), (3, .int (nI n)), (0, .ref (gA G 2 (0))), (1, .ref (gA G 17 (p))), (2, .int (nI g))]) C dX4_measure_91 rfl (by decide) (fun _ => rfl) (fun y2 ey2 => ?_)
          obtain rfl : y2 = nI (i + 1) := ninc rfl ey2
          refine ww_goto 50 C dX4_measure_94 (by decide) ?_
          exact ww_sub [0, 1, 2, 3, 4, 5] rfl (ih (i + 1) _ (by omega) (by omega) (ht.trans (by rw [mIn_f (fun q => q.2 (optI_m rfl (by rw [ht, sgr_self, sgr_kk (by decide)] at h79; exact h79) (by omega)))])))
        · refine ww_aload_n C dX4_measure_82 rfl 3 rfl ?_
          refine ww_gr (j := 0) (k := 2) (f := 0) C rfl rfl (by decide) rfl in_X4_measure_X4 (by decide) lk_X4_measure_9 dX4_measure_83 rfl ?_
          refine ww_iload C dX4_measure_86 0 rfl ?_
          refine ww_iload C dX4_measure_88 1 rfl ?_
          refine ww_iast (k := 3) (j := i) C rfl (by decide) (by decide) dX4_measure_90 rfl (by omega) ?_
          obtain ⟨σ3, hσ3⟩ : ∃ z : Sg, z = (sgu τ 3 (0) (i) (nI st)) := ⟨_, rfl⟩
          rw [← hσ3]
          refine ww_iinc (q := 0) (fun y4 => [(5, .int (y4)), (4, .int (nI st)), (3, .int (nI n)), (0, .ref (gA G 2 (0))), (1, .ref (gA G 17 (p))), (2, .int (nI g))]) C dX4_measure_91 rfl (by decide) (fun _ => rfl) (fun y4 ey4 => ?_)
          obtain rfl : y4 = nI (i + 1) := ninc rfl ey4
          refine ww_goto 50 C dX4_measure_94 (by decide) ?_
          exact ww_sub [0, 1, 2, 3, 4, 5] rfl (ih (i + 1) _ (by omega) (by omega) (by rw [hσ3, ht, sgr_upd, mIn_t (by rw [ht, sgr_self] at h64; exact h64) (optI_n (by rw [ht, sgr_self, sgr_kk (by decide)] at h79; exact h79))]))
set_option maxHeartbeats 4000000 in
set_option maxRecDepth 100000 in
theorem lp_X4_measure_s {K : Kx} {G : Gx} (hA : wa G) (C : CX K G cX4_measure 6 RX4 wsX4_measure (rmd 2) none) (σ : Sg) (p n : Nat) (hp : p < 8) (hs : σ 14 (p + 1) 2 = nI n) (hn : n ≤ 14) (g : Nat) (hg : g < n) : ∀ (f st : Nat) (τ : Sg), n - st < f → 1 ≤ st → st ≤ n → τ = sgr σ 3 0 (mOut n (fun a b => σ 19 (14 * p + a) b) (mD0 n g (σ 3 0)) (st - 1)) → WW K G 6 (QV K G (fun σ2 => σ2 = sgr σ 3 0 (mOut n (fun a b => σ 19 (14 * p + a) b) (mD0 n g (σ 3 0)) (n - 1)))) τ [(4, .int (nI st)), (3, .int (nI n)), (0, .ref (gA G 2 (0))), (1, .ref (gA G 17 (p))), (2, .int (nI g))] 41 [] := by
  intro f
  induction f with
  | zero => intro st τ h; exact absurd h (Nat.not_lt_zero _)
  | succ f ih =>
    intro st τ hf h1 hi ht
    have hst : τ 14 (p + 1) 2 = nI n := by rw [ht, sgr_kk (by decide)]; exact hs
    refine ww_iload C dX4_measure_41 0 rfl ?_
    refine ww_iload_n C dX4_measure_43 rfl 1 rfl ?_
    refine ww_icmp_ge 103 C dX4_measure_44 (by decide) (fun h44 => ?_) (fun h44 => ?_)
    · have g44 : n ≤ st := (cv_le (a := n) (b := st) rfl rfl (by omega) (by omega)).mp h44
      refine ww_vret C dX4_measure_103 ?_
      rw [ht, show st = n by omega]
    · have g44 : ¬ n ≤ st := fun q => h44 ((cv_le (a := n) (b := st) rfl rfl (by omega) (by omega)).mpr q)
      refine ww_iconst (v := 0) C dX4_measure_47 rfl ?_
      refine ww_istore (fun y1 => [(5, .int (y1)), (4, .int (nI st)), (3, .int (nI n)), (0, .ref (gA G 2 (0))), (1, .ref (gA G 17 (p))), (2, .int (nI g))]) C dX4_measure_48 (by decide) (fun _ => rfl) (fun y1 ey1 => ?_)
      obtain rfl : y1 = nI 0 := (ey1.trans (by decide))
      refine ww_sub [0, 1, 2, 3, 4, 5] rfl (lp_X4_measure_i hA C σ p n hp hs hn g hg st h1 (by omega) ?_ (n + 1) 0 τ (by omega) (by omega) ht)
      refine ww_iinc (q := 0) (fun y2 => [(4, .int (y2)), (3, .int (nI n)), (0, .ref (gA G 2 (0))), (1, .ref (gA G 17 (p))), (2, .int (nI g))]) C dX4_measure_97 rfl (by decide) (fun _ => rfl) (fun y2 ey2 => ?_)
      obtain rfl : y2 = nI (st + 1) := ninc rfl ey2
      refine ww_goto 41 C dX4_measure_100 (by decide) ?_
      exact ww_sub [0, 1, 2, 3, 4] rfl (ih (st + 1) _ (by omega) (by omega) (by omega) (by rw [show st + 1 - 1 = (st - 1) + 1 by omega, mOut, show st - 1 + 1 = st by omega]))
set_option maxHeartbeats 4000000 in
set_option maxRecDepth 100000 in
theorem lp_X4_measure_0 {K : Kx} {G : Gx} (hA : wa G) (C : CX K G cX4_measure 6 RX4 wsX4_measure (rmd 2) none) (σ : Sg) (p n : Nat) (hp : p < 8) (hs : σ 14 (p + 1) 2 = nI n) (hn : n ≤ 14) (g : Nat) (hg : g < n) : ∀ (f i : Nat) (τ : Sg), n - i < f → i ≤ n → τ = sgr σ 3 0 (fun f => if f < i then -1 else σ 3 0 f) → WW K G 6 (QV K G (fun σ2 => σ2 = sgr σ 3 0 (mOut n (fun a b => σ 19 (14 * p + a) b) (mD0 n g (σ 3 0)) (n - 1)))) τ [(4, .int (nI i)), (3, .int (nI n)), (0, .ref (gA G 2 (0))), (1, .ref (gA G 17 (p))), (2, .int (nI g))] 11 [] := by
  intro f
  induction f with
  | zero => intro i τ h; exact absurd h (Nat.not_lt_zero _)
  | succ f ih =>
    intro i τ hf hi ht
    have hst : τ 14 (p + 1) 2 = nI n := by rw [ht, sgr_kk (by decide)]; exact hs
    refine ww_iload C dX4_measure_11 0 rfl ?_
    refine ww_iload_n C dX4_measure_13 rfl 1 rfl ?_
    refine ww_icmp_ge 31 C dX4_measure_14 (by decide) (fun h14 => ?_) (fun h14 => ?_)
    · have g14 : n ≤ i := (cv_le (a := n) (b := i) rfl rfl (by omega) (by omega)).mp h14
      refine ww_aload_n C dX4_measure_31 rfl 2 rfl ?_
      refine ww_gr (j := 0) (k := 2) (f := 0) C rfl rfl (by decide) rfl in_X4_measure_X4 (by decide) lk_X4_measure_9 dX4_measure_32 rfl ?_
      refine ww_iload_n C dX4_measure_35 rfl 4 rfl ?_
      refine ww_iconst (v := 0) C dX4_measure_36 rfl ?_
      refine ww_iast (k := 3) (j := g) C rfl (by decide) (by decide) dX4_measure_37 rfl (by omega) ?_
      obtain ⟨σ1, hσ1⟩ : ∃ z : Sg, z = (sgu τ 3 (0) (g) (0)) := ⟨_, rfl⟩
      rw [← hσ1]
      refine ww_iconst (v := 1) C dX4_measure_38 rfl ?_
      refine ww_istore (fun y2 => [(4, .int (y2)), (3, .int (nI n)), (0, .ref (gA G 2 (0))), (1, .ref (gA G 17 (p))), (2, .int (nI g))]) C dX4_measure_39 (by decide) (fun _ => rfl) (fun y2 ey2 => ?_)
      obtain rfl : y2 = nI 1 := (ey2.trans (by decide))
      exact ww_sub [0, 1, 2, 3, 4] rfl (lp_X4_measure_s hA C σ p n hp hs hn g hg (n + 1) 1 _ (by omega) (by omega) (by omega) (by rw [hσ1, ht, sgr_upd, show i = n by omega, m0_e]; rfl))
    · have g14 : ¬ n ≤ i := fun q => h14 ((cv_le (a := n) (b := i) rfl rfl (by omega) (by omega)).mpr q)
      refine ww_aload_n C dX4_measure_17 rfl 2 rfl ?_
      refine ww_gr (j := 0) (k := 2) (f := 0) C rfl rfl (by decide) rfl in_X4_measure_X4 (by decide) lk_X4_measure_9 dX4_measure_18 rfl ?_
      refine ww_iload C dX4_measure_21 0 rfl ?_
      refine ww_iconst (v := -1) C dX4_measure_23 rfl ?_
      refine ww_iast (k := 3) (j := i) C rfl (by decide) (by decide) dX4_measure_24 rfl (by omega) ?_
      obtain ⟨σ3, hσ3⟩ : ∃ z : Sg, z = (sgu τ 3 (0) (i) (-1)) := ⟨_, rfl⟩
      rw [← hσ3]
      refine ww_iinc (q := 0) (fun y4 => [(4, .int (y4)), (3, .int (nI n)), (0, .ref (gA G 2 (0))), (1, .ref (gA G 17 (p))), (2, .int (nI g))]) C dX4_measure_25 rfl (by decide) (fun _ => rfl) (fun y4 ey4 => ?_)
      obtain rfl : y4 = nI (i + 1) := ninc rfl ey4
      refine ww_goto 11 C dX4_measure_28 (by decide) ?_
      exact ww_sub [0, 1, 2, 3, 4] rfl (ih (i + 1) _ (by omega) (by omega) (by rw [hσ3, ht, sgr_upd, m0_s]))
set_option maxHeartbeats 4000000 in
set_option maxRecDepth 100000 in
theorem c_X4_measure (l : Launch) (G : Gx) (hA : wa G) (σ : Sg) (p n : Nat) (hp : p < 8) (hs : σ 14 (p + 1) 2 = nI n) (hn : n ≤ 14) (g : Nat) (hg : g < n) : CtV l yX4_measure wsX4_measure (rmd 2) G [.ref (gA G 2 (0)), .ref (gA G 17 (p)), .int (nI g)] σ (fun σ2 => σ2 = sgr σ 3 0 (mOut n (fun a b => σ 19 (14 * p + a) b) (mD0 n g (σ 3 0)) (n - 1))) := by
  refine ct_v (maxL := 6) (ret := none) (by decide) rfl (Nat.le_of_ble_eq_true rfl) hA (fun K hl C => ?_)
  subst hl
  change WW K G _ _ σ [(0, .ref (gA G 2 (0))), (1, .ref (gA G 17 (p))), (2, .int (nI g))] 0 []
  refine ww_aload_n C dX4_measure_0 rfl 1 rfl ?_
  refine ww_gr (j := p + 1) (k := 17) (f := 0) C rfl rfl hp rfl in_X4_measure_X3 (by decide) lk_X4_measure_15 dX4_measure_1 rfl ?_
  refine ww_gi (k := 14) (f := 2) C rfl rfl (Nat.add_lt_add_right hp 1) rfl in_X4_measure_X1 (by decide) lk_X4_measure_21 dX4_measure_4 ?_
  refine ww_istore_n (fun y1 => [(3, .int (y1)), (0, .ref (gA G 2 (0))), (1, .ref (gA G 17 (p))), (2, .int (nI g))]) C dX4_measure_7 rfl (by decide) (fun _ => rfl) (fun y1 ey1 => ?_)
  obtain rfl : y1 = nI n := (ey1.trans hs)
  refine ww_iconst (v := 0) C dX4_measure_8 rfl ?_
  refine ww_istore (fun y2 => [(4, .int (y2)), (3, .int (nI n)), (0, .ref (gA G 2 (0))), (1, .ref (gA G 17 (p))), (2, .int (nI g))]) C dX4_measure_9 (by decide) (fun _ => rfl) (fun y2 ey2 => ?_)
  obtain rfl : y2 = nI 0 := (ey2.trans (by decide))
  exact ww_sub [0, 1, 2, 3, 4] rfl (lp_X4_measure_0 hA C σ p n hp hs hn g hg (n + 1) 0 σ (by omega) (by omega) (by rw [show (fun f => if f < 0 then (-1 : Int32) else σ 3 0 f) = σ 3 0 from rfl, sgr_id]))
theorem dec9 {a : Int32} {c : Nat} : a - nI (c + 1) + Int32.ofInt (-1) = a - nI (c + 1 + 1) := by
  rw [nI_succ (c + 1)]
  have h : Int32.ofInt (-1) = -1 := by decide
  rw [h]
  grind
theorem dec8 {a : Int32} {c : Nat} : a - nI (c + 1) - 1 = a - nI (c + 1 + 1) := by
  rw [nI_succ (c + 1)]
  grind
theorem lt9 {df kk c : Nat} (h1 : df < 2 ^ 30) (h2 : kk < 2 ^ 30) (h3 : c + 1 < 2 ^ 30) : nI df - nI (c + 1) < nI df - nI kk ↔ kk ≤ c := by
  rw [Int32.lt_iff_toInt_lt, pk_sub_toInt h1 h3, pk_sub_toInt h1 h2]
  omega
theorem walkC_s {n : Nat} {S : Nat → Nat → Int32} {D : Nat → Int32} {c h j : Nat} {left : Int32} (hq : fndN (lnP (S h) D left) 0 n = some j) : walkC n S D (c + 1) h left = walkC n S D c j (left - 1) := by rw [walkC, hq]
theorem walkC_n {n : Nat} {S : Nat → Nat → Int32} {D : Nat → Int32} {c h : Nat} {left : Int32} (hq : fndN (lnP (S h) D left) 0 n = none) : walkC n S D (c + 1) h left = -1 := by rw [walkC, hq]
theorem optI_s {a : Option Nat} {x : Int32} (e : x = optI a) (h : ¬ x = -1) : ∃ j, a = some j ∧ x = nI j := by
  cases a with
  | none => exact absurd e h
  | some j => exact ⟨j, rfl, e⟩
theorem ww_q2 {K : Kx} {G : Gx} {nL : Nat} {post post' : Int32 → Sg → Prop} {σ : Sg} {L : List (Nat × Value)} {pc : Nat} {st : List Value} (h : ∀ r σ', post r σ' → post' r σ') (k : WW K G nL (QI K G post) σ L pc st) : WW K G nL (QI K G post') σ L pc st := fun ls H locs h1 h2 h3 T hT X => by
  obtain ⟨t, a, o, b1, b2, ⟨⟨r, u, c1, c2, c3⟩, c4⟩, c5⟩ := k ls H locs h1 h2 h3 T hT X
  exact ⟨t, a, o, b1, b2, ⟨⟨r, u, c1, h r u c2, c3⟩, c4⟩, c5⟩
set_option maxHeartbeats 4000000 in
set_option maxRecDepth 100000 in
theorem lp_X4_cornerAfter {K : Kx} {G : Gx} (hA : wa G) (C : CX K G cX4_cornerAfter 7 RX4 wsX4_cornerAfter (rmd 2) (some .int)) (σ : Sg) (p n : Nat) (hp : p < 8) (hs : σ 14 (p + 1) 2 = nI n) (hn : n ≤ 14) (fr df : Nat) (hfr : fr < n) (hd : σ 3 0 fr = nI df) (hdf : df ≤ 14) (kk : Nat) (hk : kk ≤ df) : ∀ (f c : Nat) (h : Nat), kk - c < f → c ≤ kk → h < n → walkC n (fun a b => σ 19 (14 * p + a) b) (σ 3 0) (kk - c) (h) (nI df - nI (c + 1)) = walkC n (fun a b => σ 19 (14 * p + a) b) (σ 3 0) (kk) (fr) (nI df - 1) → WW K G 7 (QI K G (fun r σ2 => r = walkC n (fun a b => σ 19 (14 * p + a) b) (σ 3 0) (kk) (fr) (nI df - 1) ∧ σ2 = σ)) σ [(5, .int (nI df - nI (c + 1))), (4, .int (nI h)), (0, .ref (gA G 2 (0))), (1, .ref (gA G 17 (p))), (2, .int (nI fr)), (3, .int (nI kk))] 29 [] := by
  intro f
  induction f with
  | zero => intro c h h; exact absurd h (Nat.not_lt_zero _)
  | succ f ih =>
    intro c h hf hc hh hv
    refine ww_iload C dX4_cornerAfter_29 0 rfl ?_
    refine ww_aload_n C dX4_cornerAfter_31 rfl 2 rfl ?_
    refine ww_gr (j := 0) (k := 2) (f := 0) C rfl rfl (by decide) rfl in_X4_cornerAfter_X4 (by decide) lk_X4_cornerAfter_9 dX4_cornerAfter_32 rfl ?_
    refine ww_iload_n C dX4_cornerAfter_35 rfl 4 rfl ?_
    refine ww_iald (k := 3) (j := fr) C rfl (by decide) (by decide) dX4_cornerAfter_36 rfl (by omega) ?_
    refine ww_iload_n C dX4_cornerAfter_37 rfl 5 rfl ?_
    refine ww_isub C dX4_cornerAfter_38 ?_
    refine ww_icmp_lt 71 C dX4_cornerAfter_39 (by decide) (fun h39 => ?_) (fun h39 => ?_)
    · rw [hd] at h39
      have hck : kk ≤ c := (lt9 (by omega) (by omega) (by omega)).mp h39
      refine ww_iload C dX4_cornerAfter_71 1 rfl ?_
      refine ww_iret C dX4_cornerAfter_73 ?_
      exact ⟨by rw [← hv, show kk - c = 0 by omega]; rfl, rfl⟩
    · rw [hd] at h39
      have hck : c < kk := Nat.not_le.mp (fun q => h39 ((lt9 (by omega) (by omega) (by omega)).mpr q))
      refine ww_aload_n C dX4_cornerAfter_42 rfl 2 rfl ?_
      refine ww_aload_n C dX4_cornerAfter_43 rfl 3 rfl ?_
      refine ww_iload C dX4_cornerAfter_44 1 rfl ?_
      refine ww_iload C dX4_cornerAfter_46 0 rfl ?_
      refine ww_calliF (cx_V (n := 3) (As := [.ref (gA G 17 (p)), .int (nI h), .int (nI df - nI (c + 1))]) C  (c_X4_leastNext (kL K) G hA _ p n hp hs hn h (by omega) _) gX4_cornerAfter_X4_leastNext rfl ⟨rfl, rfl⟩ (by decide +kernel) (by decide) rfl (by decide) rfl rfl rfl (Nat.le_of_ble_eq_true rfl) dX4_cornerAfter_48) ?_
      refine ww_istore (fun nx => [(6, .int (nx)), (5, .int (nI df - nI (c + 1))), (4, .int (nI h)), (0, .ref (gA G 2 (0))), (1, .ref (gA G 17 (p))), (2, .int (nI fr)), (3, .int (nI kk))]) C dX4_cornerAfter_51 (by decide) (fun _ => rfl) (fun nx enx => ?_)
      refine ww_iload C dX4_cornerAfter_53 0 rfl ?_
      refine ww_iconst (v := -1) C dX4_cornerAfter_55 rfl ?_
      refine ww_icmp_ne 61 C dX4_cornerAfter_56 (by decide) (fun h56 => ?_) (fun h56 => ?_)
      · obtain ⟨j, hjq, rfl⟩ := optI_s enx h56
        have hjn : j < n := fnd_lt hjq
        refine ww_iload C dX4_cornerAfter_61 0 rfl ?_
        refine ww_istore (fun y1 => [(4, .int (y1)), (6, .int (nI j)), (5, .int (nI df - nI (c + 1))), (0, .ref (gA G 2 (0))), (1, .ref (gA G 17 (p))), (2, .int (nI fr)), (3, .int (nI kk))]) C dX4_cornerAfter_63 (by decide) (fun _ => rfl) (fun y1 ey1 => ?_)
        obtain rfl : y1 = nI j := ey1
        refine ww_iinc (q := 2) (fun y2 => [(5, .int (y2)), (4, .int (nI j)), (6, .int (nI j)), (0, .ref (gA G 2 (0))), (1, .ref (gA G 17 (p))), (2, .int (nI fr)), (3, .int (nI kk))]) C dX4_cornerAfter_65 rfl (by decide) (fun _ => rfl) (fun y2 ey2 => ?_)
        refine ww_goto 29 C dX4_cornerAfter_68 (by decide) ?_
        have e5 : y2 = nI df - nI (c + 1 + 1) := ey2.trans dec9
        subst e5
        exact ww_sub [0, 1, 3, 4, 5, 6] rfl (ih (c + 1) j (by omega) (by omega) hjn (by rw [← hv, show kk - c = (kk - (c + 1)) + 1 by omega, walkC_s (S := (fun a b => σ 19 (14 * p + a) b)) (h := h) hjq, dec8]))
      · refine ww_iconst (v := -1) C dX4_cornerAfter_59 rfl ?_
        refine ww_iret C dX4_cornerAfter_60 ?_
        exact ⟨by rw [← hv, show kk - c = (kk - (c + 1)) + 1 by omega, walkC_n (S := (fun a b => σ 19 (14 * p + a) b)) (h := h) (optI_m rfl (enx ▸ h56) (by omega))], rfl⟩
set_option maxHeartbeats 4000000 in
set_option maxRecDepth 100000 in
theorem c_X4_cornerAfter (l : Launch) (G : Gx) (hA : wa G) (σ : Sg) (p n : Nat) (hp : p < 8) (hs : σ 14 (p + 1) 2 = nI n) (hn : n ≤ 14) (fr df : Nat) (hfr : fr < n) (hd : σ 3 0 fr = nI df) (hdf : df ≤ 14) (x : Int32) : CtI l yX4_cornerAfter wsX4_cornerAfter (rmd 2) G [.ref (gA G 2 (0)), .ref (gA G 17 (p)), .int (nI fr), .int (x)] σ (fun r σ2 => r = caR n (fun a b => σ 19 (14 * p + a) b) (σ 3 0) fr x ∧ σ2 = σ) := by
  refine ct_i (maxL := 7) (ret := (some .int)) (by decide) rfl (Nat.le_of_ble_eq_true rfl) hA (fun K hl C => ?_)
  subst hl
  change WW K G _ _ σ [(0, .ref (gA G 2 (0))), (1, .ref (gA G 17 (p))), (2, .int (nI fr)), (3, .int (x))] 0 []
  refine ww_iload_n C dX4_cornerAfter_0 rfl 3 rfl ?_
  refine ww_if_lt 14 C dX4_cornerAfter_1 (by decide) (fun h1 => ?_) (fun h1 => ?_)
  · refine ww_iconst (v := -1) C dX4_cornerAfter_14 rfl ?_
    refine ww_iret C dX4_cornerAfter_15 ?_
    exact ⟨by rw [caR, if_neg (fun q => absurd h1 (Int32.not_lt.mpr q.1))], rfl⟩
  · refine ww_iload_n C dX4_cornerAfter_4 rfl 3 rfl ?_
    refine ww_aload_n C dX4_cornerAfter_5 rfl 0 rfl ?_
    refine ww_gr (j := 0) (k := 2) (f := 0) C rfl rfl (by decide) rfl in_X4_cornerAfter_X4 (by decide) lk_X4_cornerAfter_9 dX4_cornerAfter_6 rfl ?_
    refine ww_iload_n C dX4_cornerAfter_9 rfl 2 rfl ?_
    refine ww_iald (k := 3) (j := fr) C rfl (by decide) (by decide) dX4_cornerAfter_10 rfl (by omega) ?_
    refine ww_icmp_le 16 C dX4_cornerAfter_11 (by decide) (fun h11 => ?_) (fun h11 => ?_)
    · obtain ⟨kk, hkk, rfl⟩ : ∃ j, j ≤ df ∧ x = nI j := by
        obtain ⟨j, hj, e⟩ := nI_of h1
        subst e
        rw [hd] at h11
        exact ⟨j, (nI_leI (by omega) (by omega)).mp h11, rfl⟩
      refine ww_iload_n C dX4_cornerAfter_16 rfl 2 rfl ?_
      refine ww_istore (fun y1 => [(4, .int (y1)), (0, .ref (gA G 2 (0))), (1, .ref (gA G 17 (p))), (2, .int (nI fr)), (3, .int (nI kk))]) C dX4_cornerAfter_17 (by decide) (fun _ => rfl) (fun y1 ey1 => ?_)
      obtain rfl : y1 = nI fr := ey1
      refine ww_aload_n C dX4_cornerAfter_19 rfl 1 rfl ?_
      refine ww_gr (j := 0) (k := 2) (f := 0) C rfl rfl (by decide) rfl in_X4_cornerAfter_X4 (by decide) lk_X4_cornerAfter_9 dX4_cornerAfter_20 rfl ?_
      refine ww_iload_n C dX4_cornerAfter_23 rfl 3 rfl ?_
      refine ww_iald (k := 3) (j := fr) C rfl (by decide) (by decide) dX4_cornerAfter_24 rfl (by omega) ?_
      refine ww_iconst (v := 1) C dX4_cornerAfter_25 rfl ?_
      refine ww_isub C dX4_cornerAfter_26 ?_
      refine ww_istore (fun y2 => [(5, .int (y2)), (4, .int (nI fr)), (0, .ref (gA G 2 (0))), (1, .ref (gA G 17 (p))), (2, .int (nI fr)), (3, .int (nI kk))]) C dX4_cornerAfter_27 (by decide) (fun _ => rfl) (fun y2 ey2 => ?_)
      rw [ey2]; clear ey2 y2
      exact ww_sub [0, 1, 2, 3, 4, 5] rfl (by rw [hd]; exact ww_q2 (fun r σ2 q => ⟨q.1.trans (by rw [caR, if_pos ⟨nI_pos' (by omega), by rw [hd]; exact nI_le hkk (by omega)⟩, nI_clamp (by omega), hd]), q.2⟩) (lp_X4_cornerAfter hA C σ p n hp hs hn fr df hfr hd hdf kk hkk (kk + 1) 0 fr (by omega) (by omega) hfr rfl))
    · refine ww_iconst (v := -1) C dX4_cornerAfter_14 rfl ?_
      refine ww_iret C dX4_cornerAfter_15 ?_
      exact ⟨by rw [caR, if_neg (fun q => h11 q.2)], rfl⟩
set_option maxHeartbeats 4000000 in
set_option maxRecDepth 100000 in
theorem c_X4_cornerAfter_m (l : Launch) (G : Gx) (hA : wa G) (σ : Sg) (p n : Nat) (hp : p < 8) (hs : σ 14 (p + 1) 2 = nI n) (hn : n ≤ 14) (fr : Nat) (hfr : fr < n) (hd : σ 3 0 fr = -1) (x : Int32) : CtI l yX4_cornerAfter wsX4_cornerAfter (rmd 2) G [.ref (gA G 2 (0)), .ref (gA G 17 (p)), .int (nI fr), .int (x)] σ (fun r σ2 => r = caR n (fun a b => σ 19 (14 * p + a) b) (σ 3 0) fr x ∧ σ2 = σ) := by
  refine ct_i (maxL := 7) (ret := (some .int)) (by decide) rfl (Nat.le_of_ble_eq_true rfl) hA (fun K hl C => ?_)
  subst hl
  change WW K G _ _ σ [(0, .ref (gA G 2 (0))), (1, .ref (gA G 17 (p))), (2, .int (nI fr)), (3, .int (x))] 0 []
  refine ww_iload_n C dX4_cornerAfter_0 rfl 3 rfl ?_
  refine ww_if_lt 14 C dX4_cornerAfter_1 (by decide) (fun h1 => ?_) (fun h1 => ?_)
  · refine ww_iconst (v := -1) C dX4_cornerAfter_14 rfl ?_
    refine ww_iret C dX4_cornerAfter_15 ?_
    exact ⟨by rw [caR, if_neg (fun q => absurd h1 (Int32.not_lt.mpr q.1))], rfl⟩
  · refine ww_iload_n C dX4_cornerAfter_4 rfl 3 rfl ?_
    refine ww_aload_n C dX4_cornerAfter_5 rfl 0 rfl ?_
    refine ww_gr (j := 0) (k := 2) (f := 0) C rfl rfl (by decide) rfl in_X4_cornerAfter_X4 (by decide) lk_X4_cornerAfter_9 dX4_cornerAfter_6 rfl ?_
    refine ww_iload_n C dX4_cornerAfter_9 rfl 2 rfl ?_
    refine ww_iald (k := 3) (j := fr) C rfl (by decide) (by decide) dX4_cornerAfter_10 rfl (by omega) ?_
    refine ww_icmp_le 16 C dX4_cornerAfter_11 (by decide) (fun h11 => ?_) (fun h11 => ?_)
    · exact absurd (by rw [hd] at h11; exact h11) (Int32.not_le.mpr (Int32.lt_of_lt_of_le (show (-1 : Int32) < 0 by decide) (Int32.not_lt.mp h1)))
    · refine ww_iconst (v := -1) C dX4_cornerAfter_14 rfl ?_
      refine ww_iret C dX4_cornerAfter_15 ?_
      exact ⟨by rw [caR, if_neg (fun q => h11 q.2)], rfl⟩
def okD (n : Nat) (D : Nat → Int32) (k : Nat) : Prop := ∀ a, a < n → D a = -1 ∨ ∃ d, d ≤ k ∧ D a = nI d
theorem okD_up {n k : Nat} {D : Nat → Int32} (h : okD n D k) : okD n D (k + 1) := fun a ha => (h a ha).elim Or.inl (fun ⟨d, h1, h2⟩ => Or.inr ⟨d, by omega, h2⟩)
theorem okD_in {n k : Nat} {S : Nat → Nat → Int32} {D : Nat → Int32} (h : okD n D k) : ∀ i, okD n (mIn n S (nI (k + 1)) D i) (k + 1)
  | 0 => okD_up h
  | i + 1 => by
    have hi := okD_in (S := S) h i
    rw [mIn]
    split
    · intro a ha
      by_cases e : a = i
      · exact Or.inr ⟨k + 1, Nat.le_refl _, by rw [e]; exact if_pos rfl⟩
      · rw [show upd (mIn n S (nI (k + 1)) D i) i (nI (k + 1)) a = mIn n S (nI (k + 1)) D i a from if_neg e]
        exact hi a ha
    · exact hi
theorem okD_out {n : Nat} {S : Nat → Nat → Int32} {D : Nat → Int32} (h : okD n D 0) : ∀ k, okD n (mOut n S D k) k
  | 0 => h
  | k + 1 => okD_in (okD_out h k) n
theorem okD_0 {n g : Nat} {D : Nat → Int32} : okD n (mD0 n g D) 0 := fun a ha => by
  by_cases e : a = g
  · exact Or.inr ⟨0, Nat.le_refl 0, if_pos e⟩
  · exact Or.inl (by rw [mD0, if_neg e, if_pos ha])
set_option maxHeartbeats 4000000 in
set_option maxRecDepth 100000 in
theorem c_X5_way_s (l : Launch) (G : Gx) (hA : wa G) (σ : Sg) (cnt p n : Nat) (hc : σ 0 0 5 = nI cnt) (hc8 : cnt ≤ 8) (hpc : p < cnt) (hp : p < 8) (hs : σ 14 (p + 1) 2 = nI n) (hn : n ≤ 14) (c d : Int32) : CtI l yX5_way wsX5_way (rmd 3) G [.ref (gA G 0 (0)), .int (nI p), .int (c), .int (d)] σ (fun r σ2 => r = pairR n c d (fun a b => (mOut n (fun a b => σ 19 (14 * p + a) b) (mD0 n b (σ 3 0)) (n - 1)) a) ∧ ∀ k, k ≠ 3 → σ2 k = σ k) := by
  refine ct_i (maxL := 5) (ret := (some .int)) (by decide) rfl (Nat.le_of_ble_eq_true rfl) hA (fun K hl C => ?_)
  subst hl
  change WW K G _ _ σ [(0, .ref (gA G 0 (0))), (1, .int (nI p)), (2, .int (c)), (3, .int (d))] 0 []
  refine ww_aload_n C dX5_way_0 rfl 0 rfl ?_
  refine ww_iload_n C dX5_way_1 rfl 1 rfl ?_
  refine ww_callqR (cx_V (n := 1) (As := [.int (nI p)]) C  (c_X5_shapeOf_s (kL K) G hA _ cnt p hc hc8 hpc) gX5_way_X5_shapeOf rfl ⟨rfl, rfl⟩ (by decide +kernel) (by decide) rfl (by decide) rfl rfl rfl (Nat.le_of_ble_eq_true rfl) dX5_way_2) ?_
  refine ww_astore [(4, .ref (gA G 17 (p))), (0, .ref (gA G 0 (0))), (1, .int (nI p)), (2, .int (c)), (3, .int (d))] C dX5_way_5 (by decide) rfl ?_
  refine ww_aload C dX5_way_7 0 rfl ?_
  refine ww_ifnull C dX5_way_9 ?_
  refine ww_aload C dX5_way_12 0 rfl ?_
  refine ww_gr (j := p + 1) (k := 17) (f := 0) C rfl rfl hp rfl in_X5_way_X3 (by decide) lk_X5_way_93 dX5_way_14 rfl ?_
  refine ww_iload_n C dX5_way_17 rfl 3 rfl ?_
  refine ww_calliF (cx_V (n := 1) (As := [.int (c)]) C  (c_X1_has (kL K) G hA _ (p + 1) n (Nat.add_lt_add_right hp 1) hs hn _) gX5_way_X1_has rfl ⟨rfl, rfl⟩ (by decide +kernel) (by decide) rfl (Nat.add_lt_add_right hp 1) rfl rfl rfl (Nat.le_of_ble_eq_true rfl) dX5_way_18) ?_
  refine ww_if_eq 36 C dX5_way_21 (by decide) (fun h21 => ?_) (fun h21 => ?_)
  · refine ww_bipush (v := -2) C dX5_way_36 (by decide) ?_
    refine ww_iret C dX5_way_38 ?_
    exact ⟨by rw [pair_f1 h21], fun _ _ => rfl⟩
  · obtain ⟨i, hi, rfl⟩ := ix_of (of_decide_eq_true (bI_1.mp h21)) hn
    refine ww_aload C dX5_way_24 0 rfl ?_
    refine ww_gr (j := p + 1) (k := 17) (f := 0) C rfl rfl hp rfl in_X5_way_X3 (by decide) lk_X5_way_93 dX5_way_26 rfl ?_
    refine ww_iload_n C dX5_way_29 rfl 4 rfl ?_
    refine ww_calliF (cx_V (n := 1) (As := [.int (d)]) C  (c_X1_has (kL K) G hA _ (p + 1) n (Nat.add_lt_add_right hp 1) hs hn _) gX5_way_X1_has rfl ⟨rfl, rfl⟩ (by decide +kernel) (by decide) rfl (Nat.add_lt_add_right hp 1) rfl rfl rfl (Nat.le_of_ble_eq_true rfl) dX5_way_30) ?_
    refine ww_if_ne 39 C dX5_way_33 (by decide) (fun h33 => ?_) (fun h33 => ?_)
    · obtain ⟨j, hj, rfl⟩ := ix_of (of_decide_eq_true (bI_1.mp h33)) hn
      refine ww_aload_n C dX5_way_39 rfl 1 rfl ?_
      refine ww_gr (j := 0) (k := 0) (f := 3) C rfl rfl (by decide) rfl in_X5_way_X5 (by decide) lk_X5_way_33 dX5_way_40 rfl ?_
      refine ww_aload C dX5_way_43 0 rfl ?_
      refine ww_iload_n C dX5_way_45 rfl 4 rfl ?_
      refine ww_callvF (cx_V (n := 2) (As := [.ref (gA G 17 (p)), .int (nI j)]) C  (c_X4_measure (kL K) G hA _ p n hp hs hn j (by omega)) gX5_way_X4_measure rfl ⟨rfl, rfl⟩ (by decide +kernel) (by decide) rfl (by decide) rfl rfl rfl (Nat.le_of_ble_eq_true rfl) dX5_way_46) ?_
      obtain ⟨σ1, hσ1⟩ : ∃ z : Sg, z = (sgr σ 3 0 (mOut n (fun a b => σ 19 (14 * p + a) b) (mD0 n j (σ 3 0)) (n - 1))) := ⟨_, rfl⟩
      rw [← hσ1]
      refine ww_aload_n C dX5_way_49 rfl 1 rfl ?_
      refine ww_gr (j := 0) (k := 0) (f := 3) C rfl rfl (by decide) rfl in_X5_way_X5 (by decide) lk_X5_way_33 dX5_way_50 rfl ?_
      refine ww_gr (j := 0) (k := 2) (f := 0) C rfl rfl (by decide) rfl in_X5_way_X4 (by decide) lk_X5_way_142 dX5_way_53 rfl ?_
      refine ww_iload_n C dX5_way_56 rfl 3 rfl ?_
      refine ww_iald (k := 3) (j := i) C rfl (by decide) (by decide) dX5_way_57 rfl (by omega) ?_
      refine ww_iret C dX5_way_58 ?_
      exact ⟨by rw [pair_t hi hj hn, hσ1, sgr_self], fun k hk => by rw [hσ1, sgr_kk hk]⟩
    · refine ww_bipush (v := -2) C dX5_way_36 (by decide) ?_
      refine ww_iret C dX5_way_38 ?_
      exact ⟨by rw [pair_f2 hi hn h33], fun _ _ => rfl⟩
set_option maxHeartbeats 4000000 in
set_option maxRecDepth 100000 in
theorem c_X5_way_n (l : Launch) (G : Gx) (hA : wa G) (σ : Sg) (cnt : Nat) (hc : σ 0 0 5 = nI cnt) (hc8 : cnt ≤ 8) (x : Int32) (hu : ¬ (0 ≤ x ∧ x < nI cnt)) (c d : Int32) : CtI l yX5_way wsX5_way (rmd 3) G [.ref (gA G 0 (0)), .int (x), .int (c), .int (d)] σ (fun r σ2 => r = -2 ∧ ∀ k, k ≠ 3 → σ2 k = σ k) := by
  refine ct_i (maxL := 5) (ret := (some .int)) (by decide) rfl (Nat.le_of_ble_eq_true rfl) hA (fun K hl C => ?_)
  subst hl
  change WW K G _ _ σ [(0, .ref (gA G 0 (0))), (1, .int (x)), (2, .int (c)), (3, .int (d))] 0 []
  refine ww_aload_n C dX5_way_0 rfl 0 rfl ?_
  refine ww_iload_n C dX5_way_1 rfl 1 rfl ?_
  refine ww_callqN (cx_V (n := 1) (As := [.int (x)]) C  (c_X5_shapeOf_n (kL K) G hA _ cnt hc hc8 x hu) gX5_way_X5_shapeOf rfl ⟨rfl, rfl⟩ (by decide +kernel) (by decide) rfl (by decide) rfl rfl rfl (Nat.le_of_ble_eq_true rfl) dX5_way_2) ?_
  refine ww_astoreN [(4, .null), (0, .ref (gA G 0 (0))), (1, .int (x)), (2, .int (c)), (3, .int (d))] C dX5_way_5 (by decide) rfl ?_
  refine ww_aloadN C dX5_way_7 0 rfl ?_
  refine ww_ifnullN 36 C dX5_way_9 (by decide) ?_
  refine ww_bipush (v := -2) C dX5_way_36 (by decide) ?_
  refine ww_iret C dX5_way_38 ?_
  exact ⟨rfl, fun _ _ => rfl⟩
theorem c_ca (l : Launch) (G : Gx) (hA : wa G) (σ : Sg) (p n : Nat) (hp : p < 8) (hs : σ 14 (p + 1) 2 = nI n) (hn : n ≤ 14) (fr : Nat) (hfr : fr < n) (hok : okD n (σ 3 0) (n - 1)) (x : Int32) : CtI l yX4_cornerAfter wsX4_cornerAfter (rmd 2) G [.ref (gA G 2 0), .ref (gA G 17 p), .int (nI fr), .int x] σ (fun r σ2 => r = caR n (fun a b => σ 19 (14 * p + a) b) (σ 3 0) fr x ∧ σ2 = σ) := by
  rcases hok fr hfr with h | ⟨d, h1, h2⟩
  · exact c_X4_cornerAfter_m l G hA σ p n hp hs hn fr hfr h x
  · exact c_X4_cornerAfter l G hA σ p n hp hs hn fr d hfr h2 (by omega) x
set_option maxHeartbeats 4000000 in
set_option maxRecDepth 100000 in
theorem c_X5_step_s (l : Launch) (G : Gx) (hA : wa G) (σ : Sg) (cnt p n : Nat) (hc : σ 0 0 5 = nI cnt) (hc8 : cnt ≤ 8) (hpc : p < cnt) (hp : p < 8) (hs : σ 14 (p + 1) 2 = nI n) (hn : n ≤ 14) (c d x : Int32) : CtI l yX5_step wsX5_step (rmd 3) G [.ref (gA G 0 (0)), .int (nI p), .int (c), .int (d), .int (x)] σ (fun r σ2 => r = pairR n c d (fun a b => caR n (fun a b => σ 19 (14 * p + a) b) (mOut n (fun a b => σ 19 (14 * p + a) b) (mD0 n b (σ 3 0)) (n - 1)) a x) ∧ ∀ k, k ≠ 3 → σ2 k = σ k) := by
  refine ct_i (maxL := 6) (ret := (some .int)) (by decide) rfl (Nat.le_of_ble_eq_true rfl) hA (fun K hl C => ?_)
  subst hl
  change WW K G _ _ σ [(0, .ref (gA G 0 (0))), (1, .int (nI p)), (2, .int (c)), (3, .int (d)), (4, .int (x))] 0 []
  refine ww_aload_n C dX5_step_0 rfl 0 rfl ?_
  refine ww_iload_n C dX5_step_1 rfl 1 rfl ?_
  refine ww_callqR (cx_V (n := 1) (As := [.int (nI p)]) C  (c_X5_shapeOf_s (kL K) G hA _ cnt p hc hc8 hpc) gX5_step_X5_shapeOf rfl ⟨rfl, rfl⟩ (by decide +kernel) (by decide) rfl (by decide) rfl rfl rfl (Nat.le_of_ble_eq_true rfl) dX5_step_2) ?_
  refine ww_astore [(5, .ref (gA G 17 (p))), (0, .ref (gA G 0 (0))), (1, .int (nI p)), (2, .int (c)), (3, .int (d)), (4, .int (x))] C dX5_step_5 (by decide) rfl ?_
  refine ww_aload C dX5_step_7 0 rfl ?_
  refine ww_ifnull C dX5_step_9 ?_
  refine ww_aload C dX5_step_12 0 rfl ?_
  refine ww_gr (j := p + 1) (k := 17) (f := 0) C rfl rfl hp rfl in_X5_step_X3 (by decide) lk_X5_step_93 dX5_step_14 rfl ?_
  refine ww_iload_n C dX5_step_17 rfl 3 rfl ?_
  refine ww_calliF (cx_V (n := 1) (As := [.int (c)]) C  (c_X1_has (kL K) G hA _ (p + 1) n (Nat.add_lt_add_right hp 1) hs hn _) gX5_step_X1_has rfl ⟨rfl, rfl⟩ (by decide +kernel) (by decide) rfl (Nat.add_lt_add_right hp 1) rfl rfl rfl (Nat.le_of_ble_eq_true rfl) dX5_step_18) ?_
  refine ww_if_eq 36 C dX5_step_21 (by decide) (fun h21 => ?_) (fun h21 => ?_)
  · refine ww_bipush (v := -2) C dX5_step_36 (by decide) ?_
    refine ww_iret C dX5_step_38 ?_
    exact ⟨by rw [pair_f1 h21], fun _ _ => rfl⟩
  · obtain ⟨i, hi, rfl⟩ := ix_of (of_decide_eq_true (bI_1.mp h21)) hn
    refine ww_aload C dX5_step_24 0 rfl ?_
    refine ww_gr (j := p + 1) (k := 17) (f := 0) C rfl rfl hp rfl in_X5_step_X3 (by decide) lk_X5_step_93 dX5_step_26 rfl ?_
    refine ww_iload_n C dX5_step_29 rfl 4 rfl ?_
    refine ww_calliF (cx_V (n := 1) (As := [.int (d)]) C  (c_X1_has (kL K) G hA _ (p + 1) n (Nat.add_lt_add_right hp 1) hs hn _) gX5_step_X1_has rfl ⟨rfl, rfl⟩ (by decide +kernel) (by decide) rfl (Nat.add_lt_add_right hp 1) rfl rfl rfl (Nat.le_of_ble_eq_true rfl) dX5_step_30) ?_
    refine ww_if_ne 39 C dX5_step_33 (by decide) (fun h33 => ?_) (fun h33 => ?_)
    · obtain ⟨j, hj, rfl⟩ := ix_of (of_decide_eq_true (bI_1.mp h33)) hn
      refine ww_aload_n C dX5_step_39 rfl 1 rfl ?_
      refine ww_gr (j := 0) (k := 0) (f := 3) C rfl rfl (by decide) rfl in_X5_step_X5 (by decide) lk_X5_step_33 dX5_step_40 rfl ?_
      refine ww_aload C dX5_step_43 0 rfl ?_
      refine ww_iload_n C dX5_step_45 rfl 4 rfl ?_
      refine ww_callvF (cx_V (n := 2) (As := [.ref (gA G 17 (p)), .int (nI j)]) C  (c_X4_measure (kL K) G hA _ p n hp hs hn j (by omega)) gX5_step_X4_measure rfl ⟨rfl, rfl⟩ (by decide +kernel) (by decide) rfl (by decide) rfl rfl rfl (Nat.le_of_ble_eq_true rfl) dX5_step_46) ?_
      obtain ⟨σ1, hσ1⟩ : ∃ z : Sg, z = (sgr σ 3 0 (mOut n (fun a b => σ 19 (14 * p + a) b) (mD0 n j (σ 3 0)) (n - 1))) := ⟨_, rfl⟩
      rw [← hσ1]
      have hs1 : σ1 14 (p + 1) 2 = nI n := by rw [hσ1, sgr_kk (by decide)]; exact hs
      have hok : okD n (σ1 3 0) (n - 1) := by rw [hσ1, sgr_self]; exact okD_out okD_0 (n - 1)
      refine ww_aload_n C dX5_step_49 rfl 1 rfl ?_
      refine ww_gr (j := 0) (k := 0) (f := 3) C rfl rfl (by decide) rfl in_X5_step_X5 (by decide) lk_X5_step_33 dX5_step_50 rfl ?_
      refine ww_aload C dX5_step_53 0 rfl ?_
      refine ww_iload_n C dX5_step_55 rfl 3 rfl ?_
      refine ww_iload C dX5_step_56 5 rfl ?_
      refine ww_calliF (cx_V (n := 3) (As := [.ref (gA G 17 (p)), .int (nI i), .int (x)]) C  (c_ca (kL K) G hA σ1 p n hp hs1 hn i hi hok _) gX5_step_X4_cornerAfter rfl ⟨rfl, rfl⟩ (by decide +kernel) (by decide) rfl (by decide) rfl rfl rfl (Nat.le_of_ble_eq_true rfl) dX5_step_58) ?_
      refine ww_iret C dX5_step_61 ?_
      exact ⟨by rw [pair_t hi hj hn, hσ1, sgr_self, sgr_kk (by decide)], fun k hk => by rw [hσ1, sgr_kk hk]⟩
    · refine ww_bipush (v := -2) C dX5_step_36 (by decide) ?_
      refine ww_iret C dX5_step_38 ?_
      exact ⟨by rw [pair_f2 hi hn h33], fun _ _ => rfl⟩
set_option maxHeartbeats 4000000 in
set_option maxRecDepth 100000 in
theorem c_X5_step_n (l : Launch) (G : Gx) (hA : wa G) (σ : Sg) (cnt : Nat) (hc : σ 0 0 5 = nI cnt) (hc8 : cnt ≤ 8) (x : Int32) (hu : ¬ (0 ≤ x ∧ x < nI cnt)) (c d w : Int32) : CtI l yX5_step wsX5_step (rmd 3) G [.ref (gA G 0 (0)), .int (x), .int (c), .int (d), .int (w)] σ (fun r σ2 => r = -2 ∧ ∀ k, k ≠ 3 → σ2 k = σ k) := by
  refine ct_i (maxL := 6) (ret := (some .int)) (by decide) rfl (Nat.le_of_ble_eq_true rfl) hA (fun K hl C => ?_)
  subst hl
  change WW K G _ _ σ [(0, .ref (gA G 0 (0))), (1, .int (x)), (2, .int (c)), (3, .int (d)), (4, .int (w))] 0 []
  refine ww_aload_n C dX5_step_0 rfl 0 rfl ?_
  refine ww_iload_n C dX5_step_1 rfl 1 rfl ?_
  refine ww_callqN (cx_V (n := 1) (As := [.int (x)]) C  (c_X5_shapeOf_n (kL K) G hA _ cnt hc hc8 x hu) gX5_step_X5_shapeOf rfl ⟨rfl, rfl⟩ (by decide +kernel) (by decide) rfl (by decide) rfl rfl rfl (Nat.le_of_ble_eq_true rfl) dX5_step_2) ?_
  refine ww_astoreN [(5, .null), (0, .ref (gA G 0 (0))), (1, .int (x)), (2, .int (c)), (3, .int (d)), (4, .int (w))] C dX5_step_5 (by decide) rfl ?_
  refine ww_aloadN C dX5_step_7 0 rfl ?_
  refine ww_ifnullN 36 C dX5_step_9 (by decide) ?_
  refine ww_bipush (v := -2) C dX5_step_36 (by decide) ?_
  refine ww_iret C dX5_step_38 ?_
  exact ⟨rfl, fun _ _ => rfl⟩
