theorem lN_z {w : Nat} (h : w < 2 ^ 63) : lN w = 0 ↔ w = 0 := by
  constructor
  · intro q
    rw [← lN_0] at q
    exact (pk_lEQ h (by decide)).mp q
  · intro q
    rw [q, lN_0]
theorem gc_ok : ∀ (k u w d : Nat), u < 2 ^ 63 → w < 2 ^ k → w ≤ u → 2 * k + 1 ≤ d → gcL (lN u) (lN w) d = lN (Nat.gcd u w)
  | 0, u, w, d, hu, hw, hle, hd => by
    have hw0 : w = 0 := by simp at hw; exact hw
    obtain ⟨e, rfl⟩ : ∃ e, d = e + 1 := ⟨d - 1, by omega⟩
    rw [gcL, if_pos ((lN_z (by omega)).mpr hw0), hw0, Nat.gcd_zero_right]
  | k + 1, u, w, d, hu, hw, hle, hd => by
    by_cases h0 : w = 0
    · obtain ⟨e, rfl⟩ : ∃ e, d = e + 1 := ⟨d - 1, by omega⟩
      rw [gcL, if_pos ((lN_z (by omega)).mpr h0), h0, Nat.gcd_zero_right]
    · obtain ⟨e, rfl⟩ : ∃ e, d = e + 1 + 1 := ⟨d - 2, by omega⟩
      have hr := Nat.mod_lt u (show 0 < w by omega)
      rw [gcL, if_neg (fun q => h0 ((lN_z (by omega)).mp q)), lN_rem hu (by omega) (by omega)]
      have hg : Nat.gcd u w = Nat.gcd w (u % w) := by rw [Nat.gcd_comm w, ← Nat.gcd_rec, Nat.gcd_comm]
      rw [hg]
      generalize u % w = r at *
      by_cases h1 : r = 0
      · rw [gcL, if_pos ((lN_z (by omega)).mpr h1), h1, Nat.gcd_zero_right]
      · have hs := Nat.mod_lt w (show 0 < r by omega)
        rw [gcL, if_neg (fun q => h1 ((lN_z (by omega)).mp q)), lN_rem (by omega) (by omega) (by omega)]
        have hg2 : Nat.gcd w r = Nat.gcd r (w % r) := by rw [Nat.gcd_comm r, ← Nat.gcd_rec, Nat.gcd_comm]
        rw [hg2]
        refine gc_ok k r (w % r) e (by omega) ?_ (by omega) (by omega)
        have e1 := Nat.div_add_mod w r
        have e2 : 1 ≤ w / r := (Nat.one_le_div_iff (by omega)).mpr (by omega)
        have e3 : r * 1 ≤ r * (w / r) := Nat.mul_le_mul_left r e2
        have e4 : 2 ^ (k + 1) = 2 * 2 ^ k := by rw [Nat.pow_succ]; omega
        omega
theorem ab_i {a : Int64} (h : nab a < 2 ^ 62) : abL a = lN (nab a) := by
  unfold abL
  by_cases q : 0 < a
  · rw [if_pos q]; exact nab_p (Int64.le_of_lt q)
  · rw [if_neg q]
    by_cases r : 0 ≤ a
    · have e : a = 0 := by
        have h1 := Int64.le_iff_toInt_le.mp r
        have h2 : ¬ (0 : Int64).toInt < a.toInt := fun w => q (Int64.lt_iff_toInt_lt.mpr w)
        apply Int64.toInt_inj.mp
        omega
      rw [e]; decide
    · have := nab_n r h
      rw [← this]
      apply Int64.toInt_inj.mp
      rw [Int64.toInt_neg, Int64.toInt_sub]
      simp
/-- a hundred divisions are enough -/
theorem gcd_i {a b : Int64} (ha : nab a < 2 ^ 62) (hb : nab b < 2 ^ 40) : gcdC a b = lN (Nat.gcd (nab a) (nab b)) := by
  unfold gcdC
  rw [ab_i ha, ab_i (by omega)]
  generalize nab a = u at *
  generalize nab b = w at *
  by_cases h0 : w = 0
  · rw [gcL, if_pos ((lN_z (by omega)).mpr h0), h0, Nat.gcd_zero_right]
  · have hr := Nat.mod_lt u (show 0 < w by omega)
    rw [gcL, if_neg (fun q => h0 ((lN_z (by omega)).mp q)), lN_rem (by omega) (by omega) (by omega)]
    have hg : Nat.gcd u w = Nat.gcd w (u % w) := by rw [Nat.gcd_comm w, ← Nat.gcd_rec, Nat.gcd_comm]
    rw [hg]
    exact gc_ok 40 w (u % w) 99 (by omega) (by omega) (by omega) (by decide)
theorem t64 (a : Int32) : a.toInt64.toInt = a.toInt := Int32.toInt_toInt64 a
theorem nab_d {a b : Int32} (ha : wB 1000 a) (hb : wB 1000 b) : nab (a - b).toInt64 < 2 ^ 40 := by
  unfold nab wB at *
  rw [t64, s32 rfl rfl (by omega) (by omega)]
  omega
/-- points on the edges -/
theorem pts_1 {n : Nat} {x y : Nat → Int32} (h : rowR n x y) {m : Nat} (hm : m < n) : ptsF n x y m = ptsM n x y m := by
  have a := h.2.2 m hm
  have b := h.2.2 (af n m) (af_lt (by omega))
  have d1 := nab_d b.1 a.1
  have d2 := nab_d b.2 a.2
  exact congrArg Int64.toInt32 (gcd_i (Nat.lt_of_lt_of_le d1 (by decide)) d2)
theorem sumN_c {f g : Nat → Int32} : ∀ m, (∀ i, i < m → f i = g i) → sumN f m = sumN g m
  | 0, _ => rfl
  | m + 1, h => by rw [sumN, sumN, sumN_c m (fun i hi => h i (by omega)), h m (by omega)]
theorem pts_eq {n : Nat} {x y : Nat → Int32} (h : rowR n x y) : sumN (ptsF n x y) n = sumN (ptsM n x y) n := sumN_c n (fun _ hi => pts_1 h hi)
theorem nab_neg {a : Int64} (h : nab a < 2 ^ 62) : (0 - a).toInt = - a.toInt ∧ nab (0 - a) = nab a := by
  have e : (0 - a).toInt = - a.toInt := by
    unfold nab at h
    rw [Int64.toInt_sub]
    simp only [Int64.toInt_zero, Int.zero_sub]
    rw [Int.bmod_eq_of_le] <;> omega
  refine ⟨e, ?_⟩
  unfold nab
  rw [e]
  omega
theorem div_neg {a : Int64} {g : Nat} (ha : nab a < 2 ^ 62) (hg : g < 2 ^ 62) : a / (- lN g) = (0 - a) / lN g := by
  apply Int64.toInt_inj.mp
  have e1 : (- lN g).toInt = - (g : Int) := by
    rw [Int64.toInt_neg, pk_lT (by omega), Int.bmod_eq_of_le] <;> omega
  rw [Int64.toInt_div, Int64.toInt_div, e1, (nab_neg ha).1, pk_lT (by omega), Int.tdiv_neg, Int.neg_tdiv]
/-- the fraction in lowest terms -/
theorem cen_eq {ab be : Int64} {w : Int32} (ha : nab ab < 2 ^ 62) (hb : nab be < 2 ^ 40) (h0 : be ≠ 0) (hw : w = 0 ∨ w = 1) : cenR ab be w = cenM ab be w := by
  have hb' : nab be < 2 ^ 62 := by omega
  have hg := gcd_i ha hb
  have hpos : 0 < nab be := by
    refine Nat.pos_of_ne_zero (fun q => h0 ?_)
    apply Int64.toInt_inj.mp
    unfold nab at q
    rw [Int64.toInt_zero]
    omega
  have hgp : 0 < Nat.gcd (nab ab) (nab be) := Nat.gcd_pos_of_pos_right _ hpos
  have hgl : Nat.gcd (nab ab) (nab be) ≤ nab be := Nat.gcd_le_right _ hpos
  unfold cenR cenM
  rw [hg, if_neg (fun q => by have := (lN_z (by omega)).mp q; omega)]
  have lt : be < 0 ↔ ¬ 0 ≤ be := by
    rw [Int64.lt_iff_toInt_lt, Int64.le_iff_toInt_le]; omega
  by_cases hn : 0 ≤ be
  · rw [if_pos hn, if_neg (fun q => lt.mp q hn)]
    rcases hw with hw | hw
    · rw [if_pos hw, if_pos hw]
    · have hw0 : ¬ w = 0 := by rw [hw]; decide
      rw [if_neg hw0, if_pos hw, if_neg hw0]
  · rw [if_neg hn, if_pos (lt.mpr hn), (nab_neg ha).2, (nab_neg hb').2, div_neg ha (by omega), div_neg hb' (by omega)]
    rcases hw with hw | hw
    · rw [if_pos hw, if_pos hw]
    · have hw0 : ¬ w = 0 := by rw [hw]; decide
      rw [if_neg hw0, if_pos hw, if_neg hw0]
theorem mom_i {n : Nat} {v x y : Nat → Int32} (h : rowR n x y) (hv : ∀ i, i < n → wB 1000 (v i)) {i : Nat} (hi : i < n) : (momF n v x y i).toInt = ((v i).toInt + (v (af n i)).toInt) * crp (p09 x y i) (p09 x y (af n i)) ∧ -4000000000 ≤ ((v i).toInt + (v (af n i)).toInt) * crp (p09 x y i) (p09 x y (af n i)) ∧ ((v i).toInt + (v (af n i)).toInt) * crp (p09 x y i) (p09 x y (af n i)) ≤ 4000000000 := by
  obtain ⟨c1, c2, c3⟩ := crs_i h hi
  have a1 := hv i hi
  have a2 := hv (af n i) (af_lt (by omega))
  unfold wB at a1 a2
  have e1 := a32 (a := v i) (b := v (af n i)) rfl rfl (by omega) (by omega)
  have m := mulb (A := 2000) (B := 2000000) (show -2000 ≤ (v i).toInt + (v (af n i)).toInt by omega) (by omega) c2 c3
  refine ⟨m64 (by rw [t64, e1]) (by rw [t64, c1]) (by omega) (by omega), by omega, by omega⟩
theorem fanL_i {n : Nat} {v x y : Nat → Int32} (h : rowR n x y) (hv : ∀ i, i < n → wB 1000 (v i)) {j : Nat} (hj : j < n - 2) : (fanL v x y j).toInt = tu (p09 x y 0) (p09 x y (j + 1)) (p09 x y (j + 1 + 1)) * ((v 0).toInt + (v (j + 1)).toInt + (v (j + 1 + 1)).toInt) ∧ -24000000000 ≤ tu (p09 x y 0) (p09 x y (j + 1)) (p09 x y (j + 1 + 1)) * ((v 0).toInt + (v (j + 1)).toInt + (v (j + 1 + 1)).toInt) ∧ tu (p09 x y 0) (p09 x y (j + 1)) (p09 x y (j + 1 + 1)) * ((v 0).toInt + (v (j + 1)).toInt + (v (j + 1 + 1)).toInt) ≤ 24000000000 := by
  obtain ⟨c1, c2, c3⟩ := fanF_i h hj
  have a1 := hv 0 (by omega)
  have a2 := hv (j + 1) (by omega)
  have a3 := hv (j + 1 + 1) (by omega)
  unfold wB at a1 a2 a3
  have e1 := a32 (a := v 0) (b := v (j + 1)) rfl rfl (by omega) (by omega)
  have e2 := a32 (b := v (j + 1 + 1)) e1 rfl (by omega) (by omega)
  have m := mulb (A := 8000000) (B := 3000) c2 c3 (show -3000 ≤ (v 0).toInt + (v (j + 1)).toInt + (v (j + 1 + 1)).toInt by omega) (by omega)
  refine ⟨m64 (by rw [t64, c1]) (by rw [t64, e2]) (by omega) (by omega), by omega, by omega⟩
/-- the moments agree -/
theorem mom_eq {n : Nat} {v x y : Nat → Int32} (h : rowR n x y) (hv : v = x ∨ v = y) : sumL (momF n v x y) n = sumL (fanL v x y) (n - 2) ∧ nab (sumL (fanL v x y) (n - 2)) < 2 ^ 62 := by
  have h3 := h.1
  have h14 := h.2.1
  have hw : ∀ i, i < n → wB 1000 (v i) := fun i hi => by rcases hv with q | q; rw [q]; exact (h.2.2 i hi).1; rw [q]; exact (h.2.2 i hi).2
  have k1 := sumL_i (f := momF n v x y) (B := 4000000000) (by decide) n (fun i hi => mom_i h hw hi) (by omega)
  have k2 := sumL_i (f := fanL v x y) (B := 24000000000) (by decide) (n - 2) (fun j hj => fanL_i h hw hj) (by omega)
  refine ⟨?_, by unfold nab; rw [k2.1]; omega⟩
  apply Int64.toInt_inj.mp
  rw [k1.1, k2.1, wrap_sum h3 (g' := fun i => ((v i).toInt + (v (i + 1)).toInt) * crp (p09 x y i) (p09 x y (i + 1))) (fun i hi => by rw [af_s hi]), af_last (by omega)]
  obtain ⟨m, rfl⟩ : ∃ m, n = m + 2 := ⟨n - 2, by omega⟩
  rw [show m + 2 - 1 = m + 1 by omega, show m + 2 - 2 = m by omega, fan_mom (p09 x y) (fun i => (v i).toInt) (by rcases hv with q | q; exact Or.inl (fun i => by rw [q]; rfl); exact Or.inr (fun i => by rw [q]; rfl)) m]
  have : crp (p09 x y (m + 1)) (p09 x y 0) = - crp (p09 x y 0) (p09 x y (m + 1)) := by unfold crp; grind
  rw [this, Int.mul_neg]
  grind
theorem be_i {n : Nat} {x y : Nat → Int32} (h : rowR n x y) : (3 * (fan n x y).toInt64).toInt = 3 * arZ n x y ∧ nab (3 * (fan n x y).toInt64) < 2 ^ 40 := by
  obtain ⟨f1, f2, f3⟩ := fan_i h
  have e : (3 * (fan n x y).toInt64).toInt = 3 * arZ n x y := m64 (a := 3) (u := 3) (by decide) (by rw [t64, f1]) (by omega) (by omega)
  refine ⟨e, ?_⟩
  unfold nab
  rw [e]
  omega
theorem be_ne {n : Nat} {x y : Nat → Int32} (h : rowR n x y) (hf : noF n x y) (hm : noM n x y) : (3 * (fan n x y).toInt64) ≠ 0 := fun q => by
  have e := (be_i h).1
  rw [q, Int64.toInt_zero] at e
  have := ar_ne h hf hm
  omega
