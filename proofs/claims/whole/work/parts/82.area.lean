theorem sumN_i {f : Nat → Int32} {g : Nat → Int} {B : Int} (hB : 0 ≤ B) : ∀ n : Nat, (∀ i, i < n → (f i).toInt = g i ∧ -B ≤ g i ∧ g i ≤ B) → (n : Int) * B ≤ 2000000000 → (sumN f n).toInt = sumZ g n ∧ -((n : Int) * B) ≤ sumZ g n ∧ sumZ g n ≤ (n : Int) * B
  | 0, _, _ => ⟨by rw [sumN, sumZ]; decide, by rw [sumZ]; simp, by rw [sumZ]; simp⟩
  | n + 1, h, hb => by
    have e : ((n + 1 : Nat) : Int) * B = (n : Int) * B + B := by rw [Int.natCast_add]; grind
    rw [e] at hb ⊢
    obtain ⟨h1, h2, h3⟩ := sumN_i hB n (fun i hi => h i (by omega)) (by omega)
    obtain ⟨k1, k2, k3⟩ := h n (by omega)
    rw [sumN, sumZ]
    exact ⟨a32 h1 k1 (by omega) (by omega), by omega, by omega⟩
theorem a64 {a b : Int64} {u v : Int} (ha : a.toInt = u) (hb : b.toInt = v) (h1 : -4611686018427387904 ≤ u + v) (h2 : u + v ≤ 4611686018427387904) : (a + b).toInt = u + v := by
  rw [Int64.toInt_add, ha, hb, Int.bmod_eq_of_le] <;> omega
theorem m64 {a b : Int64} {u v : Int} (ha : a.toInt = u) (hb : b.toInt = v) (h1 : -4611686018427387904 ≤ u * v) (h2 : u * v ≤ 4611686018427387904) : (a * b).toInt = u * v := by
  rw [Int64.toInt_mul, ha, hb, Int.bmod_eq_of_le] <;> omega
theorem sumL_i {f : Nat → Int64} {g : Nat → Int} {B : Int} (hB : 0 ≤ B) : ∀ n : Nat, (∀ i, i < n → (f i).toInt = g i ∧ -B ≤ g i ∧ g i ≤ B) → (n : Int) * B ≤ 4611686018427387904 → (sumL f n).toInt = sumZ g n ∧ -((n : Int) * B) ≤ sumZ g n ∧ sumZ g n ≤ (n : Int) * B
  | 0, _, _ => ⟨by rw [sumL, sumZ]; decide, by rw [sumZ]; simp, by rw [sumZ]; simp⟩
  | n + 1, h, hb => by
    have e : ((n + 1 : Nat) : Int) * B = (n : Int) * B + B := by rw [Int.natCast_add]; grind
    rw [e] at hb ⊢
    obtain ⟨h1, h2, h3⟩ := sumL_i hB n (fun i hi => h i (by omega)) (by omega)
    obtain ⟨k1, k2, k3⟩ := h n (by omega)
    rw [sumL, sumZ]
    exact ⟨a64 h1 k1 (by omega) (by omega), by omega, by omega⟩
/-- the fan from the first corner -/
theorem fan_sar (p : Nat → Pt9) : ∀ k, sumZ (fun i => crp (p i) (p (i + 1))) (k + 1) = sumZ (fun j => tu (p 0) (p (j + 1)) (p (j + 1 + 1))) k + crp (p 0) (p (k + 1))
  | 0 => by rw [sumZ, sumZ, sumZ]
  | k + 1 => by
    rw [sumZ, fan_sar p k, sumZ]
    unfold crp tu
    grind
theorem fan_mom (p : Nat → Pt9) (v : Nat → Int) (hv : (∀ i, v i = (p i).1) ∨ ∀ i, v i = (p i).2) : ∀ k, sumZ (fun i => (v i + v (i + 1)) * crp (p i) (p (i + 1))) (k + 1) = sumZ (fun j => tu (p 0) (p (j + 1)) (p (j + 1 + 1)) * (v 0 + v (j + 1) + v (j + 1 + 1))) k + (v 0 + v (k + 1)) * crp (p 0) (p (k + 1))
  | 0 => by rw [sumZ, sumZ, sumZ]
  | k + 1 => by
    rw [sumZ, fan_mom p v hv k, sumZ]
    rcases hv with hv | hv
    · simp only [hv]
      unfold crp tu
      grind
    · simp only [hv]
      unfold crp tu
      grind
theorem fanF_i {n : Nat} {x y : Nat → Int32} (h : rowR n x y) {j : Nat} (hj : j < n - 2) : (fanF x y j).toInt = tu (p09 x y 0) (p09 x y (j + 1)) (p09 x y (j + 1 + 1)) ∧ -8000000 ≤ tu (p09 x y 0) (p09 x y (j + 1)) (p09 x y (j + 1 + 1)) ∧ tu (p09 x y 0) (p09 x y (j + 1)) (p09 x y (j + 1 + 1)) ≤ 8000000 := by
  refine ⟨tn_i h (by omega) (by omega) (by omega), ?_⟩
  obtain ⟨a1, a2⟩ := h.2.2 0 (by omega)
  obtain ⟨b1, b2⟩ := h.2.2 (j + 1) (by omega)
  obtain ⟨c1, c2⟩ := h.2.2 (j + 1 + 1) (by omega)
  unfold wB at *
  have m1 := mulb (A := 2000) (B := 2000) (show -2000 ≤ (x (j + 1)).toInt - (x 0).toInt by omega) (by omega) (show -2000 ≤ (y (j + 1 + 1)).toInt - (y 0).toInt by omega) (by omega)
  have m2 := mulb (A := 2000) (B := 2000) (show -2000 ≤ (y (j + 1)).toInt - (y 0).toInt by omega) (by omega) (show -2000 ≤ (x (j + 1 + 1)).toInt - (x 0).toInt by omega) (by omega)
  show -8000000 ≤ ((x (j + 1)).toInt - (x 0).toInt) * ((y (j + 1 + 1)).toInt - (y 0).toInt) - ((y (j + 1)).toInt - (y 0).toInt) * ((x (j + 1 + 1)).toInt - (x 0).toInt) ∧ ((x (j + 1)).toInt - (x 0).toInt) * ((y (j + 1 + 1)).toInt - (y 0).toInt) - ((y (j + 1)).toInt - (y 0).toInt) * ((x (j + 1 + 1)).toInt - (x 0).toInt) ≤ 8000000
  omega
theorem crs_i {n : Nat} {x y : Nat → Int32} (h : rowR n x y) {i : Nat} (hi : i < n) : (crs9 n x y i).toInt = crp (p09 x y i) (p09 x y (af n i)) ∧ -2000000 ≤ crp (p09 x y i) (p09 x y (af n i)) ∧ crp (p09 x y i) (p09 x y (af n i)) ≤ 2000000 := by
  obtain ⟨a1, a2⟩ := h.2.2 i hi
  obtain ⟨b1, b2⟩ := h.2.2 (af n i) (af_lt (by omega))
  unfold wB at *
  have m1 := mulb (A := 1000) (B := 1000) a1.1 a1.2 b2.1 b2.2
  have m2 := mulb (A := 1000) (B := 1000) a2.1 a2.2 b1.1 b1.2
  have e1 := m32 (a := x i) (b := y (af n i)) rfl rfl (by omega) (by omega)
  have e2 := m32 (a := y i) (b := x (af n i)) rfl rfl (by omega) (by omega)
  have e : crp (p09 x y i) (p09 x y (af n i)) = (x i).toInt * (y (af n i)).toInt - (y i).toInt * (x (af n i)).toInt := rfl
  rw [e]
  exact ⟨s32 e1 e2 (by omega) (by omega), by omega, by omega⟩
/-- twice the area, as a whole number -/
def arZ (n : Nat) (x y : Nat → Int32) : Int := sumZ (fun j => tu (p09 x y 0) (p09 x y (j + 1)) (p09 x y (j + 1 + 1))) (n - 2)
theorem fan_i {n : Nat} {x y : Nat → Int32} (h : rowR n x y) : (fan n x y).toInt = arZ n x y ∧ -96000000 ≤ arZ n x y ∧ arZ n x y ≤ 96000000 := by
  have h3 := h.1
  have h14 := h.2.1
  have k := sumN_i (f := fanF x y) (g := fun j => tu (p09 x y 0) (p09 x y (j + 1)) (p09 x y (j + 1 + 1))) (B := 8000000) (by decide) (n - 2) (fun i hi => fanF_i h hi) (by omega)
  exact ⟨k.1, by unfold arZ; omega, by unfold arZ; omega⟩
theorem wrap_sum {n : Nat} (h3 : 3 ≤ n) {g g' : Nat → Int} (h : ∀ i, i + 1 < n → g i = g' i) : sumZ g n = sumZ g' (n - 1) + g (n - 1) := by
  obtain ⟨k, rfl⟩ : ∃ k, n = k + 1 := ⟨n - 1, by omega⟩
  rw [sumZ, show k + 1 - 1 = k by omega, sumZ_c k (fun t ht => h t (by omega))]
theorem af_last {n : Nat} (h : 1 ≤ n) : af n (n - 1) = 0 := if_neg (by omega)
/-- the class's area is the reference's -/
theorem area_eq {n : Nat} {x y : Nat → Int32} (h : rowR n x y) : sumN (crs9 n x y) n = fan n x y := by
  have h3 := h.1
  have h14 := h.2.1
  rw [eq32, (fan_i h).1]
  have k := sumN_i (f := crs9 n x y) (g := fun i => crp (p09 x y i) (p09 x y (af n i))) (B := 2000000) (by decide) n (fun i hi => crs_i h hi) (by omega)
  rw [k.1, wrap_sum h3 (g' := fun i => crp (p09 x y i) (p09 x y (i + 1))) (fun i hi => by rw [af_s hi]), af_last (by omega)]
  obtain ⟨m, rfl⟩ : ∃ m, n = m + 2 := ⟨n - 2, by omega⟩
  rw [show m + 2 - 1 = m + 1 by omega, fan_sar (p09 x y) m]
  unfold arZ
  rw [show m + 2 - 2 = m by omega]
  have : crp (p09 x y (m + 1)) (p09 x y 0) = - crp (p09 x y 0) (p09 x y (m + 1)) := by unfold crp; grind
  omega
/-- a simple polygon has an area -/
theorem ar_ne {n : Nat} {x y : Nat → Int32} (h : rowR n x y) (hf : noF n x y) (hm : noM n x y) : arZ n x y ≠ 0 := by
  have h3 := h.1
  obtain ⟨o, ho, hR⟩ := TRI (env h hf hm) (P0 := Q0 n x y) (fun i => rfl)
  have hA := AREA h3 hR
  intro q
  have e : sar (Q2 n x y) 0 (n - 1) = 4 * arZ n x y := by
    unfold sar
    obtain ⟨m, rfl⟩ : ∃ m, n = m + 2 := ⟨n - 2, by omega⟩
    have e1 := fan_sar (p09 x y) m
    have eq : ∀ k, k < m + 2 → Q2 (m + 2) x y k = dbl (p09 x y k) := fun k hk => by unfold Q2 Q0; rw [Nat.mod_eq_of_lt hk]; rfl
    have cd : ∀ a b : Pt9, crp (dbl a) (dbl b) = 4 * crp a b := fun a b => by unfold crp dbl; grind
    have e2 : sumZ (fun k => crp (Q2 (m + 2) x y (0 + k)) (Q2 (m + 2) x y (0 + k + 1))) (m + 1) = 4 * sumZ (fun i => crp (p09 x y i) (p09 x y (i + 1))) (m + 1) := by
      have sc : ∀ (g : Nat → Int) k, sumZ (fun i => 4 * g i) k = 4 * sumZ g k := fun g k => by
        induction k with
        | zero => rfl
        | succ k ih => rw [sumZ, sumZ, ih]; omega
      rw [← sc]
      exact sumZ_c _ (fun t ht => by rw [Nat.zero_add, eq t (by omega), eq (t + 1) (by omega), cd])
    rw [show m + 2 - 1 - 0 = m + 1 by omega, e2, e1, show m + 2 - 1 = m + 1 by omega, eq 0 (by omega), eq (m + 1) (by omega), cd]
    unfold arZ
    rw [show m + 2 - 2 = m by omega]
    omega
  rw [e, q, Int.mul_zero, Int.mul_zero] at hA
  omega
theorem fan_ne {n : Nat} {x y : Nat → Int32} (h : rowR n x y) (hf : noF n x y) (hm : noM n x y) : fan n x y ≠ 0 := fun q => by
  have := (fan_i h).1
  rw [q, z32] at this
  exact ar_ne h hf hm this.symm
