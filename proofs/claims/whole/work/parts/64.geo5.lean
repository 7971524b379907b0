/-! polygons that are parts of one polygon -/
def gd (P : Nat → Pt9) (A B : Pt9) : Prop := (∀ c, onS (P c) A B → P c = A ∨ P c = B) ∧ ∀ e, ¬ PX A B (P e) (P (e + 1))
def Env9 (P : Nat → Pt9) (n : Nat) (f : Pt9) : Prop := 3 ≤ n ∧ (∀ i, P (i + n) = P i) ∧ (∀ i j, i < j → j < i + n → fi f (P i) ≠ fi f (P j)) ∧ ∀ e, gd P (P e) (P (e + 1))
def Sub (n : Nat) (a : Nat → Nat) (m : Nat) : Prop := 3 ≤ m ∧ (∀ t, a t < a (t + 1)) ∧ ∀ t, a (t + m) = a t + n
theorem PX_s {a b c d : Pt9} (h : PX a b c d) : PX c d a b := ⟨h.2, h.1⟩
theorem PX_r {a b c d : Pt9} (h : PX a b c d) : PX a b d c := by
  obtain ⟨h1, h2⟩ := h
  refine ⟨by rw [Int.mul_comm]; exact h1, ?_⟩
  have e : ∀ p, tu d c p = - tu c d p := fun p => by unfold tu; grind
  rw [e, e]
  have : - tu c d a * - tu c d b = tu c d a * tu c d b := by grind
  omega
theorem PX_l {a b c d : Pt9} (h : PX a b c d) : PX b a c d := PX_s (PX_r (PX_s h))
theorem PX_ne {a b c d : Pt9} (h : PX a b c d) : a ≠ c ∧ a ≠ d ∧ b ≠ c ∧ b ≠ d := by
  obtain ⟨h1, h2⟩ := h
  refine ⟨fun q => ?_, fun q => ?_, fun q => ?_, fun q => ?_⟩
  · rw [← q, tu_self1, Int.zero_mul] at h1; omega
  · rw [← q, tu_self1, Int.mul_zero] at h1; omega
  · rw [← q, tu_self2, Int.zero_mul] at h1; omega
  · rw [← q, tu_self2, Int.mul_zero] at h1; omega
theorem per_z {P : Nat → Pt9} {n : Nat} (h : ∀ i, P (i + n) = P i) (i : Nat) : ∀ z, P (i + n * z) = P i
  | 0 => rfl
  | z + 1 => by rw [Nat.mul_succ, ← Nat.add_assoc, h, per_z h i z]
theorem per_m {P : Nat → Pt9} {n : Nat} (h : ∀ i, P (i + n) = P i) (i : Nat) : P (i % n) = P i := by
  have := per_z h (i % n) (i / n)
  rw [Nat.mod_add_div] at this
  exact this.symm
theorem pt_mod {P : Nat → Pt9} {n : Nat} {f : Pt9} (E : Env9 P n f) {i j : Nat} (h : P i = P j) : i % n = j % n := by
  obtain ⟨h3, h1, h2, -⟩ := E
  rw [← per_m h1 i, ← per_m h1 j] at h
  have hi := Nat.mod_lt i (show 0 < n by omega)
  have hj := Nat.mod_lt j (show 0 < n by omega)
  rcases Nat.lt_trichotomy (i % n) (j % n) with q | q | q
  · exact absurd (congrArg (fi f) h) (h2 _ _ q (by omega))
  · exact q
  · exact absurd (congrArg (fi f) h.symm) (h2 _ _ q (by omega))
theorem sub_z {n m : Nat} {a : Nat → Nat} (h : Sub n a m) (t : Nat) : ∀ z, a (t + m * z) = a t + n * z
  | 0 => rfl
  | z + 1 => by rw [Nat.mul_succ, ← Nat.add_assoc, h.2.2, sub_z h t z, Nat.mul_succ]; omega
theorem sub_lt {n m : Nat} {a : Nat → Nat} (h : Sub n a m) {s t : Nat} (hst : s < t) : a s < a t := by
  obtain ⟨d, rfl⟩ : ∃ d, t = s + 1 + d := ⟨t - (s + 1), by omega⟩
  clear hst
  induction d with
  | zero => exact h.2.1 s
  | succ d ih => exact Nat.lt_trans ih (h.2.1 _)
theorem sub_le {n m : Nat} {a : Nat → Nat} (h : Sub n a m) {s t : Nat} (hst : s ≤ t) : a s ≤ a t := by
  rcases Nat.lt_or_ge s t with q | q
  · exact Nat.le_of_lt (sub_lt h q)
  · rw [show s = t by omega]; exact Nat.le_refl _
theorem sub_mod {n m : Nat} {a : Nat → Nat} (h : Sub n a m) (t : Nat) : a t % n = a (t % m) % n := by
  have := sub_z h (t % m) (t / m)
  rw [Nat.mod_add_div] at this
  rw [this, Nat.add_mul_mod_self_left]
/-- equal rests in a window are equal -/
theorem mod_win {n i j : Nat} (h : i % n = j % n) (h1 : i ≤ j) (h2 : j < i + n) : i = j := by
  have e1 := Nat.div_add_mod i n
  have e2 := Nat.div_add_mod j n
  rcases Nat.lt_trichotomy (i / n) (j / n) with q | q | q
  · exfalso
    have : n * (i / n + 1) ≤ n * (j / n) := Nat.mul_le_mul_left n q
    rw [Nat.mul_succ] at this
    omega
  · rw [q] at e1; omega
  · exfalso
    have : n * (j / n + 1) ≤ n * (i / n) := Nat.mul_le_mul_left n q
    rw [Nat.mul_succ] at this
    have := Nat.mod_lt i (show 0 < n by omega)
    omega
/-- indices of the part -/
theorem sub_inj {n m : Nat} {a : Nat → Nat} (h : Sub n a m) {s t : Nat} (e : a s % n = a t % n) : s % m = t % m := by
  have hm : 0 < m := by have := h.1; omega
  have hs := Nat.mod_lt s hm
  have ht := Nat.mod_lt t hm
  rw [sub_mod h s, sub_mod h t] at e
  have w : ∀ t', t' < m → a 0 ≤ a t' ∧ a t' < a 0 + n := fun t' ht' => ⟨sub_le h (Nat.zero_le _), by have := sub_lt h ht'; have e0 := h.2.2 0; rw [Nat.zero_add] at e0; omega⟩
  obtain ⟨w1, w2⟩ := w _ hs
  obtain ⟨w3, w4⟩ := w _ ht
  have key : a (s % m) = a (t % m) := by
    rcases Nat.le_total (a (s % m)) (a (t % m)) with q | q
    · exact mod_win e q (by omega)
    · exact (mod_win e.symm q (by omega)).symm
  rcases Nat.lt_trichotomy (s % m) (t % m) with q | q | q
  · have := sub_lt h q; omega
  · exact q
  · have := sub_lt h q; omega
theorem q_inj {P : Nat → Pt9} {n m : Nat} {f : Pt9} {a : Nat → Nat} (E : Env9 P n f) (h : Sub n a m) {s t : Nat} (e : P (a s) = P (a t)) : s % m = t % m := sub_inj h (pt_mod E e)
theorem q_per {P : Nat → Pt9} {n m : Nat} {f : Pt9} {a : Nat → Nat} (E : Env9 P n f) (h : Sub n a m) (t : Nat) : P (a (t + m)) = P (a t) := by rw [h.2.2, E.2.1]
theorem q_mod {P : Nat → Pt9} {n m : Nat} {f : Pt9} {a : Nat → Nat} (E : Env9 P n f) (h : Sub n a m) {s t : Nat} (e : s % m = t % m) : P (a s) = P (a t) := by
  have w : ∀ t, P (a t) = P (a (t % m)) := fun t => by
    rw [← per_m E.2.1 (a t), ← per_m E.2.1 (a (t % m)), sub_mod h t]
  rw [w s, w t, e]
/-- between two neighbours of the part lies no corner of the part -/
theorem CH {P : Nat → Pt9} {n m : Nat} {f : Pt9} {a : Nat → Nat} (E : Env9 P n f) (h : Sub n a m) {t k : Nat} (h1 : a t < k) (h2 : k < a (t + 1)) (s : Nat) : P k ≠ P (a s) := fun e => by
  have hn : 0 < n := by have := E.1; omega
  have e1 := pt_mod E e
  -- shift k so that it lies above a s
  have e2 : (k + n * a s) % n = a s % n := by rw [Nat.add_mul_mod_self_left]; exact e1
  have g1 : a (t + m * a s) < k + n * a s := by rw [sub_z h]; omega
  have g2 : k + n * a s < a (t + m * a s + 1) := by rw [show t + m * a s + 1 = (t + 1) + m * a s by omega, sub_z h]; omega
  have hle : a s ≤ k + n * a s := by
    have := Nat.le_mul_of_pos_left (a s) hn
    omega
  generalize k + n * a s = k' at *
  generalize t + m * a s = t' at *
  obtain ⟨z, hz⟩ : ∃ z, k' = a s + n * z := by
    refine ⟨(k' - a s) / n, ?_⟩
    have h3 : (k' - a s) % n = 0 := by
      have h4 := Nat.sub_mod_eq_zero_of_mod_eq e2
      exact h4
    have := Nat.div_add_mod (k' - a s) n
    omega
  rw [← sub_z h s z] at hz
  rw [hz] at g1 g2
  rcases Nat.lt_trichotomy (s + m * z) (t' + 1) with q | q | q
  · have := sub_le h (show s + m * z ≤ t' by omega)
    omega
  · rw [q] at g2; omega
  · have := sub_lt h q
    omega
