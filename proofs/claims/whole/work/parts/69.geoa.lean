/-! a run of corners of the part, closed by a chord -/
def win (a : Nat → Nat) (n lo len t : Nat) : Nat := a (lo + t % len) + n * (t / len)
theorem win_rq {a : Nat → Nat} {n lo len r q : Nat} (h : r < len) : win a n lo len (r + len * q) = a (lo + r) + n * q := by
  unfold win
  rw [Nat.add_mul_mod_self_left, Nat.mod_eq_of_lt h, Nat.add_mul_div_left _ _ (by omega), Nat.div_eq_of_lt h, Nat.zero_add]
theorem win_e {a : Nat → Nat} {n lo len : Nat} (h : 0 < len) (t : Nat) : ∃ r q, t = r + len * q ∧ r < len ∧ win a n lo len t = a (lo + r) + n * q ∧ ((r + 1 < len ∧ win a n lo len (t + 1) = a (lo + r + 1) + n * q) ∨ (r + 1 = len ∧ win a n lo len (t + 1) = a lo + n + n * q)) := by
  have e := Nat.mod_add_div t len
  have hr := Nat.mod_lt t h
  refine ⟨t % len, t / len, e.symm, hr, rfl, ?_⟩
  rcases Nat.lt_or_ge (t % len + 1) len with q | q
  · refine Or.inl ⟨q, ?_⟩
    have := win_rq (a := a) (n := n) (lo := lo) (q := t / len) q
    rw [show t % len + 1 + len * (t / len) = t + 1 by omega] at this
    rw [this, Nat.add_assoc]
  · refine Or.inr ⟨by omega, ?_⟩
    have := win_rq (a := a) (n := n) (lo := lo) (r := 0) (q := t / len + 1) h
    rw [Nat.mul_succ, Nat.zero_add, show len * (t / len) + len = t + 1 by omega, Nat.add_zero, Nat.mul_succ] at this
    rw [this]
    show a lo + (n * (t / len) + n) = _
    omega
theorem win_sub {n m : Nat} {a : Nat → Nat} (h : Sub n a m) {lo len : Nat} (h3 : 3 ≤ len) (hl : len ≤ m) : Sub n (win a n lo len) len := by
  refine ⟨h3, fun t => ?_, fun t => ?_⟩
  · obtain ⟨r, q, e, hr, e1, e2⟩ := win_e (a := a) (n := n) (lo := lo) (show 0 < len by omega) t
    rw [e1]
    rcases e2 with ⟨_, e2⟩ | ⟨h9, e2⟩
    · rw [e2]; have := h.2.1 (lo + r); omega
    · rw [e2]
      have h5 := sub_lt h (show lo + r < lo + m by omega)
      rw [h.2.2] at h5
      omega
  · unfold win
    rw [Nat.add_mod_right, Nat.add_div_right _ (by omega), Nat.mul_succ, Nat.add_assoc]
theorem win_P {P : Nat → Pt9} {n : Nat} (hp : ∀ i, P (i + n) = P i) (a : Nat → Nat) (lo len t : Nat) : P (win a n lo len t) = P (a (lo + t % len)) := per_z hp _ _
theorem hp_shift {P : Nat → Pt9} {n : Nat} (hp : ∀ i, P (i + n) = P i) (i j q : Nat) : Hp P (i + n * q) (j + n * q) = Hp P i j := by
  funext k
  unfold Hp
  rw [show j + n * q - (i + n * q) = j - i by omega, per_z hp, show i + n * q + k = i + k + n * q by omega, per_z hp]
theorem hh_shift {P : Nat → Pt9} {n : Nat} (hp : ∀ i, P (i + n) = P i) (i j q : Nat) (y : Pt9) : hh P (i + n * q) (j + n * q) y = hh P i j y := by
  unfold hh
  rw [hp_shift hp, show j + n * q - (i + n * q) = j - i by omega]
theorem p0_per {P P0 : Nat → Pt9} {n : Nat} (hp : ∀ i, P (i + n) = P i) (h2 : ∀ i, P i = (2 * (P0 i).1, 2 * (P0 i).2)) (i q : Nat) : P0 (i + n * q) = P0 i := by
  have e := per_z hp i q
  rw [h2, h2] at e
  have e1 := congrArg Prod.fst e
  have e2 := congrArg Prod.snd e
  exact Prod.ext (by simp at e1; omega) (by simp at e2; omega)
theorem okc_shift {P P0 : Nat → Pt9} {n : Nat} (hp : ∀ i, P (i + n) = P i) (h2 : ∀ i, P i = (2 * (P0 i).1, 2 * (P0 i).2)) {i j : Nat} (q : Nat) (h : okc P P0 n i j) : okc P P0 n (i + n * q) (j + n * q) := by
  rcases h with h | ⟨h, h'⟩
  · exact Or.inl (by omega)
  · refine Or.inr ⟨by rw [per_z hp, per_z hp]; exact h, ?_⟩
    unfold mid
    rw [p0_per hp h2, p0_per hp h2]
    exact h'
/-- the closed polygon of the part's corners from i to j -/
def wp (P : Nat → Pt9) (a : Nat → Nat) (i j : Nat) (y : Pt9) : Bool := hh (fun t => P (a t)) i j y
theorem wp_u {P : Nat → Pt9} {a : Nat → Nat} {i j : Nat} (hij : i < j) (y : Pt9) : wp P a i j y = (xs9 (fun k => crd y h0 (P (a (i + k))) (P (a (i + k + 1)))) (j - i) ^^ crd y h0 (P (a j)) (P (a i))) := hp_u hij y h0
theorem win_par {P : Nat → Pt9} {n : Nat} (hp : ∀ i, P (i + n) = P i) {a : Nat → Nat} {lo len : Nat} (h3 : 2 ≤ len) (y : Pt9) : par y h0 (fun t => P (win a n lo len t)) len = wp P a lo (lo + len - 1) y := by
  rw [wp_u (by omega), show lo + len - 1 - lo = len - 1 by omega]
  obtain ⟨k, rfl⟩ : ∃ k, len = k + 1 := ⟨len - 1, by omega⟩
  unfold par
  rw [xs9, show k + 1 - 1 = k by omega, show lo + (k + 1) - 1 = lo + k by omega]
  congr 1
  · refine xs_c k (fun t ht => ?_)
    show crd y h0 (P (win a n lo (k + 1) t)) (P (win a n lo (k + 1) (t + 1))) = _
    rw [win_P hp, win_P hp, Nat.mod_eq_of_lt (show t < k + 1 by omega), Nat.mod_eq_of_lt (show t + 1 < k + 1 by omega), Nat.add_assoc]
  · show crd y h0 (P (win a n lo (k + 1) k)) (P (win a n lo (k + 1) (k + 1))) = _
    rw [win_P hp, win_P hp, Nat.mod_eq_of_lt (show k < k + 1 by omega), Nat.mod_self, Nat.add_zero]
theorem hh_seg {P : Nat → Pt9} {n m : Nat} {a : Nat → Nat} (h : Sub n a m) {i j : Nat} (hij : i < j) {y : Pt9} (hy : ∀ t, i ≤ t → t < j → ¬ onS y (P (a t)) (P (a (t + 1)))) : hh P (a i) (a j) y = (xs9 (fun k => hh P (a (i + k)) (a (i + k + 1)) y) (j - i) ^^ wp P a i j y) := by
  have hs := xs_seg (F := fun k => crd y h0 (P k) (P (k + 1))) (a := fun t => a (i + t)) (fun t => h.2.1 (i + t)) (j - i)
  simp only [Nat.add_zero] at hs
  rw [show i + (j - i) = j by omega] at hs
  unfold hh
  rw [hp_u (sub_lt h hij), wp_u hij, hs, ← Bool.xor_assoc]
  congr 1
  rw [← xs_x]
  refine xs_c _ (fun k hk => ?_)
  show _ = (par y h0 (Hp P (a (i + k)) (a (i + k + 1))) (a (i + k + 1) - a (i + k) + 1) ^^ crd y h0 (P (a (i + k))) (P (a (i + k + 1))))
  rw [hp_u (h.2.1 (i + k)), crd_sym (hy (i + k) (by omega) (by omega))]
  show xs9 (fun k_1 => crd y h0 (P (a (i + k) + k_1)) (P (a (i + k) + k_1 + 1))) (a (i + k + 1) - a (i + k)) = _
  cases crd y h0 (P (a (i + k + 1))) (P (a (i + k))) <;> cases xs9 (fun k_1 => crd y h0 (P (a (i + k) + k_1)) (P (a (i + k) + k_1 + 1))) (a (i + k + 1) - a (i + k)) <;> rfl
theorem par_split {P : Nat → Pt9} {n m : Nat} {f : Pt9} {a : Nat → Nat} (E : Env9 P n f) (h : Sub n a m) {lo hi : Nat} (h1 : lo < hi) (h2 : hi < lo + m) {y : Pt9} (hy : ¬ onS y (P (a lo)) (P (a hi))) : par y h0 (fun t => P (a t)) m = (wp P a lo hi y ^^ wp P a hi (lo + m) y) := by
  have s1 := xs_per (F := fun k => crd y h0 (P (a k)) (P (a (k + 1)))) (n := m) (fun k => by show crd y h0 (P (a (k + m))) (P (a (k + m + 1))) = _; rw [show k + m + 1 = (k + 1) + m by omega, q_per E h, q_per E h]) lo
  have e0 : par y h0 (fun t => P (a t)) m = xs9 (fun k => crd y h0 (P (a (lo + k))) (P (a (lo + k + 1)))) m := s1.symm
  have e1 : xs9 (fun k => crd y h0 (P (a (lo + k))) (P (a (lo + k + 1)))) m = (xs9 (fun k => crd y h0 (P (a (lo + k))) (P (a (lo + k + 1)))) (hi - lo) ^^ xs9 (fun k => crd y h0 (P (a (hi + k))) (P (a (hi + k + 1)))) (lo + m - hi)) := by
    have e3 := xs_a (f := fun k => crd y h0 (P (a (lo + k))) (P (a (lo + k + 1)))) (hi - lo) (lo + m - hi)
    rw [show hi - lo + (lo + m - hi) = m by omega] at e3
    rw [e3]
    congr 1
    exact xs_c _ (fun t _ => by show crd y h0 (P (a (lo + (hi - lo + t)))) (P (a (lo + (hi - lo + t) + 1))) = _; rw [show lo + (hi - lo + t) = hi + t by omega])
  rw [e0, e1, wp_u h1, wp_u h2, q_per E h, crd_sym hy]
  cases xs9 (fun k => crd y h0 (P (a (lo + k))) (P (a (lo + k + 1)))) (hi - lo) <;> cases xs9 (fun k => crd y h0 (P (a (hi + k))) (P (a (hi + k + 1)))) (lo + m - hi) <;> cases crd y h0 (P (a hi)) (P (a lo)) <;> rfl
theorem q_neq {P : Nat → Pt9} {n m : Nat} {f : Pt9} {a : Nat → Nat} (E : Env9 P n f) (h : Sub n a m) {s t : Nat} (h1 : s < t) (h2 : t < s + m) : P (a s) ≠ P (a t) := fun q => by
  have := mod_win (q_inj E h q) (by omega) h2
  omega
/-- the run is a part again -/
theorem InvW {P P0 : Nat → Pt9} {n m : Nat} {f : Pt9} {a : Nat → Nat} (E : Env9 P n f) (hP : ∀ i, P i = (2 * (P0 i).1, 2 * (P0 i).2)) (I : Inv P P0 n a m) {lo hi : Nat} (h1 : lo + 2 ≤ hi) (h2 : hi < lo + m) (hD : okc P P0 n (a hi) (a lo + n)) (H1 : ∀ s, lo < s → s < hi → wp P a hi (lo + m) (P (a s)) = false) (H2 : ∀ x, (∀ s, lo ≤ s → s ≤ hi → P x ≠ P (a s)) → wp P a lo hi (P x) = false) : Inv P P0 n (win a n lo (hi - lo + 1)) (hi - lo + 1) := by
  have hS := I.1
  have hp := E.2.1
  have hl : lo + (hi - lo + 1) - 1 = hi := by omega
  refine ⟨win_sub hS (by omega) (by omega), fun t => ?_, fun x hx => ?_, fun t s n1 n2 => ?_⟩
  · obtain ⟨r, q, e, hr, e1, e2⟩ := win_e (a := a) (n := n) (lo := lo) (show 0 < hi - lo + 1 by omega) t
    rw [e1]
    rcases e2 with ⟨_, e2⟩ | ⟨h9, e2⟩
    · rw [e2]; exact okc_shift hp hP q (I.2.1 (lo + r))
    · rw [e2, show lo + r = hi by omega]; exact okc_shift hp hP q hD
  · rw [win_par hp (by omega), hl]
    refine H2 x (fun s s1 s2 => ?_)
    have := hx (s - lo)
    rw [win_P hp, Nat.mod_eq_of_lt (show s - lo < hi - lo + 1 by omega), show lo + (s - lo) = s by omega] at this
    exact this
  · obtain ⟨r, q, e, hr, e1, e2⟩ := win_e (a := a) (n := n) (lo := lo) (show 0 < hi - lo + 1 by omega) t
    have hs := Nat.mod_lt s (show 0 < hi - lo + 1 by omega)
    rw [win_P hp a lo (hi - lo + 1) s] at n1 n2 ⊢
    generalize s % (hi - lo + 1) = s' at *
    rw [e1] at n1 ⊢
    rcases e2 with ⟨_, e2⟩ | ⟨h9, e2⟩
    · rw [e2] at n2 ⊢
      rw [per_z hp] at n1 n2
      rw [hh_shift hp]
      exact I.2.2.2 (lo + r) (lo + s') n1 n2
    · rw [e2] at n2 ⊢
      rw [show lo + r = hi by omega] at n1 ⊢
      rw [per_z hp] at n1 n2
      rw [hp] at n2
      rw [hh_shift hp, ← hS.2.2 lo]
      have s1 : lo < lo + s' := by
        rcases Nat.eq_zero_or_pos s' with w | w
        · rw [w, Nat.add_zero] at n2; exact absurd rfl n2
        · omega
      have s2 : lo + s' < hi := by
        rcases Nat.lt_or_ge (lo + s') hi with w | w
        · exact w
        · rw [show lo + s' = hi by omega] at n1; exact absurd rfl n1
      have ne : ∀ t, hi ≤ t → t ≤ lo + m → P (a (lo + s')) ≠ P (a t) := fun t t1 t2 => by
        rcases Nat.lt_or_ge t (lo + m) with w | w
        · exact q_neq E hS (by omega) (by omega)
        · rw [show t = lo + m by omega, q_per E hS]; exact (q_neq E hS s1 (by omega)).symm
      rw [hh_seg hS h2 (fun t t1 t2 w => ((inv_gd E I t).1 _ w).elim (ne t t1 (by omega)) (ne (t + 1) (by omega) (by omega))), H1 (lo + s') s1 s2, xs_0]
      · rfl
      · intro k hk
        exact I.2.2.2 (hi + k) (lo + s') (ne _ (by omega) (by omega)) (ne _ (by omega) (by omega))
