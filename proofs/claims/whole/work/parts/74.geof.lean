theorem max_In {p : Nat → Prop} {g : Nat → Int} : ∀ m, (∃ t, t < m ∧ p t) → ∃ z, z < m ∧ p z ∧ ∀ t, t < m → p t → g t ≤ g z
  | 0, h => by obtain ⟨t, h, -⟩ := h; omega
  | m + 1, h => by
    by_cases hm : p m
    · by_cases h2 : ∃ t, t < m ∧ p t
      · obtain ⟨z, z1, z2, z3⟩ := max_In (g := g) m h2
        rcases Int.le_total (g m) (g z) with q | q
        · refine ⟨z, by omega, z2, fun t ht hp => ?_⟩
          rcases Nat.lt_or_ge t m with w | w
          · exact z3 t w hp
          · rw [show t = m by omega]; exact q
        · refine ⟨m, by omega, hm, fun t ht hp => ?_⟩
          rcases Nat.lt_or_ge t m with w | w
          · exact Int.le_trans (z3 t w hp) q
          · rw [show t = m by omega]; exact Int.le_refl _
      · refine ⟨m, by omega, hm, fun t ht hp => ?_⟩
        rcases Nat.lt_or_ge t m with w | w
        · exact absurd ⟨t, w, hp⟩ h2
        · rw [show t = m by omega]; exact Int.le_refl _
    · obtain ⟨t, t1, t2⟩ := h
      have h2 : ∃ t, t < m ∧ p t := ⟨t, by rcases Nat.lt_or_ge t m with w | w; exact w; exact absurd (by rw [show m = t by omega]; exact t2) hm, t2⟩
      obtain ⟨z, z1, z2, z3⟩ := max_In (g := g) m h2
      refine ⟨z, by omega, z2, fun t ht hp => ?_⟩
      rcases Nat.lt_or_ge t m with w | w
      · exact z3 t w hp
      · rw [show t = m by omega] at hp; exact absurd hp hm
theorem sgn_z {P : Nat → Pt9} {a : Nat → Nat} {m : Nat} {b c z : Pt9} {o : Int} (T : Tri P a m b c) (hA : 0 < tu (P (a 0)) b z) (hB : 0 < tu (P (a 0)) z c) (ho : 0 < o * tu (P (a (m - 1))) (P (a 0)) (P (a 1))) : 0 < o * tu z (P (a 0)) (P (a 1)) ∧ 0 < o * tu (P (a (m - 1))) (P (a 0)) z := by
  have hτ := T.2
  have r1 : ∀ x y : Pt9, tu x (P (a 0)) y = tu (P (a 0)) y x := fun x y => tu_cyc x (P (a 0)) y
  rw [r1] at ho
  rw [r1, r1]
  rcases T.1 with ⟨h1, h2⟩ | ⟨h1, h2⟩
  · rw [← h1, ← h2] at ho
    rw [← h1, ← h2]
    have hop : 0 < o := by
      refine Classical.byContradiction (fun q => ?_)
      have := mnp (show o ≤ 0 by omega) (show 0 ≤ tu (P (a 0)) b c by omega)
      omega
    exact ⟨mpp hop hA, mpp hop hB⟩
  · rw [← h1, ← h2, tu_vc (P (a 0)) b c] at ho
    rw [← h1, ← h2, tu_vc (P (a 0)) z c, tu_vc (P (a 0)) b z]
    have hop : o < 0 := by
      refine Classical.byContradiction (fun q => ?_)
      have := mpn (show 0 ≤ o by omega) (show - tu (P (a 0)) b c ≤ 0 by omega)
      omega
    exact ⟨Int.mul_pos_of_neg_of_neg hop (by omega), Int.mul_pos_of_neg_of_neg hop (by omega)⟩
theorem fi_all {P : Nat → Pt9} {n : Nat} {f v : Pt9} {a : Nat → Nat} (hp : ∀ i, P (i + n) = P i) (hmax : ∀ t, fi f (P (a t)) ≤ fi f v) (lo len t : Nat) : fi f (P (win a n lo len t)) ≤ fi f v := by rw [win_P hp]; exact hmax _
/-- of all parts with fewer corners the claim holds -/
def IHm (P P0 : Nat → Pt9) (n : Nat) (f : Pt9) (M : Nat) : Prop := ∀ (a : Nat → Nat) (m : Nat), m < M → Inv P P0 n a m → ∀ (o : Int) (r : Nat), 1 ≤ r → (∀ t, fi f (P (a t)) ≤ fi f (P (a r))) → 0 < o * tu (P (a (r - 1))) (P (a r)) (P (a (r + 1))) → Claim P P0 n o a m
theorem main_z {P P0 : Nat → Pt9} {n m : Nat} {f : Pt9} {a : Nat → Nat} {b c : Pt9} {o : Int} (E : Env9 P n f) (hP : ∀ i, P i = (2 * (P0 i).1, 2 * (P0 i).2)) (I : Inv P P0 n a m) (h4 : 4 ≤ m) (IH : IHm P P0 n f m) (T : Tri P a m b c) (hmax : ∀ t, fi f (P (a t)) ≤ fi f (P (a 0))) (ho : 0 < o * tu (P (a (m - 1))) (P (a 0)) (P (a 1))) {z : Nat} (hz : z < m) (hA : 0 < tu (P (a 0)) b (P (a z))) (hB : 0 < tu (P (a 0)) (P (a z)) c) (hG : 0 ≤ tu b c (P (a z))) (hq : ∀ t, 0 < tu (P (a 0)) b (P (a t)) → 0 < tu (P (a 0)) (P (a t)) c → tu b c (P (a t)) ≤ tu b c (P (a z))) : Claim P P0 n o a m := by
  have hS := I.1
  have hp := E.2.1
  have hτ := T.2
  have em : a m = a 0 + n := by have := hS.2.2 0; rw [Nat.zero_add] at this; exact this
  have hm0 : P (a m) = P (a 0) := by rw [em, hp]
  have zb : P (a z) ≠ b := fun q => by rw [q, tu_self2] at hA; omega
  have zc : P (a z) ≠ c := fun q => by rw [q, tu_self2] at hB; omega
  have z0 : z ≠ 0 := fun q => by rw [q, tu_self1] at hA; omega
  have z1 : z ≠ 1 := fun q => by
    rw [q] at zb zc
    rcases T.1 with ⟨h1, h2⟩ | ⟨h1, h2⟩
    · exact zb h1.symm
    · exact zc h2.symm
  have z2 : z ≠ m - 1 := fun q => by
    rw [q] at zb zc
    rcases T.1 with ⟨h1, h2⟩ | ⟨h1, h2⟩
    · exact zc h2.symm
    · exact zb h1.symm
  have hg := Dz E I h4 T hmax hA hB hG hq
  have hne : P (a 0) ≠ P (a z) := (q_ne0 E hS (by omega) hz).symm
  have sm := tri_sum (P (a 0)) b c (P (a z))
  have hin := insM E hP I h4 T hmax (show -1 ≤ tu b c (P (a z)) by omega) hq hg hne (by rw [Nat.mod_eq_of_lt hz, Nat.zero_add, Nat.mod_eq_of_lt (show 1 < m by omega)]; exact z1) (by rw [Nat.zero_mod, Nat.mod_eq_of_lt (show z + 1 < m by omega)]; omega) (by rw [tu_self1]; omega) (by rw [tu_self3]; omega) (by rw [← tu_cyc (P (a 0)) b c]; omega)
  obtain ⟨ok1, ok2⟩ := okc_rev ⟨hg, hin⟩
  have e0 : P0 (a 0 + n) = P0 (a 0) := by have := p0_per hp hP (a 0) 1; rw [Nat.mul_one] at this; exact this
  have okz : okc P P0 n (a z) (a 0 + n) := by
    refine Or.inr ⟨by rw [hp]; exact gd_sym hg, ?_⟩
    have : mid P0 (a z) (a 0 + n) = mid P0 (a 0) (a z) := by unfold mid; rw [e0, Int.add_comm, Int.add_comm (P0 (a z)).2]
    rw [this]; exact hin
  have okm : okc P P0 n (a m) (a z + n) := by
    have := okc_shift hp hP 1 ok1
    rw [Nat.mul_one, ← em] at this
    exact this
  have S1 := sep1 E I T hmax (show 2 ≤ z by omega) (show z + 2 ≤ m by omega) hA hB hg
  have S2 := sep2 E I T hmax (show 2 ≤ z by omega) (show z + 2 ≤ m by omega) hA hB hg
  have X := fun x (hx : ∀ t, P x ≠ P (a t)) => sepX E I (show 2 ≤ z by omega) (show z + 2 ≤ m by omega) hg S1 S2 hx
  have qm : ∀ t, P (a t) = P (a (t % m)) := fun t => q_mod E hS (Nat.mod_mod _ _).symm
  have I1 := InvW E hP I (lo := 0) (hi := z) (by omega) (by omega) okz (fun s s1 s2 => by rw [Nat.zero_add]; exact S2 s s1 s2) (fun x hx => by
    by_cases w : ∃ t, P x = P (a t)
    · obtain ⟨t, ht⟩ := w
      rw [qm] at ht
      have hl := Nat.mod_lt t (show 0 < m by omega)
      rw [ht] at hx ⊢
      rcases Nat.lt_or_ge z (t % m) with v | v
      · exact S1 _ v hl
      · exact absurd rfl (hx (t % m) (Nat.zero_le _) v)
    · exact (X x (fun t q => w ⟨t, q⟩)).1)
  have I2 := InvW E hP I (lo := z) (hi := m) (by omega) (by omega) okm (fun s s1 s2 => by
    have := hh_shift (P := fun t => P (a t)) (n := m) (fun i => q_per E hS i) 0 z 1 (P (a s))
    rw [Nat.mul_one, Nat.zero_add] at this
    unfold wp
    rw [this]
    exact S1 s s1 s2) (fun x hx => by
    by_cases w : ∃ t, P x = P (a t)
    · obtain ⟨t, ht⟩ := w
      rw [qm] at ht
      have hl := Nat.mod_lt t (show 0 < m by omega)
      rw [ht] at hx ⊢
      rcases Nat.lt_or_ge (t % m) z with v | v
      · refine S2 _ ?_ v
        rcases Nat.eq_zero_or_pos (t % m) with y | y
        · exact absurd (by rw [y, hm0]) (hx m (by omega) (Nat.le_refl _))
        · exact y
      · exact absurd rfl (hx (t % m) v (by omega))
    · exact (X x (fun t q => w ⟨t, q⟩)).2)
  obtain ⟨o1, o2⟩ := sgn_z T hA hB ho
  refine claim_z (z := z) E hP hS (by omega) (by omega) ?_ ?_
  · rw [Nat.sub_zero] at I1 ⊢
    have w0 := win_1 (a := a) (n := n) (lo := 0) (r := 0) (len := z + 1) (by omega)
    have w1 := win_1 (a := a) (n := n) (lo := 0) (r := 1) (len := z + 1) (by omega)
    have wz := win_0 (a := a) (n := n) (lo := 0) (r := z) (len := z + 1) (by omega)
    rw [Nat.zero_add (z + 1), Nat.add_zero] at w0
    rw [Nat.zero_add] at w1 wz
    have p09 : P (win a n 0 (z + 1) (z + 1)) = P (a 0) := by rw [w0, hp]
    have p1 : P (win a n 0 (z + 1) (z + 1 + 1)) = P (a 1) := by rw [show z + 1 + 1 = 1 + (z + 1) by omega, w1, hp]
    refine IH _ (z + 1) (by omega) I1 o (z + 1) (by omega) (fun t => by rw [p09]; exact fi_all hp hmax _ _ _) ?_
    rw [show z + 1 - 1 = z by omega, p09, p1, wz]
    exact o1
  · have w0 := win_0 (a := a) (n := n) (lo := z) (r := m - z) (len := m - z + 1) (by omega)
    have w1 := win_1 (a := a) (n := n) (lo := z) (r := 0) (len := m - z + 1) (by omega)
    have wz := win_0 (a := a) (n := n) (lo := z) (r := m - z - 1) (len := m - z + 1) (by omega)
    rw [show z + (m - z) = m by omega] at w0
    rw [Nat.zero_add, Nat.add_zero] at w1
    rw [show z + (m - z - 1) = m - 1 by omega] at wz
    have p09 : P (win a n z (m - z + 1) (m - z)) = P (a 0) := by rw [w0, hm0]
    refine IH _ (m - z + 1) (by omega) I2 o (m - z) (by omega) (fun t => by rw [p09]; exact fi_all hp hmax _ _ _) ?_
    rw [p09, wz, w1, hp]
    exact o2
