theorem sepX {P P0 : Nat → Pt9} {n m : Nat} {f : Pt9} {a : Nat → Nat} (E : Env9 P n f) (I : Inv P P0 n a m) {z : Nat} (z1 : 2 ≤ z) (z2 : z + 2 ≤ m) (hg : gd P (P (a 0)) (P (a z))) (S1 : ∀ s, z < s → s < m → wp P a 0 z (P (a s)) = false) (S2 : ∀ s, 0 < s → s < z → wp P a z m (P (a s)) = false) {x : Nat} (hx : ∀ t, P x ≠ P (a t)) : wp P a 0 z (P x) = false ∧ wp P a z m (P x) = false := by
  have hS := I.1
  have hm0 : P (a m) = P (a 0) := by have := q_per E hS 0; rw [Nat.zero_add] at this; exact this
  have hg2 : gd P (P (a z)) (P (a m)) := by rw [hm0]; exact gd_sym hg
  have j2 := I.2.2.1 x hx
  rw [par_split E hS (lo := 0) (hi := z) (by omega) (by omega) (fun q => (hg.1 _ q).elim (hx 0) (hx z)), Nat.zero_add] at j2
  have one : wp P a 0 z (P x) = false ∨ wp P a z m (P x) = false := by
    rcases hang E hS x with ⟨t, ht⟩ | ⟨t, x', t1, t2, t3, t4⟩
    · exact absurd ht (hx t)
    · rw [← t4]
      rcases Nat.lt_or_ge t z with q | q
      · refine Or.inr ?_
        have c := wpK_c E I (show z < m by omega) hg2 t2 t3
        have nu : ∀ s, 0 < s → s < z → ∀ e, z ≤ e → e ≤ m → P (a s) ≠ P (a e) := fun s h1 h2 e h3 h4 => by
          rcases Nat.lt_or_ge e m with w | w
          · exact q_neq E hS (by omega) (by omega)
          · rw [show e = m by omega, hm0]; exact (q_neq E hS h1 (by omega)).symm
        rcases Nat.eq_zero_or_pos t with w | w
        · rw [c.2 (nu (t + 1) (by omega) (by omega))]; exact S2 (t + 1) (by omega) (by omega)
        · rw [c.1 (nu t w q)]; exact S2 t w q
      · refine Or.inl ?_
        have c := wpK_c E I (show 0 < z by omega) hg t2 t3
        rcases Nat.lt_or_ge z t with w | w
        · rw [c.1 (fun e _ h => (q_neq E hS (by omega) (by omega)).symm)]; exact S1 t w t1
        · rw [c.2 (fun e _ h => (q_neq E hS (by omega) (by omega)).symm)]; exact S1 (t + 1) (by omega) (by omega)
  rcases one with q | q
  · rw [q] at j2; exact ⟨q, (by revert j2; cases wp P a z m (P x) <;> intro j <;> first | rfl | cases j)⟩
  · rw [q] at j2; exact ⟨(by revert j2; cases wp P a 0 z (P x) <;> intro j <;> first | rfl | cases j), q⟩
theorem adjQ {P : Nat → Pt9} {n m : Nat} {f : Pt9} {a : Nat → Nat} (E : Env9 P n f) (h : Sub n a m) {s s' t : Nat} (h1 : P (a t) = P (a s)) (h2 : P (a (t + 1)) = P (a s')) : s' % m = (s + 1) % m := by
  have e1 := q_inj E h h1
  have e2 := q_inj E h h2
  rw [← e2, Nat.add_mod, e1, ← Nat.add_mod]
theorem insM {P P0 : Nat → Pt9} {n m : Nat} {f : Pt9} {a : Nat → Nat} {b c : Pt9} (E : Env9 P n f) (hP : ∀ i, P i = (2 * (P0 i).1, 2 * (P0 i).2)) (I : Inv P P0 n a m) (h4 : 4 ≤ m) (T : Tri P a m b c) (hmax : ∀ t, fi f (P (a t)) ≤ fi f (P (a 0))) {g0 : Int} (hg0 : -1 ≤ g0) (hq : ∀ t, 0 < tu (P (a 0)) b (P (a t)) → 0 < tu (P (a 0)) (P (a t)) c → tu b c (P (a t)) ≤ g0) {s s' : Nat} (hg : gd P (P (a s)) (P (a s'))) (hne : P (a s) ≠ P (a s')) (n1 : s' % m ≠ (s + 1) % m) (n2 : s % m ≠ (s' + 1) % m) (hA : 0 < tu (P (a 0)) b (P (a s)) + tu (P (a 0)) b (P (a s'))) (hB : 0 < tu (P (a 0)) (P (a s)) c + tu (P (a 0)) (P (a s')) c) (hG : 2 * g0 < tu b c (P (a s)) + tu b c (P (a s'))) : par (mid P0 (a s) (a s')) h0 P n = true := by
  have m1 : 2 * (mid P0 (a s) (a s')).1 = (P (a s)).1 + (P (a s')).1 := by
    rw [hP (a s), hP (a s')]
    show 2 * ((P0 (a s)).1 + (P0 (a s')).1) = 2 * (P0 (a s)).1 + 2 * (P0 (a s')).1
    omega
  have m2 : 2 * (mid P0 (a s) (a s')).2 = (P (a s)).2 + (P (a s')).2 := by
    rw [hP (a s), hP (a s')]
    show 2 * ((P0 (a s)).2 + (P0 (a s')).2) = 2 * (P0 (a s)).2 + 2 * (P0 (a s')).2
    omega
  generalize mid P0 (a s) (a s') = M at *
  obtain ⟨k1, k2⟩ := hhM E I hg hne (fun t => ⟨fun q => n1 (adjQ E I.1 q.1 q.2), fun q => n2 (adjQ E I.1 q.1 q.2)⟩) m1 m2
  have lA : 2 * tu (P (a 0)) b M = tu (P (a 0)) b (P (a s)) + tu (P (a 0)) b (P (a s')) := by unfold tu; grind
  have lB : 2 * tu (P (a 0)) M c = tu (P (a 0)) (P (a s)) c + tu (P (a 0)) (P (a s')) c := by unfold tu; grind
  have lG : 2 * tu b c M = tu b c (P (a s)) + tu b c (P (a s')) := by unfold tu; grind
  rw [par_dec E I.1 k1, Reg E I h4 T hmax hg0 hq (by omega) (by omega) (by omega) k1, xs_0 m (fun t _ => k2 t)]
  rfl
theorem side0 {p : Nat → Pt9} {m : Nat} {y d : Pt9} (hd : ¬ (d.1 = 0 ∧ d.2 = 0)) (hc : p m = p 0) (hx : ∀ t, t < m → ¬ onS y (p t) (p (t + 1))) (hs : ∀ t, 0 < sid y d (p t)) : par y h0 p m = false := by
  rw [par_d h0_ne hd hc hx]
  refine xs_0 m (fun t _ => ?_)
  unfold crd
  simp only [hs, decide_true]
  rfl
theorem wp_side {P P0 : Nat → Pt9} {n m : Nat} {f : Pt9} {a : Nat → Nat} (E : Env9 P n f) (I : Inv P P0 n a m) {i j : Nat} (hij : i < j) (hg : gd P (P (a i)) (P (a j))) {x : Nat} {d : Pt9} (hd : ¬ (d.1 = 0 ∧ d.2 = 0)) (hx : ∀ e, i ≤ e → e ≤ j → P x ≠ P (a e)) (hs : ∀ e, i ≤ e → e ≤ j → 0 < sid (P x) d (P (a e))) : wp P a i j (P x) = false := by
  have hpe : ∀ t, ∃ e, i ≤ e ∧ e ≤ j ∧ (t ≤ j - i + 1 → Hp (fun t => P (a t)) i j t = P (a e)) := fun t => by
    by_cases q : t ≤ j - i + 1
    · obtain ⟨e, e1, e2, e3⟩ := hp_v (P := fun t => P (a t)) hij q
      exact ⟨e, e1, e2, fun _ => e3⟩
    · exact ⟨i, by omega, by omega, fun w => absurd w q⟩
  have h1 : wp P a i j (P x) = par (P x) h0 (fun t => if t ≤ j - i + 1 then Hp (fun t => P (a t)) i j t else P (a i)) (j - i + 1) := by
    unfold wp hh par
    refine xs_c _ (fun t ht => ?_)
    show _ = crd _ _ (if t ≤ j - i + 1 then _ else _) (if t + 1 ≤ j - i + 1 then _ else _)
    rw [if_pos (by omega), if_pos (by omega)]
  rw [h1]
  refine side0 hd ?_ (fun t ht => ?_) (fun t => ?_)
  · show (if j - i + 1 ≤ j - i + 1 then _ else _) = (if 0 ≤ j - i + 1 then _ else _)
    rw [if_pos (by omega), if_pos (by omega)]
    exact hp_c (P := fun t => P (a t)) hij
  · show ¬ onS _ (if t ≤ j - i + 1 then _ else _) (if t + 1 ≤ j - i + 1 then _ else _)
    rw [if_pos (by omega), if_pos (by omega)]
    rcases hp_e (P := fun t => P (a t)) hij ht with ⟨e, a1, a2, a3, a4⟩ | ⟨a3, a4⟩
    · rw [a3, a4]; exact fun q => ((inv_gd E I e).1 _ q).elim (hx e a1 (by omega)) (hx (e + 1) (by omega) (by omega))
    · rw [a3, a4]; exact fun q => (hg.1 _ (onS_c q)).elim (hx i (by omega) (by omega)) (hx j (by omega) (by omega))
  · show 0 < sid _ _ (if t ≤ j - i + 1 then _ else _)
    by_cases q : t ≤ j - i + 1
    · rw [if_pos q]
      obtain ⟨e, e1, e2, e3⟩ := hpe t
      rw [e3 q]; exact hs e e1 e2
    · rw [if_neg q]; exact hs i (by omega) (by omega)
/-- the utmost corner lies outside of the rest -/
theorem wp_v {P P0 : Nat → Pt9} {n m : Nat} {f : Pt9} {a : Nat → Nat} (E : Env9 P n f) (I : Inv P P0 n a m) (hmax : ∀ t, fi f (P (a t)) ≤ fi f (P (a 0))) (h3 : 3 ≤ m) (hg : gd P (P (a 1)) (P (a (m - 1)))) : wp P a 1 (m - 1) (P (a 0)) = false := by
  have hS := I.1
  have hl : ∀ e, 1 ≤ e → e ≤ m - 1 → fi f (P (a e)) < fi f (P (a 0)) := fun e h1 h2 => fi_lt E hS hmax h1 (by omega)
  refine wp_side E I (by omega) hg (x := a 0) (d := (- f.2, f.1)) (fun q => ?_) (fun e h1 h2 => (q_ne0 E hS h1 (by omega)).symm) (fun e h1 h2 => ?_)
  · have h9 := hl 1 (by omega) (by omega)
    have q1 : f.2 = 0 := by have := q.1; simp at this; omega
    have q2 : f.1 = 0 := q.2
    unfold fi at h9
    rw [q1, q2] at h9
    simp at h9
  · have h9 := hl e h1 h2
    have e1 : sid (P (a 0)) (- f.2, f.1) (P (a e)) = fi f (P (a 0)) - fi f (P (a e)) := by unfold sid fi; grind
    omega
/-- what is not in the triangle lies outside of it -/
theorem wp_tri {P P0 : Nat → Pt9} {n m : Nat} {f : Pt9} {a : Nat → Nat} {b c : Pt9} (E : Env9 P n f) (I : Inv P P0 n a m) (T : Tri P a m b c) (hg : gd P b c) {x : Nat} (hx : ∀ e, m - 1 ≤ e → e ≤ 1 + m → P x ≠ P (a e)) (ho : tu (P (a 0)) b (P x) < 0 ∨ tu (P (a 0)) (P x) c < 0 ∨ tu b c (P x) < 0) : wp P a (m - 1) (1 + m) (P x) = false := by
  have hS := I.1
  have h3 := hS.1
  have hτ := T.2
  have hm0 : P (a m) = P (a 0) := by have := q_per E hS 0; rw [Nat.zero_add] at this; exact this
  have hm1 : P (a (1 + m)) = P (a 1) := q_per E hS 1
  have hgd : gd P (P (a (m - 1))) (P (a (1 + m))) := by
    rw [hm1]
    rcases T.1 with ⟨h1, h2⟩ | ⟨h1, h2⟩
    · rw [← h1, ← h2]; exact gd_sym hg
    · rw [← h1, ← h2]; exact hg
  have hv : ∀ e, m - 1 ≤ e → e ≤ 1 + m → P (a e) = P (a 0) ∨ P (a e) = b ∨ P (a e) = c := fun e h1 h2 => by
    rcases (show e = m - 1 ∨ e = m ∨ e = 1 + m by omega) with q | q | q
    · rw [q]; rcases T.1 with ⟨h1, h2⟩ | ⟨h1, h2⟩
      · exact Or.inr (Or.inr h2.symm)
      · exact Or.inr (Or.inl h1.symm)
    · rw [q]; exact Or.inl hm0
    · rw [q, hm1]; rcases T.1 with ⟨h1, h2⟩ | ⟨h1, h2⟩
      · exact Or.inr (Or.inl h1.symm)
      · exact Or.inr (Or.inr h2.symm)
  have go : ∀ e1 e2 : Pt9, e1 ≠ e2 → tu e1 e2 (P x) < 0 → 0 ≤ tu e1 e2 (P (a 0)) → 0 ≤ tu e1 e2 b → 0 ≤ tu e1 e2 c → wp P a (m - 1) (1 + m) (P x) = false := fun e1 e2 hne h0 hA hB hC => by
    refine wp_side E I (by omega) hgd (d := vec e1 e2) (vec_ne hne) hx (fun e h1 h2 => ?_)
    have id : ∀ p, sid (P x) (vec e1 e2) p = tu e1 e2 p - tu e1 e2 (P x) := fun p => by unfold sid vec tu; grind
    rw [id]
    rcases hv e h1 h2 with q | q | q
    · rw [q]; omega
    · rw [q]; omega
    · rw [q]; omega
  have nvb : P (a 0) ≠ b := fun q => by rw [← q, tu_self3] at hτ; omega
  have nvc : P (a 0) ≠ c := fun q => by rw [← q, tu_self1] at hτ; omega
  have nbc : b ≠ c := fun q => by rw [← q, tu_self2] at hτ; omega
  rcases ho with q | q | q
  · exact go (P (a 0)) b nvb q (by rw [tu_self1]; omega) (by rw [tu_self2]; omega) (by omega)
  · exact go c (P (a 0)) (Ne.symm nvc) (by rw [tu_cyc]; exact q) (by rw [tu_self2]; omega) (by rw [tu_cyc]; omega) (by rw [tu_self1]; omega)
  · exact go b c nbc q (by rw [← tu_cyc (P (a 0)) b c]; omega) (by rw [tu_self1]; omega) (by rw [tu_self2]; omega)
