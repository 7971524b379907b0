theorem Dz {P P0 : Nat → Pt9} {n m : Nat} {f : Pt9} {a : Nat → Nat} {b c : Pt9} (E : Env9 P n f) (I : Inv P P0 n a m) (h4 : 4 ≤ m) (T : Tri P a m b c) (hmax : ∀ t, fi f (P (a t)) ≤ fi f (P (a 0))) {z : Nat} (hA : 0 < tu (P (a 0)) b (P (a z))) (hB : 0 < tu (P (a 0)) (P (a z)) c) (hG : 0 ≤ tu b c (P (a z))) (hq : ∀ t, 0 < tu (P (a 0)) b (P (a t)) → 0 < tu (P (a 0)) (P (a t)) c → tu b c (P (a t)) ≤ tu b c (P (a z))) : gd P (P (a 0)) (P (a z)) := by
  have hτ := T.2
  have tz := Tz E I h4 T hmax (show -1 ≤ tu b c (P (a z)) by omega) hq
  refine ⟨fun x hx => Classical.byContradiction (fun q => ?_), fun e hX => ?_⟩
  · obtain ⟨s, r, s1, s2, s3, s4, s5⟩ := hx
    have lA : (s + r) * tu (P (a 0)) b (P x) = s * tu (P (a 0)) b (P (a 0)) + r * tu (P (a 0)) b (P (a z)) := by unfold tu; grind
    have lB : (s + r) * tu (P (a 0)) (P x) c = s * tu (P (a 0)) (P (a 0)) c + r * tu (P (a 0)) (P (a z)) c := by unfold tu; grind
    have lG : (s + r) * tu b c (P x) = s * tu b c (P (a 0)) + r * tu b c (P (a z)) := by unfold tu; grind
    rw [tu_self1, Int.mul_zero, Int.zero_add] at lA
    rw [tu_self3, Int.mul_zero, Int.zero_add] at lB
    have s0 : s ≠ 0 := fun s0 => q (Or.inr (by
      rw [s0, Int.zero_add] at s3 s4 s5
      rw [Int.zero_mul, Int.zero_add] at s4 s5
      exact Prod.ext (mul_cancel s3 s4) (mul_cancel s3 s5)))
    have r0 : r ≠ 0 := fun r0 => q (Or.inl (by
      rw [r0, Int.add_zero] at s3 s4 s5
      rw [Int.zero_mul, Int.add_zero] at s4 s5
      exact Prod.ext (mul_cancel s3 s4) (mul_cancel s3 s5)))
    have A1 := pos_l s3 (show 0 < (s + r) * tu (P (a 0)) b (P x) by rw [lA]; exact mpp (by omega) hA)
    have B1 := pos_l s3 (show 0 < (s + r) * tu (P (a 0)) (P x) c by rw [lB]; exact mpp (by omega) hB)
    have G1 := tz x A1 B1
    have sm := tri_sum (P (a 0)) b c (P (a z))
    rw [← tu_cyc (P (a 0)) b c] at lG
    have d1 := mpp (show 0 < s by omega) (show 0 < tu (P (a 0)) b c - tu b c (P (a z)) by omega)
    rw [Int.mul_sub] at d1
    have d2 := Int.mul_le_mul_of_nonneg_left G1 (show 0 ≤ s + r by omega)
    rw [lG, Int.add_mul] at d2
    omega
  · obtain ⟨n1, n2, -, -⟩ := PX_ne hX
    obtain ⟨p, p1, p2, p3, p4⟩ := XXc hτ (okf_P E I h4 T n1.symm n2.symm) hA hB hG hX
    rcases p1 with p1 | p1
    · rw [p1] at p2 p3 p4
      have := tz e p2 p3
      omega
    · rw [p1] at p2 p3 p4
      have := tz (e + 1) p2 p3
      omega
/-- no edge of the whole leaves the utmost corner into the part -/
theorem wedge {P P0 : Nat → Pt9} {n m : Nat} {f : Pt9} {a : Nat → Nat} {b c : Pt9} (E : Env9 P n f) (I : Inv P P0 n a m) (T : Tri P a m b c) (hmax : ∀ t, fi f (P (a t)) ≤ fi f (P (a 0))) {x e : Nat} (hx : ∀ t, P x ≠ P (a t)) (he : (P e = P (a 0) ∧ P (e + 1) = P x) ∨ (P e = P x ∧ P (e + 1) = P (a 0))) (hA : 0 < tu (P (a 0)) b (P x)) (hB : 0 < tu (P (a 0)) (P x) c) : False := by
  have hS := I.1
  have h3 := hS.1
  have hτ := T.2
  obtain ⟨sb, sc, eb, ec, b1, b2, c1, c2, hbc⟩ := tri_ix (by omega) T
  have fb := fi_lt E hS hmax b1 b2
  have fc := fi_lt E hS hmax c1 c2
  rw [← eb] at fb
  rw [← ec] at fc
  have fy := fi_in hτ hA hB fb fc
  have j2 := I.2.2.1 x hx
  obtain ⟨k, rfl⟩ : ∃ k, m = k + 2 := ⟨m - 2, by omega⟩
  have key := par_L (x := P x) (v := P (a 0)) (f := f) (h := h0) (p := fun t => P (a t)) (k := k) h0_ne (by have := q_per E hS 0; rw [Nat.zero_add] at this; exact this) rfl fy hmax (fun t t1 t2 => ?_) (fun t _ q => ((inv_gd E I t).1 x q).elim (hx t) (hx (t + 1)))
  · rw [j2] at key
    have := tri_par T hA hB
    rw [show k + 2 - 1 = k + 1 by omega] at this
    rw [this] at key
    cases key
  · have g := inv_gd E I t
    have ge := E.2.2.2 e
    have non : ∀ s, P (a s) ≠ P (a 0) → ¬ onS (P (a s)) (P x) (P (a 0)) := fun s hs hon => by
      rcases he with ⟨e1, e2⟩ | ⟨e1, e2⟩
      · rw [e1, e2] at ge
        exact (ge.1 _ (onS_c hon)).elim hs (fun q => hx s q.symm)
      · rw [e1, e2] at ge
        exact (ge.1 _ hon).elim (fun q => hx s q.symm) hs
    refine ⟨fun q => ?_, non t (q_ne0 E hS t1 (by omega)), non (t + 1) (q_ne0 E hS (by omega) (by omega)), fun q => ?_⟩
    · have g2 := g.2 e
      rcases he with ⟨e1, e2⟩ | ⟨e1, e2⟩
      · rw [e1, e2] at g2
        exact g2 (PX_r (PX_s q))
      · rw [e1, e2] at g2
        exact g2 (PX_s q)
    · rcases g.1 _ q with r | r
      · exact q_ne0 E hS t1 (by omega) r.symm
      · exact q_ne0 E hS (by omega) (by omega) r.symm
theorem Dbc0 {P P0 : Nat → Pt9} {n m : Nat} {f : Pt9} {a : Nat → Nat} {b c : Pt9} (T : Tri P a m b c) (tz : ∀ x, 0 < tu (P (a 0)) b (P x) → 0 < tu (P (a 0)) (P x) c → tu b c (P x) ≤ -1) {x y : Nat} (ho : Okf (P (a 0)) b c (P x) (P y)) (h1 : 0 < tu b c (P x)) (h2 : tu b c (P y) < 0) (h3 : tu (P x) (P y) b * tu (P x) (P y) c < 0) : False := by
  have hτ := T.2
  have e1 := tri_b (P (a 0)) b c (P x) (P y)
  have e2 := tri_c (P (a 0)) b c (P x) (P y)
  have e3 : tu (P x) (P y) c - tu (P x) (P y) b = tu b c (P x) - tu b c (P y) := by unfold tu; grind
  have hl : tu (P x) (P y) b < 0 ∧ 0 < tu (P x) (P y) c := by
    rcases Int.lt_trichotomy 0 (tu (P x) (P y) b) with q | q | q
    · have := neg_l q h3
      omega
    · rw [← q, Int.zero_mul] at h3; omega
    · exact ⟨q, Classical.byContradiction (fun w => by have := mnn (show tu (P x) (P y) b ≤ 0 by omega) (show tu (P x) (P y) c ≤ 0 by omega); omega)⟩
  have f1 := Int.mul_neg_of_pos_of_neg hτ hl.1
  have f2 := mpp hτ hl.2
  have m1 : ∀ k : Int, - tu b c (P y) * k = - (k * tu b c (P y)) := fun k => by rw [Int.neg_mul, Int.mul_comm]
  obtain ⟨p, p1, p2, p3, p4⟩ := XXo (α := - tu b c (P y)) (β := tu b c (P x)) hτ ho (by omega) (by omega) (by rw [m1]; omega) (by rw [m1]; have : tu (P (a 0)) (P x) c * tu b c (P y) = tu (P (a 0)) (P x) c * tu b c (P y) := rfl; omega) (by rw [m1]; omega)
  have hp : 0 ≤ tu b c p := by
    refine Classical.byContradiction (fun q => ?_)
    rw [m1] at p4
    have := Int.mul_neg_of_pos_of_neg (show 0 < - tu b c (P y) + tu b c (P x) by omega) (show tu b c p < 0 by omega)
    omega
  rcases p1 with p1 | p1
  · rw [p1] at p2 p3 hp
    have := tz x p2 p3
    omega
  · rw [p1] at p2 p3 hp
    have := tz y p2 p3
    omega
theorem Dbc {P P0 : Nat → Pt9} {n m : Nat} {f : Pt9} {a : Nat → Nat} {b c : Pt9} (E : Env9 P n f) (I : Inv P P0 n a m) (h4 : 4 ≤ m) (T : Tri P a m b c) (hmax : ∀ t, fi f (P (a t)) ≤ fi f (P (a 0))) (hq : ∀ t, 0 < tu (P (a 0)) b (P (a t)) → 0 < tu (P (a 0)) (P (a t)) c → tu b c (P (a t)) ≤ -1) : gd P b c := by
  have hS := I.1
  have hτ := T.2
  have tz := Tz E I h4 T hmax (Int.le_refl _) hq
  have wd : ∀ x e, ((P e = P (a 0) ∧ P (e + 1) = P x) ∨ (P e = P x ∧ P (e + 1) = P (a 0))) → 0 < tu (P (a 0)) b (P x) → 0 < tu (P (a 0)) (P x) c → False := fun x e he hA hB => by
    have hnb : P x ≠ b := fun q => by rw [q, tu_self2] at hA; omega
    have hnc : P x ≠ c := fun q => by rw [q, tu_self2] at hB; omega
    refine wedge E I T hmax (fun t q => ?_) he hA hB
    have h1 : P x ≠ P (a 1) := by rcases T.1 with ⟨h1, h2⟩ | ⟨h1, h2⟩; rw [← h1]; exact hnb; rw [← h2]; exact hnc
    have h2 : P x ≠ P (a (m - 1)) := by rcases T.1 with ⟨h1, h2⟩ | ⟨h1, h2⟩; rw [← h2]; exact hnc; rw [← h1]; exact hnb
    rcases he with ⟨e1, e2⟩ | ⟨e1, e2⟩
    · have r := nadj E hS e1 (e2.trans q)
      exact h1 (q.trans (q_mod E hS r))
    · have r := nadj E hS (e1.trans q) e2
      refine h2 (q.trans (q_mod E hS ?_))
      rw [Nat.zero_mod] at r
      have ht := Nat.mod_lt t (show 0 < m by omega)
      rw [Nat.mod_eq_of_lt (show m - 1 < m by omega)]
      rcases Nat.lt_or_ge (t % m + 1) m with w | w
      · rw [Nat.add_mod, Nat.mod_eq_of_lt (show 1 < m by omega), Nat.mod_eq_of_lt w] at r
        omega
      · omega
  refine ⟨fun x hx => Classical.byContradiction (fun q => ?_), fun e hX => ?_⟩
  · obtain ⟨s, r, s1, s2, s3, s4, s5⟩ := hx
    have lA : (s + r) * tu (P (a 0)) b (P x) = s * tu (P (a 0)) b b + r * tu (P (a 0)) b c := by unfold tu; grind
    have lB : (s + r) * tu (P (a 0)) (P x) c = s * tu (P (a 0)) b c + r * tu (P (a 0)) c c := by unfold tu; grind
    have lG : (s + r) * tu b c (P x) = s * tu b c b + r * tu b c c := by unfold tu; grind
    rw [tu_self2, Int.mul_zero, Int.zero_add] at lA
    rw [tu_self2, Int.mul_zero, Int.add_zero] at lB
    rw [tu_self1, tu_self2, Int.mul_zero, Int.mul_zero, Int.add_zero] at lG
    have s0 : s ≠ 0 := fun s0 => q (Or.inr (by
      rw [s0, Int.zero_add] at s3 s4 s5
      rw [Int.zero_mul, Int.zero_add] at s4 s5
      exact Prod.ext (mul_cancel s3 s4) (mul_cancel s3 s5)))
    have r0 : r ≠ 0 := fun r0 => q (Or.inl (by
      rw [r0, Int.add_zero] at s3 s4 s5
      rw [Int.zero_mul, Int.add_zero] at s4 s5
      exact Prod.ext (mul_cancel s3 s4) (mul_cancel s3 s5)))
    have A1 := pos_l s3 (show 0 < (s + r) * tu (P (a 0)) b (P x) by rw [lA]; exact mpp (by omega) hτ)
    have B1 := pos_l s3 (show 0 < (s + r) * tu (P (a 0)) (P x) c by rw [lB]; exact mpp (by omega) hτ)
    have G1 := tz x A1 B1
    have := Int.mul_neg_of_pos_of_neg s3 (show tu b c (P x) < 0 by omega)
    omega
  · have hX1 := hX.1
    have hX2 := hX.2
    have key : ∀ x y, (∃ e, (P e = P x ∧ P (e + 1) = P y) ∨ (P e = P y ∧ P (e + 1) = P x)) → 0 < tu b c (P x) → tu b c (P y) < 0 → tu (P x) (P y) b * tu (P x) (P y) c < 0 → False := fun x y he h1 h2 h3 => by
      obtain ⟨e, he⟩ := he
      have hyv : P y ≠ P (a 0) := fun q => by
        rw [q, ← tu_cyc (P (a 0)) b c] at h2
        omega
      by_cases hxv : P x = P (a 0)
      · have hs := tri_sum (P (a 0)) b c (P y)
        rw [hxv] at h3 he
        have i1 : tu (P (a 0)) (P y) b = - tu (P (a 0)) b (P y) := by unfold tu; grind
        rw [i1, Int.neg_mul] at h3
        have hab : 0 < tu (P (a 0)) b (P y) * tu (P (a 0)) (P y) c := by omega
        have hA : 0 < tu (P (a 0)) b (P y) := by
          refine Classical.byContradiction (fun w => ?_)
          have := mnp (show tu (P (a 0)) b (P y) ≤ 0 by omega) (show 0 ≤ tu (P (a 0)) (P y) c by omega)
          omega
        exact wd y e he hA (pos_l hA hab)
      · rcases he with ⟨e1, e2⟩ | ⟨e1, e2⟩
        · have ho := okf_P E I h4 T (e := e) (by rw [e1]; exact hxv) (by rw [e2]; exact hyv)
          rw [e1, e2] at ho
          exact Dbc0 (n := n) (P0 := P0) (f := f) T tz ho h1 h2 h3
        · have ho := okf_P E I h4 T (e := e) (by rw [e1]; exact hyv) (by rw [e2]; exact hxv)
          rw [e1, e2] at ho
          exact Dbc0 (n := n) (P0 := P0) (f := f) T tz (okf_r ho) h1 h2 h3
    rcases Int.lt_trichotomy 0 (tu b c (P e)) with q | q | q
    · exact key e (e + 1) ⟨e, Or.inl ⟨rfl, rfl⟩⟩ q (neg_l q hX1) hX2
    · rw [← q, Int.zero_mul] at hX1; omega
    · have h5 : 0 < tu b c (P (e + 1)) := Classical.byContradiction (fun w => by have := mnn (show tu b c (P e) ≤ 0 by omega) (show tu b c (P (e + 1)) ≤ 0 by omega); omega)
      refine key (e + 1) e ⟨e, Or.inr ⟨rfl, rfl⟩⟩ h5 q ?_
      have i : ∀ p, tu (P (e + 1)) (P e) p = - tu (P e) (P (e + 1)) p := fun p => by unfold tu; grind
      rw [i, i]
      have : - tu (P e) (P (e + 1)) b * - tu (P e) (P (e + 1)) c = tu (P e) (P (e + 1)) b * tu (P e) (P (e + 1)) c := by grind
      omega
