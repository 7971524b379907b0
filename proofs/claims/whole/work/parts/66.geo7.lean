/-- v = corner 0 of the part, b and c its neighbours -/
def Tri (P : Nat → Pt9) (a : Nat → Nat) (m : Nat) (b c : Pt9) : Prop := ((b = P (a 1) ∧ c = P (a (m - 1))) ∨ (b = P (a (m - 1)) ∧ c = P (a 1))) ∧ 0 < tu (P (a 0)) b c
theorem nadj {P : Nat → Pt9} {n m : Nat} {f : Pt9} {a : Nat → Nat} (E : Env9 P n f) (h : Sub n a m) {e s s' : Nat} (h1 : P e = P (a s)) (h2 : P (e + 1) = P (a s')) : s' % m = (s + 1) % m := by
  have e1 := pt_mod E h1
  have e2 : P (a s + 1) = P (e + 1) := by
    rw [← per_m E.2.1 (a s + 1), ← per_m E.2.1 (e + 1), Nat.add_mod (a s), Nat.add_mod e, e1]
  rcases Nat.lt_or_ge (a s + 1) (a (s + 1)) with q | q
  · exact absurd (e2.trans h2) (CH E h (Nat.lt_succ_self _) q s')
  · have := h.2.1 s
    have e3 : a (s + 1) = a s + 1 := by omega
    exact (q_inj E h (by rw [e3, e2, h2])).symm
theorem q_ne0 {P : Nat → Pt9} {n m : Nat} {f : Pt9} {a : Nat → Nat} (E : Env9 P n f) (h : Sub n a m) {t : Nat} (h1 : 1 ≤ t) (h2 : t < m) : P (a t) ≠ P (a 0) := fun q => by
  have := q_inj E h q
  rw [Nat.mod_eq_of_lt h2, Nat.zero_mod] at this
  omega
theorem fi_lt {P : Nat → Pt9} {n m : Nat} {f : Pt9} {a : Nat → Nat} (E : Env9 P n f) (h : Sub n a m) (hmax : ∀ t, fi f (P (a t)) ≤ fi f (P (a 0))) {t : Nat} (h1 : 1 ≤ t) (h2 : t < m) : fi f (P (a t)) < fi f (P (a 0)) := by
  have h3 := sub_lt h (show 0 < t by omega)
  have h4 := sub_lt h h2
  have h5 := h.2.2 0
  rw [Nat.zero_add] at h5
  have := E.2.2.1 (a 0) (a t) h3 (by omega)
  have := hmax t
  omega
theorem tri_ix {P : Nat → Pt9} {a : Nat → Nat} {m : Nat} {b c : Pt9} (h3 : 3 ≤ m) (T : Tri P a m b c) : ∃ sb sc, b = P (a sb) ∧ c = P (a sc) ∧ 1 ≤ sb ∧ sb < m ∧ 1 ≤ sc ∧ sc < m ∧ ((sb = 1 ∧ sc = m - 1) ∨ (sb = m - 1 ∧ sc = 1)) := by
  rcases T.1 with ⟨h1, h2⟩ | ⟨h1, h2⟩
  · exact ⟨1, m - 1, h1, h2, by omega, by omega, by omega, by omega, Or.inl ⟨rfl, rfl⟩⟩
  · exact ⟨m - 1, 1, h1, h2, by omega, by omega, by omega, by omega, Or.inr ⟨rfl, rfl⟩⟩
theorem gd_1 {P P0 : Nat → Pt9} {n m : Nat} {f : Pt9} {a : Nat → Nat} (E : Env9 P n f) (I : Inv P P0 n a m) {s : Nat} (hs : s = 1 ∨ s = m - 1) : gd P (P (a 0)) (P (a s)) := by
  rcases hs with rfl | rfl
  · exact inv_gd E I 0
  · have h := inv_gd E I (m - 1)
    have h3 := I.1.1
    rw [show m - 1 + 1 = 0 + m by omega, q_per E I.1] at h
    exact gd_sym h
theorem okf_Q {P P0 : Nat → Pt9} {n m : Nat} {f : Pt9} {a : Nat → Nat} {b c : Pt9} (E : Env9 P n f) (I : Inv P P0 n a m) (h4 : 4 ≤ m) (T : Tri P a m b c) {t : Nat} (h1 : 1 ≤ t) (h2 : t + 1 < m) : Okf (P (a 0)) b c (P (a t)) (P (a (t + 1))) := by
  have hS := I.1
  obtain ⟨sb, sc, rfl, rfl, b1, b2, c1, c2, hbc⟩ := tri_ix (by omega) T
  have gb : gd P (P (a 0)) (P (a sb)) := gd_1 E I (by omega)
  have gc : gd P (P (a 0)) (P (a sc)) := gd_1 E I (by omega)
  have gt := inv_gd E I t
  refine ⟨Cr E I gb t, Cr E I gc t, gb.1 _, gb.1 _, gc.1 _, gc.1 _, fun q => ?_, gt.1 _, gt.1 _, fun q => ?_, fun q => ?_⟩
  · rcases gt.1 _ q with r | r
    · exact q_ne0 E hS h1 (by omega) r.symm
    · exact q_ne0 E hS (by omega) h2 r.symm
  · have r1 := q_inj E hS q.1
    have r2 := q_inj E hS q.2
    rw [Nat.mod_eq_of_lt (show t < m by omega), Nat.mod_eq_of_lt b2] at r1
    rw [Nat.mod_eq_of_lt h2, Nat.mod_eq_of_lt c2] at r2
    omega
  · have r1 := q_inj E hS q.1
    have r2 := q_inj E hS q.2
    rw [Nat.mod_eq_of_lt (show t < m by omega), Nat.mod_eq_of_lt c2] at r1
    rw [Nat.mod_eq_of_lt h2, Nat.mod_eq_of_lt b2] at r2
    omega
theorem okf_P {P P0 : Nat → Pt9} {n m : Nat} {f : Pt9} {a : Nat → Nat} {b c : Pt9} (E : Env9 P n f) (I : Inv P P0 n a m) (h4 : 4 ≤ m) (T : Tri P a m b c) {e : Nat} (h1 : P e ≠ P (a 0)) (h2 : P (e + 1) ≠ P (a 0)) : Okf (P (a 0)) b c (P e) (P (e + 1)) := by
  have hS := I.1
  obtain ⟨sb, sc, rfl, rfl, b1, b2, c1, c2, hbc⟩ := tri_ix (by omega) T
  have gb : gd P (P (a 0)) (P (a sb)) := gd_1 E I (by omega)
  have gc : gd P (P (a 0)) (P (a sc)) := gd_1 E I (by omega)
  have gt := E.2.2.2 e
  have m1 : (m - 1 + 1) % m = 0 := by rw [show m - 1 + 1 = m by omega, Nat.mod_self]
  have m2 : (1 + 1) % m = 2 := Nat.mod_eq_of_lt (by omega)
  refine ⟨gb.2 e, gc.2 e, gb.1 _, gb.1 _, gc.1 _, gc.1 _, fun q => ?_, gt.1 _, gt.1 _, fun q => ?_, fun q => ?_⟩
  · rcases gt.1 _ q with r | r
    · exact h1 r.symm
    · exact h2 r.symm
  · have r := nadj E hS q.1 q.2
    rw [Nat.mod_eq_of_lt c2] at r
    rcases hbc with ⟨rfl, rfl⟩ | ⟨rfl, rfl⟩
    · omega
    · omega
  · have r := nadj E hS q.1 q.2
    rw [Nat.mod_eq_of_lt b2] at r
    rcases hbc with ⟨rfl, rfl⟩ | ⟨rfl, rfl⟩
    · omega
    · omega
theorem fi_tri (f v b c p : Pt9) : tu v b c * fi f p = tu b c p * fi f v + tu v p c * fi f b + tu v b p * fi f c := by
  have e1 := tri_1 v b c p
  have e2 := tri_2 v b c p
  unfold fi
  grind
theorem fi_in {f v b c p : Pt9} (hτ : 0 < tu v b c) (hA : 0 < tu v b p) (hB : 0 < tu v p c) (hb : fi f b < fi f v) (hc : fi f c < fi f v) : fi f p < fi f v := by
  have e := fi_tri f v b c p
  have s := tri_sum v b c p
  have d1 := mpp hB (show 0 < fi f v - fi f b by omega)
  have d2 := mpp hA (show 0 < fi f v - fi f c by omega)
  have e2 : tu v b c * (fi f v - fi f p) = tu v p c * (fi f v - fi f b) + tu v b p * (fi f v - fi f c) := by grind
  have := pos_l hτ (show 0 < tu v b c * (fi f v - fi f p) by omega)
  omega
theorem tu_cyc (x y z : Pt9) : tu x y z = tu y z x := by unfold tu; grind
theorem wedge_par {v b c y : Pt9} (hA : 0 < tu v b y) (hB : 0 < tu v y c) : decide (0 < tu y v b) = true ∧ decide (0 < tu y v c) = false := by
  constructor
  · rw [tu_cyc y v b]; exact decide_eq_true hA
  · rw [tu_cyc y v c, tu_vc]; exact decide_eq_false (by omega)
theorem tri_par {P : Nat → Pt9} {a : Nat → Nat} {m : Nat} {b c y : Pt9} (T : Tri P a m b c) (hA : 0 < tu (P (a 0)) b y) (hB : 0 < tu (P (a 0)) y c) : (decide (0 < tu y (P (a 0)) (P (a 1))) ^^ decide (0 < tu y (P (a 0)) (P (a (m - 1))))) = true := by
  obtain ⟨w1, w2⟩ := wedge_par hA hB
  rcases T.1 with ⟨h1, h2⟩ | ⟨h1, h2⟩
  · rw [← h1, ← h2, w1, w2]; rfl
  · rw [← h1, ← h2, w1, w2]; rfl
/-- points near the utmost corner lie in the part -/
theorem Reg {P P0 : Nat → Pt9} {n m : Nat} {f : Pt9} {a : Nat → Nat} {b c : Pt9} (E : Env9 P n f) (I : Inv P P0 n a m) (h4 : 4 ≤ m) (T : Tri P a m b c) (hmax : ∀ t, fi f (P (a t)) ≤ fi f (P (a 0))) {g0 : Int} (hg0 : -1 ≤ g0) (hq : ∀ t, 0 < tu (P (a 0)) b (P (a t)) → 0 < tu (P (a 0)) (P (a t)) c → tu b c (P (a t)) ≤ g0) {y : Pt9} (hA : 0 < tu (P (a 0)) b y) (hB : 0 < tu (P (a 0)) y c) (hG : g0 < tu b c y) (hy : ∀ t, ¬ onS y (P (a t)) (P (a (t + 1)))) : par y h0 (fun t => P (a t)) m = true := by
  have hS := I.1
  have hτ := T.2
  obtain ⟨sb, sc, eb, ec, b1, b2, c1, c2, hbc⟩ := tri_ix (by omega) T
  have fb := fi_lt E hS hmax b1 b2
  have fc := fi_lt E hS hmax c1 c2
  rw [← eb] at fb
  rw [← ec] at fc
  have fy := fi_in hτ hA hB fb fc
  obtain ⟨k, rfl⟩ : ∃ k, m = k + 2 := ⟨m - 2, by omega⟩
  have key := par_L (x := y) (v := P (a 0)) (f := f) (h := h0) (p := fun t => P (a t)) (k := k) h0_ne (by have := q_per E hS 0; rw [Nat.zero_add] at this; exact this) rfl fy hmax (fun t t1 t2 => ?_) (fun t _ => hy t)
  · rw [key]
    have := tri_par T hA hB
    rw [show k + 2 - 1 = k + 1 by omega] at this
    exact this
  · have ho := okf_Q E I h4 T t1 (show t + 1 < k + 2 by omega)
    have non : ∀ t, P (a t) ≠ P (a 0) → ¬ onS (P (a t)) y (P (a 0)) := fun t ht hon => by
      obtain ⟨s, r, s1, s2, s3, s4, s5⟩ := hon
      have lA : (s + r) * tu (P (a 0)) b (P (a t)) = s * tu (P (a 0)) b y + r * tu (P (a 0)) b (P (a 0)) := by unfold tu; grind
      have lB : (s + r) * tu (P (a 0)) (P (a t)) c = s * tu (P (a 0)) y c + r * tu (P (a 0)) (P (a 0)) c := by unfold tu; grind
      have lG : (s + r) * tu b c (P (a t)) = s * tu b c y + r * tu b c (P (a 0)) := by unfold tu; grind
      rw [tu_self1, Int.mul_zero, Int.add_zero] at lA
      rw [tu_self3, Int.mul_zero, Int.add_zero] at lB
      by_cases s0 : s = 0
      · rw [s0, Int.zero_add] at s3 s4 s5
        rw [Int.zero_mul, Int.zero_add] at s4 s5
        exact ht (Prod.ext (mul_cancel s3 s4) (mul_cancel s3 s5))
      · have sp : 0 < s := by omega
        have A1 := pos_l s3 (show 0 < (s + r) * tu (P (a 0)) b (P (a t)) by rw [lA]; exact mpp sp hA)
        have B1 := pos_l s3 (show 0 < (s + r) * tu (P (a 0)) (P (a t)) c by rw [lB]; exact mpp sp hB)
        have G1 := hq t A1 B1
        have sm := tri_sum (P (a 0)) b c y
        have e3 : tu b c (P (a 0)) = tu (P (a 0)) b c := by rw [← tu_cyc (P (a 0)) b c]
        rw [e3] at lG
        have d1 := mzz s2 (show 0 ≤ tu (P (a 0)) b c - tu b c y by omega)
        have d2 : (s + r) * tu b c y ≤ (s + r) * tu b c (P (a t)) := by
          rw [lG, Int.add_mul]
          rw [Int.mul_sub] at d1
          omega
        have := Int.le_of_mul_le_mul_left d2 s3
        omega
    refine ⟨fun q => ?_, non t (q_ne0 E hS t1 (by omega)), non (t + 1) (q_ne0 E hS (by omega) (by omega)), ho.2.2.2.2.2.2.1⟩
    obtain ⟨p, p1, p2, p3, p4⟩ := XXc hτ ho hA hB (by omega) (PX_l q)
    rcases p1 with p1 | p1
    · rw [p1] at p2 p3 p4
      have := hq t p2 p3
      omega
    · rw [p1] at p2 p3 p4
      have := hq (t + 1) p2 p3
      omega
/-- no corner of the whole lies there -/
theorem Tz {P P0 : Nat → Pt9} {n m : Nat} {f : Pt9} {a : Nat → Nat} {b c : Pt9} (E : Env9 P n f) (I : Inv P P0 n a m) (h4 : 4 ≤ m) (T : Tri P a m b c) (hmax : ∀ t, fi f (P (a t)) ≤ fi f (P (a 0))) {g0 : Int} (hg0 : -1 ≤ g0) (hq : ∀ t, 0 < tu (P (a 0)) b (P (a t)) → 0 < tu (P (a 0)) (P (a t)) c → tu b c (P (a t)) ≤ g0) (x : Nat) (hA : 0 < tu (P (a 0)) b (P x)) (hB : 0 < tu (P (a 0)) (P x) c) : tu b c (P x) ≤ g0 := by
  refine Classical.byContradiction (fun hG => ?_)
  by_cases hx : ∃ t, P x = P (a t)
  · obtain ⟨t, ht⟩ := hx
    rw [ht] at hA hB hG
    exact hG (hq t hA hB)
  · have hx' : ∀ t, P x ≠ P (a t) := fun t q => hx ⟨t, q⟩
    have j2 := I.2.2.1 x hx'
    have := Reg E I h4 T hmax hg0 hq hA hB (by omega) (fun t q => ((inv_gd E I t).1 x q).elim (hx' t) (hx' (t + 1)))
    rw [j2] at this
    cases this
