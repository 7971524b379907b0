theorem win_0 {a : Nat → Nat} {n lo len r : Nat} (h : r < len) : win a n lo len r = a (lo + r) := by
  have := win_rq (a := a) (n := n) (lo := lo) (q := 0) h
  rw [Nat.mul_zero, Nat.mul_zero, Nat.add_zero, Nat.add_zero] at this
  exact this
theorem win_1 {a : Nat → Nat} {n lo len r : Nat} (h : r < len) : win a n lo len (r + len) = a (lo + r) + n := by
  have := win_rq (a := a) (n := n) (lo := lo) (q := 1) h
  rw [Nat.mul_one, Nat.mul_one] at this
  exact this
theorem claim_z {P P0 : Nat → Pt9} {n m : Nat} {f : Pt9} {a : Nat → Nat} {o : Int} (E : Env9 P n f) (hP : ∀ i, P i = (2 * (P0 i).1, 2 * (P0 i).2)) (hS : Sub n a m) {z : Nat} (z1 : 2 ≤ z) (z2 : z + 2 ≤ m) (C1 : Claim P P0 n o (win a n 0 (z - 0 + 1)) (z - 0 + 1)) (C2 : Claim P P0 n o (win a n z (m - z + 1)) (m - z + 1)) : Claim P P0 n o a m := by
  have hp := E.2.1
  have em : a m = a 0 + n := by have := hS.2.2 0; rw [Nat.zero_add] at this; exact this
  rw [Nat.sub_zero] at C1
  refine claim_lt hp hP hS (fun t0 ht => ?_)
  rcases Nat.lt_or_ge t0 z with q | q
  · -- the side of z .. m first
    have D2 : Rx P P0 n o (bsQ a m t0) (a z) (a m) := by
      have c := C2 (m - z)
      have e9 := win_1 (a := a) (n := n) (lo := z) (r := 0) (len := m - z + 1) (by omega)
      rw [Nat.zero_add, Nat.add_zero] at e9
      rw [win_0 (show m - z < m - z + 1 by omega), show z + (m - z) = m by omega, e9] at c
      refine Rx_un hp hP hS (sub_le hS (Nat.zero_le _)) (Rx_sub (fun i j hb => ?_) c)
      obtain ⟨r, q', r1, r2, e1, e2⟩ := bsW (by omega) hb
      rw [Nat.mod_eq_of_lt (show m - z < m - z + 1 by omega)] at r2
      rcases e2 with ⟨w, e2⟩ | ⟨w, e2⟩
      · rw [e1, e2]
        exact Rx_base (bsQ_at hS (by rw [Nat.mod_eq_of_lt (show z + r < m by omega), Nat.mod_eq_of_lt ht]; omega) q')
      · omega
    have c := C1 t0
    rw [win_0 (show t0 < z + 1 by omega), win_0 (show t0 + 1 < z + 1 by omega), Nat.zero_add, Nat.zero_add] at c
    refine Rx_sub (fun i j hb => ?_) c
    obtain ⟨r, q', r1, r2, e1, e2⟩ := bsW (by omega) hb
    rw [Nat.mod_eq_of_lt (show t0 < z + 1 by omega)] at r2
    rcases e2 with ⟨w, e2⟩ | ⟨w, e2⟩
    · rw [e1, e2, Nat.zero_add]
      exact Rx_base (bsQ_at hS (by rw [Nat.mod_eq_of_lt (show r < m by omega), Nat.mod_eq_of_lt ht]; exact r2) q')
    · rw [e1, e2, show 0 + r = z by omega, ← em]
      exact Rx_sh hp hP hS q' D2
  · have D1 : Rx P P0 n o (bsQ a m t0) (a 0 + n) (a z + n) := by
      have c := C1 z
      have e9 := win_1 (a := a) (n := n) (lo := 0) (r := 0) (len := z + 1) (by omega)
      rw [Nat.zero_add (z + 1)] at e9
      rw [win_0 (show z < z + 1 by omega), e9, Nat.zero_add z] at c
      refine Rx_sub (fun i j hb => ?_) c
      obtain ⟨r, q', r1, r2, e1, e2⟩ := bsW (by omega) hb
      rw [Nat.mod_eq_of_lt (show z < z + 1 by omega)] at r2
      rcases e2 with ⟨w, e2⟩ | ⟨w, e2⟩
      · rw [e1, e2, Nat.zero_add]
        exact Rx_base (bsQ_at hS (by rw [Nat.mod_eq_of_lt (show r < m by omega), Nat.mod_eq_of_lt ht]; omega) q')
      · omega
    have c := C2 (t0 - z)
    rw [win_0 (show t0 - z < m - z + 1 by omega), win_0 (show t0 - z + 1 < m - z + 1 by omega), show z + (t0 - z) = t0 by omega, show z + (t0 - z + 1) = t0 + 1 by omega] at c
    refine Rx_sub (fun i j hb => ?_) c
    obtain ⟨r, q', r1, r2, e1, e2⟩ := bsW (by omega) hb
    rw [Nat.mod_eq_of_lt (show t0 - z < m - z + 1 by omega)] at r2
    rcases e2 with ⟨w, e2⟩ | ⟨w, e2⟩
    · rw [e1, e2]
      exact Rx_base (bsQ_at hS (by rw [Nat.mod_eq_of_lt (show z + r < m by omega), Nat.mod_eq_of_lt ht]; omega) q')
    · rw [e1, e2, show z + r = m by omega, em]
      exact Rx_sh hp hP hS q' D1
theorem claim_bc {P P0 : Nat → Pt9} {n m : Nat} {f : Pt9} {a : Nat → Nat} {o : Int} (E : Env9 P n f) (hP : ∀ i, P i = (2 * (P0 i).1, 2 * (P0 i).2)) (I : Inv P P0 n a m) (h4 : 4 ≤ m) (hD : okc P P0 n (a 1) (a (m - 1))) (ho : 0 < o * tu (P (a (m - 1))) (P (a 0)) (P (a 1))) (C3 : Claim P P0 n o (win a n 1 (m - 1 - 1 + 1)) (m - 1 - 1 + 1)) : Claim P P0 n o a m := by
  have hS := I.1
  have hp := E.2.1
  have em : a m = a 0 + n := by have := hS.2.2 0; rw [Nat.zero_add] at this; exact this
  have em1 : a (m + 1) = a 1 + n := by have := hS.2.2 1; rw [Nat.add_comm 1 m] at this; exact this
  rw [show m - 1 - 1 + 1 = m - 1 by omega] at C3
  have ed : ∀ t0, (t0 = 0 ∨ t0 = m - 1) → Rx P P0 n o (bsQ a m t0) (a 1 + n) (a (m - 1) + n) := fun t0 h => by
    have c := C3 (m - 2)
    have e9 := win_1 (a := a) (n := n) (lo := 1) (r := 0) (len := m - 1) (by omega)
    rw [Nat.zero_add, Nat.add_zero] at e9
    rw [win_0 (show m - 2 < m - 1 by omega), show m - 2 + 1 = m - 1 by omega, e9, show 1 + (m - 2) = m - 1 by omega] at c
    refine Rx_sub (fun i j hb => ?_) c
    obtain ⟨r, q', r1, r2, e1, e2⟩ := bsW (by omega) hb
    rw [Nat.mod_eq_of_lt (show m - 2 < m - 1 by omega)] at r2
    rcases e2 with ⟨w, e2⟩ | ⟨w, e2⟩
    · rw [e1, e2]
      exact Rx_base (bsQ_at hS (by rw [Nat.mod_eq_of_lt (show 1 + r < m by omega), Nat.mod_eq_of_lt (show t0 < m by omega)]; omega) q')
    · omega
  have lt1 := sub_lt hS (show 0 < 1 by omega)
  have lt2 := sub_lt hS (show 1 < m - 1 by omega)
  have lt3 := sub_lt hS (show m - 1 < m by omega)
  have ok1 : okc P P0 n (a (m - 1)) (a 0 + n) := by have := I.2.1 (m - 1); rw [show m - 1 + 1 = m by omega, em] at this; exact this
  have ok2 : okc P P0 n (a 0 + n) (a 1 + n) := by have := I.2.1 m; rw [em, em1] at this; exact this
  have bs1 : ∀ t0, t0 < m - 1 → Rx P P0 n o (bsQ a m t0) (a (m - 1)) (a 0 + n) := fun t0 h => Rx_base ⟨m - 1, by rw [Nat.mod_eq_of_lt (show m - 1 < m by omega), Nat.mod_eq_of_lt (show t0 < m by omega)]; omega, rfl, by rw [show m - 1 + 1 = m by omega, em]⟩
  have bs2 : ∀ t0, 0 < t0 → t0 < m → Rx P P0 n o (bsQ a m t0) (a 0 + n) (a 1 + n) := fun t0 h h' => Rx_base ⟨m, by rw [Nat.mod_self, Nat.mod_eq_of_lt h']; omega, em.symm, em1.symm⟩
  refine claim_lt hp hP hS (fun t0 ht => ?_)
  rcases (show t0 = 0 ∨ t0 = m - 1 ∨ (1 ≤ t0 ∧ t0 < m - 1) by omega) with q | q | ⟨q1, q2⟩
  · subst q
    show Rx P P0 n o (bsQ a m 0) (a 1) (a 0 + n)
    refine Rx_step (k := a (m - 1)) lt2 (by omega) hD ok1 (by rw [hp, tu_cyc]; exact ho) (Rx_un hp hP hS (by omega) (ed 0 (Or.inl rfl))) (bs1 0 (by omega))
  · rw [show t0 + 1 = m by omega, em]
    refine Rx_step (k := a 1 + n) (by omega) (by rw [q]; omega) ok2 (by have := okc_shift hp hP 1 hD; rw [Nat.mul_one] at this; rw [q]; exact this) (by rw [hp, hp, hp, q, ← tu_cyc]; exact ho) (bs2 t0 (by omega) ht) (by rw [show a t0 = a (m - 1) by rw [q]]; exact ed t0 (Or.inr q))
  · have c := C3 (t0 - 1)
    rw [win_0 (show t0 - 1 < m - 1 by omega), win_0 (show t0 - 1 + 1 < m - 1 by omega), show 1 + (t0 - 1) = t0 by omega, show 1 + (t0 - 1 + 1) = t0 + 1 by omega] at c
    refine Rx_sub (fun i j hb => ?_) c
    obtain ⟨r, q', r1, r2, e1, e2⟩ := bsW (by omega) hb
    rw [Nat.mod_eq_of_lt (show t0 - 1 < m - 1 by omega)] at r2
    rcases e2 with ⟨w, e2⟩ | ⟨w, e2⟩
    · rw [e1, e2]
      exact Rx_base (bsQ_at hS (by rw [Nat.mod_eq_of_lt (show 1 + r < m by omega), Nat.mod_eq_of_lt ht]; omega) q')
    · rw [e1, e2, show 1 + r = m - 1 by omega]
      exact Rx_sh hp hP hS q' (Rx_step (k := a 0 + n) (by omega) (by omega) ok1 ok2 (by rw [hp, hp]; exact ho) (bs1 t0 q2) (bs2 t0 q1 ht))
/-- at the utmost corner no straight angle -/
theorem cvx_max {P P0 : Nat → Pt9} {n m : Nat} {f : Pt9} {a : Nat → Nat} (E : Env9 P n f) (I : Inv P P0 n a m) (hmax : ∀ t, fi f (P (a t)) ≤ fi f (P (a 0))) : tu (P (a (m - 1))) (P (a 0)) (P (a 1)) ≠ 0 := fun h => by
  have hS := I.1
  have h3 := hS.1
  have fu := fi_lt E hS hmax (t := m - 1) (by omega) (by omega)
  have fw := fi_lt E hS hmax (t := 1) (by omega) (by omega)
  have gu := gd_1 E I (s := m - 1) (Or.inr rfl)
  have gw := gd_1 E I (s := 1) (Or.inl rfl)
  have n1 : P (a 1) ≠ P (a (m - 1)) := q_neq E hS (by omega) (by omega)
  have n2 := q_ne0 E hS (t := m - 1) (by omega) (by omega)
  have n3 := q_ne0 E hS (t := 1) (by omega) (by omega)
  have e1 : (fi f (P (a 0)) - fi f (P (a 1))) * ((P (a (m - 1))).1 - (P (a 0)).1) = (fi f (P (a 0)) - fi f (P (a (m - 1)))) * ((P (a 1)).1 - (P (a 0)).1) := by
    unfold tu at h
    unfold fi
    grind
  have e2 : (fi f (P (a 0)) - fi f (P (a 1))) * ((P (a (m - 1))).2 - (P (a 0)).2) = (fi f (P (a 0)) - fi f (P (a (m - 1)))) * ((P (a 1)).2 - (P (a 0)).2) := by
    unfold tu at h
    unfold fi
    grind
  rcases Int.le_total (fi f (P (a 0)) - fi f (P (a (m - 1)))) (fi f (P (a 0)) - fi f (P (a 1))) with q | q
  · rcases gw.1 (a (m - 1)) ⟨(fi f (P (a 0)) - fi f (P (a 1))) - (fi f (P (a 0)) - fi f (P (a (m - 1)))), fi f (P (a 0)) - fi f (P (a (m - 1))), by omega, by omega, by omega, by grind, by grind⟩ with r | r
    · exact n2 r
    · exact n1 r.symm
  · rcases gu.1 (a 1) ⟨(fi f (P (a 0)) - fi f (P (a (m - 1)))) - (fi f (P (a 0)) - fi f (P (a 1))), fi f (P (a 0)) - fi f (P (a 1)), by omega, by omega, by omega, by grind, by grind⟩ with r | r
    · exact n3 r
    · exact n1 r
/-- the third corner of the triangle at b c lies beyond b c -/
theorem ori_bc {P P0 : Nat → Pt9} {n m : Nat} {f : Pt9} {a : Nat → Nat} {b c : Pt9} (E : Env9 P n f) (I : Inv P P0 n a m) (T : Tri P a m b c) (hmax : ∀ t, fi f (P (a t)) ≤ fi f (P (a 0))) {s : Nat} (s1 : 1 < s) (s2 : s < m - 1) (gb : gd P b (P (a s))) (gc : gd P c (P (a s))) (hn : tu (P (a 0)) b (P (a s)) < 0 ∨ tu (P (a 0)) (P (a s)) c < 0 ∨ tu b c (P (a s)) < 0) (h0 : tu b c (P (a s)) ≠ 0) : tu b c (P (a s)) < 0 := by
  have hS := I.1
  have hτ := T.2
  refine Classical.byContradiction (fun hG => ?_)
  obtain ⟨sb, sc, eb, ec, b1, b2, c1, c2, hbc⟩ := tri_ix (by omega) T
  have fb := fi_lt E hS hmax b1 b2
  have fc := fi_lt E hS hmax c1 c2
  have fs := fi_lt E hS hmax (t := s) (by omega) (by omega)
  rw [← eb] at fb
  rw [← ec] at fc
  have sm := tri_sum (P (a 0)) b c (P (a s))
  have qe : ∀ r, (r = 1 ∨ r = m - 1) → ∀ x y, gd P (P (a x)) (P (a y)) → ¬ PX (P (a x)) (P (a y)) (P (a 0)) (P (a r)) := fun r hr x y hg hX => by
    rcases hr with rfl | rfl
    · exact Cr E I hg 0 hX
    · have := Cr E I hg (m - 1)
      rw [show m - 1 + 1 = 0 + m by omega, q_per E hS] at this
      exact this (PX_r hX)
  by_cases hA : 0 < tu (P (a 0)) b (P (a s))
  · have hB : tu (P (a 0)) (P (a s)) c < 0 := by omega
    -- b to it crosses v c
    have k1 := tri_v (P (a 0)) b c b (P (a s))
    have k2 := tri_c (P (a 0)) b c b (P (a s))
    rw [tu_self2 (P (a 0)) b, Int.zero_mul, Int.sub_zero] at k1
    rw [tu_self1 b c, Int.zero_mul, Int.zero_sub, ← Int.mul_neg] at k2
    have k3 := mul_cancel hτ k1
    have k4 := mul_cancel hτ k2
    have hX : PX b (P (a s)) (P (a 0)) c := by
      refine ⟨by rw [k3, k4]; exact Int.mul_neg_of_pos_of_neg hA (by omega), ?_⟩
      rw [tu_vc (P (a 0)) b c, tu_vc (P (a 0)) (P (a s)) c]
      exact Int.mul_neg_of_neg_of_pos (by omega) (by omega)
    rw [eb, ec] at hX
    rw [eb] at gb
    exact qe sc (by omega) sb s gb hX
  · by_cases hB : 0 < tu (P (a 0)) (P (a s)) c
    · have hA' : tu (P (a 0)) b (P (a s)) < 0 := by omega
      have k1 := tri_v (P (a 0)) b c c (P (a s))
      have k2 := tri_b (P (a 0)) b c c (P (a s))
      rw [tu_self2 (P (a 0)) c, Int.zero_mul, Int.zero_sub, ← Int.mul_neg] at k1
      rw [tu_self2 b c, Int.zero_mul, Int.sub_zero] at k2
      have k3 := mul_cancel hτ k1
      have k4 := mul_cancel hτ k2
      have hX : PX c (P (a s)) (P (a 0)) b := by
        refine ⟨by rw [k3, k4]; exact Int.mul_neg_of_neg_of_pos (by omega) (by omega), ?_⟩
        exact Int.mul_neg_of_pos_of_neg hτ hA'
      rw [eb, ec] at hX
      rw [ec] at gc
      exact qe sb (by omega) sc s gc hX
    · have e := fi_tri f (P (a 0)) b c (P (a s))
      have d1 := mpp hτ (show 0 < fi f (P (a 0)) - fi f (P (a s)) by omega)
      have d2 := mnp (show tu (P (a 0)) (P (a s)) c ≤ 0 by omega) (show 0 ≤ fi f (P (a 0)) - fi f b by omega)
      have d3 := mnp (show tu (P (a 0)) b (P (a s)) ≤ 0 by omega) (show 0 ≤ fi f (P (a 0)) - fi f c by omega)
      have e2 : tu (P (a 0)) b c * (fi f (P (a 0)) - fi f (P (a s))) = tu (P (a 0)) (P (a s)) c * (fi f (P (a 0)) - fi f b) + tu (P (a 0)) b (P (a s)) * (fi f (P (a 0)) - fi f c) := by grind
      omega
