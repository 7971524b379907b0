theorem okc_gd {P P0 : Nat → Pt9} {n : Nat} {f : Pt9} (E : Env9 P n f) {i j : Nat} (h : okc P P0 n i j) : gd P (P i) (P j) := by
  rcases h with h | h
  · rw [h]; exact E.2.2.2 i
  · exact h.1
theorem inv_rot {P P0 : Nat → Pt9} {n m : Nat} {f : Pt9} {a : Nat → Nat} (E : Env9 P n f) (I : Inv P P0 n a m) (r : Nat) : Inv P P0 n (fun t => a (t + r)) m := by
  have hS := I.1
  have e1 : ∀ t, t + 1 + r = t + r + 1 := fun t => by omega
  refine ⟨⟨hS.1, fun t => ?_, fun t => ?_⟩, fun t => ?_, fun x hx => ?_, fun t s n1 n2 => ?_⟩
  · show a (t + r) < a (t + 1 + r)
    rw [e1]; exact hS.2.1 _
  · show a (t + m + r) = a (t + r) + n
    rw [show t + m + r = t + r + m by omega]; exact hS.2.2 _
  · show okc P P0 n (a (t + r)) (a (t + 1 + r))
    rw [e1]; exact I.2.1 _
  · have h1 := I.2.2.1 x (fun t => by
      have := hx (t + m * r - r)
      have hm : r ≤ m * r := Nat.le_mul_of_pos_left r (by have := hS.1; omega)
      show P x ≠ P (a t)
      have e2 : P (a (t + m * r - r + r)) = P (a t) := q_mod E hS (by rw [show t + m * r - r + r = t + m * r by omega, Nat.add_mul_mod_self_left])
      rw [← e2]; exact this)
    have s1 := xs_per (F := fun k => crd (P x) h0 (P (a k)) (P (a (k + 1)))) (n := m) (fun k => by show crd (P x) h0 (P (a (k + m))) (P (a (k + m + 1))) = _; rw [show k + m + 1 = (k + 1) + m by omega, q_per E hS, q_per E hS]) r
    rw [← h1]
    unfold par
    rw [← s1]
    exact xs_c m (fun t _ => by show crd (P x) h0 (P (a (t + r))) (P (a (t + 1 + r))) = crd (P x) h0 (P (a (r + t))) (P (a (r + t + 1))); rw [show t + 1 + r = r + t + 1 by omega, Nat.add_comm t r])
  · have n2' : P (a (s + r)) ≠ P (a (t + 1 + r)) := n2
    rw [e1] at n2'
    show hh P (a (t + r)) (a (t + 1 + r)) (P (a (s + r))) = false
    rw [e1]; exact I.2.2.2 _ _ n1 n2'
theorem Rx_unz {P P0 : Nat → Pt9} {n m : Nat} {a : Nat → Nat} {o : Int} (hp : ∀ i, P (i + n) = P i) (h2 : ∀ i, P i = (2 * (P0 i).1, 2 * (P0 i).2)) (h : Sub n a m) {t0 i j : Nat} (hi : a 0 ≤ i) : ∀ q, Rx P P0 n o (bsQ a m t0) (i + n * q) (j + n * q) → Rx P P0 n o (bsQ a m t0) i j
  | 0, hx => hx
  | q + 1, hx => by
    rw [Nat.mul_succ, ← Nat.add_assoc, ← Nat.add_assoc] at hx
    exact Rx_unz hp h2 h hi q (Rx_un hp h2 h (by omega) hx)
theorem mod_can {m s t r : Nat} (hm : 0 < m) (h : (s + r) % m = (t + r) % m) : s % m = t % m := by
  rcases Nat.le_total s t with q | q
  · have h1 : (t + r - (s + r)) % m = 0 := Nat.sub_mod_eq_zero_of_mod_eq h.symm
    obtain ⟨k, hk⟩ := Nat.dvd_of_mod_eq_zero h1
    rw [show t = s + m * k by omega, Nat.add_mul_mod_self_left]
  · have h1 : (s + r - (t + r)) % m = 0 := Nat.sub_mod_eq_zero_of_mod_eq h
    obtain ⟨k, hk⟩ := Nat.dvd_of_mod_eq_zero h1
    rw [show s = t + m * k by omega, Nat.add_mul_mod_self_left]
theorem claim_rot {P P0 : Nat → Pt9} {n m : Nat} {a : Nat → Nat} {o : Int} (hp : ∀ i, P (i + n) = P i) (h2 : ∀ i, P i = (2 * (P0 i).1, 2 * (P0 i).2)) (h : Sub n a m) {r : Nat} (c : Claim P P0 n o (fun t => a (t + r)) m) : Claim P P0 n o a m := fun t0 => by
  have hm : r ≤ m * r := Nat.le_mul_of_pos_left r (by have := h.1; omega)
  have k := c (t0 + m * r - r)
  have k : Rx P P0 n o (bsQ (fun t => a (t + r)) m (t0 + m * r - r)) (a (t0 + m * r - r + 1 + r)) (a (t0 + m * r - r + r) + n) := k
  rw [show t0 + m * r - r + 1 + r = (t0 + 1) + m * r by omega, show t0 + m * r - r + r = t0 + m * r by omega, sub_z h, sub_z h, show a t0 + n * r + n = a t0 + n + n * r by omega] at k
  refine Rx_unz hp h2 h (sub_le h (Nat.zero_le _)) r (Rx_sub (fun i j hb => ?_) k)
  obtain ⟨t, t1, t2, t3⟩ := hb
  refine Rx_base ⟨t + r, fun q => t1 ?_, t2, by rw [show t + r + 1 = t + 1 + r by omega]; exact t3⟩
  have e1 : (t0 + m * r - r + r) % m = t0 % m := by rw [show t0 + m * r - r + r = t0 + m * r by omega, Nat.add_mul_mod_self_left]
  rw [← e1] at q
  exact mod_can (by have := h.1; omega) q
theorem main_bc {P P0 : Nat → Pt9} {n m : Nat} {f : Pt9} {a : Nat → Nat} {b c : Pt9} {o : Int} (E : Env9 P n f) (hP : ∀ i, P i = (2 * (P0 i).1, 2 * (P0 i).2)) (I : Inv P P0 n a m) (h4 : 4 ≤ m) (IH : IHm P P0 n f m) (T : Tri P a m b c) (hmax : ∀ t, fi f (P (a t)) ≤ fi f (P (a 0))) (ho : 0 < o * tu (P (a (m - 1))) (P (a 0)) (P (a 1))) (hq : ∀ t, 0 < tu (P (a 0)) b (P (a t)) → 0 < tu (P (a 0)) (P (a t)) c → tu b c (P (a t)) ≤ -1) : Claim P P0 n o a m := by
  have hS := I.1
  have hp := E.2.1
  have hτ := T.2
  have em : a m = a 0 + n := by have := hS.2.2 0; rw [Nat.zero_add] at this; exact this
  have hm0 : P (a m) = P (a 0) := by rw [em, hp]
  have hm1 : P (a (1 + m)) = P (a 1) := q_per E hS 1
  have gbc := Dbc E I h4 T hmax hq
  have tz := Tz E I h4 T hmax (Int.le_refl _) hq
  have g1 : gd P (P (a 1)) (P (a (m - 1))) := by
    rcases T.1 with ⟨h1, h2⟩ | ⟨h1, h2⟩
    · rw [← h1, ← h2]; exact gbc
    · rw [← h1, ← h2]; exact gd_sym gbc
  have hne : P (a 1) ≠ P (a (m - 1)) := q_neq E hS (by omega) (by omega)
  have sA : tu (P (a 0)) b (P (a 1)) + tu (P (a 0)) b (P (a (m - 1))) = tu (P (a 0)) b c ∧ tu (P (a 0)) (P (a 1)) c + tu (P (a 0)) (P (a (m - 1))) c = tu (P (a 0)) b c ∧ tu b c (P (a 1)) + tu b c (P (a (m - 1))) = 0 := by
    rcases T.1 with ⟨h1, h2⟩ | ⟨h1, h2⟩
    · rw [← h1, ← h2, tu_self2, tu_self2, tu_self1, tu_self2]; omega
    · rw [← h1, ← h2, tu_self2, tu_self2, tu_self1, tu_self2]; omega
  have hin := insM E hP I h4 T hmax (Int.le_refl _) hq g1 hne (by rw [Nat.mod_eq_of_lt (show m - 1 < m by omega), Nat.mod_eq_of_lt (show 1 + 1 < m by omega)]; omega) (by rw [show m - 1 + 1 = m by omega, Nat.mod_self, Nat.mod_eq_of_lt (show 1 < m by omega)]; omega) (by omega) (by omega) (by omega)
  obtain ⟨ok1, ok2⟩ := okc_rev ⟨g1, hin⟩
  have e0 : P0 (a 1 + n) = P0 (a 1) := by have := p0_per hp hP (a 1) 1; rw [Nat.mul_one] at this; exact this
  have okd : okc P P0 n (a (m - 1)) (a 1 + n) := by
    refine Or.inr ⟨by rw [hp]; exact gd_sym g1, ?_⟩
    have : mid P0 (a (m - 1)) (a 1 + n) = mid P0 (a 1) (a (m - 1)) := by unfold mid; rw [e0, Int.add_comm, Int.add_comm (P0 (a (m - 1))).2]
    rw [this]; exact hin
  obtain ⟨sb, sc, eb, ec, b1, b2, c1, c2, hbc⟩ := tri_ix (by omega) T
  have gvb : gd P (P (a 0)) b := by rw [eb]; exact gd_1 E I (by omega)
  have gvc : gd P (P (a 0)) c := by rw [ec]; exact gd_1 E I (by omega)
  have nt : ∀ x, P x ≠ P (a 0) → P x ≠ b → P x ≠ c → tu (P (a 0)) b (P x) < 0 ∨ tu (P (a 0)) (P x) c < 0 ∨ tu b c (P x) < 0 := fun x h1 h2 h3 => by
    refine Classical.byContradiction (fun q => ?_)
    by_cases hA : tu (P (a 0)) b (P x) = 0
    · exact (gvb.1 _ (on_vb hτ hA (by omega) (by omega))).elim h1 h2
    · by_cases hB : tu (P (a 0)) (P x) c = 0
      · exact (gvc.1 _ (on_vc hτ hB (by omega) (by omega))).elim h1 h3
      · have := tz x (by omega) (by omega)
        omega
  have wt : ∀ x, (∀ e, m - 1 ≤ e → e ≤ 1 + m → P x ≠ P (a e)) → wp P a (m - 1) (1 + m) (P x) = false := fun x hx => by
    refine wp_tri E I T gbc hx (nt x ?_ ?_ ?_)
    · have := hx m (by omega) (by omega); rw [hm0] at this; exact this
    · rw [eb]
      rcases hbc with ⟨w, -⟩ | ⟨w, -⟩
      · have := hx (1 + m) (by omega) (by omega); rw [hm1] at this; rw [w]; exact this
      · rw [w]; exact hx (m - 1) (by omega) (by omega)
    · rw [ec]
      rcases hbc with ⟨-, w⟩ | ⟨-, w⟩
      · rw [w]; exact hx (m - 1) (by omega) (by omega)
      · have := hx (1 + m) (by omega) (by omega); rw [hm1] at this; rw [w]; exact this
  have qm : ∀ t, P (a t) = P (a (t % m)) := fun t => q_mod E hS (Nat.mod_mod _ _).symm
  have I3 := InvW E hP I (lo := 1) (hi := m - 1) (by omega) (by omega) okd (fun s s1 s2 => wt (a s) (fun e e1 e2 => by
    rcases Nat.lt_or_ge e m with w | w
    · exact q_neq E hS (by omega) (by omega)
    · rcases Nat.lt_or_ge m e with v | v
      · rw [show e = 1 + m by omega, hm1]; exact (q_neq E hS s1 (by omega)).symm
      · rw [show e = m by omega, hm0]; exact (q_ne0 E hS (by omega) (by omega)))) (fun x hx => by
    by_cases w : ∃ t, P x = P (a t)
    · obtain ⟨t, ht⟩ := w
      rw [qm] at ht
      have hl := Nat.mod_lt t (show 0 < m by omega)
      rcases Nat.eq_zero_or_pos (t % m) with y | y
      · rw [ht, y]; exact wp_v E I hmax (by omega) g1
      · exact absurd ht (hx (t % m) y (by omega))
    · have hx' : ∀ t, P x ≠ P (a t) := fun t q => w ⟨t, q⟩
      have j2 := I.2.2.1 x hx'
      rw [par_split E hS (lo := 1) (hi := m - 1) (by omega) (by omega) (fun q => (g1.1 _ q).elim (hx' _) (hx' _)), wt x (fun e _ _ => hx' e), Bool.xor_false] at j2
      exact j2)
  rw [show m - 1 - 1 + 1 = m - 1 by omega] at I3
  -- the utmost corner of the rest
  obtain ⟨r, r1, -, r3⟩ := max_In (p := fun _ => True) (g := fun t => fi f (P (win a n 1 (m - 1) t))) (m - 1) ⟨0, by omega, trivial⟩
  have hS3 := I3.1
  have r4 : ∀ t, fi f (P (win a n 1 (m - 1) t)) ≤ fi f (P (win a n 1 (m - 1) r)) := fun t => by
    have := r3 (t % (m - 1)) (Nat.mod_lt _ (by omega)) trivial
    rw [q_mod E hS3 (s := t) (t := t % (m - 1)) (Nat.mod_mod _ _).symm]
    exact this
  have hcv := cvx_max E (inv_rot E I3 r) (f := f) (fun t => by show fi f (P (win a n 1 (m - 1) (t + r))) ≤ fi f (P (win a n 1 (m - 1) (0 + r))); rw [Nat.zero_add]; exact r4 _)
  have hcv : tu (P (win a n 1 (m - 1) (m - 1 - 1 + r))) (P (win a n 1 (m - 1) (0 + r))) (P (win a n 1 (m - 1) (1 + r))) ≠ 0 := hcv
  have w0 : P (win a n 1 (m - 1) (r + (m - 1))) = P (win a n 1 (m - 1) r) := q_per E hS3 r
  have w1 : P (win a n 1 (m - 1) (r + (m - 1) + 1)) = P (win a n 1 (m - 1) (1 + r)) := by rw [show r + (m - 1) + 1 = (1 + r) + (m - 1) by omega]; exact q_per E hS3 _
  rw [Nat.zero_add, ← w0, ← w1, show m - 1 - 1 + r = r + (m - 1) - 1 by omega] at hcv
  have ih := fun (o' : Int) (h : 0 < o' * tu (P (win a n 1 (m - 1) (r + (m - 1) - 1))) (P (win a n 1 (m - 1) (r + (m - 1)))) (P (win a n 1 (m - 1) (r + (m - 1) + 1)))) => IH (win a n 1 (m - 1)) (m - 1) (by omega) I3 o' (r + (m - 1)) (by omega) (fun t => by rw [w0]; exact r4 t) h
  generalize tu (P (win a n 1 (m - 1) (r + (m - 1) - 1))) (P (win a n 1 (m - 1) (r + (m - 1)))) (P (win a n 1 (m - 1) (r + (m - 1) + 1))) = o3 at *
  have c3 := ih o3 (by rcases Int.lt_or_gt_of_ne hcv with q | q; exact Int.mul_pos_of_neg_of_neg q q; exact mpp q q)
  have hoo : 0 < o * o3 := by
    have c := c3 (m - 2)
    have e9 := win_1 (a := a) (n := n) (lo := 1) (r := 0) (len := m - 1) (by omega)
    rw [Nat.zero_add, Nat.add_zero] at e9
    rw [win_0 (show m - 2 < m - 1 by omega), show m - 2 + 1 = m - 1 by omega, e9, show 1 + (m - 2) = m - 1 by omega] at c
    have nb : ¬ bsQ (win a n 1 (m - 1)) (m - 1) (m - 2) (a 1 + n) (a (m - 1) + n) := fun hb => by
      obtain ⟨r, q', r1, r2, e1, e2⟩ := bsW (by omega) hb
      rw [Nat.mod_eq_of_lt (show m - 2 < m - 1 by omega)] at r2
      rcases e2 with ⟨w, e2⟩ | ⟨w, e2⟩
      · have d1 : a 1 % n = a (1 + r) % n := by
          have := congrArg (fun k => k % n) e1
          simp only [Nat.add_mod_right, Nat.add_mul_mod_self_left] at this
          exact this
        have d2 := sub_inj hS d1
        rw [Nat.mod_eq_of_lt (show 1 < m by omega), Nat.mod_eq_of_lt (show 1 + r < m by omega)] at d2
        have d3 : r = 0 := by omega
        rw [d3, Nat.add_zero] at e1 e2
        have d4 : a (1 + 1) = a (m - 1) := by omega
        have := sub_lt hS (show 1 + 1 < m - 1 by omega)
        omega
      · omega
    obtain ⟨d, hd⟩ := c
    cases d with
    | zero => exact absurd hd nb
    | succ d =>
      rcases hd with hd | ⟨k, k1, k2, k3, k4, k5, k6, k7⟩
      · exact absurd hd nb
      · obtain ⟨-, i', t, t1, t2, t3⟩ := Rr_end d _ _ k6
        have pk : P k = P (a (1 + (t + 1) % (m - 1))) := by rw [t3, win_P hp]
        have hs := Nat.mod_lt (t + 1) (show 0 < m - 1 by omega)
        generalize hse : 1 + (t + 1) % (m - 1) = s at *
        have gk1 := okc_gd E k3
        have gk2 := okc_gd E k4
        rw [hp, pk] at gk1
        rw [hp, pk] at gk2
        rw [hp, hp, pk] at k5
        have s1 : s ≠ 1 := fun q => by rw [q, tu_self3, Int.mul_zero] at k5; omega
        have s2 : s ≠ m - 1 := fun q => by rw [q, tu_self2, Int.mul_zero] at k5; omega
        have ns0 := q_ne0 E hS (t := s) (by omega) (by omega)
        have nsb : P (a s) ≠ b := by rw [eb]; rcases hbc with ⟨w, -⟩ | ⟨w, -⟩; rw [w]; exact (q_neq E hS (by omega) (by omega)).symm; rw [w]; exact q_neq E hS (by omega) (by omega)
        have nsc : P (a s) ≠ c := by rw [ec]; rcases hbc with ⟨-, w⟩ | ⟨-, w⟩; rw [w]; exact q_neq E hS (by omega) (by omega); rw [w]; exact (q_neq E hS (by omega) (by omega)).symm
        have nts := nt (a s) ns0 nsb nsc
        have i1 : ∀ x y z : Pt9, tu x y z = - tu x z y := fun x y z => by unfold tu; grind
        rw [tu_cyc (P (a (m - 1))) (P (a 0)) (P (a 1))] at ho
        rcases T.1 with ⟨h1, h2⟩ | ⟨h1, h2⟩
        · rw [← h1] at gk1
          rw [← h2] at gk2
          rw [← h1, ← h2, i1] at k5
          rw [← h1, ← h2] at ho
          have hg0 : tu b c (P (a s)) ≠ 0 := fun q => by rw [q, Int.neg_zero, Int.mul_zero] at k5; omega
          have hG := ori_bc E I T hmax (by omega) (by omega) gk1 (gd_sym gk2) nts hg0
          have p1 : 0 < o3 := by
            refine Classical.byContradiction (fun q => ?_)
            have := mnp (show o3 ≤ 0 by omega) (show 0 ≤ - tu b c (P (a s)) by omega)
            omega
          have p2 : 0 < o := by
            refine Classical.byContradiction (fun q => ?_)
            have := mnp (show o ≤ 0 by omega) (show 0 ≤ tu (P (a 0)) b c by omega)
            omega
          exact mpp p2 p1
        · rw [← h2] at gk1
          rw [← h1] at gk2
          rw [← h1, ← h2, tu_cyc, tu_cyc] at k5
          rw [← h1, ← h2, i1] at ho
          have hg0 : tu b c (P (a s)) ≠ 0 := fun q => by rw [q, Int.mul_zero] at k5; omega
          have hG := ori_bc E I T hmax (by omega) (by omega) (gd_sym gk2) gk1 nts hg0
          have p1 : o3 < 0 := by
            refine Classical.byContradiction (fun q => ?_)
            have := mpn (show 0 ≤ o3 by omega) (show tu b c (P (a s)) ≤ 0 by omega)
            omega
          have p2 : o < 0 := by
            refine Classical.byContradiction (fun q => ?_)
            have := mpn (show 0 ≤ o by omega) (show - tu (P (a 0)) b c ≤ 0 by omega)
            omega
          exact Int.mul_pos_of_neg_of_neg p2 p1
  refine claim_bc E hP I h4 ok1 ho ?_
  rw [show m - 1 - 1 + 1 = m - 1 by omega]
  exact ih o hoo
