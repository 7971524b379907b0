theorem main_0 {P P0 : Nat → Pt9} {n m : Nat} {f : Pt9} {a : Nat → Nat} {o : Int} (E : Env9 P n f) (hP : ∀ i, P i = (2 * (P0 i).1, 2 * (P0 i).2)) (I : Inv P P0 n a m) (IH : IHm P P0 n f m) (hmax : ∀ t, fi f (P (a t)) ≤ fi f (P (a 0))) (ho : 0 < o * tu (P (a (m - 1))) (P (a 0)) (P (a 1))) : Claim P P0 n o a m := by
  have hS := I.1
  have h3 := hS.1
  rcases Nat.lt_or_ge m 4 with h4 | h4
  · obtain rfl : m = 3 := by omega
    exact claim_3 E I ho
  · have hcv := cvx_max E I hmax
    have hT : ∃ b c, Tri P a m b c := by
      rcases Int.lt_or_gt_of_ne hcv with q | q
      · refine ⟨P (a (m - 1)), P (a 1), Or.inr ⟨rfl, rfl⟩, ?_⟩
        rw [tu_cyc, tu_vc] at q
        omega
      · refine ⟨P (a 1), P (a (m - 1)), Or.inl ⟨rfl, rfl⟩, ?_⟩
        rw [tu_cyc] at q
        exact q
    obtain ⟨b, c, T⟩ := hT
    have red : ∀ t, ∃ t', t' < m ∧ P (a t') = P (a t) := fun t => ⟨t % m, Nat.mod_lt _ (by omega), q_mod E hS (Nat.mod_mod _ _)⟩
    by_cases hI : ∃ t, t < m ∧ (0 < tu (P (a 0)) b (P (a t)) ∧ 0 < tu (P (a 0)) (P (a t)) c ∧ 0 ≤ tu b c (P (a t)))
    · obtain ⟨z, z1, ⟨z2, z3, z4⟩, z5⟩ := max_In (g := fun t => tu b c (P (a t))) m hI
      refine main_z E hP I h4 IH T hmax ho z1 z2 z3 z4 (fun t hA hB => ?_)
      obtain ⟨t', t1, t2⟩ := red t
      rw [← t2] at hA hB ⊢
      by_cases q : 0 ≤ tu b c (P (a t'))
      · exact z5 t' t1 ⟨hA, hB, q⟩
      · omega
    · refine main_bc E hP I h4 IH T hmax ho (fun t hA hB => ?_)
      obtain ⟨t', t1, t2⟩ := red t
      rw [← t2] at hA hB ⊢
      refine Classical.byContradiction (fun q => hI ⟨t', t1, hA, hB, by omega⟩)
theorem MAIN {P P0 : Nat → Pt9} {n : Nat} {f : Pt9} (E : Env9 P n f) (hP : ∀ i, P i = (2 * (P0 i).1, 2 * (P0 i).2)) : ∀ M, IHm P P0 n f M
  | 0 => fun a m h => absurd h (Nat.not_lt_zero _)
  | M + 1 => fun a m hm I o r hr hmax ho => by
    have hS := I.1
    have h3 := hS.1
    have IH : IHm P P0 n f m := fun a' m' hm' => MAIN E hP M a' m' (by omega)
    refine claim_rot (r := r) E.2.1 hP hS (main_0 E hP (inv_rot E I r) IH (fun t => ?_) ?_)
    · show fi f (P (a (t + r))) ≤ fi f (P (a (0 + r)))
      rw [Nat.zero_add]; exact hmax _
    · show 0 < o * tu (P (a (m - 1 + r))) (P (a (0 + r))) (P (a (1 + r)))
      rw [Nat.zero_add, Nat.add_comm 1 r, show m - 1 + r = (r - 1) + m by omega, q_per E hS]
      exact ho
theorem inv_id {P P0 : Nat → Pt9} {n : Nat} {f : Pt9} (E : Env9 P n f) : Inv P P0 n (fun t => t) n := by
  refine ⟨⟨E.1, fun t => Nat.lt_succ_self t, fun t => rfl⟩, fun t => Or.inl rfl, fun x hx => absurd rfl (hx x), fun t s n1 n2 => ?_⟩
  unfold hh
  rw [hp_u (Nat.lt_succ_self t), show t + 1 - t = 1 by omega, xs9, xs9, Nat.add_zero, crd_sym (x := P s) (A := P t) (B := P (t + 1)) (fun q => ((E.2.2.2 t).1 _ q).elim n1 n2)]
  cases crd (P s) h0 (P (t + 1)) (P t) <;> rfl
/-- a simple polygon has a triangulation -/
theorem TRI {P P0 : Nat → Pt9} {n : Nat} {f : Pt9} (E : Env9 P n f) (hP : ∀ i, P i = (2 * (P0 i).1, 2 * (P0 i).2)) : ∃ o, o ≠ 0 ∧ Rx P P0 n o (fun i j => j = i + 1) 0 (n - 1) := by
  have h3 := E.1
  have I := inv_id (P0 := P0) E
  have hS := I.1
  obtain ⟨r, r1, -, r3⟩ := max_In (p := fun _ => True) (g := fun t => fi f (P t)) n ⟨0, by omega, trivial⟩
  have r4 : ∀ t, fi f (P t) ≤ fi f (P r) := fun t => by
    have := r3 (t % n) (Nat.mod_lt _ (by omega)) trivial
    rw [← per_m E.2.1 t]
    exact this
  have hcv := cvx_max E (inv_rot E I r) (f := f) (fun t => by show fi f (P (t + r)) ≤ fi f (P (0 + r)); rw [Nat.zero_add]; exact r4 _)
  have hcv : tu (P (n - 1 + r)) (P (0 + r)) (P (1 + r)) ≠ 0 := hcv
  have w0 : P (r + n) = P r := E.2.1 r
  have w1 : P (r + n + 1) = P (1 + r) := by rw [show r + n + 1 = (1 + r) + n by omega]; exact E.2.1 _
  rw [Nat.zero_add, ← w0, ← w1, show n - 1 + r = r + n - 1 by omega] at hcv
  refine ⟨_, hcv, ?_⟩
  have c := MAIN E hP (n + 1) (fun t => t) n (Nat.lt_succ_self n) I _ (r + n) (by omega) (fun t => by show fi f (P t) ≤ fi f (P (r + n)); rw [w0]; exact r4 t) (by rcases Int.lt_or_gt_of_ne hcv with q | q; exact Int.mul_pos_of_neg_of_neg q q; exact mpp q q) (n - 1)
  have c : Rx P P0 n _ (bsQ (fun t => t) n (n - 1)) (n - 1 + 1) (n - 1 + n) := c
  rw [show n - 1 + 1 = 0 + n by omega] at c
  refine Rx_sub (fun i j hb => ?_) (Rx_un E.2.1 hP hS (Nat.zero_le _) c)
  obtain ⟨t, -, t2, t3⟩ := hb
  exact Rx_base (by rw [t2, t3])
/-- twice the signed area of the corners from i to j -/
def crp (a b : Pt9) : Int := a.1 * b.2 - a.2 * b.1
def sumZ (g : Nat → Int) : Nat → Int
  | 0 => 0
  | t + 1 => sumZ g t + g t
theorem sumZ_a {g : Nat → Int} (a : Nat) : ∀ b, sumZ g (a + b) = sumZ g a + sumZ (fun t => g (a + t)) b
  | 0 => by rw [sumZ, Nat.add_zero, Int.add_zero]
  | b + 1 => by rw [← Nat.add_assoc, sumZ, sumZ, sumZ_a a b]; omega
theorem sumZ_c {g h : Nat → Int} : ∀ m, (∀ t, t < m → g t = h t) → sumZ g m = sumZ h m
  | 0, _ => rfl
  | m + 1, e => by rw [sumZ, sumZ, sumZ_c m (fun t ht => e t (by omega)), e m (by omega)]
def sar (P : Nat → Pt9) (i j : Nat) : Int := sumZ (fun k => crp (P (i + k)) (P (i + k + 1))) (j - i) - crp (P i) (P j)
theorem sar_1 {P : Nat → Pt9} {i : Nat} : sar P i (i + 1) = 0 := by
  unfold sar
  rw [show i + 1 - i = 1 by omega, sumZ, sumZ, Nat.add_zero]
  omega
theorem sar_s {P : Nat → Pt9} {i k j : Nat} (h1 : i < k) (h2 : k < j) : sar P i j = sar P i k + sar P k j + tu (P i) (P k) (P j) := by
  unfold sar
  have e := sumZ_a (g := fun t => crp (P (i + t)) (P (i + t + 1))) (k - i) (j - k)
  have e2 : sumZ (fun t => crp (P (i + (k - i + t))) (P (i + (k - i + t) + 1))) (j - k) = sumZ (fun t => crp (P (k + t)) (P (k + t + 1))) (j - k) := sumZ_c _ (fun t _ => by rw [show i + (k - i + t) = k + t by omega])
  rw [show k - i + (j - k) = j - i by omega] at e
  rw [e, e2]
  unfold crp tu
  grind
theorem Rr_area {P P0 : Nat → Pt9} {n : Nat} {o : Int} : ∀ (d i j : Nat), Rr P P0 n o (fun i j => j = i + 1) d i j → 0 ≤ o * sar P i j ∧ (i + 2 ≤ j → 0 < o * sar P i j)
  | 0, i, j, h => by
    have h : j = i + 1 := h
    rw [h, sar_1, Int.mul_zero]
    exact ⟨by omega, fun q => by omega⟩
  | d + 1, i, j, h => by
    rcases h with h | ⟨k, h1, h2, h3, h4, h5, h6, h7⟩
    · rw [h, sar_1, Int.mul_zero]
      exact ⟨by omega, fun q => by omega⟩
    · have a1 := (Rr_area d i k h6).1
      have a2 := (Rr_area d k j h7).1
      rw [sar_s h1 h2, Int.mul_add, Int.mul_add]
      exact ⟨by omega, fun _ => by omega⟩
/-- its area isn't 0 -/
theorem AREA {P P0 : Nat → Pt9} {n : Nat} {o : Int} (h3 : 3 ≤ n) (h : Rx P P0 n o (fun i j => j = i + 1) 0 (n - 1)) : 0 < o * sar P 0 (n - 1) := by
  obtain ⟨d, hd⟩ := h
  exact (Rr_area d _ _ hd).2 (by omega)
