theorem fnd_seg {a : Nat → Nat} {x : Nat} (h0 : a 0 ≤ x) : ∀ T, x < a T → ∃ t, t < T ∧ a t ≤ x ∧ x < a (t + 1)
  | 0, h => by omega
  | T + 1, h => by
    rcases Nat.lt_or_ge x (a T) with q | q
    · obtain ⟨t, h1, h2⟩ := fnd_seg h0 T q
      exact ⟨t, by omega, h2⟩
    · exact ⟨T, by omega, q, h⟩
theorem hang {P : Nat → Pt9} {n m : Nat} {f : Pt9} {a : Nat → Nat} (E : Env9 P n f) (h : Sub n a m) (x : Nat) : (∃ t, P x = P (a t)) ∨ ∃ t x', t < m ∧ a t < x' ∧ x' < a (t + 1) ∧ P x' = P x := by
  have hn : 0 < n := by have := E.1; omega
  have e1 : P (x + n * a 0) = P x := per_z E.2.1 _ _
  have hle : a 0 ≤ x + n * a 0 := by
    have := Nat.le_mul_of_pos_left (a 0) hn
    omega
  have e2 := Nat.mod_add_div (x + n * a 0 - a 0) n
  have e3 := Nat.mod_lt (x + n * a 0 - a 0) hn
  have e4 : P (a 0 + (x + n * a 0 - a 0) % n) = P x := by
    rw [← e1, ← per_z E.2.1 _ ((x + n * a 0 - a 0) / n)]
    congr 1
    omega
  generalize (x + n * a 0 - a 0) % n = d at *
  have e5 := h.2.2 0
  rw [Nat.zero_add] at e5
  obtain ⟨t, t1, t2, t3⟩ := fnd_seg (a := a) (x := a 0 + d) (by omega) m (by omega)
  rcases Nat.lt_or_ge (a t) (a 0 + d) with q | q
  · exact Or.inr ⟨t, a 0 + d, t1, q, t3, e4⟩
  · exact Or.inl ⟨t, by rw [← e4, show a 0 + d = a t by omega]⟩
theorem wpK_P {P P0 : Nat → Pt9} {n m : Nat} {f : Pt9} {a : Nat → Nat} (E : Env9 P n f) (I : Inv P P0 n a m) {i j : Nat} (hij : i < j) (hg : gd P (P (a i)) (P (a j))) {k : Nat} (n1 : ∀ e, i ≤ e → e ≤ j → P k ≠ P (a e)) (n2 : ∀ e, i ≤ e → e ≤ j → P (k + 1) ≠ P (a e)) : wp P a i j (P k) = wp P a i j (P (k + 1)) := by
  refine hh_K (P := fun t => P (a t)) hij (fun e _ _ q => (inv_gd E I e).2 k (PX_s q)) (fun q => hg.2 k (PX_s q)) (fun e h1 h2 q => ?_) (fun e h1 h2 q => ?_) (fun q => ?_) (fun e h1 h2 q => ?_) (fun q => ?_)
  · exact ((E.2.2.2 k).1 _ q).elim (fun w => n1 e h1 h2 w.symm) (fun w => n2 e h1 h2 w.symm)
  · exact ((inv_gd E I e).1 _ q).elim (n1 e h1 (by omega)) (n1 (e + 1) (by omega) (by omega))
  · exact (hg.1 _ q).elim (n1 i (by omega) (by omega)) (n1 j (by omega) (by omega))
  · exact ((inv_gd E I e).1 _ q).elim (n2 e h1 (by omega)) (n2 (e + 1) (by omega) (by omega))
  · exact (hg.1 _ q).elim (n2 i (by omega) (by omega)) (n2 j (by omega) (by omega))
theorem wpK_Q {P P0 : Nat → Pt9} {n m : Nat} {f : Pt9} {a : Nat → Nat} (E : Env9 P n f) (I : Inv P P0 n a m) {i j : Nat} (hij : i < j) (hg : gd P (P (a i)) (P (a j))) {s : Nat} (n1 : ∀ e, i ≤ e → e ≤ j → P (a s) ≠ P (a e)) (n2 : ∀ e, i ≤ e → e ≤ j → P (a (s + 1)) ≠ P (a e)) : wp P a i j (P (a s)) = wp P a i j (P (a (s + 1))) := by
  refine hh_K (P := fun t => P (a t)) hij (fun e _ _ q => Cr E I (inv_gd E I e) s (PX_s q)) (fun q => Cr E I hg s (PX_s q)) (fun e h1 h2 q => ?_) (fun e h1 h2 q => ?_) (fun q => ?_) (fun e h1 h2 q => ?_) (fun q => ?_)
  · exact ((inv_gd E I s).1 _ q).elim (fun w => n1 e h1 h2 w.symm) (fun w => n2 e h1 h2 w.symm)
  · exact ((inv_gd E I e).1 _ q).elim (n1 e h1 (by omega)) (n1 (e + 1) (by omega) (by omega))
  · exact (hg.1 _ q).elim (n1 i (by omega) (by omega)) (n1 j (by omega) (by omega))
  · exact ((inv_gd E I e).1 _ q).elim (n2 e h1 (by omega)) (n2 (e + 1) (by omega) (by omega))
  · exact (hg.1 _ q).elim (n2 i (by omega) (by omega)) (n2 j (by omega) (by omega))
theorem wpK_r {P P0 : Nat → Pt9} {n m : Nat} {f : Pt9} {a : Nat → Nat} (E : Env9 P n f) (I : Inv P P0 n a m) {i j : Nat} (hij : i < j) (hg : gd P (P (a i)) (P (a j))) (k : Nat) : ∀ d, (∀ k', k ≤ k' → k' ≤ k + d → ∀ e, i ≤ e → e ≤ j → P k' ≠ P (a e)) → wp P a i j (P k) = wp P a i j (P (k + d))
  | 0, _ => rfl
  | d + 1, h => by
    rw [wpK_r E I hij hg k d (fun k' h1 h2 => h k' h1 (by omega))]
    exact wpK_P E I hij hg (h (k + d) (by omega) (by omega)) (h (k + d + 1) (by omega) (by omega))
/-- a corner of the chain is as its end -/
theorem wpK_c {P P0 : Nat → Pt9} {n m : Nat} {f : Pt9} {a : Nat → Nat} (E : Env9 P n f) (I : Inv P P0 n a m) {i j : Nat} (hij : i < j) (hg : gd P (P (a i)) (P (a j))) {t x : Nat} (h1 : a t < x) (h2 : x < a (t + 1)) : ((∀ e, i ≤ e → e ≤ j → P (a t) ≠ P (a e)) → wp P a i j (P x) = wp P a i j (P (a t))) ∧ ((∀ e, i ≤ e → e ≤ j → P (a (t + 1)) ≠ P (a e)) → wp P a i j (P x) = wp P a i j (P (a (t + 1)))) := by
  constructor
  · intro hn
    have := wpK_r E I hij hg (a t) (x - a t) (fun k h3 h4 e h5 h6 => by
      rcases Nat.lt_or_ge (a t) k with q | q
      · exact CH E I.1 q (by omega) e
      · rw [show k = a t by omega]; exact hn e h5 h6)
    rw [show a t + (x - a t) = x by omega] at this
    exact this.symm
  · intro hn
    have := wpK_r E I hij hg x (a (t + 1) - x) (fun k h3 h4 e h5 h6 => by
      rcases Nat.lt_or_ge k (a (t + 1)) with q | q
      · exact CH E I.1 (by omega) q e
      · rw [show k = a (t + 1) by omega]; exact hn e h5 h6)
    rw [show x + (a (t + 1) - x) = a (t + 1) by omega] at this
    exact this
theorem tri_same {P : Nat → Pt9} {a : Nat → Nat} {m : Nat} {b c z : Pt9} (T : Tri P a m b c) (hA : 0 < tu (P (a 0)) b z) (hB : 0 < tu (P (a 0)) z c) : (decide (0 < tu (P (a (m - 1))) (P (a 0)) (P (a 1))) ^^ decide (0 < tu (P (a (m - 1))) (P (a 0)) z)) = false ∧ (decide (0 < tu (P (a 1)) (P (a 0)) z) ^^ decide (0 < tu (P (a 1)) (P (a 0)) (P (a (m - 1))))) = false := by
  have hτ := T.2
  have r1 : ∀ x y : Pt9, tu x (P (a 0)) y = tu (P (a 0)) y x := fun x y => tu_cyc x (P (a 0)) y
  have r2 : tu (P (a 0)) c b = - tu (P (a 0)) b c := tu_vc _ _ _
  have r3 : tu (P (a 0)) z b = - tu (P (a 0)) b z := tu_vc _ _ _
  rcases T.1 with ⟨h1, h2⟩ | ⟨h1, h2⟩
  · rw [← h1, ← h2, r1, r1, r1, r1, r2, r3]
    have d1 : decide (0 < tu (P (a 0)) b c) = true := decide_eq_true hτ
    have d2 : decide (0 < tu (P (a 0)) z c) = true := decide_eq_true hB
    have d3 : decide (0 < - tu (P (a 0)) b z) = false := decide_eq_false (by omega)
    have d4 : decide (0 < - tu (P (a 0)) b c) = false := decide_eq_false (by omega)
    rw [d1, d2, d3, d4]
    exact ⟨rfl, rfl⟩
  · rw [← h1, ← h2, r1, r1, r1, r1, r2, r3]
    have d1 : decide (0 < tu (P (a 0)) b c) = true := decide_eq_true hτ
    have d2 : decide (0 < tu (P (a 0)) z c) = true := decide_eq_true hB
    have d3 : decide (0 < - tu (P (a 0)) b z) = false := decide_eq_false (by omega)
    have d4 : decide (0 < - tu (P (a 0)) b c) = false := decide_eq_false (by omega)
    rw [d1, d2, d3, d4]
    exact ⟨rfl, rfl⟩
theorem lc {P P0 : Nat → Pt9} {n m : Nat} {f : Pt9} {a : Nat → Nat} (E : Env9 P n f) (I : Inv P P0 n a m) {r : Nat} (hr : r = 1 ∨ r = m - 1) {t : Nat} (n1 : P (a t) ≠ P (a 0)) (n2 : P (a (t + 1)) ≠ P (a 0)) (n3 : P (a t) ≠ P (a r)) (n4 : P (a (t + 1)) ≠ P (a r)) : ¬ PX (P (a r)) (P (a 0)) (P (a t)) (P (a (t + 1))) ∧ ¬ onS (P (a t)) (P (a r)) (P (a 0)) ∧ ¬ onS (P (a (t + 1))) (P (a r)) (P (a 0)) ∧ ¬ onS (P (a 0)) (P (a t)) (P (a (t + 1))) := by
  have g := gd_sym (gd_1 E I hr)
  exact ⟨Cr E I g t, fun q => (g.1 _ q).elim n3 n1, fun q => (g.1 _ q).elim n4 n2, fun q => ((inv_gd E I t).1 _ q).elim n1.symm n2.symm⟩
theorem sep1 {P P0 : Nat → Pt9} {n m : Nat} {f : Pt9} {a : Nat → Nat} {b c : Pt9} (E : Env9 P n f) (I : Inv P P0 n a m) (T : Tri P a m b c) (hmax : ∀ t, fi f (P (a t)) ≤ fi f (P (a 0))) {z : Nat} (z1 : 2 ≤ z) (z2 : z + 2 ≤ m) (hA : 0 < tu (P (a 0)) b (P (a z))) (hB : 0 < tu (P (a 0)) (P (a z)) c) (hg : gd P (P (a 0)) (P (a z))) : ∀ s, z < s → s < m → wp P a 0 z (P (a s)) = false := by
  have hS := I.1
  have base : wp P a 0 z (P (a (m - 1))) = false := by
    obtain ⟨k, rfl⟩ : ∃ k, z = k + 1 := ⟨z - 1, by omega⟩
    have ep : ∀ t, t ≤ k + 1 → Hp (fun t => P (a t)) 0 (k + 1) t = P (a t) := fun t ht => by
      unfold Hp
      rw [if_neg (by omega), Nat.zero_add]
    have nu : ∀ t, t < m - 1 → P (a t) ≠ P (a (m - 1)) := fun t ht => q_neq E hS ht (by omega)
    have key := par_L (x := P (a (m - 1))) (v := P (a 0)) (f := f) (h := h0) (p := Hp (fun t => P (a t)) 0 (k + 1)) (k := k) h0_ne (hp_c (P := fun t => P (a t)) (show 0 < k + 1 by omega)) (ep 0 (by omega)) (fi_lt E hS hmax (by omega) (by omega)) (fun t => ?_) (fun t t1 t2 => ?_) (fun t t1 => ?_)
    · show par _ _ _ (k + 1 - 0 + 1) = false
      rw [show k + 1 - 0 + 1 = k + 2 by omega, key, ep 1 (by omega), ep (k + 1) (by omega)]
      exact (tri_same T hA hB).1
    · unfold Hp
      split
      · exact hmax 0
      · exact hmax _
    · rw [ep t (by omega), ep (t + 1) (by omega)]
      exact lc E I (Or.inr rfl) (q_ne0 E hS t1 (by omega)) (q_ne0 E hS (by omega) (by omega)) (nu t (by omega)) (nu (t + 1) (by omega))
    · rcases hp_e (P := fun t => P (a t)) (show 0 < k + 1 by omega) (show t < k + 1 - 0 + 1 by omega) with ⟨e, a1, a2, a3, a4⟩ | ⟨a3, a4⟩
      · rw [a3, a4]; exact fun q => ((inv_gd E I e).1 _ q).elim (nu e (by omega)).symm (nu (e + 1) (by omega)).symm
      · rw [a3, a4]; exact fun q => (hg.1 _ (onS_c q)).elim (nu 0 (by omega)).symm (nu (k + 1) (by omega)).symm
  have st : ∀ d s, s + d = m - 1 → z < s → wp P a 0 z (P (a s)) = false := by
    intro d
    induction d with
    | zero => intro s h1 _; rw [show s = m - 1 by omega]; exact base
    | succ d ih =>
      intro s h1 h2
      rw [wpK_Q E I (by omega) hg (fun e _ e2 => (q_neq E hS (by omega) (by omega)).symm) (fun e _ e2 => (q_neq E hS (by omega) (by omega)).symm)]
      exact ih (s + 1) (by omega) (by omega)
  exact fun s h1 h2 => st (m - 1 - s) s (by omega) h1
theorem sep2 {P P0 : Nat → Pt9} {n m : Nat} {f : Pt9} {a : Nat → Nat} {b c : Pt9} (E : Env9 P n f) (I : Inv P P0 n a m) (T : Tri P a m b c) (hmax : ∀ t, fi f (P (a t)) ≤ fi f (P (a 0))) {z : Nat} (z1 : 2 ≤ z) (z2 : z + 2 ≤ m) (hA : 0 < tu (P (a 0)) b (P (a z))) (hB : 0 < tu (P (a 0)) (P (a z)) c) (hg : gd P (P (a 0)) (P (a z))) : ∀ s, 0 < s → s < z → wp P a z m (P (a s)) = false := by
  have hS := I.1
  have hm0 : P (a m) = P (a 0) := by have := q_per E hS 0; rw [Nat.zero_add] at this; exact this
  have hg2 : gd P (P (a z)) (P (a m)) := by rw [hm0]; exact gd_sym hg
  have nu : ∀ s t, 0 < s → s < z → z ≤ t → t ≤ m → P (a t) ≠ P (a s) := fun s t h1 h2 h3 h4 => by
    rcases Nat.lt_or_ge t m with q | q
    · exact (q_neq E hS (by omega) (by omega)).symm
    · rw [show t = m by omega, hm0]; exact (q_neq E hS h1 (by omega))
  have base : wp P a z m (P (a 1)) = false := by
    obtain ⟨k, rfl⟩ : ∃ k, m = z + (k + 1) := ⟨m - z - 1, by omega⟩
    have key := par_L (x := P (a 1)) (v := P (a 0)) (f := f) (h := h0) (p := fun t => if t = 0 then P (a 0) else P (a (z + t - 1))) (k := k) h0_ne (by show (if k + 2 = 0 then _ else _) = (if (0 : Nat) = 0 then _ else _); rw [if_neg (by omega), if_pos rfl, show z + (k + 2) - 1 = z + (k + 1) by omega, hm0]) rfl (fi_lt E hS hmax (by omega) (by omega)) (fun t => ?_) (fun t t1 t2 => ?_) (fun t t1 => ?_)
    · have e1 : wp P a z (z + (k + 1)) (P (a 1)) = par (P (a 1)) h0 (fun t => if t = 0 then P (a 0) else P (a (z + t - 1))) (k + 2) := by
        rw [wp_u (by omega), par, ← xs_s, show z + (k + 1) - z = k + 1 by omega, Bool.xor_comm]
        congr 1
        show _ = crd (P (a 1)) h0 (if (0 : Nat) = 0 then P (a 0) else _) (if 0 + 1 = 0 then _ else P (a (z + (0 + 1) - 1)))
        rw [if_pos rfl, if_neg (by omega), hm0, show z + (0 + 1) - 1 = z by omega]
      rw [e1, key]
      show (decide (0 < tu (P (a 1)) (P (a 0)) (if 1 = 0 then _ else P (a (z + 1 - 1)))) ^^ decide (0 < tu (P (a 1)) (P (a 0)) (if k + 1 = 0 then _ else P (a (z + (k + 1) - 1))))) = false
      rw [if_neg (by omega), if_neg (by omega), show z + 1 - 1 = z by omega]
      exact (tri_same T hA hB).2
    · show fi f (if t = 0 then _ else _) ≤ _
      split
      · exact hmax 0
      · exact hmax _
    · show ¬ PX _ _ (if t = 0 then _ else P (a (z + t - 1))) (if t + 1 = 0 then _ else P (a (z + (t + 1) - 1))) ∧ ¬ onS (if t = 0 then _ else P (a (z + t - 1))) _ _ ∧ ¬ onS (if t + 1 = 0 then _ else P (a (z + (t + 1) - 1))) _ _ ∧ ¬ onS _ (if t = 0 then _ else P (a (z + t - 1))) (if t + 1 = 0 then _ else P (a (z + (t + 1) - 1)))
      rw [if_neg (by omega), if_neg (by omega), show z + (t + 1) - 1 = z + t - 1 + 1 by omega]
      exact lc E I (Or.inl rfl) (q_ne0 E hS (by omega) (by omega)) (q_ne0 E hS (by omega) (by omega)) (nu 1 _ (by omega) (by omega) (by omega) (by omega)) (nu 1 _ (by omega) (by omega) (by omega) (by omega))
    · show ¬ onS _ (if t = 0 then _ else P (a (z + t - 1))) (if t + 1 = 0 then _ else P (a (z + (t + 1) - 1)))
      rcases Nat.eq_zero_or_pos t with w | w
      · rw [w, if_pos rfl, if_neg (by omega), show z + (0 + 1) - 1 = z by omega]
        exact fun q => (hg.1 _ q).elim (q_ne0 E hS (by omega) (by omega)) (nu 1 z (by omega) (by omega) (by omega) (by omega)).symm
      · rw [if_neg (by omega), if_neg (by omega), show z + (t + 1) - 1 = z + t - 1 + 1 by omega]
        exact fun q => ((inv_gd E I _).1 _ q).elim (nu 1 _ (by omega) (by omega) (by omega) (by omega)).symm (nu 1 _ (by omega) (by omega) (by omega) (by omega)).symm
  have st : ∀ s, s + 1 < z → wp P a z m (P (a (s + 1))) = false := by
    intro s
    induction s with
    | zero => intro _; exact base
    | succ s ih =>
      intro h1
      rw [← wpK_Q E I (by omega) hg2 (fun e e1 e2 => (nu (s + 1) e (by omega) (by omega) e1 e2).symm) (fun e e1 e2 => (nu (s + 1 + 1) e (by omega) (by omega) e1 e2).symm)]
      exact ih (by omega)
  intro s h1 h2
  have := st (s - 1) (by omega)
  rw [show s - 1 + 1 = s by omega] at this
  exact this
