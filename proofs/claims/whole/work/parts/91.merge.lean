theorem madd_inj {n c t t' : Nat} (h : (c + t) % n = (c + t') % n) (h1 : t < n) (h2 : t' < n) : t = t' := by
  rcases Nat.le_total t t' with q | q
  · have := mod_win h (by omega) (by omega); omega
  · have := mod_win h.symm (by omega) (by omega); omega
theorem far_add {n c z : Nat} (hc : c < n) (hz : z < n) : (c + farE n c z) % n = z ∧ farE n c z < n := by
  unfold farE
  refine ⟨?_, Nat.mod_lt _ (by omega)⟩
  rw [Nat.add_mod_mod, show c + (z + n - c) = z + n by omega, Nat.add_mod_right, Nat.mod_eq_of_lt hz]
theorem far_at {n c t : Nat} (hc : c < n) (ht : t < n) : farE n c ((c + t) % n) = t := by
  have hn : 0 < n := by omega
  obtain ⟨h1, h2⟩ := far_add (n := n) hc (Nat.mod_lt (c + t) hn)
  exact madd_inj h1 h2 ht
theorem af_add {n c t : Nat} (hn : 0 < n) : af n ((c + t) % n) = (c + (t + 1)) % n := by
  rw [← mod_s (Nat.mod_lt _ hn), Nat.mod_add_mod, Nat.add_assoc]
theorem bf_add {n c t : Nat} (h2 : 2 ≤ n) : bf n ((c + (t + 1)) % n) = (c + t) % n := by
  have := (bf_af (Nat.mod_lt (c + t) (show 0 < n by omega)) h2).2
  rw [af_add (by omega)] at this
  exact this
/-- who is joined with c, by the distance -/
def Pj (n : Nat) (A B : Nat → Nat) (st : Nat → Bool) (m w c t : Nat) : Prop := t = 1 ∨ t = n - 1 ∨ ∃ e, e < m ∧ okE A B st w c e = true ∧ farE n c (othE A B c e) = t
theorem bef_ok {n : Nat} {A B : Nat → Nat} {st : Nat → Bool} {w c its : Nat} (hi : 2 ≤ its) : ∀ m, 1 ≤ befR n A B st w c its m ∧ befR n A B st w c its m < its ∧ (befR n A B st w c its m = 1 ∨ ∃ e, e < m ∧ okE A B st w c e = true ∧ farE n c (othE A B c e) = befR n A B st w c its m) ∧ ∀ e, e < m → okE A B st w c e = true → farE n c (othE A B c e) < its → farE n c (othE A B c e) ≤ befR n A B st w c its m
  | 0 => ⟨Nat.le_refl _, by show 1 < its; omega, Or.inl rfl, fun e h => absurd h (Nat.not_lt_zero _)⟩
  | m + 1 => by
    obtain ⟨h1, h2, h3, h4⟩ := bef_ok (n := n) (A := A) (B := B) (st := st) (w := w) (c := c) hi m
    rw [befR, bfS]
    by_cases q : okE A B st w c m = true ∧ farE n c (othE A B c m) < its ∧ befR n A B st w c its m < farE n c (othE A B c m)
    · rw [if_pos q]
      refine ⟨by omega, q.2.1, Or.inr ⟨m, by omega, q.1, rfl⟩, fun e he ho hf => ?_⟩
      rcases Nat.lt_or_ge e m with z | z
      · have := h4 e z ho hf; omega
      · rw [show e = m by omega]; exact Nat.le_refl _
    · rw [if_neg q]
      refine ⟨h1, h2, h3.elim Or.inl (fun ⟨e, a, b⟩ => Or.inr ⟨e, by omega, b⟩), fun e he ho hf => ?_⟩
      rcases Nat.lt_or_ge e m with z | z
      · exact h4 e z ho hf
      · have e9 : e = m := by omega
        rw [e9] at ho hf ⊢
        exact Nat.le_of_not_lt (fun z2 => q ⟨ho, hf, z2⟩)
theorem beh_ok {n : Nat} {A B : Nat → Nat} {st : Nat → Bool} {w c its : Nat} (hi : its + 2 ≤ n) : ∀ m, its < behR n A B st w c its m ∧ behR n A B st w c its m ≤ n - 1 ∧ (behR n A B st w c its m = n - 1 ∨ ∃ e, e < m ∧ okE A B st w c e = true ∧ farE n c (othE A B c e) = behR n A B st w c its m) ∧ ∀ e, e < m → okE A B st w c e = true → its < farE n c (othE A B c e) → behR n A B st w c its m ≤ farE n c (othE A B c e)
  | 0 => ⟨by show its < n - 1; omega, Nat.le_refl _, Or.inl rfl, fun e h => absurd h (Nat.not_lt_zero _)⟩
  | m + 1 => by
    obtain ⟨h1, h2, h3, h4⟩ := beh_ok (n := n) (A := A) (B := B) (st := st) (w := w) (c := c) hi m
    rw [behR, bhS]
    by_cases q : okE A B st w c m = true ∧ its < farE n c (othE A B c m) ∧ farE n c (othE A B c m) < behR n A B st w c its m
    · rw [if_pos q]
      refine ⟨q.2.1, by omega, Or.inr ⟨m, by omega, q.1, rfl⟩, fun e he ho hf => ?_⟩
      rcases Nat.lt_or_ge e m with z | z
      · have := h4 e z ho hf; omega
      · rw [show e = m by omega]; exact Nat.le_refl _
    · rw [if_neg q]
      refine ⟨h1, h2, h3.elim Or.inl (fun ⟨e, a, b⟩ => Or.inr ⟨e, by omega, b⟩), fun e he ho hf => ?_⟩
      rcases Nat.lt_or_ge e m with z | z
      · exact h4 e z ho hf
      · have e9 : e = m := by omega
        rw [e9] at ho hf ⊢
        exact Nat.le_of_not_lt (fun z2 => q ⟨ho, hf, z2⟩)
theorem jb_down {J : Nat → Int32} {n c lo : Nat} (h2 : 2 ≤ n) (hlo : J ((c + lo) % n) ≠ 0) : ∀ k f, k + 1 ≤ f → (∀ t, lo < t → t ≤ lo + k → J ((c + t) % n) = 0) → jbF J (bf n) f ((c + (lo + k)) % n) = (c + lo) % n
  | 0, f, hf, _ => by
    obtain ⟨g, rfl⟩ : ∃ g, f = g + 1 := ⟨f - 1, by omega⟩
    rw [jbF, Nat.add_zero, if_neg hlo]
  | k + 1, f, hf, h => by
    obtain ⟨g, rfl⟩ : ∃ g, f = g + 1 := ⟨f - 1, by omega⟩
    rw [jbF, if_pos (h (lo + (k + 1)) (by omega) (Nat.le_refl _)), ← Nat.add_assoc lo k 1, bf_add h2]
    exact jb_down h2 hlo k g (by omega) (fun t t1 t2 => h t t1 (by omega))
theorem jb_up {J : Nat → Int32} {n c hi : Nat} (hn : 0 < n) (hhi : J ((c + hi) % n) ≠ 0) : ∀ k f t0, t0 + k = hi → k + 1 ≤ f → (∀ t, t0 ≤ t → t < hi → J ((c + t) % n) = 0) → jbF J (af n) f ((c + t0) % n) = (c + hi) % n
  | 0, f, t0, h0, hf, _ => by
    obtain ⟨g, rfl⟩ : ∃ g, f = g + 1 := ⟨f - 1, by omega⟩
    rw [jbF, show t0 = hi by omega, if_neg hhi]
  | k + 1, f, t0, h0, hf, h => by
    obtain ⟨g, rfl⟩ : ∃ g, f = g + 1 := ⟨f - 1, by omega⟩
    rw [jbF, if_pos (h t0 (Nat.le_refl _) (by omega)), af_add hn]
    exact jb_up hn hhi k g (t0 + 1) (by omega) (by omega) (fun t t1 t2 => h t (by omega) t2)
/-- joined, told by both sides -/
def Jn (n m : Nat) (A B : Nat → Nat) (st : Nat → Bool) (J : Nat → Nat → Int32) : Prop := ∀ a b, a < n → b < n → (J a b ≠ 0 ↔ (af n a = b ∨ af n b = a) ∨ ∃ e, e < m ∧ st e = true ∧ ((a = A e ∧ b = B e) ∨ (a = B e ∧ b = A e)))
theorem scan {n m : Nat} {A B : Nat → Nat} {st : Nat → Bool} {J : Nat → Nat → Int32} {c e w : Nat} (h3 : 3 ≤ n) (hJ : Jn n m A B st J) (hAB : ∀ d, d < m → A d < n ∧ B d < n ∧ A d ≠ B d) (hinj : ∀ d d', d < m → d' < m → A d = A d' → B d = B d' → d = d') (hord : ∀ d, d < m → A d < B d) (hc : c < n) (he : e < n) (hw : w < m) (hce : (c = A w ∧ e = B w) ∨ (c = B w ∧ e = A w)) (hnn : ¬ (af n c = e ∨ af n e = c)) : jbF (J c) (bf n) n (bf n e) = (c + befR n A B st w c (farE n c e) m) % n ∧ jbF (J c) (af n) n (af n e) = (c + behR n A B st w c (farE n c e) m) % n := by
  obtain ⟨f1, f2⟩ := far_add hc he
  generalize hits : farE n c e = its at *
  have hnear : ∀ t, t < n → ((af n c = (c + t) % n ∨ af n ((c + t) % n) = c) ↔ (t = 1 ∨ t = n - 1)) := fun t ht => by
    have e1 : af n c = (c + 1) % n := (mod_s hc).symm
    have e2 : af n ((c + t) % n) = (c + (t + 1)) % n := af_add (by omega)
    rw [e1, e2]
    constructor
    · rintro (q | q)
      · exact Or.inl (madd_inj q (by omega) ht).symm
      · refine Or.inr ?_
        have q2 : (c + (t + 1)) % n = (c + 0) % n := by rw [q, Nat.add_zero, Nat.mod_eq_of_lt hc]
        rcases Nat.lt_or_ge (t + 1) n with z | z
        · have := madd_inj q2 z (by omega); omega
        · omega
    · rintro (q | q)
      · exact Or.inl (by rw [q])
      · refine Or.inr ?_
        rw [show t + 1 = n by omega, Nat.add_mod_right, Nat.mod_eq_of_lt hc]
  have hits2 : 2 ≤ its ∧ its + 2 ≤ n := by
    have hq := hnear its f2
    rw [f1] at hq
    have h0 : its ≠ 0 := fun z => by
      rw [z, Nat.add_zero, Nat.mod_eq_of_lt hc] at f1
      have := hAB w hw
      rcases hce with ⟨a, b⟩ | ⟨a, b⟩
      · exact this.2.2 (by rw [← a, ← b]; exact f1)
      · exact this.2.2 (by rw [← a, ← b]; exact f1.symm)
    have h1 : its ≠ 1 := fun z => hnn (hq.mpr (Or.inl z))
    have h2 : its ≠ n - 1 := fun z => hnn (hq.mpr (Or.inr z))
    omega
  -- joined at distance t, other than its
  have hjt : ∀ t, t < n → t ≠ its → (J c ((c + t) % n) ≠ 0 ↔ Pj n A B st m w c t) := fun t ht hne => by
    have hz : (c + t) % n < n := Nat.mod_lt _ (by omega)
    rw [hJ c _ hc hz, hnear t ht]
    unfold Pj
    constructor
    · rintro ((q | q) | ⟨d, d1, d2, d3⟩)
      · exact Or.inl q
      · exact Or.inr (Or.inl q)
      · refine Or.inr (Or.inr ⟨d, d1, ?_, ?_⟩)
        · have hdw : d ≠ w := fun z => by
            rw [z] at d3
            have : (c + t) % n = e := by
              rcases d3 with ⟨a1, a2⟩ | ⟨a1, a2⟩ <;> rcases hce with ⟨b1, b2⟩ | ⟨b1, b2⟩
              · rw [a2, b2]
              · exfalso; have := (hAB w hw).2.2; exact this (by rw [← a1, ← b1])
              · exfalso; have := (hAB w hw).2.2; exact this (by rw [← a1, ← b1])
              · rw [a2, b2]
            have q2 := far_at hc ht
            rw [this, hits] at q2
            exact hne q2.symm
          unfold okE
          rw [decide_eq_false hdw, d2]
          rcases d3 with ⟨a1, -⟩ | ⟨a1, -⟩
          · rw [decide_eq_true a1.symm]; rfl
          · rw [decide_eq_true a1.symm, Bool.or_true]; rfl
        · have ho : othE A B c d = (c + t) % n := by
            unfold othE
            rcases d3 with ⟨a1, a2⟩ | ⟨a1, a2⟩
            · rw [if_pos a1.symm, a2]
            · have := (hAB d d1).2.2
              rw [if_neg (fun z => this (by rw [z, a1])), a2]
          rw [ho]; exact far_at hc ht
    · rintro (q | q | ⟨d, d1, d2, d3⟩)
      · exact Or.inl (Or.inl q)
      · exact Or.inl (Or.inr q)
      · refine Or.inr ⟨d, d1, ?_, ?_⟩
        · unfold okE at d2
          rw [Bool.and_eq_true, Bool.and_eq_true] at d2
          exact d2.1.2
        · unfold okE at d2
          rw [Bool.and_eq_true, Bool.or_eq_true, decide_eq_true_eq, decide_eq_true_eq] at d2
          unfold othE at d3
          by_cases z : A d = c
          · rw [if_pos z] at d3
            have := far_add hc (hAB d d1).2.1
            rw [d3] at this
            exact Or.inl ⟨z.symm, this.1⟩
          · rw [if_neg z] at d3
            have := far_add hc (hAB d d1).1
            rw [d3] at this
            exact Or.inr ⟨(d2.2.resolve_left z).symm, this.1⟩
  obtain ⟨b1, b2, b3, b4⟩ := bef_ok (n := n) (A := A) (B := B) (st := st) (w := w) (c := c) hits2.1 m
  obtain ⟨c1, c2, c3, c4⟩ := beh_ok (n := n) (A := A) (B := B) (st := st) (w := w) (c := c) hits2.2 m
  constructor
  · have e1 : bf n e = (c + (its - 1)) % n := by
      rw [← f1]
      have := bf_add (n := n) (c := c) (t := its - 1) (by omega)
      rw [show its - 1 + 1 = its by omega] at this
      exact this
    generalize befR n A B st w c its m = lo at *
    rw [e1, show its - 1 = lo + (its - 1 - lo) by omega]
    refine jb_down (by omega) ((hjt lo (by omega) (by omega)).mpr (b3.elim Or.inl (fun q => Or.inr (Or.inr q)))) (its - 1 - lo) n (by omega) (fun t t1 t2 => ?_)
    refine Classical.byContradiction (fun z => ?_)
    rcases (hjt t (by omega) (by omega)).mp z with q | q | ⟨d, d1, d2, d3⟩
    · omega
    · omega
    · have := b4 d d1 d2 (by omega)
      omega
  · have e1 : af n e = (c + (its + 1)) % n := by rw [← f1]; exact af_add (by omega)
    generalize behR n A B st w c its m = hi at *
    rw [e1]
    refine jb_up (by omega) ((hjt hi (by omega) (by omega)).mpr (c3.elim (fun q => Or.inr (Or.inl q)) (fun q => Or.inr (Or.inr q)))) (hi - (its + 1)) n (its + 1) (by omega) (by omega) (fun t t1 t2 => ?_)
    refine Classical.byContradiction (fun z => ?_)
    rcases (hjt t (by omega) (by omega)).mp z with q | q | ⟨d, d1, d2, d3⟩
    · omega
    · omega
    · have := c4 d d1 d2 (by omega)
      omega
