/-! triangulations -/
def Rr (P P0 : Nat → Pt9) (n : Nat) (o : Int) (bs : Nat → Nat → Prop) : Nat → Nat → Nat → Prop
  | 0, i, j => bs i j
  | d + 1, i, j => bs i j ∨ ∃ k, i < k ∧ k < j ∧ okc P P0 n i k ∧ okc P P0 n k j ∧ 0 < o * tu (P i) (P k) (P j) ∧ Rr P P0 n o bs d i k ∧ Rr P P0 n o bs d k j
def Rx (P P0 : Nat → Pt9) (n : Nat) (o : Int) (bs : Nat → Nat → Prop) (i j : Nat) : Prop := ∃ d, Rr P P0 n o bs d i j
theorem Rr_s {P P0 : Nat → Pt9} {n : Nat} {o : Int} {bs : Nat → Nat → Prop} : ∀ (d i j : Nat), Rr P P0 n o bs d i j → Rr P P0 n o bs (d + 1) i j
  | 0, i, j, h => Or.inl h
  | d + 1, i, j, h => by
    rcases h with h | ⟨k, h1, h2, h3, h4, h5, h6, h7⟩
    · exact Or.inl h
    · exact Or.inr ⟨k, h1, h2, h3, h4, h5, Rr_s d i k h6, Rr_s d k j h7⟩
theorem Rr_m {P P0 : Nat → Pt9} {n : Nat} {o : Int} {bs : Nat → Nat → Prop} {d i j : Nat} (h : Rr P P0 n o bs d i j) : ∀ e, Rr P P0 n o bs (d + e) i j
  | 0 => h
  | e + 1 => Rr_s _ _ _ (Rr_m h e)
theorem Rx_step {P P0 : Nat → Pt9} {n : Nat} {o : Int} {bs : Nat → Nat → Prop} {i j k : Nat} (h1 : i < k) (h2 : k < j) (h3 : okc P P0 n i k) (h4 : okc P P0 n k j) (h5 : 0 < o * tu (P i) (P k) (P j)) (h6 : Rx P P0 n o bs i k) (h7 : Rx P P0 n o bs k j) : Rx P P0 n o bs i j := by
  obtain ⟨d, h6⟩ := h6
  obtain ⟨e, h7⟩ := h7
  refine ⟨d + e + 1, Or.inr ⟨k, h1, h2, h3, h4, h5, Rr_m h6 e, ?_⟩⟩
  rw [Nat.add_comm]
  exact Rr_m h7 d
theorem Rx_base {P P0 : Nat → Pt9} {n : Nat} {o : Int} {bs : Nat → Nat → Prop} {i j : Nat} (h : bs i j) : Rx P P0 n o bs i j := ⟨0, h⟩
theorem Rr_sub {P P0 : Nat → Pt9} {n : Nat} {o : Int} {bs bs' : Nat → Nat → Prop} (hb : ∀ i j, bs i j → Rx P P0 n o bs' i j) : ∀ (d i j : Nat), Rr P P0 n o bs d i j → Rx P P0 n o bs' i j
  | 0, i, j, h => hb i j h
  | d + 1, i, j, h => by
    rcases h with h | ⟨k, h1, h2, h3, h4, h5, h6, h7⟩
    · exact hb i j h
    · exact Rx_step h1 h2 h3 h4 h5 (Rr_sub hb d i k h6) (Rr_sub hb d k j h7)
theorem Rx_sub {P P0 : Nat → Pt9} {n : Nat} {o : Int} {bs bs' : Nat → Nat → Prop} (hb : ∀ i j, bs i j → Rx P P0 n o bs' i j) {i j : Nat} (h : Rx P P0 n o bs i j) : Rx P P0 n o bs' i j := by
  obtain ⟨d, h⟩ := h
  exact Rr_sub hb d i j h
theorem Rr_end {P P0 : Nat → Pt9} {n : Nat} {o : Int} {bs : Nat → Nat → Prop} : ∀ (d i j : Nat), Rr P P0 n o bs d i j → (∃ j', bs i j') ∧ ∃ i', bs i' j
  | 0, i, j, h => ⟨⟨j, h⟩, ⟨i, h⟩⟩
  | d + 1, i, j, h => by
    rcases h with h | ⟨k, h1, h2, h3, h4, h5, h6, h7⟩
    · exact ⟨⟨j, h⟩, ⟨i, h⟩⟩
    · exact ⟨(Rr_end d i k h6).1, (Rr_end d k j h7).2⟩
theorem okc_un {P P0 : Nat → Pt9} {n : Nat} (hp : ∀ i, P (i + n) = P i) (h2 : ∀ i, P i = (2 * (P0 i).1, 2 * (P0 i).2)) {i j : Nat} (h : okc P P0 n (i + n) (j + n)) : okc P P0 n i j := by
  have e0 : ∀ i, P0 (i + n) = P0 i := fun i => by have := p0_per hp h2 i 1; rw [Nat.mul_one] at this; exact this
  rcases h with h | ⟨h, h'⟩
  · exact Or.inl (by omega)
  · refine Or.inr ⟨by rw [hp, hp] at h; exact h, ?_⟩
    unfold mid at h' ⊢
    rw [e0, e0] at h'
    exact h'
theorem okc_rev {P P0 : Nat → Pt9} {n i j : Nat} (h : gd P (P i) (P j) ∧ par (mid P0 i j) h0 P n = true) : okc P P0 n i j ∧ okc P P0 n j i := by
  refine ⟨Or.inr h, Or.inr ⟨gd_sym h.1, ?_⟩⟩
  have e : mid P0 j i = mid P0 i j := by unfold mid; rw [Int.add_comm, Int.add_comm (P0 j).2]
  rw [e]; exact h.2
/-- the edges of the part but the one at t0 -/
def bsQ (a : Nat → Nat) (m t0 : Nat) (i j : Nat) : Prop := ∃ t, t % m ≠ t0 % m ∧ i = a t ∧ j = a (t + 1)
theorem bsQ_sh {n m : Nat} {a : Nat → Nat} (h : Sub n a m) {t0 i j : Nat} (hb : bsQ a m t0 i j) (q : Nat) : bsQ a m t0 (i + n * q) (j + n * q) := by
  obtain ⟨t, h1, h2, h3⟩ := hb
  refine ⟨t + m * q, by rw [Nat.add_mul_mod_self_left]; exact h1, by rw [sub_z h, h2], ?_⟩
  rw [show t + m * q + 1 = (t + 1) + m * q by omega, sub_z h, h3]
theorem Rr_sh {P P0 : Nat → Pt9} {n m : Nat} {a : Nat → Nat} {o : Int} (hp : ∀ i, P (i + n) = P i) (h2 : ∀ i, P i = (2 * (P0 i).1, 2 * (P0 i).2)) (h : Sub n a m) {t0 : Nat} (q : Nat) : ∀ (d i j : Nat), Rr P P0 n o (bsQ a m t0) d i j → Rr P P0 n o (bsQ a m t0) d (i + n * q) (j + n * q)
  | 0, i, j, hb => bsQ_sh h hb q
  | d + 1, i, j, hb => by
    rcases hb with hb | ⟨k, h1, h3, h4, h5, h6, h7, h8⟩
    · exact Or.inl (bsQ_sh h hb q)
    · exact Or.inr ⟨k + n * q, by omega, by omega, okc_shift hp h2 q h4, okc_shift hp h2 q h5, by rw [per_z hp, per_z hp, per_z hp]; exact h6, Rr_sh hp h2 h q d i k h7, Rr_sh hp h2 h q d k j h8⟩
theorem Rx_sh {P P0 : Nat → Pt9} {n m : Nat} {a : Nat → Nat} {o : Int} (hp : ∀ i, P (i + n) = P i) (h2 : ∀ i, P i = (2 * (P0 i).1, 2 * (P0 i).2)) (h : Sub n a m) {t0 i j : Nat} (q : Nat) (hx : Rx P P0 n o (bsQ a m t0) i j) : Rx P P0 n o (bsQ a m t0) (i + n * q) (j + n * q) := by
  obtain ⟨d, hd⟩ := hx
  exact ⟨d, Rr_sh hp h2 h q d i j hd⟩
theorem bsQ_un {n m : Nat} {a : Nat → Nat} (h : Sub n a m) {t0 i j : Nat} (hi : a 0 ≤ i) (hb : bsQ a m t0 (i + n) (j + n)) : bsQ a m t0 i j := by
  obtain ⟨t, h1, h2, h3⟩ := hb
  have e := h.2.2 0
  rw [Nat.zero_add] at e
  have ht : m ≤ t := by
    rcases Nat.lt_or_ge t m with q | q
    · have := sub_lt h q
      omega
    · exact q
  obtain ⟨t', rfl⟩ : ∃ t', t = t' + m := ⟨t - m, by omega⟩
  have e1 := h.2.2 t'
  have e2 := h.2.2 (t' + 1)
  rw [show t' + 1 + m = t' + m + 1 by omega] at e2
  exact ⟨t', by rw [Nat.add_mod_right] at h1; exact h1, by omega, by omega⟩
theorem Rr_un {P P0 : Nat → Pt9} {n m : Nat} {a : Nat → Nat} {o : Int} (hp : ∀ i, P (i + n) = P i) (h2 : ∀ i, P i = (2 * (P0 i).1, 2 * (P0 i).2)) (h : Sub n a m) {t0 : Nat} : ∀ (d i j : Nat), a 0 ≤ i → Rr P P0 n o (bsQ a m t0) d (i + n) (j + n) → Rr P P0 n o (bsQ a m t0) d i j
  | 0, i, j, hi, hb => bsQ_un h hi hb
  | d + 1, i, j, hi, hb => by
    rcases hb with hb | ⟨k, h1, h3, h4, h5, h6, h7, h8⟩
    · exact Or.inl (bsQ_un h hi hb)
    · obtain ⟨k', rfl⟩ : ∃ k', k = k' + n := ⟨k - n, by omega⟩
      exact Or.inr ⟨k', by omega, by omega, okc_un hp h2 h4, okc_un hp h2 h5, by rw [hp, hp, hp] at h6; exact h6, Rr_un hp h2 h d i k' hi h7, Rr_un hp h2 h d k' j (by omega) h8⟩
theorem Rx_un {P P0 : Nat → Pt9} {n m : Nat} {a : Nat → Nat} {o : Int} (hp : ∀ i, P (i + n) = P i) (h2 : ∀ i, P i = (2 * (P0 i).1, 2 * (P0 i).2)) (h : Sub n a m) {t0 i j : Nat} (hi : a 0 ≤ i) (hx : Rx P P0 n o (bsQ a m t0) (i + n) (j + n)) : Rx P P0 n o (bsQ a m t0) i j := by
  obtain ⟨d, hd⟩ := hx
  exact ⟨d, Rr_un hp h2 h d i j hi hd⟩
theorem bsW {a : Nat → Nat} {n lo len t0 i j : Nat} (hl : 0 < len) (h : bsQ (win a n lo len) len t0 i j) : ∃ r q, r < len ∧ r ≠ t0 % len ∧ i = a (lo + r) + n * q ∧ ((r + 1 < len ∧ j = a (lo + r + 1) + n * q) ∨ (r + 1 = len ∧ j = a lo + n + n * q)) := by
  obtain ⟨t, h1, h2, h3⟩ := h
  obtain ⟨r, q, e, hr, e1, e2⟩ := win_e (a := a) (n := n) (lo := lo) hl t
  refine ⟨r, q, hr, ?_, by rw [h2, e1], ?_⟩
  · rw [e, Nat.add_mul_mod_self_left, Nat.mod_eq_of_lt hr] at h1
    exact h1
  · rcases e2 with ⟨a1, a2⟩ | ⟨a1, a2⟩
    · exact Or.inl ⟨a1, by rw [h3, a2]⟩
    · exact Or.inr ⟨a1, by rw [h3, a2]⟩
theorem bsQ_at {n m : Nat} {a : Nat → Nat} (h : Sub n a m) {t0 t : Nat} (ht : t % m ≠ t0 % m) (q : Nat) : bsQ a m t0 (a t + n * q) (a (t + 1) + n * q) := bsQ_sh h ⟨t, ht, rfl, rfl⟩ q
/-- what is claimed of a part -/
def Claim (P P0 : Nat → Pt9) (n : Nat) (o : Int) (a : Nat → Nat) (m : Nat) : Prop := ∀ t0, Rx P P0 n o (bsQ a m t0) (a (t0 + 1)) (a t0 + n)
theorem claim_lt {P P0 : Nat → Pt9} {n m : Nat} {a : Nat → Nat} {o : Int} (hp : ∀ i, P (i + n) = P i) (h2 : ∀ i, P i = (2 * (P0 i).1, 2 * (P0 i).2)) (h : Sub n a m) (hc : ∀ t0, t0 < m → Rx P P0 n o (bsQ a m t0) (a (t0 + 1)) (a t0 + n)) : Claim P P0 n o a m := fun t0 => by
  have hm : 0 < m := by have := h.1; omega
  have e := Nat.mod_add_div t0 m
  have hr := Nat.mod_lt t0 hm
  have key := Rx_sh hp h2 h (t0 / m) (hc (t0 % m) hr)
  have e1 := sub_z h (t0 % m) (t0 / m)
  have e2 := sub_z h (t0 % m + 1) (t0 / m)
  rw [show t0 % m + 1 + m * (t0 / m) = t0 + 1 by omega] at e2
  rw [e] at e1
  rw [← e2, show a (t0 % m) + n + n * (t0 / m) = a t0 + n by omega] at key
  have e3 : bsQ a m (t0 % m) = bsQ a m t0 := by
    funext i j
    unfold bsQ
    rw [Nat.mod_mod]
  rw [e3] at key
  exact key
theorem claim_3 {P P0 : Nat → Pt9} {n : Nat} {f : Pt9} {a : Nat → Nat} {o : Int} (E : Env9 P n f) (I : Inv P P0 n a 3) (ho : 0 < o * tu (P (a 2)) (P (a 0)) (P (a 1))) : Claim P P0 n o a 3 := fun t0 => by
  have hS := I.1
  have e3 := hS.2.2 t0
  have k1 := hS.2.1 (t0 + 1)
  have k2 := hS.2.1 (t0 + 2)
  rw [← e3]
  refine Rx_step k1 k2 (I.2.1 _) (I.2.1 _) ?_ (Rx_base ⟨t0 + 1, by omega, rfl, rfl⟩) (Rx_base ⟨t0 + 2, by omega, rfl, rfl⟩)
  have q : ∀ s t, s % 3 = t % 3 → P (a s) = P (a t) := fun s t h => q_mod E hS h
  rcases (show t0 % 3 = 0 ∨ t0 % 3 = 1 ∨ t0 % 3 = 2 by omega) with h | h | h
  · rw [q (t0 + 1) 1 (by omega), q (t0 + 1 + 1) 2 (by omega), q (t0 + 3) 0 (by omega), tu_cyc]; exact ho
  · rw [q (t0 + 1) 2 (by omega), q (t0 + 1 + 1) 0 (by omega), q (t0 + 3) 1 (by omega)]; exact ho
  · rw [q (t0 + 1) 0 (by omega), q (t0 + 1 + 1) 1 (by omega), q (t0 + 3) 2 (by omega), ← tu_cyc]; exact ho
