theorem sight_v {n : Nat} {x y : Nat → Int32} (i j : Nat) : sightR n x y i j = 2 ∨ sightR n x y i j = 1 ∨ sightR n x y i j = 0 := by
  unfold sightR
  split
  · exact Or.inl rfl
  · split
    · exact Or.inr (Or.inl rfl)
    · exact Or.inr (Or.inr rfl)
theorem sight_p {n : Nat} {x y : Nat → Int32} (i j : Nat) : 0 < sightR n x y i j ↔ sightR n x y i j ≠ 0 := by
  rcases sight_v (n := n) (x := x) (y := y) i j with q | q | q <;> rw [q] <;> decide
theorem sight_d {n : Nat} {x y : Nat → Int32} (h : rowR n x y) {i : Nat} (hi : i < n) : sightR n x y i i = 0 := by
  have h3 := h.1
  have e1 : ¬ (af n i = i ∨ af n i = i) := fun q => by
    have q : af n i = i := q.elim id id
    unfold af at q
    split at q <;> omega
  unfold sightR
  rw [if_neg e1, if_neg]
  intro q
  unfold seenR at q
  rw [Bool.and_eq_true, decide_eq_true_eq, plc_mid h hi hi] at q
  refine q.2.1 i hi ?_
  have e : mid (Q0 n x y) i i = Q2 n x y i := by unfold mid Q2; exact Prod.ext (by show _ + _ = 2 * _; omega) (by show _ + _ = 2 * _; omega)
  rw [e]
  exact onS_a _ _
/-- what the class remembers of sight -/
theorem sgt_eq {n : Nat} {x y : Nat → Int32} (h : rowR n x y) (hf : noF n x y) (hm : noM n x y) {a b : Nat} (ha : a < n) (hb : b < n) : sgt n x y a b = sightR n x y a b := by
  unfold sgt
  by_cases e : a = b
  · rw [if_pos e, e, sight_d h hb]
  · rw [if_neg e]
    by_cases q : b < a
    · rw [if_pos q, sight_eq h hf hm ha hb e]
    · rw [if_neg q, sight_eq h hf hm hb ha (Ne.symm e), sight_sym h hb ha]
theorem way_eq {n : Nat} {x y : Nat → Int32} (h : rowR n x y) {S : Nat → Nat → Int32} (hS : ∀ a b, a < n → b < n → S a b = sightR n x y a b) {D D' : Nat → Int32} {b : Nat} : ∀ a, a < n → mOut n S (mD0 n b D) (n - 1) a = rOut n (sightR n x y) (mD0 14 b D') n a := fun a ha => by
  have h3 := h.1
  have h14 := h.2.1
  obtain ⟨d, rfl⟩ : ∃ d, n = d + 1 := ⟨n - 1, by omega⟩
  rw [show d + 1 - 1 = d by omega]
  have hp : ∀ a b, a < d + 1 → b < d + 1 → (0 < sightR (d + 1) x y a b ↔ sightR (d + 1) x y a b ≠ 0) := fun a b _ _ => sight_p a b
  have e1 := ring_eq (F := mD0 (d + 1) b D) (G := mD0 14 b D') hS (fun a b ha hb => by rw [hS a b ha hb, hS b a hb ha]; exact sight_sym h ha hb) hp (fun a ha => by unfold mD0; rw [if_pos ha, if_pos (show a < 14 by omega)]) d (by omega) a ha
  have e2 := ring_last (d := d) (F := rOut (d + 1) (sightR (d + 1) x y) (mD0 14 b D') d) h14 rfl hp (okR_out (okR_0 h14) d (by omega)) a ha
  rw [e1]
  exact e2.symm
theorem walk_c {n : Nat} {S S' : Nat → Nat → Int32} {D D' : Nat → Int32} (hS : ∀ a b, a < n → b < n → S a b = S' a b) (hD : ∀ a, a < n → D a = D' a) : ∀ (c h : Nat) (left : Int32), h < n → walkC n S D c h left = walkC n S' D' c h left
  | 0, h, left, _ => rfl
  | c + 1, h, left, hh => by
    have e : fndN (lnP (S h) D left) 0 n = fndN (lnP (S' h) D' left) 0 n := fndN_c (fun k _ hk => by unfold lnP; rw [hS h k hh hk, hD k hk])
    rw [walkC, walkC, e]
    cases hf : fndN (lnP (S' h) D' left) 0 n with
    | none => rfl
    | some j => exact walk_c hS hD c j (left - 1) (fnd_lt hf)
theorem step_eq {n : Nat} {x y : Nat → Int32} (h : rowR n x y) {S : Nat → Nat → Int32} (hS : ∀ a b, a < n → b < n → S a b = sightR n x y a b) {D D' : Nat → Int32} {a b : Nat} (ha : a < n) (k : Int32) : caR n S (mOut n S (mD0 n b D) (n - 1)) a k = caR n (sightR n x y) (rOut n (sightR n x y) (mD0 14 b D') n) a k := by
  have e := way_eq h hS (D := D) (D' := D') (b := b)
  unfold caR
  rw [e a ha, walk_c hS e _ _ _ ha]
