theorem fnd_c {p q : Nat → Bool} : ∀ (d a : Nat), (∀ k, a ≤ k → k < a + d → p k = q k) → fnd p a d = fnd q a d
  | 0, a, _ => rfl
  | d + 1, a, h => by rw [fnd, fnd, h a (by omega) (by omega), fnd_c d (a + 1) (fun k h1 h2 => h k (by omega) (by omega))]
theorem fndN_c {p q : Nat → Bool} {a n : Nat} (h : ∀ k, a ≤ k → k < n → p k = q k) : fndN p a n = fndN q a n := fnd_c _ _ (fun k h1 h2 => h k h1 (by omega))
theorem fndN_all {p : Nat → Bool} {a n : Nat} (h : fndN p a n = none) {k : Nat} (h1 : a ≤ k) (h2 : k < n) : p k = false := by
  cases hp : p k with
  | false => rfl
  | true =>
    obtain ⟨i, hi⟩ := fnd_ex2 h1 h2 hp
    rw [h] at hi
    cases hi
theorem fndN_nn {p : Nat → Bool} {a n : Nat} (h : ∀ k, a ≤ k → k < n → p k = false) : fndN p a n = none := by
  cases hp : fndN p a n with
  | none => rfl
  | some j =>
    have h1 := fnd_p hp
    rw [h j (fnd_ge hp) (fnd_lt hp)] at h1
    cases h1
/-- a row of corners in the range -/
def rowR (n : Nat) (x y : Nat → Int32) : Prop := 3 ≤ n ∧ n ≤ 14 ∧ ∀ i, i < n → wB 1000 (x i) ∧ wB 1000 (y i)
def noF (n : Nat) (x y : Nat → Int32) : Prop := fndN (flatP n x y) 0 n = none
def p09 (x y : Nat → Int32) (i : Nat) : Pt9 := pt (x i) (y i)
theorem tn_i {n : Nat} {x y : Nat → Int32} (h : rowR n x y) {a b c : Nat} (ha : a < n) (hb : b < n) (hc : c < n) : (tn x y a b c).toInt = tu (p09 x y a) (p09 x y b) (p09 x y c) := (tnR_i (B := 1000) (by decide) (h.2.2 a ha).1 (h.2.2 a ha).2 (h.2.2 b hb).1 (h.2.2 b hb).2 (h.2.2 c hc).1 (h.2.2 c hc).2).1
theorem bf_af {n i : Nat} (h : i < n) (h2 : 2 ≤ n) : af n (bf n i) = i ∧ bf n (af n i) = i := by
  unfold af bf
  constructor
  · by_cases q : 0 < i
    · rw [if_pos q, if_pos (by omega)]; omega
    · rw [if_neg q, if_neg (by omega)]; omega
  · by_cases q : i + 1 < n
    · rw [if_pos q, if_pos (by omega)]; omega
    · rw [if_neg q, if_neg (by omega)]; omega
theorem flat_i {n : Nat} {x y : Nat → Int32} (h : rowR n x y) (hf : noF n x y) {i : Nat} (hi : i < n) : tu (p09 x y (bf n i)) (p09 x y i) (p09 x y (af n i)) ≠ 0 := by
  have h1 := fndN_all hf (Nat.zero_le i) hi
  have h2 := of_decide_eq_false h1
  rw [eq32, z32, tn_i h (bf_lt (by omega)) hi (af_lt (by omega))] at h2
  exact h2
theorem flat_s {n : Nat} {x y : Nat → Int32} (h : rowR n x y) (hf : noF n x y) {i : Nat} (hi : i < n) : tu (p09 x y i) (p09 x y (af n i)) (p09 x y (af n (af n i))) ≠ 0 := by
  have h1 := flat_i h hf (i := af n i) (af_lt (by omega))
  rw [(bf_af hi (by have := h.1; omega)).2] at h1
  exact h1
theorem edge_ne {n : Nat} {x y : Nat → Int32} (h : rowR n x y) (hf : noF n x y) {i : Nat} (hi : i < n) : p09 x y i ≠ p09 x y (af n i) := fun q => by
  have h1 := flat_i h hf hi
  rw [← q, tu_self2] at h1
  exact h1 rfl
theorem bd4 {n : Nat} {x y : Nat → Int32} (h : rowR n x y) {a b c d : Nat} (ha : a < n) (hb : b < n) (hc : c < n) (hd : d < n) : ∀ i, i = a ∨ i = b ∨ i = c ∨ i = d → wB 1000 (x i) ∧ wB 1000 (y i) := fun i hi => by
  rcases hi with rfl | rfl | rfl | rfl
  · exact h.2.2 _ ha
  · exact h.2.2 _ hb
  · exact h.2.2 _ hc
  · exact h.2.2 _ hd
theorem mtP_i {n : Nat} {x y : Nat → Int32} (h : rowR n x y) {a b c d : Nat} (ha : a < n) (hb : b < n) (hc : c < n) (hd : d < n) : mtP x y a b c d = true ↔ MT (p09 x y a) (p09 x y b) (p09 x y c) (p09 x y d) := mtR_i (B := 1000) (by decide) (h.2.2 a ha).1 (h.2.2 a ha).2 (h.2.2 b hb).1 (h.2.2 b hb).2 (h.2.2 c hc).1 (h.2.2 c hc).2 (h.2.2 d hd).1 (h.2.2 d hd).2
theorem af_s {n i : Nat} (h : i + 1 < n) : af n i = i + 1 := if_pos h
/-- class and reference find the same first edges that meet -/
theorem meet_eq {n : Nat} {x y : Nat → Int32} (h : rowR n x y) (hf : noF n x y) : meetN n x y 0 = meetNR n x y 0 := by
  have key : ∀ d i, i + d = n → meetF n x y i d = meetFR n x y i d := by
    intro d
    induction d with
    | zero => intro i _; rfl
    | succ d ih =>
      intro i hi
      have e : fndN (meetP n x y i) (i + 2) n = fndN (meetPR n x y i) (i + 2) n := fndN_c (fun j h1 h2 => by
        unfold meetP meetPR
        have e1 : af n i = i + 1 := af_s (by omega)
        have h3 : af n j < n := af_lt (by omega)
        rw [meetC_mtP (B := 1000) (by decide) (bd4 h (by omega) (by rw [e1]; omega) h2 h3) (edge_ne h hf (by omega)) (edge_ne h hf h2), e1])
      rw [meetF, meetFR, e, ih (i + 1) (by omega)]
      cases fndN (meetPR n x y i) (i + 2) n <;> rfl
  rw [meetN, meetNR, Nat.sub_zero]
  exact key n 0 (by omega)
def noM (n : Nat) (x y : Nat → Int32) : Prop := meetNR n x y 0 = none
theorem noM_all {n : Nat} {x y : Nat → Int32} (hm : noM n x y) : ∀ i, i < n → fndN (meetPR n x y i) (i + 2) n = none := by
  have key : ∀ d i0, i0 + d = n → meetNR n x y i0 = none → ∀ i, i0 ≤ i → i < n → fndN (meetPR n x y i) (i + 2) n = none := by
    intro d
    induction d with
    | zero => intro i0 h _ i h1 h2; omega
    | succ d ih =>
      intro i0 h hn i h1 h2
      cases hj : fndN (meetPR n x y i0) (i0 + 2) n with
      | some j => rw [meetNR_t (by omega) hj] at hn; cases hn
      | none =>
        rw [meetNR_f (by omega) hj] at hn
        rcases Nat.lt_or_ge i0 i with q | q
        · exact ih (i0 + 1) (by omega) hn i q h2
        · rw [show i = i0 by omega]; exact hj
  exact fun i hi => key n 0 (by omega) hm i (Nat.zero_le _) hi
theorem no_MT {n : Nat} {x y : Nat → Int32} (h : rowR n x y) (hm : noM n x y) {e e' : Nat} (he : e < n) (he' : e' < n) (h1 : e ≠ e') (h2 : e' ≠ af n e) (h3 : e ≠ af n e') : ¬ MT (p09 x y e) (p09 x y (af n e)) (p09 x y e') (p09 x y (af n e')) := by
  have key : ∀ e e', e < n → e' < n → e < e' → e' ≠ af n e → e ≠ af n e' → ¬ MT (p09 x y e) (p09 x y (af n e)) (p09 x y e') (p09 x y (af n e')) := fun e e' he he' h1 h2 h3 hM => by
    have e1 : af n e = e + 1 := af_s (by omega)
    rw [e1] at h2
    have k := fndN_all (noM_all hm e he) (show e + 2 ≤ e' by omega) he'
    unfold meetPR at k
    rw [decide_eq_false (fun q => h3 q.symm), Bool.not_false, Bool.true_and, ← e1] at k
    have := (mtP_i h he (af_lt (by omega)) he' (af_lt (by omega))).mpr hM
    rw [k] at this
    cases this
  rcases Nat.lt_trichotomy e e' with q | q | q
  · exact key e e' he he' q h2 h3
  · exact absurd q h1
  · exact fun hM => key e' e he' he q h3 h2 (MT_s hM)
/-- the corners, taken again and again, doubled -/
def Q0 (n : Nat) (x y : Nat → Int32) (i : Nat) : Pt9 := p09 x y (i % n)
def Q2 (n : Nat) (x y : Nat → Int32) (i : Nat) : Pt9 := (2 * (Q0 n x y i).1, 2 * (Q0 n x y i).2)
def dbl (p : Pt9) : Pt9 := (2 * p.1, 2 * p.2)
theorem tu_dbl (a b c : Pt9) : tu (dbl a) (dbl b) (dbl c) = 4 * tu a b c := by
  unfold tu dbl
  grind
theorem on_dbl {p a b : Pt9} : onS (dbl p) (dbl a) (dbl b) ↔ onS p a b := by
  constructor
  · rintro ⟨s, t, h1, h2, h3, h4, h5⟩
    unfold dbl at h4 h5
    exact ⟨s, t, h1, h2, h3, by grind, by grind⟩
  · rintro ⟨s, t, h1, h2, h3, h4, h5⟩
    unfold dbl
    exact ⟨s, t, h1, h2, h3, by grind, by grind⟩
theorem px_dbl {a b c d : Pt9} : PX (dbl a) (dbl b) (dbl c) (dbl d) ↔ PX a b c d := by
  unfold PX
  rw [tu_dbl, tu_dbl, tu_dbl, tu_dbl]
  have e1 : 4 * tu a b c * (4 * tu a b d) = 16 * (tu a b c * tu a b d) := by grind
  have e2 : 4 * tu c d a * (4 * tu c d b) = 16 * (tu c d a * tu c d b) := by grind
  rw [e1, e2]
  omega
theorem dbl_inj {p q : Pt9} (h : dbl p = dbl q) : p = q := by
  unfold dbl at h
  have h1 := congrArg Prod.fst h
  have h2 := congrArg Prod.snd h
  exact Prod.ext (by simp at h1; omega) (by simp at h2; omega)
theorem Q0_s {n : Nat} {x y : Nat → Int32} (h3 : 3 ≤ n) (e : Nat) : Q0 n x y (e + 1) = p09 x y (af n (e % n)) := by
  unfold Q0
  have := Nat.mod_lt e (show 0 < n by omega)
  rw [Nat.add_mod, Nat.mod_eq_of_lt (show 1 < n by omega), mod_s this]
theorem corner_ne {n : Nat} {x y : Nat → Int32} (h : rowR n x y) (hf : noF n x y) (hm : noM n x y) {i j : Nat} (hi : i < n) (hj : j < n) (hij : i ≠ j) : p09 x y i ≠ p09 x y j := fun q => by
  by_cases h1 : j = af n i
  · rw [h1] at q; exact edge_ne h hf hi q
  · by_cases h2 : i = af n j
    · rw [h2] at q; exact edge_ne h hf hj q.symm
    · refine no_MT h hm hi hj hij h1 h2 (Or.inr (Or.inl ?_))
      rw [← q]
      exact onS_a _ _
/-- an edge has no other corner on it and crosses no other edge -/
theorem edge_gd {n : Nat} {x y : Nat → Int32} (h : rowR n x y) (hf : noF n x y) (hm : noM n x y) {e : Nat} (he : e < n) : (∀ c, c < n → onS (p09 x y c) (p09 x y e) (p09 x y (af n e)) → c = e ∨ c = af n e) ∧ ∀ e', e' < n → ¬ PX (p09 x y e) (p09 x y (af n e)) (p09 x y e') (p09 x y (af n e')) := by
  have h3 := h.1
  refine ⟨fun c hc hon => Classical.byContradiction (fun q => ?_), fun e' he' hX => ?_⟩
  · have q1 : c ≠ e := fun w => q (Or.inl w)
    have q2 : c ≠ af n e := fun w => q (Or.inr w)
    have t0 : tu (p09 x y e) (p09 x y (af n e)) (p09 x y c) = 0 := by
      obtain ⟨s, t, a1, a2, a3, a4, a5⟩ := hon
      have e9 : (s + t) * tu (p09 x y e) (p09 x y (af n e)) (p09 x y c) = 0 := by unfold tu; grind
      exact (Int.mul_eq_zero.mp e9).resolve_left (by omega)
    by_cases h1 : e = af n c
    · have := flat_i h hf he
      have e8 : bf n e = c := by rw [h1]; exact (bf_af hc (by omega)).2
      rw [e8, tu_cyc] at this
      exact this t0
    · exact no_MT h hm he hc (Ne.symm q1) q2 h1 (Or.inr (Or.inl hon))
  · obtain ⟨n1, n2, n3, n4⟩ := PX_ne hX
    by_cases h0 : e = e'
    · exact n1 (by rw [h0])
    · by_cases h1 : e' = af n e
      · exact n3 (by rw [h1])
      · by_cases h2 : e = af n e'
        · exact n2 (by rw [← h2])
        · exact no_MT h hm he he' h0 h1 h2 (Or.inl hX)
theorem env {n : Nat} {x y : Nat → Int32} (h : rowR n x y) (hf : noF n x y) (hm : noM n x y) : Env9 (Q2 n x y) n (100000, 1) := by
  have h3 := h.1
  have hn : 0 < n := by omega
  refine ⟨h3, fun i => ?_, fun i j h1 h2 hq => ?_, fun e => ⟨fun c hc => ?_, fun e' hX => ?_⟩⟩
  · unfold Q2 Q0
    rw [Nat.add_mod_right]
  · have hi := Nat.mod_lt i hn
    have hj := Nat.mod_lt j hn
    have hne : i % n ≠ j % n := fun q => by
      have := mod_win q (by omega) h2
      omega
    refine corner_ne h hf hm hi hj hne ?_
    obtain ⟨b1, b2⟩ := h.2.2 _ hi
    obtain ⟨b3, b4⟩ := h.2.2 _ hj
    unfold wB at b1 b2 b3 b4
    have hq : 100000 * (2 * (x (i % n)).toInt) + 1 * (2 * (y (i % n)).toInt) = 100000 * (2 * (x (j % n)).toInt) + 1 * (2 * (y (j % n)).toInt) := hq
    exact Prod.ext (show (x (i % n)).toInt = (x (j % n)).toInt by omega) (show (y (i % n)).toInt = (y (j % n)).toInt by omega)
  · have he := Nat.mod_lt e hn
    have hc' := Nat.mod_lt c hn
    have hc : onS (dbl (Q0 n x y c)) (dbl (Q0 n x y e)) (dbl (Q0 n x y (e + 1))) := hc
    rw [on_dbl, Q0_s h3] at hc
    rcases (edge_gd h hf hm he).1 (c % n) hc' hc with q | q
    · refine Or.inl ?_
      show dbl (p09 x y (c % n)) = dbl (p09 x y (e % n))
      rw [q]
    · refine Or.inr ?_
      show dbl (p09 x y (c % n)) = dbl (Q0 n x y (e + 1))
      rw [Q0_s h3, q]
  · have he := Nat.mod_lt e hn
    have he' := Nat.mod_lt e' hn
    have hX : PX (dbl (Q0 n x y e)) (dbl (Q0 n x y (e + 1))) (dbl (Q0 n x y e')) (dbl (Q0 n x y (e' + 1))) := hX
    rw [px_dbl, Q0_s h3, Q0_s h3] at hX
    exact (edge_gd h hf hm he).2 (e' % n) he' hX
