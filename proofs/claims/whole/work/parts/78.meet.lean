/-- ranges overlap -/
def RG (a b c d : Int) : Prop := (c ≤ a ∨ c ≤ b ∨ d ≤ a ∨ d ≤ b) ∧ (a ≤ c ∨ a ≤ d ∨ b ≤ c ∨ b ≤ d)
theorem rg_1 {a b c d S T U V : Int} (h1 : 0 ≤ S) (h2 : 0 ≤ T) (h3 : 0 ≤ U) (h4 : 0 ≤ V) (h5 : S + T = U + V) (h6 : 0 < S + T) (e : S * a + T * b = U * c + V * d) : c ≤ a ∨ c ≤ b ∨ d ≤ a ∨ d ≤ b := by
  refine Classical.byContradiction (fun q => ?_)
  obtain ⟨M, hM, ha, hb⟩ : ∃ M, (M < c ∧ M < d) ∧ a ≤ M ∧ b ≤ M := by
    rcases Int.le_total a b with w | w
    · exact ⟨b, by omega, w, Int.le_refl _⟩
    · exact ⟨a, by omega, Int.le_refl _, w⟩
  have d1 := mzz h1 (show 0 ≤ M - a by omega)
  have d2 := mzz h2 (show 0 ≤ M - b by omega)
  have d3 := mzz h3 (show 0 ≤ c - M - 1 by omega)
  have d4 := mzz h4 (show 0 ≤ d - M - 1 by omega)
  have e1 : S * (M - a) + T * (M - b) = (S + T) * M - (S * a + T * b) := by grind
  have e2 : U * (c - M - 1) + V * (d - M - 1) = (U * c + V * d) - (U + V) * M - (U + V) := by grind
  rw [← h5] at e2
  omega
theorem rg_w {a b c d S T U V : Int} (h1 : 0 ≤ S) (h2 : 0 ≤ T) (h3 : 0 ≤ U) (h4 : 0 ≤ V) (h5 : S + T = U + V) (h6 : 0 < S + T) (e : S * a + T * b = U * c + V * d) : RG a b c d := ⟨rg_1 h1 h2 h3 h4 h5 h6 e, by
  have := rg_1 h3 h4 h1 h2 h5.symm (by omega) e.symm
  omega⟩
theorem np_of {s t p q : Int} (h1 : 0 ≤ s) (h2 : 0 ≤ t) (h3 : 0 < s + t) (e : s * p + t * q = 0) : p * q ≤ 0 := by
  rcases Int.lt_trichotomy 0 p with hp | hp | hp
  · by_cases hq : 0 < q
    · exfalso
      have a1 := mzz h1 (show 0 ≤ p - 1 by omega)
      have a2 := mzz h2 (show 0 ≤ q - 1 by omega)
      rw [Int.mul_sub] at a1 a2
      omega
    · exact mpn (by omega) (by omega)
  · rw [← hp, Int.zero_mul]; exact Int.le_refl _
  · by_cases hq : q < 0
    · exfalso
      have a1 := mpn h1 (show p + 1 ≤ 0 by omega)
      have a2 := mpn h2 (show q + 1 ≤ 0 by omega)
      rw [Int.mul_add] at a1 a2
      omega
    · exact mnp (by omega) (by omega)
theorem mt_on {a b c d : Pt9} (h : onS c a b) : RG a.1 b.1 c.1 d.1 ∧ RG a.2 b.2 c.2 d.2 ∧ tu a b c * tu a b d ≤ 0 ∧ tu c d a * tu c d b ≤ 0 := by
  obtain ⟨s, t, h1, h2, h3, h4, h5⟩ := h
  have e1 : (s + t) * tu a b c = 0 := by unfold tu; grind
  have e2 := (Int.mul_eq_zero.mp e1).resolve_left (by omega)
  have e3 : s * tu c d a + t * tu c d b = 0 := by unfold tu; grind
  refine ⟨rg_w h1 h2 (show 0 ≤ s + t by omega) (Int.le_refl 0) (by omega) h3 (by omega), rg_w h1 h2 (show 0 ≤ s + t by omega) (Int.le_refl 0) (by omega) h3 (by omega), by rw [e2, Int.zero_mul]; exact Int.le_refl _, np_of h1 h2 h3 e3⟩
theorem RG_r {a b c d : Int} (h : RG a b c d) : RG a b d c := by unfold RG at *; omega
theorem RG_s {a b c d : Int} (h : RG a b c d) : RG c d a b := by unfold RG at *; omega
theorem tu_neg (c d p : Pt9) : tu d c p = - tu c d p := by unfold tu; grind
theorem tu_neg2 (c d p q : Pt9) : tu d c p * tu d c q = tu c d p * tu c d q := by rw [tu_neg c d p, tu_neg c d q, Int.neg_mul_neg]
theorem mt_px {a b c d : Pt9} (h : PX a b c d) : RG a.1 b.1 c.1 d.1 ∧ RG a.2 b.2 c.2 d.2 := by
  obtain ⟨h1, h2⟩ := h
  have e : tu a b c - tu a b d = tu c d b - tu c d a := by unfold tu; grind
  have v1 : tu c d b * a.1 - tu c d a * b.1 = tu a b c * d.1 - tu a b d * c.1 := by unfold tu; grind
  have v2 : tu c d b * a.2 - tu c d a * b.2 = tu a b c * d.2 - tu a b d * c.2 := by unfold tu; grind
  rcases Int.lt_trichotomy 0 (tu c d b) with q | q | q
  · have q2 : tu c d a < 0 := Classical.byContradiction (fun w => by have := mzz (show 0 ≤ tu c d a by omega) (show 0 ≤ tu c d b by omega); omega)
    have q3 : tu a b d < 0 := by
      refine Classical.byContradiction (fun w => ?_)
      have : 0 ≤ tu a b c := by omega
      have := mzz this (show 0 ≤ tu a b d by omega)
      omega
    have q4 : 0 < tu a b c := Classical.byContradiction (fun w => by have := mnn (show tu a b c ≤ 0 by omega) (show tu a b d ≤ 0 by omega); omega)
    exact ⟨rg_w (S := tu c d b) (T := - tu c d a) (U := - tu a b d) (V := tu a b c) (by omega) (by omega) (by omega) (by omega) (by omega) (by omega) (by rw [Int.neg_mul, Int.neg_mul]; omega), rg_w (S := tu c d b) (T := - tu c d a) (U := - tu a b d) (V := tu a b c) (by omega) (by omega) (by omega) (by omega) (by omega) (by omega) (by rw [Int.neg_mul, Int.neg_mul]; omega)⟩
  · rw [← q, Int.mul_zero] at h2; omega
  · have q2 : 0 < tu c d a := Classical.byContradiction (fun w => by have := mnn (show tu c d a ≤ 0 by omega) (show tu c d b ≤ 0 by omega); omega)
    have q4 : tu a b c < 0 := by
      refine Classical.byContradiction (fun w => ?_)
      have : 0 ≤ tu a b d := by omega
      have := mzz (show 0 ≤ tu a b c by omega) this
      omega
    have q3 : 0 < tu a b d := Classical.byContradiction (fun w => by have := mnn (show tu a b c ≤ 0 by omega) (show tu a b d ≤ 0 by omega); omega)
    exact ⟨rg_w (S := - tu c d b) (T := tu c d a) (U := tu a b d) (V := - tu a b c) (by omega) (by omega) (by omega) (by omega) (by omega) (by omega) (by rw [Int.neg_mul, Int.neg_mul]; omega), rg_w (S := - tu c d b) (T := tu c d a) (U := tu a b d) (V := - tu a b c) (by omega) (by omega) (by omega) (by omega) (by omega) (by omega) (by rw [Int.neg_mul, Int.neg_mul]; omega)⟩
theorem MT_s {a b c d : Pt9} (h : MT a b c d) : MT c d a b := by
  rcases h with h | h | h | h | h
  · exact Or.inl (PX_s h)
  · exact Or.inr (Or.inr (Or.inr (Or.inl h)))
  · exact Or.inr (Or.inr (Or.inr (Or.inr h)))
  · exact Or.inr (Or.inl h)
  · exact Or.inr (Or.inr (Or.inl h))
theorem MT_go {a b c d : Pt9} (h : MT a b c d) : RG a.1 b.1 c.1 d.1 ∧ RG a.2 b.2 c.2 d.2 ∧ tu a b c * tu a b d ≤ 0 ∧ tu c d a * tu c d b ≤ 0 := by
  have sw : ∀ {a b c d : Pt9}, (RG a.1 b.1 d.1 c.1 ∧ RG a.2 b.2 d.2 c.2 ∧ tu a b d * tu a b c ≤ 0 ∧ tu d c a * tu d c b ≤ 0) → RG a.1 b.1 c.1 d.1 ∧ RG a.2 b.2 c.2 d.2 ∧ tu a b c * tu a b d ≤ 0 ∧ tu c d a * tu c d b ≤ 0 := fun h => by
    obtain ⟨h1, h2, h3, h4⟩ := h
    refine ⟨RG_r h1, RG_r h2, by rw [Int.mul_comm]; exact h3, ?_⟩
    rw [tu_neg2] at h4
    exact h4
  rcases h with h | h | h | h | h
  · obtain ⟨r1, r2⟩ := mt_px h
    exact ⟨r1, r2, Int.le_of_lt h.1, Int.le_of_lt h.2⟩
  · exact mt_on h
  · exact sw (mt_on h)
  · obtain ⟨h1, h2, h3, h4⟩ := mt_on (d := b) h
    exact ⟨RG_s h1, RG_s h2, h4, h3⟩
  · obtain ⟨h1, h2, h3, h4⟩ := sw (mt_on (d := a) h)
    exact ⟨RG_s h1, RG_s h2, h4, h3⟩
/-- on one line, by the first coordinate -/
theorem mt_col1 {a b c d : Pt9} (hne : a.1 ≠ b.1) (hA : tu a b c = 0) (hB : tu a b d = 0) (h : RG a.1 b.1 c.1 d.1) : MT a b c d := by
  have hC : tu c d a = 0 := by
    have e : (b.1 - a.1) * tu c d a = 0 := by unfold tu at hA hB ⊢; grind
    exact (Int.mul_eq_zero.mp e).resolve_left (by omega)
  have on : ∀ p : Pt9, tu a b p = 0 → ((a.1 ≤ p.1 ∧ p.1 ≤ b.1) ∨ (b.1 ≤ p.1 ∧ p.1 ≤ a.1)) → onS p a b := fun p hp q => by
    unfold tu at hp
    rcases q with q | q
    · exact ⟨b.1 - p.1, p.1 - a.1, by omega, by omega, by omega, by grind, by grind⟩
    · exact ⟨p.1 - b.1, a.1 - p.1, by omega, by omega, by omega, by grind, by grind⟩
  by_cases qc : (a.1 ≤ c.1 ∧ c.1 ≤ b.1) ∨ (b.1 ≤ c.1 ∧ c.1 ≤ a.1)
  · exact Or.inr (Or.inl (on c hA qc))
  · by_cases qd : (a.1 ≤ d.1 ∧ d.1 ≤ b.1) ∨ (b.1 ≤ d.1 ∧ d.1 ≤ a.1)
    · exact Or.inr (Or.inr (Or.inl (on d hB qd)))
    · refine Or.inr (Or.inr (Or.inr (Or.inl ?_)))
      unfold RG at h
      unfold tu at hC
      by_cases w : c.1 < d.1
      · exact ⟨d.1 - a.1, a.1 - c.1, by omega, by omega, by omega, by grind, by grind⟩
      · exact ⟨a.1 - d.1, c.1 - a.1, by omega, by omega, by omega, by grind, by grind⟩
theorem mt_col2 {a b c d : Pt9} (hne : a.2 ≠ b.2) (hA : tu a b c = 0) (hB : tu a b d = 0) (h : RG a.2 b.2 c.2 d.2) : MT a b c d := by
  have hC : tu c d a = 0 := by
    have e : (b.2 - a.2) * tu c d a = 0 := by unfold tu at hA hB ⊢; grind
    exact (Int.mul_eq_zero.mp e).resolve_left (by omega)
  have on : ∀ p : Pt9, tu a b p = 0 → ((a.2 ≤ p.2 ∧ p.2 ≤ b.2) ∨ (b.2 ≤ p.2 ∧ p.2 ≤ a.2)) → onS p a b := fun p hp q => by
    unfold tu at hp
    rcases q with q | q
    · exact ⟨b.2 - p.2, p.2 - a.2, by omega, by omega, by omega, by grind, by grind⟩
    · exact ⟨p.2 - b.2, a.2 - p.2, by omega, by omega, by omega, by grind, by grind⟩
  by_cases qc : (a.2 ≤ c.2 ∧ c.2 ≤ b.2) ∨ (b.2 ≤ c.2 ∧ c.2 ≤ a.2)
  · exact Or.inr (Or.inl (on c hA qc))
  · by_cases qd : (a.2 ≤ d.2 ∧ d.2 ≤ b.2) ∨ (b.2 ≤ d.2 ∧ d.2 ≤ a.2)
    · exact Or.inr (Or.inr (Or.inl (on d hB qd)))
    · refine Or.inr (Or.inr (Or.inr (Or.inl ?_)))
      unfold RG at h
      unfold tu at hC
      by_cases w : c.2 < d.2
      · exact ⟨d.2 - a.2, a.2 - c.2, by omega, by omega, by omega, by grind, by grind⟩
      · exact ⟨a.2 - d.2, c.2 - a.2, by omega, by omega, by omega, by grind, by grind⟩
theorem mt_col {a b c d : Pt9} (hne : a ≠ b) (hA : tu a b c = 0) (hB : tu a b d = 0) (h1 : RG a.1 b.1 c.1 d.1) (h2 : RG a.2 b.2 c.2 d.2) : MT a b c d := by
  by_cases q : a.1 = b.1
  · exact mt_col2 (fun w => hne (Prod.ext q w)) hA hB h2
  · exact mt_col1 q hA hB h1
/-- c lies on the line of a b, and between -/
theorem on_of {a b c d : Pt9} (hA : tu a b c = 0) (hB : tu a b d ≠ 0) (h : tu c d a * tu c d b ≤ 0) : onS c a b := by
  have e : tu a b c - tu a b d = tu c d b - tu c d a := by unfold tu; grind
  have v1 : (tu c d b - tu c d a) * c.1 = tu c d b * a.1 - tu c d a * b.1 := by unfold tu at hA ⊢; grind
  have v2 : (tu c d b - tu c d a) * c.2 = tu c d b * a.2 - tu c d a * b.2 := by unfold tu at hA ⊢; grind
  by_cases q : 0 ≤ tu c d b ∧ tu c d a ≤ 0
  · exact ⟨tu c d b, - tu c d a, by omega, by omega, by omega, by grind, by grind⟩
  · have q2 : tu c d b ≤ 0 ∧ 0 ≤ tu c d a := by
      obtain ⟨p1, -, -, -, -, -, -, p8⟩ := sgm (tu c d a) (tu c d b)
      generalize tu c d a * tu c d b = z at *
      by_cases w1 : 0 < tu c d a
      · have : ¬ 0 < tu c d b := fun w => by have := p1 w1 w; omega
        omega
      · by_cases w2 : tu c d a < 0
        · have : ¬ tu c d b < 0 := fun w => by have := p8 w2 w; omega
          omega
        · omega
    exact ⟨- tu c d b, tu c d a, by omega, by omega, by omega, by grind, by grind⟩
theorem MT_of {a b c d : Pt9} (hab : a ≠ b) (hcd : c ≠ d) (h1 : RG a.1 b.1 c.1 d.1) (h2 : RG a.2 b.2 c.2 d.2) (h3 : tu a b c * tu a b d ≤ 0) (h4 : tu c d a * tu c d b ≤ 0) : MT a b c d := by
  have neg0 : ∀ u v : Int, u ≠ 0 → v ≠ 0 → u * v ≤ 0 → u * v < 0 := fun u v hu hv h => by
    have : u * v ≠ 0 := fun q => by rcases Int.mul_eq_zero.mp q with w | w; exact hu w; exact hv w
    omega
  have sw : tu d c a * tu d c b = tu c d a * tu c d b := tu_neg2 _ _ _ _
  have sw2 : tu b a c * tu b a d = tu a b c * tu a b d := tu_neg2 _ _ _ _
  by_cases hA : tu a b c = 0
  · by_cases hB : tu a b d = 0
    · exact mt_col hab hA hB h1 h2
    · exact Or.inr (Or.inl (on_of hA hB h4))
  · by_cases hB : tu a b d = 0
    · exact Or.inr (Or.inr (Or.inl (on_of (d := c) hB hA (by rw [sw]; exact h4))))
    · by_cases hC : tu c d a = 0
      · by_cases hD : tu c d b = 0
        · exact MT_s (mt_col hcd hC hD (RG_s h1) (RG_s h2))
        · exact Or.inr (Or.inr (Or.inr (Or.inl (on_of (d := b) hC hD h3))))
      · by_cases hD : tu c d b = 0
        · exact Or.inr (Or.inr (Or.inr (Or.inr (on_of (d := a) hD hC (by rw [sw2]; exact h3)))))
        · exact Or.inl ⟨neg0 _ _ hA hB h3, neg0 _ _ hC hD h4⟩
theorem rgm_i {v : Nat → Int32} {a b c d : Nat} : rgm v a b c d = true ↔ RG (v a).toInt (v b).toInt (v c).toInt (v d).toInt := by
  have mn : ∀ p q r : Int32, mn9 p q ≤ r ↔ p.toInt ≤ r.toInt ∨ q.toInt ≤ r.toInt := fun p q r => by
    unfold mn9
    by_cases h : q < p
    · have := lt32.mp h
      rw [if_pos h, le32]; omega
    · have : ¬ q.toInt < p.toInt := fun w => h (lt32.mpr w)
      rw [if_neg h, le32]; omega
  have mx : ∀ p q r : Int32, r ≤ mx9 p q ↔ r.toInt ≤ p.toInt ∨ r.toInt ≤ q.toInt := fun p q r => by
    unfold mx9
    by_cases h : p < q
    · have := lt32.mp h
      rw [if_pos h, le32]; omega
    · have : ¬ p.toInt < q.toInt := fun w => h (lt32.mpr w)
      rw [if_neg h, le32]; omega
  have ix : ∀ p q r s : Int32, mn9 p q ≤ mx9 r s ↔ (p.toInt ≤ r.toInt ∨ p.toInt ≤ s.toInt) ∨ (q.toInt ≤ r.toInt ∨ q.toInt ≤ s.toInt) := fun p q r s => by
    rw [mn, ← le32, ← le32, mx, mx]
  unfold rgm RG
  rw [Bool.and_eq_true, decide_eq_true_eq, decide_eq_true_eq, ix, ix]
  omega
theorem strd_i {B : Int} (hB : B ≤ 8000) {x y : Nat → Int32} {a b c d : Nat} (h : ∀ i, i = a ∨ i = b ∨ i = c ∨ i = d → wB B (x i) ∧ wB B (y i)) : strd x y a b c d = true ↔ tu (pt (x a) (y a)) (pt (x b) (y b)) (pt (x c) (y c)) * tu (pt (x a) (y a)) (pt (x b) (y b)) (pt (x d) (y d)) ≤ 0 := by
  obtain ⟨a1, a2⟩ := h a (by simp)
  obtain ⟨b1, b2⟩ := h b (by simp)
  obtain ⟨c1, c2⟩ := h c (by simp)
  obtain ⟨d1, d2⟩ := h d (by simp)
  obtain ⟨k1, k2, k3⟩ := tnR_i hB a1 a2 b1 b2 c1 c2
  obtain ⟨l1, l2, l3⟩ := tnR_i hB a1 a2 b1 b2 d1 d2
  have e1 : (tn x y a b c).toInt = tu (pt (x a) (y a)) (pt (x b) (y b)) (pt (x c) (y c)) := k1
  have e2 : (tn x y a b d).toInt = tu (pt (x a) (y a)) (pt (x b) (y b)) (pt (x d) (y d)) := l1
  unfold strd
  rw [decide_eq_true_eq, Int64.le_iff_toInt_le, Int64.toInt_mul, Int32.toInt_toInt64, Int32.toInt_toInt64, e1, e2]
  have bb := mulb (A := 512000000) (B := 512000000) k2 k3 l2 l3
  rw [Int.bmod_eq_of_le (by omega) (by omega)]
  exact Iff.rfl
theorem meetC_i {B : Int} (hB : B ≤ 8000) {x y : Nat → Int32} {a b c d : Nat} (h : ∀ i, i = a ∨ i = b ∨ i = c ∨ i = d → wB B (x i) ∧ wB B (y i)) (hab : pt (x a) (y a) ≠ pt (x b) (y b)) (hcd : pt (x c) (y c) ≠ pt (x d) (y d)) : meetC x y a b c d = true ↔ MT (pt (x a) (y a)) (pt (x b) (y b)) (pt (x c) (y c)) (pt (x d) (y d)) := by
  unfold meetC
  rw [Bool.and_eq_true, Bool.and_eq_true, Bool.and_eq_true, rgm_i, rgm_i, strd_i hB h, strd_i hB (fun i hi => h i (by rcases hi with q | q | q | q <;> simp [q]))]
  constructor
  · rintro ⟨⟨⟨h1, h2⟩, h3⟩, h4⟩
    exact MT_of hab hcd h1 h2 h3 h4
  · intro hm
    obtain ⟨h1, h2, h3, h4⟩ := MT_go hm
    exact ⟨⟨⟨h1, h2⟩, h3⟩, h4⟩
theorem meetC_mtP {B : Int} (hB : B ≤ 8000) {x y : Nat → Int32} {a b c d : Nat} (h : ∀ i, i = a ∨ i = b ∨ i = c ∨ i = d → wB B (x i) ∧ wB B (y i)) (hab : pt (x a) (y a) ≠ pt (x b) (y b)) (hcd : pt (x c) (y c) ≠ pt (x d) (y d)) : meetC x y a b c d = mtP x y a b c d := by
  obtain ⟨a1, a2⟩ := h a (by simp)
  obtain ⟨b1, b2⟩ := h b (by simp)
  obtain ⟨c1, c2⟩ := h c (by simp)
  obtain ⟨d1, d2⟩ := h d (by simp)
  have e1 := meetC_i hB h hab hcd
  have e2 := mtR_i hB a1 a2 b1 b2 c1 c2 d1 d2
  rw [Bool.eq_iff_iff]
  unfold mtP
  rw [e1, e2]
