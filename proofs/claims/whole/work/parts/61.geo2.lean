/-! along a segment that meets no edge the parity stays -/
theorem onS_a (a b : Pt9) : onS a a b := ⟨1, 0, by decide, by decide, by decide, by grind, by grind⟩
theorem onS_b (a b : Pt9) : onS b a b := ⟨0, 1, by decide, by decide, by decide, by grind, by grind⟩
theorem onS_c {p a b : Pt9} (h : onS p a b) : onS p b a := by
  obtain ⟨s, t, h1, h2, h3, h4, h5⟩ := h
  exact ⟨t, s, h2, h1, by omega, by grind, by grind⟩
theorem tu_mv (x1 x2 A B : Pt9) : tu A B x2 = tu A B x1 + sid x1 (vec x1 x2) A - sid x1 (vec x1 x2) B := by
  unfold tu sid vec
  grind
theorem sid_mv (x1 x2 A : Pt9) : sid x2 (vec x1 x2) A = sid x1 (vec x1 x2) A := by
  unfold sid vec
  grind
theorem sid_tu (x1 x2 A : Pt9) : sid x1 (vec x1 x2) A = tu x1 x2 A := by
  unfold sid vec tu
  grind
theorem crd_K {x1 x2 A B : Pt9} (hX : ¬ PX x1 x2 A B) (h1 : ¬ onS A x1 x2) (h2 : ¬ onS B x1 x2) (h3 : ¬ onS x1 A B) (h4 : ¬ onS x2 A B) : crd x1 (vec x1 x2) A B = crd x2 (vec x1 x2) A B := by
  unfold crd
  rw [sid_mv, sid_mv]
  obtain ⟨e1, e2⟩ := sd_v x1 (vec x1 x2) A B
  have e3 := tu_mv x1 x2 A B
  rw [PX, ← sid_tu, ← sid_tu] at hX
  have hv1 : (vec x1 x2).1 = x2.1 - x1.1 := rfl
  have hv2 : (vec x1 x2).2 = x2.2 - x1.2 := rfl
  rw [hv1] at e1
  rw [hv2] at e2
  generalize sid x1 (vec x1 x2) A = a at *
  generalize sid x1 (vec x1 x2) B = b at *
  generalize tu A B x1 = c1 at *
  generalize tu A B x2 = c2 at *
  have key : (0 < a) = (0 < b) ∨ (0 < c1) = (0 < c2) := by
    refine Classical.byContradiction (fun q => ?_)
    have q1 : ¬ (0 < a ↔ 0 < b) := fun z => q (Or.inl (propext z))
    have q2 : ¬ (0 < c1 ↔ 0 < c2) := fun z => q (Or.inr (propext z))
    by_cases ha : 0 < a
    · have hb : ¬ 0 < b := fun z => q1 ⟨fun _ => z, fun _ => ha⟩
      have hc1 : ¬ 0 < c1 := fun z => q2 ⟨fun _ => by omega, fun _ => z⟩
      have hc2 : 0 < c2 := Classical.byContradiction (fun z => q2 ⟨fun y => absurd y hc1, fun y => absurd y z⟩)
      by_cases hb0 : b = 0
      · exact h2 ⟨a + c1, - c1, by omega, by omega, by omega, by grind, by grind⟩
      · by_cases hc0 : c1 = 0
        · exact h3 ⟨- b, a, by omega, by omega, by omega, by grind, by grind⟩
        · exact hX ⟨Int.mul_neg_of_pos_of_neg ha (by omega), Int.mul_neg_of_neg_of_pos (by omega) hc2⟩
    · have hb : 0 < b := Classical.byContradiction (fun z => q1 ⟨fun y => absurd y ha, fun y => absurd y z⟩)
      have hc2 : ¬ 0 < c2 := fun z => q2 ⟨fun _ => z, fun _ => by omega⟩
      have hc1 : 0 < c1 := Classical.byContradiction (fun z => q2 ⟨fun y => absurd y z, fun y => absurd y hc2⟩)
      by_cases ha0 : a = 0
      · exact h1 ⟨b - c1, c1, by omega, by omega, by omega, by grind, by grind⟩
      · by_cases hc0 : c2 = 0
        · exact h4 ⟨b, - a, by omega, by omega, by omega, by grind, by grind⟩
        · exact hX ⟨Int.mul_neg_of_neg_of_pos (by omega) hb, Int.mul_neg_of_pos_of_neg hc1 (by omega)⟩
  rcases key with q | q
  · have e : decide (0 < a) = decide (0 < b) := decide_eq_decide.mpr (by rw [q])
    rw [e]
    simp
  · have e : decide (0 < c1) = decide (0 < c2) := decide_eq_decide.mpr (by rw [q])
    rw [e]
theorem crd_X {x1 x2 A B : Pt9} (hX : PX x1 x2 A B) : crd x1 (vec x1 x2) A B = !crd x2 (vec x1 x2) A B := by
  unfold crd
  rw [sid_mv, sid_mv]
  rw [PX, ← sid_tu, ← sid_tu] at hX
  generalize sid x1 (vec x1 x2) A = a at *
  generalize sid x1 (vec x1 x2) B = b at *
  generalize tu A B x1 = c1 at *
  generalize tu A B x2 = c2 at *
  obtain ⟨hX1, hX2⟩ := hX
  obtain ⟨p1, -, -, p4, p5, -, -, -⟩ := sgm a b
  obtain ⟨q1, -, -, q4, q5, -, -, -⟩ := sgm c1 c2
  generalize a * b = z1 at *
  generalize c1 * c2 = z2 at *
  by_cases h1 : 0 < a <;> by_cases h2 : 0 < b <;> by_cases h3 : 0 < c1 <;> by_cases h4 : 0 < c2 <;> simp only [h1, h2, h3, h4, decide_true, decide_false] <;> first | rfl | (exfalso; omega)
theorem crd_sym {x d A B : Pt9} (hx : ¬ onS x A B) : crd x d A B = crd x d B A := by
  have h := on_c hx
  unfold crd
  have e : tu B A x = - tu A B x := by unfold tu; grind
  rw [e]
  by_cases hc : tu A B x = 0
  · have h2 := h hc d
    by_cases h1 : 0 < sid x d A
    · have h3 := h2.mp h1
      simp only [h1, h3, decide_true]; rfl
    · have h3 : ¬ 0 < sid x d B := fun q => h1 (h2.mpr q)
      simp only [h1, h3, decide_false]; rfl
  · by_cases h1 : 0 < sid x d A <;> by_cases h2 : 0 < sid x d B <;> by_cases h3 : 0 < tu A B x
    all_goals
      first
      | (have h4 : ¬ 0 < - tu A B x := by omega
         simp only [h1, h2, h3, h4, decide_true, decide_false]; rfl)
      | (have h4 : 0 < - tu A B x := by omega
         simp only [h1, h2, h3, h4, decide_true, decide_false]; rfl)
/-- a linear measure -/
def fi (f p : Pt9) : Int := f.1 * p.1 + f.2 * p.2
theorem fi_on {f p a b : Pt9} {s t : Int} (h1 : (s + t) * p.1 = s * a.1 + t * b.1) (h2 : (s + t) * p.2 = s * a.2 + t * b.2) : (s + t) * fi f p = s * fi f a + t * fi f b := by
  unfold fi
  grind
theorem sd_f (f x d A B : Pt9) : sid x d B * (fi f A - fi f x) - sid x d A * (fi f B - fi f x) = tu A B x * fi f d := by
  unfold fi sid tu
  grind
/-- beyond the utmost corner no edge is met -/
theorem crd_far {f v d A B : Pt9} (hd : 0 < fi f d) (hA : fi f A ≤ fi f v) (hB : fi f B ≤ fi f v) (hv : ¬ onS v A B) : crd v d A B = false := by
  have e := sd_f f v d A B
  have h9 := on_c hv
  unfold crd
  obtain ⟨-, p2, p3, p4, p5, -, -, -⟩ := sgm (sid v d B) (fi f A - fi f v)
  obtain ⟨-, q2, q3, q4, q5, -, -, -⟩ := sgm (sid v d A) (fi f B - fi f v)
  obtain ⟨r1, -, -, -, -, r6, -, -⟩ := sgm (tu A B v) (fi f d)
  by_cases h1 : 0 < sid v d A <;> by_cases h2 : 0 < sid v d B
  · simp only [h1, h2, decide_true]; rfl
  · by_cases h3 : 0 < tu A B v
    · simp only [h1, h2, h3, decide_true, decide_false]; rfl
    · exfalso
      by_cases h4 : tu A B v = 0
      · exact h2 ((h9 h4 d).mp h1)
      · have a1 := r6 (by omega) hd
        have a2 := p4 (by omega) (by omega)
        have a3 := q2 (by omega) (by omega)
        omega
  · by_cases h3 : 0 < tu A B v
    · exfalso
      have a1 := r1 h3 hd
      have a2 := p2 (by omega) (by omega)
      have a3 := q4 (by omega) (by omega)
      omega
    · simp only [h1, h2, h3, decide_true, decide_false]; rfl
  · simp only [h1, h2, decide_false]; rfl
