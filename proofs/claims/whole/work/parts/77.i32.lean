/-! small numbers: no overflow -/
theorem bm {u : Int} (h1 : -2147483648 ≤ u) (h2 : u ≤ 2147483647) : u.bmod (2 ^ 32) = u := by
  rw [Int.bmod_eq_of_le] <;> omega
theorem s32 {a b : Int32} {u v : Int} (ha : a.toInt = u) (hb : b.toInt = v) (h1 : -2147483648 ≤ u - v) (h2 : u - v ≤ 2147483647) : (a - b).toInt = u - v := by
  rw [Int32.toInt_sub, ha, hb]; exact bm h1 h2
theorem a32 {a b : Int32} {u v : Int} (ha : a.toInt = u) (hb : b.toInt = v) (h1 : -2147483648 ≤ u + v) (h2 : u + v ≤ 2147483647) : (a + b).toInt = u + v := by
  rw [Int32.toInt_add, ha, hb]; exact bm h1 h2
theorem m32 {a b : Int32} {u v : Int} (ha : a.toInt = u) (hb : b.toInt = v) (h1 : -2147483648 ≤ u * v) (h2 : u * v ≤ 2147483647) : (a * b).toInt = u * v := by
  rw [Int32.toInt_mul, ha, hb]; exact bm h1 h2
theorem mulb {u v A B : Int} (h1 : -A ≤ u) (h2 : u ≤ A) (h3 : -B ≤ v) (h4 : v ≤ B) : -(A * B) ≤ u * v ∧ u * v ≤ A * B := by
  have a1 := mzz (show 0 ≤ A - u by omega) (show 0 ≤ B + v by omega)
  have a2 := mzz (show 0 ≤ A + u by omega) (show 0 ≤ B - v by omega)
  have a3 := mzz (show 0 ≤ A - u by omega) (show 0 ≤ B - v by omega)
  have a4 := mzz (show 0 ≤ A + u by omega) (show 0 ≤ B + v by omega)
  have e1 : (A - u) * (B + v) = A * B + A * v - u * B - u * v := by grind
  have e2 : (A + u) * (B - v) = A * B - A * v + u * B - u * v := by grind
  have e3 : (A - u) * (B - v) = A * B - A * v - u * B + u * v := by grind
  have e4 : (A + u) * (B + v) = A * B + A * v + u * B + u * v := by grind
  generalize A * B = ab at *
  generalize A * v = av at *
  generalize u * B = ub at *
  generalize u * v = uv at *
  omega
theorem lt32 {a b : Int32} : a < b ↔ a.toInt < b.toInt := Int32.lt_iff_toInt_lt
theorem le32 {a b : Int32} : a ≤ b ↔ a.toInt ≤ b.toInt := Int32.le_iff_toInt_le
theorem eq32 {a b : Int32} : a = b ↔ a.toInt = b.toInt := ⟨fun h => by rw [h], fun h => Int32.toInt_inj.mp h⟩
theorem z32 : (0 : Int32).toInt = 0 := by decide
/-- a point of numbers -/
def pt (x y : Int32) : Pt9 := (x.toInt, y.toInt)
/-- between -B and B -/
def wB (B : Int) (a : Int32) : Prop := -B ≤ a.toInt ∧ a.toInt ≤ B
theorem tnR_i {B : Int} (hB : B ≤ 8000) {ax ay bx bz cx cy : Int32} (h1 : wB B ax) (h2 : wB B ay) (h3 : wB B bx) (h4 : wB B bz) (h5 : wB B cx) (h6 : wB B cy) : (tnR ax ay bx bz cx cy).toInt = tu (pt ax ay) (pt bx bz) (pt cx cy) ∧ -512000000 ≤ tu (pt ax ay) (pt bx bz) (pt cx cy) ∧ tu (pt ax ay) (pt bx bz) (pt cx cy) ≤ 512000000 := by
  unfold wB at *
  have s1 := s32 (a := bx) (b := ax) rfl rfl (by omega) (by omega)
  have s2 := s32 (a := cy) (b := ay) rfl rfl (by omega) (by omega)
  have s3 := s32 (a := bz) (b := ay) rfl rfl (by omega) (by omega)
  have s4 := s32 (a := cx) (b := ax) rfl rfl (by omega) (by omega)
  have b1 := mulb (A := 16000) (B := 16000) (show -16000 ≤ bx.toInt - ax.toInt by omega) (by omega) (show -16000 ≤ cy.toInt - ay.toInt by omega) (by omega)
  have b2 := mulb (A := 16000) (B := 16000) (show -16000 ≤ bz.toInt - ay.toInt by omega) (by omega) (show -16000 ≤ cx.toInt - ax.toInt by omega) (by omega)
  have m1 := m32 s1 s2 (by omega) (by omega)
  have m2 := m32 s3 s4 (by omega) (by omega)
  have e : tu (pt ax ay) (pt bx bz) (pt cx cy) = (bx.toInt - ax.toInt) * (cy.toInt - ay.toInt) - (bz.toInt - ay.toInt) * (cx.toInt - ax.toInt) := rfl
  rw [e]
  refine ⟨?_, by omega, by omega⟩
  unfold tnR
  exact s32 m1 m2 (by omega) (by omega)
theorem sg9_i {v w : Int32} : sg9 v * sg9 w < 0 ↔ v.toInt * w.toInt < 0 := by
  obtain ⟨p1, p2, p3, p4, p5, p6, p7, p8⟩ := sgm v.toInt w.toInt
  have e1 : ∀ v : Int32, (sg9 v = 1 ∧ 0 < v.toInt) ∨ (sg9 v = -1 ∧ v.toInt < 0) ∨ (sg9 v = 0 ∧ v.toInt = 0) := fun v => by
    unfold sg9
    by_cases h1 : 0 < v
    · exact Or.inl ⟨if_pos h1, by have := lt32.mp h1; rw [z32] at this; exact this⟩
    · by_cases h2 : v < 0
      · exact Or.inr (Or.inl ⟨by rw [if_neg h1, if_pos h2], by have := lt32.mp h2; rw [z32] at this; exact this⟩)
      · refine Or.inr (Or.inr ⟨by rw [if_neg h1, if_neg h2], ?_⟩)
        have a1 : ¬ (0 : Int32).toInt < v.toInt := fun q => h1 (lt32.mpr q)
        have a2 : ¬ v.toInt < (0 : Int32).toInt := fun q => h2 (lt32.mpr q)
        rw [z32] at a1 a2
        omega
  rcases e1 v with ⟨a, b⟩ | ⟨a, b⟩ | ⟨a, b⟩ <;> rcases e1 w with ⟨c, d⟩ | ⟨c, d⟩ | ⟨c, d⟩ <;> rw [a, c]
  · exact ⟨fun q => absurd q (by decide), fun q => by have := p1 b d; omega⟩
  · exact ⟨fun _ => p7 b d, fun _ => by decide⟩
  · exact ⟨fun q => absurd q (by decide), fun q => by have := p5 (by omega) (by omega); omega⟩
  · exact ⟨fun _ => p6 b d, fun _ => by decide⟩
  · exact ⟨fun q => absurd q (by decide), fun q => by have := p8 b d; omega⟩
  · exact ⟨fun q => absurd q (by decide), fun q => by have := p4 (by omega) (by omega); omega⟩
  · exact ⟨fun q => absurd q (by decide), fun q => by have := p5 (by omega) (by omega); omega⟩
  · exact ⟨fun q => absurd q (by decide), fun q => by have := p4 (by omega) (by omega); omega⟩
  · exact ⟨fun q => absurd q (by decide), fun q => by have := p5 (by omega) (by omega); omega⟩
theorem inB_i {a b v : Int32} : inB a b v = true ↔ (a.toInt ≤ v.toInt ∧ v.toInt ≤ b.toInt) ∨ (b.toInt ≤ v.toInt ∧ v.toInt ≤ a.toInt) := by
  unfold inB
  by_cases h : a < b
  · have h' := lt32.mp h
    rw [if_pos h, Bool.and_eq_true, decide_eq_true_eq, decide_eq_true_eq, le32, le32]
    omega
  · have h' : ¬ a.toInt < b.toInt := fun q => h (lt32.mpr q)
    rw [if_neg h, Bool.and_eq_true, decide_eq_true_eq, decide_eq_true_eq, le32, le32]
    omega
theorem on_btw {a b p : Pt9} (h0 : tu a b p = 0) (h1 : (a.1 ≤ p.1 ∧ p.1 ≤ b.1) ∨ (b.1 ≤ p.1 ∧ p.1 ≤ a.1)) (h2 : (a.2 ≤ p.2 ∧ p.2 ≤ b.2) ∨ (b.2 ≤ p.2 ∧ p.2 ≤ a.2)) : onS p a b := by
  unfold tu at h0
  by_cases q : a.1 = b.1
  · by_cases r : a.2 = b.2
    · exact ⟨1, 0, by decide, by decide, by decide, by omega, by omega⟩
    · rcases h2 with h2 | h2
      · exact ⟨b.2 - p.2, p.2 - a.2, by omega, by omega, by omega, by grind, by grind⟩
      · exact ⟨p.2 - b.2, a.2 - p.2, by omega, by omega, by omega, by grind, by grind⟩
  · rcases h1 with h1 | h1
    · exact ⟨b.1 - p.1, p.1 - a.1, by omega, by omega, by omega, by grind, by grind⟩
    · exact ⟨p.1 - b.1, a.1 - p.1, by omega, by omega, by omega, by grind, by grind⟩
theorem on_rng {s t p a b : Int} (h1 : 0 ≤ s) (h2 : 0 ≤ t) (h3 : 0 < s + t) (e : (s + t) * p = s * a + t * b) : (a ≤ p ∧ p ≤ b) ∨ (b ≤ p ∧ p ≤ a) := by
  have up : ∀ a b s t : Int, 0 ≤ s → 0 ≤ t → 0 < s + t → (s + t) * p = s * a + t * b → a ≤ b → a ≤ p ∧ p ≤ b := fun a b s t h1 h2 h3 e hab => by
    have d1 := mzz h2 (show 0 ≤ b - a by omega)
    have d2 := mzz h1 (show 0 ≤ b - a by omega)
    constructor
    · refine Int.le_of_mul_le_mul_left (a := s + t) ?_ h3
      grind
    · refine Int.le_of_mul_le_mul_left (a := s + t) ?_ h3
      grind
  rcases Int.le_total a b with q | q
  · exact Or.inl (up a b s t h1 h2 h3 e q)
  · exact Or.inr (up b a t s h2 h1 (by omega) (by grind) q)
theorem btw_i {B : Int} (hB : B ≤ 8000) {ax ay bx bz cx cy : Int32} (h1 : wB B ax) (h2 : wB B ay) (h3 : wB B bx) (h4 : wB B bz) (h5 : wB B cx) (h6 : wB B cy) : btw ax ay bx bz cx cy = true ↔ onS (pt cx cy) (pt ax ay) (pt bx bz) := by
  have k := (tnR_i hB h1 h2 h3 h4 h5 h6).1
  unfold btw
  rw [Bool.and_eq_true, Bool.and_eq_true, decide_eq_true_eq, inB_i, inB_i, eq32, k, z32]
  constructor
  · intro h
    exact on_btw h.1 h.2.1 h.2.2
  · rintro ⟨s, t, a1, a2, a3, a4, a5⟩
    refine ⟨?_, on_rng a1 a2 a3 a4, on_rng a1 a2 a3 a5⟩
    have e : (s + t) * tu (pt ax ay) (pt bx bz) (pt cx cy) = 0 := by unfold tu; grind
    exact (Int.mul_eq_zero.mp e).resolve_left (by omega)
/-- two segments have a point in common -/
def MT (a b c d : Pt9) : Prop := PX a b c d ∨ onS c a b ∨ onS d a b ∨ onS a c d ∨ onS b c d
theorem mtR_i {B : Int} (hB : B ≤ 8000) {ax ay bx bz cx cy dx dy : Int32} (h1 : wB B ax) (h2 : wB B ay) (h3 : wB B bx) (h4 : wB B bz) (h5 : wB B cx) (h6 : wB B cy) (h7 : wB B dx) (h8 : wB B dy) : mtR ax ay bx bz cx cy dx dy = true ↔ MT (pt ax ay) (pt bx bz) (pt cx cy) (pt dx dy) := by
  unfold mtR MT PX
  simp only [Bool.or_eq_true, Bool.and_eq_true, decide_eq_true_eq]
  rw [sg9_i, sg9_i, btw_i hB h1 h2 h3 h4 h5 h6, btw_i hB h1 h2 h3 h4 h7 h8, btw_i hB h5 h6 h7 h8 h1 h2, btw_i hB h5 h6 h7 h8 h3 h4, (tnR_i hB h1 h2 h3 h4 h5 h6).1, (tnR_i hB h1 h2 h3 h4 h7 h8).1, (tnR_i hB h5 h6 h7 h8 h1 h2).1, (tnR_i hB h5 h6 h7 h8 h3 h4).1]
