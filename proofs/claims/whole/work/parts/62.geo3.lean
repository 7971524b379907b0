theorem vec_ne {x1 x2 : Pt9} (h : x1 ≠ x2) : ¬ ((vec x1 x2).1 = 0 ∧ (vec x1 x2).2 = 0) := fun q => h (Prod.ext (by have := q.1; unfold vec at this; simp at this; omega) (by have := q.2; unfold vec at this; simp at this; omega))
/-- the parity is the same at both ends of a segment that meets no edge -/
theorem par_K {x1 x2 h : Pt9} {p : Nat → Pt9} {m : Nat} (hh : ¬ (h.1 = 0 ∧ h.2 = 0)) (hc : p m = p 0) (hX : ∀ t, t < m → ¬ PX x1 x2 (p t) (p (t + 1))) (h1 : ∀ t, t ≤ m → ¬ onS (p t) x1 x2) (h3 : ∀ t, t < m → ¬ onS x1 (p t) (p (t + 1))) (h4 : ∀ t, t < m → ¬ onS x2 (p t) (p (t + 1))) : par x1 h p m = par x2 h p m := by
  by_cases q : x1 = x2
  · rw [q]
  · have hd := vec_ne q
    rw [par_d hh hd hc h3, par_d (x := x2) hh hd hc h4]
    exact xs_c m (fun t ht => crd_K (hX t ht) (h1 t (by omega)) (h1 (t + 1) (by omega)) (h3 t ht) (h4 t ht))
theorem crd_v1 (x v w : Pt9) : crd x (vec x v) v w = decide (0 < tu x v w) := by
  unfold crd
  have e1 : sid x (vec x v) v = 0 := by rw [sid_tu]; unfold tu; grind
  have e2 : tu v w x = sid x (vec x v) w := by rw [sid_tu]; unfold tu; grind
  rw [e1, e2, ← sid_tu]
  by_cases h : 0 < sid x (vec x v) w
  · simp only [h, decide_true]; rfl
  · simp only [h, decide_false]; rfl
theorem crd_v2 (x v u : Pt9) : crd x (vec x v) u v = decide (0 < tu x v u) := by
  unfold crd
  have e1 : sid x (vec x v) v = 0 := by rw [sid_tu]; unfold tu; grind
  have e2 : tu u v x = - sid x (vec x v) u := by rw [sid_tu]; unfold tu; grind
  rw [e1, e2, ← sid_tu]
  by_cases h : 0 < sid x (vec x v) u
  · have h2 : ¬ 0 < - sid x (vec x v) u := by omega
    simp only [h, h2, decide_true, decide_false]; rfl
  · simp only [h, decide_false]; rfl
/-- the parity beside the utmost corner -/
theorem par_L {x v f h : Pt9} {p : Nat → Pt9} {k : Nat} (hh : ¬ (h.1 = 0 ∧ h.2 = 0)) (hc : p (k + 2) = p 0) (hv : p 0 = v) (hf : fi f x < fi f v) (hm : ∀ t, fi f (p t) ≤ fi f v) (hE : ∀ t, 1 ≤ t → t ≤ k → ¬ PX x v (p t) (p (t + 1)) ∧ ¬ onS (p t) x v ∧ ¬ onS (p (t + 1)) x v ∧ ¬ onS v (p t) (p (t + 1))) (hx : ∀ t, t < k + 2 → ¬ onS x (p t) (p (t + 1))) : par x h p (k + 2) = (decide (0 < tu x v (p 1)) ^^ decide (0 < tu x v (p (k + 1)))) := by
  have hne : x ≠ v := fun q => by rw [q] at hf; omega
  have hd := vec_ne hne
  have hfd : 0 < fi f (vec x v) := by
    have : fi f (vec x v) = fi f v - fi f x := by unfold fi vec; grind
    omega
  rw [par_d hh hd hc hx, par, xs9, ← xs_s, hc, hv, crd_v1, crd_v2, xs_0 k (fun t ht => ?_)]
  · cases decide (0 < tu x v (p 1)) <;> cases decide (0 < tu x v (p (k + 1))) <;> rfl
  · obtain ⟨a1, a2, a3, a4⟩ := hE (t + 1) (by omega) (by omega)
    rw [crd_K a1 a2 a3 (hx (t + 1) (by omega)) a4]
    exact crd_far hfd (hm _) (hm _) a4
/-- a segment with a point in the triangle has an end there, nearer to the utmost corner -/
theorem pos_r {a b : Int} (ha : 0 ≤ a) (h : 0 < a * b) : 0 < a ∧ 0 < b := by
  have h1 : a ≠ 0 := fun q => by rw [q, Int.zero_mul] at h; omega
  refine ⟨by omega, Classical.byContradiction (fun q => ?_)⟩
  have := mpn ha (show b ≤ 0 by omega)
  omega
theorem pos_l {a b : Int} (ha : 0 < a) (h : 0 < a * b) : 0 < b := (pos_r (by omega) h).2
theorem neg_l {a b : Int} (ha : 0 < a) (h : a * b < 0) : b < 0 := Classical.byContradiction (fun q => by have := mzz (show 0 ≤ a by omega) (show 0 ≤ b by omega); omega)
theorem XX1 {ax bx gx ay bY gy τ α β lv lb lc : Int} (hτ : 0 < τ) (hα : 0 ≤ α) (hβ : 0 ≤ β) (hA : 0 < α * ax + β * ay) (hB : 0 < α * bx + β * bY) (hG : 0 ≤ α * gx + β * gy)
  (ev : τ * lv = bx * ay - ax * bY) (eb : τ * lb = ax * gy - gx * ay) (ec : τ * lc = gx * bY - bx * gy)
  (nb : ¬ (ax * ay < 0 ∧ lv * lb < 0)) (nc : ¬ (bx * bY < 0 ∧ lv * lc < 0)) (xb : ¬ (ax = 0 ∧ 0 < bx ∧ 0 < gx)) (xc : ¬ (bx = 0 ∧ 0 < ax ∧ 0 < gx))
  (vf : ∀ s t : Int, 0 ≤ s → 0 ≤ t → 0 < s + t → ¬ (s * ax + t * ay = 0 ∧ s * bx + t * bY = 0)) (hg : gy < gx) : 0 < ax ∧ 0 < bx := by
  have hg2 : 0 < gx - gy := by omega
  have hab : 0 < α + β := by
    rcases Int.lt_trichotomy 0 (α + β) with q | q | q
    · exact q
    · exfalso
      have h1 : α = 0 := by omega
      have h2 : β = 0 := by omega
      rw [h1, h2, Int.zero_mul, Int.zero_mul] at hA
      omega
    · omega
  have h1 : 0 < ax := by
    refine Classical.byContradiction (fun h0 => ?_)
    have c1 := mpn hα (show ax ≤ 0 by omega)
    obtain ⟨c2, c3⟩ := pos_r hβ (show 0 < β * ay by omega)
    have hge : 0 < ay * gx - ax * gy := by
      refine pos_l hab ?_
      have e : (α + β) * (ay * gx - ax * gy) = (ay - ax) * (α * gx + β * gy) + (gx - gy) * (α * ax + β * ay) := by grind
      rw [e]
      have d1 := mzz (show 0 ≤ ay - ax by omega) hG
      have d2 := mpp hg2 hA
      omega
    have hlb : lb < 0 := neg_l hτ (by rw [eb]; have : gx * ay = ay * gx := Int.mul_comm _ _; omega)
    rcases Int.lt_trichotomy 0 (ay * bx - ax * bY) with q | q | q
    · have hlv : 0 < lv := pos_l hτ (by rw [ev]; have : bx * ay = ay * bx := Int.mul_comm _ _; omega)
      by_cases z : ax = 0
      · rw [z, Int.zero_mul] at q hge
        exact xb ⟨z, pos_l c3 (by omega), pos_l c3 (by omega)⟩
      · exact nb ⟨Int.mul_neg_of_neg_of_pos (by omega) c3, Int.mul_neg_of_pos_of_neg hlv hlb⟩
    · exact vf ay (-ax) (by omega) (by omega) (by omega) ⟨by grind, by grind⟩
    · have e : β * (ay * bx - ax * bY) = (α * ax + β * ay) * bx + (-ax) * (α * bx + β * bY) := by grind
      have d1 : β * (ay * bx - ax * bY) < 0 := Int.mul_neg_of_pos_of_neg c2 q
      have d2 := mzz (show 0 ≤ -ax by omega) (show 0 ≤ α * bx + β * bY by omega)
      have hbx : bx < 0 := neg_l hA (by omega)
      have d3 := mpn hα (show bx ≤ 0 by omega)
      obtain ⟨-, hby⟩ := pos_r hβ (show 0 < β * bY by omega)
      have hlv : lv < 0 := neg_l hτ (by rw [ev]; have : bx * ay = ay * bx := Int.mul_comm _ _; omega)
      have hgc : 0 < bY * gx - bx * gy := by
        refine pos_l hab ?_
        have e : (α + β) * (bY * gx - bx * gy) = (bY - bx) * (α * gx + β * gy) + (gx - gy) * (α * bx + β * bY) := by grind
        rw [e]
        have d1 := mzz (show 0 ≤ bY - bx by omega) hG
        have d2 := mpp hg2 hB
        omega
      have hlc : 0 < lc := pos_l hτ (by rw [ec]; have : gx * bY = bY * gx := Int.mul_comm _ _; omega)
      exact nc ⟨Int.mul_neg_of_neg_of_pos hbx hby, Int.mul_neg_of_neg_of_pos hlv hlc⟩
  refine ⟨h1, Classical.byContradiction (fun h0 => ?_)⟩
  have c1 := mpn hα (show bx ≤ 0 by omega)
  obtain ⟨c2, c3⟩ := pos_r hβ (show 0 < β * bY by omega)
  have hgc : 0 < bY * gx - bx * gy := by
    refine pos_l hab ?_
    have e : (α + β) * (bY * gx - bx * gy) = (bY - bx) * (α * gx + β * gy) + (gx - gy) * (α * bx + β * bY) := by grind
    rw [e]
    have d1 := mzz (show 0 ≤ bY - bx by omega) hG
    have d2 := mpp hg2 hB
    omega
  have hlc : 0 < lc := pos_l hτ (by rw [ec]; have : gx * bY = bY * gx := Int.mul_comm _ _; omega)
  have hae : 0 < bY * ax - bx * ay := by
    refine pos_l c2 ?_
    have e : β * (bY * ax - bx * ay) = (α * bx + β * bY) * ax + (-bx) * (α * ax + β * ay) := by grind
    rw [e]
    have d1 := mpp hB h1
    have d2 := mzz (show 0 ≤ -bx by omega) (show 0 ≤ α * ax + β * ay by omega)
    omega
  by_cases z : bx = 0
  · rw [z, Int.zero_mul] at hgc
    exact xc ⟨z, h1, pos_l c3 (by omega)⟩
  · have hlv : lv < 0 := neg_l hτ (by rw [ev]; have : ax * bY = bY * ax := Int.mul_comm _ _; omega)
    exact nc ⟨Int.mul_neg_of_neg_of_pos (by omega) c3, Int.mul_neg_of_neg_of_pos hlv hlc⟩
