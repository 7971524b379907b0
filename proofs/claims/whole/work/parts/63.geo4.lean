theorem XX2 {ax bx gx ay bY gy τ α β lv lb lc : Int} (hτ : 0 < τ) (hx : ax + bx + gx = τ) (hy : ay + bY + gy = τ) (hα : 0 ≤ α) (hβ : 0 ≤ β) (hA : 0 < α * ax + β * ay) (hB : 0 < α * bx + β * bY) (hG : 0 ≤ α * gx + β * gy)
  (ev : τ * lv = bx * ay - ax * bY) (eb : τ * lb = ax * gy - gx * ay) (ec : τ * lc = gx * bY - bx * gy)
  (nb : ¬ (ax * ay < 0 ∧ lv * lb < 0)) (nc : ¬ (bx * bY < 0 ∧ lv * lc < 0)) (xb : ¬ (ax = 0 ∧ 0 < bx ∧ 0 < gx)) (xc : ¬ (bx = 0 ∧ 0 < ax ∧ 0 < gx))
  (bf : ∀ s t : Int, 0 < s → 0 < t → s * ax + t * ay = 0 → s * gx + t * gy = 0 → ax = 0 ∧ gx = 0 ∨ ay = 0 ∧ gy = 0)
  (cf : ∀ s t : Int, 0 < s → 0 < t → s * bx + t * bY = 0 → s * gx + t * gy = 0 → bx = 0 ∧ gx = 0 ∨ bY = 0 ∧ gy = 0)
  (n1 : ¬ (ax = 0 ∧ gx = 0 ∧ bY = 0 ∧ gy = 0)) (n2 : ¬ (bx = 0 ∧ gx = 0 ∧ ay = 0 ∧ gy = 0)) (hg : gy = gx) : (0 < ax ∧ 0 < bx) ∨ (0 < ay ∧ 0 < bY) := by
  subst hg
  have hab : 0 < α + β := by
    rcases Int.lt_trichotomy 0 (α + β) with q | q | q
    · exact q
    · exfalso
      have h1 : α = 0 := by omega
      have h2 : β = 0 := by omega
      rw [h1, h2, Int.zero_mul, Int.zero_mul] at hA
      omega
    · omega
  have hg0 : 0 ≤ gy := by
    refine Classical.byContradiction (fun q => ?_)
    have := Int.mul_neg_of_pos_of_neg hab (show gy < 0 by omega)
    have e : (α + β) * gy = α * gy + β * gy := by grind
    omega
  have hk : 0 < τ - gy := by
    refine pos_l hab ?_
    have e : (α + β) * (τ - gy) = (α * ax + β * ay) + (α * bx + β * bY) := by grind
    omega
  by_cases hax : 0 < ax
  · by_cases hbx : 0 < bx
    · exact Or.inl ⟨hax, hbx⟩
    · have c1 := mpn hα (show bx ≤ 0 by omega)
      obtain ⟨c2, c3⟩ := pos_r hβ (show 0 < β * bY by omega)
      by_cases hgz : gy = 0
      · by_cases z : bx = 0
        · refine Or.inr ⟨?_, c3⟩
          refine Classical.byContradiction (fun q => ?_)
          by_cases w : ay = 0
          · exact n2 ⟨z, hgz, w, hgz⟩
          · have := bf (-ay) ax (by omega) hax (by grind) (by rw [hgz]; simp)
            omega
        · have := cf bY (-bx) c3 (by omega) (by grind) (by rw [hgz]; simp)
          omega
      · exfalso
        have hae : 0 < bY * ax - bx * ay := by
          have e : bY * ax - bx * ay = (τ - gy) * (bY - bx) := by grind
          rw [e]
          exact mpp hk (by omega)
        have hgc : 0 < gy * bY - bx * gy := by
          have e : gy * bY - bx * gy = gy * (bY - bx) := by grind
          rw [e]
          exact mpp (by omega) (by omega)
        have hlc : 0 < lc := pos_l hτ (by rw [ec]; exact hgc)
        have hlv : lv < 0 := neg_l hτ (by rw [ev]; have : ax * bY = bY * ax := Int.mul_comm _ _; omega)
        by_cases z : bx = 0
        · exact xc ⟨z, hax, by omega⟩
        · exact nc ⟨Int.mul_neg_of_neg_of_pos (by omega) c3, Int.mul_neg_of_neg_of_pos hlv hlc⟩
  · have c1 := mpn hα (show ax ≤ 0 by omega)
    obtain ⟨c2, c3⟩ := pos_r hβ (show 0 < β * ay by omega)
    by_cases hgz : gy = 0
    · by_cases z : ax = 0
      · refine Or.inr ⟨c3, ?_⟩
        refine Classical.byContradiction (fun q => ?_)
        by_cases w : bY = 0
        · exact n1 ⟨z, hgz, w, hgz⟩
        · have := cf (-bY) bx (by omega) (by omega) (by grind) (by rw [hgz]; simp)
          omega
      · have := bf ay (-ax) c3 (by omega) (by grind) (by rw [hgz]; simp)
        omega
    · exfalso
      have hbe : 0 < bx * ay - ax * bY := by
        have e : bx * ay - ax * bY = (τ - gy) * (ay - ax) := by grind
        rw [e]
        exact mpp hk (by omega)
      have hge : ax * gy - gy * ay < 0 := by
        have e : ax * gy - gy * ay = - (gy * (ay - ax)) := by grind
        have := mpp (show 0 < gy by omega) (show 0 < ay - ax by omega)
        omega
      have hlb : lb < 0 := neg_l hτ (by rw [eb]; exact hge)
      have hlv : 0 < lv := pos_l hτ (by rw [ev]; exact hbe)
      by_cases z : ax = 0
      · exact xb ⟨z, by omega, by omega⟩
      · exact nb ⟨Int.mul_neg_of_neg_of_pos (by omega) c3, Int.mul_neg_of_pos_of_neg hlv hlb⟩
theorem tri_sum (v b c p : Pt9) : tu v b p + tu v p c + tu b c p = tu v b c := by
  unfold tu
  grind
theorem tri_1 (v b c p : Pt9) : tu v b c * p.1 = tu b c p * v.1 + tu v p c * b.1 + tu v b p * c.1 := by
  unfold tu
  grind
theorem tri_2 (v b c p : Pt9) : tu v b c * p.2 = tu b c p * v.2 + tu v p c * b.2 + tu v b p * c.2 := by
  unfold tu
  grind
theorem tri_v (v b c x y : Pt9) : tu v b c * tu x y v = tu v x c * tu v b y - tu v b x * tu v y c := by
  unfold tu
  grind
theorem tri_b (v b c x y : Pt9) : tu v b c * tu x y b = tu v b x * tu b c y - tu b c x * tu v b y := by
  unfold tu
  grind
theorem tri_c (v b c x y : Pt9) : tu v b c * tu x y c = tu b c x * tu v y c - tu v x c * tu b c y := by
  unfold tu
  grind
theorem tu_vc (v x c : Pt9) : tu v c x = - tu v x c := by
  unfold tu
  grind
theorem tu_self1 (a b : Pt9) : tu a b a = 0 := by unfold tu; grind
theorem tu_self2 (a b : Pt9) : tu a b b = 0 := by unfold tu; grind
theorem tu_self3 (a b : Pt9) : tu a a b = 0 := by unfold tu; grind
theorem mul_cancel {a b c : Int} (h : 0 < a) (e : a * b = a * c) : b = c := Int.eq_of_mul_eq_mul_left (by omega) e
/-- the point with these weights -/
theorem pt_eq {v b c x y : Pt9} (hτ : 0 < tu v b c) (h1 : tu v b x = tu v b y) (h2 : tu v x c = tu v y c) : x = y := by
  have h3 : tu b c x = tu b c y := by
    have a := tri_sum v b c x
    have b' := tri_sum v b c y
    omega
  refine Prod.ext (mul_cancel hτ ?_) (mul_cancel hτ ?_)
  · rw [tri_1, tri_1 v b c y, h1, h2, h3]
  · rw [tri_2, tri_2 v b c y, h1, h2, h3]
theorem on_vb {v b c x : Pt9} (hτ : 0 < tu v b c) (h0 : tu v b x = 0) (h1 : 0 ≤ tu v x c) (h2 : 0 ≤ tu b c x) : onS x v b := by
  have a := tri_sum v b c x
  have e1 := tri_1 v b c x
  have e2 := tri_2 v b c x
  rw [h0] at e1 e2 a
  exact ⟨tu b c x, tu v x c, h2, h1, by omega, by rw [show tu b c x + tu v x c = tu v b c by omega]; omega, by rw [show tu b c x + tu v x c = tu v b c by omega]; omega⟩
theorem on_vc {v b c x : Pt9} (hτ : 0 < tu v b c) (h0 : tu v x c = 0) (h1 : 0 ≤ tu v b x) (h2 : 0 ≤ tu b c x) : onS x v c := by
  have a := tri_sum v b c x
  have e1 := tri_1 v b c x
  have e2 := tri_2 v b c x
  rw [h0] at e1 e2 a
  exact ⟨tu b c x, tu v b x, h2, h1, by omega, by rw [show tu b c x + tu v b x = tu v b c by omega]; omega, by rw [show tu b c x + tu v b x = tu v b c by omega]; omega⟩
theorem on_w {v b c x y z : Pt9} (hτ : 0 < tu v b c) {s t : Int} (hs : 0 ≤ s) (ht : 0 ≤ t) (h : 0 < s + t) (h1 : s * tu v b x + t * tu v b y = (s + t) * tu v b z) (h2 : s * tu v x c + t * tu v y c = (s + t) * tu v z c) : onS z x y := by
  have h3 : s * tu b c x + t * tu b c y = (s + t) * tu b c z := by
    have a1 := tri_sum v b c x
    have a2 := tri_sum v b c y
    have a3 := tri_sum v b c z
    grind
  refine ⟨s, t, hs, ht, h, mul_cancel hτ ?_, mul_cancel hτ ?_⟩
  · have e1 := tri_1 v b c x
    have e2 := tri_1 v b c y
    have e3 := tri_1 v b c z
    grind
  · have e1 := tri_2 v b c x
    have e2 := tri_2 v b c y
    have e3 := tri_2 v b c z
    grind
theorem XXp {v b c x y : Pt9} {α β : Int} (hτ : 0 < tu v b c) (hα : 0 ≤ α) (hβ : 0 ≤ β) (hA : 0 < α * tu v b x + β * tu v b y) (hB : 0 < α * tu v x c + β * tu v y c) (hG : 0 ≤ α * tu b c x + β * tu b c y)
  (nb : ¬ PX v b x y) (nc : ¬ PX v c x y) (xb : onS x v b → x = v ∨ x = b) (yb : onS y v b → y = v ∨ y = b) (xc : onS x v c → x = v ∨ x = c) (yc : onS y v c → y = v ∨ y = c) (vf : ¬ onS v x y) (bf : onS b x y → b = x ∨ b = y) (cf : onS c x y → c = x ∨ c = y) (n1 : ¬ (x = b ∧ y = c)) (n2 : ¬ (x = c ∧ y = b)) :
  (0 < tu v b x ∧ 0 < tu v x c ∧ α * tu b c x + β * tu b c y ≤ (α + β) * tu b c x) ∨ (0 < tu v b y ∧ 0 < tu v y c ∧ α * tu b c x + β * tu b c y ≤ (α + β) * tu b c y) := by
  have nb' : ¬ (tu v b x * tu v b y < 0 ∧ tu x y v * tu x y b < 0) := nb
  have nn : -tu v x c * -tu v y c = tu v x c * tu v y c := by grind
  have nc' : ¬ (tu v x c * tu v y c < 0 ∧ tu x y v * tu x y c < 0) := fun q => nc ⟨by rw [tu_vc, tu_vc v y c, nn]; exact q.1, q.2⟩
  have xb' : ∀ z, (onS z v b → z = v ∨ z = b) → ¬ (tu v b z = 0 ∧ 0 < tu v z c ∧ 0 < tu b c z) := fun z hz q => by
    rcases hz (on_vb hτ q.1 (by omega) (by omega)) with e | e
    · have := q.2.1
      rw [e, tu_self3] at this
      omega
    · have := q.2.2
      rw [e, tu_self1] at this
      omega
  have xc' : ∀ z, (onS z v c → z = v ∨ z = c) → ¬ (tu v z c = 0 ∧ 0 < tu v b z ∧ 0 < tu b c z) := fun z hz q => by
    rcases hz (on_vc hτ q.1 (by omega) (by omega)) with e | e
    · have := q.2.1
      rw [e, tu_self1] at this
      omega
    · have := q.2.2
      rw [e, tu_self2] at this
      omega
  have vf' : ∀ s t : Int, 0 ≤ s → 0 ≤ t → 0 < s + t → ¬ (s * tu v b x + t * tu v b y = 0 ∧ s * tu v x c + t * tu v y c = 0) := fun s t h1 h2 h3 q => vf (on_w hτ h1 h2 h3 (by rw [q.1, tu_self1]; simp) (by rw [q.2, tu_self3]; simp))
  have vs : ∀ s t : Int, 0 ≤ s → 0 ≤ t → 0 < s + t → ¬ (s * tu v b y + t * tu v b x = 0 ∧ s * tu v y c + t * tu v x c = 0) := fun s t h1 h2 h3 q => vf' t s h2 h1 (by omega) ⟨by omega, by omega⟩
  have bs : tu v b b = 0 := tu_self2 _ _
  have cs : tu v c c = 0 := tu_self2 _ _
  have sx := tri_sum v b c x
  have sy := tri_sum v b c y
  rcases Int.lt_trichotomy (tu b c y) (tu b c x) with q | q | q
  · obtain ⟨r1, r2⟩ := XX1 hτ hα hβ hA hB hG (tri_v v b c x y) (tri_b v b c x y) (tri_c v b c x y) nb' nc' (xb' x xb) (xc' x xc) vf' q
    refine Or.inl ⟨r1, r2, ?_⟩
    have := mzz hβ (show 0 ≤ tu b c x - tu b c y by omega)
    grind
  · have key := XX2 hτ sx sy hα hβ hA hB hG (tri_v v b c x y) (tri_b v b c x y) (tri_c v b c x y) nb' nc' (xb' x xb) (xc' x xc) (fun s t h1 h2 e1 e2 => ?_) (fun s t h1 h2 e1 e2 => ?_) (fun z => n1 ⟨?_, ?_⟩) (fun z => n2 ⟨?_, ?_⟩) q
    · have e9 : (α + β) * tu b c x = α * tu b c x + β * tu b c y := by rw [q]; grind
      rcases key with ⟨r1, r2⟩ | ⟨r1, r2⟩
      · exact Or.inl ⟨r1, r2, by omega⟩
      · exact Or.inr ⟨r1, r2, by rw [q]; rw [q] at e9; omega⟩
    · have h3 : s * tu v x c + t * tu v y c = (s + t) * tu v b c := by grind
      rcases bf (on_w hτ (by omega) (by omega) (by omega) (by rw [bs]; omega) h3) with e | e
      · exact Or.inl ⟨by rw [← e, tu_self2], by rw [← e, tu_self1]⟩
      · exact Or.inr ⟨by rw [← e, tu_self2], by rw [← e, tu_self1]⟩
    · have h3 : s * tu v b x + t * tu v b y = (s + t) * tu v b c := by grind
      rcases cf (on_w hτ (by omega) (by omega) (by omega) h3 (by rw [cs]; omega)) with e | e
      · exact Or.inl ⟨by rw [← e, tu_self2], by rw [← e, tu_self2]⟩
      · exact Or.inr ⟨by rw [← e, tu_self2], by rw [← e, tu_self2]⟩
    · exact pt_eq hτ (by rw [bs]; exact z.1) (by omega)
    · exact pt_eq hτ (by omega) (by rw [cs]; exact z.2.2.1)
    · exact pt_eq hτ (by omega) (by rw [cs]; exact z.1)
    · exact pt_eq hτ (by rw [bs]; exact z.2.2.1) (by omega)
  · have m1 : tu v b x * tu v b y = tu v b y * tu v b x := Int.mul_comm _ _
    have m2 : tu v x c * tu v y c = tu v y c * tu v x c := Int.mul_comm _ _
    have m3 : -tu x y v * -tu x y b = tu x y v * tu x y b := by grind
    have m4 : -tu x y v * -tu x y c = tu x y v * tu x y c := by grind
    obtain ⟨r1, r2⟩ := XX1 (ax := tu v b y) (bx := tu v y c) (gx := tu b c y) (ay := tu v b x) (bY := tu v x c) (gy := tu b c x) (α := β) (β := α) (lv := - tu x y v) (lb := - tu x y b) (lc := - tu x y c) hτ hβ hα (by omega) (by omega) (by omega) (by have := tri_v v b c x y; grind) (by have := tri_b v b c x y; grind) (by have := tri_c v b c x y; grind) (fun z => nb' ⟨by rw [m1]; exact z.1, by rw [← m3]; exact z.2⟩) (fun z => nc' ⟨by rw [m2]; exact z.1, by rw [← m4]; exact z.2⟩) (xb' y yb) (xc' y yc) vs q
    refine Or.inr ⟨r1, r2, ?_⟩
    have := mzz hα (show 0 ≤ tu b c y - tu b c x by omega)
    grind
