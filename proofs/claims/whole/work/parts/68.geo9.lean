theorem mm_col {s s' p : Pt9} (h : tu s s' p = 0) : ((s'.1 - s.1) * (s'.1 - s.1) + (s'.2 - s.2) * (s'.2 - s.2)) * (p.1 - s.1) = ((p.1 - s.1) * (s'.1 - s.1) + (p.2 - s.2) * (s'.2 - s.2)) * (s'.1 - s.1) ∧ ((s'.1 - s.1) * (s'.1 - s.1) + (s'.2 - s.2) * (s'.2 - s.2)) * (p.2 - s.2) = ((p.1 - s.1) * (s'.1 - s.1) + (p.2 - s.2) * (s'.2 - s.2)) * (s'.2 - s.2) := by
  unfold tu at h
  constructor <;> grind
/-- on one line -/
theorem MM1 {s s' x y : Pt9} {l X Y : Int} (hl : 0 < l) (x1 : l * (x.1 - s.1) = X * (s'.1 - s.1)) (x2 : l * (x.2 - s.2) = X * (s'.2 - s.2)) (y1 : l * (y.1 - s.1) = Y * (s'.1 - s.1)) (y2 : l * (y.2 - s.2) = Y * (s'.2 - s.2)) (hX : 2 * X ≤ l) (hY : l ≤ 2 * Y) (hxs : ∀ p : Pt9, ∀ Z : Int, (p = x → Z = X) → True) (nxs : x = s → X = 0) (nxs' : x = s' → X = l) (nys : y = s → Y = 0) (nys' : y = s' → Y = l) (e1 : onS x s s' → x = s ∨ x = s') (e2 : onS y s s' → y = s ∨ y = s') (e3 : onS s x y → s = x ∨ s = y) (e4 : onS s' x y → s' = x ∨ s' = y) : x = s ∧ y = s' := by
  have hX0 : 0 ≤ X := by
    refine Classical.byContradiction (fun q => ?_)
    rcases e3 ⟨Y, -X, by omega, by omega, by omega, mul_cancel hl (by grind), mul_cancel hl (by grind)⟩ with r | r
    · have := nxs r.symm; omega
    · have := nys r.symm; omega
  have hYl : Y ≤ l := by
    refine Classical.byContradiction (fun q => ?_)
    rcases e4 ⟨Y - l, l - X, by omega, by omega, by omega, mul_cancel hl (by grind), mul_cancel hl (by grind)⟩ with r | r
    · have := nxs' r.symm; omega
    · have := nys' r.symm; omega
  constructor
  · rcases e1 ⟨l - X, X, by omega, by omega, by omega, by grind, by grind⟩ with r | r
    · exact r
    · have := nxs' r; omega
  · rcases e2 ⟨l - Y, Y, by omega, by omega, by omega, by grind, by grind⟩ with r | r
    · have := nys r; omega
    · exact r
theorem MM {s s' M x y : Pt9} (hne : s ≠ s') (m1 : 2 * M.1 = s.1 + s'.1) (m2 : 2 * M.2 = s.2 + s'.2) (hon : onS M x y) (e1 : onS x s s' → x = s ∨ x = s') (e2 : onS y s s' → y = s ∨ y = s') (e3 : onS s x y → s = x ∨ s = y) (e4 : onS s' x y → s' = x ∨ s' = y) : PX s s' x y ∨ (x = s ∧ y = s') ∨ (x = s' ∧ y = s) := by
  obtain ⟨S, T, h1, h2, h3, h4, h5⟩ := hon
  have hab : S * tu s s' x + T * tu s s' y = 0 := by
    have a1 : (S + T) * tu s s' M = S * tu s s' x + T * tu s s' y := by unfold tu; grind
    have a2 : 2 * tu s s' M = 0 := by unfold tu; grind
    have a3 : tu s s' M = 0 := by omega
    rw [a3, Int.mul_zero] at a1
    omega
  have hl : 0 < (s'.1 - s.1) * (s'.1 - s.1) + (s'.2 - s.2) * (s'.2 - s.2) := sq_pos (fun q => hne (Prod.ext (by omega) (by omega)))
  by_cases ha : tu s s' x = 0
  · by_cases hb : tu s s' y = 0
    · -- on one line
      obtain ⟨x1, x2⟩ := mm_col ha
      obtain ⟨y1, y2⟩ := mm_col hb
      have hXY : 2 * (S * ((x.1 - s.1) * (s'.1 - s.1) + (x.2 - s.2) * (s'.2 - s.2)) + T * ((y.1 - s.1) * (s'.1 - s.1) + (y.2 - s.2) * (s'.2 - s.2))) = (S + T) * ((s'.1 - s.1) * (s'.1 - s.1) + (s'.2 - s.2) * (s'.2 - s.2)) := by grind
      have z1 : x = s → (x.1 - s.1) * (s'.1 - s.1) + (x.2 - s.2) * (s'.2 - s.2) = 0 := fun q => by rw [q]; grind
      have z2 : x = s' → (x.1 - s.1) * (s'.1 - s.1) + (x.2 - s.2) * (s'.2 - s.2) = (s'.1 - s.1) * (s'.1 - s.1) + (s'.2 - s.2) * (s'.2 - s.2) := fun q => by rw [q]
      have z3 : y = s → (y.1 - s.1) * (s'.1 - s.1) + (y.2 - s.2) * (s'.2 - s.2) = 0 := fun q => by rw [q]; grind
      have z4 : y = s' → (y.1 - s.1) * (s'.1 - s.1) + (y.2 - s.2) * (s'.2 - s.2) = (s'.1 - s.1) * (s'.1 - s.1) + (s'.2 - s.2) * (s'.2 - s.2) := fun q => by rw [q]
      generalize (s'.1 - s.1) * (s'.1 - s.1) + (s'.2 - s.2) * (s'.2 - s.2) = l at *
      generalize (x.1 - s.1) * (s'.1 - s.1) + (x.2 - s.2) * (s'.2 - s.2) = X at *
      generalize (y.1 - s.1) * (s'.1 - s.1) + (y.2 - s.2) * (s'.2 - s.2) = Y at *
      have key : ∀ X Y S T : Int, 0 ≤ S → 0 ≤ T → 0 < S + T → 2 * (S * X + T * Y) = (S + T) * l → X ≤ Y → 2 * X ≤ l ∧ l ≤ 2 * Y := fun X Y S T h1 h2 h3 e hle => by
        have d1 := mzz h1 (show 0 ≤ Y - X by omega)
        have d2 := mzz h2 (show 0 ≤ Y - X by omega)
        constructor
        · refine Int.le_of_mul_le_mul_left (a := S + T) ?_ h3
          grind
        · refine Int.le_of_mul_le_mul_left (a := S + T) ?_ h3
          grind
      rcases Int.le_total X Y with q | q
      · obtain ⟨k1, k2⟩ := key X Y S T h1 h2 h3 hXY q
        exact Or.inr (Or.inl (MM1 hl x1 x2 y1 y2 k1 k2 (fun _ _ _ => trivial) z1 z2 z3 z4 e1 e2 e3 e4))
      · obtain ⟨k1, k2⟩ := key Y X T S h2 h1 (by omega) (by grind) q
        obtain ⟨r1, r2⟩ := MM1 hl y1 y2 x1 x2 k1 k2 (fun _ _ _ => trivial) z3 z4 z1 z2 e2 e1 (fun h => (e3 (onS_c h)).symm) (fun h => (e4 (onS_c h)).symm)
        exact Or.inr (Or.inr ⟨r2, r1⟩)
    · exfalso
      rw [ha, Int.mul_zero, Int.zero_add] at hab
      have hT : T = 0 := (Int.mul_eq_zero.mp hab).resolve_right hb
      rw [hT, Int.add_zero] at h3 h4 h5
      rw [Int.zero_mul, Int.add_zero] at h4 h5
      have hMx : M = x := Prod.ext (mul_cancel h3 h4) (mul_cancel h3 h5)
      rw [← hMx] at e1
      rcases e1 ⟨1, 1, by decide, by decide, by decide, by grind, by grind⟩ with r | r
      · rw [r] at m1 m2; exact hne (Prod.ext (by omega) (by omega))
      · rw [r] at m1 m2; exact hne (Prod.ext (by omega) (by omega))
  · refine Or.inl ?_
    have hS : S ≠ 0 := fun q => by
      rw [q, Int.zero_add] at h3 h4 h5
      rw [Int.zero_mul, Int.zero_add] at h4 h5
      have hMy : M = y := Prod.ext (mul_cancel h3 h4) (mul_cancel h3 h5)
      rw [← hMy] at e2
      rcases e2 ⟨1, 1, by decide, by decide, by decide, by grind, by grind⟩ with r | r
      · rw [r] at m1 m2; exact hne (Prod.ext (by omega) (by omega))
      · rw [r] at m1 m2; exact hne (Prod.ext (by omega) (by omega))
    have hT : T ≠ 0 := fun q => by
      rw [q, Int.zero_mul, Int.add_zero] at hab
      rcases Int.mul_eq_zero.mp hab with r | r
      · exact hS r
      · exact ha r
    have hxy : tu s s' x * tu s s' y < 0 := by
      rcases Int.lt_or_gt_of_ne ha with q | q
      · have := Int.mul_neg_of_pos_of_neg (show 0 < S by omega) q
        exact Int.mul_neg_of_neg_of_pos q (pos_l (show 0 < T by omega) (by omega))
      · have := mpp (show 0 < S by omega) q
        exact Int.mul_neg_of_pos_of_neg q (neg_l (show 0 < T by omega) (by omega))
    refine ⟨hxy, ?_⟩
    have c1 : tu x y s + tu x y s' = 0 := by
      have a1 : (S + T) * tu x y M = S * tu x y x + T * tu x y y := by unfold tu; grind
      rw [tu_self1, tu_self2, Int.mul_zero, Int.mul_zero, Int.add_zero] at a1
      have a2 := (Int.mul_eq_zero.mp a1).resolve_left (by omega)
      have a3 : 2 * tu x y M = tu x y s + tu x y s' := by unfold tu; grind
      omega
    have c2 : tu s s' x - tu s s' y = tu x y s' - tu x y s := by unfold tu; grind
    have c3 : tu x y s ≠ 0 := fun q => by
      have : tu s s' x = tu s s' y := by omega
      rw [this] at hxy
      have : 0 ≤ tu s s' y * tu s s' y := by rcases Int.le_total 0 (tu s s' y) with w | w; exact mzz w w; exact mnn w w
      omega
    have c4 : tu x y s' = - tu x y s := by omega
    rw [c4]
    rcases Int.lt_or_gt_of_ne c3 with q | q
    · exact Int.mul_neg_of_neg_of_pos q (by omega)
    · exact Int.mul_neg_of_pos_of_neg q (by omega)
theorem xs_per {F : Nat → Bool} {n : Nat} (h : ∀ k, F (k + n) = F k) : ∀ r, xs9 (fun k => F (r + k)) n = xs9 F n
  | 0 => xs_c n (fun t _ => by rw [Nat.zero_add])
  | r + 1 => by
    rw [← xs_per h r]
    have e := xs_s (f := fun k => F (r + k)) n
    rw [xs9] at e
    have e2 : F (r + n) = F (r + 0) := h r
    have e3 : xs9 (fun t => F (r + (t + 1))) n = xs9 (fun k => F (r + 1 + k)) n := xs_c n (fun t _ => by rw [show r + (t + 1) = r + 1 + t by omega])
    rw [e2, e3] at e
    revert e
    cases F (r + 0) <;> cases xs9 (fun k => F (r + 1 + k)) n <;> cases xs9 (fun k => F (r + k)) n <;> intro e <;> first | rfl | cases e
theorem xs_seg {F : Nat → Bool} {a : Nat → Nat} (h : ∀ t, a t < a (t + 1)) : ∀ t, xs9 (fun k => F (a 0 + k)) (a t - a 0) = xs9 (fun t => xs9 (fun k => F (a t + k)) (a (t + 1) - a t)) t
  | 0 => by rw [Nat.sub_self]; rfl
  | t + 1 => by
    have h0 : ∀ t, a 0 ≤ a t := fun t => by
      induction t with
      | zero => exact Nat.le_refl _
      | succ t ih => have := h t; omega
    have h1 := h0 t
    have h2 := h t
    rw [show a (t + 1) - a 0 = (a t - a 0) + (a (t + 1) - a t) by omega, xs_a, xs_seg h t, xs9]
    congr 1
    exact xs_c _ (fun k _ => by rw [show a 0 + (a t - a 0 + k) = a t + k by omega])
theorem par_dec {P : Nat → Pt9} {n m : Nat} {f : Pt9} {a : Nat → Nat} (E : Env9 P n f) (h : Sub n a m) {y : Pt9} (hy : ∀ t, ¬ onS y (P (a t)) (P (a (t + 1)))) : par y h0 P n = (par y h0 (fun t => P (a t)) m ^^ xs9 (fun t => hh P (a t) (a (t + 1)) y) m) := by
  have e0 : a m - a 0 = n := by have := h.2.2 0; rw [Nat.zero_add] at this; omega
  have e1 : par y h0 P n = xs9 (fun t => xs9 (fun k => crd y h0 (P (a t + k)) (P (a t + k + 1))) (a (t + 1) - a t)) m := by
    have s1 := xs_per (F := fun k => crd y h0 (P k) (P (k + 1))) (n := n) (fun k => by show crd y h0 (P (k + n)) (P (k + n + 1)) = _; rw [show k + n + 1 = (k + 1) + n by omega, E.2.1, E.2.1]) (a 0)
    have s2 := xs_seg (F := fun k => crd y h0 (P k) (P (k + 1))) h.2.1 m
    rw [e0] at s2
    exact s1.symm.trans s2
  rw [e1]
  unfold par
  rw [← xs_x]
  refine xs_c m (fun t _ => ?_)
  unfold hh
  rw [hp_u (h.2.1 t), crd_sym (hy t)]
  cases crd y h0 (P (a (t + 1))) (P (a t)) <;> cases xs9 (fun k => crd y h0 (P (a t + k)) (P (a t + k + 1))) (a (t + 1) - a t) <;> rfl
theorem PX_mid {M r r' x y : Pt9} (m1 : 2 * M.1 = r.1 + r'.1) (m2 : 2 * M.2 = r.2 + r'.2) (h : PX M r x y) : PX r' r x y := by
  obtain ⟨h1, h2⟩ := h
  have e : ∀ p, 2 * tu M r p = tu r' r p := fun p => by unfold tu; grind
  have e3 : 2 * tu x y M = tu x y r + tu x y r' := by unfold tu; grind
  refine ⟨?_, ?_⟩
  · rw [← e, ← e]
    have : 2 * tu M r x * (2 * tu M r y) = 4 * (tu M r x * tu M r y) := by grind
    omega
  · rcases Int.lt_trichotomy 0 (tu x y r) with q | q | q
    · have : tu x y M < 0 := Classical.byContradiction (fun w => by have := mzz (show 0 ≤ tu x y M by omega) (show 0 ≤ tu x y r by omega); omega)
      exact Int.mul_neg_of_neg_of_pos (by omega) q
    · rw [← q, Int.mul_zero] at h2; omega
    · have : 0 < tu x y M := Classical.byContradiction (fun w => by have := mnn (show tu x y M ≤ 0 by omega) (show tu x y r ≤ 0 by omega); omega)
      exact Int.mul_neg_of_pos_of_neg (by omega) q
theorem on_half {p M r r' : Pt9} (m1 : 2 * M.1 = r.1 + r'.1) (m2 : 2 * M.2 = r.2 + r'.2) (h : onS p M r) : onS p r r' := by
  obtain ⟨s, t, h1, h2, h3, h4, h5⟩ := h
  exact ⟨s + 2 * t, s, by omega, h1, by omega, by grind, by grind⟩
theorem hhM1 {P P0 : Nat → Pt9} {n m : Nat} {f : Pt9} {a : Nat → Nat} (E : Env9 P n f) (I : Inv P P0 n a m) {r r' t : Nat} (hg : gd P (P (a r)) (P (a r'))) (hne : P (a r) ≠ P (a r')) {M : Pt9} (m1 : 2 * M.1 = (P (a r)).1 + (P (a r')).1) (m2 : 2 * M.2 = (P (a r)).2 + (P (a r')).2) (hMQ : ¬ onS M (P (a t)) (P (a (t + 1)))) (hMP : ∀ e, ¬ onS M (P e) (P (e + 1))) (n1 : P (a r) ≠ P (a t)) (n2 : P (a r) ≠ P (a (t + 1))) : hh P (a t) (a (t + 1)) M = false := by
  have hS := I.1
  have no : ∀ e, a t ≤ e → e ≤ a (t + 1) → P e ≠ P (a r) := fun e h1 h2 he => (chn (P0 := P0) E hS h1 h2 he).elim n1 n2
  rw [hh_K (x2 := P (a r)) (hS.2.1 t) (fun e _ _ q => hg.2 e (PX_l (PX_mid m1 m2 q))) (fun q => Cr E I hg t (PX_l (PX_mid m1 m2 q))) (fun e h1 h2 q => ?_) (fun e _ _ => hMP e) hMQ (fun e h1 h2 q => ?_) (fun q => ((inv_gd E I t).1 _ q).elim n1 n2)]
  · exact I.2.2.2 t r n1 n2
  · rcases hg.1 _ (on_half m1 m2 q) with w | w
    · exact no e h1 h2 w
    · rw [w] at q
      obtain ⟨s, u, s1, s2, s3, s4, s5⟩ := q
      have d1 : (s + 2 * u) * (P (a r)).1 = (s + 2 * u) * (P (a r')).1 := by grind
      have d2 : (s + 2 * u) * (P (a r)).2 = (s + 2 * u) * (P (a r')).2 := by grind
      exact hne (Prod.ext (mul_cancel (by omega) d1) (mul_cancel (by omega) d2))
  · rcases (E.2.2.2 e).1 _ q with w | w
    · exact no e h1 (by omega) w.symm
    · exact no (e + 1) (by omega) (by omega) w.symm
/-- the middle of a good chord between corners of the part -/
theorem hhM {P P0 : Nat → Pt9} {n m : Nat} {f : Pt9} {a : Nat → Nat} (E : Env9 P n f) (I : Inv P P0 n a m) {s s' : Nat} (hg : gd P (P (a s)) (P (a s'))) (hne : P (a s) ≠ P (a s')) (hQ : ∀ t, ¬ (P (a t) = P (a s) ∧ P (a (t + 1)) = P (a s')) ∧ ¬ (P (a t) = P (a s') ∧ P (a (t + 1)) = P (a s))) {M : Pt9} (m1 : 2 * M.1 = (P (a s)).1 + (P (a s')).1) (m2 : 2 * M.2 = (P (a s)).2 + (P (a s')).2) : (∀ t, ¬ onS M (P (a t)) (P (a (t + 1)))) ∧ ∀ t, hh P (a t) (a (t + 1)) M = false := by
  have hS := I.1
  have hMQ : ∀ t, ¬ onS M (P (a t)) (P (a (t + 1))) := fun t q => by
    rcases MM hne m1 m2 q (hg.1 _) (hg.1 _) ((inv_gd E I t).1 _) ((inv_gd E I t).1 _) with w | w | w
    · exact Cr E I hg t w
    · exact (hQ t).1 w
    · exact (hQ t).2 w
  have hMP : ∀ e, ¬ onS M (P e) (P (e + 1)) := fun e q => by
    rcases MM hne m1 m2 q (hg.1 _) (hg.1 _) ((E.2.2.2 e).1 _) ((E.2.2.2 e).1 _) with w | w | w
    · exact hg.2 e w
    · have := nadj E hS w.1 w.2
      exact (hQ s).1 ⟨rfl, (q_mod E hS this.symm)⟩
    · have := nadj E hS w.1 w.2
      exact (hQ s').2 ⟨rfl, (q_mod E hS this.symm)⟩
  refine ⟨hMQ, fun t => ?_⟩
  by_cases c1 : P (a s) = P (a t)
  · by_cases c2 : P (a s') = P (a t)
    · exact absurd (c1.trans c2.symm) hne
    · by_cases c3 : P (a s') = P (a (t + 1))
      · exact absurd ⟨c1.symm, c3.symm⟩ (hQ t).1
      · exact hhM1 E I (gd_sym hg) (Ne.symm hne) (by omega) (by omega) (hMQ t) hMP c2 c3
  · by_cases c2 : P (a s) = P (a (t + 1))
    · by_cases c3 : P (a s') = P (a t)
      · exact absurd ⟨c3.symm, c2.symm⟩ (hQ t).2
      · by_cases c4 : P (a s') = P (a (t + 1))
        · exact absurd (c2.trans c4.symm) hne
        · exact hhM1 E I (gd_sym hg) (Ne.symm hne) (by omega) (by omega) (hMQ t) hMP c3 c4
    · exact hhM1 E I hg hne m1 m2 (hMQ t) hMP c1 c2
