theorem plcF_c {on cr on' cr' : Nat → Bool} : ∀ (d i : Nat) (b : Bool), (∀ k, i ≤ k → k < i + d → on k = on' k ∧ cr k = cr' k) → plcF on cr i d b = plcF on' cr' i d b
  | 0, i, b, _ => rfl
  | d + 1, i, b, h => by
    obtain ⟨h1, h2⟩ := h i (by omega) (by omega)
    rw [plcF, plcF, h1, h2, plcF_c d (i + 1) _ (fun k h3 h4 => h k (by omega) (by omega))]
theorem plcF_2 {on cr : Nat → Bool} : ∀ (d i : Nat) (b : Bool), plcF on cr i d b = 2 ↔ (∀ k, i ≤ k → k < i + d → on k = false) ∧ (b ^^ xs9 (fun t => cr (i + t)) d) = true
  | 0, i, b => by
    rw [plcF, xs9]
    cases b
    · exact ⟨fun q => absurd q (by decide), fun q => absurd q.2 (by decide)⟩
    · exact ⟨fun _ => ⟨fun k h1 h2 => by omega, rfl⟩, fun _ => rfl⟩
  | d + 1, i, b => by
    rw [plcF]
    cases ho : on i with
    | true => exact ⟨fun q => absurd (show (1 : Int32) = 2 from q) (by decide), fun q => by have := q.1 i (by omega) (by omega); rw [ho] at this; cases this⟩
    | false =>
      show plcF on cr (i + 1) d (b ^^ cr i) = 2 ↔ _
      rw [plcF_2 d (i + 1)]
      have e1 : xs9 (fun t => cr (i + 1 + t)) d = xs9 (fun t => cr (i + (t + 1))) d := xs_c d (fun t _ => by rw [show i + 1 + t = i + (t + 1) by omega])
      have e2 : (b ^^ xs9 (fun t => cr (i + t)) (d + 1)) = ((b ^^ cr i) ^^ xs9 (fun t => cr (i + 1 + t)) d) := by
        rw [← xs_s, e1, Nat.add_zero, Bool.xor_assoc]
      rw [e2]
      refine and_congr ?_ Iff.rfl
      constructor
      · intro q k h1 h2
        rcases Nat.lt_or_ge i k with w | w
        · exact q k w (by omega)
        · rw [show k = i by omega]; exact ho
      · intro q k h1 h2
        exact q k (by omega) (by omega)
/-- a corner times a scale of one or two -/
theorem sc_i {sc v : Int32} (hs : sc = 1 ∨ sc = 2) (hv : wB 1000 v) : (sc * v).toInt = sc.toInt * v.toInt ∧ wB 2000 (sc * v) ∧ v * sc = sc * v := by
  unfold wB at *
  have h1 : (sc * v).toInt = sc.toInt * v.toInt := by
    rcases hs with rfl | rfl
    · have e : (1 : Int32).toInt = 1 := by decide
      exact m32 rfl rfl (by rw [e]; omega) (by rw [e]; omega)
    · have e : (2 : Int32).toInt = 2 := by decide
      exact m32 rfl rfl (by rw [e]; omega) (by rw [e]; omega)
  refine ⟨h1, ?_, Int32.mul_comm _ _⟩
  rw [h1]
  rcases hs with rfl | rfl
  · have e : (1 : Int32).toInt = 1 := by decide
    rw [e]; omega
  · have e : (2 : Int32).toInt = 2 := by decide
    rw [e]; omega
theorem wB_m {A B : Int} {v : Int32} (h : wB A v) (hAB : A ≤ B) : wB B v := by unfold wB at *; omega
theorem sb_i {B : Int} (hB : B ≤ 8000) {a b : Int32} (ha : wB B a) (hb : wB B b) : (a - b).toInt = a.toInt - b.toInt := by
  unfold wB at *
  exact s32 rfl rfl (by omega) (by omega)
theorem prod_i {B : Int} (hB : B ≤ 8000) {a b c d : Int32} (ha : wB B a) (hb : wB B b) (hc : wB B c) (hd : wB B d) : ((a - b) * (c - d)).toInt = (a.toInt - b.toInt) * (c.toInt - d.toInt) ∧ -256000000 ≤ (a.toInt - b.toInt) * (c.toInt - d.toInt) ∧ (a.toInt - b.toInt) * (c.toInt - d.toInt) ≤ 256000000 := by
  have s1 := sb_i hB ha hb
  have s2 := sb_i hB hc hd
  unfold wB at *
  have b1 := mulb (A := 16000) (B := 16000) (show -16000 ≤ a.toInt - b.toInt by omega) (by omega) (show -16000 ≤ c.toInt - d.toInt by omega) (by omega)
  exact ⟨m32 s1 s2 (by omega) (by omega), by omega, by omega⟩
theorem between_np {u v p : Int} : (u - p) * (v - p) ≤ 0 ↔ (u ≤ p ∧ p ≤ v) ∨ (v ≤ p ∧ p ≤ u) := by
  obtain ⟨p1, p2, p3, p4, p5, p6, p7, p8⟩ := sgm (u - p) (v - p)
  generalize (u - p) * (v - p) = z at *
  constructor
  · intro h
    by_cases h1 : 0 < u - p
    · have : ¬ 0 < v - p := fun q => by have := p1 h1 q; omega
      omega
    · by_cases h2 : u - p < 0
      · have : ¬ v - p < 0 := fun q => by have := p8 h2 q; omega
        omega
      · omega
  · intro h
    rcases h with h | h
    · exact p3 (by omega) (by omega)
    · exact p2 (by omega) (by omega)
/-- a place beside an edge: class and reference ask the same -/
theorem place_1 {n : Nat} {x y : Nat → Int32} (h : rowR n x y) {px py sc : Int32} (hs : sc = 1 ∨ sc = 2) (hx : wB 3000 px) (hy : wB 3000 py) {k : Nat} (hk : k < n) : onC n x y px py sc k = onR n x y px py sc k ∧ crC n x y px py sc k = crR n x y px py sc k ∧ (onR n x y px py sc k = true ↔ onS (pt px py) (sc.toInt * (x k).toInt, sc.toInt * (y k).toInt) (sc.toInt * (x (af n k)).toInt, sc.toInt * (y (af n k)).toInt)) ∧ crR n x y px py sc k = crd (pt px py) h0 (sc.toInt * (x k).toInt, sc.toInt * (y k).toInt) (sc.toInt * (x (af n k)).toInt, sc.toInt * (y (af n k)).toInt) := by
  have hk' : af n k < n := af_lt (by omega)
  obtain ⟨a1, a2, a3⟩ := sc_i hs (h.2.2 k hk).1
  obtain ⟨b1, b2, b3⟩ := sc_i hs (h.2.2 k hk).2
  obtain ⟨c1, c2, c3⟩ := sc_i hs (h.2.2 _ hk').1
  obtain ⟨d1, d2, d3⟩ := sc_i hs (h.2.2 _ hk').2
  have a2 := wB_m a2 (show (2000 : Int) ≤ 3000 by decide)
  have b2 := wB_m b2 (show (2000 : Int) ≤ 3000 by decide)
  have c2 := wB_m c2 (show (2000 : Int) ≤ 3000 by decide)
  have d2 := wB_m d2 (show (2000 : Int) ≤ 3000 by decide)
  have hB : (3000 : Int) ≤ 8000 := by decide
  have on1 := btw_i hB a2 b2 c2 d2 hx hy
  have tn1 := tnR_i hB a2 b2 c2 d2 hx hy
  unfold onC onR crC crR sidC
  rw [a3, b3, c3, d3]
  unfold pt at on1 tn1 ⊢
  rw [a1, b1, c1, d1] at on1 tn1
  rw [on1]
  have p1 := prod_i hB a2 hx d2 hy
  have p2 := prod_i hB b2 hy c2 hx
  have p3 := prod_i hB a2 hx c2 hx
  have p4 := prod_i hB b2 hy d2 hy
  have s1 := sb_i hB b2 hy
  have s2 := sb_i hB d2 hy
  rw [a1, d1] at p1
  rw [b1, c1] at p2
  rw [a1, c1] at p3
  rw [b1, d1] at p4
  rw [b1] at s1
  rw [d1] at s2
  have sd := s32 p1.1 p2.1 (by omega) (by omega)
  have ed : ((sc.toInt * (x k).toInt - px.toInt) * (sc.toInt * (y (af n k)).toInt - py.toInt) - (sc.toInt * (y k).toInt - py.toInt) * (sc.toInt * (x (af n k)).toInt - px.toInt)) = tu (sc.toInt * (x k).toInt, sc.toInt * (y k).toInt) (sc.toInt * (x (af n k)).toInt, sc.toInt * (y (af n k)).toInt) (px.toInt, py.toInt) := by unfold tu; grind
  rw [ed] at sd
  have cond : (decide (((sc * x k - px) * (sc * y (af n k) - py) - (sc * y k - py) * (sc * x (af n k) - px)) = 0) && decide ((sc * x k - px) * (sc * x (af n k) - px) ≤ 0) && decide ((sc * y k - py) * (sc * y (af n k) - py) ≤ 0)) = true ↔ onS (px.toInt, py.toInt) (sc.toInt * (x k).toInt, sc.toInt * (y k).toInt) (sc.toInt * (x (af n k)).toInt, sc.toInt * (y (af n k)).toInt) := by
    rw [Bool.and_eq_true, Bool.and_eq_true, decide_eq_true_eq, decide_eq_true_eq, decide_eq_true_eq, eq32, le32, le32, sd, p3.1, p4.1, z32, between_np, between_np]
    constructor
    · intro q
      exact on_btw q.1.1 q.1.2 q.2
    · rintro ⟨s, t, r1, r2, r3, r4, r5⟩
      refine ⟨⟨?_, on_rng r1 r2 r3 r4⟩, on_rng r1 r2 r3 r5⟩
      have e : (s + t) * tu (sc.toInt * (x k).toInt, sc.toInt * (y k).toInt) (sc.toInt * (x (af n k)).toInt, sc.toInt * (y (af n k)).toInt) (px.toInt, py.toInt) = 0 := by unfold tu; grind
      exact (Int.mul_eq_zero.mp e).resolve_left (by omega)
  refine ⟨?_, ?_, Iff.rfl, ?_⟩
  · rw [Bool.eq_iff_iff, on1]; exact cond
  · have e1 : decide (0 < sc * y k - py) = decide (py < sc * y k) := decide_eq_decide.mpr (by rw [lt32, lt32, s1, z32, b1]; omega)
    have e2 : decide (0 < sc * y (af n k) - py) = decide (py < sc * y (af n k)) := decide_eq_decide.mpr (by rw [lt32, lt32, s2, z32, d1]; omega)
    have e3 : decide (sc * y k - py < sc * y (af n k) - py) = decide (sc * y k < sc * y (af n k)) := decide_eq_decide.mpr (by rw [lt32, lt32, s1, s2, b1, d1]; omega)
    have e4 : decide (0 < ((sc * x k - px) * (sc * y (af n k) - py) - (sc * y k - py) * (sc * x (af n k) - px))) = decide (0 < tnR (sc * x k) (sc * y k) (sc * x (af n k)) (sc * y (af n k)) px py) := decide_eq_decide.mpr (by rw [lt32, lt32, sd, z32, tn1.1])
    rw [e1, e2, e3, e4, Bool.beq_comm]
  · unfold crd sid h0
    have e1 : decide (py < sc * y k) = decide (0 < 1 * (sc.toInt * (y k).toInt - py.toInt) - 0 * (sc.toInt * (x k).toInt - px.toInt)) := decide_eq_decide.mpr (by rw [lt32, b1]; omega)
    have e2 : decide (py < sc * y (af n k)) = decide (0 < 1 * (sc.toInt * (y (af n k)).toInt - py.toInt) - 0 * (sc.toInt * (x (af n k)).toInt - px.toInt)) := decide_eq_decide.mpr (by rw [lt32, d1]; omega)
    have e4 : decide (0 < tnR (sc * x k) (sc * y k) (sc * x (af n k)) (sc * y (af n k)) px py) = decide (0 < tu (sc.toInt * (x k).toInt, sc.toInt * (y k).toInt) (sc.toInt * (x (af n k)).toInt, sc.toInt * (y (af n k)).toInt) (px.toInt, py.toInt)) := decide_eq_decide.mpr (by rw [lt32, z32, tn1.1])
    have e3 : decide (sc * y k < sc * y (af n k)) = decide (sc.toInt * (y k).toInt < sc.toInt * (y (af n k)).toInt) := decide_eq_decide.mpr (by rw [lt32, b1, d1])
    rw [e1, e2, e3, e4]
    generalize decide (0 < tu (sc.toInt * (x k).toInt, sc.toInt * (y k).toInt) (sc.toInt * (x (af n k)).toInt, sc.toInt * (y (af n k)).toInt) (px.toInt, py.toInt)) = w
    generalize sc.toInt * (y k).toInt = u at *
    generalize sc.toInt * (y (af n k)).toInt = u' at *
    by_cases q1 : 0 < 1 * (u - py.toInt) - 0 * (sc.toInt * (x k).toInt - px.toInt) <;> by_cases q2 : 0 < 1 * (u' - py.toInt) - 0 * (sc.toInt * (x (af n k)).toInt - px.toInt)
    · simp only [q1, q2, decide_true]; rfl
    · have q3 : ¬ u < u' := by omega
      simp only [q1, q2, q3, decide_true, decide_false]
    · have q3 : u < u' := by omega
      simp only [q1, q2, q3, decide_true, decide_false]
    · simp only [q1, q2, decide_false]; rfl
theorem plc_eq {n : Nat} {x y : Nat → Int32} (h : rowR n x y) {px py sc : Int32} (hs : sc = 1 ∨ sc = 2) (hx : wB 3000 px) (hy : wB 3000 py) : plcC n x y px py sc = plcR n x y px py sc := plcF_c _ _ _ (fun k h1 h2 => by
  obtain ⟨a, b, -, -⟩ := place_1 h hs hx hy (show k < n by omega)
  exact ⟨a, b⟩)
