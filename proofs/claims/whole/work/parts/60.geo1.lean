/-! plane geometry in whole numbers: turns, sides, crossings of a ray -/
abbrev Pt9 : Type := Int × Int
def tu (a b c : Pt9) : Int := (b.1 - a.1) * (c.2 - a.2) - (b.2 - a.2) * (c.1 - a.1)
/-- d times (A - x) -/
def sid (x d A : Pt9) : Int := d.1 * (A.2 - x.2) - d.2 * (A.1 - x.1)
/-- does the ray from x along d cross AB -/
def crd (x d A B : Pt9) : Bool := (decide (0 < sid x d A) != decide (0 < sid x d B)) && (decide (0 < sid x d B) == decide (0 < tu A B x))
/-- p lies on the closed segment ab -/
def onS (p a b : Pt9) : Prop := ∃ s t : Int, 0 ≤ s ∧ 0 ≤ t ∧ 0 < s + t ∧ (s + t) * p.1 = s * a.1 + t * b.1 ∧ (s + t) * p.2 = s * a.2 + t * b.2
/-- ab and cd cross properly -/
def PX (a b c d : Pt9) : Prop := tu a b c * tu a b d < 0 ∧ tu c d a * tu c d b < 0
theorem mpp {a b : Int} (ha : 0 < a) (hb : 0 < b) : 0 < a * b := Int.mul_pos ha hb
theorem mpn {a b : Int} (ha : 0 ≤ a) (hb : b ≤ 0) : a * b ≤ 0 := Int.mul_nonpos_of_nonneg_of_nonpos ha hb
theorem mnp {a b : Int} (ha : a ≤ 0) (hb : 0 ≤ b) : a * b ≤ 0 := Int.mul_nonpos_of_nonpos_of_nonneg ha hb
theorem mnn {a b : Int} (ha : a ≤ 0) (hb : b ≤ 0) : 0 ≤ a * b := Int.mul_nonneg_of_nonpos_of_nonpos ha hb
theorem mzz {a b : Int} (ha : 0 ≤ a) (hb : 0 ≤ b) : 0 ≤ a * b := Int.mul_nonneg ha hb
/-- all signs of a product -/
theorem sgm (a b : Int) : (0 < a → 0 < b → 0 < a * b) ∧ (0 ≤ a → b ≤ 0 → a * b ≤ 0) ∧ (a ≤ 0 → 0 ≤ b → a * b ≤ 0) ∧ (a ≤ 0 → b ≤ 0 → 0 ≤ a * b) ∧ (0 ≤ a → 0 ≤ b → 0 ≤ a * b) ∧ (a < 0 → 0 < b → a * b < 0) ∧ (0 < a → b < 0 → a * b < 0) ∧ (a < 0 → b < 0 → 0 < a * b) :=
  ⟨mpp, mpn, mnp, mnn, mzz, fun h1 h2 => Int.mul_neg_of_neg_of_pos h1 h2, fun h1 h2 => Int.mul_neg_of_pos_of_neg h1 h2, fun h1 h2 => Int.mul_pos_of_neg_of_neg h1 h2⟩
theorem ray0 {a1 a2 b1 b2 c k : Int} (hk : 0 < k) (e : k * c = a1 * b2 - b1 * a2) (hc : c = 0 → (0 < a1 ↔ 0 < b1) ∧ (0 < a2 ↔ 0 < b2)) : (((decide (0 < a1) != decide (0 < b1)) && (decide (0 < b1) == decide (0 < c))) ^^ ((decide (0 < a2) != decide (0 < b2)) && (decide (0 < b2) == decide (0 < c)))) = ((decide (0 < a1) && !decide (0 < a2)) ^^ (decide (0 < b1) && !decide (0 < b2))) := by
  obtain ⟨p1, p2, p3, p4, p5, p6, p7, p8⟩ := sgm a1 b2
  obtain ⟨q1, q2, q3, q4, q5, q6, q7, q8⟩ := sgm b1 a2
  obtain ⟨r1, r2, -, -, -, -, -, -⟩ := sgm k c
  have hc1 : c = 0 → 0 < a1 → 0 < b1 := fun q => (hc q).1.mp
  have hc2 : c = 0 → 0 < b1 → 0 < a1 := fun q => (hc q).1.mpr
  have hc3 : c = 0 → 0 < a2 → 0 < b2 := fun q => (hc q).2.mp
  have hc4 : c = 0 → 0 < b2 → 0 < a2 := fun q => (hc q).2.mpr
  have r9 : 0 ≤ k * c → 0 ≤ c := fun q => Classical.byContradiction (fun q2 => by have := Int.mul_neg_of_pos_of_neg hk (show c < 0 by omega); omega)
  generalize a1 * b2 = u at *
  generalize b1 * a2 = w at *
  generalize k * c = z at *
  by_cases h1 : 0 < a1 <;> by_cases h2 : 0 < a2 <;> by_cases h3 : 0 < b1 <;> by_cases h4 : 0 < b2 <;> by_cases h5 : 0 < c <;> simp only [h1, h2, h3, h4, h5, decide_true, decide_false] <;> first | rfl | (exfalso; omega)
theorem tu_k (x h d A B : Pt9) : (h.1 * d.2 - h.2 * d.1) * tu A B x = sid x h A * sid x d B - sid x h B * sid x d A := by
  unfold tu sid
  grind
theorem sd_v (x d A B : Pt9) : sid x d B * (A.1 - x.1) - sid x d A * (B.1 - x.1) = tu A B x * d.1 ∧ sid x d B * (A.2 - x.2) - sid x d A * (B.2 - x.2) = tu A B x * d.2 := by
  unfold sid tu
  constructor <;> grind
theorem on_c {x A B : Pt9} (h : ¬ onS x A B) (hc : tu A B x = 0) (d : Pt9) : 0 < sid x d A ↔ 0 < sid x d B := by
  obtain ⟨e1, e2⟩ := sd_v x d A B
  rw [hc] at e1 e2
  constructor
  · intro ha
    refine Classical.byContradiction (fun hb => h ⟨- sid x d B, sid x d A, by omega, by omega, by omega, ?_, ?_⟩)
    · grind
    · grind
  · intro hb
    refine Classical.byContradiction (fun ha => h ⟨sid x d B, - sid x d A, by omega, by omega, by omega, ?_, ?_⟩)
    · grind
    · grind
theorem ray1 {x h d : Pt9} (hk : 0 < h.1 * d.2 - h.2 * d.1) {A B : Pt9} (hx : ¬ onS x A B) : (crd x h A B ^^ crd x d A B) = ((decide (0 < sid x h A) && !decide (0 < sid x d A)) ^^ (decide (0 < sid x h B) && !decide (0 < sid x d B))) := ray0 hk (tu_k x h d A B) (fun q => ⟨on_c hx q h, on_c hx q d⟩)
/-- xor of the first m -/
def xs9 (f : Nat → Bool) : Nat → Bool
  | 0 => false
  | t + 1 => xs9 f t ^^ f t
theorem xs_c {f g : Nat → Bool} : ∀ m, (∀ t, t < m → f t = g t) → xs9 f m = xs9 g m
  | 0, _ => rfl
  | m + 1, h => by rw [xs9, xs9, xs_c m (fun t ht => h t (by omega)), h m (by omega)]
theorem xs_0 {f : Nat → Bool} (m : Nat) (h : ∀ t, t < m → f t = false) : xs9 f m = false := by
  induction m with
  | zero => rfl
  | succ m ih => rw [xs9, ih (fun t ht => h t (by omega)), h m (by omega)]; rfl
theorem xs_x {f g : Nat → Bool} : ∀ m, xs9 (fun t => f t ^^ g t) m = (xs9 f m ^^ xs9 g m)
  | 0 => rfl
  | m + 1 => by
    rw [xs9, xs9, xs9, xs_x m]
    cases xs9 f m <;> cases xs9 g m <;> cases f m <;> cases g m <;> rfl
theorem xs_t {w : Nat → Bool} : ∀ m, xs9 (fun t => w t ^^ w (t + 1)) m = (w 0 ^^ w m)
  | 0 => by rw [xs9]; cases w 0 <;> rfl
  | m + 1 => by
    rw [xs9, xs_t m]
    cases w 0 <;> cases w m <;> cases w (m + 1) <;> rfl
theorem xs_s {f : Nat → Bool} : ∀ m, (f 0 ^^ xs9 (fun t => f (t + 1)) m) = xs9 f (m + 1)
  | 0 => by rw [xs9, xs9, xs9]; cases f 0 <;> rfl
  | m + 1 => by
    rw [xs9, xs9, ← xs_s m]
    cases f 0 <;> cases xs9 (fun t => f (t + 1)) m <;> cases f (m + 1) <;> rfl
theorem xs_a {f : Nat → Bool} (a : Nat) : ∀ b, xs9 f (a + b) = (xs9 f a ^^ xs9 (fun t => f (a + t)) b)
  | 0 => by rw [xs9, Nat.add_zero]; cases xs9 f a <;> rfl
  | b + 1 => by
    rw [← Nat.add_assoc, xs9, xs9, xs_a a b]
    cases xs9 f a <;> cases xs9 (fun t => f (a + t)) b <;> cases f (a + b) <;> rfl
/-- parity of the crossings of a ray with a closed polygon -/
def par (x d : Pt9) (p : Nat → Pt9) (m : Nat) : Bool := xs9 (fun t => crd x d (p t) (p (t + 1))) m
theorem par_ray {x h d : Pt9} (hk : 0 < h.1 * d.2 - h.2 * d.1) {p : Nat → Pt9} {m : Nat} (hc : p m = p 0) (hx : ∀ t, t < m → ¬ onS x (p t) (p (t + 1))) : par x h p m = par x d p m := by
  have h1 : (par x h p m ^^ par x d p m) = false := by
    unfold par
    rw [← xs_x, xs_c m (fun t ht => ray1 hk (hx t ht)), xs_t (w := fun t => decide (0 < sid x h (p t)) && !decide (0 < sid x d (p t))), hc]
    exact Bool.xor_self _
  cases h2 : par x h p m <;> cases h3 : par x d p m <;> rw [h2, h3] at h1 <;> first | rfl | cases h1
theorem sq_pos {a b : Int} (h : ¬ (a = 0 ∧ b = 0)) : 0 < a * a + b * b := by
  have h1 : 0 ≤ a * a := by rcases Int.le_total 0 a with q | q; exact mzz q q; exact mnn q q
  have h2 : 0 ≤ b * b := by rcases Int.le_total 0 b with q | q; exact mzz q q; exact mnn q q
  by_cases ha : a = 0
  · have hb : b ≠ 0 := fun q => h ⟨ha, q⟩
    have : 0 < b * b := by rcases Int.lt_or_gt_of_ne hb with q | q; exact Int.mul_pos_of_neg_of_neg q q; exact mpp q q
    omega
  · have : 0 < a * a := by rcases Int.lt_or_gt_of_ne ha with q | q; exact Int.mul_pos_of_neg_of_neg q q; exact mpp q q
    omega
/-- the ray's direction is free -/
theorem par_d {x h d : Pt9} (hh : ¬ (h.1 = 0 ∧ h.2 = 0)) (hd : ¬ (d.1 = 0 ∧ d.2 = 0)) {p : Nat → Pt9} {m : Nat} (hc : p m = p 0) (hx : ∀ t, t < m → ¬ onS x (p t) (p (t + 1))) : par x h p m = par x d p m := by
  rcases Int.lt_trichotomy 0 (h.1 * d.2 - h.2 * d.1) with q | q | q
  · exact par_ray q hc hx
  · have h1 : par x h p m = par x (-h.2, h.1) p m := par_ray (d := (-h.2, h.1)) (by have := sq_pos hh; show 0 < h.1 * h.1 - h.2 * (-h.2); grind) hc hx
    rw [h1]
    rcases Int.lt_trichotomy 0 (h.1 * d.1 + h.2 * d.2) with r | r | r
    · exact (par_ray (h := d) (d := (-h.2, h.1)) (by show 0 < d.1 * h.1 - d.2 * (-h.2); grind) hc hx).symm
    · exfalso
      have h2 : (h.1 * h.1 + h.2 * h.2) * d.1 = 0 := by grind
      have h3 : (h.1 * h.1 + h.2 * h.2) * d.2 = 0 := by grind
      have h4 := sq_pos hh
      exact hd ⟨(Int.mul_eq_zero.mp h2).resolve_left (by omega), (Int.mul_eq_zero.mp h3).resolve_left (by omega)⟩
    · exact par_ray (h := (-h.2, h.1)) (d := d) (by show 0 < (-h.2) * d.2 - h.1 * d.1; grind) hc hx
  · exact (par_ray (h := d) (d := h) (by grind) hc hx).symm
def vec (a b : Pt9) : Pt9 := (b.1 - a.1, b.2 - a.2)
