/-- the tables of a polygon, by recursion over the width -/
def rt (J : Nat → Nat → Int32) : Nat → Nat → Nat → Int32 × Int32
  | 0, _, _ => (0, -1)
  | d + 1, i, j => if j = i + 1 then (1, 0) else pcS J (fun a b => (rt J d a b).1) (fun a b => (rt J d a b).2) i j (j - i - 1)
theorem rt_f {J : Nat → Nat → Int32} : ∀ d d' i j, i < j → j - i ≤ d → j - i ≤ d' → rt J d i j = rt J d' i j
  | 0, _, i, j, h, h1, _ => by omega
  | _, 0, i, j, h, _, h2 => by omega
  | d + 1, d' + 1, i, j, h, h1, h2 => by
    rw [rt, rt]
    by_cases q : j = i + 1
    · rw [if_pos q, if_pos q]
    · rw [if_neg q, if_neg q]
      refine pcS_c _ (fun k k1 k2 => ?_)
      have e1 := rt_f (J := J) d d' i k (by omega) (by omega) (by omega)
      have e2 := rt_f (J := J) d d' k j (by omega) (by omega) (by omega)
      exact ⟨⟨rfl, rfl⟩, ⟨by rw [e1], by rw [e2]⟩, by rw [e1], by rw [e2]⟩
def cJ (n : Nat) (x y : Nat → Int32) : Nat → Nat → Int32 := jnA n x y
def cW (n : Nat) (x y : Nat → Int32) (i j : Nat) : Int32 := (rt (cJ n x y) n i j).1
def cS (n : Nat) (x y : Nat → Int32) (i j : Nat) : Int32 := (rt (cJ n x y) n i j).2
theorem c_DPr {n : Nat} {x y : Nat → Int32} (h3 : 3 ≤ n) : DPr n (cJ n x y) (cW n x y) (cS n x y) := by
  refine ⟨fun i hi => ?_, fun i j h1 h2 => ?_⟩
  · unfold cW cS
    obtain ⟨m, rfl⟩ : ∃ m, n = m + 1 := ⟨n - 1, by omega⟩
    rw [rt, if_pos rfl]
    exact ⟨rfl, rfl⟩
  · show rt (cJ n x y) n i j = _
    have e : rt (cJ n x y) n i j = rt (cJ n x y) (n + 1) i j := rt_f n (n + 1) i j (by omega) (by omega) (by omega)
    rw [e, rt, if_neg (by omega)]
    rfl
theorem dpr_u {n : Nat} {J W S J' W' S' : Nat → Nat → Int32} (hJ : ∀ i j, i < j → j < n → J i j = J' i j) (h : DPr n J W S) (h' : DPr n J' W' S') : ∀ w i j, i < j → j < n → j - i ≤ w → W i j = W' i j ∧ S i j = S' i j
  | 0, i, j, h1, _, h3 => by omega
  | w + 1, i, j, h1, h2, h3 => by
    rcases Nat.lt_or_ge (i + 1) j with q | q
    · have e1 := h.2 i j (by omega) h2
      have e2 := h'.2 i j (by omega) h2
      have e3 : pcS J W S i j (j - i - 1) = pcS J' W' S' i j (j - i - 1) := pcS_c _ (fun k k1 k2 => by
        have a1 := dpr_u hJ h h' w i k k1 (by omega) (by omega)
        have a2 := dpr_u hJ h h' w k j (by omega) h2 (by omega)
        exact ⟨⟨hJ i k k1 (by omega), hJ k j (by omega) h2⟩, ⟨a1.1, a2.1⟩, a1.2, a2.2⟩)
      rw [e3, ← e2] at e1
      exact ⟨congrArg Prod.fst e1, congrArg Prod.snd e1⟩
    · obtain rfl : j = i + 1 := by omega
      rw [(h.1 i h2).1, (h.1 i h2).2, (h'.1 i h2).1, (h'.1 i h2).2]
      exact ⟨rfl, rfl⟩
theorem trF_c {n : Nat} {J S J' S' : Nat → Nat → Int32} (hJ : ∀ i j, i < j → j < n → J i j = J' i j) (hS : ∀ i j, i < j → j < n → S i j = S' i j) {i j : Nat} (h1 : i < j) (h2 : j < n) : trF J S i j = trF J' S' i j := by
  unfold trF
  rw [fndN_c (q := trP J' S' i j)]
  intro k k1 k2
  unfold trP sbF
  rw [hJ i k (by omega) (by omega), hJ k j k2 h2, hS i k (by omega) (by omega), hS k j k2 h2, hS i j h1 h2]
theorem trl_c {n : Nat} {T T' : Nat → Nat → Nat} (hok : okT T n) (h : ∀ i j, i + 2 ≤ j → j < n → T i j = T' i j) : ∀ d i j, j < n → trl T d i j = trl T' d i j
  | 0, i, j, _ => rfl
  | d + 1, i, j, hj => by
    rw [trl, trl]
    by_cases q : j ≤ i + 1
    · rw [if_pos q, if_pos q]
    · obtain ⟨o1, o2⟩ := hok i j (by omega) hj
      rw [if_neg q, if_neg q, ← h i j (by omega) hj, trl_c hok h d i (T i j) (by omega), trl_c hok h d (T i j) j hj]
/-- third corners, triangles, diagonals of a polygon -/
def cT (n : Nat) (x y : Nat → Int32) : Nat → Nat → Nat := trF (cJ n x y) (cS n x y)
def cL (n : Nat) (x y : Nat → Int32) : List (Nat × Nat × Nat) := trl (cT n x y) n 0 (n - 1)
theorem c_okT {n : Nat} {x y : Nat → Int32} (h3 : 3 ≤ n) : okT (cT n x y) n := fun i j h1 h2 => tr_lt (W := cW n x y) h1 (congrArg Prod.snd ((c_DPr h3).2 i j h1 h2))
theorem sq_i {n : Nat} {x y : Nat → Int32} (h : rowR n x y) {i j : Nat} (hi : i < n) (hj : j < n) : (sq9 x y i j).toInt = ((x j).toInt - (x i).toInt) * ((x j).toInt - (x i).toInt) + ((y j).toInt - (y i).toInt) * ((y j).toInt - (y i).toInt) ∧ 0 ≤ (sq9 x y i j).toInt ∧ (sq9 x y i j).toInt ≤ 8000000 := by
  obtain ⟨a1, a2⟩ := h.2.2 i hi
  obtain ⟨b1, b2⟩ := h.2.2 j hj
  unfold wB at *
  have s1 := s32 (a := x j) (b := x i) rfl rfl (by omega) (by omega)
  have s2 := s32 (a := y j) (b := y i) rfl rfl (by omega) (by omega)
  have m1 := mulb (A := 2000) (B := 2000) (show -2000 ≤ (x j).toInt - (x i).toInt by omega) (by omega) (show -2000 ≤ (x j).toInt - (x i).toInt by omega) (by omega)
  have m2 := mulb (A := 2000) (B := 2000) (show -2000 ≤ (y j).toInt - (y i).toInt by omega) (by omega) (show -2000 ≤ (y j).toInt - (y i).toInt by omega) (by omega)
  have n1 : 0 ≤ ((x j).toInt - (x i).toInt) * ((x j).toInt - (x i).toInt) := by rcases Int.le_total 0 ((x j).toInt - (x i).toInt) with q | q; exact mzz q q; exact mnn q q
  have n2 : 0 ≤ ((y j).toInt - (y i).toInt) * ((y j).toInt - (y i).toInt) := by rcases Int.le_total 0 ((y j).toInt - (y i).toInt) with q | q; exact mzz q q; exact mnn q q
  have e1 := m32 s1 s1 (by omega) (by omega)
  have e2 := m32 s2 s2 (by omega) (by omega)
  have e3 := a32 e1 e2 (by omega) (by omega)
  have e4 : (sq9 x y i j).toInt = ((x j).toInt - (x i).toInt) * ((x j).toInt - (x i).toInt) + ((y j).toInt - (y i).toInt) * ((y j).toInt - (y i).toInt) := e3
  rw [e4]
  exact ⟨rfl, by omega, by omega⟩
theorem c_okS {n : Nat} {x y : Nat → Int32} (h : rowR n x y) : okS n (sightR n x y) (sq9 x y) := by
  refine ⟨fun i j h1 h2 => ⟨sight_v i j, (sq_i h (by omega) h2).2⟩, fun i hi => ?_⟩
  unfold sightR
  rw [if_pos (Or.inl (af_s hi))]
/-- the class's tables, whatever they held before -/
def spT (n : Nat) (s q W S : Nat → Nat → Int32) (i j : Nat) : Int32 := (spF W S (s i j) (q i j) i j).2.2
/-- a table for the class, made of the reference's -/
theorem dpc_ex {n : Nat} {s q : Nat → Nat → Int32} : ∃ W S T : Nat → Nat → Int32, DPc n s q W S T := by
  -- by recursion over the width, as above
  have ex : ∃ R : Nat → Nat → Nat → T3, (∀ d i j, R (d + 1) i j = if j = i + 1 then (1, 0, 0) else spF (fun a b => (R d a b).1) (fun a b => (R d a b).2.1) (s i j) (q i j) i j) := by
    refine ⟨fun d => Nat.rec (motive := fun _ => Nat → Nat → T3) (fun _ _ => (0, 0, 0)) (fun _ R i j => if j = i + 1 then (1, 0, 0) else spF (fun a b => (R a b).1) (fun a b => (R a b).2.1) (s i j) (q i j) i j) d, fun d i j => rfl⟩
  obtain ⟨R, hR⟩ := ex
  have hf : ∀ d d' i j, i < j → j - i ≤ d → j - i ≤ d' → R d i j = R d' i j := by
    intro d
    induction d with
    | zero => intro d' i j h h1 _; omega
    | succ d ih =>
      intro d' i j h h1 h2
      obtain ⟨e, rfl⟩ : ∃ e, d' = e + 1 := ⟨d' - 1, by omega⟩
      rw [hR, hR]
      by_cases z : j = i + 1
      · rw [if_pos z, if_pos z]
      · rw [if_neg z, if_neg z]
        refine spF_c (fun k k1 k2 => ?_)
        have e1 := ih e i k (by omega) (by omega) (by omega)
        have e2 := ih e k j (by omega) (by omega) (by omega)
        exact ⟨by rw [e1], by rw [e2], by rw [e1], by rw [e2]⟩
  refine ⟨fun i j => (R (n + 1) i j).1, fun i j => (R (n + 1) i j).2.1, fun i j => (R (n + 1) i j).2.2, fun i hi => ?_, fun i j h1 h2 => ?_⟩
  · show (R (n + 1) i (i + 1)).1 = 1 ∧ (R (n + 1) i (i + 1)).2.1 = 0
    rw [hR, if_pos rfl]
    exact ⟨rfl, rfl⟩
  · show R (n + 1) i j = _
    rw [hf (n + 1) (n + 1 + 1) i j (by omega) (by omega) (by omega), hR, if_neg (by omega)]
/-- a simple polygon's whole span has a triangulation -/
theorem c_reach {n : Nat} {x y : Nat → Int32} (h : rowR n x y) (hf : noF n x y) (hm : noM n x y) : cS n x y 0 (n - 1) ≠ -1 := by
  have h3 := h.1
  have h14 := h.2.1
  obtain ⟨o, -, d, hR⟩ := TRI (env h hf hm) (P0 := Q0 n x y) (fun i => rfl)
  obtain ⟨W, S, T, hc⟩ := dpc_ex (n := n) (s := sightR n x y) (q := sq9 x y)
  have key : ∀ d i j, i < j → j < n → Rr (Q2 n x y) (Q0 n x y) n o (fun i j => j = i + 1) d i j → cS n x y i j ≠ -1 := by
    intro d
    induction d with
    | zero =>
      intro i j h1 h2 hr
      have hr : j = i + 1 := hr
      rw [hr] at h2 ⊢
      rw [((c_DPr h3).1 i h2).2]
      decide
    | succ d ih =>
      intro i j h1 h2 hr
      rcases hr with hr | ⟨k, k1, k2, k3, k4, -, k5, k6⟩
      · rw [hr] at h2 ⊢
        rw [((c_DPr h3).1 i h2).2]
        decide
      · have s1 := okc_sight h hf hm k1 (by omega) k3
        have s2 := okc_sight h hf hm k2 h2 k4
        exact dp_none h14 (c_okS h) (fun i j _ _ => rfl) hc (c_DPr h3) k1 k2 h2 (by rcases s1 with q | q <;> rw [q] <;> decide) (by rcases s2 with q | q <;> rw [q] <;> decide) (ih i k k1 (by omega) k5) (ih k j k2 h2 k6)
  exact key d 0 (n - 1) (by omega) (by omega) hR
theorem near_top {n : Nat} {x y : Nat → Int32} (h3 : 3 ≤ n) : sightR n x y 0 (n - 1) = 2 := by
  unfold sightR
  rw [if_pos (Or.inr (af_last (by omega)))]
