theorem jnR_iff {I K J : Nat → Nat} : ∀ (t a b : Nat), jnR I K J t a b = true ↔ 1 < b - a ∧ ∃ e, e < t ∧ ((a = K e ∧ b = J e) ∨ (a = I e ∧ b = K e))
  | 0, a, b => ⟨fun h => (by cases h), fun ⟨_, e, h, _⟩ => absurd h (Nat.not_lt_zero _)⟩
  | t + 1, a, b => by
    show (if a = K t ∧ b = J t then decide (1 < J t - K t) else if a = I t ∧ b = K t then decide (1 < K t - I t) else jnR I K J t a b) = true ↔ _
    by_cases q : a = K t ∧ b = J t
    · rw [if_pos q, decide_eq_true_eq, ← q.1, ← q.2]
      exact ⟨fun h => ⟨h, t, by omega, Or.inl q⟩, fun h => h.1⟩
    · rw [if_neg q]
      by_cases q2 : a = I t ∧ b = K t
      · rw [if_pos q2, decide_eq_true_eq, ← q2.1, ← q2.2]
        exact ⟨fun h => ⟨h, t, by omega, Or.inr q2⟩, fun h => h.1⟩
      · rw [if_neg q2, jnR_iff t a b]
        refine and_congr Iff.rfl ⟨fun ⟨e, h1, h2⟩ => ⟨e, by omega, h2⟩, fun ⟨e, h1, h2⟩ => ?_⟩
        rcases Nat.lt_or_ge e t with w | w
        · exact ⟨e, w, h2⟩
        · rw [show e = t by omega] at h2
          exact absurd h2 (fun z => z.elim q q2)
theorem J2_iff {S : Nat → Nat → Int32} {A B : Nat → Nat} : ∀ (t a b : Nat), J2 S A B t a b = 1 ↔ S a b = 2 ∨ ∃ u, u < t ∧ u ≠ 0 ∧ ((a = A u ∧ b = B u) ∨ (a = B u ∧ b = A u))
  | 0, a, b => by
    show bI (decide (S a b = 2)) = 1 ↔ _
    by_cases q : S a b = 2
    · rw [decide_eq_true q]; exact ⟨fun _ => Or.inl q, fun _ => rfl⟩
    · rw [decide_eq_false q]; exact ⟨fun z => absurd z (by decide), fun z => z.elim (fun w => absurd w q) (fun ⟨u, h, _⟩ => absurd h (Nat.not_lt_zero _))⟩
  | t + 1, a, b => by
    rw [J2_s]
    by_cases q : t ≠ 0 ∧ ((a = A t ∧ b = B t) ∨ (a = B t ∧ b = A t))
    · rw [if_pos q]
      exact ⟨fun _ => Or.inr ⟨t, by omega, q.1, q.2⟩, fun _ => rfl⟩
    · rw [if_neg q, J2_iff t a b]
      refine or_congr Iff.rfl ⟨fun ⟨u, h1, h2⟩ => ⟨u, by omega, h2⟩, fun ⟨u, h1, h2, h3⟩ => ?_⟩
      rcases Nat.lt_or_ge u t with w | w
      · exact ⟨u, w, h2, h3⟩
      · rw [show u = t by omega] at h2 h3
        exact absurd ⟨h2, h3⟩ q
/-- the first triangle of a span -/
theorem trl_cons {T : Nat → Nat → Nat} {n : Nat} (hT : okT T n) {i j : Nat} (h : trl T n i j ≠ []) (hj : j < n) : i + 2 ≤ j := by
  refine Classical.byContradiction (fun q => h (trl_e (by omega)))
theorem tail_child {T : Nat → Nat → Nat} {n : Nat} (hT : okT T n) : ∀ (d i j : Nat), j - i ≤ d → j < n → ∀ s ∈ ((trl T n i j).tail).map spn, 1 < s.2 - s.1 ∧ ∃ e ∈ trl T n i j, (s.1 = e.1 ∧ s.2 = e.2.1) ∨ (s.1 = e.2.1 ∧ s.2 = e.2.2)
  | 0, i, j, h, hj, s, hs => by
    rw [trl_e (by omega)] at hs
    cases hs
  | d + 1, i, j, h, hj, s, hs => by
    rcases Nat.lt_or_ge j (i + 2) with z | z
    · rw [trl_e (by omega)] at hs
      cases hs
    · obtain ⟨h1, h2⟩ := hT i j z hj
      have e := trl_s hT z hj
      generalize hk : T i j = k at *
      have root : (i, k, j) ∈ trl T n i j := by rw [e]; exact List.mem_cons_self
      have inl : ∀ q ∈ trl T n i k, q ∈ trl T n i j := fun q hq => by rw [e]; exact List.mem_cons_of_mem _ (List.mem_append_left _ hq)
      have inr : ∀ q ∈ trl T n k j, q ∈ trl T n i j := fun q hq => by rw [e]; exact List.mem_cons_of_mem _ (List.mem_append_right _ hq)
      have part : ∀ a b, a < b → b - a ≤ d → b < n → (∀ q ∈ trl T n a b, q ∈ trl T n i j) → ((a = i ∧ b = k) ∨ (a = k ∧ b = j)) → s ∈ (trl T n a b).map spn → 1 < s.2 - s.1 ∧ ∃ e ∈ trl T n i j, (s.1 = e.1 ∧ s.2 = e.2.1) ∨ (s.1 = e.2.1 ∧ s.2 = e.2.2) := fun a b hab hd hb hin hor hsm => by
        have hab2 : a + 2 ≤ b := by
          rcases Nat.lt_or_ge b (a + 2) with w | w
          · rw [trl_e (by omega)] at hsm
            cases hsm
          · exact w
        have eab := trl_s hT hab2 hb
        have ht := tail_child hT d a b (by omega) hb s
        rw [eab, List.map_cons] at hsm
        rcases List.mem_cons.mp hsm with w | w
        · have w1 : s.1 = a := by rw [w]; rfl
          have w2 : s.2 = b := by rw [w]; rfl
          refine ⟨by omega, (i, k, j), root, ?_⟩
          rcases hor with ⟨o1, o2⟩ | ⟨o1, o2⟩
          · exact Or.inl ⟨by rw [w1, o1], by rw [w2, o2]⟩
          · exact Or.inr ⟨by rw [w1, o1], by rw [w2, o2]⟩
        · rw [eab, List.tail_cons] at ht
          rw [← eab] at ht
          obtain ⟨c1, e', c2, c3⟩ := ht w
          exact ⟨c1, e', hin e' c2, c3⟩
      rw [e, List.tail_cons, List.map_append] at hs
      rcases List.mem_append.mp hs with w | w
      · exact part i k (by omega) (by omega) (by omega) inl (Or.inl ⟨rfl, rfl⟩) w
      · exact part k j (by omega) (by omega) hj inr (Or.inr ⟨rfl, rfl⟩) w
theorem mem_at {l : List (Nat × Nat × Nat)} {e : Nat × Nat × Nat} (h : e ∈ l) : ∃ t, t < l.length ∧ e = (lI l t, lK l t, lJ l t) := by
  obtain ⟨t, ht, rfl⟩ := List.mem_iff_getElem.mp h
  refine ⟨t, ht, ?_⟩
  have := l_at (l := l) ht
  rw [List.getElem?_eq_getElem ht] at this
  exact Option.some.inj this
/-- joined pairs are the spans behind the first -/
theorem jn_tail {T : Nat → Nat → Nat} {n : Nat} (hT : okT T n) (h3 : 3 ≤ n) (a b : Nat) : jnR (lI (trl T n 0 (n - 1))) (lK (trl T n 0 (n - 1))) (lJ (trl T n 0 (n - 1))) (n - 2) a b = true ↔ (a, b) ∈ ((trl T n 0 (n - 1)).tail).map spn := by
  constructor
  · exact jn_spn hT h3
  · intro h
    obtain ⟨c1, e, c2, c3⟩ := tail_child hT n 0 (n - 1) (by omega) (by omega) _ h
    have hl := trl_len hT n 0 (n - 1) (by omega) (by omega)
    obtain ⟨t, t1, rfl⟩ := mem_at c2
    rw [jnR_iff]
    exact ⟨c1, t, by omega, c3.symm⟩
theorem spn_nodup {T : Nat → Nat → Nat} {n : Nat} (hT : okT T n) : ∀ (d i j : Nat), j - i ≤ d → j < n → ((trl T n i j).map spn).Nodup
  | 0, i, j, h, hj => by rw [trl_e (by omega)]; exact List.nodup_nil
  | d + 1, i, j, h, hj => by
    rcases Nat.lt_or_ge j (i + 2) with z | z
    · rw [trl_e (by omega)]; exact List.nodup_nil
    · obtain ⟨h1, h2⟩ := hT i j z hj
      rw [trl_s hT z hj]
      generalize T i j = k at *
      have in1 : ∀ s ∈ (trl T n i k).map spn, i ≤ s.1 ∧ s.2 ≤ k ∧ s.1 + 2 ≤ s.2 := fun s hs => by
        obtain ⟨e, e1, rfl⟩ := List.mem_map.mp hs
        obtain ⟨a1, a2, a3, a4, -⟩ := trl_in hT n i k (by omega) (by omega) e e1
        exact ⟨a1, a4, by show e.1 + 2 ≤ e.2.2; omega⟩
      have in2 : ∀ s ∈ (trl T n k j).map spn, k ≤ s.1 ∧ s.2 ≤ j ∧ s.1 + 2 ≤ s.2 := fun s hs => by
        obtain ⟨e, e1, rfl⟩ := List.mem_map.mp hs
        obtain ⟨a1, a2, a3, a4, -⟩ := trl_in hT n k j (by omega) hj e e1
        exact ⟨a1, a4, by show e.1 + 2 ≤ e.2.2; omega⟩
      rw [List.map_cons, List.map_append]
      refine List.nodup_cons.mpr ⟨fun q => ?_, List.nodup_append.mpr ⟨spn_nodup hT d i k (by omega) (by omega), spn_nodup hT d k j (by omega) hj, fun s hs s' hs' e => ?_⟩⟩
      · rcases List.mem_append.mp q with w | w
        · have := (in1 _ w).2.1
          have : j ≤ k := this
          omega
        · have := (in2 _ w).1
          have : k ≤ i := this
          omega
      · have a := in1 s hs
        have b := in2 s' hs'
        rw [← e] at b
        omega
theorem dl_c {c c' : Nat → Nat → Bool} {n : Nat} (h : ∀ a b, a < b → b < n → c a b = c' a b) : dl c n = dl c' n := by
  have hJ : ∀ e i j, i < j → j + e ≤ n → dlJ c i j e = dlJ c' i j e := by
    intro e
    induction e with
    | zero => intro i j _ _; rfl
    | succ e ih => intro i j h1 h2; rw [dlJ, dlJ, h i j h1 (by omega), ih i (j + 1) (by omega) (by omega)]
  have hI : ∀ e i, i + e ≤ n → dlI c n i e = dlI c' n i e := by
    intro e
    induction e with
    | zero => intro i _; rfl
    | succ e ih => intro i h1; rw [dlI, dlI, hJ _ i (i + 1) (by omega) (by omega), ih (i + 1) (by omega)]
  exact hI n 0 (by omega)
/-- the diagonals of the best triangulation -/
def cD (n : Nat) (x y : Nat → Int32) : List (Nat × Nat) := dl (jnR (lI (cL n x y)) (lK (cL n x y)) (lJ (cL n x y)) (n - 2)) n
theorem cD_len {n : Nat} {x y : Nat → Int32} (h3 : 3 ≤ n) : (cD n x y).length = n - 3 := by
  have hT := c_okT (x := x) (y := y) h3
  have hl := trl_len hT n 0 (n - 1) (by omega) (by omega)
  have hle := dl_len hT h3
  have hge : (((cL n x y).tail).map spn).length ≤ (cD n x y).length := by
    refine List.Nodup.length_le_of_subset ?_ (fun s hs => ?_)
    · have hn := spn_nodup hT n 0 (n - 1) (by omega) (by omega)
      show ((trl (cT n x y) n 0 (n - 1)).tail.map spn).Nodup
      rw [List.map_tail]
      generalize (trl (cT n x y) n 0 (n - 1)).map spn = l at hn
      cases l with
      | nil => exact List.nodup_nil
      | cons a l => exact (List.nodup_cons.mp hn).2
    · have hm := (jn_tail hT h3 s.1 s.2).mpr hs
      obtain ⟨e, e1, e2⟩ := List.mem_map.mp hs
      obtain ⟨a1, a2, a3, a4, -⟩ := trl_in hT n 0 (n - 1) (by omega) (by omega) e (List.mem_of_mem_tail e1)
      exact mem_dl.mpr ⟨by rw [← e2]; show e.1 < e.2.2; omega, by rw [← e2]; show e.2.2 < n; omega, hm⟩
  rw [List.length_map, List.length_tail] at hge
  have hl' : (cL n x y).length = n - 1 - 0 - 1 := hl
  have hle' : (cD n x y).length ≤ n - 3 := hle
  omega
