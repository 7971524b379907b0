theorem in_X6_layDiagonals_X6 : ∀ w ∈ wsX60, w ∈ wsX6_layDiagonals := by decide +kernel
theorem lk_X6_layDiagonals_163 : Cond.fieldLink RX6 163 "PolyCutsModel" "diagonals" "I" ∈ wsX6_layDiagonals := by decide +kernel
theorem lk_X6_layDiagonals_62 : Cond.fieldLink RX6 62 "PolyCutsModel" "stays" "[Z" ∈ wsX6_layDiagonals := by decide +kernel
theorem lk_X6_layDiagonals_56 : Cond.fieldLink RX6 56 "PolyCutsModel" "diagonalA" "[I" ∈ wsX6_layDiagonals := by decide +kernel
theorem lk_X6_layDiagonals_59 : Cond.fieldLink RX6 59 "PolyCutsModel" "diagonalB" "[I" ∈ wsX6_layDiagonals := by decide +kernel
theorem lk_X6_layDiagonals_16 : Cond.fieldLink RX6 16 "PolyCutsModel" "corners" "[I" ∈ wsX6_layDiagonals := by decide +kernel
theorem lk_X6_layDiagonals_66 : Cond.fieldLink RX6 66 "PolyCutsModel" "isJoined" "[Z" ∈ wsX6_layDiagonals := by decide +kernel
theorem lk_X6_layDiagonals_157 : Cond.fieldLink RX6 157 "PolyCutsModel" "triangles" "I" ∈ wsX6_layDiagonals := by decide +kernel
theorem lk_X6_layDiagonals_44 : Cond.fieldLink RX6 44 "PolyCutsModel" "triangleI" "[I" ∈ wsX6_layDiagonals := by decide +kernel
theorem lk_X6_layDiagonals_47 : Cond.fieldLink RX6 47 "PolyCutsModel" "triangleK" "[I" ∈ wsX6_layDiagonals := by decide +kernel
theorem lk_X6_layDiagonals_50 : Cond.fieldLink RX6 50 "PolyCutsModel" "triangleJ" "[I" ∈ wsX6_layDiagonals := by decide +kernel
def lA (l : List (Nat × Nat)) (d : Nat) : Nat := (l[d]?.getD (0, 0)).1
def lB (l : List (Nat × Nat)) (d : Nat) : Nat := (l[d]?.getD (0, 0)).2
/-- which spans are joined, after t triangles -/
def jnR (I K J : Nat → Nat) : Nat → Nat → Nat → Bool
  | 0 => fun _ _ => false
  | t + 1 => fun a b => if a = K t ∧ b = J t then decide (1 < J t - K t) else if a = I t ∧ b = K t then decide (1 < K t - I t) else jnR I K J t a b
def D0 (σ τ : Sg) (k : Nat) : Prop := (∀ x, x ≠ 47 → τ x = σ x) ∧ ∀ f, f < k → τ 47 0 f = 0
theorem d0_s {σ τ τ' : Sg} {k : Nat} (h : D0 σ τ k) (e : τ' = sgu τ 47 0 k 0) : D0 σ τ' (k + 1) := by
  refine ⟨fun x hx => by rw [e, sgu_kk hx, h.1 x hx], fun f hf => ?_⟩
  by_cases q : f = k
  · rw [e, q, sgu_self]
  · rw [e, sgu_f q]; exact h.2 f (by omega)
def D1 (σ τ : Sg) (I K J : Nat → Nat) (t : Nat) : Prop := (∀ x, x ≠ 47 → τ x = σ x) ∧ ∀ a b, a < 14 → b < 14 → tb9 τ 47 a b = bI (jnR I K J t a b)
theorem d1_0 {σ τ : Sg} {I K J : Nat → Nat} {k : Nat} (hk : 196 ≤ k) (h : D0 σ τ k) : D1 σ τ I K J 0 := ⟨h.1, fun a b ha hb => h.2 (14 * a + b) (by omega)⟩
theorem d1_s {σ τ τ1 τ2 : Sg} {I K J : Nat → Nat} {t : Nat} (hK : K t < 14) (hJ : J t < 14) (h : D1 σ τ I K J t) (e1 : τ1 = sgu τ 47 0 (14 * I t + K t) (bI (decide (1 < K t - I t)))) (e2 : τ2 = sgu τ1 47 0 (14 * K t + J t) (bI (decide (1 < J t - K t)))) : D1 σ τ2 I K J (t + 1) := by
  refine ⟨fun x hx => by rw [e2, sgu_kk hx, e1, sgu_kk hx, h.1 x hx], fun a b ha hb => ?_⟩
  show _ = bI (if a = K t ∧ b = J t then decide (1 < J t - K t) else if a = I t ∧ b = K t then decide (1 < K t - I t) else jnR I K J t a b)
  by_cases q : a = K t ∧ b = J t
  · rw [if_pos q, e2, q.1, q.2]; exact sgu_self
  · rw [if_neg q, e2, tb_o hb hJ q]
    by_cases q2 : a = I t ∧ b = K t
    · rw [if_pos q2, e1, q2.1, q2.2]; exact sgu_self
    · rw [if_neg q2, e1, tb_o hb hK q2]; exact h.2 a b ha hb
theorem dc1 {m : Nat} (h : m < 2 ^ 31) : decide ((1 : Int32) < nI m) = decide (1 < m) := decide_eq_decide.mpr (cv_lt (a := 1) (b := m) (by decide) rfl (by decide) h)
def oke (τ : Sg) (l : List (Nat × Nat)) : Prop := ∀ d q, l[d]? = some q → τ 44 0 d = nI q.1 ∧ τ 45 0 d = nI q.2 ∧ τ 46 0 d = 1
def D3k (σ τ : Sg) : Prop := (∀ k, k ≠ 30 ∧ k ≠ 44 ∧ k ≠ 45 ∧ k ≠ 46 → τ k = σ k) ∧ ∀ f, f ≠ 18 → τ 30 0 f = σ 30 0 f
def D3 (σ τ : Sg) (n : Nat) (c : Nat → Nat → Bool) (i j : Nat) (pre : List (Nat × Nat)) : Prop := D3k σ τ ∧ τ 30 0 18 = nI pre.length ∧ oke τ pre ∧ pre ++ (dlJ c i j (n - j) ++ dlI c n (i + 1) (n - (i + 1))) = dl c n
theorem d3_f {σ τ : Sg} {n : Nat} {c : Nat → Nat → Bool} {i j : Nat} {pre : List (Nat × Nat)} (hj : j < n) (hc : c i j = false) (h : D3 σ τ n c i j pre) : D3 σ τ n c i (j + 1) pre := ⟨h.1, h.2.1, h.2.2.1, by rw [← h.2.2.2, dlJ_f hj hc]⟩
theorem d3_l {σ τ : Sg} {n : Nat} {c : Nat → Nat → Bool} {i j : Nat} {pre : List (Nat × Nat)} (hj : j < n) (hc : c i j = true) (h : D3 σ τ n c i j pre) : pre.length < (dl c n).length := by
  rw [← h.2.2.2, dlJ_t hj hc]
  simp
theorem d3_t {σ τ τ1 τ2 τ3 τ4 : Sg} {n : Nat} {c : Nat → Nat → Bool} {i j d : Nat} {pre : List (Nat × Nat)} (hj : j < n) (hc : c i j = true) (hd : d = pre.length) (h : D3 σ τ n c i j pre) (e1 : τ1 = sgu τ 44 0 d (nI i)) (e2 : τ2 = sgu τ1 45 0 d (nI j)) (e3 : τ3 = sgu τ2 46 0 d 1) (e4 : τ4 = sgu τ3 30 0 18 (nI (d + 1))) : D3 σ τ4 n c i (j + 1) (pre ++ [(i, j)]) := by
  obtain ⟨h1, h2, h3, h4⟩ := h
  refine ⟨⟨fun k hk => by rw [e4, sgu_kk hk.1, e3, sgu_kk hk.2.2.2, e2, sgu_kk hk.2.2.1, e1, sgu_kk hk.2.1, h1.1 k hk], fun f hf => by rw [e4, sgu_f hf, e3, sgu_kk (by decide), e2, sgu_kk (by decide), e1, sgu_kk (by decide), h1.2 f hf]⟩, by rw [e4, sgu_self, hd, List.length_append]; rfl, ?_, by rw [← h4, dlJ_t hj hc]; simp⟩
  intro d' q hq
  rw [e4, sgu_k (by decide), sgu_k (by decide), sgu_k (by decide), e3, sgu_k (k' := 44) (by decide), sgu_k (k' := 45) (by decide), e2, sgu_k (k' := 44) (by decide), e1]
  by_cases z : d' < d
  · rw [List.getElem?_append_left (by omega)] at hq
    have h9 := h3 d' q hq
    simp only [sgu_f (show d' ≠ d by omega)]
    exact h9
  · have hd' := (List.getElem?_eq_some_iff.mp hq).1
    rw [List.length_append] at hd'
    simp at hd'
    obtain rfl : d' = d := by omega
    rw [hd, List.getElem?_append_right (by omega)] at hq
    simp at hq
    rw [← hq]
    exact ⟨sgu_self, sgu_self, sgu_self⟩
theorem d3_n {σ τ : Sg} {n : Nat} {c : Nat → Nat → Bool} {i j : Nat} {pre : List (Nat × Nat)} (hj : n ≤ j) (hi : i + 1 < n) (h : D3 σ τ n c i j pre) : D3 σ τ n c (i + 1) (i + 2) pre := by
  refine ⟨h.1, h.2.1, h.2.2.1, ?_⟩
  rw [← h.2.2.2, Nat.sub_eq_zero_of_le hj, dlJ, List.nil_append, show n - (i + 1) = (n - (i + 1 + 1)) + 1 by omega, dlI]
theorem d3_e {σ τ : Sg} {n : Nat} {c : Nat → Nat → Bool} {i j : Nat} {pre : List (Nat × Nat)} (hj : n ≤ j) (hi : n ≤ i + 1) (h : D3 σ τ n c i j pre) : pre = dl c n := by
  have h5 := h.2.2.2
  rw [Nat.sub_eq_zero_of_le hj, dlJ, Nat.sub_eq_zero_of_le hi, dlI, List.append_nil, List.append_nil] at h5
  exact h5
/-- the merging: who stays, after d diagonals -/
def stF (n : Nat) (x y : Nat → Int32) (A B : Nat → Nat) (m : Nat) : Nat → Nat → Bool
  | 0 => fun _ => true
  | d + 1 => fun e => if e = d then !flD n x y A B (stF n x y A B m d) m d (A d) (B d) || !flD n x y A B (stF n x y A B m d) m d (B d) (A d) else stF n x y A B m d e
def D4 (σ τ : Sg) (m : Nat) (F : Nat → Bool) : Prop := (∀ k, k ≠ 46 → τ k = σ k) ∧ ∀ d, d < m → τ 46 0 d = bI (F d)
theorem d4_s {σ τ τ' : Sg} {n : Nat} {x y : Nat → Int32} {A B : Nat → Nat} {m d : Nat} {v : Int32} (h : D4 σ τ m (stF n x y A B m d)) (hv : v = bI (!flD n x y A B (stF n x y A B m d) m d (A d) (B d) || !flD n x y A B (stF n x y A B m d) m d (B d) (A d))) (e : τ' = sgu τ 46 0 d v) : D4 σ τ' m (stF n x y A B m (d + 1)) := by
  refine ⟨fun k hk => by rw [e, sgu_kk hk, h.1 k hk], fun d' hd' => ?_⟩
  show _ = bI (if d' = d then _ else _)
  by_cases q : d' = d
  · rw [if_pos q, e, q, sgu_self, hv]
  · rw [if_neg q, e, sgu_f q]; exact h.2 d' hd'
/-- pairs in order: no pair twice -/
theorem mem_dlJ {c : Nat → Nat → Bool} {i : Nat} : ∀ (e j : Nat) (q : Nat × Nat), q ∈ dlJ c i j e ↔ q.1 = i ∧ j ≤ q.2 ∧ q.2 < j + e ∧ c i q.2 = true
  | 0, j, q => by simp [dlJ]; omega
  | e + 1, j, q => by
    rw [dlJ]
    by_cases h : c i j = true
    · rw [if_pos h, List.mem_cons, mem_dlJ e (j + 1) q]
      constructor
      · rintro (rfl | ⟨h1, h2, h3, h4⟩)
        · exact ⟨rfl, Nat.le_refl _, by show j < _; omega, h⟩
        · exact ⟨h1, by omega, by omega, h4⟩
      · rintro ⟨h1, h2, h3, h4⟩
        by_cases z : q.2 = j
        · exact Or.inl (by rw [← h1, ← z])
        · exact Or.inr ⟨h1, by omega, by omega, h4⟩
    · rw [if_neg h, mem_dlJ e (j + 1) q]
      constructor
      · rintro ⟨h1, h2, h3, h4⟩
        exact ⟨h1, by omega, by omega, h4⟩
      · rintro ⟨h1, h2, h3, h4⟩
        have z : q.2 ≠ j := fun z => h (by rw [← z]; exact h4)
        exact ⟨h1, by omega, by omega, h4⟩
theorem nd_dlJ {c : Nat → Nat → Bool} {i : Nat} : ∀ (e j : Nat), (dlJ c i j e).Nodup
  | 0, j => by rw [dlJ]; exact List.nodup_nil
  | e + 1, j => by
    rw [dlJ]
    split
    · refine List.nodup_cons.mpr ⟨fun hq => ?_, nd_dlJ e (j + 1)⟩
      have := ((mem_dlJ e (j + 1) (i, j)).mp hq).2.1
      have : j + 1 ≤ j := this
      omega
    · exact nd_dlJ e (j + 1)
theorem mem_dlI {c : Nat → Nat → Bool} {n : Nat} : ∀ (e i : Nat) (q : Nat × Nat), q ∈ dlI c n i e ↔ i ≤ q.1 ∧ q.1 < i + e ∧ q.1 < q.2 ∧ q.2 < n ∧ c q.1 q.2 = true
  | 0, i, q => by simp [dlI]; omega
  | e + 1, i, q => by
    rw [dlI, List.mem_append, mem_dlJ, mem_dlI e (i + 1) q]
    constructor
    · rintro (⟨h1, h2, h3, h4⟩ | ⟨h1, h2, h3, h4, h5⟩)
      · exact ⟨by omega, by omega, by omega, by omega, by rw [h1]; exact h4⟩
      · exact ⟨by omega, by omega, h3, h4, h5⟩
    · rintro ⟨h1, h2, h3, h4, h5⟩
      by_cases z : q.1 = i
      · exact Or.inl ⟨z, by omega, by omega, by rw [← z]; exact h5⟩
      · exact Or.inr ⟨by omega, by omega, h3, h4, h5⟩
theorem nd_dlI {c : Nat → Nat → Bool} {n : Nat} : ∀ (e i : Nat), (dlI c n i e).Nodup
  | 0, i => by rw [dlI]; exact List.nodup_nil
  | e + 1, i => by
    rw [dlI]
    refine List.nodup_append.mpr ⟨nd_dlJ _ _, nd_dlI e (i + 1), fun a ha b hb hab => ?_⟩
    have h1 := ((mem_dlJ _ _ _).mp ha).1
    have h2 := ((mem_dlI _ _ _).mp hb).1
    rw [← hab] at h2
    omega
theorem mem_dl {c : Nat → Nat → Bool} {n : Nat} {q : Nat × Nat} : q ∈ dl c n ↔ q.1 < q.2 ∧ q.2 < n ∧ c q.1 q.2 = true := by
  rw [dl, mem_dlI]
  constructor
  · rintro ⟨-, -, h3, h4, h5⟩
    exact ⟨h3, h4, h5⟩
  · rintro ⟨h3, h4, h5⟩
    exact ⟨Nat.zero_le _, by omega, h3, h4, h5⟩
theorem nd_dl {c : Nat → Nat → Bool} {n : Nat} : (dl c n).Nodup := nd_dlI _ _
/-- the spans of the triangles but the first -/
def spn (q : Nat × Nat × Nat) : Nat × Nat := (q.1, q.2.2)
theorem trl_hd {T : Nat → Nat → Nat} {n : Nat} (hT : okT T n) {i j : Nat} (hij : i + 2 ≤ j) (hj : j < n) : (i, j) ∈ (trl T n i j).map spn := by
  rw [trl_s hT hij hj]
  exact List.mem_cons_self
theorem trl_in {T : Nat → Nat → Nat} {n : Nat} (hT : okT T n) : ∀ (d i j : Nat), j - i ≤ d → j < n → ∀ q ∈ trl T n i j, i ≤ q.1 ∧ q.1 < q.2.1 ∧ q.2.1 < q.2.2 ∧ q.2.2 ≤ j ∧ (1 < q.2.1 - q.1 → (q.1, q.2.1) ∈ ((trl T n i j).tail).map spn) ∧ (1 < q.2.2 - q.2.1 → (q.2.1, q.2.2) ∈ ((trl T n i j).tail).map spn)
  | 0, i, j, h, hj, q, hq => by
    rw [trl_e (by omega)] at hq
    cases hq
  | d + 1, i, j, h, hj, q, hq => by
    rcases Nat.lt_or_ge j (i + 2) with z | z
    · rw [trl_e (by omega)] at hq
      cases hq
    · obtain ⟨h1, h2⟩ := hT i j z hj
      have e := trl_s hT z hj
      generalize hk : T i j = k at *
      have sub1 : ∀ s ∈ (trl T n i k).map spn, s ∈ ((trl T n i j).tail).map spn := fun s hs => by
        rw [e, List.tail_cons, List.map_append]; exact List.mem_append_left _ hs
      have sub2 : ∀ s ∈ (trl T n k j).map spn, s ∈ ((trl T n i j).tail).map spn := fun s hs => by
        rw [e, List.tail_cons, List.map_append]; exact List.mem_append_right _ hs
      have tl : ∀ (l : List (Nat × Nat × Nat)) s, s ∈ l.tail.map spn → s ∈ l.map spn := fun l s hs => by
        cases l with
        | nil => exact hs
        | cons a l => exact List.mem_cons_of_mem _ hs
      rw [e] at hq
      rcases List.mem_cons.mp hq with hq | hq
      · subst hq
        refine ⟨Nat.le_refl _, h1, h2, Nat.le_refl _, fun z2 => ?_, fun z2 => ?_⟩
        · exact sub1 _ (trl_hd hT (by show i + 2 ≤ k; have z2 : 1 < k - i := z2; omega) (by omega))
        · exact sub2 _ (trl_hd hT (by show k + 2 ≤ j; have z2 : 1 < j - k := z2; omega) hj)
      · rcases List.mem_append.mp hq with hq | hq
        · obtain ⟨a1, a2, a3, a4, a5, a6⟩ := trl_in hT d i k (by omega) (by omega) q hq
          exact ⟨a1, a2, a3, by omega, fun z2 => sub1 _ (tl _ _ (a5 z2)), fun z2 => sub1 _ (tl _ _ (a6 z2))⟩
        · obtain ⟨a1, a2, a3, a4, a5, a6⟩ := trl_in hT d k j (by omega) hj q hq
          exact ⟨by omega, a2, a3, a4, fun z2 => sub2 _ (tl _ _ (a5 z2)), fun z2 => sub2 _ (tl _ _ (a6 z2))⟩
def lI (l : List (Nat × Nat × Nat)) (t : Nat) : Nat := (l[t]?.getD (0, 0, 0)).1
def lK (l : List (Nat × Nat × Nat)) (t : Nat) : Nat := (l[t]?.getD (0, 0, 0)).2.1
def lJ (l : List (Nat × Nat × Nat)) (t : Nat) : Nat := (l[t]?.getD (0, 0, 0)).2.2
theorem jnR_ex {I K J : Nat → Nat} : ∀ (t a b : Nat), jnR I K J t a b = true → ∃ e, e < t ∧ ((a = K e ∧ b = J e ∧ 1 < J e - K e) ∨ (a = I e ∧ b = K e ∧ 1 < K e - I e))
  | 0, a, b, h => by cases h
  | t + 1, a, b, h => by
    have h : (if a = K t ∧ b = J t then decide (1 < J t - K t) else if a = I t ∧ b = K t then decide (1 < K t - I t) else jnR I K J t a b) = true := h
    by_cases q : a = K t ∧ b = J t
    · rw [if_pos q] at h
      exact ⟨t, by omega, Or.inl ⟨q.1, q.2, of_decide_eq_true h⟩⟩
    · rw [if_neg q] at h
      by_cases q2 : a = I t ∧ b = K t
      · rw [if_pos q2] at h
        exact ⟨t, by omega, Or.inr ⟨q2.1, q2.2, of_decide_eq_true h⟩⟩
      · rw [if_neg q2] at h
        obtain ⟨e, h1, h2⟩ := jnR_ex t a b h
        exact ⟨e, by omega, h2⟩
theorem l_at {l : List (Nat × Nat × Nat)} {t : Nat} (h : t < l.length) : l[t]? = some (lI l t, lK l t, lJ l t) := by
  rw [lI, lK, lJ, List.getElem?_eq_getElem h]
  rfl
/-- the joined pairs are spans of triangles -/
theorem jn_spn {T : Nat → Nat → Nat} {n : Nat} (hT : okT T n) (h3 : 3 ≤ n) {a b : Nat} (h : jnR (lI (trl T n 0 (n - 1))) (lK (trl T n 0 (n - 1))) (lJ (trl T n 0 (n - 1))) (n - 2) a b = true) : (a, b) ∈ ((trl T n 0 (n - 1)).tail).map spn := by
  obtain ⟨e, h1, h2⟩ := jnR_ex _ _ _ h
  have hl := trl_len hT n 0 (n - 1) (by omega) (by omega)
  have hm := List.mem_of_getElem? (l_at (l := trl T n 0 (n - 1)) (t := e) (by omega))
  obtain ⟨-, -, -, -, a5, a6⟩ := trl_in hT n 0 (n - 1) (by omega) (by omega) _ hm
  rcases h2 with ⟨rfl, rfl, q⟩ | ⟨rfl, rfl, q⟩
  · exact a6 q
  · exact a5 q
theorem dl_len {T : Nat → Nat → Nat} {n : Nat} (hT : okT T n) (h3 : 3 ≤ n) : (dl (jnR (lI (trl T n 0 (n - 1))) (lK (trl T n 0 (n - 1))) (lJ (trl T n 0 (n - 1))) (n - 2)) n).length ≤ n - 3 := by
  have hl := trl_len hT n 0 (n - 1) (by omega) (by omega)
  have h : (dl (jnR (lI (trl T n 0 (n - 1))) (lK (trl T n 0 (n - 1))) (lJ (trl T n 0 (n - 1))) (n - 2)) n).length ≤ (((trl T n 0 (n - 1)).tail).map spn).length := List.Nodup.length_le_of_subset nd_dl (fun q hq => jn_spn hT h3 (mem_dl.mp hq).2.2)
  rw [List.length_map, List.length_tail, hl] at h
  omega
theorem lA_at {l : List (Nat × Nat)} {d : Nat} (h : d < l.length) : l[d]? = some (lA l d, lB l d) := by
  rw [lA, lB, List.getElem?_eq_getElem h]
  rfl
def LDk (σ τ : Sg) : Prop := (∀ k, k < 37 → k ≠ 30 → τ k = σ k) ∧ ∀ f, f ≠ 13 → f ≠ 18 → τ 30 0 f = σ 30 0 f
def dgL (T : Nat → Nat → Nat) (n : Nat) : List (Nat × Nat) := dl (jnR (lI (trl T n 0 (n - 1))) (lK (trl T n 0 (n - 1))) (lJ (trl T n 0 (n - 1))) (n - 2)) n
def LDe (σ τ : Sg) (n : Nat) (x y : Nat → Int32) (T : Nat → Nat → Nat) : Prop := LDk σ τ ∧ τ 30 0 18 = nI (dgL T n).length ∧ ∀ d, d < (dgL T n).length → τ 44 0 d = nI (lA (dgL T n) d) ∧ τ 45 0 d = nI (lB (dgL T n) d) ∧ τ 46 0 d = bI (stF n x y (lA (dgL T n)) (lB (dgL T n)) (dgL T n).length (dgL T n).length d)
theorem dgl_lt {T : Nat → Nat → Nat} {n d : Nat} (h : d < (dgL T n).length) : lA (dgL T n) d < lB (dgL T n) d ∧ lB (dgL T n) d < n := by
  have hm := List.mem_of_getElem? (lA_at h)
  have h2 := mem_dl.mp hm
  exact ⟨h2.1, h2.2.1⟩
set_option maxHeartbeats 4000000 in
set_option maxRecDepth 100000 in
theorem lp_X6_layDiagonals_4 {K : Kx} {G : Gx} (hA : wa G) (C : CX K G cX6_layDiagonals 6 RX6 wsX6_layDiagonals (rmd 8) none) (ω : Sg) (p n : Nat) (hp : p < 8) (hs : ω 33 0 p = nI n) (h3 : 3 ≤ n) (hn : n ≤ 14) (A B : Nat → Nat) (m : Nat) (hm : m ≤ 11) (hm18 : ω 30 0 18 = nI m) (hD : ∀ d, d < m → ω 44 0 d = nI (A d) ∧ ω 45 0 d = nI (B d) ∧ A d < n ∧ B d < n) : ∀ (f d : Nat) (τ : Sg), m - d < f → (d ≤ m) → (D4 ω τ m (stF n (fun i => ω 34 0 (14 * p + i)) (fun i => ω 35 0 (14 * p + i)) A B m d)) → WW K G 6 (QV K G (fun σ2 => D4 ω σ2 m (stF n (fun i => ω 34 0 (14 * p + i)) (fun i => ω 35 0 (14 * p + i)) A B m m))) τ [(2, .int (nI d)), (0, .ref (gA G 30 (0))), (1, .int (nI p))] 217 [] := by
  intro f
  induction f with
  | zero => intro d τ h; exact absurd h (Nat.not_lt_zero _)
  | succ f ih =>
    intro d τ hf hd hk
    have hm9 : τ 30 0 18 = nI m := by rw [hk.1 30 (by decide)]; exact hm18
    have hsx : τ 33 0 p = nI n := by rw [hk.1 33 (by decide)]; exact hs
    have hX : (fun i => τ 34 0 (14 * p + i)) = (fun i => ω 34 0 (14 * p + i)) := by rw [hk.1 34 (by decide)]
    have hY : (fun i => τ 35 0 (14 * p + i)) = (fun i => ω 35 0 (14 * p + i)) := by rw [hk.1 35 (by decide)]
    have hD9 : ∀ e, e < m → (τ 44 0 e = nI (A e) ∧ τ 45 0 e = nI (B e)) ∧ τ 46 0 e = bI ((stF n (fun i => ω 34 0 (14 * p + i)) (fun i => ω 35 0 (14 * p + i)) A B m d) e) ∧ A e < n ∧ B e < n := fun e he => by
      obtain ⟨q1, q2, q3, q4⟩ := hD e he
      rw [hk.1 44 (by decide), hk.1 45 (by decide)]
      exact ⟨⟨q1, q2⟩, hk.2 e he, q3, q4⟩
    refine ww_iload_n C dX6_layDiagonals_217 rfl 0 rfl ?_
    refine ww_aload_n C dX6_layDiagonals_218 rfl 1 rfl ?_
    refine ww_gi (k := 30) (f := 18) C rfl rfl (by decide) rfl in_X6_layDiagonals_X6 (by decide) lk_X6_layDiagonals_163 dX6_layDiagonals_219 ?_
    rw [hm9]
    refine ww_icmp_ge 284 C dX6_layDiagonals_222 (by decide) (fun h222 => ?_) (fun h222 => ?_)
    · have g222 : m ≤ d := (cv_le (a := m) (b := d) rfl rfl (by omega) (by omega)).mp h222
      refine ww_vret C dX6_layDiagonals_284 ?_
      have e9 : d = m := by omega
      rw [e9] at hk
      exact hk
    · have g222 : ¬ m ≤ d := fun q => h222 ((cv_le (a := m) (b := d) rfl rfl (by omega) (by omega)).mpr q)
      obtain ⟨⟨hAd, hBd⟩, -, kA, kB⟩ := hD9 d (by omega)
      refine ww_aload_n C dX6_layDiagonals_225 rfl 1 rfl ?_
      refine ww_gr (j := 0) (k := 30) (f := 21) C rfl rfl (by decide) rfl in_X6_layDiagonals_X6 (by decide) lk_X6_layDiagonals_62 dX6_layDiagonals_226 rfl ?_
      refine ww_iload_n C dX6_layDiagonals_229 rfl 0 rfl ?_
      refine ww_aload_n C dX6_layDiagonals_230 rfl 1 rfl ?_
      refine ww_iload_n C dX6_layDiagonals_231 rfl 2 rfl ?_
      refine ww_iload_n C dX6_layDiagonals_232 rfl 0 rfl ?_
      refine ww_aload_n C dX6_layDiagonals_233 rfl 1 rfl ?_
      refine ww_gr (j := 0) (k := 30) (f := 19) C rfl rfl (by decide) rfl in_X6_layDiagonals_X6 (by decide) lk_X6_layDiagonals_56 dX6_layDiagonals_234 rfl ?_
      refine ww_iload_n C dX6_layDiagonals_237 rfl 0 rfl ?_
      refine ww_iald (k := 44) (j := d) C rfl (by decide) (by decide) dX6_layDiagonals_238 rfl (by omega) ?_
      rw [hAd]
      refine ww_aload_n C dX6_layDiagonals_239 rfl 1 rfl ?_
      refine ww_gr (j := 0) (k := 30) (f := 20) C rfl rfl (by decide) rfl in_X6_layDiagonals_X6 (by decide) lk_X6_layDiagonals_59 dX6_layDiagonals_240 rfl ?_
      refine ww_iload_n C dX6_layDiagonals_243 rfl 0 rfl ?_
      refine ww_iald (k := 45) (j := d) C rfl (by decide) (by decide) dX6_layDiagonals_244 rfl (by omega) ?_
      rw [hBd]
      refine ww_calliF (cx_V (n := 4) (As := [.int (nI p), .int (nI d), .int (nI (A d)), .int (nI (B d))]) C  (c_X6_isFlat (kL K) G hA _ p n hp hsx h3 hn A B (stF n (fun i => ω 34 0 (14 * p + i)) (fun i => ω 35 0 (14 * p + i)) A B m d) m d (A d) (B d) hm hm9 hD9 (by omega) (by omega) (by omega)) gX6_layDiagonals_X6_isFlat rfl ⟨rfl, rfl⟩ (by decide +kernel) (by decide) rfl (by decide) rfl rfl rfl (Nat.le_of_ble_eq_true rfl) dX6_layDiagonals_245) ?_
      refine ww_if_eq 272 C dX6_layDiagonals_248 (by decide) (fun h248 => ?_) (fun h248 => ?_)
      · refine ww_iconst (v := 1) C dX6_layDiagonals_272 rfl ?_
        refine ww_goto 277 C dX6_layDiagonals_273 (by decide) ?_
        refine ww_zast (k := 46) (j := d) C rfl (by decide) (by decide) dX6_layDiagonals_277 rfl (by omega) rfl ?_
        obtain ⟨σ1, hσ1⟩ : ∃ z : Sg, z = (sgu τ 46 (0) (d) (1)) := ⟨_, rfl⟩
        rw [← hσ1]
        refine ww_iinc (q := 0) (fun y2 => [(2, .int (y2)), (0, .ref (gA G 30 (0))), (1, .int (nI p))]) C dX6_layDiagonals_278 rfl (by decide) (fun _ => rfl) (fun y2 ey2 => ?_)
        obtain rfl : y2 = nI (d + 1) := ninc rfl ey2
        refine ww_goto 217 C dX6_layDiagonals_281 (by decide) ?_
        rw [hX, hY] at h248
        exact ww_sub [0, 1, 2] rfl (ih (d + 1) _ (by omega) (by omega) (d4_s hk (by rw [bI_0.mp h248]; rfl) hσ1))
      · refine ww_aload_n C dX6_layDiagonals_251 rfl 1 rfl ?_
        refine ww_iload_n C dX6_layDiagonals_252 rfl 2 rfl ?_
        refine ww_iload_n C dX6_layDiagonals_253 rfl 0 rfl ?_
        refine ww_aload_n C dX6_layDiagonals_254 rfl 1 rfl ?_
        refine ww_gr (j := 0) (k := 30) (f := 20) C rfl rfl (by decide) rfl in_X6_layDiagonals_X6 (by decide) lk_X6_layDiagonals_59 dX6_layDiagonals_255 rfl ?_
        refine ww_iload_n C dX6_layDiagonals_258 rfl 0 rfl ?_
        refine ww_iald (k := 45) (j := d) C rfl (by decide) (by decide) dX6_layDiagonals_259 rfl (by omega) ?_
        rw [hBd]
        refine ww_aload_n C dX6_layDiagonals_260 rfl 1 rfl ?_
        refine ww_gr (j := 0) (k := 30) (f := 19) C rfl rfl (by decide) rfl in_X6_layDiagonals_X6 (by decide) lk_X6_layDiagonals_56 dX6_layDiagonals_261 rfl ?_
        refine ww_iload_n C dX6_layDiagonals_264 rfl 0 rfl ?_
        refine ww_iald (k := 44) (j := d) C rfl (by decide) (by decide) dX6_layDiagonals_265 rfl (by omega) ?_
        rw [hAd]
        refine ww_calliF (cx_V (n := 4) (As := [.int (nI p), .int (nI d), .int (nI (B d)), .int (nI (A d))]) C  (c_X6_isFlat (kL K) G hA _ p n hp hsx h3 hn A B (stF n (fun i => ω 34 0 (14 * p + i)) (fun i => ω 35 0 (14 * p + i)) A B m d) m d (B d) (A d) hm hm9 hD9 (by omega) (by omega) (by omega)) gX6_layDiagonals_X6_isFlat rfl ⟨rfl, rfl⟩ (by decide +kernel) (by decide) rfl (by decide) rfl rfl rfl (Nat.le_of_ble_eq_true rfl) dX6_layDiagonals_266) ?_
        refine ww_if_ne 276 C dX6_layDiagonals_269 (by decide) (fun h269 => ?_) (fun h269 => ?_)
        · refine ww_iconst (v := 0) C dX6_layDiagonals_276 rfl ?_
          refine ww_zast (k := 46) (j := d) C rfl (by decide) (by decide) dX6_layDiagonals_277 rfl (by omega) rfl ?_
          obtain ⟨σ3, hσ3⟩ : ∃ z : Sg, z = (sgu τ 46 (0) (d) (0)) := ⟨_, rfl⟩
          rw [← hσ3]
          refine ww_iinc (q := 0) (fun y4 => [(2, .int (y4)), (0, .ref (gA G 30 (0))), (1, .int (nI p))]) C dX6_layDiagonals_278 rfl (by decide) (fun _ => rfl) (fun y4 ey4 => ?_)
          obtain rfl : y4 = nI (d + 1) := ninc rfl ey4
          refine ww_goto 217 C dX6_layDiagonals_281 (by decide) ?_
          rw [hX, hY] at h248 h269
          exact ww_sub [0, 1, 2] rfl (ih (d + 1) _ (by omega) (by omega) (d4_s hk (by rw [bI_1.mp h248, bI_1.mp h269]; rfl) hσ3))
        · refine ww_iconst (v := 1) C dX6_layDiagonals_272 rfl ?_
          refine ww_goto 277 C dX6_layDiagonals_273 (by decide) ?_
          refine ww_zast (k := 46) (j := d) C rfl (by decide) (by decide) dX6_layDiagonals_277 rfl (by omega) rfl ?_
          obtain ⟨σ5, hσ5⟩ : ∃ z : Sg, z = (sgu τ 46 (0) (d) (1)) := ⟨_, rfl⟩
          rw [← hσ5]
          refine ww_iinc (q := 0) (fun y6 => [(2, .int (y6)), (0, .ref (gA G 30 (0))), (1, .int (nI p))]) C dX6_layDiagonals_278 rfl (by decide) (fun _ => rfl) (fun y6 ey6 => ?_)
          obtain rfl : y6 = nI (d + 1) := ninc rfl ey6
          refine ww_goto 217 C dX6_layDiagonals_281 (by decide) ?_
          rw [hX, hY] at h248 h269
          exact ww_sub [0, 1, 2] rfl (ih (d + 1) _ (by omega) (by omega) (d4_s hk (by rw [bI_1.mp h248, bI_0.mp h269]; rfl) hσ5))
set_option maxHeartbeats 4000000 in
set_option maxRecDepth 100000 in
theorem lp_X6_layDiagonals_j {K : Kx} {G : Gx} (hA : wa G) (C : CX K G cX6_layDiagonals 6 RX6 wsX6_layDiagonals (rmd 8) none) (ω : Sg) (p n : Nat) (hp : p < 8) (hs : ω 33 0 p = nI n) (h3 : 3 ≤ n) (hn : n ≤ 14) (c : Nat → Nat → Bool) (hcc : ∀ a b, a < 14 → b < 14 → tb9 ω 47 a b = bI (c a b)) (hl : (dl c n).length ≤ 11) (i : Nat) (hi : i < n) (Q : State → Prop) (kx : ∀ τ pre, D3 ω τ n c i n pre → WW K G 6 Q τ [(2, .int (nI i)), (0, .ref (gA G 30 (0))), (1, .int (nI p))] 209 []) : ∀ (f j : Nat) (τ : Sg) (pre : List (Nat × Nat)), n - j < f → (j ≤ n) → (D3 ω τ n c i j pre) → WW K G 6 Q τ [(3, .int (nI j)), (2, .int (nI i)), (0, .ref (gA G 30 (0))), (1, .int (nI p))] 139 [] := by
  intro f
  induction f with
  | zero => intro j τ pre h; exact absurd h (Nat.not_lt_zero _)
  | succ f ih =>
    intro j τ pre hf hj hk
    have hsx : τ 33 0 p = nI n := by rw [hk.1.1 33 (by decide)]; exact hs
    refine ww_iload_n C dX6_layDiagonals_139 rfl 0 rfl ?_
    refine ww_aload_n C dX6_layDiagonals_140 rfl 2 rfl ?_
    refine ww_gr (j := 0) (k := 30) (f := 4) C rfl rfl (by decide) rfl in_X6_layDiagonals_X6 (by decide) lk_X6_layDiagonals_16 dX6_layDiagonals_141 rfl ?_
    refine ww_iload_n C dX6_layDiagonals_144 rfl 3 rfl ?_
    refine ww_iald (k := 33) (j := p) C rfl (by decide) (by decide) dX6_layDiagonals_145 rfl hp ?_
    rw [hsx]
    refine ww_icmp_ge 209 C dX6_layDiagonals_146 (by decide) (fun h146 => ?_) (fun h146 => ?_)
    · have g146 : n ≤ j := (cv_le (a := n) (b := j) rfl rfl (by omega) (by omega)).mp h146
      have e9 : j = n := by omega
      rw [e9] at hk
      exact ww_sub [1, 2, 3] rfl (kx _ pre hk)
    · have g146 : ¬ n ≤ j := fun q => h146 ((cv_le (a := n) (b := j) rfl rfl (by omega) (by omega)).mpr q)
      have hcj : τ 47 0 (14 * i + j) = bI (c i j) := by rw [hk.1.1 47 (by decide)]; exact hcc i j (by omega) (by omega)
      refine ww_aload_n C dX6_layDiagonals_149 rfl 2 rfl ?_
      refine ww_gr (j := 0) (k := 30) (f := 22) C rfl rfl (by decide) rfl in_X6_layDiagonals_X6 (by decide) lk_X6_layDiagonals_66 dX6_layDiagonals_150 rfl ?_
      refine ww_bipush (v := 14) C dX6_layDiagonals_153 (by decide) ?_
      refine ww_iload_n C dX6_layDiagonals_155 rfl 1 rfl ?_
      refine ww_imul C dX6_layDiagonals_156 ?_
      rw [show (14) * (nI i) = nI (14 * i) from pk_mul (14) (i)]
      refine ww_iload_n C dX6_layDiagonals_157 rfl 0 rfl ?_
      refine ww_iadd C dX6_layDiagonals_158 ?_
      rw [show (nI (14 * i)) + (nI j) = nI (14 * i + j) from nI_add (14 * i) (j)]
      refine ww_zald (k := 47) (j := 14 * i + j) C rfl (by decide) (by decide) dX6_layDiagonals_159 rfl (by omega) ?_
      refine ww_if_eq 203 C dX6_layDiagonals_160 (by decide) (fun h160 => ?_) (fun h160 => ?_)
      · refine ww_iinc (q := 0) (fun y1 => [(3, .int (y1)), (2, .int (nI i)), (0, .ref (gA G 30 (0))), (1, .int (nI p))]) C dX6_layDiagonals_203 rfl (by decide) (fun _ => rfl) (fun y1 ey1 => ?_)
        obtain rfl : y1 = nI (j + 1) := ninc rfl ey1
        refine ww_goto 139 C dX6_layDiagonals_206 (by decide) ?_
        exact ww_sub [0, 1, 2, 3] rfl (ih (j + 1) _ pre (by omega) (by omega) (d3_f (by omega) (bI_0.mp (hcj.symm.trans h160)) hk))
      · have hct : c i j = true := bI_1.mp (fun q => h160 (hcj.trans q))
        have hdl := d3_l (by omega) hct hk
        obtain ⟨d, hd9⟩ : ∃ z, z = pre.length := ⟨_, rfl⟩
        have ht18 : τ 30 0 18 = nI d := by rw [hd9]; exact hk.2.1
        refine ww_aload_n C dX6_layDiagonals_163 rfl 2 rfl ?_
        refine ww_gr (j := 0) (k := 30) (f := 19) C rfl rfl (by decide) rfl in_X6_layDiagonals_X6 (by decide) lk_X6_layDiagonals_56 dX6_layDiagonals_164 rfl ?_
        refine ww_aload_n C dX6_layDiagonals_167 rfl 2 rfl ?_
        refine ww_gi (k := 30) (f := 18) C rfl rfl (by decide) rfl in_X6_layDiagonals_X6 (by decide) lk_X6_layDiagonals_163 dX6_layDiagonals_168 ?_
        have hqτ : τ 30 (0) 18 = nI d := by rw [ht18]
        rw [hqτ]
        refine ww_iload_n C dX6_layDiagonals_171 rfl 1 rfl ?_
        refine ww_iast (k := 44) (j := d) C rfl (by decide) (by decide) dX6_layDiagonals_172 rfl (by omega) ?_
        obtain ⟨σ2, hσ2⟩ : ∃ z : Sg, z = (sgu τ 44 (0) (d) (nI i)) := ⟨_, rfl⟩
        rw [← hσ2]
        refine ww_aload_n C dX6_layDiagonals_173 rfl 2 rfl ?_
        refine ww_gr (j := 0) (k := 30) (f := 20) C rfl rfl (by decide) rfl in_X6_layDiagonals_X6 (by decide) lk_X6_layDiagonals_59 dX6_layDiagonals_174 rfl ?_
        refine ww_aload_n C dX6_layDiagonals_177 rfl 2 rfl ?_
        refine ww_gi (k := 30) (f := 18) C rfl rfl (by decide) rfl in_X6_layDiagonals_X6 (by decide) lk_X6_layDiagonals_163 dX6_layDiagonals_178 ?_
        have hqσ2 : σ2 30 (0) 18 = nI d := by rw [hσ2, sgu_k (by decide), ht18]
        rw [hqσ2]
        refine ww_iload_n C dX6_layDiagonals_181 rfl 0 rfl ?_
        refine ww_iast (k := 45) (j := d) C rfl (by decide) (by decide) dX6_layDiagonals_182 rfl (by omega) ?_
        obtain ⟨σ3, hσ3⟩ : ∃ z : Sg, z = (sgu σ2 45 (0) (d) (nI j)) := ⟨_, rfl⟩
        rw [← hσ3]
        refine ww_aload_n C dX6_layDiagonals_183 rfl 2 rfl ?_
        refine ww_gr (j := 0) (k := 30) (f := 21) C rfl rfl (by decide) rfl in_X6_layDiagonals_X6 (by decide) lk_X6_layDiagonals_62 dX6_layDiagonals_184 rfl ?_
        refine ww_aload_n C dX6_layDiagonals_187 rfl 2 rfl ?_
        refine ww_gi (k := 30) (f := 18) C rfl rfl (by decide) rfl in_X6_layDiagonals_X6 (by decide) lk_X6_layDiagonals_163 dX6_layDiagonals_188 ?_
        have hqσ3 : σ3 30 (0) 18 = nI d := by rw [hσ3, sgu_k (by decide), hσ2, sgu_k (by decide), ht18]
        rw [hqσ3]
        refine ww_iconst (v := 1) C dX6_layDiagonals_191 rfl ?_
        refine ww_zast (k := 46) (j := d) C rfl (by decide) (by decide) dX6_layDiagonals_192 rfl (by omega) rfl ?_
        obtain ⟨σ4, hσ4⟩ : ∃ z : Sg, z = (sgu σ3 46 (0) (d) (1)) := ⟨_, rfl⟩
        rw [← hσ4]
        refine ww_aload_n C dX6_layDiagonals_193 rfl 2 rfl ?_
        refine ww_dup C dX6_layDiagonals_194 rfl ?_
        refine ww_gi (k := 30) (f := 18) C rfl rfl (by decide) rfl in_X6_layDiagonals_X6 (by decide) lk_X6_layDiagonals_163 dX6_layDiagonals_195 ?_
        have hqσ4 : σ4 30 (0) 18 = nI d := by rw [hσ4, sgu_k (by decide), hσ3, sgu_k (by decide), hσ2, sgu_k (by decide), ht18]
        rw [hqσ4]
        refine ww_iconst (v := 1) C dX6_layDiagonals_198 rfl ?_
        refine ww_iadd C dX6_layDiagonals_199 ?_
        rw [show (nI d) + (1) = nI (d + 1) from nI_add (d) (1)]
        refine ww_pi (k := 30) (f := 18) C rfl rfl (by decide) rfl in_X6_layDiagonals_X6 tyX6_ok nmX6 (by decide) lk_X6_layDiagonals_163 rfl rfl dX6_layDiagonals_200 ?_
        obtain ⟨σ5, hσ5⟩ : ∃ z : Sg, z = (sgu σ4 30 (0) 18 (nI (d + 1))) := ⟨_, rfl⟩
        rw [← hσ5]
        refine ww_iinc (q := 0) (fun y6 => [(3, .int (y6)), (2, .int (nI i)), (0, .ref (gA G 30 (0))), (1, .int (nI p))]) C dX6_layDiagonals_203 rfl (by decide) (fun _ => rfl) (fun y6 ey6 => ?_)
        obtain rfl : y6 = nI (j + 1) := ninc rfl ey6
        refine ww_goto 139 C dX6_layDiagonals_206 (by decide) ?_
        exact ww_sub [0, 1, 2, 3] rfl (ih (j + 1) _ (pre ++ [(i, j)]) (by omega) (by omega) (d3_t (by omega) hct hd9 hk hσ2 hσ3 hσ4 hσ5))
set_option maxHeartbeats 4000000 in
set_option maxRecDepth 100000 in
theorem lp_X6_layDiagonals_i {K : Kx} {G : Gx} (hA : wa G) (C : CX K G cX6_layDiagonals 6 RX6 wsX6_layDiagonals (rmd 8) none) (ω : Sg) (p n : Nat) (hp : p < 8) (hs : ω 33 0 p = nI n) (h3 : 3 ≤ n) (hn : n ≤ 14) (c : Nat → Nat → Bool) (hcc : ∀ a b, a < 14 → b < 14 → tb9 ω 47 a b = bI (c a b)) (hl : (dl c n).length ≤ 11) (Q : State → Prop) (kx : ∀ τ, D3k ω τ → τ 30 0 18 = nI (dl c n).length → oke τ (dl c n) → WW K G 6 Q τ [(2, .int (nI 0)), (0, .ref (gA G 30 (0))), (1, .int (nI p))] 217 []) : ∀ (f i : Nat) (τ : Sg) (pre : List (Nat × Nat)), n - i < f → (i ≤ n) → (D3 ω τ n c i (i + 1) pre ∨ (i = n ∧ pre = dl c n ∧ D3k ω τ ∧ τ 30 0 18 = nI pre.length ∧ oke τ pre)) → WW K G 6 Q τ [(2, .int (nI i)), (0, .ref (gA G 30 (0))), (1, .int (nI p))] 125 [] := by
  intro f
  induction f with
  | zero => intro i τ pre h; exact absurd h (Nat.not_lt_zero _)
  | succ f ih =>
    intro i τ pre hf hi hk0
    have hsx : τ 33 0 p = nI n := by
      rcases hk0 with q | q
      · rw [q.1.1 33 (by decide)]; exact hs
      · rw [q.2.2.1.1 33 (by decide)]; exact hs
    refine ww_iload_n C dX6_layDiagonals_125 rfl 0 rfl ?_
    refine ww_aload_n C dX6_layDiagonals_126 rfl 1 rfl ?_
    refine ww_gr (j := 0) (k := 30) (f := 4) C rfl rfl (by decide) rfl in_X6_layDiagonals_X6 (by decide) lk_X6_layDiagonals_16 dX6_layDiagonals_127 rfl ?_
    refine ww_iload_n C dX6_layDiagonals_130 rfl 2 rfl ?_
    refine ww_iald (k := 33) (j := p) C rfl (by decide) (by decide) dX6_layDiagonals_131 rfl hp ?_
    rw [hsx]
    refine ww_icmp_ge 215 C dX6_layDiagonals_132 (by decide) (fun h132 => ?_) (fun h132 => ?_)
    · have g132 : n ≤ i := (cv_le (a := n) (b := i) rfl rfl (by omega) (by omega)).mp h132
      refine ww_iconst (v := 0) C dX6_layDiagonals_215 rfl ?_
      refine ww_istore_n (fun y1 => [(2, .int (y1)), (0, .ref (gA G 30 (0))), (1, .int (nI p))]) C dX6_layDiagonals_216 rfl (by decide) (fun _ => rfl) (fun y1 ey1 => ?_)
      obtain rfl : y1 = nI 0 := (ey1.trans (by decide))
      have hq : (i = n ∧ pre = dl c n ∧ D3k ω τ ∧ τ 30 0 18 = nI pre.length ∧ oke τ pre) := hk0.elim (fun q => ⟨by omega, d3_e (by omega) (by omega) q, q.1, q.2.1, q.2.2.1⟩) id
      obtain ⟨-, rfl, q1, q2, q3⟩ := hq
      exact ww_sub [0, 1, 2] rfl (kx _ q1 q2 q3)
    · have g132 : ¬ n ≤ i := fun q => h132 ((cv_le (a := n) (b := i) rfl rfl (by omega) (by omega)).mpr q)
      have hk := hk0.resolve_right (fun q => by omega)
      refine ww_iload_n C dX6_layDiagonals_135 rfl 0 rfl ?_
      refine ww_iconst (v := 1) C dX6_layDiagonals_136 rfl ?_
      refine ww_iadd C dX6_layDiagonals_137 ?_
      rw [show (nI i) + (1) = nI (i + 1) from nI_add (i) (1)]
      refine ww_istore_n (fun y2 => [(3, .int (y2)), (2, .int (nI i)), (0, .ref (gA G 30 (0))), (1, .int (nI p))]) C dX6_layDiagonals_138 rfl (by decide) (fun _ => rfl) (fun y2 ey2 => ?_)
      obtain rfl : y2 = nI (i + 1) := ey2
      refine ww_sub [0, 1, 2, 3] rfl (lp_X6_layDiagonals_j hA C ω p n hp hs h3 hn c hcc hl i (by omega) Q (fun τ2 pre2 hk2 => ?_) (n + 1) (i + 1) τ pre (by omega) (by omega) hk)
      refine ww_iinc (q := 0) (fun y3 => [(2, .int (y3)), (0, .ref (gA G 30 (0))), (1, .int (nI p))]) C dX6_layDiagonals_209 rfl (by decide) (fun _ => rfl) (fun y3 ey3 => ?_)
      obtain rfl : y3 = nI (i + 1) := ninc rfl ey3
      refine ww_goto 125 C dX6_layDiagonals_212 (by decide) ?_
      refine ww_sub [0, 1, 2] rfl ?_
      rcases Nat.lt_or_ge (i + 1) n with q9 | q9
      · exact ih (i + 1) _ pre2 (by omega) (by omega) (Or.inl (d3_n (by omega) q9 hk2))
      · exact ih (i + 1) _ pre2 (by omega) (by omega) (Or.inr ⟨by omega, d3_e (by omega) q9 hk2, hk2.1, hk2.2.1, hk2.2.2.1⟩)
set_option maxHeartbeats 4000000 in
set_option maxRecDepth 100000 in
theorem lp_X6_layDiagonals_t {K : Kx} {G : Gx} (hA : wa G) (C : CX K G cX6_layDiagonals 6 RX6 wsX6_layDiagonals (rmd 8) none) (ω : Sg) (p n : Nat) (hp : p < 8) (hs : ω 33 0 p = nI n) (h3 : 3 ≤ n) (hn : n ≤ 14) (I K2 J : Nat → Nat) (ht13 : ω 30 0 13 = nI (n - 2)) (hT : ∀ t, t < n - 2 → ω 40 0 t = nI (I t) ∧ ω 41 0 t = nI (K2 t) ∧ ω 42 0 t = nI (J t) ∧ I t < K2 t ∧ K2 t < J t ∧ J t < n) (Q : State → Prop) (kx : ∀ τ, D1 ω τ I K2 J (n - 2) → WW K G 6 Q τ [(0, .ref (gA G 30 (0))), (1, .int (nI p))] 118 []) : ∀ (f t : Nat) (τ : Sg), (n - 2) - t < f → (t ≤ n - 2) → (D1 ω τ I K2 J t) → WW K G 6 Q τ [(2, .int (nI t)), (0, .ref (gA G 30 (0))), (1, .int (nI p))] 29 [] := by
  intro f
  induction f with
  | zero => intro t τ h; exact absurd h (Nat.not_lt_zero _)
  | succ f ih =>
    intro t τ hf ht hk
    have ht9 : τ 30 0 13 = nI (n - 2) := by rw [hk.1 30 (by decide)]; exact ht13
    refine ww_iload_n C dX6_layDiagonals_29 rfl 0 rfl ?_
    refine ww_aload_n C dX6_layDiagonals_30 rfl 1 rfl ?_
    refine ww_gi (k := 30) (f := 13) C rfl rfl (by decide) rfl in_X6_layDiagonals_X6 (by decide) lk_X6_layDiagonals_157 dX6_layDiagonals_31 ?_
    rw [ht9]
    refine ww_icmp_ge 118 C dX6_layDiagonals_34 (by decide) (fun h34 => ?_) (fun h34 => ?_)
    · have g34 : (n - 2) ≤ t := (cv_le (a := (n - 2)) (b := t) rfl rfl (by omega) (by omega)).mp h34
      have e9 : t = n - 2 := by omega
      rw [e9] at hk
      exact ww_sub [1, 2] rfl (kx _ hk)
    · have g34 : ¬ (n - 2) ≤ t := fun q => h34 ((cv_le (a := (n - 2)) (b := t) rfl rfl (by omega) (by omega)).mpr q)
      obtain ⟨hI, hK, hJ, k1, k2, k3⟩ := hT t (by omega)
      have hI : τ 40 0 t = nI (I t) := by rw [hk.1 40 (by decide)]; exact hI
      have hK : τ 41 0 t = nI (K2 t) := by rw [hk.1 41 (by decide)]; exact hK
      have hJ : τ 42 0 t = nI (J t) := by rw [hk.1 42 (by decide)]; exact hJ
      refine ww_aload_n C dX6_layDiagonals_37 rfl 1 rfl ?_
      refine ww_gr (j := 0) (k := 30) (f := 14) C rfl rfl (by decide) rfl in_X6_layDiagonals_X6 (by decide) lk_X6_layDiagonals_44 dX6_layDiagonals_38 rfl ?_
      refine ww_iload_n C dX6_layDiagonals_41 rfl 0 rfl ?_
      refine ww_iald (k := 40) (j := t) C rfl (by decide) (by decide) dX6_layDiagonals_42 rfl (by omega) ?_
      rw [hI]
      refine ww_istore_n (fun y1 => [(3, .int (y1)), (2, .int (nI t)), (0, .ref (gA G 30 (0))), (1, .int (nI p))]) C dX6_layDiagonals_43 rfl (by decide) (fun _ => rfl) (fun y1 ey1 => ?_)
      obtain rfl : y1 = nI (I t) := ey1
      refine ww_aload_n C dX6_layDiagonals_44 rfl 2 rfl ?_
      refine ww_gr (j := 0) (k := 30) (f := 15) C rfl rfl (by decide) rfl in_X6_layDiagonals_X6 (by decide) lk_X6_layDiagonals_47 dX6_layDiagonals_45 rfl ?_
      refine ww_iload_n C dX6_layDiagonals_48 rfl 1 rfl ?_
      refine ww_iald (k := 41) (j := t) C rfl (by decide) (by decide) dX6_layDiagonals_49 rfl (by omega) ?_
      rw [hK]
      refine ww_istore (fun y2 => [(4, .int (y2)), (3, .int (nI (I t))), (2, .int (nI t)), (0, .ref (gA G 30 (0))), (1, .int (nI p))]) C dX6_layDiagonals_50 (by decide) (fun _ => rfl) (fun y2 ey2 => ?_)
      obtain rfl : y2 = nI (K2 t) := ey2
      refine ww_aload_n C dX6_layDiagonals_52 rfl 3 rfl ?_
      refine ww_gr (j := 0) (k := 30) (f := 16) C rfl rfl (by decide) rfl in_X6_layDiagonals_X6 (by decide) lk_X6_layDiagonals_50 dX6_layDiagonals_53 rfl ?_
      refine ww_iload_n C dX6_layDiagonals_56 rfl 2 rfl ?_
      refine ww_iald (k := 42) (j := t) C rfl (by decide) (by decide) dX6_layDiagonals_57 rfl (by omega) ?_
      rw [hJ]
      refine ww_istore (fun y3 => [(5, .int (y3)), (4, .int (nI (K2 t))), (3, .int (nI (I t))), (2, .int (nI t)), (0, .ref (gA G 30 (0))), (1, .int (nI p))]) C dX6_layDiagonals_58 (by decide) (fun _ => rfl) (fun y3 ey3 => ?_)
      obtain rfl : y3 = nI (J t) := ey3
      refine ww_aload_n C dX6_layDiagonals_60 rfl 4 rfl ?_
      refine ww_gr (j := 0) (k := 30) (f := 22) C rfl rfl (by decide) rfl in_X6_layDiagonals_X6 (by decide) lk_X6_layDiagonals_66 dX6_layDiagonals_61 rfl ?_
      refine ww_bipush (v := 14) C dX6_layDiagonals_64 (by decide) ?_
      refine ww_iload_n C dX6_layDiagonals_66 rfl 2 rfl ?_
      refine ww_imul C dX6_layDiagonals_67 ?_
      rw [show (14) * (nI (I t)) = nI (14 * I t) from pk_mul (14) (I t)]
      refine ww_iload C dX6_layDiagonals_68 1 rfl ?_
      refine ww_iadd C dX6_layDiagonals_70 ?_
      rw [show (nI (14 * I t)) + (nI (K2 t)) = nI (14 * I t + K2 t) from nI_add (14 * I t) (K2 t)]
      refine ww_iload C dX6_layDiagonals_71 1 rfl ?_
      refine ww_iload_n C dX6_layDiagonals_73 rfl 2 rfl ?_
      refine ww_isub C dX6_layDiagonals_74 ?_
      rw [show (nI (K2 t)) - (nI (I t)) = nI (K2 t - I t) from pk_sub (by omega)]
      refine ww_iconst (v := 1) C dX6_layDiagonals_75 rfl ?_
      refine ww_bc_le C dX6_layDiagonals_76 dX6_layDiagonals_79 dX6_layDiagonals_80 dX6_layDiagonals_83 ?_
      refine ww_zast (k := 47) (j := 14 * I t + K2 t) C rfl (by decide) (by decide) dX6_layDiagonals_84 rfl (by omega) bI_n ?_
      obtain ⟨σ4, hσ4⟩ : ∃ z : Sg, z = (sgu τ 47 (0) (14 * I t + K2 t) (bI (decide ((1) < (nI (K2 t - I t)))))) := ⟨_, rfl⟩
      rw [← hσ4]
      refine ww_aload_n C dX6_layDiagonals_85 rfl 4 rfl ?_
      refine ww_gr (j := 0) (k := 30) (f := 22) C rfl rfl (by decide) rfl in_X6_layDiagonals_X6 (by decide) lk_X6_layDiagonals_66 dX6_layDiagonals_86 rfl ?_
      refine ww_bipush (v := 14) C dX6_layDiagonals_89 (by decide) ?_
      refine ww_iload C dX6_layDiagonals_91 1 rfl ?_
      refine ww_imul C dX6_layDiagonals_93 ?_
      rw [show (14) * (nI (K2 t)) = nI (14 * K2 t) from pk_mul (14) (K2 t)]
      refine ww_iload C dX6_layDiagonals_94 0 rfl ?_
      refine ww_iadd C dX6_layDiagonals_96 ?_
      rw [show (nI (14 * K2 t)) + (nI (J t)) = nI (14 * K2 t + J t) from nI_add (14 * K2 t) (J t)]
      refine ww_iload C dX6_layDiagonals_97 0 rfl ?_
      refine ww_iload C dX6_layDiagonals_99 1 rfl ?_
      refine ww_isub C dX6_layDiagonals_101 ?_
      rw [show (nI (J t)) - (nI (K2 t)) = nI (J t - K2 t) from pk_sub (by omega)]
      refine ww_iconst (v := 1) C dX6_layDiagonals_102 rfl ?_
      refine ww_bc_le C dX6_layDiagonals_103 dX6_layDiagonals_106 dX6_layDiagonals_107 dX6_layDiagonals_110 ?_
      refine ww_zast (k := 47) (j := 14 * K2 t + J t) C rfl (by decide) (by decide) dX6_layDiagonals_111 rfl (by omega) bI_n ?_
      obtain ⟨σ5, hσ5⟩ : ∃ z : Sg, z = (sgu σ4 47 (0) (14 * K2 t + J t) (bI (decide ((1) < (nI (J t - K2 t)))))) := ⟨_, rfl⟩
      rw [← hσ5]
      refine ww_iinc (q := 3) (fun y6 => [(2, .int (y6)), (5, .int (nI (J t))), (4, .int (nI (K2 t))), (3, .int (nI (I t))), (0, .ref (gA G 30 (0))), (1, .int (nI p))]) C dX6_layDiagonals_112 rfl (by decide) (fun _ => rfl) (fun y6 ey6 => ?_)
      obtain rfl : y6 = nI (t + 1) := ninc rfl ey6
      refine ww_goto 29 C dX6_layDiagonals_115 (by decide) ?_
      exact ww_sub [0, 4, 5] rfl (ih (t + 1) _ (by omega) (by omega) (d1_s (τ1 := σ4) (by omega) (by omega) hk (by rw [hσ4, dc1 (m := K2 t - I t) (by omega)]) (by rw [hσ5, dc1 (m := J t - K2 t) (by omega)])))
set_option maxHeartbeats 4000000 in
set_option maxRecDepth 100000 in
theorem lp_X6_layDiagonals_k {K : Kx} {G : Gx} (hA : wa G) (C : CX K G cX6_layDiagonals 6 RX6 wsX6_layDiagonals (rmd 8) none) (ω : Sg) (p : Nat) (hp : p < 8) (Q : State → Prop) (kx : ∀ τ, D0 ω τ 196 → WW K G 6 Q τ [(2, .int (nI 0)), (0, .ref (gA G 30 (0))), (1, .int (nI p))] 29 []) : ∀ (f k : Nat) (τ : Sg), 196 - k < f → (k ≤ 196) → (D0 ω τ k) → WW K G 6 Q τ [(2, .int (nI k)), (0, .ref (gA G 30 (0))), (1, .int (nI p))] 7 [] := by
  intro f
  induction f with
  | zero => intro k τ h; exact absurd h (Nat.not_lt_zero _)
  | succ f ih =>
    intro k τ hf hk9 hk
    refine ww_iload_n C dX6_layDiagonals_7 rfl 0 rfl ?_
    refine ww_sipush (v := 196) C dX6_layDiagonals_8 (by decide) ?_
    refine ww_icmp_ge 27 C dX6_layDiagonals_11 (by decide) (fun h11 => ?_) (fun h11 => ?_)
    · have g11 : 196 ≤ k := (cv_le (a := 196) (b := k) (by decide) rfl (by omega) (by omega)).mp h11
      refine ww_iconst (v := 0) C dX6_layDiagonals_27 rfl ?_
      refine ww_istore_n (fun y1 => [(2, .int (y1)), (0, .ref (gA G 30 (0))), (1, .int (nI p))]) C dX6_layDiagonals_28 rfl (by decide) (fun _ => rfl) (fun y1 ey1 => ?_)
      obtain rfl : y1 = nI 0 := (ey1.trans (by decide))
      have e9 : k = 196 := by omega
      rw [e9] at hk
      exact ww_sub [0, 1, 2] rfl (kx _ hk)
    · have g11 : ¬ 196 ≤ k := fun q => h11 ((cv_le (a := 196) (b := k) (by decide) rfl (by omega) (by omega)).mpr q)
      refine ww_aload_n C dX6_layDiagonals_14 rfl 1 rfl ?_
      refine ww_gr (j := 0) (k := 30) (f := 22) C rfl rfl (by decide) rfl in_X6_layDiagonals_X6 (by decide) lk_X6_layDiagonals_66 dX6_layDiagonals_15 rfl ?_
      refine ww_iload_n C dX6_layDiagonals_18 rfl 0 rfl ?_
      refine ww_iconst (v := 0) C dX6_layDiagonals_19 rfl ?_
      refine ww_zast (k := 47) (j := k) C rfl (by decide) (by decide) dX6_layDiagonals_20 rfl (by omega) rfl ?_
      obtain ⟨σ2, hσ2⟩ : ∃ z : Sg, z = (sgu τ 47 (0) (k) (0)) := ⟨_, rfl⟩
      rw [← hσ2]
      refine ww_iinc (q := 0) (fun y3 => [(2, .int (y3)), (0, .ref (gA G 30 (0))), (1, .int (nI p))]) C dX6_layDiagonals_21 rfl (by decide) (fun _ => rfl) (fun y3 ey3 => ?_)
      obtain rfl : y3 = nI (k + 1) := ninc rfl ey3
      refine ww_goto 7 C dX6_layDiagonals_24 (by decide) ?_
      exact ww_sub [0, 1, 2] rfl (ih (k + 1) _ (by omega) (by omega) (d0_s hk hσ2))
set_option maxHeartbeats 4000000 in
set_option maxRecDepth 100000 in
theorem c_X6_layDiagonals (l : Launch) (G : Gx) (hA : wa G) (σ : Sg) (p n : Nat) (hp : p < 8) (hs : σ 33 0 p = nI n) (h3 : 3 ≤ n) (hn : n ≤ 14) : CtV l yX6_layDiagonals wsX6_layDiagonals (rmd 8) G [.ref (gA G 30 (0)), .int (nI p)] σ (fun σ2 => ∃ ρ, PTA σ ρ n (jnA n (fun i => σ 34 0 (14 * p + i)) (fun i => σ 35 0 (14 * p + i))) ∧ LDe σ σ2 n (fun i => σ 34 0 (14 * p + i)) (fun i => σ 35 0 (14 * p + i)) (trF (tb9 ρ 39) (tb9 ρ 38))) := by
  refine ct_v (maxL := 6) (ret := none) (by decide) rfl (Nat.le_of_ble_eq_true rfl) hA (fun K hl C => ?_)
  subst hl
  change WW K G _ _ σ [(0, .ref (gA G 30 (0))), (1, .int (nI p))] 0 []
  refine ww_aload_n C dX6_layDiagonals_0 rfl 0 rfl ?_
  refine ww_iload_n C dX6_layDiagonals_1 rfl 1 rfl ?_
  refine ww_callv (cx_V (n := 1) (As := [.int (nI p)]) C  (c_X6_layTriangles (kL K) G hA _ p n hp hs h3 hn) gX6_layDiagonals_X6_layTriangles rfl ⟨rfl, rfl⟩ (by decide +kernel) (by decide) rfl (by decide) rfl rfl rfl (Nat.le_of_ble_eq_true rfl) dX6_layDiagonals_2) ?_
  intro τ hτ
  obtain ⟨ρ, hρ, hR⟩ := hτ
  refine ww_iconst (v := 0) C dX6_layDiagonals_5 rfl ?_
  refine ww_istore_n (fun y4 => [(2, .int (y4)), (0, .ref (gA G 30 (0))), (1, .int (nI p))]) C dX6_layDiagonals_6 rfl (by decide) (fun _ => rfl) (fun y4 ey4 => ?_)
  obtain rfl : y4 = nI 0 := (ey4.trans (by decide))
  have hT := tr_okT hρ
  obtain ⟨T, eT⟩ : ∃ z, z = (trF (tb9 ρ 39) (tb9 ρ 38)) := ⟨_, rfl⟩
  rw [← eT] at hT hR
  have hlen := trl_len hT n 0 (n - 1) (by omega) (by omega)
  have hs9 : τ 33 0 p = nI n := by rw [hR.1.1 33 (by decide), hρ.1 33 (by decide)]; exact hs
  have e34 : τ 34 = σ 34 := by rw [hR.1.1 34 (by decide), hρ.1 34 (by decide)]
  have e35 : τ 35 = σ 35 := by rw [hR.1.1 35 (by decide), hρ.1 35 (by decide)]
  refine ww_sub [0, 1, 2] rfl (lp_X6_layDiagonals_k hA C τ p hp _ (fun τ1 hk1 => ?_) 197 0 τ (by omega) (by omega) ⟨fun _ _ => rfl, fun f hf => absurd hf (Nat.not_lt_zero _)⟩)
  refine lp_X6_layDiagonals_t hA C τ p n hp hs9 h3 hn (lI (trl T n 0 (n - 1))) (lK (trl T n 0 (n - 1))) (lJ (trl T n 0 (n - 1))) hR.2.1 (fun t ht => ?_) _ (fun τ2 hk2 => ?_) (n + 1) 0 τ1 (by omega) (by omega) (d1_0 (Nat.le_refl _) hk1)
  · have hq := l_at (l := trl T n 0 (n - 1)) (t := t) (by omega)
    obtain ⟨r1, r2, r3⟩ := hR.2.2 t _ hq
    obtain ⟨-, a2, a3, a4, -, -⟩ := trl_in hT n 0 (n - 1) (by omega) (by omega) _ (List.mem_of_getElem? hq)
    exact ⟨r1, r2, r3, a2, a3, by have a4 : lJ (trl T n 0 (n - 1)) t ≤ n - 1 := a4; omega⟩
  have hs2 : τ2 33 0 p = nI n := by rw [hk2.1 33 (by decide)]; exact hs9
  refine ww_aload_n C dX6_layDiagonals_118 rfl 0 rfl ?_
  refine ww_iconst (v := 0) C dX6_layDiagonals_119 rfl ?_
  refine ww_pi (k := 30) (f := 18) C rfl rfl (by decide) rfl in_X6_layDiagonals_X6 tyX6_ok nmX6 (by decide) lk_X6_layDiagonals_163 rfl rfl dX6_layDiagonals_120 ?_
  obtain ⟨σ5, hσ5⟩ : ∃ z : Sg, z = (sgu τ2 30 (0) 18 (0)) := ⟨_, rfl⟩
  rw [← hσ5]
  refine ww_iconst (v := 0) C dX6_layDiagonals_123 rfl ?_
  refine ww_istore_n (fun y6 => [(2, .int (y6)), (0, .ref (gA G 30 (0))), (1, .int (nI p))]) C dX6_layDiagonals_124 rfl (by decide) (fun _ => rfl) (fun y6 ey6 => ?_)
  obtain rfl : y6 = nI 0 := (ey6.trans (by decide))
  have hl := dl_len hT h3
  obtain ⟨c, hc⟩ : ∃ z, z = jnR (lI (trl T n 0 (n - 1))) (lK (trl T n 0 (n - 1))) (lJ (trl T n 0 (n - 1))) (n - 2) := ⟨_, rfl⟩
  unfold D1 at hk2
  rw [← hc] at hk2 hl
  have hz18 : σ5 30 0 18 = nI 0 := by rw [hσ5, sgu_self]; rfl
  have hdg : dgL T n = dl c n := by rw [hc]; rfl
  have hs3 : σ5 33 0 p = nI n := by rw [hσ5, sgu_k (by decide)]; exact hs2
  refine ww_sub [0, 1, 2] rfl (lp_X6_layDiagonals_i hA C σ5 p n hp hs3 h3 hn c (fun a b ha hb => ?_) (by omega) _ (fun τ3 k3 k4 k5 => ?_) (n + 1) 0 _ [] (by omega) (by omega) (Or.inl ⟨⟨fun _ _ => rfl, fun _ _ => rfl⟩, hz18, fun d q h => by simp at h, dl_0 h3⟩))
  · rw [hσ5]; exact (hk2.2 a b ha hb)
  have hs4 : τ3 33 0 p = nI n := by rw [k3.1 33 (by decide)]; exact hs3
  have hlt : ∀ d, d < (dl c n).length → lA (dl c n) d < n ∧ lB (dl c n) d < n := fun d hd => by
    rw [← hdg] at hd ⊢
    have := dgl_lt hd
    omega
  refine ww_v2 (fun u q => ⟨ρ, hρ, ?_⟩) (lp_X6_layDiagonals_4 hA C τ3 p n hp hs4 h3 hn (lA (dl c n)) (lB (dl c n)) (dl c n).length (by omega) k4 (fun d hd => ?_) ((dl c n).length + 1) 0 τ3 (by omega) (by omega) ⟨fun _ _ => rfl, fun d hd => ?_⟩)
  · rw [← eT]
    have g34 : τ3 34 = σ 34 := by rw [k3.1 34 (by decide), hσ5, sgu_kk (by decide), hk2.1 34 (by decide), e34]
    have g35 : τ3 35 = σ 35 := by rw [k3.1 35 (by decide), hσ5, sgu_kk (by decide), hk2.1 35 (by decide), e35]
    refine ⟨⟨fun k hk hk0 => ?_, fun f hf1 hf2 => ?_⟩, ?_, fun d hd => ?_⟩
    · rw [q.1 k (by omega), k3.1 k (by omega), hσ5, sgu_kk hk0, hk2.1 k (by omega), hR.1.1 k (by omega), hρ.1 k (by omega)]
    · rw [q.1 30 (by decide), k3.2 f hf2, hσ5, sgu_f hf2, hk2.1 30 (by decide), hR.1.2 f hf1, hρ.1 30 (by decide)]
    · rw [q.1 30 (by decide), k4, hdg]
    · rw [hdg] at hd ⊢
      rw [q.1 44 (by decide), q.1 45 (by decide)]
      obtain ⟨a1, a2, -⟩ := k5 d _ (lA_at hd)
      refine ⟨a1, a2, ?_⟩
      rw [q.2 d hd, g34, g35]
  · obtain ⟨a1, a2, -⟩ := k5 d _ (lA_at hd)
    exact ⟨a1, a2, hlt d hd⟩
  · obtain ⟨-, -, a3⟩ := k5 d _ (lA_at hd)
    rw [a3]; rfl
