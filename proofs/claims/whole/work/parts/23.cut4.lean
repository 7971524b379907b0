
/-- triangles of the corners from i to j, numbered as the document has it -/
def trl (T : Nat → Nat → Nat) : Nat → Nat → Nat → List (Nat × Nat × Nat)
  | 0, _, _ => []
  | d + 1, i, j => if j ≤ i + 1 then [] else (i, T i j, j) :: (trl T d i (T i j) ++ trl T d (T i j) j)
def okT (T : Nat → Nat → Nat) (n : Nat) : Prop := ∀ i j, i + 2 ≤ j → j < n → i < T i j ∧ T i j < j
theorem trl_f {T : Nat → Nat → Nat} {n : Nat} (hT : okT T n) : ∀ (d d' i j : Nat), j < n → j - i ≤ d → j - i ≤ d' → trl T d i j = trl T d' i j
  | 0, 0, i, j, _, _, _ => rfl
  | 0, d' + 1, i, j, _, h, _ => by rw [trl, trl, if_pos (by omega)]
  | d + 1, 0, i, j, _, _, h => by rw [trl, trl, if_pos (by omega)]
  | d + 1, d' + 1, i, j, hj, h, h' => by
    rw [trl, trl]
    by_cases q : j ≤ i + 1
    · rw [if_pos q, if_pos q]
    · obtain ⟨h1, h2⟩ := hT i j (by omega) hj
      rw [if_neg q, if_neg q, trl_f hT d d' i (T i j) (by omega) (by omega) (by omega), trl_f hT d d' (T i j) j hj (by omega) (by omega)]
theorem trl_len {T : Nat → Nat → Nat} {n : Nat} (hT : okT T n) : ∀ (d i j : Nat), j < n → j - i ≤ d → (trl T d i j).length = j - i - 1
  | 0, i, j, _, h => by rw [trl]; simp; omega
  | d + 1, i, j, hj, h => by
    rw [trl]
    by_cases q : j ≤ i + 1
    · rw [if_pos q]; simp; omega
    · obtain ⟨h1, h2⟩ := hT i j (by omega) hj
      rw [if_neg q, List.length_cons, List.length_append, trl_len hT d i _ (by omega) (by omega), trl_len hT d _ j hj (by omega)]
      omega
theorem trl_s {T : Nat → Nat → Nat} {n : Nat} (hT : okT T n) {i j : Nat} (hij : i + 2 ≤ j) (hj : j < n) : trl T n i j = (i, T i j, j) :: (trl T n i (T i j) ++ trl T n (T i j) j) := by
  obtain ⟨h1, h2⟩ := hT i j hij hj
  obtain ⟨d, rfl⟩ : ∃ d, n = d + 1 := ⟨n - 1, by omega⟩
  rw [trl, if_neg (by omega), trl_f hT d (d + 1) i _ (by omega) (by omega) (by omega), trl_f hT d (d + 1) _ j hj (by omega) (by omega)]
theorem trl_e {T : Nat → Nat → Nat} {d i j : Nat} (h : j ≤ i + 1) : trl T d i j = [] := by
  cases d with
  | zero => rfl
  | succ d => rw [trl, if_pos h]
def nmS (σ : Sg) (p t a b : Nat) : Sg := sgu (sgu σ 20 p t (nI a)) 22 p t (nI b)
def okp (τ : Sg) (p : Nat) : Nat → List (Nat × Nat) → Prop
  | _, [] => True
  | t, s :: r => τ 20 p t = nI s.1 ∧ τ 22 p t = nI s.2 ∧ okp τ p (t + (s.2 - s.1 - 1)) r
theorem okp_f {τ τ' : Sg} {p : Nat} : ∀ (r : List (Nat × Nat)) (t : Nat), (∀ t', t ≤ t' → τ' 20 p t' = τ 20 p t' ∧ τ' 22 p t' = τ 22 p t') → okp τ p t r → okp τ' p t r
  | [], _, _, _ => trivial
  | s :: r, t, h, hk => ⟨(h t (Nat.le_refl t)).1.trans hk.1, (h t (Nat.le_refl t)).2.trans hk.2.1, okp_f r _ (fun t' ht => h t' (by omega)) hk.2.2⟩
def spl (T : Nat → Nat → Nat) (n : Nat) (s : Nat × Nat) : List (Nat × Nat × Nat) := trl T n s.1 s.2
def tri9 (τ : Sg) (p t : Nat) (q : Nat × Nat × Nat) : Prop := τ 20 p t = nI q.1 ∧ τ 21 p t = nI q.2.1 ∧ τ 22 p t = nI q.2.2
def NT (σ τ : Sg) (p n : Nat) (T : Nat → Nat → Nat) (t : Nat) (ps : List (Nat × Nat)) : Prop := (∀ k, k ≠ 20 ∧ k ≠ 21 ∧ k ≠ 22 → τ k = σ k) ∧ (∀ k i, i ≠ p → τ k i = σ k i) ∧ (∀ t' q, t' < t → (trl T n 0 (n - 1))[t']? = some q → tri9 τ p t' q) ∧ (trl T n 0 (n - 1)).drop t = ps.flatMap (spl T n) ∧ okp τ p t ps ∧ ∀ s ∈ ps, s.1 + 2 ≤ s.2 ∧ s.2 < n
theorem nmS_k {σ : Sg} {p t a b k : Nat} (h : k ≠ 20 ∧ k ≠ 22) : nmS σ p t a b k = σ k := by rw [nmS, sgu_kk h.2, sgu_kk h.1]
theorem nmS_i {σ : Sg} {p t a b k i : Nat} (h : i ≠ p) : nmS σ p t a b k i = σ k i := by funext f; rw [nmS, sgu_i h, sgu_i h]
theorem nmS_f {σ : Sg} {p t a b k f : Nat} (h : f ≠ t) : nmS σ p t a b k p f = σ k p f := by rw [nmS, sgu_f h, sgu_f h]
theorem nmS_20 {σ : Sg} {p t a b : Nat} : nmS σ p t a b 20 p t = nI a := by rw [nmS, sgu_k (by decide), sgu_self]
theorem nmS_22 {σ : Sg} {p t a b : Nat} : nmS σ p t a b 22 p t = nI b := by rw [nmS, sgu_self]
theorem nt_s {σ τ σ1 σ2 σ3 : Sg} {p n : Nat} {T : Nat → Nat → Nat} {t i j : Nat} {r : List (Nat × Nat)} (hT : okT T n) (h : NT σ τ p n T t ((i, j) :: r)) (e1 : σ1 = sgu τ 21 p t (nI (T i j))) (e2 : (1 < T i j - i ∧ σ2 = nmS σ1 p (t + 1) i (T i j)) ∨ (¬ 1 < T i j - i ∧ σ2 = σ1)) (e3 : (1 < j - T i j ∧ σ3 = nmS σ2 p (t + T i j - i) (T i j) j) ∨ (¬ 1 < j - T i j ∧ σ3 = σ2)) : ∃ ps, NT σ σ3 p n T (t + 1) ps := by
  obtain ⟨h1, h2, h3, h4, ⟨h5, h6, h7⟩, h8⟩ := h
  obtain ⟨hij, hjn⟩ := h8 (i, j) List.mem_cons_self
  obtain ⟨hk1, hk2⟩ := hT i j hij hjn
  have hk1 : i < T i j := hk1
  generalize hk : T i j = k at *
  -- what changed
  have f20 : ∀ t', t' ≤ t ∨ t + (j - i - 1) ≤ t' → σ3 20 p t' = τ 20 p t' ∧ σ3 22 p t' = τ 22 p t' := fun t' ht => by
    have a1 : σ1 20 = τ 20 ∧ σ1 22 = τ 22 := ⟨by rw [e1, sgu_kk (by decide)], by rw [e1, sgu_kk (by decide)]⟩
    have a2 : σ2 20 p t' = τ 20 p t' ∧ σ2 22 p t' = τ 22 p t' := by
      rcases e2 with ⟨c, e⟩ | ⟨c, e⟩
      · rw [e, nmS_f (by omega), nmS_f (by omega), a1.1, a1.2]; exact ⟨rfl, rfl⟩
      · rw [e, a1.1, a1.2]; exact ⟨rfl, rfl⟩
    rcases e3 with ⟨c, e⟩ | ⟨c, e⟩
    · rw [e, nmS_f (by omega), nmS_f (by omega)]; exact a2
    · rw [e]; exact a2
  have f21 : σ3 21 = σ1 21 := by
    rcases e3 with ⟨c, e⟩ | ⟨c, e⟩
    · rw [e, nmS_k (by decide)]
      rcases e2 with ⟨c2, q⟩ | ⟨c2, q⟩
      · rw [q, nmS_k (by decide)]
      · rw [q]
    · rw [e]
      rcases e2 with ⟨c2, q⟩ | ⟨c2, q⟩
      · rw [q, nmS_k (by decide)]
      · rw [q]
  have hlt : (trl T n 0 (n - 1)).drop t = (i, k, j) :: ((trl T n i k ++ trl T n k j) ++ r.flatMap (spl T n)) := by
    rw [h4, List.flatMap_cons, spl, trl_s hT hij hjn, hk]
    rfl
  refine ⟨(if 1 < k - i then [(i, k)] else []) ++ ((if 1 < j - k then [(k, j)] else []) ++ r), fun x hx => ?_, fun x y hy => ?_, fun t' q ht hq => ?_, ?_, ?_, ?_⟩
  · have b1 : σ1 x = σ x := by rw [e1, sgu_kk hx.2.1, h1 x hx]
    have b2 : σ2 x = σ x := by
      rcases e2 with ⟨c, e⟩ | ⟨c, e⟩
      · rw [e, nmS_k ⟨hx.1, hx.2.2⟩, b1]
      · rw [e, b1]
    rcases e3 with ⟨c, e⟩ | ⟨c, e⟩
    · rw [e, nmS_k ⟨hx.1, hx.2.2⟩, b2]
    · rw [e, b2]
  · have b1 : σ1 x y = σ x y := by rw [e1, ← h2 x y hy]; funext f; exact sgu_i hy
    have b2 : σ2 x y = σ x y := by
      rcases e2 with ⟨c, e⟩ | ⟨c, e⟩
      · rw [e, nmS_i hy, b1]
      · rw [e, b1]
    rcases e3 with ⟨c, e⟩ | ⟨c, e⟩
    · rw [e, nmS_i hy, b2]
    · rw [e, b2]
  · obtain ⟨c1, c2⟩ := f20 t' (by omega)
    unfold tri9
    rw [c1, c2, f21, e1]
    by_cases q2 : t' = t
    · subst q2
      have e9 : (trl T n 0 (n - 1))[t']? = some (i, k, j) := by
        have := congrArg (fun l => l[0]?) hlt
        simpa using this
      rw [e9] at hq
      cases hq
      exact ⟨h5, sgu_self, h6⟩
    · rw [sgu_f q2]
      exact h3 t' q (by omega) hq
  · rw [← List.drop_drop, hlt, List.drop_succ_cons, List.drop_zero, List.flatMap_append, List.flatMap_append, List.append_assoc]
    congr 1
    · by_cases c : 1 < k - i
      · rw [if_pos c, List.flatMap_cons, List.flatMap_nil, List.append_nil]; rfl
      · rw [if_neg c, trl_e (by omega)]; rfl
    · congr 1
      by_cases c : 1 < j - k
      · rw [if_pos c, List.flatMap_cons, List.flatMap_nil, List.append_nil]; rfl
      · rw [if_neg c, trl_e (by omega)]; rfl
  · have hr : okp σ3 p (t + (j - i - 1)) r := okp_f r _ (fun t' ht => f20 t' (Or.inr ht)) h7
    by_cases c1 : 1 < k - i <;> by_cases c2 : 1 < j - k
    · obtain ⟨-, q2⟩ := e2.resolve_right (fun q => q.1 c1)
      obtain ⟨-, q3⟩ := e3.resolve_right (fun q => q.1 c2)
      rw [if_pos c1, if_pos c2]
      refine ⟨?_, ?_, ?_, ?_, ?_⟩
      · show σ3 20 p (t + 1) = _
        rw [q3, nmS_f (by omega), q2, nmS_20]
      · show σ3 22 p (t + 1) = _
        rw [q3, nmS_f (by omega), q2, nmS_22]
      · show σ3 20 p (t + 1 + (k - i - 1)) = _
        rw [show t + 1 + (k - i - 1) = t + k - i by omega, q3, nmS_20]
      · show σ3 22 p (t + 1 + (k - i - 1)) = _
        rw [show t + 1 + (k - i - 1) = t + k - i by omega, q3, nmS_22]
      · show okp σ3 p (t + 1 + (k - i - 1) + (j - k - 1)) r
        rw [show t + 1 + (k - i - 1) + (j - k - 1) = t + (j - i - 1) by omega]
        exact hr
    · obtain ⟨-, q2⟩ := e2.resolve_right (fun q => q.1 c1)
      obtain ⟨-, q3⟩ := e3.resolve_left (fun q => c2 q.1)
      rw [if_pos c1, if_neg c2]
      refine ⟨?_, ?_, ?_⟩
      · show σ3 20 p (t + 1) = _
        rw [q3, q2, nmS_20]
      · show σ3 22 p (t + 1) = _
        rw [q3, q2, nmS_22]
      · show okp σ3 p (t + 1 + (k - i - 1)) r
        rw [show t + 1 + (k - i - 1) = t + (j - i - 1) by omega]
        exact hr
    · obtain ⟨-, q2⟩ := e2.resolve_left (fun q => c1 q.1)
      obtain ⟨-, q3⟩ := e3.resolve_right (fun q => q.1 c2)
      rw [if_neg c1, if_pos c2]
      refine ⟨?_, ?_, ?_⟩
      · show σ3 20 p (t + 1) = _
        rw [show t + 1 = t + k - i by omega, q3, nmS_20]
      · show σ3 22 p (t + 1) = _
        rw [show t + 1 = t + k - i by omega, q3, nmS_22]
      · show okp σ3 p (t + 1 + (j - k - 1)) r
        rw [show t + 1 + (j - k - 1) = t + (j - i - 1) by omega]
        exact hr
    · rw [if_neg c1, if_neg c2]
      show okp σ3 p (t + 1) r
      rw [show t + 1 = t + (j - i - 1) by omega]
      exact hr
  · intro s hs
    rcases List.mem_append.mp hs with q | q
    · by_cases c : 1 < k - i
      · rw [if_pos c] at q
        rw [List.mem_singleton.mp q]
        exact ⟨by show i + 2 ≤ k; omega, by show k < n; omega⟩
      · rw [if_neg c] at q
        cases q
    · rcases List.mem_append.mp q with q | q
      · by_cases c : 1 < j - k
        · rw [if_pos c] at q
          rw [List.mem_singleton.mp q]
          exact ⟨by show k + 2 ≤ j; omega, hjn⟩
        · rw [if_neg c] at q
          cases q
      · exact h8 s (List.mem_cons_of_mem _ q)
