theorem in_X6_layTriangles_X6 : ∀ w ∈ wsX60, w ∈ wsX6_layTriangles := by decide +kernel
theorem lk_X6_layTriangles_38 : Cond.fieldLink RX6 38 "PolyCutsModel" "sums" "[I" ∈ wsX6_layTriangles := by decide +kernel
theorem lk_X6_layTriangles_53 : Cond.fieldLink RX6 53 "PolyCutsModel" "pile" "[I" ∈ wsX6_layTriangles := by decide +kernel
theorem lk_X6_layTriangles_44 : Cond.fieldLink RX6 44 "PolyCutsModel" "triangleI" "[I" ∈ wsX6_layTriangles := by decide +kernel
theorem lk_X6_layTriangles_157 : Cond.fieldLink RX6 157 "PolyCutsModel" "triangles" "I" ∈ wsX6_layTriangles := by decide +kernel
theorem lk_X6_layTriangles_47 : Cond.fieldLink RX6 47 "PolyCutsModel" "triangleK" "[I" ∈ wsX6_layTriangles := by decide +kernel
theorem lk_X6_layTriangles_50 : Cond.fieldLink RX6 50 "PolyCutsModel" "triangleJ" "[I" ∈ wsX6_layTriangles := by decide +kernel
theorem lk_X6_layTriangles_16 : Cond.fieldLink RX6 16 "PolyCutsModel" "corners" "[I" ∈ wsX6_layTriangles := by decide +kernel
theorem fnd_ge0 {p : Nat → Bool} : ∀ (d a j : Nat), fnd p a d = some j → a ≤ j
  | 0, a, j, h => by cases h
  | d + 1, a, j, h => by
    rw [fnd] at h
    by_cases hp : p a = true
    · rw [if_pos hp] at h
      cases h
      exact Nat.le_refl _
    · rw [if_neg hp] at h
      have := fnd_ge0 d (a + 1) j h
      omega
theorem fnd_ge {p : Nat → Bool} {a n j : Nat} (h : fndN p a n = some j) : a ≤ j := fnd_ge0 _ _ _ h
theorem fnd_ex2 {p : Nat → Bool} {a n j : Nat} (ha : a ≤ j) (h : j < n) (hp : p j = true) : ∃ i, fndN p a n = some i := fnd_ex0 (n - a) a j ha (by omega) hp
/-- the least third corner with the least sum -/
def trP (J S : Nat → Nat → Int32) (i j : Nat) : Nat → Bool := fun k => decide (sbF J S i k j = S i j)
def trF (J S : Nat → Nat → Int32) (i j : Nat) : Nat := (fndN (trP J S i j) (i + 1) j).getD 0
theorem pcS_ex {J W S : Nat → Nat → Int32} {i j : Nat} : ∀ d, ((pcS J W S i j d).2 = -1 ∧ ∀ e, e < d → sbF J S i (i + 1 + e) j = -1) ∨ ∃ e, e < d ∧ sbF J S i (i + 1 + e) j = (pcS J W S i j d).2
  | 0 => Or.inl ⟨rfl, fun e h => absurd h (Nat.not_lt_zero e)⟩
  | d + 1 => by
    by_cases h : sbF J S i (i + 1 + d) j = -1
    · rw [pcS_n rfl h]
      rcases pcS_ex (J := J) (W := W) (S := S) (i := i) (j := j) d with ⟨h1, h2⟩ | ⟨e, h1, h2⟩
      · refine Or.inl ⟨h1, fun e he => ?_⟩
        rcases Nat.lt_or_ge e d with q | q
        · exact h2 e q
        · rw [show e = d by omega]; exact h
      · exact Or.inr ⟨e, by omega, h2⟩
    · by_cases h2 : (pcS J W S i j d).2 = -1 ∨ sbF J S i (i + 1 + d) j < (pcS J W S i j d).2
      · rw [pcS_t rfl h h2]
        exact Or.inr ⟨d, by omega, rfl⟩
      · rw [pcS_f rfl h h2]
        rcases pcS_ex (J := J) (W := W) (S := S) (i := i) (j := j) d with ⟨h3, -⟩ | ⟨e, h3, h4⟩
        · exact absurd (Or.inl h3) h2
        · exact Or.inr ⟨e, by omega, h4⟩
theorem tr_some {J W S : Nat → Nat → Int32} {i j : Nat} (hij : i + 2 ≤ j) (h : S i j = (pcS J W S i j (j - i - 1)).2) : fndN (trP J S i j) (i + 1) j = some (trF J S i j) := by
  have h1 : ∃ k, i + 1 ≤ k ∧ k < j ∧ trP J S i j k = true := by
    rcases pcS_ex (J := J) (W := W) (S := S) (i := i) (j := j) (j - i - 1) with ⟨h3, h4⟩ | ⟨e, h3, h4⟩
    · exact ⟨i + 1 + 0, by omega, by omega, decide_eq_true (by rw [h4 0 (by omega), h, h3])⟩
    · exact ⟨i + 1 + e, by omega, by omega, decide_eq_true (by rw [h4, h])⟩
  obtain ⟨k, a1, a2, a3⟩ := h1
  obtain ⟨m, hm⟩ := fnd_ex2 (a := i + 1) a1 a2 a3
  rw [trF, hm]
  rfl
theorem tr_lt {J W S : Nat → Nat → Int32} {i j : Nat} (hij : i + 2 ≤ j) (h : S i j = (pcS J W S i j (j - i - 1)).2) : i < trF J S i j ∧ trF J S i j < j := by
  have h1 := tr_some hij h
  exact ⟨fnd_ge h1, fnd_lt h1⟩
theorem pta_S {σ τ : Sg} {n : Nat} {A : Nat → Nat → Int32} (h : PTA σ τ n A) {i j : Nat} (hij : i + 2 ≤ j) (hj : j < n) : tb9 τ 38 i j = (pcS (tb9 τ 39) (tb9 τ 37) (tb9 τ 38) i j (j - i - 1)).2 := by
  rw [← h.2.2.2 i j hij hj]
theorem tr_okT {σ τ : Sg} {n : Nat} {A : Nat → Nat → Int32} (h : PTA σ τ n A) : okT (trF (tb9 τ 39) (tb9 τ 38)) n := fun i j hij hj => tr_lt hij (pta_S h hij hj)
def pil (τ : Sg) : List (Nat × Nat) → Prop
  | [] => True
  | s :: r => τ 43 0 (2 * r.length) = nI s.1 ∧ τ 43 0 (2 * r.length + 1) = nI s.2 ∧ pil τ r
theorem pil_f {τ τ' : Sg} : ∀ (r : List (Nat × Nat)), (∀ f, f < 2 * r.length → τ' 43 0 f = τ 43 0 f) → pil τ r → pil τ' r
  | [], _, _ => trivial
  | s :: r, h, hk => by
    have hl : (s :: r).length = r.length + 1 := rfl
    exact ⟨(h _ (by omega)).trans hk.1, (h _ (by omega)).trans hk.2.1, pil_f r (fun f hf => h f (by omega)) hk.2.2⟩
def wid : List (Nat × Nat) → Nat
  | [] => 0
  | s :: r => (s.2 - s.1) + wid r
def mu9 : List (Nat × Nat) → Nat
  | [] => 0
  | s :: r => (2 * (s.2 - s.1) - 1) + mu9 r
def trR (τ : Sg) (t : Nat) (q : Nat × Nat × Nat) : Prop := τ 40 0 t = nI q.1 ∧ τ 41 0 t = nI q.2.1 ∧ τ 42 0 t = nI q.2.2
def RTk (σ τ : Sg) : Prop := (∀ k, k ≠ 30 ∧ k ≠ 40 ∧ k ≠ 41 ∧ k ≠ 42 ∧ k ≠ 43 → τ k = σ k) ∧ ∀ f, f ≠ 13 → τ 30 0 f = σ 30 0 f
def RT (σ τ : Sg) (n : Nat) (T : Nat → Nat → Nat) (t : Nat) (ps : List (Nat × Nat)) : Prop := RTk σ τ ∧ τ 30 0 13 = nI t ∧ (∀ t' q, t' < t → (trl T n 0 (n - 1))[t']? = some q → trR τ t' q) ∧ (trl T n 0 (n - 1)).drop t = ps.flatMap (spl T n) ∧ pil τ ps ∧ (∀ s ∈ ps, s.1 < s.2 ∧ s.2 < n) ∧ wid ps ≤ n - 1 ∧ t ≤ (trl T n 0 (n - 1)).length
theorem wid_len : ∀ (ps : List (Nat × Nat)), (∀ s ∈ ps, s.1 < s.2) → ps.length ≤ wid ps
  | [], _ => Nat.le_refl 0
  | s :: r, h => by
    have h1 := wid_len r (fun x hx => h x (List.mem_cons_of_mem _ hx))
    have h2 := h s List.mem_cons_self
    rw [wid, List.length_cons]
    omega
theorem rt_l {σ τ : Sg} {n : Nat} {T : Nat → Nat → Nat} {t : Nat} {ps : List (Nat × Nat)} (hn : n ≤ 14) (h : RT σ τ n T t ps) : ps.length ≤ 13 := by
  have h1 := wid_len ps (fun s hs => (h.2.2.2.2.2.1 s hs).1)
  have h2 := h.2.2.2.2.2.2.1
  omega
theorem rt_p {σ τ : Sg} {n : Nat} {T : Nat → Nat → Nat} {t i j : Nat} {r : List (Nat × Nat)} (hj : ¬ 1 < j - i) (h : RT σ τ n T t ((i, j) :: r)) : RT σ τ n T t r := by
  obtain ⟨h1, h2, h3, h4, h5, h6, h7, h8⟩ := h
  refine ⟨h1, h2, h3, ?_, h5.2.2, fun s hs => h6 s (List.mem_cons_of_mem _ hs), ?_, h8⟩
  · rw [h4, List.flatMap_cons, spl, trl_e (show j ≤ i + 1 by omega)]; rfl
  · rw [wid] at h7; omega
theorem rt_mu {i j : Nat} {r : List (Nat × Nat)} : mu9 ((i, j) :: r) = (2 * (j - i) - 1) + mu9 r := rfl
theorem rt_t {σ τ : Sg} {n : Nat} {T : Nat → Nat → Nat} {t i j : Nat} {r : List (Nat × Nat)} (hT : okT T n) (hj : 1 < j - i) (h : RT σ τ n T t ((i, j) :: r)) : t < n - 2 := by
  obtain ⟨h1, h2, h3, h4, h5, h6, h7, h8⟩ := h
  have q := (h6 (i, j) List.mem_cons_self).2
  have q : j < n := q
  have e := congrArg List.length h4
  rw [List.length_drop, trl_len hT n 0 (n - 1) (by omega) (by omega), List.flatMap_cons, List.length_append, spl, trl_len hT n i j q (by omega)] at e
  omega
theorem rt_s {σ τ σ1 σ2 σ3 σ4 σ5 σ6 σ7 σ8 : Sg} {n : Nat} {T : Nat → Nat → Nat} {t i j : Nat} {r : List (Nat × Nat)} (hT : okT T n) (hj : 1 < j - i) (h : RT σ τ n T t ((i, j) :: r)) (e1 : σ1 = sgu τ 40 0 t (nI i)) (e2 : σ2 = sgu σ1 41 0 t (nI (T i j))) (e3 : σ3 = sgu σ2 42 0 t (nI j)) (e4 : σ4 = sgu σ3 30 0 13 (nI (t + 1))) (e5 : σ5 = sgu σ4 43 0 (2 * r.length) (nI (T i j))) (e6 : σ6 = sgu σ5 43 0 (2 * r.length + 1) (nI j)) (e7 : σ7 = sgu σ6 43 0 (2 * r.length + 2) (nI i)) (e8 : σ8 = sgu σ7 43 0 (2 * r.length + 3) (nI (T i j))) : RT σ σ8 n T (t + 1) ((i, T i j) :: (T i j, j) :: r) := by
  have ht := rt_t hT hj h
  obtain ⟨h1, h2, h3, h4, h5, h6, h7, h8⟩ := h
  have hjn : j < n := (h6 (i, j) List.mem_cons_self).2
  obtain ⟨hk1, hk2⟩ := hT i j (by omega) hjn
  generalize hk : T i j = k at *
  have hlt : (trl T n 0 (n - 1)).drop t = (i, k, j) :: ((trl T n i k ++ trl T n k j) ++ r.flatMap (spl T n)) := by
    rw [h4, List.flatMap_cons, spl, trl_s hT (by omega) hjn, hk]
    rfl
  have g4 : ∀ x, x ≠ 43 → σ8 x = σ4 x := fun x hx => by rw [e8, sgu_kk hx, e7, sgu_kk hx, e6, sgu_kk hx, e5, sgu_kk hx]
  have g0 : ∀ x, x ≠ 30 ∧ x ≠ 40 ∧ x ≠ 41 ∧ x ≠ 42 ∧ x ≠ 43 → σ8 x = τ x := fun x hx => by rw [g4 x hx.2.2.2.2, e4, sgu_kk hx.1, e3, sgu_kk hx.2.2.2.1, e2, sgu_kk hx.2.2.1, e1, sgu_kk hx.2.1]
  refine ⟨⟨fun x hx => by rw [g0 x hx, h1.1 x hx], fun f hf => ?_⟩, ?_, fun t' q ht' hq => ?_, ?_, ⟨?_, ?_, ?_, ?_, ?_⟩, fun s hs => ?_, ?_, ?_⟩
  · rw [g4 30 (by decide), e4, sgu_f hf, e3, sgu_kk (by decide), e2, sgu_kk (by decide), e1, sgu_kk (by decide), h1.2 f hf]
  · rw [g4 30 (by decide), e4, sgu_self]
  · unfold trR
    rw [g4 40 (by decide), g4 41 (by decide), g4 42 (by decide), e4, sgu_k (by decide), sgu_k (by decide), sgu_k (by decide), e3, sgu_k (k' := 40) (by decide), sgu_k (k' := 41) (by decide), e2, sgu_k (k' := 40) (by decide), e1]
    by_cases q2 : t' = t
    · subst q2
      have e9 : (trl T n 0 (n - 1))[t']? = some (i, k, j) := by
        have := congrArg (fun l => l[0]?) hlt
        simpa using this
      rw [e9] at hq
      cases hq
      exact ⟨sgu_self, sgu_self, sgu_self⟩
    · have h9 := h3 t' q (by omega) hq
      simp only [sgu_f q2]
      exact h9
  · rw [← List.drop_drop, hlt, List.drop_succ_cons, List.drop_zero, List.flatMap_cons, List.flatMap_cons, List.append_assoc]
    rfl
  · show σ8 43 0 (2 * (r.length + 1)) = nI i
    rw [show 2 * (r.length + 1) = 2 * r.length + 2 by omega, e8, sgu_f (by omega), e7, sgu_self]
  · show σ8 43 0 (2 * (r.length + 1) + 1) = nI k
    rw [show 2 * (r.length + 1) + 1 = 2 * r.length + 3 by omega, e8, sgu_self]
  · show σ8 43 0 (2 * r.length) = nI k
    rw [e8, sgu_f (by omega), e7, sgu_f (by omega), e6, sgu_f (by omega), e5, sgu_self]
  · show σ8 43 0 (2 * r.length + 1) = nI j
    rw [e8, sgu_f (by omega), e7, sgu_f (by omega), e6, sgu_self]
  · refine pil_f r (fun f hf => ?_) h5.2.2
    rw [e8, sgu_f (by omega), e7, sgu_f (by omega), e6, sgu_f (by omega), e5, sgu_f (by omega), e4, sgu_k (by decide), e3, sgu_k (by decide), e2, sgu_k (by decide), e1, sgu_k (by decide)]
  · rcases List.mem_cons.mp hs with q | q
    · rw [q]; exact ⟨hk1, show k < n by omega⟩
    · rcases List.mem_cons.mp q with q | q
      · rw [q]; exact ⟨hk2, hjn⟩
      · exact h6 s (List.mem_cons_of_mem _ q)
  · rw [wid] at h7
    rw [wid, wid]
    show (k - i) + ((j - k) + wid r) ≤ n - 1
    have h7 : (j - i) + wid r ≤ n - 1 := h7
    omega
  · rw [trl_len hT n 0 (n - 1) (by omega) (by omega)]
    omega
def RTe (σ τ : Sg) (n : Nat) (T : Nat → Nat → Nat) : Prop := RTk σ τ ∧ τ 30 0 13 = nI (n - 2) ∧ ∀ t q, (trl T n 0 (n - 1))[t]? = some q → trR τ t q
theorem rt_e {σ τ : Sg} {n : Nat} {T : Nat → Nat → Nat} {t : Nat} (hT : okT T n) (h3 : 3 ≤ n) (h : RT σ τ n T t []) : RTe σ τ n T := by
  obtain ⟨h1, h2, h4, h5, -, -, -, h8⟩ := h
  have hl := trl_len hT n 0 (n - 1) (by omega) (by omega)
  have e := congrArg List.length h5
  rw [List.length_drop, hl] at e
  simp at e
  rw [hl] at h8
  have ht : t = n - 2 := by omega
  refine ⟨h1, by rw [h2, ht], fun t' q hq => h4 t' q ?_ hq⟩
  have := (List.getElem?_eq_some_iff.mp hq).1
  omega
theorem rt_0 {σ σ1 σ2 σ3 : Sg} {n : Nat} {T : Nat → Nat → Nat} (h3 : 3 ≤ n) (e1 : σ1 = sgu σ 30 0 13 0) (e2 : σ2 = sgu σ1 43 0 0 0) (e3 : σ3 = sgu σ2 43 0 1 (nI (n - 1))) : RT σ σ3 n T 0 [(0, n - 1)] := by
  refine ⟨⟨fun k hk => by rw [e3, sgu_kk hk.2.2.2.2, e2, sgu_kk hk.2.2.2.2, e1, sgu_kk hk.1], fun f hf => by rw [e3, sgu_kk (by decide), e2, sgu_kk (by decide), e1, sgu_f hf]⟩, ?_, fun t' q ht => absurd ht (Nat.not_lt_zero _), ?_, ⟨?_, ?_, trivial⟩, fun s hs => ?_, ?_, Nat.zero_le _⟩
  · rw [e3, sgu_kk (by decide), e2, sgu_kk (by decide), e1, sgu_self]; rfl
  · rw [List.drop_zero, List.flatMap_cons, List.flatMap_nil, List.append_nil]; rfl
  · show σ3 43 0 0 = nI 0
    rw [e3, sgu_f (by omega), e2, sgu_self]; rfl
  · show σ3 43 0 1 = nI (n - 1)
    rw [e3, sgu_self]
  · rw [List.mem_singleton.mp hs]
    exact ⟨by show 0 < n - 1; omega, by show n - 1 < n; omega⟩
  · show (n - 1 - 0) + 0 ≤ n - 1
    omega
theorem dec2 (m : Nat) : nI (2 * (m + 1)) + Int32.ofInt (-2) = nI (2 * m) := by
  have h : Int32.ofInt (-2) = -2 := by decide
  rw [h, show 2 * (m + 1) = 2 * m + 1 + 1 by omega, nI_succ, nI_succ]
  grind
theorem inc4 (m : Nat) : nI (2 * m) + Int32.ofInt 4 = nI (2 * (m + 2)) := by
  have h : Int32.ofInt 4 = 4 := by decide
  rw [h, show 2 * (m + 2) = 2 * m + 1 + 1 + 1 + 1 by omega, nI_succ, nI_succ, nI_succ, nI_succ]
  grind
set_option maxHeartbeats 4000000 in
set_option maxRecDepth 100000 in
theorem lp_X6_layTriangles_k {K : Kx} {G : Gx} (hA : wa G) (C : CX K G cX6_layTriangles 6 RX6 wsX6_layTriangles (rmd 7) none) (σ τ : Sg) (p n i j m : Nat) (r : List (Nat × Nat)) (hn : n ≤ 14) (hij : i < j) (hj : j < n) (e38 : tb9 τ 38 = tb9 σ 38) (e39 : tb9 τ 39 = tb9 σ 39) (Q : State → Prop) (kx : WW K G 6 Q τ [(5, .int (nI m)), (4, .int (nI j)), (3, .int (nI i)), (2, .int (nI (2 * r.length))), (0, .ref (gA G 30 (0))), (1, .int (nI p))] 100 []) : ∀ (f k : Nat), j - k < f → (fndN (trP (tb9 σ 39) (tb9 σ 38) i j) k j = some m) → WW K G 6 Q τ [(5, .int (nI k)), (4, .int (nI j)), (3, .int (nI i)), (2, .int (nI (2 * r.length))), (0, .ref (gA G 30 (0))), (1, .int (nI p))] 70 [] := by
  intro f
  induction f with
  | zero => intro k  h; exact absurd h (Nat.not_lt_zero _)
  | succ f ih =>
    intro k  hf hv
    have hkj : k < j := by
      rcases Nat.lt_or_ge k j with q | q
      · exact q
      · rw [fndN_end q] at hv; cases hv
    refine ww_aload_n C dX6_layTriangles_70 rfl 4 rfl ?_
    refine ww_iload_n C dX6_layTriangles_71 rfl 2 rfl ?_
    refine ww_iload C dX6_layTriangles_72 0 rfl ?_
    refine ww_iload C dX6_layTriangles_74 1 rfl ?_
    refine ww_calliF (cx_V (n := 3) (As := [.int (nI i), .int (nI k), .int (nI j)]) C  (c_X6_sumBy (kL K) G hA _ i k j (by omega) (by omega) (by omega)) gX6_layTriangles_X6_sumBy rfl ⟨rfl, rfl⟩ (by decide +kernel) (by decide) rfl (by decide) rfl rfl rfl (Nat.le_of_ble_eq_true rfl) dX6_layTriangles_76) ?_
    refine ww_aload_n C dX6_layTriangles_79 rfl 4 rfl ?_
    refine ww_gr (j := 0) (k := 30) (f := 11) C rfl rfl (by decide) rfl in_X6_layTriangles_X6 (by decide) lk_X6_layTriangles_38 dX6_layTriangles_80 rfl ?_
    refine ww_bipush (v := 14) C dX6_layTriangles_83 (by decide) ?_
    refine ww_iload_n C dX6_layTriangles_85 rfl 2 rfl ?_
    refine ww_imul C dX6_layTriangles_86 ?_
    rw [show (14) * (nI i) = nI (14 * i) from pk_mul (14) (i)]
    refine ww_iload C dX6_layTriangles_87 1 rfl ?_
    refine ww_iadd C dX6_layTriangles_89 ?_
    rw [show (nI (14 * i)) + (nI j) = nI (14 * i + j) from nI_add (14 * i) (j)]
    refine ww_iald (k := 38) (j := 14 * i + j) C rfl (by decide) (by decide) dX6_layTriangles_90 rfl (by omega) ?_
    refine ww_icmp_eq 100 C dX6_layTriangles_91 (by decide) (fun h91 => ?_) (fun h91 => ?_)
    · have h9 : sbF (tb9 τ 39) (tb9 τ 38) i k j = tb9 τ 38 i j := h91
      rw [e38, e39] at h9
      have hz2 : k = m := by rw [fndN_t hkj (decide_eq_true h9)] at hv; exact Option.some.inj hv
      subst hz2
      exact ww_sub [0, 1, 2, 3, 4, 5] rfl kx
    · refine ww_iinc (q := 0) (fun y1 => [(5, .int (y1)), (4, .int (nI j)), (3, .int (nI i)), (2, .int (nI (2 * r.length))), (0, .ref (gA G 30 (0))), (1, .int (nI p))]) C dX6_layTriangles_94 rfl (by decide) (fun _ => rfl) (fun y1 ey1 => ?_)
      obtain rfl : y1 = nI (k + 1) := ninc rfl ey1
      refine ww_goto 70 C dX6_layTriangles_97 (by decide) ?_
      exact ww_sub [0, 1, 2, 3, 4, 5] rfl (ih (k + 1) (by omega) (by rw [← fndN_f hkj (decide_eq_false (fun q => h91 (show sbF (tb9 τ 39) (tb9 τ 38) i k j = tb9 τ 38 i j from by rw [e38, e39]; exact q)))]; exact hv))
set_option maxHeartbeats 4000000 in
set_option maxRecDepth 100000 in
theorem lp_X6_layTriangles {K : Kx} {G : Gx} (hA : wa G) (C : CX K G cX6_layTriangles 6 RX6 wsX6_layTriangles (rmd 7) none) (σ : Sg) (p n : Nat) (hp : p < 8) (h3 : 3 ≤ n) (hn : n ≤ 14) (hT : okT (trF (tb9 σ 39) (tb9 σ 38)) n) (hTs : ∀ i j, i + 2 ≤ j → j < n → fndN (trP (tb9 σ 39) (tb9 σ 38) i j) (i + 1) j = some ((trF (tb9 σ 39) (tb9 σ 38)) i j)) : ∀ (f z : Nat) (τ : Sg) (t : Nat) (ps : List (Nat × Nat)), mu9 ps - z < f → (z = 0) → (RT σ τ n (trF (tb9 σ 39) (tb9 σ 38)) t ps) → WW K G 6 (QV K G (fun σ2 => RTe σ σ2 n (trF (tb9 σ 39) (tb9 σ 38)))) τ [(2, .int (nI (2 * ps.length))), (0, .ref (gA G 30 (0))), (1, .int (nI p))] 33 [] := by
  intro f
  induction f with
  | zero => intro z τ t ps h; exact absurd h (Nat.not_lt_zero _)
  | succ f ih =>
    intro z τ t ps hf hz hk
    have hlen := rt_l hn hk
    refine ww_iload_n C dX6_layTriangles_33 rfl 0 rfl ?_
    refine ww_if_le 185 C dX6_layTriangles_34 (by decide) (fun h34 => ?_) (fun h34 => ?_)
    · have g34 : 2 * ps.length ≤ 0 := (cv_le (a := 2 * ps.length) (b := 0) rfl (by decide) (by omega) (by omega)).mp h34
      obtain rfl : ps = [] := List.length_eq_zero_iff.mp (by omega)
      refine ww_vret C dX6_layTriangles_185 ?_
      exact rt_e hT h3 hk
    · have g34 : ¬ 2 * ps.length ≤ 0 := fun q => h34 ((cv_le (a := 2 * ps.length) (b := 0) rfl (by decide) (by omega) (by omega)).mpr q)
      obtain ⟨i, j, r, hps⟩ : ∃ i j r, ps = (i, j) :: r := by
        cases ps with
        | nil => exact absurd (Nat.le_refl 0) g34
        | cons s r => exact ⟨s.1, s.2, r, rfl⟩
      have hl : ps.length = r.length + 1 := by rw [hps]; rfl
      have hR := hk
      rw [hps] at hR
      obtain ⟨hij, hjn⟩ := hR.2.2.2.2.2.1 (i, j) List.mem_cons_self
      have hij : i < j := hij
      have hjn : j < n := hjn
      have hpi : τ 43 0 (2 * r.length) = nI i := hR.2.2.2.2.1.1
      have hpj : τ 43 0 (2 * r.length + 1) = nI j := hR.2.2.2.2.1.2.1
      have ht13 : τ 30 0 13 = nI t := hk.2.1
      have e38 : tb9 τ 38 = tb9 σ 38 := by funext a b; exact congrFun (congrFun (hk.1.1 38 (by decide)) 0) _
      have e39 : tb9 τ 39 = tb9 σ 39 := by funext a b; exact congrFun (congrFun (hk.1.1 39 (by decide)) 0) _
      refine ww_iinc (q := 0) (fun y37 => [(2, .int (y37)), (0, .ref (gA G 30 (0))), (1, .int (nI p))]) C dX6_layTriangles_37 rfl (by decide) (fun _ => rfl) (fun y37 ey37 => ?_)
      obtain rfl : y37 = nI (2 * r.length) := ey37.trans (by rw [hl]; exact dec2 _)
      refine ww_aload_n C dX6_layTriangles_40 rfl 1 rfl ?_
      refine ww_gr (j := 0) (k := 30) (f := 17) C rfl rfl (by decide) rfl in_X6_layTriangles_X6 (by decide) lk_X6_layTriangles_53 dX6_layTriangles_41 rfl ?_
      refine ww_iload_n C dX6_layTriangles_44 rfl 0 rfl ?_
      refine ww_iald (k := 43) (j := 2 * r.length) C rfl (by decide) (by decide) dX6_layTriangles_45 rfl (by omega) ?_
      rw [hpi]
      refine ww_istore_n (fun y1 => [(3, .int (y1)), (2, .int (nI (2 * r.length))), (0, .ref (gA G 30 (0))), (1, .int (nI p))]) C dX6_layTriangles_46 rfl (by decide) (fun _ => rfl) (fun y1 ey1 => ?_)
      obtain rfl : y1 = nI i := ey1
      refine ww_aload_n C dX6_layTriangles_47 rfl 2 rfl ?_
      refine ww_gr (j := 0) (k := 30) (f := 17) C rfl rfl (by decide) rfl in_X6_layTriangles_X6 (by decide) lk_X6_layTriangles_53 dX6_layTriangles_48 rfl ?_
      refine ww_iload_n C dX6_layTriangles_51 rfl 1 rfl ?_
      refine ww_iconst (v := 1) C dX6_layTriangles_52 rfl ?_
      refine ww_iadd C dX6_layTriangles_53 ?_
      rw [show (nI (2 * r.length)) + (1) = nI (2 * r.length + 1) from nI_add (2 * r.length) (1)]
      refine ww_iald (k := 43) (j := 2 * r.length + 1) C rfl (by decide) (by decide) dX6_layTriangles_54 rfl (by omega) ?_
      rw [hpj]
      refine ww_istore (fun y2 => [(4, .int (y2)), (3, .int (nI i)), (2, .int (nI (2 * r.length))), (0, .ref (gA G 30 (0))), (1, .int (nI p))]) C dX6_layTriangles_55 (by decide) (fun _ => rfl) (fun y2 ey2 => ?_)
      obtain rfl : y2 = nI j := ey2
      refine ww_iload C dX6_layTriangles_57 0 rfl ?_
      refine ww_iload_n C dX6_layTriangles_59 rfl 1 rfl ?_
      refine ww_isub C dX6_layTriangles_60 ?_
      rw [show (nI j) - (nI i) = nI (j - i) from pk_sub (by omega)]
      refine ww_iconst (v := 1) C dX6_layTriangles_61 rfl ?_
      refine ww_icmp_le 182 C dX6_layTriangles_62 (by decide) (fun h62 => ?_) (fun h62 => ?_)
      · have g62 : j - i ≤ 1 := (cv_le (a := j - i) (b := 1) rfl (by decide) (by omega) (by omega)).mp h62
        refine ww_goto 33 C dX6_layTriangles_182 (by decide) ?_
        exact ww_sub [2, 3, 4] rfl (ih 0 τ t r (by rw [hps, rt_mu] at hf; omega) rfl (rt_p (by omega) hR))
      · have g62 : ¬ j - i ≤ 1 := fun q => h62 ((cv_le (a := j - i) (b := 1) rfl (by decide) (by omega) (by omega)).mpr q)
        refine ww_iload_n C dX6_layTriangles_65 rfl 1 rfl ?_
        refine ww_iconst (v := 1) C dX6_layTriangles_66 rfl ?_
        refine ww_iadd C dX6_layTriangles_67 ?_
        rw [show (nI i) + (1) = nI (i + 1) from nI_add (i) (1)]
        refine ww_istore (fun y3 => [(5, .int (y3)), (4, .int (nI j)), (3, .int (nI i)), (2, .int (nI (2 * r.length))), (0, .ref (gA G 30 (0))), (1, .int (nI p))]) C dX6_layTriangles_68 (by decide) (fun _ => rfl) (fun y3 ey3 => ?_)
        obtain rfl : y3 = nI (i + 1) := ey3
        have htn := rt_t hT (by omega) hR
        obtain ⟨hk1, hk2⟩ := hT i j (by omega) hjn
        refine ww_sub [0, 1, 2, 3, 4, 5] rfl (lp_X6_layTriangles_k hA C σ τ p n i j ((trF (tb9 σ 39) (tb9 σ 38)) i j) r hn hij hjn e38 e39 _ ?_ (j + 1) (i + 1) (by omega) (hTs i j (by omega) hjn))
        obtain ⟨m, hm⟩ : ∃ z, z = (trF (tb9 σ 39) (tb9 σ 38)) i j := ⟨_, rfl⟩
        rw [← hm] at hk1 hk2 ⊢
        refine ww_aload_n C dX6_layTriangles_100 rfl 4 rfl ?_
        refine ww_gr (j := 0) (k := 30) (f := 14) C rfl rfl (by decide) rfl in_X6_layTriangles_X6 (by decide) lk_X6_layTriangles_44 dX6_layTriangles_101 rfl ?_
        refine ww_aload_n C dX6_layTriangles_104 rfl 4 rfl ?_
        refine ww_gi (k := 30) (f := 13) C rfl rfl (by decide) rfl in_X6_layTriangles_X6 (by decide) lk_X6_layTriangles_157 dX6_layTriangles_105 ?_
        have hqτ : τ 30 (0) 13 = nI t := by rw [ht13]
        rw [hqτ]
        refine ww_iload_n C dX6_layTriangles_108 rfl 2 rfl ?_
        refine ww_iast (k := 40) (j := t) C rfl (by decide) (by decide) dX6_layTriangles_109 rfl (by omega) ?_
        obtain ⟨σ4, hσ4⟩ : ∃ z : Sg, z = (sgu τ 40 (0) (t) (nI i)) := ⟨_, rfl⟩
        rw [← hσ4]
        refine ww_aload_n C dX6_layTriangles_110 rfl 4 rfl ?_
        refine ww_gr (j := 0) (k := 30) (f := 15) C rfl rfl (by decide) rfl in_X6_layTriangles_X6 (by decide) lk_X6_layTriangles_47 dX6_layTriangles_111 rfl ?_
        refine ww_aload_n C dX6_layTriangles_114 rfl 4 rfl ?_
        refine ww_gi (k := 30) (f := 13) C rfl rfl (by decide) rfl in_X6_layTriangles_X6 (by decide) lk_X6_layTriangles_157 dX6_layTriangles_115 ?_
        have hqσ4 : σ4 30 (0) 13 = nI t := by rw [hσ4, sgu_k (by decide), ht13]
        rw [hqσ4]
        refine ww_iload C dX6_layTriangles_118 0 rfl ?_
        refine ww_iast (k := 41) (j := t) C rfl (by decide) (by decide) dX6_layTriangles_120 rfl (by omega) ?_
        obtain ⟨σ5, hσ5⟩ : ∃ z : Sg, z = (sgu σ4 41 (0) (t) (nI m)) := ⟨_, rfl⟩
        rw [← hσ5]
        refine ww_aload_n C dX6_layTriangles_121 rfl 4 rfl ?_
        refine ww_gr (j := 0) (k := 30) (f := 16) C rfl rfl (by decide) rfl in_X6_layTriangles_X6 (by decide) lk_X6_layTriangles_50 dX6_layTriangles_122 rfl ?_
        refine ww_aload_n C dX6_layTriangles_125 rfl 4 rfl ?_
        refine ww_gi (k := 30) (f := 13) C rfl rfl (by decide) rfl in_X6_layTriangles_X6 (by decide) lk_X6_layTriangles_157 dX6_layTriangles_126 ?_
        have hqσ5 : σ5 30 (0) 13 = nI t := by rw [hσ5, sgu_k (by decide), hσ4, sgu_k (by decide), ht13]
        rw [hqσ5]
        refine ww_iload C dX6_layTriangles_129 1 rfl ?_
        refine ww_iast (k := 42) (j := t) C rfl (by decide) (by decide) dX6_layTriangles_131 rfl (by omega) ?_
        obtain ⟨σ6, hσ6⟩ : ∃ z : Sg, z = (sgu σ5 42 (0) (t) (nI j)) := ⟨_, rfl⟩
        rw [← hσ6]
        refine ww_aload_n C dX6_layTriangles_132 rfl 4 rfl ?_
        refine ww_dup C dX6_layTriangles_133 rfl ?_
        refine ww_gi (k := 30) (f := 13) C rfl rfl (by decide) rfl in_X6_layTriangles_X6 (by decide) lk_X6_layTriangles_157 dX6_layTriangles_134 ?_
        have hqσ6 : σ6 30 (0) 13 = nI t := by rw [hσ6, sgu_k (by decide), hσ5, sgu_k (by decide), hσ4, sgu_k (by decide), ht13]
        rw [hqσ6]
        refine ww_iconst (v := 1) C dX6_layTriangles_137 rfl ?_
        refine ww_iadd C dX6_layTriangles_138 ?_
        rw [show (nI t) + (1) = nI (t + 1) from nI_add (t) (1)]
        refine ww_pi (k := 30) (f := 13) C rfl rfl (by decide) rfl in_X6_layTriangles_X6 tyX6_ok nmX6 (by decide) lk_X6_layTriangles_157 rfl rfl dX6_layTriangles_139 ?_
        obtain ⟨σ7, hσ7⟩ : ∃ z : Sg, z = (sgu σ6 30 (0) 13 (nI (t + 1))) := ⟨_, rfl⟩
        rw [← hσ7]
        refine ww_aload_n C dX6_layTriangles_142 rfl 4 rfl ?_
        refine ww_gr (j := 0) (k := 30) (f := 17) C rfl rfl (by decide) rfl in_X6_layTriangles_X6 (by decide) lk_X6_layTriangles_53 dX6_layTriangles_143 rfl ?_
        refine ww_iload_n C dX6_layTriangles_146 rfl 3 rfl ?_
        refine ww_iload C dX6_layTriangles_147 0 rfl ?_
        refine ww_iast (k := 43) (j := 2 * r.length) C rfl (by decide) (by decide) dX6_layTriangles_149 rfl (by omega) ?_
        obtain ⟨σ8, hσ8⟩ : ∃ z : Sg, z = (sgu σ7 43 (0) (2 * r.length) (nI m)) := ⟨_, rfl⟩
        rw [← hσ8]
        refine ww_aload_n C dX6_layTriangles_150 rfl 4 rfl ?_
        refine ww_gr (j := 0) (k := 30) (f := 17) C rfl rfl (by decide) rfl in_X6_layTriangles_X6 (by decide) lk_X6_layTriangles_53 dX6_layTriangles_151 rfl ?_
        refine ww_iload_n C dX6_layTriangles_154 rfl 3 rfl ?_
        refine ww_iconst (v := 1) C dX6_layTriangles_155 rfl ?_
        refine ww_iadd C dX6_layTriangles_156 ?_
        rw [show (nI (2 * r.length)) + (1) = nI (2 * r.length + 1) from nI_add (2 * r.length) (1)]
        refine ww_iload C dX6_layTriangles_157 1 rfl ?_
        refine ww_iast (k := 43) (j := 2 * r.length + 1) C rfl (by decide) (by decide) dX6_layTriangles_159 rfl (by omega) ?_
        obtain ⟨σ9, hσ9⟩ : ∃ z : Sg, z = (sgu σ8 43 (0) (2 * r.length + 1) (nI j)) := ⟨_, rfl⟩
        rw [← hσ9]
        refine ww_aload_n C dX6_layTriangles_160 rfl 4 rfl ?_
        refine ww_gr (j := 0) (k := 30) (f := 17) C rfl rfl (by decide) rfl in_X6_layTriangles_X6 (by decide) lk_X6_layTriangles_53 dX6_layTriangles_161 rfl ?_
        refine ww_iload_n C dX6_layTriangles_164 rfl 3 rfl ?_
        refine ww_iconst (v := 2) C dX6_layTriangles_165 rfl ?_
        refine ww_iadd C dX6_layTriangles_166 ?_
        rw [show (nI (2 * r.length)) + (2) = nI (2 * r.length + 2) from nI_add (2 * r.length) (2)]
        refine ww_iload_n C dX6_layTriangles_167 rfl 2 rfl ?_
        refine ww_iast (k := 43) (j := 2 * r.length + 2) C rfl (by decide) (by decide) dX6_layTriangles_168 rfl (by omega) ?_
        obtain ⟨σ10, hσ10⟩ : ∃ z : Sg, z = (sgu σ9 43 (0) (2 * r.length + 2) (nI i)) := ⟨_, rfl⟩
        rw [← hσ10]
        refine ww_aload_n C dX6_layTriangles_169 rfl 4 rfl ?_
        refine ww_gr (j := 0) (k := 30) (f := 17) C rfl rfl (by decide) rfl in_X6_layTriangles_X6 (by decide) lk_X6_layTriangles_53 dX6_layTriangles_170 rfl ?_
        refine ww_iload_n C dX6_layTriangles_173 rfl 3 rfl ?_
        refine ww_iconst (v := 3) C dX6_layTriangles_174 rfl ?_
        refine ww_iadd C dX6_layTriangles_175 ?_
        rw [show (nI (2 * r.length)) + (3) = nI (2 * r.length + 3) from nI_add (2 * r.length) (3)]
        refine ww_iload C dX6_layTriangles_176 0 rfl ?_
        refine ww_iast (k := 43) (j := 2 * r.length + 3) C rfl (by decide) (by decide) dX6_layTriangles_178 rfl (by omega) ?_
        obtain ⟨σ11, hσ11⟩ : ∃ z : Sg, z = (sgu σ10 43 (0) (2 * r.length + 3) (nI m)) := ⟨_, rfl⟩
        rw [← hσ11]
        refine ww_iinc (q := 3) (fun y179 => [(2, .int (y179)), (5, .int (nI m)), (4, .int (nI j)), (3, .int (nI i)), (0, .ref (gA G 30 (0))), (1, .int (nI p))]) C dX6_layTriangles_179 rfl (by decide) (fun _ => rfl) (fun y179 ey179 => ?_)
        obtain rfl : y179 = nI (2 * (r.length + 2)) := ey179.trans (inc4 _)
        refine ww_goto 33 C dX6_layTriangles_182 (by decide) ?_
        have hRn := rt_s (σ1 := σ4) (σ2 := σ5) (σ3 := σ6) (σ4 := σ7) (σ5 := σ8) (σ6 := σ9) (σ7 := σ10) (σ8 := σ11) hT (by omega) hR hσ4 (by rw [← hm]; exact hσ5) hσ6 hσ7 (by rw [← hm]; exact hσ8) hσ9 hσ10 (by rw [← hm]; exact hσ11)
        rw [← hm] at hRn
        exact ww_sub [0, 4, 5] rfl (ih 0 _ (t + 1) ((i, m) :: (m, j) :: r) (by rw [hps, rt_mu] at hf; rw [rt_mu, rt_mu]; omega) rfl hRn)
theorem ww_v2 {K : Kx} {G : Gx} {nL : Nat} {post post' : Sg → Prop} {σ : Sg} {L : List (Nat × Value)} {pc : Nat} {st : List Value} (h : ∀ σ', post σ' → post' σ') (k : WW K G nL (QV K G post) σ L pc st) : WW K G nL (QV K G post') σ L pc st := fun ls H locs h1 h2 h3 T hT X => by
  obtain ⟨t, a, o, b1, b2, ⟨⟨u, c1, c2, c3⟩, c4⟩, c5⟩ := k ls H locs h1 h2 h3 T hT X
  exact ⟨t, a, o, b1, b2, ⟨⟨u, c1, h u c2, c3⟩, c4⟩, c5⟩
set_option maxHeartbeats 4000000 in
set_option maxRecDepth 100000 in
theorem c_X6_layTriangles (l : Launch) (G : Gx) (hA : wa G) (σ : Sg) (p n : Nat) (hp : p < 8) (hs : σ 33 0 p = nI n) (h3 : 3 ≤ n) (hn : n ≤ 14) : CtV l yX6_layTriangles wsX6_layTriangles (rmd 7) G [.ref (gA G 30 (0)), .int (nI p)] σ (fun σ2 => ∃ ρ, PTA σ ρ n (jnA n (fun i => σ 34 0 (14 * p + i)) (fun i => σ 35 0 (14 * p + i))) ∧ RTe ρ σ2 n (trF (tb9 ρ 39) (tb9 ρ 38))) := by
  refine ct_v (maxL := 6) (ret := none) (by decide) rfl (Nat.le_of_ble_eq_true rfl) hA (fun K hl C => ?_)
  subst hl
  change WW K G _ _ σ [(0, .ref (gA G 30 (0))), (1, .int (nI p))] 0 []
  refine ww_aload_n C dX6_layTriangles_0 rfl 0 rfl ?_
  refine ww_iload_n C dX6_layTriangles_1 rfl 1 rfl ?_
  refine ww_callv (cx_V (n := 1) (As := [.int (nI p)]) C  (c_X6_part (kL K) G hA _ p n hp hs h3 hn) gX6_layTriangles_X6_part rfl ⟨rfl, rfl⟩ (by decide +kernel) (by decide) rfl (by decide) rfl rfl rfl (Nat.le_of_ble_eq_true rfl) dX6_layTriangles_2) ?_
  intro ρ hρ
  have hs9 : ρ 33 0 p = nI n := by rw [hρ.1 33 (by decide)]; exact hs
  refine ww_aload_n C dX6_layTriangles_5 rfl 0 rfl ?_
  refine ww_iconst (v := 0) C dX6_layTriangles_6 rfl ?_
  refine ww_pi (k := 30) (f := 13) C rfl rfl (by decide) rfl in_X6_layTriangles_X6 tyX6_ok nmX6 (by decide) lk_X6_layTriangles_157 rfl rfl dX6_layTriangles_7 ?_
  obtain ⟨σ4, hσ4⟩ : ∃ z : Sg, z = (sgu ρ 30 (0) 13 (0)) := ⟨_, rfl⟩
  rw [← hσ4]
  refine ww_aload_n C dX6_layTriangles_10 rfl 0 rfl ?_
  refine ww_gr (j := 0) (k := 30) (f := 17) C rfl rfl (by decide) rfl in_X6_layTriangles_X6 (by decide) lk_X6_layTriangles_53 dX6_layTriangles_11 rfl ?_
  refine ww_iconst (v := 0) C dX6_layTriangles_14 rfl ?_
  refine ww_iconst (v := 0) C dX6_layTriangles_15 rfl ?_
  refine ww_iast (k := 43) (j := 0) C rfl (by decide) (by decide) dX6_layTriangles_16 (by decide) (by decide) ?_
  obtain ⟨σ5, hσ5⟩ : ∃ z : Sg, z = (sgu σ4 43 (0) (0) (0)) := ⟨_, rfl⟩
  rw [← hσ5]
  refine ww_aload_n C dX6_layTriangles_17 rfl 0 rfl ?_
  refine ww_gr (j := 0) (k := 30) (f := 17) C rfl rfl (by decide) rfl in_X6_layTriangles_X6 (by decide) lk_X6_layTriangles_53 dX6_layTriangles_18 rfl ?_
  refine ww_iconst (v := 1) C dX6_layTriangles_21 rfl ?_
  refine ww_aload_n C dX6_layTriangles_22 rfl 0 rfl ?_
  refine ww_gr (j := 0) (k := 30) (f := 4) C rfl rfl (by decide) rfl in_X6_layTriangles_X6 (by decide) lk_X6_layTriangles_16 dX6_layTriangles_23 rfl ?_
  refine ww_iload_n C dX6_layTriangles_26 rfl 1 rfl ?_
  refine ww_iald (k := 33) (j := p) C rfl (by decide) (by decide) dX6_layTriangles_27 rfl hp ?_
  refine ww_iconst (v := 1) C dX6_layTriangles_28 rfl ?_
  refine ww_isub C dX6_layTriangles_29 ?_
  refine ww_iast (k := 43) (j := 1) C rfl (by decide) (by decide) dX6_layTriangles_30 (by decide) (by decide) ?_
  obtain ⟨σ6, hσ6⟩ : ∃ z : Sg, z = (sgu σ5 43 (0) (1) ((σ5 33 (0) (p)) - (1))) := ⟨_, rfl⟩
  rw [← hσ6]
  refine ww_iconst (v := 2) C dX6_layTriangles_31 rfl ?_
  refine ww_istore_n (fun y7 => [(2, .int (y7)), (0, .ref (gA G 30 (0))), (1, .int (nI p))]) C dX6_layTriangles_32 rfl (by decide) (fun _ => rfl) (fun y7 ey7 => ?_)
  obtain rfl : y7 = nI 2 := (ey7.trans (by decide))
  refine ww_sub [0, 1, 2] rfl (ww_v2 (fun u q => ⟨_, hρ, q⟩) (lp_X6_layTriangles hA C ρ p n hp h3 hn (tr_okT hρ) (fun i j hij hj => tr_some hij (pta_S hρ hij hj)) (2 * n + 1) 0 σ6 0 [(0, n - 1)] (by rw [rt_mu]; show _ - 1 + 0 - 0 < _; omega) rfl (rt_0 h3 hσ4 hσ5 (by rw [hσ6, hσ5, sgu_k (by decide), hσ4, sgu_k (by decide), hs9, show nI n - 1 = nI (n - 1) from pk_sub (a := n) (b := 1) (by omega)]))))
