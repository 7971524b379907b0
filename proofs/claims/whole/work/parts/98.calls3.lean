theorem flat_c {n : Nat} {x y x' y' : Nat → Int32} (hx : eqn n x x') (hy : eqn n y y') : fndN (flatP n x y) 0 n = fndN (flatP n x' y') 0 n := fndN_c (fun i _ hi => by
  unfold flatP
  rw [tn_c hx hy (bf_lt hi) hi (af_lt (by omega))])
theorem meetF_c {n : Nat} {x y x' y' : Nat → Int32} (hx : eqn n x x') (hy : eqn n y y') : ∀ d i, meetFR n x y i d = meetFR n x' y' i d
  | 0, _ => rfl
  | d + 1, i => by
    have e : fndN (meetPR n x y i) (i + 2) n = fndN (meetPR n x' y' i) (i + 2) n := fndN_c (fun j h1 hj => by
      have ha : af n j < n := af_lt (by omega)
      unfold meetPR mtP
      rw [hx i (by omega), hx (i + 1) (by omega), hx j hj, hx _ ha, hy i (by omega), hy (i + 1) (by omega), hy j hj, hy _ ha])
    rw [meetFR, meetFR, e, meetF_c hx hy d (i + 1)]
theorem meetNR_c {n : Nat} {x y x' y' : Nat → Int32} (hx : eqn n x x') (hy : eqn n y y') (i : Nat) : meetNR n x y i = meetNR n x' y' i := meetF_c hx hy _ _
theorem eqn_s {n : Nat} {x x' : Nat → Int32} (h : eqn n x x') : eqn n x' x := fun i hi => (h i hi).symm
theorem simp9_c {n : Nat} {x y x' y' : Nat → Int32} (hx : eqn n x x') (hy : eqn n y y') (h : simp9 n x' y') : simp9 n x y := ⟨⟨h.1.1, h.1.2.1, fun i hi => by rw [hx i hi, hy i hi]; exact h.1.2.2 i hi⟩, (flat_c hx hy).trans h.2.1, (meetNR_c hx hy 0).trans h.2.2⟩
theorem meetF_lt {n : Nat} {x y : Nat → Int32} : ∀ (d i : Nat) {q : Nat × Nat}, i + d ≤ n → meetFR n x y i d = some q → q.1 < n
  | 0, _, _, _, h => by cases h
  | d + 1, i, q, hd, h => by
    rw [meetFR] at h
    cases hf : fndN (meetPR n x y i) (i + 2) n with
    | some j =>
      rw [hf] at h
      have e := Option.some.inj h
      rw [← e]
      show i < n
      omega
    | none =>
      rw [hf] at h
      exact meetF_lt d (i + 1) (by omega) h
theorem meet_lt {n i j : Nat} {x y : Nat → Int32} (h : meetNR n x y 0 = some (i, j)) : i < n := meetF_lt (x := x) (y := y) n 0 (q := (i, j)) (by omega) h
/-- the class's memory as a polygon is laid down -/
def bcF (τ : Sg) (p n : Nat) : Sg := sgu (becF τ p 0 n) 17 p 2 (sumN (crs9 n (becF τ p 0 n 15 (p + 1)) (becF τ p 0 n 16 (p + 1))) n)
theorem bc_k {τ : Sg} {p n k : Nat} (h14 : k ≠ 14) (h15 : k ≠ 15) (h16 : k ≠ 16) (h17 : k ≠ 17) : bcF τ p n k = τ k := by
  unfold bcF becF
  rw [sgu_kk h17, sgc_kk h16, sgc_kk h15, sgu_kk h14]
theorem sgc_ii {σ : Sg} {k i0 i1 n k' i' : Nat} (h : i' ≠ i1) : sgc σ k i0 i1 n k' i' = σ k' i' := by
  funext f
  exact if_neg (fun q => h q.2.1)
theorem bc_o {τ : Sg} {p n k j : Nat} (h17 : k ≠ 17) (hj : j ≠ p + 1) : bcF τ p n k j = τ k j := by
  unfold bcF becF
  rw [sgu_kk h17, sgc_ii hj, sgc_ii hj, sgu_ii hj]
theorem bc_15 {τ : Sg} {p n : Nat} : eqn n (bcF τ p n 15 (p + 1)) (τ 15 0) := fun i hi => by
  unfold bcF becF
  rw [sgu_k (by decide), sgc_kk (by decide)]
  show (if _ then _ else _) = _
  rw [if_pos ⟨rfl, rfl, hi⟩, sgu_k (by decide)]
theorem bc_16 {τ : Sg} {p n : Nat} : eqn n (bcF τ p n 16 (p + 1)) (τ 16 0) := fun i hi => by
  unfold bcF becF
  rw [sgu_k (by decide)]
  show (if _ then _ else _) = _
  rw [if_pos ⟨rfl, rfl, hi⟩, sgc_kk (by decide), sgu_k (by decide)]
theorem bc_17 {τ : Sg} {p n j : Nat} (hj : j ≠ p) : bcF τ p n 17 j = τ 17 j := by
  unfold bcF becF
  rw [sgu_ii hj, sgc_kk (by decide), sgc_kk (by decide), sgu_kk (by decide)]
theorem bc_172 {τ : Sg} {p n : Nat} : bcF τ p n 17 p 2 = sumN (crs9 n (bcF τ p n 15 (p + 1)) (bcF τ p n 16 (p + 1))) n := by
  have e1 : bcF τ p n 15 = becF τ p 0 n 15 := sgu_kk (by decide)
  have e2 : bcF τ p n 16 = becF τ p 0 n 16 := sgu_kk (by decide)
  rw [e1, e2]
  exact sgu_self
theorem bc_14 {τ : Sg} {p n : Nat} : bcF τ p n 14 (p + 1) 2 = nI n := by
  unfold bcF becF
  rw [sgu_k (by decide), sgc_kk (by decide), sgc_kk (by decide), sgu_self]
section
variable {τ σl σc : Sg} {p n : Nat}
theorem bc_s (hs : simp9 n (τ 15 0) (τ 16 0)) : simp9 n (bcF τ p n 15 (p + 1)) (bcF τ p n 16 (p + 1)) := simp9_c bc_15 bc_16 hs
theorem lk_S (hs : simp9 n (τ 15 0) (τ 16 0)) (hL : LKo (bcF τ p n) σl p n (bcF τ p n 15 (p + 1)) (bcF τ p n 16 (p + 1)) n) : ∀ a b, a < n → b < n → σl 19 (14 * p + a) b = sightR n (bcF τ p n 15 (p + 1)) (bcF τ p n 16 (p + 1)) a b := fun a b ha hb => by
  have h := bc_s (p := p) hs
  rw [hL.2.2 a b ha hb, sgt_eq h.1 h.2.1 h.2.2 ha hb]
theorem lk_dl (hs : simp9 n (τ 15 0) (τ 16 0)) (hL : LKo (bcF τ p n) σl p n (bcF τ p n 15 (p + 1)) (bcF τ p n 16 (p + 1)) n) {ω : Sg} (hW : WSA σl ω p n) : dgC (fun a b => σl 19 (14 * p + a) b) (thT ω) n = cD n (bcF τ p n 15 (p + 1)) (bcF τ p n 16 (p + 1)) := by
  have h := bc_s (p := p) hs
  have hS := lk_S hs hL
  exact dgC_c h.1 h.2.1 h.2.2 hS (cls_tab (by rw [hL.1 15 (by decide)]) (by rw [hL.1 16 (by decide)]) h.1 h.2.1 h.2.2 hW hS).2.2
/-- what the class holds of a new polygon -/
theorem pol_c (hs : simp9 n (τ 15 0) (τ 16 0)) (hL : LKo (bcF τ p n) σl p n (bcF τ p n 15 (p + 1)) (bcF τ p n 16 (p + 1)) n) (hC : CUe σl σc p n) : simp9 n (σc 15 (p + 1)) (σc 16 (p + 1)) ∧ eqn n (σc 15 (p + 1)) (τ 15 0) ∧ eqn n (σc 16 (p + 1)) (τ 16 0) ∧ σc 14 (p + 1) 2 = nI n ∧ σc 17 p 2 = fan n (σc 15 (p + 1)) (σc 16 (p + 1)) ∧ (∀ a b, a < n → b < n → σc 19 (14 * p + a) b = sightR n (σc 15 (p + 1)) (σc 16 (p + 1)) a b) ∧ σc 17 p 3 = cW n (σc 15 (p + 1)) (σc 16 (p + 1)) 0 (n - 1) ∧ σc 17 p 4 = cS n (σc 15 (p + 1)) (σc 16 (p + 1)) 0 (n - 1) ∧ (∀ t q, (cL n (σc 15 (p + 1)) (σc 16 (p + 1)))[t]? = some q → tri9 σc p t q) ∧ (∀ d, d < n - 3 → σc 23 p d = nI (lA (cD n (σc 15 (p + 1)) (σc 16 (p + 1))) d) ∧ σc 24 p d = nI (lB (cD n (σc 15 (p + 1)) (σc 16 (p + 1))) d) ∧ σc 25 p d = bI (cF n (σc 15 (p + 1)) (σc 16 (p + 1)) d)) ∧ σc 17 p 5 = nI (1 + cntN (cF n (σc 15 (p + 1)) (σc 16 (p + 1))) (n - 3)) := by
  have h := bc_s (p := p) hs
  have hS := lk_S hs hL
  obtain ⟨ω, J, c1, c2, c3, c4, c5, c6, c7, c8, c9⟩ := hC
  have l15 : σl 15 = bcF τ p n 15 := hL.1 15 (by decide)
  have l16 : σl 16 = bcF τ p n 16 := hL.1 16 (by decide)
  have k15 : σc 15 = bcF τ p n 15 := by rw [c2.1 15 (Or.inr (Or.inl (by decide))), l15]
  have k16 : σc 16 = bcF τ p n 16 := by rw [c2.1 16 (Or.inr (Or.inl (by decide))), l16]
  have k14 : σc 14 = bcF τ p n 14 := by rw [c2.1 14 (Or.inr (Or.inl (by decide))), hL.1 14 (by decide)]
  have k19 : σc 19 = σl 19 := c2.1 19 (Or.inr (Or.inl (by decide)))
  have hT := cls_tab (by rw [l15]) (by rw [l16]) h.1 h.2.1 h.2.2 c1 hS
  have hD := dgC_c h.1 h.2.1 h.2.2 hS hT.2.2
  have ar : σl 17 p 2 = fan n (bcF τ p n 15 (p + 1)) (bcF τ p n 16 (p + 1)) := by rw [hL.1 17 (by decide), bc_172, area_eq h.1]
  have hl := cD_len (x := bcF τ p n 15 (p + 1)) (y := bcF τ p n 16 (p + 1)) h.1.1
  have hst : ∀ d, d < n - 3 → stay n (bcF τ p n 15 (p + 1)) (bcF τ p n 16 (p + 1)) (fan n (bcF τ p n 15 (p + 1)) (bcF τ p n 16 (p + 1))) (lA (cD n (bcF τ p n 15 (p + 1)) (bcF τ p n 16 (p + 1)))) (lB (cD n (bcF τ p n 15 (p + 1)) (bcF τ p n 16 (p + 1)))) J d = cF n (bcF τ p n 15 (p + 1)) (bcF τ p n 16 (p + 1)) d := fun d hd => cls_stay h.1 h.2.1 h.2.2 hS hT.2.2 c7 hd
  rw [hD, l15, l16, ar] at c8 c9
  rw [hD] at c6
  rw [hT.2.2] at c5
  rw [k15, k16, k14, k19]
  refine ⟨h, bc_15, bc_16, bc_14, by rw [c2.2.2 2 (by decide) (by decide) (by decide), ar], hS, by rw [c3, hT.1], by rw [c4, hT.2.1], c5, fun d hd => ?_, by rw [c9, cntN_c _ hst]⟩
  have hd' : d < (cD n (bcF τ p n 15 (p + 1)) (bcF τ p n 16 (p + 1))).length := by omega
  have hg := List.getElem?_eq_getElem hd'
  have h6 := c6 d _ (by rw [List.take_of_length_le (by omega)]; exact hg)
  refine ⟨?_, ?_, by rw [c8 d hd, hst d hd]⟩
  · rw [h6.1]; unfold lA; rw [hg]; rfl
  · rw [h6.2]; unfold lB; rw [hg]; rfl
/-- what else the class holds as before -/
theorem pol_k (hL : LKo (bcF τ p n) σl p n (bcF τ p n 15 (p + 1)) (bcF τ p n 16 (p + 1)) n) (hC : CUe σl σc p n) : (∀ k, k < 9 ∨ 25 < k → σc k = τ k) ∧ (∀ k j, 14 ≤ k → k ≤ 16 → j ≠ p + 1 → σc k j = τ k j) ∧ (∀ j, j ≠ p → σc 17 j = τ 17 j) ∧ (∀ q a, q ≠ p → a < 14 → σc 19 (14 * q + a) = τ 19 (14 * q + a)) ∧ ∀ k j, 20 ≤ k → k ≤ 25 → j ≠ p → σc k j = τ k j := by
  obtain ⟨ω, J, c1, c2, -⟩ := hC
  refine ⟨fun k hk => ?_, fun k j h1 h2 hj => ?_, fun j hj => ?_, fun q a hq ha => ?_, fun k j h1 h2 hj => ?_⟩
  · rw [c2.1 k (by omega), hL.1 k (by omega), bc_k (by omega) (by omega) (by omega) (by omega)]
  · rw [c2.1 k (by omega), hL.1 k (by omega), bc_o (by omega) hj]
  · rw [c2.2.1 17 j (by decide) hj, hL.1 17 (by decide), bc_17 hj]
  · rw [c2.1 19 (by omega)]
    funext f
    rw [hL.2.1 (14 * q + a) f (fun c hc => by omega), bc_k (by decide) (by decide) (by decide) (by decide)]
  · rw [c2.2.1 k j (by omega) hj, hL.1 k (by omega), bc_k (by omega) (by omega) (by omega) (by omega)]
end
/-- a row that is refused: both forget it, and both remember why -/
theorem rel_bad {σ τ σ1 σ2 : Sg} {c r : Nat} {v a b : Int32} (h : Rel9 σ c r) (ht : ∀ k, k ≠ 1 → τ k = σ k) (h1 : σ1 = sgu (note3 τ v a b) 14 0 2 0) (h2 : FTe σ1 σ2 a b) : Rel9 σ2 c 0 := by
  obtain ⟨a1, a2, a3, a4, a5, a6, a7, a8, a9, a10, a11, a12⟩ := h
  obtain ⟨f1, f2, f3, f4, f5⟩ := h2
  have e : ∀ k, k ≠ 1 → k ≠ 14 → σ1 k = σ k := fun k k1 k2 => by rw [h1, sgu_kk k2, note3_k k1, ht k k1]
  have e14 : ∀ j, j ≠ 0 → σ1 14 j = σ 14 j := fun j hj => by rw [h1, sgu_ii hj, note3_k (by decide), ht 14 (by decide)]
  refine ⟨a1, by omega, ?_, ?_, ?_, f3, fun i hi => absurd hi (Nat.not_lt_zero _), fun i hi => absurd hi (Nat.not_lt_zero _), fun i hi => absurd hi (Nat.not_lt_zero _), ?_, ?_, fun p hp => ?_⟩
  · rw [f1 0 (by decide), e 0 (by decide) (by decide)]; exact a3
  · rw [f2 3 (by decide) (by decide) (by decide), e 30 (by decide) (by decide)]; exact a4
  · rw [f1 14 (by decide), h1, sgu_self]; rfl
  · rw [f4, f1 1 (by decide), h1, sgu_k (by decide), note3, sgu_f (by decide), sgu_self]
  · rw [f5, f1 1 (by decide), h1, sgu_k (by decide), note3, sgu_self]
  · obtain ⟨n, hn⟩ := a12 p hp
    have g : ∀ k, k ≠ 1 → k ≠ 14 → k ≠ 30 → σ2 k = σ k := fun k k1 k2 k3 => by rw [f1 k k3, e k k1 k2]
    exact ⟨n, PG_k hn (by rw [f1 14 (by decide), e14 _ (by omega)]) (by rw [g 15 (by decide) (by decide) (by decide)]) (by rw [g 16 (by decide) (by decide) (by decide)]) (by rw [g 17 (by decide) (by decide) (by decide)]) (fun a _ => by rw [g 19 (by decide) (by decide) (by decide)]) (fun k h1 h2 => by rw [g k (by omega) (by omega) (by omega)]) (by rw [g 33 (by decide) (by decide) (by decide)]) (fun i _ => by rw [g 34 (by decide) (by decide) (by decide), g 35 (by decide) (by decide) (by decide)]; exact ⟨rfl, rfl⟩)⟩
theorem k_bad {l : Launch} {G : Gx} (hA : wa G) {σ : Sg} {c r : Nat} (h : Rel9 σ c r) (hc : c < 8) {v a b w : Int32} (he : examF σ 0 r = note3 (note3 σ 0 (-1) (-1)) v a b) (hv : ¬ v = 0) (hw : w = -10 - v) (h2 : ∀ σ1, (∀ k, k ≠ 1 → k ≠ 14 → σ1 k = σ k) → CtI l yX6_polygon wsX6_polygon (rmd 5) G [.ref (gA G 30 0)] σ1 (fun r σ2 => r = w ∧ FTe σ1 σ2 a b)) : PrI l G yX5_polygon wsX5_polygon 7 yX6_polygon wsX6_polygon 5 [] σ := by
  have e0 : examF σ 0 r 1 0 0 = v := by rw [he, note3, sgu_f (by decide), sgu_f (by decide), sgu_self]
  refine ⟨_, c_X5_polygon_b l G hA σ c r h.2.2.1 hc h.2.2.2.2.1 h.2.1 (by rw [e0]; exact hv), fun r1 σ1 q => ⟨_, h2 σ1 (fun k k1 k2 => by rw [q.2, he, sgu_kk k2, note3_k k1, note3_k k1]), fun r2 σ2 w => ⟨by rw [q.1, w.1, e0, hw], c, 0, ?_⟩⟩⟩
  exact rel_bad h (fun k k1 => note3_k k1) (by rw [q.2, he]) w.2
theorem k_polygon {l : Launch} {G : Gx} (hA : wa G) {σ : Sg} {c r : Nat} (h : Rel9 σ c r) : PrI l G yX5_polygon wsX5_polygon 7 yX6_polygon wsX6_polygon 5 [] σ := by
  by_cases h8 : c = 8
  · subst h8
    exact pr_0 h (c_X5_polygon_f l G hA σ h.2.2.1) (c_X6_polygon_f l G hA σ h.2.2.2.1) rfl
  have hc : c < 8 := by have := h.1; omega
  have H := h
  obtain ⟨a1, a2, a3, a4, a5, a6, a7, a8, a9, a10, a11, a12⟩ := H
  by_cases q3 : r < 3
  · refine k_bad hA h hc (v := 1) (a := -1) (b := -1) (w := -11) (by unfold examF; rw [if_pos q3]) (by decide) (by decide) (fun σ1 e => ?_)
    exact c_X6_polygon_1 l G hA σ1 c r (by rw [e 30 (by decide) (by decide)]; exact a4) hc (by rw [e 30 (by decide) (by decide)]; exact a6) a2 q3
  have hr : rowR r (σ 15 0) (σ 16 0) := ⟨by omega, a2, a9⟩
  cases hf : fndN (flatP r (σ 15 0) (σ 16 0)) 0 r with
  | some i =>
    refine k_bad hA h hc (v := 2) (a := nI i) (b := -1) (w := -12) (by unfold examF; rw [if_neg q3, hf]; rfl) (by decide) (by decide) (fun σ1 e => ?_)
    exact c_X6_polygon_2 l G hA σ1 c r (by rw [e 30 (by decide) (by decide)]; exact a4) hc (by rw [e 30 (by decide) (by decide)]; exact a6) a2 (by omega) i (by have := fnd_lt hf; omega) (by rw [e 31 (by decide) (by decide), e 32 (by decide) (by decide), flat_c a7 a8]; exact hf)
  | none =>
    have hm := meet_eq hr hf
    cases hn : meetN r (σ 15 0) (σ 16 0) 0 with
    | some q =>
      obtain ⟨i, j⟩ := q
      have hi : i < r := meet_lt (hm.symm.trans hn)
      refine k_bad hA h hc (v := 3) (a := nI i) (b := nI j) (w := -13) (by unfold examF; rw [if_neg q3, hf, hn]; rfl) (by decide) (by decide) (fun σ1 e => ?_)
      exact c_X6_polygon_3 l G hA σ1 c r (by rw [e 30 (by decide) (by decide)]; exact a4) hc (by rw [e 30 (by decide) (by decide)]; exact a6) a2 (by omega) (by rw [e 31 (by decide) (by decide), e 32 (by decide) (by decide), flat_c a7 a8]; exact hf) i j (by omega) (by rw [e 31 (by decide) (by decide), e 32 (by decide) (by decide), meetNR_c a7 a8, ← hm]; exact hn)
    | none =>
      have hs : simp9 r (σ 15 0) (σ 16 0) := ⟨hr, hf, hm.symm.trans hn⟩
      have he : examF σ 0 r = note3 σ 0 (-1) (-1) := by unfold examF; rw [if_neg q3, hf, hn]; rfl
      have hs' : simp9 r (examF σ 0 r 15 0) (examF σ 0 r 16 0) := by rw [examF_k (by decide), examF_k (by decide)]; exact hs
      refine ⟨_, c_X5_polygon_0 l G hA σ c r a3 hc a5 a2 (by omega) (by rw [he, note3, sgu_f (by decide), sgu_f (by decide), sgu_self]) (fun σl hL ω hW => ?_), fun r1 σ1 q => ?_⟩
      · rw [lk_dl hs' hL hW, cD_len hs.1.1]
        exact Nat.le_refl _
      · obtain ⟨σl, σc, hL, hC, q1, q2⟩ := q
        obtain ⟨b1, b2, b3, b4, b5, b6, b7, b8, b9, b10, b11⟩ := pol_c hs' hL hC
        obtain ⟨d1, d2, d3, d4, d5⟩ := pol_k hL hC
        have t : ∀ k, k ≠ 1 → examF σ 0 r k = σ k := fun k k1 => examF_k k1
        rw [t 15 (by decide)] at b2
        rw [t 16 (by decide)] at b3
        have e1 : ∀ k, k ≠ 0 → k ≠ 14 → σ1 k = σc k := fun k k1 k2 => by rw [q2, sgu_kk k2, sgu_kk k1]
        have e14 : ∀ j, j ≠ 0 → σ1 14 j = σc 14 j := fun j hj => by rw [q2, sgu_ii hj, sgu_kk (by decide)]
        have e26 : ∀ k, 25 < k → σ1 k = σ k := fun k k1 => by rw [e1 k (by omega) (by omega), d1 k (Or.inr k1), t k (by omega)]
        refine ⟨_, c_X6_polygon_0 l G hA σ1 c r (by rw [e26 30 (by decide)]; exact a4) hc (by rw [e26 30 (by decide)]; exact a6) a2 (by omega) (by rw [e26 31 (by decide), e26 32 (by decide), flat_c a7 a8]; exact hf) (by rw [e26 31 (by decide), e26 32 (by decide), meetNR_c a7 a8]; exact hs.2.2), fun r2 σ2 w => ⟨by rw [q1, w.1], c + 1, 0, ?_⟩⟩
        obtain ⟨w1, w2, w3, w4, w5, w6, w7, w8, w9⟩ := w.2
        have g : ∀ k, k ≠ 0 → k ≠ 14 → k < 30 → σ2 k = σc k := fun k k1 k2 k3 => by rw [w1 k (by omega) (by omega) (by omega) (by omega), e1 k k1 k2]
        have g14 : ∀ j, j ≠ 0 → σ2 14 j = σc 14 j := fun j hj => by rw [w1 14 (by decide) (by decide) (by decide) (by decide), e14 j hj]
        have gn : σ2 1 = note3 σ 0 (-1) (-1) 1 := by rw [g 1 (by decide) (by decide) (by decide), d1 1 (by decide), he]
        refine ⟨by omega, by omega, ?_, w4, ?_, w3, fun i hi => absurd hi (Nat.not_lt_zero _), fun i hi => absurd hi (Nat.not_lt_zero _), fun i hi => absurd hi (Nat.not_lt_zero _), ?_, ?_, fun p hp => ?_⟩
        · rw [w1 0 (by decide) (by decide) (by decide) (by decide), q2, sgu_k (by decide), sgu_self]
        · rw [w1 14 (by decide) (by decide) (by decide) (by decide), q2, sgu_self]; rfl
        · rw [w5, gn, note3, sgu_f (by decide), sgu_self]
        · rw [w6, gn, note3, sgu_self]
        · by_cases hpc : p = c
          · subst hpc
            refine ⟨r, ?_⟩
            unfold PG tri9
            rw [g14 _ (by omega), g 15 (by decide) (by decide) (by decide), g 16 (by decide) (by decide) (by decide), g 17 (by decide) (by decide) (by decide), g 19 (by decide) (by decide) (by decide), g 20 (by decide) (by decide) (by decide), g 21 (by decide) (by decide) (by decide), g 22 (by decide) (by decide) (by decide), g 23 (by decide) (by decide) (by decide), g 24 (by decide) (by decide) (by decide), g 25 (by decide) (by decide) (by decide)]
            refine ⟨b1, b4, by rw [w7, if_pos rfl], fun i hi => ?_, fun i hi => ?_, b5, b6, b7, b8, b9, b10, b11⟩
            · show σ2 34 0 (14 * p + i) = _
              rw [w8, if_pos ⟨by omega, by omega⟩, show 14 * p + i - 14 * p = i by omega, e26 31 (by decide), a7 i hi, b2 i hi]
            · show σ2 35 0 (14 * p + i) = _
              rw [w9, if_pos ⟨by omega, by omega⟩, show 14 * p + i - 14 * p = i by omega, e26 32 (by decide), a8 i hi, b3 i hi]
          · obtain ⟨n, hn⟩ := a12 p (by omega)
            refine ⟨n, PG_k hn ?_ ?_ ?_ ?_ (fun a ha => ?_) (fun k h1 h2 => ?_) ?_ (fun i hi => ⟨?_, ?_⟩)⟩
            · rw [g14 _ (by omega), d2 14 _ (by decide) (by decide) (by omega), t 14 (by decide)]
            · rw [g 15 (by decide) (by decide) (by decide), d2 15 _ (by decide) (by decide) (by omega), t 15 (by decide)]
            · rw [g 16 (by decide) (by decide) (by decide), d2 16 _ (by decide) (by decide) (by omega), t 16 (by decide)]
            · rw [g 17 (by decide) (by decide) (by decide), d3 _ hpc, t 17 (by decide)]
            · rw [g 19 (by decide) (by decide) (by decide), d4 p a hpc ha, t 19 (by decide)]
            · rw [g k (by omega) (by omega) (by omega), d5 k p h1 h2 hpc, t k (by omega)]
            · rw [w7, if_neg hpc, e26 33 (by decide)]
            · rw [w8, if_neg (by omega), e26 34 (by decide)]
            · rw [w9, if_neg (by omega), e26 35 (by decide)]
