theorem wsa_dpc {σ ω : Sg} {p n : Nat} (h : WSA σ ω p n) (hS : ∀ a b, a < n → b < n → σ 19 (14 * p + a) b = sightR n (σ 15 (p + 1)) (σ 16 (p + 1)) a b) : DPc n (sightR n (σ 15 (p + 1)) (σ 16 (p + 1))) (sq9 (σ 15 (p + 1)) (σ 16 (p + 1))) (ω 9) (ω 10) (ω 11) := by
  refine ⟨fun i hi => h.2.1 i hi, fun i j h1 h2 => ?_⟩
  have := h.2.2 i j h1 h2
  rw [hS i j (by omega) h2] at this
  exact this
theorem cls_tab {σ ω : Sg} {p n : Nat} {x y : Nat → Int32} (hx : σ 15 (p + 1) = x) (hy : σ 16 (p + 1) = y) (hr : rowR n x y) (hf : noF n x y) (hm : noM n x y) (h : WSA σ ω p n) (hS : ∀ a b, a < n → b < n → σ 19 (14 * p + a) b = sightR n x y a b) : ω 9 0 (n - 1) = cW n x y 0 (n - 1) ∧ ω 10 0 (n - 1) = cS n x y 0 (n - 1) ∧ trl (thT ω) n 0 (n - 1) = cL n x y := by
  have h3 := hr.1
  have h14 := hr.2.1
  subst hx
  subst hy
  have hc := wsa_dpc h hS
  have hrt := c_DPr (x := σ 15 (p + 1)) (y := σ 16 (p + 1)) h3
  have A := dp_all h14 (c_okS hr) (fun i j _ _ => rfl) hc hrt n 0 (n - 1) (by omega) (by omega) (by omega)
  have hs : sightR n (σ 15 (p + 1)) (σ 16 (p + 1)) 0 (n - 1) ≠ 0 := by rw [near_top h3]; decide
  have hre := c_reach hr hf hm
  obtain ⟨a1, a2⟩ := A.2.2 hs
  refine ⟨a1, ?_, ?_⟩
  · rw [(a2 hre).1]
    show _ + jnF (sightR n (σ 15 (p + 1)) (σ 16 (p + 1)) 0 (n - 1)) _ = _
    rw [near_top h3]
    show cS n _ _ 0 (n - 1) + 0 = _
    rw [Int32.add_zero]
  · obtain ⟨t1, t2⟩ := wsa_T h14 h
    exact trl_same h14 (c_okS hr) (fun i j _ _ => rfl) hc hrt (fun i j i1 i2 => ⟨t2 i j i1 i2, by have := (t1 i j i1 i2).2; omega⟩) n 0 (n - 1) (by omega) (by omega) hs hre
theorem ref_tab {σ ρ : Sg} {n : Nat} {x y : Nat → Int32} (h3 : 3 ≤ n) (h : PTA σ ρ n (jnA n x y)) : tb9 ρ 37 0 (n - 1) = cW n x y 0 (n - 1) ∧ tb9 ρ 38 0 (n - 1) = cS n x y 0 (n - 1) ∧ trl (trF (tb9 ρ 39) (tb9 ρ 38)) n 0 (n - 1) = cL n x y := by
  have hd : DPr n (tb9 ρ 39) (tb9 ρ 37) (tb9 ρ 38) := ⟨h.2.2.1, h.2.2.2⟩
  have hJ : ∀ i j, i < j → j < n → tb9 ρ 39 i j = cJ n x y i j := h.2.1
  have hu := dpr_u hJ hd (c_DPr h3) n
  refine ⟨(hu 0 (n - 1) (by omega) (by omega) (by omega)).1, (hu 0 (n - 1) (by omega) (by omega) (by omega)).2, ?_⟩
  exact trl_c (tr_okT h) (fun i j i1 i2 => trF_c hJ (fun a b a1 a2 => (hu a b a1 a2 (by omega)).2) (by omega) i2) n 0 (n - 1) (by omega)
theorem dgL_c {n : Nat} {x y : Nat → Int32} {T : Nat → Nat → Nat} (h : trl T n 0 (n - 1) = cL n x y) : dgL T n = cD n x y := by
  unfold dgL cD
  rw [h]
/-- spans of the triangles are seen -/
theorem trl_sp {n : Nat} {x y : Nat → Int32} (hr : rowR n x y) : ∀ (d i j : Nat), j - i ≤ d → i < j → j < n → sightR n x y i j ≠ 0 → cS n x y i j ≠ -1 → ∀ e ∈ trl (cT n x y) n i j, sightR n x y e.1 e.2.2 ≠ 0
  | 0, i, j, h, h1, _, _, _, e, he => by omega
  | d + 1, i, j, h, h1, h2, h3, h4, e, he => by
    have hn := hr.1
    rcases Nat.lt_or_ge j (i + 2) with z | z
    · rw [trl_e (by omega)] at he
      cases he
    · have hT := c_okT (x := x) (y := y) hn
      obtain ⟨o1, o2⟩ := hT i j z h2
      have hSe : cS n x y i j = (pcS (cJ n x y) (cW n x y) (cS n x y) i j (j - i - 1)).2 := congrArg Prod.snd ((c_DPr hn).2 i j z h2)
      have hf := tr_some (W := cW n x y) z hSe
      have k3 : sbF (cJ n x y) (cS n x y) i (cT n x y i j) j = cS n x y i j := of_decide_eq_true (fnd_p hf)
      rw [trl_s hT z h2] at he
      generalize cT n x y i j = k at *
      have hs := c_okS hr
      obtain ⟨v1, v2, v3⟩ := hs.1 i k o1 (by omega)
      obtain ⟨u1, u2, u3⟩ := hs.1 k j o2 h2
      have j1 : cJ n x y i k = -1 ↔ sightR n x y i k = 0 := (J_i v1 v2 v3).1
      have j2 : cJ n x y k j = -1 ↔ sightR n x y k j = 0 := (J_i u1 u2 u3).1
      have hn1 : ¬ (cJ n x y i k = -1 ∨ cJ n x y k j = -1 ∨ cS n x y i k = -1 ∨ cS n x y k j = -1) := fun w => by
        unfold sbF at k3
        rw [if_pos w] at k3
        exact h4 k3.symm
      rcases List.mem_cons.mp he with w | w
      · rw [w]; exact h3
      · rcases List.mem_append.mp w with w | w
        · exact trl_sp hr d i k (by omega) o1 (by omega) (fun z => hn1 (Or.inl (j1.mpr z))) (fun z => hn1 (Or.inr (Or.inr (Or.inl z)))) e w
        · exact trl_sp hr d k j (by omega) o2 h2 (fun z => hn1 (Or.inr (Or.inl (j2.mpr z)))) (fun z => hn1 (Or.inr (Or.inr (Or.inr z)))) e w
/-- the spans behind the first are diagonals -/
theorem tail_1 {n : Nat} {x y : Nat → Int32} (hr : rowR n x y) (hf : noF n x y) (hm : noM n x y) {s : Nat × Nat} (h : s ∈ ((cL n x y).tail).map spn) : s.1 + 2 ≤ s.2 ∧ s.2 < n ∧ sightR n x y s.1 s.2 = 1 ∧ ¬ (af n s.1 = s.2 ∨ af n s.2 = s.1) := by
  have h3 := hr.1
  have hT := c_okT (x := x) (y := y) h3
  have hnd := spn_nodup hT n 0 (n - 1) (by omega) (by omega)
  obtain ⟨e, e1, e2⟩ := List.mem_map.mp h
  have em := List.mem_of_mem_tail e1
  obtain ⟨a1, a2, a3, a4, -⟩ := trl_in hT n 0 (n - 1) (by omega) (by omega) e em
  have hs := trl_sp hr n 0 (n - 1) (by omega) (by omega) (by omega) (by rw [near_top h3]; decide) (c_reach hr hf hm) e em
  have s1 : s.1 = e.1 := by rw [← e2]; rfl
  have s2 : s.2 = e.2.2 := by rw [← e2]; rfl
  have hnt : ¬ (e.1 = 0 ∧ e.2.2 = n - 1) := fun w => by
    rcases Nat.lt_or_ge (n - 1) 2 with z | z
    · omega
    · have hc := trl_s hT (show 0 + 2 ≤ n - 1 by omega) (show n - 1 < n by omega)
      rw [hc] at hnd
      unfold cL at h
      rw [hc, List.tail_cons] at h
      have : s = (0, n - 1) := Prod.ext (by rw [s1]; exact w.1) (by rw [s2]; exact w.2)
      rw [this] at h
      exact (List.nodup_cons.mp hnd).1 h
  have near : ¬ (af n e.1 = e.2.2 ∨ af n e.2.2 = e.1) := fun w => by
    rcases w with w | w
    · rw [af_s (by omega)] at w; omega
    · rcases Nat.lt_or_ge (e.2.2 + 1) n with z | z
      · rw [af_s z] at w; omega
      · have : af n e.2.2 = 0 := if_neg (by omega)
        rw [this] at w
        exact hnt ⟨w.symm, by omega⟩
  rw [s1, s2]
  refine ⟨by omega, by omega, ?_, near⟩
  unfold sightR at hs ⊢
  rw [if_neg near] at hs ⊢
  by_cases q : seenR n x y e.1 e.2.2 = true
  · rw [if_pos q]
  · rw [if_neg q] at hs; exact absurd rfl hs
/-- the class lists the same diagonals -/
theorem dgC_c {n : Nat} {x y : Nat → Int32} (hr : rowR n x y) (hf : noF n x y) (hm : noM n x y) {S : Nat → Nat → Int32} (hS : ∀ a b, a < n → b < n → S a b = sightR n x y a b) {T : Nat → Nat → Nat} (h : trl T n 0 (n - 1) = cL n x y) : dgC S T n = cD n x y := by
  have h3 := hr.1
  have hT := c_okT (x := x) (y := y) h3
  have hl : (cL n x y).length = n - 2 := by have := trl_len hT n 0 (n - 1) (by omega) (by omega); show (trl (cT n x y) n 0 (n - 1)).length = _; omega
  unfold dgC cD jnC
  rw [h]
  refine dl_c (fun a b hab hb => ?_)
  rw [Bool.eq_iff_iff, Bool.and_eq_true, decide_eq_true_eq, decide_eq_true_eq, J2_iff]
  have jt : jnR (lI (cL n x y)) (lK (cL n x y)) (lJ (cL n x y)) (n - 2) a b = true ↔ (a, b) ∈ ((cL n x y).tail).map spn := jn_tail hT h3 a b
  rw [jt, hS a b (by omega) hb]
  constructor
  · rintro ⟨q | ⟨u, u1, u2, u3⟩, q2⟩
    · rw [q] at q2; exact absurd q2 (by decide)
    · have hu := List.mem_of_getElem? (l_at (l := cL n x y) (t := u) (by omega))
      obtain ⟨a1, a2, a3, a4, -⟩ := trl_in hT n 0 (n - 1) (by omega) (by omega) _ hu
      have a2 : lI (cL n x y) u < lK (cL n x y) u := a2
      have a3 : lK (cL n x y) u < lJ (cL n x y) u := a3
      rcases u3 with ⟨b1, b2⟩ | ⟨b1, b2⟩
      · refine List.mem_map.mpr ⟨(lI (cL n x y) u, lK (cL n x y) u, lJ (cL n x y) u), ?_, by rw [b1, b2]; rfl⟩
        have e9 := l_at (l := cL n x y) (t := u) (by omega)
        have hne : (cL n x y) ≠ [] := fun w => by rw [w] at hl; simp at hl; omega
        obtain ⟨u', rfl⟩ : ∃ u', u = u' + 1 := ⟨u - 1, by omega⟩
        refine List.mem_of_getElem? (i := u') ?_
        rw [List.getElem?_tail]
        exact e9
      · omega
  · intro q
    obtain ⟨c1, c2, c3, c4⟩ := tail_1 hr hf hm q
    refine ⟨Or.inr ?_, c3⟩
    obtain ⟨e, e1, e2⟩ := List.mem_map.mp q
    obtain ⟨u, u1, u2⟩ := List.mem_iff_getElem.mp e1
    rw [List.length_tail] at u1
    have e9 := l_at (l := cL n x y) (t := u + 1) (by omega)
    rw [List.getElem_tail] at u2
    rw [List.getElem?_eq_getElem (by omega), u2] at e9
    have e9 := Option.some.inj e9
    refine ⟨u + 1, by omega, by omega, Or.inl ⟨?_, ?_⟩⟩
    · have : e.1 = a := congrArg Prod.fst e2
      rw [← this, e9]
    · have : e.2.2 = b := congrArg Prod.snd e2
      rw [← this, e9]
