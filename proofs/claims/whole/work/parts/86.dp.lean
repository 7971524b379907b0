/-- bounds for the number of triangulations -/
def bt : Nat → Nat
  | 1 => 1 | 2 => 1 | 3 => 2 | 4 => 5 | 5 => 14 | 6 => 42 | 7 => 132 | 8 => 429 | 9 => 1430 | 10 => 4862 | 11 => 16796 | 12 => 58786 | 13 => 208012
  | _ => 0
def ps9 (w : Nat) : Nat → Nat
  | 0 => 0
  | d + 1 => ps9 w d + bt (d + 1) * bt (w - (d + 1))
theorem ps_le (w : Nat) : ∀ d e, ps9 w d ≤ ps9 w (d + e)
  | d, 0 => Nat.le_refl _
  | d, e + 1 => Nat.le_trans (ps_le w d e) (Nat.le_add_right _ _)
theorem ps_bt : ∀ w, w ≤ 13 → 2 ≤ w → ps9 w (w - 1) = bt w := by decide
theorem bt_le : ∀ w, w ≤ 13 → bt w ≤ 208012 := by decide
theorem ps_all {w d : Nat} (h1 : 2 ≤ w) (h2 : w ≤ 13) (hd : d ≤ w - 1) : ps9 w d ≤ 208012 := by
  have := ps_le w d (w - 1 - d)
  rw [show d + (w - 1 - d) = w - 1 by omega, ps_bt w h2 h1] at this
  exact Nat.le_trans this (bt_le w h2)
theorem m1_i : (-1 : Int32).toInt = -1 := by decide
theorem one_i : (1 : Int32).toInt = 1 := by decide
/-- both tables, span by span -/
def DPc (n : Nat) (s q W S T : Nat → Nat → Int32) : Prop := (∀ i, i + 1 < n → W i (i + 1) = 1 ∧ S i (i + 1) = 0) ∧ ∀ i j, i + 2 ≤ j → j < n → (W i j, S i j, T i j) = spF W S (s i j) (q i j) i j
def DPr (n : Nat) (J W S : Nat → Nat → Int32) : Prop := (∀ i, i + 1 < n → W i (i + 1) = 1 ∧ S i (i + 1) = 0) ∧ ∀ i j, i + 2 ≤ j → j < n → (W i j, S i j) = pcS J W S i j (j - i - 1)
def okS (n : Nat) (s q : Nat → Nat → Int32) : Prop := (∀ i j, i < j → j < n → (s i j = 2 ∨ s i j = 1 ∨ s i j = 0) ∧ 0 ≤ (q i j).toInt ∧ (q i j).toInt ≤ 8000000) ∧ ∀ i, i + 1 < n → s i (i + 1) = 2
/-- a span of the reference: ways, least sum -/
def gRf (W S : Nat → Nat → Int32) (i j : Nat) : Prop := 0 ≤ (W i j).toInt ∧ (W i j).toInt ≤ bt (j - i) ∧ (S i j = -1 ↔ (W i j).toInt = 0) ∧ (S i j ≠ -1 → 0 ≤ (S i j).toInt ∧ (S i j).toInt ≤ 16000000 * ((j - i : Nat) - 1 : Int))
/-- the class's span against the reference's -/
def gCl (s q Wc Sc Tc J W S : Nat → Nat → Int32) (i j : Nat) : Prop := (s i j = 0 → (Wc i j).toInt = 0) ∧ (s i j ≠ 0 → Wc i j = W i j ∧ (S i j ≠ -1 → Sc i j = S i j + J i j ∧ (i + 2 ≤ j → Tc i j = nI (trF J S i j))))
theorem J_i {s q : Int32} (h : s = 2 ∨ s = 1 ∨ s = 0) (h1 : 0 ≤ q.toInt) (h2 : q.toInt ≤ 8000000) : (jnF s q = -1 ↔ s = 0) ∧ (s ≠ 0 → 0 ≤ (jnF s q).toInt ∧ (jnF s q).toInt ≤ 8000000) := by
  rcases h with rfl | rfl | rfl
  · unfold jnF
    rw [if_pos rfl]
    exact ⟨⟨fun z => absurd z (by decide), fun z => absurd z (by decide)⟩, fun _ => by decide⟩
  · unfold jnF
    rw [if_neg (by decide), if_pos rfl]
    refine ⟨⟨fun z => ?_, fun z => absurd z (by decide)⟩, fun _ => ⟨h1, h2⟩⟩
    rw [z, m1_i] at h1
    omega
  · unfold jnF
    rw [if_neg (by decide), if_neg (by decide)]
    exact ⟨⟨fun _ => rfl, fun _ => rfl⟩, fun z => absurd rfl z⟩
/-- the candidates of a span, the first d of them -/
theorem dp_loop {n : Nat} {s q Wc Sc Tc W S J : Nat → Nat → Int32} (hn : n ≤ 14) (hs : okS n s q) (hJ : ∀ i j, i < j → j < n → J i j = jnF (s i j) (q i j)) {i j : Nat} (hij : i + 2 ≤ j) (hj : j < n) (hR : ∀ a b, a < b → b < n → b - a < j - i → gRf W S a b) (hC : ∀ a b, a < b → b < n → b - a < j - i → gCl s q Wc Sc Tc J W S a b) : ∀ d, d ≤ j - i - 1 →
    (spS Wc Sc i j d).1 = (pcS J W S i j d).1 ∧ 0 ≤ ((pcS J W S i j d).1).toInt ∧ ((pcS J W S i j d).1).toInt ≤ ps9 (j - i) d ∧ ((pcS J W S i j d).2 = -1 ↔ ((pcS J W S i j d).1).toInt = 0) ∧ ((pcS J W S i j d).2 = -1 → ∀ e, e < d → sbF J S i (i + 1 + e) j = -1) ∧ ((pcS J W S i j d).2 ≠ -1 → 0 ≤ ((pcS J W S i j d).2).toInt ∧ ((pcS J W S i j d).2).toInt ≤ 16000000 * ((j - i : Nat) - 1 : Int) ∧ (spS Wc Sc i j d).2.1 = (pcS J W S i j d).2 ∧ ∃ e, e < d ∧ (spS Wc Sc i j d).2.2 = nI (i + 1 + e) ∧ sbF J S i (i + 1 + e) j = (pcS J W S i j d).2 ∧ (∀ e', e' < e → sbF J S i (i + 1 + e') j ≠ (pcS J W S i j d).2) ∧ ∀ e', e' < d → sbF J S i (i + 1 + e') j ≠ -1 → ((pcS J W S i j d).2).toInt ≤ (sbF J S i (i + 1 + e') j).toInt) := by
  intro d
  induction d with
  | zero =>
    intro _
    refine ⟨rfl, by show 0 ≤ (0 : Int32).toInt; decide, by show (0 : Int32).toInt ≤ _; rw [z32]; exact Int.natCast_nonneg _, ⟨fun _ => z32, fun _ => rfl⟩, fun _ e he => absurd he (Nat.not_lt_zero _), fun z => absurd rfl z⟩
  | succ d ih =>
    intro hd
    obtain ⟨i1, i2, i3, i4, i5, i6⟩ := ih (by omega)
    have hk1 : i < i + 1 + d := by omega
    have hk2 : i + 1 + d < j := by omega
    generalize hk : i + 1 + d = k at *
    have r1 := hR i k hk1 (by omega) (by omega)
    have r2 := hR k j hk2 hj (by omega)
    have c1 := hC i k hk1 (by omega) (by omega)
    have c2 := hC k j hk2 hj (by omega)
    obtain ⟨v1, v2, v3⟩ := hs.1 i k hk1 (by omega)
    obtain ⟨u1, u2, u3⟩ := hs.1 k j hk2 hj
    have j1 := J_i v1 v2 v3
    have j2 := J_i u1 u2 u3
    rw [← hJ i k hk1 (by omega)] at j1
    rw [← hJ k j hk2 hj] at j2
    have hps := ps_all (w := j - i) (d := d + 1) (by omega) (by omega) (by omega)
    have hpse : ps9 (j - i) (d + 1) = ps9 (j - i) d + bt (d + 1) * bt (j - i - (d + 1)) := rfl
    by_cases hc : s i k ≠ 0 ∧ s k j ≠ 0 ∧ S i k ≠ -1 ∧ S k j ≠ -1
    · obtain ⟨h1, h2, h3, h4⟩ := hc
      -- the candidate counts
      have w1 : 0 < (W i k).toInt := by
        have := r1.1
        have : (W i k).toInt ≠ 0 := fun z => h3 (r1.2.2.1.mpr z)
        omega
      have w2 : 0 < (W k j).toInt := by
        have := r2.1
        have : (W k j).toInt ≠ 0 := fun z => h4 (r2.2.2.1.mpr z)
        omega
      have e1 : Wc i k = W i k := (c1.2 h1).1
      have e2 : Wc k j = W k j := (c2.2 h2).1
      have e3 := ((c1.2 h1).2 h3).1
      have e4 := ((c2.2 h2).2 h4).1
      have b1 : (W i k).toInt ≤ bt (d + 1) := by have := r1.2.1; rw [show k - i = d + 1 by omega] at this; exact this
      have b2 : (W k j).toInt ≤ bt (j - i - (d + 1)) := by have := r2.2.1; rw [show j - k = j - i - (d + 1) by omega] at this; exact this
      have bm : (W i k).toInt * (W k j).toInt ≤ (bt (d + 1) : Int) * (bt (j - i - (d + 1)) : Int) := Int.mul_le_mul b1 b2 (by omega) (Int.natCast_nonneg _)
      have bp := mpp w1 w2
      have hpsz : ((ps9 (j - i) (d + 1) : Nat) : Int) = (ps9 (j - i) d : Int) + (bt (d + 1) : Int) * (bt (j - i - (d + 1)) : Int) := by rw [hpse]; simp
      have mi : (W i k * W k j).toInt = (W i k).toInt * (W k j).toInt := m32 rfl rfl (by omega) (by omega)
      have j1' := j1.2 h1
      have j2' := j2.2 h2
      have s1 := r1.2.2.2 h3
      have s2 := r2.2.2.2 h4
      have a1 := a32 (a := S i k) (b := S k j) rfl rfl (by omega) (by omega)
      have a2 := a32 (b := J i k) a1 rfl (by omega) (by omega)
      have a3 := a32 (b := J k j) a2 rfl (by omega) (by omega)
      have hsb : sbF J S i k j = S i k + S k j + J i k + J k j := by
        unfold sbF
        rw [if_neg (fun z => ?_)]
        rcases z with z | z | z | z
        · exact h1 (j1.1.mp z)
        · exact h2 (j2.1.mp z)
        · exact h3 z
        · exact h4 z
      have hsbi : (sbF J S i k j).toInt = (S i k).toInt + (S k j).toInt + (J i k).toInt + (J k j).toInt := by rw [hsb]; exact a3
      have hsn : sbF J S i k j ≠ -1 := fun z => by rw [z, m1_i] at hsbi; omega
      have hb2 : (sbF J S i k j).toInt ≤ 16000000 * ((j - i : Nat) - 1 : Int) := by
        have e9 : ((j - i : Nat) : Int) = (k - i : Nat) + (j - k : Nat) := by omega
        rw [e9, hsbi]
        omega
      have htot : Sc i k + Sc k j = sbF J S i k j := by
        rw [e3, e4, hsb]
        have := Int32.add_comm
        grind
      have hadd := a32 (a := (pcS J W S i j d).1) (b := W i k * W k j) rfl mi (by omega) (by omega)
      have hbo : 0 < Wc i k * Wc k j := by rw [e1, e2, lt32, z32, mi]; exact bp
      -- one step of each
      have hS1 : (spS Wc Sc i j (d + 1)).1 = (pcS J W S i j d).1 + W i k * W k j := by
        simp only [spS]
        rw [hk, i1, e1, e2]
      by_cases hu : (pcS J W S i j d).2 = -1 ∨ sbF J S i k j < (pcS J W S i j d).2
      · have hp := pcS_t (J := J) (W := W) (S := S) (i := i) (j := j) (d := d) hk hsn hu
        have hS2 : (spS Wc Sc i j (d + 1)).2 = (sbF J S i k j, nI k) := by
          simp only [spS]
          rw [hk, htot, if_pos]
          refine ⟨hbo, ?_⟩
          rcases hu with hu | hu
          · refine Or.inl ?_
            rw [i1, eq32, z32]
            exact i4.mp hu
          · by_cases hm : (pcS J W S i j d).2 = -1
            · refine Or.inl ?_
              rw [i1, eq32, z32]
              exact i4.mp hm
            · refine Or.inr ?_
              rw [(i6 hm).2.2.1]
              exact hu
        rw [hS1, hS2, hp]
        refine ⟨rfl, by rw [hadd]; omega, by rw [hadd]; omega, ⟨fun z => absurd z hsn, fun z => by rw [hadd] at z; omega⟩, fun z => absurd z hsn, fun _ => ⟨by rw [hsbi]; omega, hb2, rfl, d, by omega, by rw [hk], by rw [hk], fun e' he' => ?_, fun e' he' hne => ?_⟩⟩
        · intro z
          have z : sbF J S i (i + 1 + e') j = sbF J S i k j := z
          rcases hu with hu | hu
          · exact hsn (z.symm.trans (i5 hu e' he'))
          · by_cases hm : (pcS J W S i j d).2 = -1
            · exact hsn (z.symm.trans (i5 hm e' he'))
            · obtain ⟨-, -, -, e, -, -, -, -, hmin⟩ := i6 hm
              have := hmin e' he' (by rw [z]; exact hsn)
              rw [z] at this
              have := lt32.mp hu
              omega
        · show (sbF J S i k j).toInt ≤ _
          rcases Nat.lt_or_ge e' d with w | w
          · rcases hu with hu | hu
            · exact absurd (i5 hu e' w) hne
            · by_cases hm : (pcS J W S i j d).2 = -1
              · exact absurd (i5 hm e' w) hne
              · obtain ⟨-, -, -, e, -, -, -, -, hmin⟩ := i6 hm
                have := hmin e' w hne
                have := lt32.mp hu
                omega
          · rw [show i + 1 + e' = k by omega]; exact Int.le_refl _
      · have hp := pcS_f (J := J) (W := W) (S := S) (i := i) (j := j) (d := d) hk hsn hu
        have hm : (pcS J W S i j d).2 ≠ -1 := fun z => hu (Or.inl z)
        obtain ⟨k1, k2, k3, e, k4, k5, k6, k7, k8⟩ := i6 hm
        have hS2 : (spS Wc Sc i j (d + 1)).2 = (spS Wc Sc i j d).2 := by
          simp only [spS]
          rw [hk, htot, if_neg]
          rintro ⟨-, z | z⟩
          · rw [i1, eq32, z32] at z
            exact hm (i4.mpr z)
          · rw [k3] at z
            exact hu (Or.inr z)
        rw [hS1, hS2, hp]
        refine ⟨rfl, by rw [hadd]; omega, by rw [hadd]; omega, ⟨fun z => absurd z hm, fun z => by rw [hadd] at z; omega⟩, fun z => absurd z hm, fun _ => ⟨k1, k2, k3, e, by omega, k5, k6, k7, fun e' he' hne => ?_⟩⟩
        rcases Nat.lt_or_ge e' d with w | w
        · exact k8 e' w hne
        · rw [show i + 1 + e' = k by omega]
          have : ¬ (sbF J S i k j).toInt < ((pcS J W S i j d).2).toInt := fun z => hu (Or.inr (lt32.mpr z))
          show ((pcS J W S i j d).2).toInt ≤ _
          omega
    · -- the candidate is none
      have hsb : sbF J S i k j = -1 := by
        unfold sbF
        rw [if_pos]
        by_cases h1 : s i k = 0
        · exact Or.inl (j1.1.mpr h1)
        · by_cases h2 : s k j = 0
          · exact Or.inr (Or.inl (j2.1.mpr h2))
          · by_cases h3 : S i k = -1
            · exact Or.inr (Or.inr (Or.inl h3))
            · by_cases h4 : S k j = -1
              · exact Or.inr (Or.inr (Or.inr h4))
              · exact absurd ⟨h1, h2, h3, h4⟩ hc
      have hz : Wc i k * Wc k j = 0 := by
        have z0 : ∀ w : Int32, w.toInt = 0 → w = 0 := fun w hw => by rw [eq32, z32]; exact hw
        have zl : ∀ w : Int32, (0 : Int32) * w = 0 := fun w => by rw [eq32, Int32.toInt_mul, z32, Int.zero_mul]; decide
        have zr : ∀ w : Int32, w * (0 : Int32) = 0 := fun w => by rw [Int32.mul_comm]; exact zl w
        by_cases h1 : s i k = 0
        · rw [z0 _ (c1.1 h1)]; exact zl _
        · by_cases h2 : s k j = 0
          · rw [z0 _ (c2.1 h2)]; exact zr _
          · by_cases h3 : S i k = -1
            · rw [(c1.2 h1).1, z0 _ (r1.2.2.1.mp h3)]; exact zl _
            · by_cases h4 : S k j = -1
              · rw [(c2.2 h2).1, z0 _ (r2.2.2.1.mp h4)]; exact zr _
              · exact absurd ⟨h1, h2, h3, h4⟩ hc
      have hp := pcS_n (J := J) (W := W) (S := S) (i := i) (j := j) (d := d) hk hsb
      have hS2 : spS Wc Sc i j (d + 1) = spS Wc Sc i j d := by
        simp only [spS]
        rw [hk, hz, if_neg (fun z => absurd z.1 (by decide))]
        have : (spS Wc Sc i j d).1 + 0 = (spS Wc Sc i j d).1 := Int32.add_zero _
        rw [this]
      rw [hp, hS2]
      refine ⟨i1, i2, by rw [hpse]; have : (0 : Int) ≤ ((bt (d + 1) * bt (j - i - (d + 1)) : Nat) : Int) := Int.natCast_nonneg _; omega, i4, fun z e he => ?_, fun z => ?_⟩
      · rcases Nat.lt_or_ge e d with w | w
        · exact i5 z e w
        · rw [show i + 1 + e = k by omega]; exact hsb
      · obtain ⟨k1, k2, k3, e, k4, k5, k6, k7, k8⟩ := i6 z
        refine ⟨k1, k2, k3, e, by omega, k5, k6, k7, fun e' he' hne => ?_⟩
        rcases Nat.lt_or_ge e' d with w | w
        · exact k8 e' w hne
        · rw [show i + 1 + e' = k by omega] at hne; exact absurd hsb hne
