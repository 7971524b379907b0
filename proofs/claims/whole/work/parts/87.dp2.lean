theorem fnd_first {p : Nat → Bool} : ∀ (d a k : Nat), a ≤ k → k < a + d → p k = true → (∀ k', a ≤ k' → k' < k → p k' = false) → fnd p a d = some k
  | 0, a, k, h1, h2, _, _ => by omega
  | d + 1, a, k, h1, h2, h3, h4 => by
    rw [fnd]
    by_cases q : a = k
    · rw [q, if_pos h3]
    · rw [if_neg (by rw [h4 a (Nat.le_refl _) (by omega)]; decide)]
      exact fnd_first d (a + 1) k (by omega) (by omega) h3 (fun k' h5 h6 => h4 k' (by omega) h6)
theorem dp_all {n : Nat} {s q Wc Sc Tc W S J : Nat → Nat → Int32} (hn : n ≤ 14) (hs : okS n s q) (hJ : ∀ i j, i < j → j < n → J i j = jnF (s i j) (q i j)) (hc : DPc n s q Wc Sc Tc) (hr : DPr n J W S) : ∀ w i j, i < j → j < n → j - i ≤ w → gRf W S i j ∧ gCl s q Wc Sc Tc J W S i j
  | 0, i, j, h1, _, h3 => by omega
  | w + 1, i, j, h1, h2, h3 => by
    rcases Nat.lt_or_ge (i + 1) j with h4 | h4
    · have IH := dp_all hn hs hJ hc hr w
      have L := dp_loop hn hs hJ (Tc := Tc) (i := i) (j := j) (by omega) h2 (fun a b a1 a2 a3 => (IH a b a1 a2 (by omega)).1) (fun a b a1 a2 a3 => (IH a b a1 a2 (by omega)).2) (j - i - 1) (Nat.le_refl _)
      have er := hr.2 i j (by omega) h2
      have ec := hc.2 i j (by omega) h2
      have er1 : W i j = (pcS J W S i j (j - i - 1)).1 := congrArg Prod.fst er
      have er2 : S i j = (pcS J W S i j (j - i - 1)).2 := congrArg Prod.snd er
      rw [← er1, ← er2] at L
      obtain ⟨l1, l2, l3, l4, l5, l6⟩ := L
      rw [ps_bt (j - i) (by omega) (by omega)] at l3
      refine ⟨⟨l2, l3, l4, fun z => ⟨(l6 z).1, (l6 z).2.1⟩⟩, fun z => ?_, fun z => ?_⟩
      · have : (W i j, S i j, Tc i j).1 = W i j := rfl
        unfold spF at ec
        rw [if_pos z] at ec
        have e1 : Wc i j = 0 := congrArg Prod.fst ec
        rw [e1, z32]
      · have hv := (hs.1 i j h1 h2).1
        unfold spF at ec
        rw [if_neg z] at ec
        have hJ' := hJ i j h1 h2
        have wc : Wc i j = W i j := by
          by_cases z1 : s i j = 1
          · rw [if_pos z1] at ec
            have e1 : Wc i j = _ := congrArg Prod.fst ec
            rw [e1]; exact l1
          · rw [if_neg z1] at ec
            have e1 : Wc i j = _ := congrArg Prod.fst ec
            rw [e1]; exact l1
        refine ⟨wc, fun zS => ?_⟩
        obtain ⟨-, -, k3, e, k4, k5, k6, k7, -⟩ := l6 zS
        have ht : trF J S i j = i + 1 + e := by
          unfold trF fndN
          rw [fnd_first (p := trP J S i j) (j - (i + 1)) (i + 1) (i + 1 + e) (by omega) (by omega) (decide_eq_true k6) (fun k' a1 a2 => decide_eq_false (by
            have := k7 (k' - (i + 1)) (by omega)
            rw [show i + 1 + (k' - (i + 1)) = k' by omega] at this
            exact this))]
          rfl
        rw [ht]
        by_cases z1 : s i j = 1
        · rw [if_pos z1] at ec
          have e2 : Sc i j = _ := congrArg (fun t => t.2.1) ec
          have e3 : Tc i j = _ := congrArg (fun t => t.2.2) ec
          refine ⟨?_, fun _ => by rw [e3]; exact k5⟩
          rw [e2, hJ', z1]
          show (spS Wc Sc i j (j - i - 1)).2.1 + q i j = S i j + jnF 1 (q i j)
          rw [k3]
          rfl
        · rw [if_neg z1] at ec
          have e2 : Sc i j = _ := congrArg (fun t => t.2.1) ec
          have e3 : Tc i j = _ := congrArg (fun t => t.2.2) ec
          refine ⟨?_, fun _ => by rw [e3]; exact k5⟩
          have z2 : s i j = 2 := by
            rcases hv with v | v | v
            · exact v
            · exact absurd v z1
            · exact absurd v z
          rw [e2, hJ', z2]
          show (spS Wc Sc i j (j - i - 1)).2.1 = S i j + 0
          rw [k3, Int32.add_zero]
    · obtain rfl : j = i + 1 := by omega
      obtain ⟨r1, r2⟩ := hr.1 i h2
      obtain ⟨c1, c2⟩ := hc.1 i h2
      have s2 := hs.2 i h2
      have e1 : i + 1 - i = 1 := by omega
      refine ⟨⟨by rw [r1, one_i]; decide, by rw [r1, one_i, e1]; decide, ⟨fun z => ?_, fun z => ?_⟩, fun _ => by rw [r2, z32, e1]; decide⟩, fun z => ?_, fun _ => ⟨by rw [c1, r1], fun _ => ⟨?_, fun z => by omega⟩⟩⟩
      · rw [r2] at z; exact absurd z (by decide)
      · rw [r1, one_i] at z; omega
      · rw [s2] at z; exact absurd z (by decide)
      · rw [c2, r2, hJ i (i + 1) h1 h2, s2]
        show (0 : Int32) = 0 + 0
        decide
theorem dp_none {n : Nat} {s q Wc Sc Tc W S J : Nat → Nat → Int32} (hn : n ≤ 14) (hs : okS n s q) (hJ : ∀ i j, i < j → j < n → J i j = jnF (s i j) (q i j)) (hc : DPc n s q Wc Sc Tc) (hr : DPr n J W S) {i k j : Nat} (h1 : i < k) (h2 : k < j) (h3 : j < n) (hk : s i k ≠ 0) (hk' : s k j ≠ 0) (hS : S i k ≠ -1) (hS' : S k j ≠ -1) : S i j ≠ -1 := fun z => by
  have A := dp_all hn hs hJ hc hr n
  have L := dp_loop hn hs hJ (Tc := Tc) (i := i) (j := j) (by omega) h3 (fun a b a1 a2 a3 => (A a b a1 a2 (by omega)).1) (fun a b a1 a2 a3 => (A a b a1 a2 (by omega)).2) (j - i - 1) (Nat.le_refl _)
  have er2 : S i j = (pcS J W S i j (j - i - 1)).2 := congrArg Prod.snd (hr.2 i j (by omega) h3)
  have hz := L.2.2.2.2.1 (er2.symm.trans z) (k - (i + 1)) (by omega)
  rw [show i + 1 + (k - (i + 1)) = k by omega] at hz
  obtain ⟨v1, v2, v3⟩ := hs.1 i k h1 (by omega)
  obtain ⟨u1, u2, u3⟩ := hs.1 k j h2 h3
  have j1 := J_i v1 v2 v3
  have j2 := J_i u1 u2 u3
  rw [← hJ i k h1 (by omega)] at j1
  rw [← hJ k j h2 h3] at j2
  have s1 := (A i k h1 (by omega) (by omega)).1.2.2.2 hS
  have s2 := (A k j h2 h3 (by omega)).1.2.2.2 hS'
  have b1 := j1.2 hk
  have b2 := j2.2 hk'
  unfold sbF at hz
  rw [if_neg] at hz
  · have a1 := a32 (a := S i k) (b := S k j) rfl rfl (by omega) (by omega)
    have a2 := a32 (b := J i k) a1 rfl (by omega) (by omega)
    have a3 := a32 (b := J k j) a2 rfl (by omega) (by omega)
    rw [hz, m1_i] at a3
    omega
  · rintro (w | w | w | w)
    · exact hk (j1.1.mp w)
    · exact hk' (j2.1.mp w)
    · exact hS w
    · exact hS' w
/-- both name the same triangles -/
theorem trl_same {n : Nat} {s q Wc Sc Tc W S J : Nat → Nat → Int32} (hn : n ≤ 14) (hs : okS n s q) (hJ : ∀ i j, i < j → j < n → J i j = jnF (s i j) (q i j)) (hc : DPc n s q Wc Sc Tc) (hr : DPr n J W S) {T : Nat → Nat → Nat} (hT : ∀ i j, i + 2 ≤ j → j < n → Tc i j = nI (T i j) ∧ T i j < n) : ∀ d i j, i < j → j < n → s i j ≠ 0 → S i j ≠ -1 → trl T d i j = trl (trF J S) d i j
  | 0, i, j, _, _, _, _ => rfl
  | d + 1, i, j, h1, h2, h3, h4 => by
    rw [trl, trl]
    by_cases z : j ≤ i + 1
    · rw [if_pos z, if_pos z]
    · rw [if_neg z, if_neg z]
      have A := dp_all hn hs hJ hc hr n
      obtain ⟨t1, t2⟩ := hT i j (by omega) h2
      have e := (((A i j h1 h2 (by omega)).2.2 h3).2 h4).2 (by omega)
      have er := hr.2 i j (by omega) h2
      have hSe : S i j = (pcS J W S i j (j - i - 1)).2 := congrArg Prod.snd er
      have hf := tr_some (W := W) (by omega) hSe
      have k1 := fnd_ge hf
      have k2 := fnd_lt hf
      have k3 : sbF J S i (trF J S i j) j = S i j := of_decide_eq_true (fnd_p hf)
      have et : T i j = trF J S i j := (nI_eq (by omega) (by omega)).mp (t1.symm.trans e)
      rw [et]
      generalize trF J S i j = k at *
      have sub : s i k ≠ 0 ∧ s k j ≠ 0 ∧ S i k ≠ -1 ∧ S k j ≠ -1 := by
        obtain ⟨v1, v2, v3⟩ := hs.1 i k (by omega) (by omega)
        obtain ⟨u1, u2, u3⟩ := hs.1 k j k2 h2
        have j1 := (J_i v1 v2 v3).1
        have j2 := (J_i u1 u2 u3).1
        rw [← hJ i k (by omega) (by omega)] at j1
        rw [← hJ k j k2 h2] at j2
        have hn1 : ¬ (J i k = -1 ∨ J k j = -1 ∨ S i k = -1 ∨ S k j = -1) := fun w => by
          unfold sbF at k3
          rw [if_pos w] at k3
          exact h4 k3.symm
        exact ⟨fun w => hn1 (Or.inl (j1.mpr w)), fun w => hn1 (Or.inr (Or.inl (j2.mpr w))), fun w => hn1 (Or.inr (Or.inr (Or.inl w))), fun w => hn1 (Or.inr (Or.inr (Or.inr w)))⟩
      rw [trl_same hn hs hJ hc hr hT d i k (by omega) (by omega) sub.1 sub.2.2.1, trl_same hn hs hJ hc hr hT d k j k2 h2 sub.2.1 sub.2.2.2]
