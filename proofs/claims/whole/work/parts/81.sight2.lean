theorem mid_i {n : Nat} {x y : Nat → Int32} (h : rowR n x y) {i j : Nat} (hi : i < n) (hj : j < n) : wB 3000 (x i + x j) ∧ wB 3000 (y i + y j) ∧ pt (x i + x j) (y i + y j) = mid (Q0 n x y) i j := by
  obtain ⟨a1, a2⟩ := h.2.2 i hi
  obtain ⟨b1, b2⟩ := h.2.2 j hj
  unfold wB at *
  have e1 := a32 (a := x i) (b := x j) rfl rfl (by omega) (by omega)
  have e2 := a32 (a := y i) (b := y j) rfl rfl (by omega) (by omega)
  refine ⟨by rw [e1]; omega, by rw [e2]; omega, ?_⟩
  unfold pt mid Q0
  rw [e1, e2, Nat.mod_eq_of_lt hi, Nat.mod_eq_of_lt hj]
  rfl
theorem Q2_at {n : Nat} {x y : Nat → Int32} {k : Nat} (hk : k < n) : Q2 n x y k = ((2 : Int32).toInt * (x k).toInt, (2 : Int32).toInt * (y k).toInt) := by
  unfold Q2 Q0
  rw [Nat.mod_eq_of_lt hk]
  rfl
theorem Q2_s {n : Nat} {x y : Nat → Int32} (h3 : 3 ≤ n) {k : Nat} (hk : k < n) : Q2 n x y (k + 1) = ((2 : Int32).toInt * (x (af n k)).toInt, (2 : Int32).toInt * (y (af n k)).toInt) := by
  unfold Q2
  rw [Q0_s h3, Nat.mod_eq_of_lt hk]
  rfl
/-- the middle of two corners lies inside -/
theorem plc_mid {n : Nat} {x y : Nat → Int32} (h : rowR n x y) {i j : Nat} (hi : i < n) (hj : j < n) : plcR n x y (x i + x j) (y i + y j) 2 = 2 ↔ (∀ k, k < n → ¬ onS (mid (Q0 n x y) i j) (Q2 n x y k) (Q2 n x y (k + 1))) ∧ par (mid (Q0 n x y) i j) h0 (Q2 n x y) n = true := by
  obtain ⟨m1, m2, m3⟩ := mid_i h hi hj
  have h3 := h.1
  unfold plcR plcN
  rw [plcF_2, Bool.false_xor]
  have e1 : ∀ k, k < n → (onR n x y (x i + x j) (y i + y j) 2 k = true ↔ onS (mid (Q0 n x y) i j) (Q2 n x y k) (Q2 n x y (k + 1))) ∧ crR n x y (x i + x j) (y i + y j) 2 k = crd (mid (Q0 n x y) i j) h0 (Q2 n x y k) (Q2 n x y (k + 1)) := fun k hk => by
    obtain ⟨-, -, c, d⟩ := place_1 h (Or.inr rfl) m1 m2 hk
    rw [m3, ← Q2_at hk, ← Q2_s h3 hk] at c d
    exact ⟨c, d⟩
  refine and_congr ?_ ?_
  · constructor
    · intro q k hk hon
      have := q k (Nat.zero_le _) (by omega)
      rw [(e1 k hk).1.mpr hon] at this
      cases this
    · intro q k _ hk
      have := q k (by omega)
      cases ho : onR n x y (x i + x j) (y i + y j) 2 k with
      | false => rfl
      | true => exact absurd ((e1 k (by omega)).1.mp ho) this
  · unfold par
    rw [xs_c (n - 0) (fun t ht => show crR n x y (x i + x j) (y i + y j) 2 (0 + t) = crd (mid (Q0 n x y) i j) h0 (Q2 n x y t) (Q2 n x y (t + 1)) by rw [Nat.zero_add]; exact (e1 t (by omega)).2), Nat.sub_zero]
theorem MT_l {a b c d : Pt9} (h : MT a b c d) : MT b a c d := by
  rcases h with h | h | h | h | h
  · exact Or.inl (PX_l h)
  · exact Or.inr (Or.inl (onS_c h))
  · exact Or.inr (Or.inr (Or.inl (onS_c h)))
  · exact Or.inr (Or.inr (Or.inr (Or.inr h)))
  · exact Or.inr (Or.inr (Or.inr (Or.inl h)))
/-- nothing stands between two corners -/
def Fr (n : Nat) (x y : Nat → Int32) (i j : Nat) : Prop := ∀ k, k < n → (k ≠ i → k ≠ j → af n k ≠ i → af n k ≠ j → ¬ MT (p09 x y i) (p09 x y j) (p09 x y k) (p09 x y (af n k))) ∧ (k ≠ i → k ≠ j → ¬ onS (p09 x y k) (p09 x y i) (p09 x y j))
theorem btP_i {n : Nat} {x y : Nat → Int32} (h : rowR n x y) {a b c : Nat} (ha : a < n) (hb : b < n) (hc : c < n) : btP x y a b c = true ↔ onS (p09 x y c) (p09 x y a) (p09 x y b) := btw_i (B := 1000) (by decide) (h.2.2 a ha).1 (h.2.2 a ha).2 (h.2.2 b hb).1 (h.2.2 b hb).2 (h.2.2 c hc).1 (h.2.2 c hc).2
theorem seen_fr {n : Nat} {x y : Nat → Int32} (h : rowR n x y) {i j : Nat} (hi : i < n) (hj : j < n) : (fndN (seenP n x y i j) 0 n).isNone = true ↔ Fr n x y i j := by
  have one : ∀ k, k < n → (seenP n x y i j k = false ↔ (k ≠ i → k ≠ j → af n k ≠ i → af n k ≠ j → ¬ MT (p09 x y i) (p09 x y j) (p09 x y k) (p09 x y (af n k))) ∧ (k ≠ i → k ≠ j → ¬ onS (p09 x y k) (p09 x y i) (p09 x y j))) := fun k hk => by
    have m := mtP_i h hi hj hk (af_lt (n := n) (i := k) (by omega))
    have b := btP_i h hi hj hk
    unfold seenP
    by_cases q1 : k = i
    · subst q1
      simp
    · by_cases q2 : k = j
      · subst q2
        simp
      · simp only [decide_eq_false q1, decide_eq_false q2, Bool.false_or, Bool.or_false, Bool.not_false, Bool.true_and, Bool.or_eq_false_iff]
        by_cases q3 : af n k = i
        · rw [decide_eq_true q3]
          simp only [Bool.true_or, Bool.not_true, Bool.false_and]
          constructor
          · intro w
            refine ⟨fun _ _ w3 => absurd q3 w3, fun _ _ ho => ?_⟩
            rw [b.mpr ho] at w; cases w.2
          · intro w
            refine ⟨trivial, ?_⟩
            cases hb : btP x y i j k with
            | false => rfl
            | true => exact absurd (b.mp hb) (w.2 q1 q2)
        · by_cases q4 : af n k = j
          · rw [decide_eq_true q4, decide_eq_false q3]
            simp only [Bool.false_or, Bool.not_true, Bool.false_and]
            constructor
            · intro w
              refine ⟨fun _ _ _ w4 => absurd q4 w4, fun _ _ ho => ?_⟩
              rw [b.mpr ho] at w; cases w.2
            · intro w
              refine ⟨trivial, ?_⟩
              cases hb : btP x y i j k with
              | false => rfl
              | true => exact absurd (b.mp hb) (w.2 q1 q2)
          · rw [decide_eq_false q4, decide_eq_false q3]
            simp only [Bool.false_or, Bool.not_false, Bool.true_and]
            constructor
            · intro w
              refine ⟨fun _ _ _ _ hM => ?_, fun _ _ ho => ?_⟩
              · rw [m.mpr hM] at w; cases w.1
              · rw [b.mpr ho] at w; cases w.2
            · intro w
              constructor
              · cases hm : mtP x y i j k (af n k) with
                | false => rfl
                | true => exact absurd (m.mp hm) (w.1 q1 q2 q3 q4)
              · cases hb : btP x y i j k with
                | false => rfl
                | true => exact absurd (b.mp hb) (w.2 q1 q2)
  constructor
  · intro q k hk
    have q' : fndN (seenP n x y i j) 0 n = none := by
      cases hf : fndN (seenP n x y i j) 0 n with
      | none => rfl
      | some w => rw [hf] at q; cases q
    exact (one k hk).mp (fndN_all q' (Nat.zero_le _) hk)
  · intro q
    rw [fndN_nn (fun k _ hk => (one k hk).mpr (q k hk))]
    rfl
theorem free_fr {n : Nat} {x y : Nat → Int32} (h : rowR n x y) (hf : noF n x y) (hm : noM n x y) {i j : Nat} (hi : i < n) (hj : j < n) (hij : i ≠ j) : fndN (freeP n x y i j) 0 n = none ↔ Fr n x y i j := by
  have h3 := h.1
  have nij := corner_ne h hf hm hi hj hij
  have one : ∀ k, k < n → (freeP n x y i j k = false ↔ (k ≠ i → k ≠ j → af n k ≠ i → af n k ≠ j → ¬ MT (p09 x y i) (p09 x y j) (p09 x y k) (p09 x y (af n k)))) := fun k hk => by
    have hk' : af n k < n := af_lt (by omega)
    have m := meetC_i (B := 1000) (by decide) (bd4 h hi hj hk hk') nij (edge_ne h hf hk)
    unfold freeP
    by_cases q1 : k = i
    · subst q1; simp
    · by_cases q2 : k = j
      · subst q2; simp
      · by_cases q3 : af n k = i
        · rw [q3]; simp
        · by_cases q4 : af n k = j
          · rw [q4]; simp
          · simp only [decide_eq_false q1, decide_eq_false q2, decide_eq_false q3, decide_eq_false q4, Bool.false_or, Bool.or_false, Bool.not_false, Bool.true_and]
            constructor
            · intro w _ _ _ _ hM
              rw [m.mpr hM] at w; cases w
            · intro w
              cases hc : meetC x y i j k (af n k) with
              | false => rfl
              | true => exact absurd (m.mp hc) (w q1 q2 q3 q4)
  constructor
  · intro q
    have all : ∀ k, k < n → k ≠ i → k ≠ j → af n k ≠ i → af n k ≠ j → ¬ MT (p09 x y i) (p09 x y j) (p09 x y k) (p09 x y (af n k)) := fun k hk => (one k hk).mp (fndN_all q (Nat.zero_le _) hk)
    refine fun k hk => ⟨all k hk, fun q1 q2 hon => ?_⟩
    -- one of the edges at k is apart from both
    obtain ⟨e1, e2⟩ := bf_af hk (show 2 ≤ n by omega)
    have hb : bf n k < n := bf_lt (by omega)
    by_cases c1 : af n k ≠ i ∧ af n k ≠ j
    · exact all k hk q1 q2 c1.1 c1.2 (Or.inr (Or.inl hon))
    · by_cases c2 : bf n k ≠ i ∧ bf n k ≠ j
      · refine all (bf n k) hb c2.1 c2.2 (by rw [e1]; exact q1) (by rw [e1]; exact q2) ?_
        rw [e1]
        exact Or.inr (Or.inr (Or.inl hon))
      · -- i, k, j follow each other
        have fl := flat_i h hf hk
        have t0 : tu (p09 x y i) (p09 x y j) (p09 x y k) = 0 := by
          obtain ⟨s, t, a1, a2, a3, a4, a5⟩ := hon
          have e9 : (s + t) * tu (p09 x y i) (p09 x y j) (p09 x y k) = 0 := by unfold tu; grind
          exact (Int.mul_eq_zero.mp e9).resolve_left (by omega)
        have hne : bf n k ≠ af n k := fun w => by
          unfold bf af at w
          split at w <;> split at w <;> omega
        by_cases d1 : bf n k = i
        · have d2 : af n k = j := by
            refine Classical.byContradiction (fun w => ?_)
            have : af n k = i := Classical.byContradiction (fun w2 => c1 ⟨w2, w⟩)
            exact hne (d1.trans this.symm)
          rw [d1, d2] at fl
          apply fl
          have : tu (p09 x y i) (p09 x y k) (p09 x y j) = - tu (p09 x y i) (p09 x y j) (p09 x y k) := by unfold tu; grind
          omega
        · have d1' : bf n k = j := Classical.byContradiction (fun w => c2 ⟨d1, w⟩)
          have d2 : af n k = i := by
            refine Classical.byContradiction (fun w => ?_)
            have : af n k = j := Classical.byContradiction (fun w2 => c1 ⟨w, w2⟩)
            exact hne (d1'.trans this.symm)
          rw [d1', d2] at fl
          apply fl
          have : tu (p09 x y j) (p09 x y k) (p09 x y i) = tu (p09 x y i) (p09 x y j) (p09 x y k) := by unfold tu; grind
          omega
  · intro q
    exact fndN_nn (fun k _ hk => (one k hk).mpr (q k hk).1)
theorem fr_sym {n : Nat} {x y : Nat → Int32} {i j : Nat} (h : Fr n x y i j) : Fr n x y j i := fun k hk => ⟨fun a b c d hM => (h k hk).1 b a d c (MT_l hM), fun a b ho => (h k hk).2 b a (onS_c ho)⟩
theorem sight_eq {n : Nat} {x y : Nat → Int32} (h : rowR n x y) (hf : noF n x y) (hm : noM n x y) {i j : Nat} (hi : i < n) (hj : j < n) (hij : i ≠ j) : lookF n x y i j = sightR n x y i j := by
  unfold lookF sightR seenR
  by_cases q : af n i = j ∨ af n j = i
  · rw [if_pos q, if_pos q]
  · rw [if_neg q, if_neg q]
    obtain ⟨m1, m2, -⟩ := mid_i h hi hj
    have e1 := plc_eq h (sc := 2) (Or.inr rfl) m1 m2
    rw [e1]
    have e2 : (fndN (freeP n x y i j) 0 n = none ∧ plcR n x y (x i + x j) (y i + y j) 2 = 2) ↔ ((fndN (seenP n x y i j) 0 n).isNone && decide (plcR n x y (x i + x j) (y i + y j) 2 = 2)) = true := by
      rw [Bool.and_eq_true, decide_eq_true_eq, free_fr h hf hm hi hj hij, seen_fr h hi hj]
    by_cases w : fndN (freeP n x y i j) 0 n = none ∧ plcR n x y (x i + x j) (y i + y j) 2 = 2
    · rw [if_pos w, if_pos (e2.mp w)]
    · rw [if_neg w, if_neg (fun z => w (e2.mpr z))]
theorem sight_sym {n : Nat} {x y : Nat → Int32} (h : rowR n x y) {i j : Nat} (hi : i < n) (hj : j < n) : sightR n x y i j = sightR n x y j i := by
  unfold sightR seenR
  have e0 : (fndN (seenP n x y i j) 0 n).isNone = (fndN (seenP n x y j i) 0 n).isNone := by
    rw [Bool.eq_iff_iff, seen_fr h hi hj, seen_fr h hj hi]
    exact ⟨fr_sym, fr_sym⟩
  rw [e0, Int32.add_comm (x i), Int32.add_comm (y i)]
  by_cases q : af n i = j ∨ af n j = i
  · rw [if_pos q, if_pos q.symm]
  · have q' : ¬ (af n j = i ∨ af n i = j) := fun w => q w.symm
    rw [if_neg q, if_neg q']
/-- an edge or a diagonal inside is seen -/
theorem okc_sight {n : Nat} {x y : Nat → Int32} (h : rowR n x y) (hf : noF n x y) (hm : noM n x y) {i j : Nat} (hij : i < j) (hj : j < n) (ho : okc (Q2 n x y) (Q0 n x y) n i j) : sightR n x y i j = 2 ∨ sightR n x y i j = 1 := by
  have h3 := h.1
  have hi : i < n := by omega
  unfold sightR
  by_cases q : af n i = j ∨ af n j = i
  · rw [if_pos q]; exact Or.inl rfl
  · rw [if_neg q]
    refine Or.inr (if_pos ?_)
    have E := env h hf hm
    rcases ho with ho | ⟨hg, hp⟩
    · exact absurd (Or.inl (by rw [ho]; exact af_s (by omega))) q
    · have ei : Q2 n x y i = dbl (p09 x y i) := by unfold Q2 Q0; rw [Nat.mod_eq_of_lt hi]; rfl
      have ej : Q2 n x y j = dbl (p09 x y j) := by unfold Q2 Q0; rw [Nat.mod_eq_of_lt hj]; rfl
      have ek : ∀ k, k < n → Q2 n x y k = dbl (p09 x y k) := fun k hk => by unfold Q2 Q0; rw [Nat.mod_eq_of_lt hk]; rfl
      have ek1 : ∀ k, k < n → Q2 n x y (k + 1) = dbl (p09 x y (af n k)) := fun k hk => by unfold Q2; rw [Q0_s h3, Nat.mod_eq_of_lt hk]; rfl
      have on : ∀ k, k < n → onS (p09 x y k) (p09 x y i) (p09 x y j) → k = i ∨ k = j := fun k hk hon => by
        have := hg.1 k (by rw [ek k hk, ei, ej]; exact on_dbl.mpr hon)
        rw [ek k hk, ei, ej] at this
        rcases this with w | w
        · refine Or.inl (Classical.byContradiction (fun z => corner_ne h hf hm hk hi z (dbl_inj w)))
        · refine Or.inr (Classical.byContradiction (fun z => corner_ne h hf hm hk hj z (dbl_inj w)))
      have hfr : Fr n x y i j := fun k hk => by
        have hk' : af n k < n := af_lt (by omega)
        refine ⟨fun n1 n2 n3 n4 hM => ?_, fun n1 n2 hon => (on k hk hon).elim n1 n2⟩
        rcases hM with w | w | w | w | w
        · refine hg.2 k ?_
          rw [ek k hk, ek1 k hk, ei, ej]
          exact px_dbl.mpr w
        · exact (on k hk w).elim n1 n2
        · exact (on _ hk' w).elim n3 n4
        · exact ((edge_gd h hf hm hk).1 i hi w).elim (fun z => n1 z.symm) (fun z => n3 z.symm)
        · exact ((edge_gd h hf hm hk).1 j hj w).elim (fun z => n2 z.symm) (fun z => n4 z.symm)
      unfold seenR
      rw [Bool.and_eq_true, decide_eq_true_eq]
      refine ⟨(seen_fr h hi hj).mpr hfr, (plc_mid h hi hj).mpr ⟨fun k hk hon => ?_, hp⟩⟩
      have m1 : 2 * (mid (Q0 n x y) i j).1 = (Q2 n x y i).1 + (Q2 n x y j).1 := by unfold mid Q2; simp; omega
      have m2 : 2 * (mid (Q0 n x y) i j).2 = (Q2 n x y i).2 + (Q2 n x y j).2 := by unfold mid Q2; simp; omega
      have hne : Q2 n x y i ≠ Q2 n x y j := fun w => by
        rw [ei, ej] at w
        exact corner_ne h hf hm hi hj (by omega) (dbl_inj w)
      have inj : ∀ a b, a < n → b < n → dbl (p09 x y a) = dbl (p09 x y b) → a = b := fun a b ha hb w => Classical.byContradiction (fun z => corner_ne h hf hm ha hb z (dbl_inj w))
      have hk' : af n k < n := af_lt (by omega)
      rcases MM hne m1 m2 hon (hg.1 _) (hg.1 _) ((E.2.2.2 k).1 _) ((E.2.2.2 k).1 _) with w | w | w
      · exact hg.2 k w
      · rw [ek k hk, ek1 k hk, ei, ej] at w
        have z1 := inj _ _ hk hi w.1
        have z2 := inj _ _ hk' hj w.2
        exact q (Or.inl (by rw [← z1]; exact z2))
      · rw [ek k hk, ek1 k hk, ei, ej] at w
        have z1 := inj _ _ hk hj w.1
        have z2 := inj _ _ hk' hi w.2
        exact q (Or.inr (by rw [← z1]; exact z2))
