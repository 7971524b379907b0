theorem in_X2_weighSpans_X2 : ∀ w ∈ wsX20, w ∈ wsX2_weighSpans := by decide +kernel
theorem lk_X2_weighSpans_11 : Cond.fieldLink RX2 11 "PolyCuts$Cutter" "ways" "[[I" ∈ wsX2_weighSpans := by decide +kernel
theorem lk_X2_weighSpans_16 : Cond.fieldLink RX2 16 "PolyCuts$Cutter" "sum" "[[I" ∈ wsX2_weighSpans := by decide +kernel
theorem in_X2_weighSpans_X3 : ∀ w ∈ wsX30, w ∈ wsX2_weighSpans := by decide +kernel
theorem lk_X2_weighSpans_25 : Cond.fieldLink RX2 25 "PolyCuts$Shape" "corners" "LPolyCuts$Corners;" ∈ wsX2_weighSpans := by decide +kernel
theorem in_X2_weighSpans_X1 : ∀ w ∈ wsX10, w ∈ wsX2_weighSpans := by decide +kernel
theorem lk_X2_weighSpans_31 : Cond.fieldLink RX2 31 "PolyCuts$Corners" "size" "I" ∈ wsX2_weighSpans := by decide +kernel
theorem spS_c {w s w' s' : Nat → Nat → Int32} {i j : Nat} : ∀ d, (∀ k, i < k → k < i + 1 + d → w i k = w' i k ∧ w k j = w' k j ∧ s i k = s' i k ∧ s k j = s' k j) → spS w s i j d = spS w' s' i j d
  | 0, _ => rfl
  | d + 1, h => by
    have h1 := spS_c d (fun k h2 h3 => h k h2 (by omega))
    obtain ⟨e1, e2, e3, e4⟩ := h (i + 1 + d) (by omega) (by omega)
    simp only [spS]
    rw [h1, e1, e2, e3, e4]
theorem spF_c {w s w' s' : Nat → Nat → Int32} {sg sq : Int32} {i j : Nat} (h : ∀ k, i < k → k < j → w i k = w' i k ∧ w k j = w' k j ∧ s i k = s' i k ∧ s k j = s' k j) : spF w s sg sq i j = spF w' s' sg sq i j := by
  have h1 : spS w s i j (j - i - 1) = spS w' s' i j (j - i - 1) := spS_c _ (fun k h2 h3 => h k h2 (by omega))
  simp only [spF]
  rw [h1]
def tri3 (τ : Sg) (i j : Nat) : T3 := (τ 9 i j, τ 10 i j, τ 11 i j)
/-- the spans of a width below wd, and those of width wd that begin below i0, are weighed -/
def WSi (σ τ : Sg) (p n wd i0 : Nat) : Prop := (∀ k, k ≠ 9 ∧ k ≠ 10 ∧ k ≠ 11 → τ k = σ k) ∧ (∀ i, i + 1 < n → τ 9 i (i + 1) = 1 ∧ τ 10 i (i + 1) = 0) ∧ ∀ i j, i + 2 ≤ j → j < n → (j - i < wd ∨ (j - i = wd ∧ i < i0)) → tri3 τ i j = spF (τ 9) (τ 10) (σ 19 (14 * p + i) j) (sq9 (σ 15 (p + 1)) (σ 16 (p + 1)) i j) i j
theorem tri3_o {τ : Sg} {i j a b : Nat} {c : T3} (h : a ≠ i ∨ b ≠ j) : tri3 (sp3 τ i j c) a b = tri3 τ a b := by
  unfold tri3
  rcases h with h | h
  · rw [sp3_i h, sp3_i h, sp3_i h]
  · rw [sp3_j h, sp3_j h, sp3_j h]
theorem ws_s {σ τ τ' : Sg} {p n wd i0 : Nat} (h2 : 2 ≤ wd) (hi : i0 + wd < n) (h : WSi σ τ p n wd i0) (e : τ' = sp3 τ i0 (i0 + wd) (spF (τ 9) (τ 10) (τ 19 (14 * p + i0) (i0 + wd)) (sq9 (τ 15 (p + 1)) (τ 16 (p + 1)) i0 (i0 + wd)) i0 (i0 + wd))) : WSi σ τ' p n wd (i0 + 1) := by
  obtain ⟨h3, h4, h5⟩ := h
  rw [h3 19 (by decide), h3 15 (by decide), h3 16 (by decide)] at e
  have key : ∀ i j, i + 2 ≤ j → j - i ≤ wd → ∀ k, i < k → k < j → τ' 9 i k = τ 9 i k ∧ τ' 9 k j = τ 9 k j ∧ τ' 10 i k = τ 10 i k ∧ τ' 10 k j = τ 10 k j := fun i j hij hw k hk1 hk2 => by
    have q1 : i ≠ i0 ∨ k ≠ i0 + wd := by omega
    have q2 : k ≠ i0 ∨ j ≠ i0 + wd := by omega
    subst e
    refine ⟨?_, ?_, ?_, ?_⟩
    · rcases q1 with q | q
      · exact sp3_i q
      · exact sp3_j q
    · rcases q2 with q | q
      · exact sp3_i q
      · exact sp3_j q
    · rcases q1 with q | q
      · exact sp3_i q
      · exact sp3_j q
    · rcases q2 with q | q
      · exact sp3_i q
      · exact sp3_j q
  refine ⟨fun k hk => by rw [e, sp3_k hk, h3 k hk], fun i hi1 => ?_, fun i j hij hj hc => ?_⟩
  · rw [e]
    rcases (show i ≠ i0 ∨ i + 1 ≠ i0 + wd by omega) with q | q
    · rw [sp3_i q, sp3_i q]; exact h4 i hi1
    · rw [sp3_j q, sp3_j q]; exact h4 i hi1
  · rw [spF_c (key i j hij (by omega))]
    by_cases hq : i = i0 ∧ j = i0 + wd
    · obtain ⟨rfl, rfl⟩ := hq
      rw [e]
      show (_, _, _) = _
      rw [sp3_w, sp3_s, sp3_t]
    · rw [e, tri3_o (by omega)]
      exact h5 i j hij hj (by omega)
theorem ws_n {σ τ : Sg} {p n wd i0 : Nat} (hi : n ≤ i0 + wd) (h : WSi σ τ p n wd i0) : WSi σ τ p n (wd + 1) 0 := ⟨h.1, h.2.1, fun i j h1 h2 h3 => h.2.2 i j h1 h2 (by omega)⟩
/-- all spans are weighed -/
def WSA (σ τ : Sg) (p n : Nat) : Prop := (∀ k, k ≠ 9 ∧ k ≠ 10 ∧ k ≠ 11 → τ k = σ k) ∧ (∀ i, i + 1 < n → τ 9 i (i + 1) = 1 ∧ τ 10 i (i + 1) = 0) ∧ ∀ i j, i + 2 ≤ j → j < n → tri3 τ i j = spF (τ 9) (τ 10) (σ 19 (14 * p + i) j) (sq9 (σ 15 (p + 1)) (σ 16 (p + 1)) i j) i j
def WS0 (σ τ : Sg) (i0 : Nat) : Prop := (∀ k, k ≠ 9 ∧ k ≠ 10 ∧ k ≠ 11 → τ k = σ k) ∧ ∀ i, i < i0 → τ 9 i (i + 1) = 1 ∧ τ 10 i (i + 1) = 0
theorem ws0_s {σ τ σ1 σ2 : Sg} {i0 : Nat} (h : WS0 σ τ i0) (e1 : σ1 = sgu τ 9 i0 (i0 + 1) 1) (e2 : σ2 = sgu σ1 10 i0 (i0 + 1) 0) : WS0 σ σ2 (i0 + 1) := by
  refine ⟨fun k hk => by rw [e2, sgu_kk hk.2.1, e1, sgu_kk hk.1, h.1 k hk], fun i hi => ?_⟩
  by_cases q : i = i0
  · subst q
    rw [e2, sgu_k (by decide), e1, sgu_self, sgu_self]
    exact ⟨rfl, rfl⟩
  · rw [e2, sgu_i q, sgu_i q, e1, sgu_i q, sgu_i q]
    exact h.2 i (by omega)
set_option maxHeartbeats 4000000 in
set_option maxRecDepth 100000 in
theorem lp_X2_weighSpans_i {K : Kx} {G : Gx} (hA : wa G) (C : CX K G cX2_weighSpans 5 RX2 wsX2_weighSpans (rmd 3) none) (σ : Sg) (p n : Nat) (hp : p < 8) (hs : σ 14 (p + 1) 2 = nI n) (hn : n ≤ 14) (wd : Nat) (h2 : 2 ≤ wd) (hw : wd < n) (kx : ∀ τ, WSi σ τ p n (wd + 1) 0 → WW K G 5 (QV K G (fun σ2 => WSA σ σ2 p n)) τ [(3, .int (nI wd)), (2, .int (nI n)), (0, .ref (gA G 4 (0))), (1, .ref (gA G 17 (p)))] 80 []) : ∀ (f i : Nat) (τ : Sg), n - i < f → i ≤ n → WSi σ τ p n wd i → WW K G 5 (QV K G (fun σ2 => WSA σ σ2 p n)) τ [(4, .int (nI i)), (3, .int (nI wd)), (2, .int (nI n)), (0, .ref (gA G 4 (0))), (1, .ref (gA G 17 (p)))] 55 [] := by
  intro f
  induction f with
  | zero => intro i τ h; exact absurd h (Nat.not_lt_zero _)
  | succ f ih =>
    intro i τ hf hi hk
    have hst : τ 14 (p + 1) 2 = nI n := by rw [hk.1 14 (by decide)]; exact hs
    refine ww_iload C dX2_weighSpans_55 0 rfl ?_
    refine ww_iload_n C dX2_weighSpans_57 rfl 1 rfl ?_
    refine ww_iadd C dX2_weighSpans_58 ?_
    refine ww_iload_n C dX2_weighSpans_59 rfl 2 rfl ?_
    refine ww_icmp_ge 80 C dX2_weighSpans_60 (by decide) (fun h60 => ?_) (fun h60 => ?_)
    · have g60 : n ≤ i + wd := (cv_le (a := n) (b := i + wd) rfl (nI_add (i) (wd)) (by omega) (by omega)).mp h60
      exact ww_sub [1, 2, 3, 4] rfl (kx _ (ws_n (by omega) hk))
    · have g60 : ¬ n ≤ i + wd := fun q => h60 ((cv_le (a := n) (b := i + wd) rfl (nI_add (i) (wd)) (by omega) (by omega)).mpr q)
      refine ww_aload_n C dX2_weighSpans_63 rfl 3 rfl ?_
      refine ww_aload_n C dX2_weighSpans_64 rfl 4 rfl ?_
      refine ww_iload C dX2_weighSpans_65 0 rfl ?_
      refine ww_iload C dX2_weighSpans_67 0 rfl ?_
      refine ww_iload_n C dX2_weighSpans_69 rfl 1 rfl ?_
      refine ww_iadd C dX2_weighSpans_70 ?_
      rw [show (nI i) + (nI wd) = nI (i + wd) from nI_add (i) (wd)]
      refine ww_callvF (cx_V (n := 3) (As := [.ref (gA G 17 (p)), .int (nI i), .int (nI (i + wd))]) C  (c_X2_weighSpan (kL K) G hA τ p n hp hst hn i (i + wd) (by omega) (by omega)) gX2_weighSpans_X2_weighSpan rfl ⟨rfl, rfl⟩ (by decide +kernel) (by decide) rfl (by decide) rfl rfl rfl (Nat.le_of_ble_eq_true rfl) dX2_weighSpans_71) ?_
      obtain ⟨σ1, hσ1⟩ : ∃ z : Sg, z = (sp3 τ i (i + wd) (spF (τ 9) (τ 10) (τ 19 (14 * p + i) (i + wd)) (sq9 (τ 15 (p + 1)) (τ 16 (p + 1)) i (i + wd)) i (i + wd))) := ⟨_, rfl⟩
      rw [← hσ1]
      refine ww_iinc (q := 0) (fun y2 => [(4, .int (y2)), (3, .int (nI wd)), (2, .int (nI n)), (0, .ref (gA G 4 (0))), (1, .ref (gA G 17 (p)))]) C dX2_weighSpans_74 rfl (by decide) (fun _ => rfl) (fun y2 ey2 => ?_)
      obtain rfl : y2 = nI (i + 1) := ninc rfl ey2
      refine ww_goto 55 C dX2_weighSpans_77 (by decide) ?_
      exact ww_sub [0, 1, 2, 3, 4] rfl (ih (i + 1) _ (by omega) (by omega) (ws_s h2 (by omega) hk hσ1))
set_option maxHeartbeats 4000000 in
set_option maxRecDepth 100000 in
theorem lp_X2_weighSpans_w {K : Kx} {G : Gx} (hA : wa G) (C : CX K G cX2_weighSpans 5 RX2 wsX2_weighSpans (rmd 3) none) (σ : Sg) (p n : Nat) (hp : p < 8) (hs : σ 14 (p + 1) 2 = nI n) (hn : n ≤ 14) : ∀ (f wd : Nat) (τ : Sg), n - wd < f → 2 ≤ wd → wd ≤ n + 2 → WSi σ τ p n wd 0 → WW K G 5 (QV K G (fun σ2 => WSA σ σ2 p n)) τ [(3, .int (nI wd)), (2, .int (nI n)), (0, .ref (gA G 4 (0))), (1, .ref (gA G 17 (p)))] 47 [] := by
  intro f
  induction f with
  | zero => intro wd τ h; exact absurd h (Nat.not_lt_zero _)
  | succ f ih =>
    intro wd τ hf h2 hw hk
    refine ww_iload_n C dX2_weighSpans_47 rfl 0 rfl ?_
    refine ww_iload_n C dX2_weighSpans_48 rfl 1 rfl ?_
    refine ww_icmp_ge 86 C dX2_weighSpans_49 (by decide) (fun h49 => ?_) (fun h49 => ?_)
    · have g49 : n ≤ wd := (cv_le (a := n) (b := wd) rfl rfl (by omega) (by omega)).mp h49
      refine ww_vret C dX2_weighSpans_86 ?_
      exact ⟨hk.1, hk.2.1, fun i j h1 h2 => hk.2.2 i j h1 h2 (by omega)⟩
    · have g49 : ¬ n ≤ wd := fun q => h49 ((cv_le (a := n) (b := wd) rfl rfl (by omega) (by omega)).mpr q)
      refine ww_iconst (v := 0) C dX2_weighSpans_52 rfl ?_
      refine ww_istore (fun y1 => [(4, .int (y1)), (3, .int (nI wd)), (2, .int (nI n)), (0, .ref (gA G 4 (0))), (1, .ref (gA G 17 (p)))]) C dX2_weighSpans_53 (by decide) (fun _ => rfl) (fun y1 ey1 => ?_)
      obtain rfl : y1 = nI 0 := (ey1.trans (by decide))
      refine ww_sub [0, 1, 2, 3, 4] rfl (lp_X2_weighSpans_i hA C σ p n hp hs hn wd h2 (by omega) (fun τ2 hk2 => ?_) (n + 1) 0 τ (by omega) (by omega) hk)
      refine ww_iinc (q := 0) (fun y2 => [(3, .int (y2)), (2, .int (nI n)), (0, .ref (gA G 4 (0))), (1, .ref (gA G 17 (p)))]) C dX2_weighSpans_80 rfl (by decide) (fun _ => rfl) (fun y2 ey2 => ?_)
      obtain rfl : y2 = nI (wd + 1) := ninc rfl ey2
      refine ww_goto 47 C dX2_weighSpans_83 (by decide) ?_
      exact ww_sub [0, 1, 2, 3] rfl (ih (wd + 1) _ (by omega) (by omega) (by omega) hk2)
set_option maxHeartbeats 4000000 in
set_option maxRecDepth 100000 in
theorem lp_X2_weighSpans_0 {K : Kx} {G : Gx} (hA : wa G) (C : CX K G cX2_weighSpans 5 RX2 wsX2_weighSpans (rmd 3) none) (σ : Sg) (p n : Nat) (hp : p < 8) (hs : σ 14 (p + 1) 2 = nI n) (hn : n ≤ 14) : ∀ (f i : Nat) (τ : Sg), n - i < f → i ≤ n → WS0 σ τ i → WW K G 5 (QV K G (fun σ2 => WSA σ σ2 p n)) τ [(3, .int (nI i)), (2, .int (nI n)), (0, .ref (gA G 4 (0))), (1, .ref (gA G 17 (p)))] 10 [] := by
  intro f
  induction f with
  | zero => intro i τ h; exact absurd h (Nat.not_lt_zero _)
  | succ f ih =>
    intro i τ hf hi hk
    refine ww_iload_n C dX2_weighSpans_10 rfl 0 rfl ?_
    refine ww_iconst (v := 1) C dX2_weighSpans_11 rfl ?_
    refine ww_iadd C dX2_weighSpans_12 ?_
    refine ww_iload_n C dX2_weighSpans_13 rfl 1 rfl ?_
    refine ww_icmp_ge 45 C dX2_weighSpans_14 (by decide) (fun h14 => ?_) (fun h14 => ?_)
    · have g14 : n ≤ i + 1 := (cv_le (a := n) (b := i + 1) rfl (nI_add (i) (1)) (by omega) (by omega)).mp h14
      refine ww_iconst (v := 2) C dX2_weighSpans_45 rfl ?_
      refine ww_istore_n (fun y1 => [(3, .int (y1)), (2, .int (nI n)), (0, .ref (gA G 4 (0))), (1, .ref (gA G 17 (p)))]) C dX2_weighSpans_46 rfl (by decide) (fun _ => rfl) (fun y1 ey1 => ?_)
      obtain rfl : y1 = nI 2 := (ey1.trans (by decide))
      exact ww_sub [0, 1, 2, 3] rfl (lp_X2_weighSpans_w hA C σ p n hp hs hn (n + 3) 2 τ (by omega) (by omega) (by omega) ⟨hk.1, fun j hj => hk.2 j (by omega), fun a b h1 h2 h3 => absurd h3 (by omega)⟩)
    · have g14 : ¬ n ≤ i + 1 := fun q => h14 ((cv_le (a := n) (b := i + 1) rfl (nI_add (i) (1)) (by omega) (by omega)).mpr q)
      refine ww_aload_n C dX2_weighSpans_17 rfl 2 rfl ?_
      refine ww_gr (j := 0) (k := 4) (f := 0) C rfl rfl (by decide) rfl in_X2_weighSpans_X2 (by decide) lk_X2_weighSpans_11 dX2_weighSpans_18 rfl ?_
      refine ww_iload_n C dX2_weighSpans_21 rfl 0 rfl ?_
      refine ww_aald (k := 5) (j := i) (j' := i) C rfl (by decide) (by decide) (by decide) dX2_weighSpans_22 rfl (by omega) rfl ?_
      refine ww_iload_n C dX2_weighSpans_23 rfl 0 rfl ?_
      refine ww_iconst (v := 1) C dX2_weighSpans_24 rfl ?_
      refine ww_iadd C dX2_weighSpans_25 ?_
      refine ww_iconst (v := 1) C dX2_weighSpans_26 rfl ?_
      refine ww_iast (k := 9) (j := i + 1) C rfl (show i < 14 from (by omega)) (by decide) dX2_weighSpans_27 (nI_add (i) (1)) (by omega) ?_
      obtain ⟨σ2, hσ2⟩ : ∃ z : Sg, z = (sgu τ 9 (i) (i + 1) (1)) := ⟨_, rfl⟩
      rw [← hσ2]
      refine ww_aload_n C dX2_weighSpans_28 rfl 2 rfl ?_
      refine ww_gr (j := 0) (k := 4) (f := 1) C rfl rfl (by decide) rfl in_X2_weighSpans_X2 (by decide) lk_X2_weighSpans_16 dX2_weighSpans_29 rfl ?_
      refine ww_iload_n C dX2_weighSpans_32 rfl 0 rfl ?_
      refine ww_aald (k := 6) (j := i) (j' := i) C rfl (by decide) (by decide) (by decide) dX2_weighSpans_33 rfl (by omega) rfl ?_
      refine ww_iload_n C dX2_weighSpans_34 rfl 0 rfl ?_
      refine ww_iconst (v := 1) C dX2_weighSpans_35 rfl ?_
      refine ww_iadd C dX2_weighSpans_36 ?_
      refine ww_iconst (v := 0) C dX2_weighSpans_37 rfl ?_
      refine ww_iast (k := 10) (j := i + 1) C rfl (show i < 14 from (by omega)) (by decide) dX2_weighSpans_38 (nI_add (i) (1)) (by omega) ?_
      obtain ⟨σ3, hσ3⟩ : ∃ z : Sg, z = (sgu σ2 10 (i) (i + 1) (0)) := ⟨_, rfl⟩
      rw [← hσ3]
      refine ww_iinc (q := 0) (fun y4 => [(3, .int (y4)), (2, .int (nI n)), (0, .ref (gA G 4 (0))), (1, .ref (gA G 17 (p)))]) C dX2_weighSpans_39 rfl (by decide) (fun _ => rfl) (fun y4 ey4 => ?_)
      obtain rfl : y4 = nI (i + 1) := ninc rfl ey4
      refine ww_goto 10 C dX2_weighSpans_42 (by decide) ?_
      exact ww_sub [0, 1, 2, 3] rfl (ih (i + 1) _ (by omega) (by omega) (ws0_s hk hσ2 hσ3))
set_option maxHeartbeats 4000000 in
set_option maxRecDepth 100000 in
theorem c_X2_weighSpans (l : Launch) (G : Gx) (hA : wa G) (σ : Sg) (p n : Nat) (hp : p < 8) (hs : σ 14 (p + 1) 2 = nI n) (hn : n ≤ 14) : CtV l yX2_weighSpans wsX2_weighSpans (rmd 3) G [.ref (gA G 4 (0)), .ref (gA G 17 (p))] σ (fun σ2 => WSA σ σ2 p n) := by
  refine ct_v (maxL := 5) (ret := none) (by decide) rfl (Nat.le_of_ble_eq_true rfl) hA (fun K hl C => ?_)
  subst hl
  change WW K G _ _ σ [(0, .ref (gA G 4 (0))), (1, .ref (gA G 17 (p)))] 0 []
  refine ww_aload_n C dX2_weighSpans_0 rfl 1 rfl ?_
  refine ww_gr (j := p + 1) (k := 17) (f := 0) C rfl rfl hp rfl in_X2_weighSpans_X3 (by decide) lk_X2_weighSpans_25 dX2_weighSpans_1 rfl ?_
  refine ww_gi (k := 14) (f := 2) C rfl rfl (Nat.add_lt_add_right hp 1) rfl in_X2_weighSpans_X1 (by decide) lk_X2_weighSpans_31 dX2_weighSpans_4 ?_
  refine ww_istore_n (fun y1 => [(2, .int (y1)), (0, .ref (gA G 4 (0))), (1, .ref (gA G 17 (p)))]) C dX2_weighSpans_7 rfl (by decide) (fun _ => rfl) (fun y1 ey1 => ?_)
  obtain rfl : y1 = nI n := (ey1.trans hs)
  refine ww_iconst (v := 0) C dX2_weighSpans_8 rfl ?_
  refine ww_istore_n (fun y2 => [(3, .int (y2)), (2, .int (nI n)), (0, .ref (gA G 4 (0))), (1, .ref (gA G 17 (p)))]) C dX2_weighSpans_9 rfl (by decide) (fun _ => rfl) (fun y2 ey2 => ?_)
  obtain rfl : y2 = nI 0 := (ey2.trans (by decide))
  exact ww_sub [0, 1, 2, 3] rfl (lp_X2_weighSpans_0 hA C σ p n hp hs hn (n + 1) 0 σ (by omega) (by omega) ⟨fun _ _ => rfl, fun _ h => absurd h (Nat.not_lt_zero _)⟩)
