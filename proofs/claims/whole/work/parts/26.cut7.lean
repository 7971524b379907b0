theorem in_X2_merge_X3 : ∀ w ∈ wsX30, w ∈ wsX2_merge := by decide +kernel
theorem lk_X2_merge_92 : Cond.fieldLink RX2 92 "PolyCuts$Shape" "diagonalLesser" "[I" ∈ wsX2_merge := by decide +kernel
theorem lk_X2_merge_95 : Cond.fieldLink RX2 95 "PolyCuts$Shape" "diagonalGreater" "[I" ∈ wsX2_merge := by decide +kernel
theorem lk_X2_merge_105 : Cond.fieldLink RX2 105 "PolyCuts$Shape" "diagonalStays" "[I" ∈ wsX2_merge := by decide +kernel
theorem lk_X2_merge_98 : Cond.fieldLink RX2 98 "PolyCuts$Shape" "partCount" "I" ∈ wsX2_merge := by decide +kernel
def goes (J : Nat → Nat → Int32) (n : Nat) (x y : Nat → Int32) (a : Int32) (i j : Nat) : Bool := cvx J n x y a i j && cvx J n x y a j i
def cutJ (J : Nat → Nat → Int32) (i j : Nat) : Nat → Nat → Int32 := fun u v => if (u = i ∧ v = j) ∨ (u = j ∧ v = i) then 0 else J u v
def mgJ (n : Nat) (x y : Nat → Int32) (a : Int32) (A B : Nat → Nat) (J : Nat → Nat → Int32) : Nat → Nat → Nat → Int32
  | 0 => J
  | d + 1 => if goes (mgJ n x y a A B J d) n x y a (A d) (B d) then cutJ (mgJ n x y a A B J d) (A d) (B d) else mgJ n x y a A B J d
def stay (n : Nat) (x y : Nat → Int32) (a : Int32) (A B : Nat → Nat) (J : Nat → Nat → Int32) : Nat → Bool := fun d => !goes (mgJ n x y a A B J d) n x y a (A d) (B d)
def MGi (σ τ : Sg) (p n : Nat) (A B : Nat → Nat) (d : Nat) : Prop := (∀ k, k ≠ 12 ∧ k ≠ 25 ∧ k ≠ 17 → τ k = σ k) ∧ (∀ a, a ≠ p → τ 25 a = σ 25 a ∧ τ 17 a = σ 17 a) ∧ (∀ f, f ≠ 5 → τ 17 p f = σ 17 p f) ∧ τ 12 = mgJ n (σ 15 (p + 1)) (σ 16 (p + 1)) (σ 17 p 2) A B (σ 12) d ∧ (∀ d', d' < d → τ 25 p d' = bI (stay n (σ 15 (p + 1)) (σ 16 (p + 1)) (σ 17 p 2) A B (σ 12) d')) ∧ τ 17 p 5 = nI (1 + cntN (stay n (σ 15 (p + 1)) (σ 16 (p + 1)) (σ 17 p 2) A B (σ 12)) d)
theorem mg_go {σ τ σ1 σ2 : Sg} {p n : Nat} {A B : Nat → Nat} {d : Nat} (h : MGi σ τ p n A B d) (hg : goes (τ 12) n (σ 15 (p + 1)) (σ 16 (p + 1)) (σ 17 p 2) (A d) (B d) = true) (e1 : σ1 = jn2 τ (A d) (B d) 0) (e2 : σ2 = sgu σ1 25 p d 0) : MGi σ σ2 p n A B (d + 1) := by
  obtain ⟨h1, h2, h3, h4, h5, h6⟩ := h
  rw [h4] at hg
  have hs : stay n (σ 15 (p + 1)) (σ 16 (p + 1)) (σ 17 p 2) A B (σ 12) d = false := by rw [stay, hg]; rfl
  refine ⟨fun k hk => by rw [e2, sgu_kk hk.2.1, e1, jn2_k hk.1, h1 k hk], fun a ha => ⟨?_, ?_⟩, fun f hf => ?_, ?_, fun d' hd' => ?_, ?_⟩
  · funext f
    rw [e2, sgu_i ha, e1, jn2_k (by decide), (h2 a ha).1]
  · rw [e2, sgu_kk (by decide), e1, jn2_k (by decide), (h2 a ha).2]
  · rw [e2, sgu_kk (by decide), e1, jn2_k (by decide), h3 f hf]
  · rw [e2, sgu_kk (by decide), e1, mgJ, if_pos hg]
    funext u v
    rw [jn2_at, cutJ, h4]
  · by_cases q : d' = d
    · rw [q, e2, sgu_self, hs]; rfl
    · rw [e2, sgu_f q, e1, jn2_k (by decide)]
      exact h5 d' (by omega)
  · rw [e2, sgu_kk (by decide), e1, jn2_k (by decide), h6, cntN_f hs]
theorem mg_st {σ τ σ1 σ2 : Sg} {p n : Nat} {A B : Nat → Nat} {d : Nat} (h : MGi σ τ p n A B d) (hg : goes (τ 12) n (σ 15 (p + 1)) (σ 16 (p + 1)) (σ 17 p 2) (A d) (B d) = false) (e1 : σ1 = sgu τ 25 p d 1) (e2 : σ2 = sgu σ1 17 p 5 (σ1 17 p 5 + 1)) : MGi σ σ2 p n A B (d + 1) := by
  obtain ⟨h1, h2, h3, h4, h5, h6⟩ := h
  rw [h4] at hg
  have hs : stay n (σ 15 (p + 1)) (σ 16 (p + 1)) (σ 17 p 2) A B (σ 12) d = true := by rw [stay, hg]; rfl
  refine ⟨fun k hk => by rw [e2, sgu_kk hk.2.2, e1, sgu_kk hk.2.1, h1 k hk], fun a ha => ⟨?_, ?_⟩, fun f hf => ?_, ?_, fun d' hd' => ?_, ?_⟩
  · funext f
    rw [e2, sgu_i ha, e1, sgu_i ha, (h2 a ha).1]
  · funext f
    rw [e2, sgu_i ha, e1, sgu_i ha, (h2 a ha).2]
  · rw [e2, sgu_f hf, e1, sgu_kk (by decide), h3 f hf]
  · rw [e2, sgu_kk (by decide), e1, sgu_kk (by decide), mgJ, if_neg (by rw [hg]; decide), h4]
  · by_cases q : d' = d
    · rw [q, e2, sgu_k (by decide), e1, sgu_self, hs]; rfl
    · rw [e2, sgu_k (by decide), e1, sgu_f q]
      exact h5 d' (by omega)
  · rw [e2, sgu_self, e1, sgu_kk (by decide), h6, cntN_t hs, nI_1]
    rfl
theorem mg_0 {σ τ : Sg} {p n : Nat} {A B : Nat → Nat} (e : τ = sgu σ 17 p 5 1) : MGi σ τ p n A B 0 := by
  refine ⟨fun k hk => by rw [e, sgu_kk hk.2.2], fun a ha => ⟨by rw [e, sgu_kk (by decide)], by funext f; rw [e, sgu_i ha]⟩, fun f hf => by rw [e, sgu_f hf], by rw [e, sgu_kk (by decide)]; rfl, fun d' h => absurd h (Nat.not_lt_zero _), by rw [e, sgu_self]; rfl⟩
set_option maxHeartbeats 4000000 in
set_option maxRecDepth 100000 in
theorem lp_X2_merge {K : Kx} {G : Gx} (hA : wa G) (C : CX K G cX2_merge 5 RX2 wsX2_merge (rmd 4) none) (σ : Sg) (p n : Nat) (hp : p < 8) (hs : σ 14 (p + 1) 2 = nI n) (hn : n ≤ 14) (h3 : 3 ≤ n) (A B : Nat → Nat) (hAB : ∀ d, d < n - 3 → σ 23 p d = nI (A d) ∧ σ 24 p d = nI (B d) ∧ A d < n ∧ B d < n) : ∀ (f d : Nat) (τ : Sg), (n - 3) - d < f → (d ≤ n - 3) → (MGi σ τ p n A B d) → WW K G 5 (QV K G (fun σ2 => MGi σ σ2 p n A B (n - 3))) τ [(2, .int (nI d)), (0, .ref (gA G 4 (0))), (1, .ref (gA G 17 (p)))] 7 [] := by
  intro f
  induction f with
  | zero => intro d τ h; exact absurd h (Nat.not_lt_zero _)
  | succ f ih =>
    intro d τ hf hd hk
    have hst : τ 14 (p + 1) 2 = nI n := by rw [hk.1 14 (by decide)]; exact hs
    have h15 : τ 15 = σ 15 := hk.1 15 (by decide)
    have h16 : τ 16 = σ 16 := hk.1 16 (by decide)
    have h172 : τ 17 p 2 = σ 17 p 2 := hk.2.2.1 2 (by decide)
    refine ww_iload_n C dX2_merge_7 rfl 0 rfl ?_
    refine ww_aload_n C dX2_merge_8 rfl 2 rfl ?_
    refine ww_calliF (cx_V (n := 0) (As := []) C  (c_X3_diagonalCount (kL K) G hA _ p n hp hst hn) gX2_merge_X3_diagonalCount rfl ⟨rfl, rfl⟩ (by decide +kernel) (by decide) rfl hp rfl rfl rfl (Nat.le_of_ble_eq_true rfl) dX2_merge_9) ?_
    refine ww_icmp_ge 93 C dX2_merge_12 (by decide) (fun h12 => ?_) (fun h12 => ?_)
    · have g12 : n - 3 ≤ d := (cv_le (a := n - 3) (b := d) (pk_sub (a := n) (b := 3) (by omega)) rfl (by omega) (by omega)).mp h12
      refine ww_vret C dX2_merge_93 ?_
      rw [show n - 3 = d by omega]; exact hk
    · have g12 : ¬ n - 3 ≤ d := fun q => h12 ((cv_le (a := n - 3) (b := d) (pk_sub (a := n) (b := 3) (by omega)) rfl (by omega) (by omega)).mpr q)
      obtain ⟨hfr, hto, hAl, hBl⟩ := hAB d (by omega)
      have hfr : τ 23 p d = nI (A d) := by rw [hk.1 23 (by decide)]; exact hfr
      have hto : τ 24 p d = nI (B d) := by rw [hk.1 24 (by decide)]; exact hto
      refine ww_aload_n C dX2_merge_15 rfl 2 rfl ?_
      refine ww_gr (j := p) (k := 17) (f := 9) C rfl rfl hp rfl in_X2_merge_X3 (by decide) lk_X2_merge_92 dX2_merge_16 rfl ?_
      refine ww_iload_n C dX2_merge_19 rfl 0 rfl ?_
      refine ww_iald (k := 23) (j := d) C rfl hp (by decide) dX2_merge_20 rfl (by omega) ?_
      refine ww_istore_n (fun y1 => [(3, .int (y1)), (2, .int (nI d)), (0, .ref (gA G 4 (0))), (1, .ref (gA G 17 (p)))]) C dX2_merge_21 rfl (by decide) (fun _ => rfl) (fun y1 ey1 => ?_)
      obtain rfl : y1 = nI (A d) := (ey1.trans hfr)
      refine ww_aload_n C dX2_merge_22 rfl 3 rfl ?_
      refine ww_gr (j := p) (k := 17) (f := 10) C rfl rfl hp rfl in_X2_merge_X3 (by decide) lk_X2_merge_95 dX2_merge_23 rfl ?_
      refine ww_iload_n C dX2_merge_26 rfl 1 rfl ?_
      refine ww_iald (k := 24) (j := d) C rfl hp (by decide) dX2_merge_27 rfl (by omega) ?_
      refine ww_istore (fun y2 => [(4, .int (y2)), (3, .int (nI (A d))), (2, .int (nI d)), (0, .ref (gA G 4 (0))), (1, .ref (gA G 17 (p)))]) C dX2_merge_28 (by decide) (fun _ => rfl) (fun y2 ey2 => ?_)
      obtain rfl : y2 = nI (B d) := (ey2.trans hto)
      refine ww_aload_n C dX2_merge_30 rfl 3 rfl ?_
      refine ww_aload_n C dX2_merge_31 rfl 4 rfl ?_
      refine ww_iload_n C dX2_merge_32 rfl 1 rfl ?_
      refine ww_iload C dX2_merge_33 0 rfl ?_
      refine ww_calliF (cx_V (n := 3) (As := [.ref (gA G 17 (p)), .int (nI (A d)), .int (nI (B d))]) C  (c_X2_isConvexWithout (kL K) G hA _ p n hp hst hn (A d) (B d) (by omega) (by omega)) gX2_merge_X2_isConvexWithout rfl ⟨rfl, rfl⟩ (by decide +kernel) (by decide) rfl (by decide) rfl rfl rfl (Nat.le_of_ble_eq_true rfl) dX2_merge_35) ?_
      refine ww_if_eq 70 C dX2_merge_38 (by decide) (fun h38 => ?_) (fun h38 => ?_)
      · refine ww_aload_n C dX2_merge_70 rfl 4 rfl ?_
        refine ww_gr (j := p) (k := 17) (f := 11) C rfl rfl hp rfl in_X2_merge_X3 (by decide) lk_X2_merge_105 dX2_merge_71 rfl ?_
        refine ww_iload_n C dX2_merge_74 rfl 2 rfl ?_
        refine ww_iconst (v := 1) C dX2_merge_75 rfl ?_
        refine ww_iast (k := 25) (j := d) C rfl hp (by decide) dX2_merge_76 rfl (by omega) ?_
        obtain ⟨σ3, hσ3⟩ : ∃ z : Sg, z = (sgu τ 25 (p) (d) (1)) := ⟨_, rfl⟩
        rw [← hσ3]
        refine ww_aload_n C dX2_merge_77 rfl 4 rfl ?_
        refine ww_dup C dX2_merge_78 rfl ?_
        refine ww_gi (k := 17) (f := 5) C rfl rfl hp rfl in_X2_merge_X3 (by decide) lk_X2_merge_98 dX2_merge_79 ?_
        refine ww_iconst (v := 1) C dX2_merge_82 rfl ?_
        refine ww_iadd C dX2_merge_83 ?_
        refine ww_pi (k := 17) (f := 5) C rfl rfl hp rfl in_X2_merge_X3 tyX3_ok nmX3 (by decide) lk_X2_merge_98 rfl rfl dX2_merge_84 ?_
        obtain ⟨σ4, hσ4⟩ : ∃ z : Sg, z = (sgu σ3 17 (p) 5 ((σ3 17 (p) 5) + (1))) := ⟨_, rfl⟩
        rw [← hσ4]
        refine ww_iinc (q := 2) (fun y5 => [(2, .int (y5)), (4, .int (nI (B d))), (3, .int (nI (A d))), (0, .ref (gA G 4 (0))), (1, .ref (gA G 17 (p)))]) C dX2_merge_87 rfl (by decide) (fun _ => rfl) (fun y5 ey5 => ?_)
        obtain rfl : y5 = nI (d + 1) := ninc rfl ey5
        refine ww_goto 7 C dX2_merge_90 (by decide) ?_
        exact ww_sub [0, 3, 4] rfl (ih (d + 1) _ (by omega) (by omega) (mg_st hk (by rw [goes, ← h15, ← h16, ← h172, bI_0.mp h38, Bool.false_and]) hσ3 hσ4))
      · refine ww_aload_n C dX2_merge_41 rfl 3 rfl ?_
        refine ww_aload_n C dX2_merge_42 rfl 4 rfl ?_
        refine ww_iload C dX2_merge_43 0 rfl ?_
        refine ww_iload_n C dX2_merge_45 rfl 1 rfl ?_
        refine ww_calliF (cx_V (n := 3) (As := [.ref (gA G 17 (p)), .int (nI (B d)), .int (nI (A d))]) C  (c_X2_isConvexWithout (kL K) G hA _ p n hp hst hn (B d) (A d) (by omega) (by omega)) gX2_merge_X2_isConvexWithout rfl ⟨rfl, rfl⟩ (by decide +kernel) (by decide) rfl (by decide) rfl rfl rfl (Nat.le_of_ble_eq_true rfl) dX2_merge_46) ?_
        refine ww_if_eq 70 C dX2_merge_49 (by decide) (fun h49 => ?_) (fun h49 => ?_)
        · refine ww_aload_n C dX2_merge_70 rfl 4 rfl ?_
          refine ww_gr (j := p) (k := 17) (f := 11) C rfl rfl hp rfl in_X2_merge_X3 (by decide) lk_X2_merge_105 dX2_merge_71 rfl ?_
          refine ww_iload_n C dX2_merge_74 rfl 2 rfl ?_
          refine ww_iconst (v := 1) C dX2_merge_75 rfl ?_
          refine ww_iast (k := 25) (j := d) C rfl hp (by decide) dX2_merge_76 rfl (by omega) ?_
          obtain ⟨σ6, hσ6⟩ : ∃ z : Sg, z = (sgu τ 25 (p) (d) (1)) := ⟨_, rfl⟩
          rw [← hσ6]
          refine ww_aload_n C dX2_merge_77 rfl 4 rfl ?_
          refine ww_dup C dX2_merge_78 rfl ?_
          refine ww_gi (k := 17) (f := 5) C rfl rfl hp rfl in_X2_merge_X3 (by decide) lk_X2_merge_98 dX2_merge_79 ?_
          refine ww_iconst (v := 1) C dX2_merge_82 rfl ?_
          refine ww_iadd C dX2_merge_83 ?_
          refine ww_pi (k := 17) (f := 5) C rfl rfl hp rfl in_X2_merge_X3 tyX3_ok nmX3 (by decide) lk_X2_merge_98 rfl rfl dX2_merge_84 ?_
          obtain ⟨σ7, hσ7⟩ : ∃ z : Sg, z = (sgu σ6 17 (p) 5 ((σ6 17 (p) 5) + (1))) := ⟨_, rfl⟩
          rw [← hσ7]
          refine ww_iinc (q := 2) (fun y8 => [(2, .int (y8)), (4, .int (nI (B d))), (3, .int (nI (A d))), (0, .ref (gA G 4 (0))), (1, .ref (gA G 17 (p)))]) C dX2_merge_87 rfl (by decide) (fun _ => rfl) (fun y8 ey8 => ?_)
          obtain rfl : y8 = nI (d + 1) := ninc rfl ey8
          refine ww_goto 7 C dX2_merge_90 (by decide) ?_
          exact ww_sub [0, 3, 4] rfl (ih (d + 1) _ (by omega) (by omega) (mg_st hk (by rw [goes, ← h15, ← h16, ← h172, bI_0.mp h49, Bool.and_false]) hσ6 hσ7))
        · refine ww_aload_n C dX2_merge_52 rfl 3 rfl ?_
          refine ww_iload_n C dX2_merge_53 rfl 1 rfl ?_
          refine ww_iload C dX2_merge_54 0 rfl ?_
          refine ww_iconst (v := 0) C dX2_merge_56 rfl ?_
          refine ww_callvF (cx_V (n := 3) (As := [.int (nI (A d)), .int (nI (B d)), .int (0)]) C  (c_jn2 (kL K) G hA _ (A d) (B d) (by omega) (by omega) _) gX2_merge_X2_join rfl ⟨rfl, rfl⟩ (by decide +kernel) (by decide) rfl (by decide) rfl rfl rfl (Nat.le_of_ble_eq_true rfl) dX2_merge_57) ?_
          obtain ⟨σ9, hσ9⟩ : ∃ z : Sg, z = (jn2 τ (A d) (B d) (0)) := ⟨_, rfl⟩
          rw [← hσ9]
          refine ww_aload_n C dX2_merge_60 rfl 4 rfl ?_
          refine ww_gr (j := p) (k := 17) (f := 11) C rfl rfl hp rfl in_X2_merge_X3 (by decide) lk_X2_merge_105 dX2_merge_61 rfl ?_
          refine ww_iload_n C dX2_merge_64 rfl 2 rfl ?_
          refine ww_iconst (v := 0) C dX2_merge_65 rfl ?_
          refine ww_iast (k := 25) (j := d) C rfl hp (by decide) dX2_merge_66 rfl (by omega) ?_
          obtain ⟨σ10, hσ10⟩ : ∃ z : Sg, z = (sgu σ9 25 (p) (d) (0)) := ⟨_, rfl⟩
          rw [← hσ10]
          refine ww_goto 87 C dX2_merge_67 (by decide) ?_
          refine ww_iinc (q := 2) (fun y11 => [(2, .int (y11)), (4, .int (nI (B d))), (3, .int (nI (A d))), (0, .ref (gA G 4 (0))), (1, .ref (gA G 17 (p)))]) C dX2_merge_87 rfl (by decide) (fun _ => rfl) (fun y11 ey11 => ?_)
          obtain rfl : y11 = nI (d + 1) := ninc rfl ey11
          refine ww_goto 7 C dX2_merge_90 (by decide) ?_
          exact ww_sub [0, 3, 4] rfl (ih (d + 1) _ (by omega) (by omega) (mg_go hk (by rw [goes, ← h15, ← h16, ← h172, bI_1.mp h38, bI_1.mp h49]; rfl) hσ9 hσ10))
set_option maxHeartbeats 4000000 in
set_option maxRecDepth 100000 in
theorem c_X2_merge (l : Launch) (G : Gx) (hA : wa G) (σ : Sg) (p n : Nat) (hp : p < 8) (hs : σ 14 (p + 1) 2 = nI n) (hn : n ≤ 14) (h3 : 3 ≤ n) (A B : Nat → Nat) (hAB : ∀ d, d < n - 3 → σ 23 p d = nI (A d) ∧ σ 24 p d = nI (B d) ∧ A d < n ∧ B d < n) : CtV l yX2_merge wsX2_merge (rmd 4) G [.ref (gA G 4 (0)), .ref (gA G 17 (p))] σ (fun σ2 => MGi σ σ2 p n A B (n - 3)) := by
  refine ct_v (maxL := 5) (ret := none) (by decide) rfl (Nat.le_of_ble_eq_true rfl) hA (fun K hl C => ?_)
  subst hl
  change WW K G _ _ σ [(0, .ref (gA G 4 (0))), (1, .ref (gA G 17 (p)))] 0 []
  refine ww_aload_n C dX2_merge_0 rfl 1 rfl ?_
  refine ww_iconst (v := 1) C dX2_merge_1 rfl ?_
  refine ww_pi (k := 17) (f := 5) C rfl rfl hp rfl in_X2_merge_X3 tyX3_ok nmX3 (by decide) lk_X2_merge_98 rfl rfl dX2_merge_2 ?_
  obtain ⟨σ1, hσ1⟩ : ∃ z : Sg, z = (sgu σ 17 (p) 5 (1)) := ⟨_, rfl⟩
  rw [← hσ1]
  refine ww_iconst (v := 0) C dX2_merge_5 rfl ?_
  refine ww_istore_n (fun y2 => [(2, .int (y2)), (0, .ref (gA G 4 (0))), (1, .ref (gA G 17 (p)))]) C dX2_merge_6 rfl (by decide) (fun _ => rfl) (fun y2 ey2 => ?_)
  obtain rfl : y2 = nI 0 := (ey2.trans (by decide))
  exact ww_sub [0, 1, 2] rfl (lp_X2_merge hA C σ p n hp hs hn h3 A B hAB (n + 1) 0 _ (by omega) (by omega) (mg_0 hσ1))
