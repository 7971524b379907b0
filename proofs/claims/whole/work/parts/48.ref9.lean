theorem in_X6_findFar_X6 : ∀ w ∈ wsX60, w ∈ wsX6_findFar := by decide +kernel
theorem lk_X6_findFar_16 : Cond.fieldLink RX6 16 "PolyCutsModel" "corners" "[I" ∈ wsX6_findFar := by decide +kernel
theorem lk_X6_findFar_32 : Cond.fieldLink RX6 32 "PolyCutsModel" "far" "[I" ∈ wsX6_findFar := by decide +kernel
theorem in_X6_way_X6 : ∀ w ∈ wsX60, w ∈ wsX6_way := by decide +kernel
theorem lk_X6_way_32 : Cond.fieldLink RX6 32 "PolyCutsModel" "far" "[I" ∈ wsX6_way := by decide +kernel
theorem in_X6_step_X6 : ∀ w ∈ wsX60, w ∈ wsX6_step := by decide +kernel
theorem lk_X6_step_32 : Cond.fieldLink RX6 32 "PolyCutsModel" "far" "[I" ∈ wsX6_step := by decide +kernel
/-- the reference's search by rings -/
def rIn (S : Nat → Nat → Int32) (d k : Nat) (F : Nat → Int32) : Nat → Nat → Int32
  | 0 => F
  | l + 1 => if rIn S d k F l k = nI d ∧ rIn S d k F l l = -1 ∧ 0 < S k l then upd (rIn S d k F l) l (nI (d + 1)) else rIn S d k F l
def rMid (n : Nat) (S : Nat → Nat → Int32) (d : Nat) (F : Nat → Int32) : Nat → Nat → Int32
  | 0 => F
  | k + 1 => rIn S d k (rMid n S d F k) n
def rOut (n : Nat) (S : Nat → Nat → Int32) (F : Nat → Int32) : Nat → Nat → Int32
  | 0 => F
  | d + 1 => rMid n S d (rOut n S F d) n
theorem rIn_t {S : Nat → Nat → Int32} {d k : Nat} {F : Nat → Int32} {l : Nat} (h1 : rIn S d k F l k = nI d) (h2 : rIn S d k F l l = -1) (h3 : 0 < S k l) : rIn S d k F (l + 1) = upd (rIn S d k F l) l (nI (d + 1)) := by rw [rIn, if_pos ⟨h1, h2, h3⟩]
theorem rIn_f {S : Nat → Nat → Int32} {d k : Nat} {F : Nat → Int32} {l : Nat} (h : ¬ (rIn S d k F l k = nI d ∧ rIn S d k F l l = -1 ∧ 0 < S k l)) : rIn S d k F (l + 1) = rIn S d k F l := by rw [rIn, if_neg h]
theorem rIn_e {S : Nat → Nat → Int32} {d k : Nat} {F : Nat → Int32} {l : Nat} (h : ¬ rIn S d k F l k = nI d) : ∀ m, rIn S d k F (l + m) = rIn S d k F l
  | 0 => rfl
  | m + 1 => by
    have e := rIn_e h m
    rw [← Nat.add_assoc, rIn_f (by rw [e]; exact fun q => h q.1), e]
set_option maxHeartbeats 4000000 in
set_option maxRecDepth 100000 in
theorem lp_X6_findFar_l {K : Kx} {G : Gx} (hA : wa G) (C : CX K G cX6_findFar 6 RX6 wsX6_findFar (rmd 6) none) (σ : Sg) (p n : Nat) (hp : p < 8) (hs : σ 33 0 p = nI n) (h3 : 3 ≤ n) (hn : n ≤ 14) (g : Nat) (hg : g < n) (d k : Nat) (hd : d < n) (hk : k < n) (kx : WW K G 6 (QV K G (fun σ2 => σ2 = sgr σ 36 0 (rOut n (sightR n (fun i => σ 34 0 (14 * p + i)) (fun i => σ 35 0 (14 * p + i))) (mD0 14 g (σ 36 0)) n))) (sgr σ 36 0 (rIn (sightR n (fun i => σ 34 0 (14 * p + i)) (fun i => σ 35 0 (14 * p + i))) d k (rMid n (sightR n (fun i => σ 34 0 (14 * p + i)) (fun i => σ 35 0 (14 * p + i))) d (rOut n (sightR n (fun i => σ 34 0 (14 * p + i)) (fun i => σ 35 0 (14 * p + i))) (mD0 14 g (σ 36 0)) d) k) n)) [(4, .int (nI k)), (3, .int (nI d)), (0, .ref (gA G 30 (0))), (1, .int (nI p)), (2, .int (nI g))] 118 []) : ∀ (f l : Nat) (τ : Sg), n - l < f → (l ≤ n) → (τ = sgr σ 36 0 (rIn (sightR n (fun i => σ 34 0 (14 * p + i)) (fun i => σ 35 0 (14 * p + i))) d k (rMid n (sightR n (fun i => σ 34 0 (14 * p + i)) (fun i => σ 35 0 (14 * p + i))) d (rOut n (sightR n (fun i => σ 34 0 (14 * p + i)) (fun i => σ 35 0 (14 * p + i))) (mD0 14 g (σ 36 0)) d) k) l)) → WW K G 6 (QV K G (fun σ2 => σ2 = sgr σ 36 0 (rOut n (sightR n (fun i => σ 34 0 (14 * p + i)) (fun i => σ 35 0 (14 * p + i))) (mD0 14 g (σ 36 0)) n))) τ [(5, .int (nI l)), (4, .int (nI k)), (3, .int (nI d)), (0, .ref (gA G 30 (0))), (1, .int (nI p)), (2, .int (nI g))] 57 [] := by
  intro f
  induction f with
  | zero => intro l τ h; exact absurd h (Nat.not_lt_zero _)
  | succ f ih =>
    intro l τ hf hl ht
    have hst : τ 33 0 p = nI n := by rw [ht, sgr_kk (by decide)]; exact hs
    have e34 : τ 34 = σ 34 := by rw [ht, sgr_kk (by decide)]
    have e35 : τ 35 = σ 35 := by rw [ht, sgr_kk (by decide)]
    refine ww_iload C dX6_findFar_57 0 rfl ?_
    refine ww_aload_n C dX6_findFar_59 rfl 3 rfl ?_
    refine ww_gr (j := 0) (k := 30) (f := 4) C rfl rfl (by decide) rfl in_X6_findFar_X6 (by decide) lk_X6_findFar_16 dX6_findFar_60 rfl ?_
    refine ww_iload_n C dX6_findFar_63 rfl 4 rfl ?_
    refine ww_iald (k := 33) (j := p) C rfl (by decide) (by decide) dX6_findFar_64 rfl hp ?_
    rw [hst]
    refine ww_icmp_ge 118 C dX6_findFar_65 (by decide) (fun h65 => ?_) (fun h65 => ?_)
    · have g65 : n ≤ l := (cv_le (a := n) (b := l) rfl rfl (by omega) (by omega)).mp h65
      exact ww_sub [1, 2, 3, 4, 5] rfl (by rw [ht, show l = n by omega]; exact kx)
    · have g65 : ¬ n ≤ l := fun q => h65 ((cv_le (a := n) (b := l) rfl rfl (by omega) (by omega)).mpr q)
      refine ww_aload_n C dX6_findFar_68 rfl 3 rfl ?_
      refine ww_gr (j := 0) (k := 30) (f := 9) C rfl rfl (by decide) rfl in_X6_findFar_X6 (by decide) lk_X6_findFar_32 dX6_findFar_69 rfl ?_
      refine ww_iload C dX6_findFar_72 1 rfl ?_
      refine ww_iald (k := 36) (j := k) C rfl (by decide) (by decide) dX6_findFar_74 rfl (by omega) ?_
      refine ww_iload_n C dX6_findFar_75 rfl 2 rfl ?_
      refine ww_icmp_ne 118 C dX6_findFar_76 (by decide) (fun h76 => ?_) (fun h76 => ?_)
      · have hq : (rIn (sightR n (fun i => σ 34 0 (14 * p + i)) (fun i => σ 35 0 (14 * p + i))) d k (rMid n (sightR n (fun i => σ 34 0 (14 * p + i)) (fun i => σ 35 0 (14 * p + i))) d (rOut n (sightR n (fun i => σ 34 0 (14 * p + i)) (fun i => σ 35 0 (14 * p + i))) (mD0 14 g (σ 36 0)) d) k) n) = (rIn (sightR n (fun i => σ 34 0 (14 * p + i)) (fun i => σ 35 0 (14 * p + i))) d k (rMid n (sightR n (fun i => σ 34 0 (14 * p + i)) (fun i => σ 35 0 (14 * p + i))) d (rOut n (sightR n (fun i => σ 34 0 (14 * p + i)) (fun i => σ 35 0 (14 * p + i))) (mD0 14 g (σ 36 0)) d) k) l) := by have := rIn_e (S := (sightR n (fun i => σ 34 0 (14 * p + i)) (fun i => σ 35 0 (14 * p + i)))) (F := (rMid n (sightR n (fun i => σ 34 0 (14 * p + i)) (fun i => σ 35 0 (14 * p + i))) d (rOut n (sightR n (fun i => σ 34 0 (14 * p + i)) (fun i => σ 35 0 (14 * p + i))) (mD0 14 g (σ 36 0)) d) k)) (d := d) (k := k) (l := l) (by rw [ht, sgr_self] at h76; exact h76) (n - l); rw [show l + (n - l) = n by omega] at this; exact this
        exact ww_sub [1, 2, 3, 4, 5] rfl (by rw [ht, ← hq]; exact kx)
      · refine ww_aload_n C dX6_findFar_79 rfl 3 rfl ?_
        refine ww_gr (j := 0) (k := 30) (f := 9) C rfl rfl (by decide) rfl in_X6_findFar_X6 (by decide) lk_X6_findFar_32 dX6_findFar_80 rfl ?_
        refine ww_iload C dX6_findFar_83 0 rfl ?_
        refine ww_iald (k := 36) (j := l) C rfl (by decide) (by decide) dX6_findFar_85 rfl (by omega) ?_
        refine ww_iconst (v := -1) C dX6_findFar_86 rfl ?_
        refine ww_icmp_ne 112 C dX6_findFar_87 (by decide) (fun h87 => ?_) (fun h87 => ?_)
        · refine ww_iinc (q := 0) (fun y1 => [(5, .int (y1)), (4, .int (nI k)), (3, .int (nI d)), (0, .ref (gA G 30 (0))), (1, .int (nI p)), (2, .int (nI g))]) C dX6_findFar_112 rfl (by decide) (fun _ => rfl) (fun y1 ey1 => ?_)
          obtain rfl : y1 = nI (l + 1) := ninc rfl ey1
          refine ww_goto 57 C dX6_findFar_115 (by decide) ?_
          exact ww_sub [0, 1, 2, 3, 4, 5] rfl (ih (l + 1) _ (by omega) (by omega) (ht.trans (by rw [rIn_f (fun q => h87 (by rw [ht, sgr_self]; exact q.2.1))])))
        · refine ww_aload_n C dX6_findFar_90 rfl 3 rfl ?_
          refine ww_iload_n C dX6_findFar_91 rfl 4 rfl ?_
          refine ww_iload C dX6_findFar_92 1 rfl ?_
          refine ww_iload C dX6_findFar_94 0 rfl ?_
          refine ww_calliF (cx_V (n := 3) (As := [.int (nI p), .int (nI k), .int (nI l)]) C  (c_X6_sight (kL K) G hA _ p n hp hst h3 hn k l (by omega) (by omega)) gX6_findFar_X6_sight rfl ⟨rfl, rfl⟩ (by decide +kernel) (by decide) rfl (by decide) rfl rfl rfl (Nat.le_of_ble_eq_true rfl) dX6_findFar_96) ?_
          refine ww_if_le 112 C dX6_findFar_99 (by decide) (fun h99 => ?_) (fun h99 => ?_)
          · refine ww_iinc (q := 0) (fun y2 => [(5, .int (y2)), (4, .int (nI k)), (3, .int (nI d)), (0, .ref (gA G 30 (0))), (1, .int (nI p)), (2, .int (nI g))]) C dX6_findFar_112 rfl (by decide) (fun _ => rfl) (fun y2 ey2 => ?_)
            obtain rfl : y2 = nI (l + 1) := ninc rfl ey2
            refine ww_goto 57 C dX6_findFar_115 (by decide) ?_
            exact ww_sub [0, 1, 2, 3, 4, 5] rfl (ih (l + 1) _ (by omega) (by omega) (ht.trans (by rw [rIn_f (fun q => absurd q.2.2 (Int32.not_lt.mpr (by rw [e34, e35] at h99; exact h99)))])))
          · refine ww_aload_n C dX6_findFar_102 rfl 3 rfl ?_
            refine ww_gr (j := 0) (k := 30) (f := 9) C rfl rfl (by decide) rfl in_X6_findFar_X6 (by decide) lk_X6_findFar_32 dX6_findFar_103 rfl ?_
            refine ww_iload C dX6_findFar_106 0 rfl ?_
            refine ww_iload_n C dX6_findFar_108 rfl 2 rfl ?_
            refine ww_iconst (v := 1) C dX6_findFar_109 rfl ?_
            refine ww_iadd C dX6_findFar_110 ?_
            rw [show (nI d) + (1) = nI (d + 1) from nI_add (d) (1)]
            refine ww_iast (k := 36) (j := l) C rfl (by decide) (by decide) dX6_findFar_111 rfl (by omega) ?_
            obtain ⟨σ3, hσ3⟩ : ∃ z : Sg, z = (sgu τ 36 (0) (l) (nI (d + 1))) := ⟨_, rfl⟩
            rw [← hσ3]
            refine ww_iinc (q := 0) (fun y4 => [(5, .int (y4)), (4, .int (nI k)), (3, .int (nI d)), (0, .ref (gA G 30 (0))), (1, .int (nI p)), (2, .int (nI g))]) C dX6_findFar_112 rfl (by decide) (fun _ => rfl) (fun y4 ey4 => ?_)
            obtain rfl : y4 = nI (l + 1) := ninc rfl ey4
            refine ww_goto 57 C dX6_findFar_115 (by decide) ?_
            exact ww_sub [0, 1, 2, 3, 4, 5] rfl (ih (l + 1) _ (by omega) (by omega) (by rw [hσ3, ht, sgr_upd, rIn_t (by rw [ht, sgr_self] at h76; exact h76) (by rw [ht, sgr_self] at h87; exact h87) (by rw [e34, e35] at h99; exact Int32.not_le.mp h99)]))
set_option maxHeartbeats 4000000 in
set_option maxRecDepth 100000 in
theorem lp_X6_findFar_k {K : Kx} {G : Gx} (hA : wa G) (C : CX K G cX6_findFar 6 RX6 wsX6_findFar (rmd 6) none) (σ : Sg) (p n : Nat) (hp : p < 8) (hs : σ 33 0 p = nI n) (h3 : 3 ≤ n) (hn : n ≤ 14) (g : Nat) (hg : g < n) (d : Nat) (hd : d < n) (kx : WW K G 6 (QV K G (fun σ2 => σ2 = sgr σ 36 0 (rOut n (sightR n (fun i => σ 34 0 (14 * p + i)) (fun i => σ 35 0 (14 * p + i))) (mD0 14 g (σ 36 0)) n))) (sgr σ 36 0 (rMid n (sightR n (fun i => σ 34 0 (14 * p + i)) (fun i => σ 35 0 (14 * p + i))) d (rOut n (sightR n (fun i => σ 34 0 (14 * p + i)) (fun i => σ 35 0 (14 * p + i))) (mD0 14 g (σ 36 0)) d) n)) [(3, .int (nI d)), (0, .ref (gA G 30 (0))), (1, .int (nI p)), (2, .int (nI g))] 124 []) : ∀ (f k : Nat) (τ : Sg), n - k < f → (k ≤ n) → (τ = sgr σ 36 0 (rMid n (sightR n (fun i => σ 34 0 (14 * p + i)) (fun i => σ 35 0 (14 * p + i))) d (rOut n (sightR n (fun i => σ 34 0 (14 * p + i)) (fun i => σ 35 0 (14 * p + i))) (mD0 14 g (σ 36 0)) d) k)) → WW K G 6 (QV K G (fun σ2 => σ2 = sgr σ 36 0 (rOut n (sightR n (fun i => σ 34 0 (14 * p + i)) (fun i => σ 35 0 (14 * p + i))) (mD0 14 g (σ 36 0)) n))) τ [(4, .int (nI k)), (3, .int (nI d)), (0, .ref (gA G 30 (0))), (1, .int (nI p)), (2, .int (nI g))] 43 [] := by
  intro f
  induction f with
  | zero => intro k τ h; exact absurd h (Nat.not_lt_zero _)
  | succ f ih =>
    intro k τ hf hk ht
    have hst : τ 33 0 p = nI n := by rw [ht, sgr_kk (by decide)]; exact hs
    have e34 : τ 34 = σ 34 := by rw [ht, sgr_kk (by decide)]
    have e35 : τ 35 = σ 35 := by rw [ht, sgr_kk (by decide)]
    refine ww_iload C dX6_findFar_43 0 rfl ?_
    refine ww_aload_n C dX6_findFar_45 rfl 2 rfl ?_
    refine ww_gr (j := 0) (k := 30) (f := 4) C rfl rfl (by decide) rfl in_X6_findFar_X6 (by decide) lk_X6_findFar_16 dX6_findFar_46 rfl ?_
    refine ww_iload_n C dX6_findFar_49 rfl 3 rfl ?_
    refine ww_iald (k := 33) (j := p) C rfl (by decide) (by decide) dX6_findFar_50 rfl hp ?_
    rw [hst]
    refine ww_icmp_ge 124 C dX6_findFar_51 (by decide) (fun h51 => ?_) (fun h51 => ?_)
    · have g51 : n ≤ k := (cv_le (a := n) (b := k) rfl rfl (by omega) (by omega)).mp h51
      exact ww_sub [1, 2, 3, 4] rfl (by rw [ht, show k = n by omega]; exact kx)
    · have g51 : ¬ n ≤ k := fun q => h51 ((cv_le (a := n) (b := k) rfl rfl (by omega) (by omega)).mpr q)
      refine ww_iconst (v := 0) C dX6_findFar_54 rfl ?_
      refine ww_istore (fun y1 => [(5, .int (y1)), (4, .int (nI k)), (3, .int (nI d)), (0, .ref (gA G 30 (0))), (1, .int (nI p)), (2, .int (nI g))]) C dX6_findFar_55 (by decide) (fun _ => rfl) (fun y1 ey1 => ?_)
      obtain rfl : y1 = nI 0 := (ey1.trans (by decide))
      refine ww_sub [0, 1, 2, 3, 4, 5] rfl (lp_X6_findFar_l hA C σ p n hp hs h3 hn g hg d k (by omega) (by omega) ?_ (n + 1) 0 τ (by omega) (by omega) ht)
      refine ww_iinc (q := 0) (fun y2 => [(4, .int (y2)), (3, .int (nI d)), (0, .ref (gA G 30 (0))), (1, .int (nI p)), (2, .int (nI g))]) C dX6_findFar_118 rfl (by decide) (fun _ => rfl) (fun y2 ey2 => ?_)
      obtain rfl : y2 = nI (k + 1) := ninc rfl ey2
      refine ww_goto 43 C dX6_findFar_121 (by decide) ?_
      exact ww_sub [0, 1, 2, 3, 4] rfl (ih (k + 1) _ (by omega) (by omega) rfl)
set_option maxHeartbeats 4000000 in
set_option maxRecDepth 100000 in
theorem lp_X6_findFar_d {K : Kx} {G : Gx} (hA : wa G) (C : CX K G cX6_findFar 6 RX6 wsX6_findFar (rmd 6) none) (σ : Sg) (p n : Nat) (hp : p < 8) (hs : σ 33 0 p = nI n) (h3 : 3 ≤ n) (hn : n ≤ 14) (g : Nat) (hg : g < n) : ∀ (f d : Nat) (τ : Sg), n - d < f → (d ≤ n) → (τ = sgr σ 36 0 (rOut n (sightR n (fun i => σ 34 0 (14 * p + i)) (fun i => σ 35 0 (14 * p + i))) (mD0 14 g (σ 36 0)) d)) → WW K G 6 (QV K G (fun σ2 => σ2 = sgr σ 36 0 (rOut n (sightR n (fun i => σ 34 0 (14 * p + i)) (fun i => σ 35 0 (14 * p + i))) (mD0 14 g (σ 36 0)) n))) τ [(3, .int (nI d)), (0, .ref (gA G 30 (0))), (1, .int (nI p)), (2, .int (nI g))] 30 [] := by
  intro f
  induction f with
  | zero => intro d τ h; exact absurd h (Nat.not_lt_zero _)
  | succ f ih =>
    intro d τ hf hd ht
    have hst : τ 33 0 p = nI n := by rw [ht, sgr_kk (by decide)]; exact hs
    have e34 : τ 34 = σ 34 := by rw [ht, sgr_kk (by decide)]
    have e35 : τ 35 = σ 35 := by rw [ht, sgr_kk (by decide)]
    refine ww_iload_n C dX6_findFar_30 rfl 0 rfl ?_
    refine ww_aload_n C dX6_findFar_31 rfl 1 rfl ?_
    refine ww_gr (j := 0) (k := 30) (f := 4) C rfl rfl (by decide) rfl in_X6_findFar_X6 (by decide) lk_X6_findFar_16 dX6_findFar_32 rfl ?_
    refine ww_iload_n C dX6_findFar_35 rfl 2 rfl ?_
    refine ww_iald (k := 33) (j := p) C rfl (by decide) (by decide) dX6_findFar_36 rfl hp ?_
    rw [hst]
    refine ww_icmp_ge 130 C dX6_findFar_37 (by decide) (fun h37 => ?_) (fun h37 => ?_)
    · have g37 : n ≤ d := (cv_le (a := n) (b := d) rfl rfl (by omega) (by omega)).mp h37
      refine ww_vret C dX6_findFar_130 ?_
      rw [ht, show d = n by omega]
    · have g37 : ¬ n ≤ d := fun q => h37 ((cv_le (a := n) (b := d) rfl rfl (by omega) (by omega)).mpr q)
      refine ww_iconst (v := 0) C dX6_findFar_40 rfl ?_
      refine ww_istore (fun y1 => [(4, .int (y1)), (3, .int (nI d)), (0, .ref (gA G 30 (0))), (1, .int (nI p)), (2, .int (nI g))]) C dX6_findFar_41 (by decide) (fun _ => rfl) (fun y1 ey1 => ?_)
      obtain rfl : y1 = nI 0 := (ey1.trans (by decide))
      refine ww_sub [0, 1, 2, 3, 4] rfl (lp_X6_findFar_k hA C σ p n hp hs h3 hn g hg d (by omega) ?_ (n + 1) 0 τ (by omega) (by omega) ht)
      refine ww_iinc (q := 0) (fun y2 => [(3, .int (y2)), (0, .ref (gA G 30 (0))), (1, .int (nI p)), (2, .int (nI g))]) C dX6_findFar_124 rfl (by decide) (fun _ => rfl) (fun y2 ey2 => ?_)
      obtain rfl : y2 = nI (d + 1) := ninc rfl ey2
      refine ww_goto 30 C dX6_findFar_127 (by decide) ?_
      exact ww_sub [0, 1, 2, 3] rfl (ih (d + 1) _ (by omega) (by omega) rfl)
set_option maxHeartbeats 4000000 in
set_option maxRecDepth 100000 in
theorem lp_X6_findFar_0 {K : Kx} {G : Gx} (hA : wa G) (C : CX K G cX6_findFar 6 RX6 wsX6_findFar (rmd 6) none) (σ : Sg) (p n : Nat) (hp : p < 8) (hs : σ 33 0 p = nI n) (h3 : 3 ≤ n) (hn : n ≤ 14) (g : Nat) (hg : g < n) : ∀ (f k : Nat) (τ : Sg), 14 - k < f → (k ≤ 14) → (τ = sgr σ 36 0 (fun f => if f < k then -1 else σ 36 0 f)) → WW K G 6 (QV K G (fun σ2 => σ2 = sgr σ 36 0 (rOut n (sightR n (fun i => σ 34 0 (14 * p + i)) (fun i => σ 35 0 (14 * p + i))) (mD0 14 g (σ 36 0)) n))) τ [(3, .int (nI k)), (0, .ref (gA G 30 (0))), (1, .int (nI p)), (2, .int (nI g))] 2 [] := by
  intro f
  induction f with
  | zero => intro k τ h; exact absurd h (Nat.not_lt_zero _)
  | succ f ih =>
    intro k τ hf hk ht
    have hst : τ 33 0 p = nI n := by rw [ht, sgr_kk (by decide)]; exact hs
    have e34 : τ 34 = σ 34 := by rw [ht, sgr_kk (by decide)]
    have e35 : τ 35 = σ 35 := by rw [ht, sgr_kk (by decide)]
    refine ww_iload_n C dX6_findFar_2 rfl 0 rfl ?_
    refine ww_bipush (v := 14) C dX6_findFar_3 (by decide) ?_
    refine ww_icmp_ge 21 C dX6_findFar_5 (by decide) (fun h5 => ?_) (fun h5 => ?_)
    · have g5 : 14 ≤ k := (cv_le (a := 14) (b := k) (by decide) rfl (by omega) (by omega)).mp h5
      refine ww_aload_n C dX6_findFar_21 rfl 1 rfl ?_
      refine ww_gr (j := 0) (k := 30) (f := 9) C rfl rfl (by decide) rfl in_X6_findFar_X6 (by decide) lk_X6_findFar_32 dX6_findFar_22 rfl ?_
      refine ww_iload_n C dX6_findFar_25 rfl 3 rfl ?_
      refine ww_iconst (v := 0) C dX6_findFar_26 rfl ?_
      refine ww_iast (k := 36) (j := g) C rfl (by decide) (by decide) dX6_findFar_27 rfl (by omega) ?_
      obtain ⟨σ1, hσ1⟩ : ∃ z : Sg, z = (sgu τ 36 (0) (g) (0)) := ⟨_, rfl⟩
      rw [← hσ1]
      refine ww_iconst (v := 0) C dX6_findFar_28 rfl ?_
      refine ww_istore_n (fun y2 => [(3, .int (y2)), (0, .ref (gA G 30 (0))), (1, .int (nI p)), (2, .int (nI g))]) C dX6_findFar_29 rfl (by decide) (fun _ => rfl) (fun y2 ey2 => ?_)
      obtain rfl : y2 = nI 0 := (ey2.trans (by decide))
      exact ww_sub [0, 1, 2, 3] rfl (lp_X6_findFar_d hA C σ p n hp hs h3 hn g hg (n + 1) 0 _ (by omega) (by omega) (by rw [hσ1, ht, sgr_upd, show k = 14 by omega, m0_e]; rfl))
    · have g5 : ¬ 14 ≤ k := fun q => h5 ((cv_le (a := 14) (b := k) (by decide) rfl (by omega) (by omega)).mpr q)
      refine ww_aload_n C dX6_findFar_8 rfl 1 rfl ?_
      refine ww_gr (j := 0) (k := 30) (f := 9) C rfl rfl (by decide) rfl in_X6_findFar_X6 (by decide) lk_X6_findFar_32 dX6_findFar_9 rfl ?_
      refine ww_iload_n C dX6_findFar_12 rfl 0 rfl ?_
      refine ww_iconst (v := -1) C dX6_findFar_13 rfl ?_
      refine ww_iast (k := 36) (j := k) C rfl (by decide) (by decide) dX6_findFar_14 rfl (by omega) ?_
      obtain ⟨σ3, hσ3⟩ : ∃ z : Sg, z = (sgu τ 36 (0) (k) (-1)) := ⟨_, rfl⟩
      rw [← hσ3]
      refine ww_iinc (q := 0) (fun y4 => [(3, .int (y4)), (0, .ref (gA G 30 (0))), (1, .int (nI p)), (2, .int (nI g))]) C dX6_findFar_15 rfl (by decide) (fun _ => rfl) (fun y4 ey4 => ?_)
      obtain rfl : y4 = nI (k + 1) := ninc rfl ey4
      refine ww_goto 2 C dX6_findFar_18 (by decide) ?_
      exact ww_sub [0, 1, 2, 3] rfl (ih (k + 1) _ (by omega) (by omega) (by rw [hσ3, ht, sgr_upd, m0_s]))
set_option maxHeartbeats 4000000 in
set_option maxRecDepth 100000 in
theorem c_X6_findFar (l : Launch) (G : Gx) (hA : wa G) (σ : Sg) (p n : Nat) (hp : p < 8) (hs : σ 33 0 p = nI n) (h3 : 3 ≤ n) (hn : n ≤ 14) (g : Nat) (hg : g < n) : CtV l yX6_findFar wsX6_findFar (rmd 6) G [.ref (gA G 30 (0)), .int (nI p), .int (nI g)] σ (fun σ2 => σ2 = sgr σ 36 0 (rOut n (sightR n (fun i => σ 34 0 (14 * p + i)) (fun i => σ 35 0 (14 * p + i))) (mD0 14 g (σ 36 0)) n)) := by
  refine ct_v (maxL := 6) (ret := none) (by decide) rfl (Nat.le_of_ble_eq_true rfl) hA (fun K hl C => ?_)
  subst hl
  change WW K G _ _ σ [(0, .ref (gA G 30 (0))), (1, .int (nI p)), (2, .int (nI g))] 0 []
  refine ww_iconst (v := 0) C dX6_findFar_0 rfl ?_
  refine ww_istore_n (fun y1 => [(3, .int (y1)), (0, .ref (gA G 30 (0))), (1, .int (nI p)), (2, .int (nI g))]) C dX6_findFar_1 rfl (by decide) (fun _ => rfl) (fun y1 ey1 => ?_)
  obtain rfl : y1 = nI 0 := (ey1.trans (by decide))
  exact ww_sub [0, 1, 2, 3] rfl (lp_X6_findFar_0 hA C σ p n hp hs h3 hn g hg 15 0 σ (by omega) (by omega) (by rw [show (fun f => if f < 0 then (-1 : Int32) else σ 36 0 f) = σ 36 0 from rfl, sgr_id]))
set_option maxHeartbeats 4000000 in
set_option maxRecDepth 100000 in
theorem c_X6_way_s (l : Launch) (G : Gx) (hA : wa G) (σ : Sg) (cnt p n : Nat) (hc : σ 30 0 3 = nI cnt) (hc8 : cnt ≤ 8) (hpc : p < cnt) (hp : p < 8) (hs : σ 33 0 p = nI n) (h3 : 3 ≤ n) (hn : n ≤ 14) (c e : Int32) : CtI l yX6_way wsX6_way (rmd 7) G [.ref (gA G 30 (0)), .int (nI p), .int (c), .int (e)] σ (fun r σ2 => r = pairR n c e (fun a b => (rOut n (sightR n (fun i => σ 34 0 (14 * p + i)) (fun i => σ 35 0 (14 * p + i))) (mD0 14 b (σ 36 0)) n) a) ∧ ∀ k, k ≠ 36 → σ2 k = σ k) := by
  refine ct_i (maxL := 4) (ret := (some .int)) (by decide) rfl (Nat.le_of_ble_eq_true rfl) hA (fun K hl C => ?_)
  subst hl
  change WW K G _ _ σ [(0, .ref (gA G 30 (0))), (1, .int (nI p)), (2, .int (c)), (3, .int (e))] 0 []
  refine ww_aload_n C dX6_way_0 rfl 0 rfl ?_
  refine ww_iload_n C dX6_way_1 rfl 1 rfl ?_
  refine ww_iload_n C dX6_way_2 rfl 2 rfl ?_
  refine ww_calliF (cx_V (n := 2) (As := [.int (nI p), .int (c)]) C  (c_X6_isCorner_s (kL K) G hA _ cnt p n hc hc8 hpc hp hs h3 hn _) gX6_way_X6_isCorner rfl ⟨rfl, rfl⟩ (by decide +kernel) (by decide) rfl (by decide) rfl rfl rfl (Nat.le_of_ble_eq_true rfl) dX6_way_3) ?_
  refine ww_if_eq 18 C dX6_way_6 (by decide) (fun h6 => ?_) (fun h6 => ?_)
  · refine ww_bipush (v := -2) C dX6_way_18 (by decide) ?_
    refine ww_iret C dX6_way_20 ?_
    exact ⟨by rw [pair_f1 h6], fun _ _ => rfl⟩
  · obtain ⟨i, hi, rfl⟩ := ix_of (of_decide_eq_true (bI_1.mp h6)) hn
    refine ww_aload_n C dX6_way_9 rfl 0 rfl ?_
    refine ww_iload_n C dX6_way_10 rfl 1 rfl ?_
    refine ww_iload_n C dX6_way_11 rfl 3 rfl ?_
    refine ww_calliF (cx_V (n := 2) (As := [.int (nI p), .int (e)]) C  (c_X6_isCorner_s (kL K) G hA _ cnt p n hc hc8 hpc hp hs h3 hn _) gX6_way_X6_isCorner rfl ⟨rfl, rfl⟩ (by decide +kernel) (by decide) rfl (by decide) rfl rfl rfl (Nat.le_of_ble_eq_true rfl) dX6_way_12) ?_
    refine ww_if_ne 21 C dX6_way_15 (by decide) (fun h15 => ?_) (fun h15 => ?_)
    · obtain ⟨j, hj, rfl⟩ := ix_of (of_decide_eq_true (bI_1.mp h15)) hn
      refine ww_aload_n C dX6_way_21 rfl 0 rfl ?_
      refine ww_iload_n C dX6_way_22 rfl 1 rfl ?_
      refine ww_iload_n C dX6_way_23 rfl 3 rfl ?_
      refine ww_callvF (cx_V (n := 2) (As := [.int (nI p), .int (nI j)]) C  (c_X6_findFar (kL K) G hA _ p n hp hs h3 hn j (by omega)) gX6_way_X6_findFar rfl ⟨rfl, rfl⟩ (by decide +kernel) (by decide) rfl (by decide) rfl rfl rfl (Nat.le_of_ble_eq_true rfl) dX6_way_24) ?_
      obtain ⟨σ1, hσ1⟩ : ∃ z : Sg, z = (sgr σ 36 0 (rOut n (sightR n (fun i => σ 34 0 (14 * p + i)) (fun i => σ 35 0 (14 * p + i))) (mD0 14 j (σ 36 0)) n)) := ⟨_, rfl⟩
      rw [← hσ1]
      refine ww_aload_n C dX6_way_27 rfl 0 rfl ?_
      refine ww_gr (j := 0) (k := 30) (f := 9) C rfl rfl (by decide) rfl in_X6_way_X6 (by decide) lk_X6_way_32 dX6_way_28 rfl ?_
      refine ww_iload_n C dX6_way_31 rfl 2 rfl ?_
      refine ww_iald (k := 36) (j := i) C rfl (by decide) (by decide) dX6_way_32 rfl (by omega) ?_
      refine ww_iret C dX6_way_33 ?_
      exact ⟨by rw [pair_t hi hj hn, hσ1, sgr_self], fun k hk => by rw [hσ1, sgr_kk hk]⟩
    · refine ww_bipush (v := -2) C dX6_way_18 (by decide) ?_
      refine ww_iret C dX6_way_20 ?_
      exact ⟨by rw [pair_f2 hi hn h15], fun _ _ => rfl⟩
set_option maxHeartbeats 4000000 in
set_option maxRecDepth 100000 in
theorem c_X6_way_n (l : Launch) (G : Gx) (hA : wa G) (σ : Sg) (cnt : Nat) (hc : σ 30 0 3 = nI cnt) (hc8 : cnt ≤ 8) (x : Int32) (hu : ¬ (0 ≤ x ∧ x < nI cnt)) (c e : Int32) : CtI l yX6_way wsX6_way (rmd 7) G [.ref (gA G 30 (0)), .int (x), .int (c), .int (e)] σ (fun r σ2 => r = -2 ∧ ∀ k, k ≠ 36 → σ2 k = σ k) := by
  refine ct_i (maxL := 4) (ret := (some .int)) (by decide) rfl (Nat.le_of_ble_eq_true rfl) hA (fun K hl C => ?_)
  subst hl
  change WW K G _ _ σ [(0, .ref (gA G 30 (0))), (1, .int (x)), (2, .int (c)), (3, .int (e))] 0 []
  refine ww_aload_n C dX6_way_0 rfl 0 rfl ?_
  refine ww_iload_n C dX6_way_1 rfl 1 rfl ?_
  refine ww_iload_n C dX6_way_2 rfl 2 rfl ?_
  refine ww_calliF (cx_V (n := 2) (As := [.int (x), .int (c)]) C  (c_X6_isCorner_n (kL K) G hA _ cnt hc hc8 x hu _) gX6_way_X6_isCorner rfl ⟨rfl, rfl⟩ (by decide +kernel) (by decide) rfl (by decide) rfl rfl rfl (Nat.le_of_ble_eq_true rfl) dX6_way_3) ?_
  refine ww_if_eq 18 C dX6_way_6 (by decide) (fun h6 => ?_) (fun h6 => ?_)
  · have g6 : 0 = 0 := (cv_eq (a := 0) (b := 0) (by decide) (by decide) (by omega) (by omega)).mp h6
    refine ww_bipush (v := -2) C dX6_way_18 (by decide) ?_
    refine ww_iret C dX6_way_20 ?_
    exact ⟨rfl, fun _ _ => rfl⟩
  · have g6 : ¬ 0 = 0 := fun q => h6 ((cv_eq (a := 0) (b := 0) (by decide) (by decide) (by omega) (by omega)).mpr q)
    exact absurd g6 (by decide)
def okR (n : Nat) (S : Nat → Nat → Int32) (F : Nat → Int32) (D : Nat) : Prop := (∀ a, a < n → F a = -1 ∨ ∃ d, d ≤ D ∧ F a = nI d) ∧ ∀ a d, a < n → d < 100 → F a = nI (d + 1) → ∃ j, j < n ∧ F j = nI d ∧ 0 < S j a
theorem nI_i100 {a b : Nat} (ha : a ≤ 1000) (hb : b ≤ 1000) (h : nI a = nI b) : a = b := (nI_eq (by omega) (by omega)).mp h
theorem okR_up {n D D' : Nat} {S : Nat → Nat → Int32} {F : Nat → Int32} (hd : D ≤ D') (h : okR n S F D) : okR n S F D' := ⟨fun a ha => (h.1 a ha).elim Or.inl (fun ⟨d, h1, h2⟩ => Or.inr ⟨d, by omega, h2⟩), h.2⟩
theorem okR_s {n d k l : Nat} {S : Nat → Nat → Int32} {F : Nat → Int32} (hd : d < 100) (hk : k < n) (h : okR n S F (d + 1)) (h1 : F k = nI d) (h2 : F l = -1) (h3 : 0 < S k l) : okR n S (upd F l (nI (d + 1))) (d + 1) := by
  have hne : k ≠ l := fun e => by
    rw [e, h2] at h1
    exact nI_nm1 (n := d) (by omega) h1.symm
  refine ⟨fun a ha => ?_, fun a d2 ha hd2 e => ?_⟩
  · by_cases q : a = l
    · exact Or.inr ⟨d + 1, Nat.le_refl _, if_pos q⟩
    · rw [show upd F l (nI (d + 1)) a = F a from if_neg q]
      exact h.1 a ha
  · by_cases q : a = l
    · rw [show upd F l (nI (d + 1)) a = nI (d + 1) from if_pos q] at e
      have := nI_i100 (by omega) (by omega) e
      obtain rfl : d = d2 := by omega
      exact ⟨k, hk, by rw [show upd F l (nI (d + 1)) k = F k from if_neg hne, h1], by rw [q]; exact h3⟩
    · rw [show upd F l (nI (d + 1)) a = F a from if_neg q] at e
      obtain ⟨j, hj, e1, e2⟩ := h.2 a d2 ha hd2 e
      refine ⟨j, hj, ?_, e2⟩
      have hjl : j ≠ l := fun e9 => by
        rw [e9, h2] at e1
        exact nI_nm1 (n := d2) (by omega) e1.symm
      rw [show upd F l (nI (d + 1)) j = F j from if_neg hjl, e1]
theorem okR_in {n d k : Nat} {S : Nat → Nat → Int32} {F : Nat → Int32} (hd : d < 100) (hk : k < n) (h : okR n S F (d + 1)) : ∀ l, okR n S (rIn S d k F l) (d + 1)
  | 0 => h
  | l + 1 => by
    have hi := okR_in hd hk h l
    rw [rIn]
    split
    · rename_i q
      exact okR_s hd hk hi q.1 q.2.1 q.2.2
    · exact hi
theorem okR_mid {n d : Nat} {S : Nat → Nat → Int32} {F : Nat → Int32} (hd : d < 100) (h : okR n S F (d + 1)) : ∀ k, k ≤ n → okR n S (rMid n S d F k) (d + 1)
  | 0, _ => h
  | k + 1, hk => okR_in hd (by omega) (okR_mid hd h k (by omega)) n
theorem okR_out {n : Nat} {S : Nat → Nat → Int32} {F : Nat → Int32} (h : okR n S F 0) : ∀ d, d ≤ 100 → okR n S (rOut n S F d) d
  | 0, _ => h
  | d + 1, hd => okR_mid (by omega) (okR_up (by omega) (okR_out h d (by omega))) n (Nat.le_refl n)
theorem okR_0 {n g : Nat} {S : Nat → Nat → Int32} {D : Nat → Int32} (hn : n ≤ 14) : okR n S (mD0 14 g D) 0 := by
  refine ⟨fun a ha => ?_, fun a d ha hd e => ?_⟩
  · by_cases q : a = g
    · exact Or.inr ⟨0, Nat.le_refl 0, if_pos q⟩
    · exact Or.inl (by rw [mD0, if_neg q, if_pos (by omega)])
  · exfalso
    by_cases q : a = g
    · rw [mD0, if_pos q] at e
      have : 0 = d + 1 := nI_i100 (a := 0) (b := d + 1) (by omega) (by omega) e
      omega
    · rw [mD0, if_neg q, if_pos (by omega)] at e
      exact nI_nm1 (n := d + 1) (by omega) e.symm
theorem nI_sub1 (d : Nat) : nI (d + 1) - 1 = nI d := by
  rw [nI_succ]
  grind
set_option maxHeartbeats 4000000 in
set_option maxRecDepth 100000 in
theorem lp_X6_step_z {K : Kx} {G : Gx} (hA : wa G) (C : CX K G cX6_step 8 RX6 wsX6_step (rmd 7) (some .int)) (σ : Sg) (p n : Nat) (hp : p < 8) (hs : σ 33 0 p = nI n) (h3 : 3 ≤ n) (hn : n ≤ 14) (h fr kk c j : Nat) (e : Int32) (hh : h < n) (Q : State → Prop) (kx : WW K G 8 Q σ [(7, .int (nI j)), (6, .int (nI c)), (5, .int (nI h)), (0, .ref (gA G 30 (0))), (1, .int (nI p)), (2, .int (nI fr)), (3, .int (e)), (4, .int (nI kk))] 97 []) : ∀ (f z : Nat), n - z < f → (fndN (lnP ((sightR n (fun i => σ 34 0 (14 * p + i)) (fun i => σ 35 0 (14 * p + i))) h) (σ 36 0) (σ 36 0 h - 1)) z n = some j) → WW K G 8 Q σ [(7, .int (nI z)), (6, .int (nI c)), (5, .int (nI h)), (0, .ref (gA G 30 (0))), (1, .int (nI p)), (2, .int (nI fr)), (3, .int (e)), (4, .int (nI kk))] 60 [] := by
  intro f
  induction f with
  | zero => intro z  h; exact absurd h (Nat.not_lt_zero _)
  | succ f ih =>
    intro z  hf hv
    have hzn : z < n := by
      rcases Nat.lt_or_ge z n with q | q
      · exact q
      · rw [fndN_end q] at hv; cases hv
    refine ww_aload_n C dX6_step_60 rfl 3 rfl ?_
    refine ww_gr (j := 0) (k := 30) (f := 9) C rfl rfl (by decide) rfl in_X6_step_X6 (by decide) lk_X6_step_32 dX6_step_61 rfl ?_
    refine ww_iload C dX6_step_64 0 rfl ?_
    refine ww_iald (k := 36) (j := z) C rfl (by decide) (by decide) dX6_step_66 rfl (by omega) ?_
    refine ww_aload_n C dX6_step_67 rfl 3 rfl ?_
    refine ww_gr (j := 0) (k := 30) (f := 9) C rfl rfl (by decide) rfl in_X6_step_X6 (by decide) lk_X6_step_32 dX6_step_68 rfl ?_
    refine ww_iload C dX6_step_71 2 rfl ?_
    refine ww_iald (k := 36) (j := h) C rfl (by decide) (by decide) dX6_step_73 rfl (by omega) ?_
    refine ww_iconst (v := 1) C dX6_step_74 rfl ?_
    refine ww_isub C dX6_step_75 ?_
    refine ww_icmp_ne 91 C dX6_step_76 (by decide) (fun h76 => ?_) (fun h76 => ?_)
    · refine ww_iinc (q := 0) (fun y1 => [(7, .int (y1)), (6, .int (nI c)), (5, .int (nI h)), (0, .ref (gA G 30 (0))), (1, .int (nI p)), (2, .int (nI fr)), (3, .int (e)), (4, .int (nI kk))]) C dX6_step_91 rfl (by decide) (fun _ => rfl) (fun y1 ey1 => ?_)
      obtain rfl : y1 = nI (z + 1) := ninc rfl ey1
      refine ww_goto 60 C dX6_step_94 (by decide) ?_
      exact ww_sub [0, 1, 2, 3, 4, 5, 6, 7] rfl (ih (z + 1) (by omega) (by rw [← fndN_f hzn (ln_1 h76)]; exact hv))
    · refine ww_aload_n C dX6_step_79 rfl 3 rfl ?_
      refine ww_iload_n C dX6_step_80 rfl 4 rfl ?_
      refine ww_iload C dX6_step_81 2 rfl ?_
      refine ww_iload C dX6_step_83 0 rfl ?_
      refine ww_calliF (cx_V (n := 3) (As := [.int (nI p), .int (nI h), .int (nI z)]) C  (c_X6_sight (kL K) G hA _ p n hp hs h3 hn h z (by omega) (by omega)) gX6_step_X6_sight rfl ⟨rfl, rfl⟩ (by decide +kernel) (by decide) rfl (by decide) rfl rfl rfl (Nat.le_of_ble_eq_true rfl) dX6_step_85) ?_
      refine ww_if_ne 97 C dX6_step_88 (by decide) (fun h88 => ?_) (fun h88 => ?_)
      · have hz2 : z = j := by rw [fndN_t hzn (ln_2 h88 h76)] at hv; exact Option.some.inj hv
        subst hz2
        exact ww_sub [0, 1, 2, 3, 4, 5, 6, 7] rfl kx
      · refine ww_iinc (q := 0) (fun y2 => [(7, .int (y2)), (6, .int (nI c)), (5, .int (nI h)), (0, .ref (gA G 30 (0))), (1, .int (nI p)), (2, .int (nI fr)), (3, .int (e)), (4, .int (nI kk))]) C dX6_step_91 rfl (by decide) (fun _ => rfl) (fun y2 ey2 => ?_)
        obtain rfl : y2 = nI (z + 1) := ninc rfl ey2
        refine ww_goto 60 C dX6_step_94 (by decide) ?_
        exact ww_sub [0, 1, 2, 3, 4, 5, 6, 7] rfl (ih (z + 1) (by omega) (by rw [← fndN_f hzn (ln_0 h88)]; exact hv))
theorem fnd_ex0 {p : Nat → Bool} : ∀ (d a j : Nat), a ≤ j → j < a + d → p j = true → ∃ i, fnd p a d = some i
  | 0, a, j, h1, h2, _ => by omega
  | d + 1, a, j, h1, h2, h3 => by
    rw [fnd]
    by_cases hp : p a = true
    · exact ⟨a, if_pos hp⟩
    · rw [if_neg hp]
      have : a ≠ j := fun e => hp (by rw [e]; exact h3)
      exact fnd_ex0 d (a + 1) j (by omega) (by omega) h3
theorem fnd_ex {p : Nat → Bool} {n j : Nat} (h : j < n) (hp : p j = true) : ∃ i, fndN p 0 n = some i := fnd_ex0 n 0 j (by omega) (by omega) hp
theorem fnd_p0 {p : Nat → Bool} : ∀ (d a j : Nat), fnd p a d = some j → p j = true
  | 0, a, j, h => by cases h
  | d + 1, a, j, h => by
    rw [fnd] at h
    by_cases hp : p a = true
    · rw [if_pos hp] at h
      cases h
      exact hp
    · rw [if_neg hp] at h
      exact fnd_p0 d (a + 1) j h
theorem fnd_p {p : Nat → Bool} {a n j : Nat} (h : fndN p a n = some j) : p j = true := fnd_p0 _ _ _ h
theorem ln_D {s D : Nat → Int32} {l : Int32} {j : Nat} (h : lnP s D l j = true) : D j = l := by
  simp [lnP] at h
  exact h.2
theorem nI_sd {df c : Nat} : nI (df - c) - 1 - 1 = nI (df - (c + 1)) - 1 ∨ df ≤ c := by
  rcases Nat.lt_or_ge c df with h | h
  · left
    rw [show df - c = (df - (c + 1)) + 1 by omega, nI_sub1]
  · right
    exact h
set_option maxHeartbeats 4000000 in
set_option maxRecDepth 100000 in
theorem lp_X6_step {K : Kx} {G : Gx} (hA : wa G) (C : CX K G cX6_step 8 RX6 wsX6_step (rmd 7) (some .int)) (σ : Sg) (p n : Nat) (hp : p < 8) (hs : σ 33 0 p = nI n) (h3 : 3 ≤ n) (hn : n ≤ 14) (hsy : ∀ i j, i < n → j < n → (sightR n (fun i => σ 34 0 (14 * p + i)) (fun i => σ 35 0 (14 * p + i))) i j = (sightR n (fun i => σ 34 0 (14 * p + i)) (fun i => σ 35 0 (14 * p + i))) j i) (fr df : Nat) (hfr : fr < n) (hok : okR n (sightR n (fun i => σ 34 0 (14 * p + i)) (fun i => σ 35 0 (14 * p + i))) (σ 36 0) n) (hd : σ 36 0 fr = nI df) (hdf : df ≤ 14) (kk : Nat) (hkk : kk ≤ df) (e : Int32) : ∀ (f c : Nat) (h : Nat), kk - c < f → (c ≤ kk) → (h < n) → (σ 36 0 h = nI (df - c)) → (walkC n (sightR n (fun i => σ 34 0 (14 * p + i)) (fun i => σ 35 0 (14 * p + i))) (σ 36 0) (kk - c) (h) (nI (df - c) - 1) = walkC n (sightR n (fun i => σ 34 0 (14 * p + i)) (fun i => σ 35 0 (14 * p + i))) (σ 36 0) (kk) (fr) (nI df - 1)) → WW K G 8 (QI K G (fun r σ2 => r = walkC n (sightR n (fun i => σ 34 0 (14 * p + i)) (fun i => σ 35 0 (14 * p + i))) (σ 36 0) (kk) (fr) (nI df - 1) ∧ σ2 = σ)) σ [(6, .int (nI c)), (5, .int (nI h)), (0, .ref (gA G 30 (0))), (1, .int (nI p)), (2, .int (nI fr)), (3, .int (e)), (4, .int (nI kk))] 50 [] := by
  intro f
  induction f with
  | zero => intro c h h; exact absurd h (Nat.not_lt_zero _)
  | succ f ih =>
    intro c h hf hc hh hF hv
    refine ww_iload C dX6_step_50 0 rfl ?_
    refine ww_iload C dX6_step_52 6 rfl ?_
    refine ww_icmp_ge 107 C dX6_step_54 (by decide) (fun h54 => ?_) (fun h54 => ?_)
    · have g54 : kk ≤ c := (cv_le (a := kk) (b := c) rfl rfl (by omega) (by omega)).mp h54
      refine ww_iload C dX6_step_107 1 rfl ?_
      refine ww_iret C dX6_step_109 ?_
      exact ⟨by rw [← hv, show kk - c = 0 by omega]; rfl, rfl⟩
    · have g54 : ¬ kk ≤ c := fun q => h54 ((cv_le (a := kk) (b := c) rfl rfl (by omega) (by omega)).mpr q)
      refine ww_iconst (v := 0) C dX6_step_57 rfl ?_
      refine ww_istore (fun y1 => [(7, .int (y1)), (6, .int (nI c)), (5, .int (nI h)), (0, .ref (gA G 30 (0))), (1, .int (nI p)), (2, .int (nI fr)), (3, .int (e)), (4, .int (nI kk))]) C dX6_step_58 (by decide) (fun _ => rfl) (fun y1 ey1 => ?_)
      obtain rfl : y1 = nI 0 := (ey1.trans (by decide))
      obtain ⟨j0, hj0, ej0, sj0⟩ := hok.2 h (df - c - 1) hh (by omega) (by rw [hF, show df - c - 1 + 1 = df - c by omega])
      have hF1 : σ 36 0 h - 1 = nI (df - c - 1) := by rw [hF, show df - c = (df - c - 1) + 1 by omega, nI_sub1]; rfl
      have hP0 : (lnP ((sightR n (fun i => σ 34 0 (14 * p + i)) (fun i => σ 35 0 (14 * p + i))) h) (σ 36 0) (σ 36 0 h - 1)) j0 = true := ln_2 (by rw [hsy h j0 hh hj0]; exact fun q => absurd sj0 (by rw [q]; decide)) (by rw [hF1]; exact ej0)
      obtain ⟨j, hjq⟩ : ∃ j, fndN (lnP ((sightR n (fun i => σ 34 0 (14 * p + i)) (fun i => σ 35 0 (14 * p + i))) h) (σ 36 0) (σ 36 0 h - 1)) 0 n = some j := fnd_ex hj0 hP0
      have hjn : j < n := fnd_lt hjq
      have hPj : (lnP ((sightR n (fun i => σ 34 0 (14 * p + i)) (fun i => σ 35 0 (14 * p + i))) h) (σ 36 0) (σ 36 0 h - 1)) j = true := fnd_p hjq
      have hFj : σ 36 0 j = nI (df - (c + 1)) := (ln_D hPj).trans (by rw [hF1, Nat.sub_sub])
      refine ww_sub [0, 1, 2, 3, 4, 5, 6, 7] rfl (lp_X6_step_z hA C σ p n hp hs h3 hn h fr kk c j e hh _ ?_ (n + 1) 0 (by omega) hjq)
      refine ww_iload C dX6_step_97 0 rfl ?_
      refine ww_istore (fun y2 => [(5, .int (y2)), (7, .int (nI j)), (6, .int (nI c)), (0, .ref (gA G 30 (0))), (1, .int (nI p)), (2, .int (nI fr)), (3, .int (e)), (4, .int (nI kk))]) C dX6_step_99 (by decide) (fun _ => rfl) (fun y2 ey2 => ?_)
      rw [ey2]; clear ey2 y2
      refine ww_iinc (q := 2) (fun y3 => [(6, .int (y3)), (5, .int (nI j)), (7, .int (nI j)), (0, .ref (gA G 30 (0))), (1, .int (nI p)), (2, .int (nI fr)), (3, .int (e)), (4, .int (nI kk))]) C dX6_step_101 rfl (by decide) (fun _ => rfl) (fun y3 ey3 => ?_)
      obtain rfl : y3 = nI (c + 1) := ninc rfl ey3
      refine ww_goto 50 C dX6_step_104 (by decide) ?_
      have hsd : nI (df - c) - 1 - 1 = nI (df - (c + 1)) - 1 := nI_sd.resolve_right (by omega)
      exact ww_sub [0, 1, 3, 4, 5, 6, 7] rfl (ih (c + 1) j (by omega) (by omega) hjn hFj (by rw [← hv, show kk - c = (kk - (c + 1)) + 1 by omega, walkC_s (S := (sightR n (fun i => σ 34 0 (14 * p + i)) (fun i => σ 35 0 (14 * p + i)))) (h := h) (j := j) (by rw [← hF]; exact hjq), hsd]))
set_option maxHeartbeats 4000000 in
set_option maxRecDepth 100000 in
theorem sg_X6_step {K : Kx} {G : Gx} (hA : wa G) (C : CX K G cX6_step 8 RX6 wsX6_step (rmd 7) (some .int)) (σ : Sg) (p n : Nat) (hp : p < 8) (hs : σ 33 0 p = nI n) (h3 : 3 ≤ n) (hn : n ≤ 14) (hsy : ∀ i j, i < n → j < n → (sightR n (fun i => σ 34 0 (14 * p + i)) (fun i => σ 35 0 (14 * p + i))) i j = (sightR n (fun i => σ 34 0 (14 * p + i)) (fun i => σ 35 0 (14 * p + i))) j i) (fr : Nat) (hfr : fr < n) (hok : okR n (sightR n (fun i => σ 34 0 (14 * p + i)) (fun i => σ 35 0 (14 * p + i))) (σ 36 0) n) (e x : Int32) : WW K G 8 (QI K G (fun r σ2 => r = caR n (sightR n (fun i => σ 34 0 (14 * p + i)) (fun i => σ 35 0 (14 * p + i))) (σ 36 0) fr x ∧ σ2 = σ)) σ [(0, .ref (gA G 30 (0))), (1, .int (nI p)), (2, .int (nI fr)), (3, .int (e)), (4, .int (x))] 27 [] := by
  refine ww_iload C dX6_step_27 4 rfl ?_
  refine ww_iconst (v := 0) C dX6_step_29 rfl ?_
  refine ww_aload_n C dX6_step_30 rfl 0 rfl ?_
  refine ww_gr (j := 0) (k := 30) (f := 9) C rfl rfl (by decide) rfl in_X6_step_X6 (by decide) lk_X6_step_32 dX6_step_31 rfl ?_
  refine ww_iload_n C dX6_step_34 rfl 2 rfl ?_
  refine ww_iald (k := 36) (j := fr) C rfl (by decide) (by decide) dX6_step_35 rfl (by omega) ?_
  refine ww_calliF (cx_S (n := 3) (As := [.int (x), .int (0), .int (σ 36 (0) (fr))]) C  (c_X6_within (kL K) G hA _ _ _ _) gX6_step_X6_within rfl ⟨rfl, rfl⟩ (by decide +kernel) (by decide) rfl rfl (Nat.le_of_ble_eq_true rfl) dX6_step_36) ?_
  refine ww_if_ne 44 C dX6_step_39 (by decide) (fun h39 => ?_) (fun h39 => ?_)
  · have hq := of_decide_eq_true (bI_1.mp h39)
    obtain ⟨df, hdf, hd⟩ : ∃ d, d ≤ 14 ∧ σ 36 0 fr = nI d := by
      rcases hok.1 fr hfr with h | ⟨d, h1, h2⟩
      · rw [h] at hq; exact absurd (Int32.le_trans hq.1 hq.2) (by decide)
      · exact ⟨d, by omega, h2⟩
    obtain ⟨kk, hkk, rfl⟩ : ∃ j, j ≤ df ∧ x = nI j := by
      obtain ⟨j, hj, e⟩ := nI_of (Int32.not_lt.mpr hq.1)
      subst e
      have h9 := hq.2
      rw [hd] at h9
      exact ⟨j, (nI_leI (by omega) (by omega)).mp h9, rfl⟩
    refine ww_iload_n C dX6_step_44 rfl 2 rfl ?_
    refine ww_istore (fun y1 => [(5, .int (y1)), (0, .ref (gA G 30 (0))), (1, .int (nI p)), (2, .int (nI fr)), (3, .int (e)), (4, .int (nI kk))]) C dX6_step_45 (by decide) (fun _ => rfl) (fun y1 ey1 => ?_)
    obtain rfl : y1 = nI fr := ey1
    refine ww_iconst (v := 0) C dX6_step_47 rfl ?_
    refine ww_istore (fun y2 => [(6, .int (y2)), (5, .int (nI fr)), (0, .ref (gA G 30 (0))), (1, .int (nI p)), (2, .int (nI fr)), (3, .int (e)), (4, .int (nI kk))]) C dX6_step_48 (by decide) (fun _ => rfl) (fun y2 ey2 => ?_)
    obtain rfl : y2 = nI 0 := (ey2.trans (by decide))
    exact ww_sub [0, 1, 2, 3, 4, 5, 6] rfl (ww_q2 (fun r σ2 q => ⟨q.1.trans (by rw [caR, if_pos ⟨nI_pos' (by omega), by rw [hd]; exact nI_le hkk (by omega)⟩, nI_clamp (by omega), hd]), q.2⟩) (lp_X6_step hA C σ p n hp hs h3 hn hsy fr df hfr hok hd hdf kk hkk e (kk + 1) 0 fr (by omega) (by omega) hfr hd rfl))
  · refine ww_iconst (v := -1) C dX6_step_42 rfl ?_
    refine ww_iret C dX6_step_43 ?_
    exact ⟨by rw [caR, if_neg (of_decide_eq_false (bI_0.mp h39))], rfl⟩
set_option maxHeartbeats 4000000 in
set_option maxRecDepth 100000 in
theorem c_X6_step_s (l : Launch) (G : Gx) (hA : wa G) (σ : Sg) (cnt p n : Nat) (hc : σ 30 0 3 = nI cnt) (hc8 : cnt ≤ 8) (hpc : p < cnt) (hp : p < 8) (hs : σ 33 0 p = nI n) (h3 : 3 ≤ n) (hn : n ≤ 14) (hsy : ∀ i j, i < n → j < n → (sightR n (fun i => σ 34 0 (14 * p + i)) (fun i => σ 35 0 (14 * p + i))) i j = (sightR n (fun i => σ 34 0 (14 * p + i)) (fun i => σ 35 0 (14 * p + i))) j i) (c e x : Int32) : CtI l yX6_step wsX6_step (rmd 7) G [.ref (gA G 30 (0)), .int (nI p), .int (c), .int (e), .int (x)] σ (fun r σ2 => r = pairR n c e (fun a b => caR n (sightR n (fun i => σ 34 0 (14 * p + i)) (fun i => σ 35 0 (14 * p + i))) (rOut n (sightR n (fun i => σ 34 0 (14 * p + i)) (fun i => σ 35 0 (14 * p + i))) (mD0 14 b (σ 36 0)) n) a x) ∧ ∀ k, k ≠ 36 → σ2 k = σ k) := by
  refine ct_i (maxL := 8) (ret := (some .int)) (by decide) rfl (Nat.le_of_ble_eq_true rfl) hA (fun K hl C => ?_)
  subst hl
  change WW K G _ _ σ [(0, .ref (gA G 30 (0))), (1, .int (nI p)), (2, .int (c)), (3, .int (e)), (4, .int (x))] 0 []
  refine ww_aload_n C dX6_step_0 rfl 0 rfl ?_
  refine ww_iload_n C dX6_step_1 rfl 1 rfl ?_
  refine ww_iload_n C dX6_step_2 rfl 2 rfl ?_
  refine ww_calliF (cx_V (n := 2) (As := [.int (nI p), .int (c)]) C  (c_X6_isCorner_s (kL K) G hA _ cnt p n hc hc8 hpc hp hs h3 hn _) gX6_step_X6_isCorner rfl ⟨rfl, rfl⟩ (by decide +kernel) (by decide) rfl (by decide) rfl rfl rfl (Nat.le_of_ble_eq_true rfl) dX6_step_3) ?_
  refine ww_if_eq 18 C dX6_step_6 (by decide) (fun h6 => ?_) (fun h6 => ?_)
  · refine ww_bipush (v := -2) C dX6_step_18 (by decide) ?_
    refine ww_iret C dX6_step_20 ?_
    exact ⟨by rw [pair_f1 h6], fun _ _ => rfl⟩
  · obtain ⟨i, hi, rfl⟩ := ix_of (of_decide_eq_true (bI_1.mp h6)) hn
    refine ww_aload_n C dX6_step_9 rfl 0 rfl ?_
    refine ww_iload_n C dX6_step_10 rfl 1 rfl ?_
    refine ww_iload_n C dX6_step_11 rfl 3 rfl ?_
    refine ww_calliF (cx_V (n := 2) (As := [.int (nI p), .int (e)]) C  (c_X6_isCorner_s (kL K) G hA _ cnt p n hc hc8 hpc hp hs h3 hn _) gX6_step_X6_isCorner rfl ⟨rfl, rfl⟩ (by decide +kernel) (by decide) rfl (by decide) rfl rfl rfl (Nat.le_of_ble_eq_true rfl) dX6_step_12) ?_
    refine ww_if_ne 21 C dX6_step_15 (by decide) (fun h15 => ?_) (fun h15 => ?_)
    · obtain ⟨j, hj, rfl⟩ := ix_of (of_decide_eq_true (bI_1.mp h15)) hn
      refine ww_aload_n C dX6_step_21 rfl 0 rfl ?_
      refine ww_iload_n C dX6_step_22 rfl 1 rfl ?_
      refine ww_iload_n C dX6_step_23 rfl 3 rfl ?_
      refine ww_callvF (cx_V (n := 2) (As := [.int (nI p), .int (nI j)]) C  (c_X6_findFar (kL K) G hA _ p n hp hs h3 hn j (by omega)) gX6_step_X6_findFar rfl ⟨rfl, rfl⟩ (by decide +kernel) (by decide) rfl (by decide) rfl rfl rfl (Nat.le_of_ble_eq_true rfl) dX6_step_24) ?_
      obtain ⟨σ1, hσ1⟩ : ∃ z : Sg, z = (sgr σ 36 0 (rOut n (sightR n (fun i => σ 34 0 (14 * p + i)) (fun i => σ 35 0 (14 * p + i))) (mD0 14 j (σ 36 0)) n)) := ⟨_, rfl⟩
      rw [← hσ1]
      have hs1 : σ1 33 0 p = nI n := by rw [hσ1, sgr_kk (by decide)]; exact hs
      have e34 : σ1 34 = σ 34 := by rw [hσ1, sgr_kk (by decide)]
      have e35 : σ1 35 = σ 35 := by rw [hσ1, sgr_kk (by decide)]
      have hsy1 : ∀ i j, i < n → j < n → (sightR n (fun i => σ1 34 0 (14 * p + i)) (fun i => σ1 35 0 (14 * p + i))) i j = (sightR n (fun i => σ1 34 0 (14 * p + i)) (fun i => σ1 35 0 (14 * p + i))) j i := by rw [e34, e35]; exact hsy
      have hok : okR n (sightR n (fun i => σ1 34 0 (14 * p + i)) (fun i => σ1 35 0 (14 * p + i))) (σ1 36 0) n := by rw [e34, e35, hσ1, sgr_self]; exact okR_out (okR_0 hn) n (by omega)
      refine ww_sub [0, 1, 2, 3, 4] rfl (ww_q2 (fun r σ2 q => ⟨q.1.trans ?_, fun k hk => ?_⟩) (sg_X6_step hA C σ1 p n hp hs1 h3 hn hsy1 i hi hok (nI j) x))
      · rw [q.2, hσ1, sgr_kk hk]
      · rw [pair_t hi hj hn, e34, e35, hσ1, sgr_self]
    · refine ww_bipush (v := -2) C dX6_step_18 (by decide) ?_
      refine ww_iret C dX6_step_20 ?_
      exact ⟨by rw [pair_f2 hi hn h15], fun _ _ => rfl⟩
set_option maxHeartbeats 4000000 in
set_option maxRecDepth 100000 in
theorem c_X6_step_n (l : Launch) (G : Gx) (hA : wa G) (σ : Sg) (cnt : Nat) (hc : σ 30 0 3 = nI cnt) (hc8 : cnt ≤ 8) (x : Int32) (hu : ¬ (0 ≤ x ∧ x < nI cnt)) (c e w : Int32) : CtI l yX6_step wsX6_step (rmd 7) G [.ref (gA G 30 (0)), .int (x), .int (c), .int (e), .int (w)] σ (fun r σ2 => r = -2 ∧ ∀ k, k ≠ 36 → σ2 k = σ k) := by
  refine ct_i (maxL := 8) (ret := (some .int)) (by decide) rfl (Nat.le_of_ble_eq_true rfl) hA (fun K hl C => ?_)
  subst hl
  change WW K G _ _ σ [(0, .ref (gA G 30 (0))), (1, .int (x)), (2, .int (c)), (3, .int (e)), (4, .int (w))] 0 []
  refine ww_aload_n C dX6_step_0 rfl 0 rfl ?_
  refine ww_iload_n C dX6_step_1 rfl 1 rfl ?_
  refine ww_iload_n C dX6_step_2 rfl 2 rfl ?_
  refine ww_calliF (cx_V (n := 2) (As := [.int (x), .int (c)]) C  (c_X6_isCorner_n (kL K) G hA _ cnt hc hc8 x hu _) gX6_step_X6_isCorner rfl ⟨rfl, rfl⟩ (by decide +kernel) (by decide) rfl (by decide) rfl rfl rfl (Nat.le_of_ble_eq_true rfl) dX6_step_3) ?_
  refine ww_if_eq 18 C dX6_step_6 (by decide) (fun h6 => ?_) (fun h6 => ?_)
  · have g6 : 0 = 0 := (cv_eq (a := 0) (b := 0) (by decide) (by decide) (by omega) (by omega)).mp h6
    refine ww_bipush (v := -2) C dX6_step_18 (by decide) ?_
    refine ww_iret C dX6_step_20 ?_
    exact ⟨rfl, fun _ _ => rfl⟩
  · have g6 : ¬ 0 = 0 := fun q => h6 ((cv_eq (a := 0) (b := 0) (by decide) (by decide) (by omega) (by omega)).mpr q)
    exact absurd g6 (by decide)
