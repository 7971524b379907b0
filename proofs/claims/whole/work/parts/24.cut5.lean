theorem in_X2_nameTriangles_X3 : ∀ w ∈ wsX30, w ∈ wsX2_nameTriangles := by decide +kernel
theorem lk_X2_nameTriangles_67 : Cond.fieldLink RX2 67 "PolyCuts$Shape" "triangleFrom" "[I" ∈ wsX2_nameTriangles := by decide +kernel
theorem lk_X2_nameTriangles_71 : Cond.fieldLink RX2 71 "PolyCuts$Shape" "triangleTo" "[I" ∈ wsX2_nameTriangles := by decide +kernel
theorem in_X2_nameTriangles_X2 : ∀ w ∈ wsX20, w ∈ wsX2_nameTriangles := by decide +kernel
theorem lk_X2_nameTriangles_19 : Cond.fieldLink RX2 19 "PolyCuts$Cutter" "third" "[[I" ∈ wsX2_nameTriangles := by decide +kernel
theorem lk_X2_nameTriangles_78 : Cond.fieldLink RX2 78 "PolyCuts$Shape" "triangleThird" "[I" ∈ wsX2_nameTriangles := by decide +kernel
theorem lk_X2_nameTriangles_25 : Cond.fieldLink RX2 25 "PolyCuts$Shape" "corners" "LPolyCuts$Corners;" ∈ wsX2_nameTriangles := by decide +kernel
theorem in_X2_nameTriangles_X1 : ∀ w ∈ wsX10, w ∈ wsX2_nameTriangles := by decide +kernel
theorem lk_X2_nameTriangles_31 : Cond.fieldLink RX2 31 "PolyCuts$Corners" "size" "I" ∈ wsX2_nameTriangles := by decide +kernel
theorem c_nmS (l : Launch) (G : Gx) (hA : wa G) (σ : Sg) (p n : Nat) (hp : p < 8) (hs : σ 14 (p + 1) 2 = nI n) (hn : n ≤ 14) (t a b : Nat) (ht0 : 0 < t) (ht : t < n - 2) : CtV l yX2_nameSpan wsX2_nameSpan (rmd 2) G [.ref (gA G 17 p), .int (nI t), .int (nI a), .int (nI b)] σ (fun σ2 => σ2 = nmS σ p t a b) := c_X2_nameSpan l G hA σ p n hp hs hn t a b ht0 ht
theorem nt_ne {σ τ : Sg} {p n : Nat} {T : Nat → Nat → Nat} {t : Nat} {ps : List (Nat × Nat)} (hT : okT T n) (h3 : 3 ≤ n) (ht : t < n - 2) (h : NT σ τ p n T t ps) : ∃ i j r, ps = (i, j) :: r := by
  cases ps with
  | nil =>
    exfalso
    have e := congrArg List.length h.2.2.2.1
    rw [List.length_drop, trl_len hT n 0 (n - 1) (by omega) (by omega)] at e
    simp at e
    omega
  | cons s r => exact ⟨s.1, s.2, r, rfl⟩
theorem nt_b {σ τ : Sg} {p n : Nat} {T : Nat → Nat → Nat} {t i j : Nat} {r : List (Nat × Nat)} (hT : okT T n) (h3 : 3 ≤ n) (h : NT σ τ p n T t ((i, j) :: r)) : j - i - 1 ≤ n - 2 - t := by
  have e := congrArg List.length h.2.2.2.1
  obtain ⟨q1, q2⟩ := h.2.2.2.2.2 (i, j) List.mem_cons_self
  have q2 : j < n := q2
  rw [List.length_drop, trl_len hT n 0 (n - 1) (by omega) (by omega), List.flatMap_cons, List.length_append, spl, trl_len hT n i j q2 (by omega)] at e
  omega
theorem nt_0 {σ τ : Sg} {p n : Nat} {T : Nat → Nat → Nat} (h3 : 3 ≤ n) (e : τ = nmS σ p 0 0 (n - 1)) : ∃ ps, NT σ τ p n T 0 ps := by
  refine ⟨[(0, n - 1)], fun k hk => by rw [e, nmS_k ⟨hk.1, hk.2.2⟩], fun k i hi => by rw [e, nmS_i hi], fun t' q ht => absurd ht (Nat.not_lt_zero _), ?_, ⟨?_, ?_, trivial⟩, fun s hs => ?_⟩
  · rw [List.drop_zero, List.flatMap_cons, List.flatMap_nil, List.append_nil]; rfl
  · rw [e, nmS_20]
  · rw [e, nmS_22]
  · rw [List.mem_singleton.mp hs]
    exact ⟨by show 0 + 2 ≤ n - 1; omega, by show n - 1 < n; omega⟩
/-- the triangles are named -/
def NTe (σ τ : Sg) (p n : Nat) (T : Nat → Nat → Nat) : Prop := (∀ k, k ≠ 20 ∧ k ≠ 21 ∧ k ≠ 22 → τ k = σ k) ∧ (∀ k i, i ≠ p → τ k i = σ k i) ∧ ∀ t q, (trl T n 0 (n - 1))[t]? = some q → tri9 τ p t q
theorem nt_e {σ τ : Sg} {p n : Nat} {T : Nat → Nat → Nat} {t : Nat} (hT : okT T n) (h3 : 3 ≤ n) (ht : n - 2 ≤ t) (h : ∃ ps, NT σ τ p n T t ps) : NTe σ τ p n T := by
  obtain ⟨ps, h1, h2, h4, -⟩ := h
  refine ⟨h1, h2, fun t' q hq => h4 t' q ?_ hq⟩
  have := (List.getElem?_eq_some_iff.mp hq).1
  rw [trl_len hT n 0 (n - 1) (by omega) (by omega)] at this
  omega
set_option maxHeartbeats 4000000 in
set_option maxRecDepth 100000 in
theorem lp_X2_nameTriangles {K : Kx} {G : Gx} (hA : wa G) (C : CX K G cX2_nameTriangles 6 RX2 wsX2_nameTriangles (rmd 3) none) (σ : Sg) (p n : Nat) (hp : p < 8) (hs : σ 14 (p + 1) 2 = nI n) (hn : n ≤ 14) (h3 : 3 ≤ n) (T : Nat → Nat → Nat) (hT : okT T n) (hTm : ∀ i j, i + 2 ≤ j → j < n → σ 11 i j = nI (T i j)) : ∀ (f t : Nat) (τ : Sg), (n - 2) - t < f → (t ≤ n - 2) → (∃ ps, NT σ τ p n T t ps) → WW K G 6 (QV K G (fun σ2 => NTe σ σ2 p n T)) τ [(2, .int (nI t)), (0, .ref (gA G 4 (0))), (1, .ref (gA G 17 (p)))] 24 [] := by
  intro f
  induction f with
  | zero => intro t τ h; exact absurd h (Nat.not_lt_zero _)
  | succ f ih =>
    intro t τ hf ht hk
    obtain ⟨ps, hN⟩ := id hk
    have hst : τ 14 (p + 1) 2 = nI n := by rw [hN.1 14 (by decide)]; exact hs
    refine ww_iload_n C dX2_nameTriangles_24 rfl 0 rfl ?_
    refine ww_aload_n C dX2_nameTriangles_25 rfl 2 rfl ?_
    refine ww_calliF (cx_V (n := 0) (As := []) C  (c_X3_triangleCount (kL K) G hA _ p n hp hst hn) gX2_nameTriangles_X3_triangleCount rfl ⟨rfl, rfl⟩ (by decide +kernel) (by decide) rfl hp rfl rfl rfl (Nat.le_of_ble_eq_true rfl) dX2_nameTriangles_26) ?_
    refine ww_icmp_ge 113 C dX2_nameTriangles_29 (by decide) (fun h29 => ?_) (fun h29 => ?_)
    · have g29 : n - 2 ≤ t := (cv_le (a := n - 2) (b := t) (pk_sub (a := n) (b := 2) (by omega)) rfl (by omega) (by omega)).mp h29
      refine ww_vret C dX2_nameTriangles_113 ?_
      exact nt_e hT h3 (by omega) hk
    · have g29 : ¬ n - 2 ≤ t := fun q => h29 ((cv_le (a := n - 2) (b := t) (pk_sub (a := n) (b := 2) (by omega)) rfl (by omega) (by omega)).mpr q)
      obtain ⟨i, j, r, rfl⟩ := nt_ne hT h3 (by omega) hN
      obtain ⟨hfr, hto, -⟩ := hN.2.2.2.2.1
      obtain ⟨hij, hjn⟩ := hN.2.2.2.2.2 (i, j) List.mem_cons_self
      have hij : i + 2 ≤ j := hij
      have hjn : j < n := hjn
      have hfr : τ 20 p t = nI i := hfr
      have hto : τ 22 p t = nI j := hto
      obtain ⟨hk1, hk2⟩ := hT i j hij hjn
      have hbb := nt_b hT h3 hN
      have hth : τ 11 i j = nI (T i j) := by rw [hN.1 11 (by decide)]; exact hTm i j hij hjn
      refine ww_aload_n C dX2_nameTriangles_32 rfl 2 rfl ?_
      refine ww_gr (j := p) (k := 17) (f := 6) C rfl rfl hp rfl in_X2_nameTriangles_X3 (by decide) lk_X2_nameTriangles_67 dX2_nameTriangles_33 rfl ?_
      refine ww_iload_n C dX2_nameTriangles_36 rfl 0 rfl ?_
      refine ww_iald (k := 20) (j := t) C rfl hp (by decide) dX2_nameTriangles_37 rfl (by omega) ?_
      refine ww_istore_n (fun y1 => [(3, .int (y1)), (2, .int (nI t)), (0, .ref (gA G 4 (0))), (1, .ref (gA G 17 (p)))]) C dX2_nameTriangles_38 rfl (by decide) (fun _ => rfl) (fun y1 ey1 => ?_)
      obtain rfl : y1 = nI i := (ey1.trans hfr)
      refine ww_aload_n C dX2_nameTriangles_39 rfl 3 rfl ?_
      refine ww_gr (j := p) (k := 17) (f := 8) C rfl rfl hp rfl in_X2_nameTriangles_X3 (by decide) lk_X2_nameTriangles_71 dX2_nameTriangles_40 rfl ?_
      refine ww_iload_n C dX2_nameTriangles_43 rfl 1 rfl ?_
      refine ww_iald (k := 22) (j := t) C rfl hp (by decide) dX2_nameTriangles_44 rfl (by omega) ?_
      refine ww_istore (fun y2 => [(4, .int (y2)), (3, .int (nI i)), (2, .int (nI t)), (0, .ref (gA G 4 (0))), (1, .ref (gA G 17 (p)))]) C dX2_nameTriangles_45 (by decide) (fun _ => rfl) (fun y2 ey2 => ?_)
      obtain rfl : y2 = nI j := (ey2.trans hto)
      refine ww_aload_n C dX2_nameTriangles_47 rfl 3 rfl ?_
      refine ww_gr (j := 0) (k := 4) (f := 2) C rfl rfl (by decide) rfl in_X2_nameTriangles_X2 (by decide) lk_X2_nameTriangles_19 dX2_nameTriangles_48 rfl ?_
      refine ww_iload_n C dX2_nameTriangles_51 rfl 1 rfl ?_
      refine ww_aald (k := 7) (j := i) (j' := i) C rfl (by decide) (by decide) (by decide) dX2_nameTriangles_52 rfl (by omega) rfl ?_
      refine ww_iload C dX2_nameTriangles_53 0 rfl ?_
      refine ww_iald (k := 11) (j := j) C rfl (show i < 14 from (by omega)) (by decide) dX2_nameTriangles_55 rfl (by omega) ?_
      refine ww_istore (fun y3 => [(5, .int (y3)), (4, .int (nI j)), (3, .int (nI i)), (2, .int (nI t)), (0, .ref (gA G 4 (0))), (1, .ref (gA G 17 (p)))]) C dX2_nameTriangles_56 (by decide) (fun _ => rfl) (fun y3 ey3 => ?_)
      obtain rfl : y3 = nI (T i j) := (ey3.trans hth)
      refine ww_aload_n C dX2_nameTriangles_58 rfl 5 rfl ?_
      refine ww_gr (j := p) (k := 17) (f := 7) C rfl rfl hp rfl in_X2_nameTriangles_X3 (by decide) lk_X2_nameTriangles_78 dX2_nameTriangles_59 rfl ?_
      refine ww_iload_n C dX2_nameTriangles_62 rfl 3 rfl ?_
      refine ww_iload C dX2_nameTriangles_63 0 rfl ?_
      refine ww_iast (k := 21) (j := t) C rfl hp (by decide) dX2_nameTriangles_65 rfl (by omega) ?_
      obtain ⟨σ4, hσ4⟩ : ∃ z : Sg, z = (sgu τ 21 (p) (t) (nI (T i j))) := ⟨_, rfl⟩
      rw [← hσ4]
      refine ww_iload C dX2_nameTriangles_66 0 rfl ?_
      refine ww_iload_n C dX2_nameTriangles_68 rfl 2 rfl ?_
      refine ww_isub C dX2_nameTriangles_69 ?_
      rw [show (nI (T i j)) - (nI i) = nI (T i j - i) from pk_sub (by omega)]
      refine ww_iconst (v := 1) C dX2_nameTriangles_70 rfl ?_
      refine ww_icmp_le 84 C dX2_nameTriangles_71 (by decide) (fun h71 => ?_) (fun h71 => ?_)
      · have g71 : T i j - i ≤ 1 := (cv_le (a := T i j - i) (b := 1) rfl (by decide) (by omega) (by omega)).mp h71
        refine ww_iload C dX2_nameTriangles_84 1 rfl ?_
        refine ww_iload C dX2_nameTriangles_86 0 rfl ?_
        refine ww_isub C dX2_nameTriangles_88 ?_
        rw [show (nI j) - (nI (T i j)) = nI (j - T i j) from pk_sub (by omega)]
        refine ww_iconst (v := 1) C dX2_nameTriangles_89 rfl ?_
        refine ww_icmp_le 107 C dX2_nameTriangles_90 (by decide) (fun h90 => ?_) (fun h90 => ?_)
        · have g90 : j - T i j ≤ 1 := (cv_le (a := j - T i j) (b := 1) rfl (by decide) (by omega) (by omega)).mp h90
          refine ww_iinc (q := 3) (fun y5 => [(2, .int (y5)), (5, .int (nI (T i j))), (4, .int (nI j)), (3, .int (nI i)), (0, .ref (gA G 4 (0))), (1, .ref (gA G 17 (p)))]) C dX2_nameTriangles_107 rfl (by decide) (fun _ => rfl) (fun y5 ey5 => ?_)
          obtain rfl : y5 = nI (t + 1) := ninc rfl ey5
          refine ww_goto 24 C dX2_nameTriangles_110 (by decide) ?_
          exact ww_sub [0, 4, 5] rfl (ih (t + 1) _ (by omega) (by omega) (nt_s hT hN hσ4 (Or.inr ⟨by omega, rfl⟩) (Or.inr ⟨by omega, rfl⟩)))
        · have g90 : ¬ j - T i j ≤ 1 := fun q => h90 ((cv_le (a := j - T i j) (b := 1) rfl (by decide) (by omega) (by omega)).mpr q)
          refine ww_aload_n C dX2_nameTriangles_93 rfl 5 rfl ?_
          refine ww_iload_n C dX2_nameTriangles_94 rfl 3 rfl ?_
          refine ww_iload C dX2_nameTriangles_95 0 rfl ?_
          refine ww_iadd C dX2_nameTriangles_97 ?_
          rw [show (nI t) + (nI (T i j)) = nI (t + T i j) from nI_add (t) (T i j)]
          refine ww_iload_n C dX2_nameTriangles_98 rfl 2 rfl ?_
          refine ww_isub C dX2_nameTriangles_99 ?_
          rw [show (nI (t + T i j)) - (nI i) = nI (t + T i j - i) from pk_sub (by omega)]
          refine ww_iload C dX2_nameTriangles_100 0 rfl ?_
          refine ww_iload C dX2_nameTriangles_102 1 rfl ?_
          refine ww_callvF (cx_S (n := 4) (As := [.ref (gA G 17 (p)), .int (nI (t + T i j - i)), .int (nI (T i j)), .int (nI j)]) C  (c_nmS (kL K) G hA _ p n hp (by rw [hσ4, sgu_kk (by decide)]; exact hst) hn (t + T i j - i) (T i j) j (by omega) (by omega)) gX2_nameTriangles_X2_nameSpan rfl ⟨rfl, rfl⟩ (by decide +kernel) (by decide) rfl rfl (Nat.le_of_ble_eq_true rfl) dX2_nameTriangles_104) ?_
          obtain ⟨σ6, hσ6⟩ : ∃ z : Sg, z = (nmS σ4 p (t + T i j - i) (T i j) j) := ⟨_, rfl⟩
          rw [← hσ6]
          refine ww_iinc (q := 3) (fun y7 => [(2, .int (y7)), (5, .int (nI (T i j))), (4, .int (nI j)), (3, .int (nI i)), (0, .ref (gA G 4 (0))), (1, .ref (gA G 17 (p)))]) C dX2_nameTriangles_107 rfl (by decide) (fun _ => rfl) (fun y7 ey7 => ?_)
          obtain rfl : y7 = nI (t + 1) := ninc rfl ey7
          refine ww_goto 24 C dX2_nameTriangles_110 (by decide) ?_
          exact ww_sub [0, 4, 5] rfl (ih (t + 1) _ (by omega) (by omega) (nt_s hT hN hσ4 (Or.inr ⟨by omega, rfl⟩) (Or.inl ⟨by omega, hσ6⟩)))
      · have g71 : ¬ T i j - i ≤ 1 := fun q => h71 ((cv_le (a := T i j - i) (b := 1) rfl (by decide) (by omega) (by omega)).mpr q)
        refine ww_aload_n C dX2_nameTriangles_74 rfl 5 rfl ?_
        refine ww_iload_n C dX2_nameTriangles_75 rfl 3 rfl ?_
        refine ww_iconst (v := 1) C dX2_nameTriangles_76 rfl ?_
        refine ww_iadd C dX2_nameTriangles_77 ?_
        rw [show (nI t) + (1) = nI (t + 1) from nI_add (t) (1)]
        refine ww_iload_n C dX2_nameTriangles_78 rfl 2 rfl ?_
        refine ww_iload C dX2_nameTriangles_79 0 rfl ?_
        refine ww_callvF (cx_S (n := 4) (As := [.ref (gA G 17 (p)), .int (nI (t + 1)), .int (nI i), .int (nI (T i j))]) C  (c_nmS (kL K) G hA _ p n hp (by rw [hσ4, sgu_kk (by decide)]; exact hst) hn (t + 1) i (T i j) (by omega) (by omega)) gX2_nameTriangles_X2_nameSpan rfl ⟨rfl, rfl⟩ (by decide +kernel) (by decide) rfl rfl (Nat.le_of_ble_eq_true rfl) dX2_nameTriangles_81) ?_
        obtain ⟨σ8, hσ8⟩ : ∃ z : Sg, z = (nmS σ4 p (t + 1) i (T i j)) := ⟨_, rfl⟩
        rw [← hσ8]
        refine ww_iload C dX2_nameTriangles_84 1 rfl ?_
        refine ww_iload C dX2_nameTriangles_86 0 rfl ?_
        refine ww_isub C dX2_nameTriangles_88 ?_
        rw [show (nI j) - (nI (T i j)) = nI (j - T i j) from pk_sub (by omega)]
        refine ww_iconst (v := 1) C dX2_nameTriangles_89 rfl ?_
        refine ww_icmp_le 107 C dX2_nameTriangles_90 (by decide) (fun h90 => ?_) (fun h90 => ?_)
        · have g90 : j - T i j ≤ 1 := (cv_le (a := j - T i j) (b := 1) rfl (by decide) (by omega) (by omega)).mp h90
          refine ww_iinc (q := 3) (fun y9 => [(2, .int (y9)), (5, .int (nI (T i j))), (4, .int (nI j)), (3, .int (nI i)), (0, .ref (gA G 4 (0))), (1, .ref (gA G 17 (p)))]) C dX2_nameTriangles_107 rfl (by decide) (fun _ => rfl) (fun y9 ey9 => ?_)
          obtain rfl : y9 = nI (t + 1) := ninc rfl ey9
          refine ww_goto 24 C dX2_nameTriangles_110 (by decide) ?_
          exact ww_sub [0, 4, 5] rfl (ih (t + 1) _ (by omega) (by omega) (nt_s hT hN hσ4 (Or.inl ⟨by omega, hσ8⟩) (Or.inr ⟨by omega, rfl⟩)))
        · have g90 : ¬ j - T i j ≤ 1 := fun q => h90 ((cv_le (a := j - T i j) (b := 1) rfl (by decide) (by omega) (by omega)).mpr q)
          refine ww_aload_n C dX2_nameTriangles_93 rfl 5 rfl ?_
          refine ww_iload_n C dX2_nameTriangles_94 rfl 3 rfl ?_
          refine ww_iload C dX2_nameTriangles_95 0 rfl ?_
          refine ww_iadd C dX2_nameTriangles_97 ?_
          rw [show (nI t) + (nI (T i j)) = nI (t + T i j) from nI_add (t) (T i j)]
          refine ww_iload_n C dX2_nameTriangles_98 rfl 2 rfl ?_
          refine ww_isub C dX2_nameTriangles_99 ?_
          rw [show (nI (t + T i j)) - (nI i) = nI (t + T i j - i) from pk_sub (by omega)]
          refine ww_iload C dX2_nameTriangles_100 0 rfl ?_
          refine ww_iload C dX2_nameTriangles_102 1 rfl ?_
          refine ww_callvF (cx_S (n := 4) (As := [.ref (gA G 17 (p)), .int (nI (t + T i j - i)), .int (nI (T i j)), .int (nI j)]) C  (c_nmS (kL K) G hA _ p n hp (by rw [hσ8, nmS_k (by decide), hσ4, sgu_kk (by decide)]; exact hst) hn (t + T i j - i) (T i j) j (by omega) (by omega)) gX2_nameTriangles_X2_nameSpan rfl ⟨rfl, rfl⟩ (by decide +kernel) (by decide) rfl rfl (Nat.le_of_ble_eq_true rfl) dX2_nameTriangles_104) ?_
          obtain ⟨σ10, hσ10⟩ : ∃ z : Sg, z = (nmS σ8 p (t + T i j - i) (T i j) j) := ⟨_, rfl⟩
          rw [← hσ10]
          refine ww_iinc (q := 3) (fun y11 => [(2, .int (y11)), (5, .int (nI (T i j))), (4, .int (nI j)), (3, .int (nI i)), (0, .ref (gA G 4 (0))), (1, .ref (gA G 17 (p)))]) C dX2_nameTriangles_107 rfl (by decide) (fun _ => rfl) (fun y11 ey11 => ?_)
          obtain rfl : y11 = nI (t + 1) := ninc rfl ey11
          refine ww_goto 24 C dX2_nameTriangles_110 (by decide) ?_
          exact ww_sub [0, 4, 5] rfl (ih (t + 1) _ (by omega) (by omega) (nt_s hT hN hσ4 (Or.inl ⟨by omega, hσ8⟩) (Or.inl ⟨by omega, hσ10⟩)))
set_option maxHeartbeats 4000000 in
set_option maxRecDepth 100000 in
theorem c_X2_nameTriangles (l : Launch) (G : Gx) (hA : wa G) (σ : Sg) (p n : Nat) (hp : p < 8) (hs : σ 14 (p + 1) 2 = nI n) (hn : n ≤ 14) (h3 : 3 ≤ n) (T : Nat → Nat → Nat) (hT : okT T n) (hTm : ∀ i j, i + 2 ≤ j → j < n → σ 11 i j = nI (T i j)) : CtV l yX2_nameTriangles wsX2_nameTriangles (rmd 3) G [.ref (gA G 4 (0)), .ref (gA G 17 (p))] σ (fun σ2 => NTe σ σ2 p n T) := by
  refine ct_v (maxL := 6) (ret := none) (by decide) rfl (Nat.le_of_ble_eq_true rfl) hA (fun K hl C => ?_)
  subst hl
  change WW K G _ _ σ [(0, .ref (gA G 4 (0))), (1, .ref (gA G 17 (p)))] 0 []
  refine ww_aload_n C dX2_nameTriangles_0 rfl 1 rfl ?_
  refine ww_gr (j := p) (k := 17) (f := 6) C rfl rfl hp rfl in_X2_nameTriangles_X3 (by decide) lk_X2_nameTriangles_67 dX2_nameTriangles_1 rfl ?_
  refine ww_iconst (v := 0) C dX2_nameTriangles_4 rfl ?_
  refine ww_iconst (v := 0) C dX2_nameTriangles_5 rfl ?_
  refine ww_iast (k := 20) (j := 0) C rfl hp (by decide) dX2_nameTriangles_6 (by decide) (by decide) ?_
  obtain ⟨σ1, hσ1⟩ : ∃ z : Sg, z = (sgu σ 20 (p) (0) (0)) := ⟨_, rfl⟩
  rw [← hσ1]
  refine ww_aload_n C dX2_nameTriangles_7 rfl 1 rfl ?_
  refine ww_gr (j := p) (k := 17) (f := 8) C rfl rfl hp rfl in_X2_nameTriangles_X3 (by decide) lk_X2_nameTriangles_71 dX2_nameTriangles_8 rfl ?_
  refine ww_iconst (v := 0) C dX2_nameTriangles_11 rfl ?_
  refine ww_aload_n C dX2_nameTriangles_12 rfl 1 rfl ?_
  refine ww_gr (j := p + 1) (k := 17) (f := 0) C rfl rfl hp rfl in_X2_nameTriangles_X3 (by decide) lk_X2_nameTriangles_25 dX2_nameTriangles_13 rfl ?_
  refine ww_gi (k := 14) (f := 2) C rfl rfl (Nat.add_lt_add_right hp 1) rfl in_X2_nameTriangles_X1 (by decide) lk_X2_nameTriangles_31 dX2_nameTriangles_16 ?_
  refine ww_iconst (v := 1) C dX2_nameTriangles_19 rfl ?_
  refine ww_isub C dX2_nameTriangles_20 ?_
  refine ww_iast (k := 22) (j := 0) C rfl hp (by decide) dX2_nameTriangles_21 (by decide) (by decide) ?_
  obtain ⟨σ2, hσ2⟩ : ∃ z : Sg, z = (sgu σ1 22 (p) (0) ((σ1 14 (p + 1) 2) - (1))) := ⟨_, rfl⟩
  rw [← hσ2]
  refine ww_iconst (v := 0) C dX2_nameTriangles_22 rfl ?_
  refine ww_istore_n (fun y3 => [(2, .int (y3)), (0, .ref (gA G 4 (0))), (1, .ref (gA G 17 (p)))]) C dX2_nameTriangles_23 rfl (by decide) (fun _ => rfl) (fun y3 ey3 => ?_)
  obtain rfl : y3 = nI 0 := (ey3.trans (by decide))
  exact ww_sub [0, 1, 2] rfl (lp_X2_nameTriangles hA C σ p n hp hs hn h3 T hT hTm (n + 1) 0 _ (by omega) (by omega) (nt_0 h3 (by rw [hσ2, hσ1, sgu_kk (by decide), hs, show nI n - 1 = nI (n - 1) from pk_sub (a := n) (b := 1) (by omega)]; rfl)))
