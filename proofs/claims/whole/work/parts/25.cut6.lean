theorem in_X2_nameDiagonals_X2 : ∀ w ∈ wsX20, w ∈ wsX2_nameDiagonals := by decide +kernel
theorem lk_X2_nameDiagonals_22 : Cond.fieldLink RX2 22 "PolyCuts$Cutter" "joined" "[[I" ∈ wsX2_nameDiagonals := by decide +kernel
theorem in_X2_nameDiagonals_X3 : ∀ w ∈ wsX30, w ∈ wsX2_nameDiagonals := by decide +kernel
theorem lk_X2_nameDiagonals_60 : Cond.fieldLink RX2 60 "PolyCuts$Shape" "sight" "[[I" ∈ wsX2_nameDiagonals := by decide +kernel
theorem lk_X2_nameDiagonals_92 : Cond.fieldLink RX2 92 "PolyCuts$Shape" "diagonalLesser" "[I" ∈ wsX2_nameDiagonals := by decide +kernel
theorem lk_X2_nameDiagonals_95 : Cond.fieldLink RX2 95 "PolyCuts$Shape" "diagonalGreater" "[I" ∈ wsX2_nameDiagonals := by decide +kernel
theorem lk_X2_nameDiagonals_67 : Cond.fieldLink RX2 67 "PolyCuts$Shape" "triangleFrom" "[I" ∈ wsX2_nameDiagonals := by decide +kernel
theorem lk_X2_nameDiagonals_71 : Cond.fieldLink RX2 71 "PolyCuts$Shape" "triangleTo" "[I" ∈ wsX2_nameDiagonals := by decide +kernel
theorem lk_X2_nameDiagonals_25 : Cond.fieldLink RX2 25 "PolyCuts$Shape" "corners" "LPolyCuts$Corners;" ∈ wsX2_nameDiagonals := by decide +kernel
theorem in_X2_nameDiagonals_X1 : ∀ w ∈ wsX10, w ∈ wsX2_nameDiagonals := by decide +kernel
theorem lk_X2_nameDiagonals_31 : Cond.fieldLink RX2 31 "PolyCuts$Corners" "size" "I" ∈ wsX2_nameDiagonals := by decide +kernel
def J1 (S : Nat → Nat → Int32) (a b : Nat) : Int32 := bI (decide (S a b = 2))
def J2 (S : Nat → Nat → Int32) (A B : Nat → Nat) : Nat → Nat → Nat → Int32
  | 0 => J1 S
  | t + 1 => fun a b => if t ≠ 0 ∧ ((a = A t ∧ b = B t) ∨ (a = B t ∧ b = A t)) then 1 else J2 S A B t a b
theorem J2_s {S : Nat → Nat → Int32} {A B : Nat → Nat} {t a b : Nat} : J2 S A B (t + 1) a b = if t ≠ 0 ∧ ((a = A t ∧ b = B t) ∨ (a = B t ∧ b = A t)) then 1 else J2 S A B t a b := rfl
def dlJ (c : Nat → Nat → Bool) (i : Nat) : Nat → Nat → List (Nat × Nat)
  | _, 0 => []
  | j, e + 1 => if c i j then (i, j) :: dlJ c i (j + 1) e else dlJ c i (j + 1) e
def dlI (c : Nat → Nat → Bool) (n : Nat) : Nat → Nat → List (Nat × Nat)
  | _, 0 => []
  | i, e + 1 => dlJ c i (i + 1) (n - (i + 1)) ++ dlI c n (i + 1) e
/-- the pairs i < j below n of which c holds, in order -/
def dl (c : Nat → Nat → Bool) (n : Nat) : List (Nat × Nat) := dlI c n 0 n
def okl (τ : Sg) (p : Nat) (l : List (Nat × Nat)) : Prop := ∀ d q, l[d]? = some q → τ 23 p d = nI q.1 ∧ τ 24 p d = nI q.2
theorem jn2_at {σ : Sg} {i j a b : Nat} {v : Int32} : jn2 σ i j v 12 a b = if (a = i ∧ b = j) ∨ (a = j ∧ b = i) then v else σ 12 a b := by
  by_cases h1 : a = j ∧ b = i
  · rw [if_pos (Or.inr h1), jn2, h1.1, h1.2, sgu_self]
  · by_cases h2 : a = i ∧ b = j
    · rw [if_pos (Or.inl h2), jn2]
      rw [show sgu (sgu σ 12 i j v) 12 j i v 12 a b = sgu σ 12 i j v 12 a b from if_neg (fun q => h1 q.2), h2.1, h2.2, sgu_self]
    · rw [if_neg (fun q => q.elim h2 h1), jn2]
      rw [show sgu (sgu σ 12 i j v) 12 j i v 12 a b = sgu σ 12 i j v 12 a b from if_neg (fun q => h1 q.2), show sgu σ 12 i j v 12 a b = σ 12 a b from if_neg (fun q => h2 q.2)]
theorem jn2_k {σ : Sg} {i j k : Nat} {v : Int32} (h : k ≠ 12) : jn2 σ i j v k = σ k := by rw [jn2, sgu_kk h, sgu_kk h]
def P1 (σ τ : Sg) (n : Nat) (S : Nat → Nat → Int32) (i j : Nat) : Prop := (∀ k, k ≠ 12 → τ k = σ k) ∧ ∀ a b, b < n → (a < i ∨ (a = i ∧ b < j)) → τ 12 a b = J1 S a b
theorem p1_s {σ τ τ' : Sg} {n : Nat} {S : Nat → Nat → Int32} {i j : Nat} {v : Int32} (h : P1 σ τ n S i j) (e : τ' = sgu τ 12 i j v) (hv : v = J1 S i j) : P1 σ τ' n S i (j + 1) := by
  refine ⟨fun k hk => by rw [e, sgu_kk hk, h.1 k hk], fun a b hb hc => ?_⟩
  by_cases q : a = i ∧ b = j
  · rw [e, q.1, q.2, sgu_self, hv]
  · rw [e, show sgu τ 12 i j v 12 a b = τ 12 a b from if_neg (fun z => q z.2)]
    exact h.2 a b hb (by omega)
theorem p1_n {σ τ : Sg} {n : Nat} {S : Nat → Nat → Int32} {i j : Nat} (hj : n ≤ j) (h : P1 σ τ n S i j) : P1 σ τ n S (i + 1) 0 := ⟨h.1, fun a b hb hc => h.2 a b hb (by omega)⟩
def P2 (σ τ : Sg) (n : Nat) (S : Nat → Nat → Int32) (A B : Nat → Nat) (t : Nat) : Prop := (∀ k, k ≠ 12 → τ k = σ k) ∧ ∀ a b, a < n → b < n → τ 12 a b = J2 S A B t a b
theorem p2_s {σ τ τ' : Sg} {n : Nat} {S : Nat → Nat → Int32} {A B : Nat → Nat} {t : Nat} (ht : 1 ≤ t) (h : P2 σ τ n S A B t) (e : τ' = jn2 τ (A t) (B t) 1) : P2 σ τ' n S A B (t + 1) := by
  refine ⟨fun k hk => by rw [e, jn2_k hk, h.1 k hk], fun a b ha hb => ?_⟩
  rw [e, jn2_at, J2_s]
  by_cases q : (a = A t ∧ b = B t) ∨ (a = B t ∧ b = A t)
  · rw [if_pos q, if_pos ⟨by omega, q⟩]
  · rw [if_neg q, if_neg (fun z => q z.2)]
    exact h.2 a b ha hb
def P3 (σ τ : Sg) (p n : Nat) (c : Nat → Nat → Bool) (i j : Nat) (pre : List (Nat × Nat)) (d : Nat) : Prop := (∀ k, k ≠ 23 ∧ k ≠ 24 → τ k = σ k) ∧ (∀ k a, a ≠ p → τ k a = σ k a) ∧ okl τ p (pre.take (n - 3)) ∧ d = (pre.take (n - 3)).length ∧ pre ++ (dlJ c i j (n - j) ++ dlI c n (i + 1) (n - (i + 1))) = dl c n
theorem dlJ_t {c : Nat → Nat → Bool} {n i j : Nat} (hj : j < n) (h : c i j = true) : dlJ c i j (n - j) = (i, j) :: dlJ c i (j + 1) (n - (j + 1)) := by rw [show n - j = (n - (j + 1)) + 1 by omega, dlJ, if_pos h]
theorem dlJ_f {c : Nat → Nat → Bool} {n i j : Nat} (hj : j < n) (h : c i j = false) : dlJ c i j (n - j) = dlJ c i (j + 1) (n - (j + 1)) := by rw [show n - j = (n - (j + 1)) + 1 by omega, dlJ, if_neg (by rw [h]; decide)]
theorem p3_f {σ τ : Sg} {p n : Nat} {c : Nat → Nat → Bool} {i j : Nat} {pre : List (Nat × Nat)} {d : Nat} (hj : j < n) (hc : c i j = false) (h : P3 σ τ p n c i j pre d) : P3 σ τ p n c i (j + 1) pre d := ⟨h.1, h.2.1, h.2.2.1, h.2.2.2.1, by rw [← h.2.2.2.2, dlJ_f hj hc]⟩
theorem p3_c {σ τ : Sg} {p n : Nat} {c : Nat → Nat → Bool} {i j : Nat} {pre : List (Nat × Nat)} {d : Nat} (hj : j < n) (hc : c i j = true) (hd : n - 3 ≤ d) (h : P3 σ τ p n c i j pre d) : P3 σ τ p n c i (j + 1) (pre ++ [(i, j)]) d := by
  obtain ⟨h1, h2, h3, h4, h5⟩ := h
  have e : (pre ++ [(i, j)]).take (n - 3) = pre.take (n - 3) := by
    rw [List.length_take] at h4
    exact List.take_append_of_le_length (by omega)
  exact ⟨h1, h2, by rw [e]; exact h3, by rw [e]; exact h4, by rw [← h5, dlJ_t hj hc]; simp⟩
theorem p3_t {σ τ τ1 τ2 : Sg} {p n : Nat} {c : Nat → Nat → Bool} {i j : Nat} {pre : List (Nat × Nat)} {d : Nat} (hj : j < n) (hc : c i j = true) (hd : d < n - 3) (h : P3 σ τ p n c i j pre d) (e1 : τ1 = sgu τ 23 p d (nI i)) (e2 : τ2 = sgu τ1 24 p d (nI j)) : P3 σ τ2 p n c i (j + 1) (pre ++ [(i, j)]) (d + 1) := by
  obtain ⟨h1, h2, h3, h4, h5⟩ := h
  have hl : pre.length = d := by
    rw [List.length_take] at h4
    omega
  have e0 : pre.take (n - 3) = pre := List.take_of_length_le (by omega)
  have e : (pre ++ [(i, j)]).take (n - 3) = pre ++ [(i, j)] := List.take_of_length_le (by rw [List.length_append]; simp; omega)
  rw [e0] at h3
  refine ⟨fun k hk => by rw [e2, sgu_kk hk.2, e1, sgu_kk hk.1, h1 k hk], fun k a ha => ?_, ?_, by rw [e, List.length_append, hl]; rfl, by rw [← h5, dlJ_t hj hc]; simp⟩
  · funext f
    rw [e2, sgu_i ha, e1, sgu_i ha, h2 k a ha]
  · rw [e]
    intro d' q hq
    by_cases z : d' < d
    · rw [List.getElem?_append_left (by omega)] at hq
      rw [e2, sgu_k (by decide), e1, sgu_f (by omega), sgu_f (by omega), sgu_k (by decide)]
      exact h3 d' q hq
    · have hd' := (List.getElem?_eq_some_iff.mp hq).1
      rw [List.length_append] at hd'
      simp at hd'
      obtain rfl : d' = d := by omega
      rw [← hl, List.getElem?_append_right (by omega)] at hq
      simp at hq
      rw [← hq, e2, sgu_k (by decide), e1, sgu_self, sgu_self]
      exact ⟨rfl, rfl⟩
theorem p3_n {σ τ : Sg} {p n : Nat} {c : Nat → Nat → Bool} {i j : Nat} {pre : List (Nat × Nat)} {d : Nat} (hj : n ≤ j) (hi : i + 1 < n) (h : P3 σ τ p n c i j pre d) : P3 σ τ p n c (i + 1) (i + 2) pre d := by
  refine ⟨h.1, h.2.1, h.2.2.1, h.2.2.2.1, ?_⟩
  rw [← h.2.2.2.2, Nat.sub_eq_zero_of_le hj, dlJ, List.nil_append, show n - (i + 1) = (n - (i + 1 + 1)) + 1 by omega, dlI]
theorem p3_e {σ τ : Sg} {p n : Nat} {c : Nat → Nat → Bool} {i j : Nat} {pre : List (Nat × Nat)} {d : Nat} (hj : n ≤ j) (hi : n ≤ i + 1) (h : P3 σ τ p n c i j pre d) : pre = dl c n := by
  have h5 := h.2.2.2.2
  rw [Nat.sub_eq_zero_of_le hj, dlJ, Nat.sub_eq_zero_of_le hi, dlI, List.append_nil, List.append_nil] at h5
  exact h5
def NDe (σ τ : Sg) (p n : Nat) (A B : Nat → Nat) : Prop := (∀ k, k ≠ 12 ∧ k ≠ 23 ∧ k ≠ 24 → τ k = σ k) ∧ (∀ k a, k ≠ 12 → a ≠ p → τ k a = σ k a) ∧ (∀ a b, a < n → b < n → τ 12 a b = J2 (fun a b => σ 19 (14 * p + a) b) A B (n - 2) a b) ∧ okl τ p ((dl (fun a b => decide (J2 (fun a b => σ 19 (14 * p + a) b) A B (n - 2) a b = 1) && decide (σ 19 (14 * p + a) b = 1)) n).take (n - 3))
set_option maxHeartbeats 4000000 in
set_option maxRecDepth 100000 in
theorem lp_X2_nameDiagonals_j {K : Kx} {G : Gx} (hA : wa G) (C : CX K G cX2_nameDiagonals 7 RX2 wsX2_nameDiagonals (rmd 2) none) (σ : Sg) (p n : Nat) (hp : p < 8) (hs : σ 14 (p + 1) 2 = nI n) (hn : n ≤ 14) (h3 : 3 ≤ n) (A B : Nat → Nat) (hAB : ∀ t, t < n - 2 → σ 20 p t = nI (A t) ∧ σ 22 p t = nI (B t) ∧ A t < n ∧ B t < n) (ρ : Sg) (hρ : P2 σ ρ n (fun a b => σ 19 (14 * p + a) b) A B (n - 2)) (i : Nat) (hi : i < n) (kx : ∀ τ pre d, d ≤ n - 3 → P3 ρ τ p n (fun a b => decide (J2 (fun a b => σ 19 (14 * p + a) b) A B (n - 2) a b = 1) && decide (σ 19 (14 * p + a) b = 1)) i n pre d → WW K G 7 (QV K G (fun σ2 => NDe σ σ2 p n A B)) τ [(4, .int (nI i)), (3, .int (nI d)), (2, .int (nI n)), (0, .ref (gA G 4 (0))), (1, .ref (gA G 17 (p)))] 192 []) : ∀ (f j : Nat) (τ : Sg) (pre : List (Nat × Nat)) (d : Nat), n - j < f → (j ≤ n) → (d ≤ n - 3) → (P3 ρ τ p n (fun a b => decide (J2 (fun a b => σ 19 (14 * p + a) b) A B (n - 2) a b = 1) && decide (σ 19 (14 * p + a) b = 1)) i j pre d) → WW K G 7 (QV K G (fun σ2 => NDe σ σ2 p n A B)) τ [(5, .int (nI j)), (4, .int (nI i)), (3, .int (nI d)), (2, .int (nI n)), (0, .ref (gA G 4 (0))), (1, .ref (gA G 17 (p)))] 113 [] := by
  intro f
  induction f with
  | zero => intro j τ pre d h; exact absurd h (Nat.not_lt_zero _)
  | succ f ih =>
    intro j τ pre d hf hj hd hk
    have hst : τ 14 (p + 1) 2 = nI n := by rw [hk.1 14 (by decide), hρ.1 14 (by decide)]; exact hs
    have h19 : τ 19 = σ 19 := by rw [hk.1 19 (by decide), hρ.1 19 (by decide)]
    have h12 : ∀ a b, a < n → b < n → τ 12 a b = J2 (fun a b => σ 19 (14 * p + a) b) A B (n - 2) a b := fun a b ha hb => by rw [hk.1 12 (by decide)]; exact hρ.2 a b ha hb
    refine ww_iload C dX2_nameDiagonals_113 0 rfl ?_
    refine ww_iload_n C dX2_nameDiagonals_115 rfl 3 rfl ?_
    refine ww_icmp_ge 192 C dX2_nameDiagonals_116 (by decide) (fun h116 => ?_) (fun h116 => ?_)
    · have g116 : n ≤ j := (cv_le (a := n) (b := j) rfl rfl (by omega) (by omega)).mp h116
      exact ww_sub [1, 2, 3, 4, 5] rfl (kx _ pre d hd (by rw [show j = n by omega] at hk; exact hk))
    · have g116 : ¬ n ≤ j := fun q => h116 ((cv_le (a := n) (b := j) rfl rfl (by omega) (by omega)).mpr q)
      refine ww_aload_n C dX2_nameDiagonals_119 rfl 4 rfl ?_
      refine ww_gr (j := 0) (k := 4) (f := 3) C rfl rfl (by decide) rfl in_X2_nameDiagonals_X2 (by decide) lk_X2_nameDiagonals_22 dX2_nameDiagonals_120 rfl ?_
      refine ww_iload C dX2_nameDiagonals_123 1 rfl ?_
      refine ww_aald (k := 8) (j := i) (j' := i) C rfl (by decide) (by decide) (by decide) dX2_nameDiagonals_125 rfl (by omega) rfl ?_
      refine ww_iload C dX2_nameDiagonals_126 0 rfl ?_
      refine ww_iald (k := 12) (j := j) C rfl (show i < 14 from (by omega)) (by decide) dX2_nameDiagonals_128 rfl (by omega) ?_
      refine ww_iconst (v := 1) C dX2_nameDiagonals_129 rfl ?_
      refine ww_icmp_ne 151 C dX2_nameDiagonals_130 (by decide) (fun h130 => ?_) (fun h130 => ?_)
      · refine ww_iconst (v := 0) C dX2_nameDiagonals_151 rfl ?_
        refine ww_istore (fun y1 => [(6, .int (y1)), (5, .int (nI j)), (4, .int (nI i)), (3, .int (nI d)), (2, .int (nI n)), (0, .ref (gA G 4 (0))), (1, .ref (gA G 17 (p)))]) C dX2_nameDiagonals_152 (by decide) (fun _ => rfl) (fun y1 ey1 => ?_)
        obtain rfl : y1 = nI 0 := (ey1.trans (by decide))
        refine ww_iload C dX2_nameDiagonals_154 0 rfl ?_
        refine ww_if_eq 186 C dX2_nameDiagonals_156 (by decide) (fun h156 => ?_) (fun h156 => ?_)
        · have g156 : 0 = 0 := (cv_eq (a := 0) (b := 0) rfl (by decide) (by omega) (by omega)).mp h156
          refine ww_iinc (q := 1) (fun y2 => [(5, .int (y2)), (6, .int (nI 0)), (4, .int (nI i)), (3, .int (nI d)), (2, .int (nI n)), (0, .ref (gA G 4 (0))), (1, .ref (gA G 17 (p)))]) C dX2_nameDiagonals_186 rfl (by decide) (fun _ => rfl) (fun y2 ey2 => ?_)
          obtain rfl : y2 = nI (j + 1) := ninc rfl ey2
          refine ww_goto 113 C dX2_nameDiagonals_189 (by decide) ?_
          exact ww_sub [0, 2, 3, 4, 5, 6] rfl (ih (j + 1) _ pre d (by omega) (by omega) (by omega) (p3_f (by omega) (by simp only [decide_eq_false (show ¬ J2 (fun a b => σ 19 (14 * p + a) b) A B (n - 2) i j = 1 by rw [← h12 i j (by omega) (by omega)]; exact h130)]; rfl) hk))
        · have g156 : ¬ 0 = 0 := fun q => h156 ((cv_eq (a := 0) (b := 0) rfl (by decide) (by omega) (by omega)).mpr q)
          exact absurd g156 (by decide)
      · refine ww_aload_n C dX2_nameDiagonals_133 rfl 5 rfl ?_
        refine ww_gr (j := p) (k := 17) (f := 1) C rfl rfl hp rfl in_X2_nameDiagonals_X3 (by decide) lk_X2_nameDiagonals_60 dX2_nameDiagonals_134 rfl ?_
        refine ww_iload C dX2_nameDiagonals_137 1 rfl ?_
        refine ww_aald (k := 18) (j := i) (j' := 14 * p + i) C rfl (by decide) hp (by decide) dX2_nameDiagonals_139 rfl (by omega) rfl ?_
        refine ww_iload C dX2_nameDiagonals_140 0 rfl ?_
        refine ww_iald (k := 19) (j := j) C rfl (dm19 hp (by omega)) (by decide) dX2_nameDiagonals_142 rfl (by omega) ?_
        refine ww_iconst (v := 1) C dX2_nameDiagonals_143 rfl ?_
        refine ww_icmp_ne 151 C dX2_nameDiagonals_144 (by decide) (fun h144 => ?_) (fun h144 => ?_)
        · refine ww_iconst (v := 0) C dX2_nameDiagonals_151 rfl ?_
          refine ww_istore (fun y3 => [(6, .int (y3)), (5, .int (nI j)), (4, .int (nI i)), (3, .int (nI d)), (2, .int (nI n)), (0, .ref (gA G 4 (0))), (1, .ref (gA G 17 (p)))]) C dX2_nameDiagonals_152 (by decide) (fun _ => rfl) (fun y3 ey3 => ?_)
          obtain rfl : y3 = nI 0 := (ey3.trans (by decide))
          refine ww_iload C dX2_nameDiagonals_154 0 rfl ?_
          refine ww_if_eq 186 C dX2_nameDiagonals_156 (by decide) (fun h156 => ?_) (fun h156 => ?_)
          · have g156 : 0 = 0 := (cv_eq (a := 0) (b := 0) rfl (by decide) (by omega) (by omega)).mp h156
            refine ww_iinc (q := 1) (fun y4 => [(5, .int (y4)), (6, .int (nI 0)), (4, .int (nI i)), (3, .int (nI d)), (2, .int (nI n)), (0, .ref (gA G 4 (0))), (1, .ref (gA G 17 (p)))]) C dX2_nameDiagonals_186 rfl (by decide) (fun _ => rfl) (fun y4 ey4 => ?_)
            obtain rfl : y4 = nI (j + 1) := ninc rfl ey4
            refine ww_goto 113 C dX2_nameDiagonals_189 (by decide) ?_
            exact ww_sub [0, 2, 3, 4, 5, 6] rfl (ih (j + 1) _ pre d (by omega) (by omega) (by omega) (p3_f (by omega) (by simp only [decide_eq_false (show ¬ σ 19 (14 * p + i) j = 1 by rw [← h19]; exact h144), Bool.and_false]) hk))
          · have g156 : ¬ 0 = 0 := fun q => h156 ((cv_eq (a := 0) (b := 0) rfl (by decide) (by omega) (by omega)).mpr q)
            exact absurd g156 (by decide)
        · refine ww_iconst (v := 1) C dX2_nameDiagonals_147 rfl ?_
          refine ww_goto 152 C dX2_nameDiagonals_148 (by decide) ?_
          refine ww_istore (fun y5 => [(6, .int (y5)), (5, .int (nI j)), (4, .int (nI i)), (3, .int (nI d)), (2, .int (nI n)), (0, .ref (gA G 4 (0))), (1, .ref (gA G 17 (p)))]) C dX2_nameDiagonals_152 (by decide) (fun _ => rfl) (fun y5 ey5 => ?_)
          obtain rfl : y5 = nI 1 := (ey5.trans (by decide))
          refine ww_iload C dX2_nameDiagonals_154 0 rfl ?_
          refine ww_if_eq 186 C dX2_nameDiagonals_156 (by decide) (fun h156 => ?_) (fun h156 => ?_)
          · have g156 : 1 = 0 := (cv_eq (a := 1) (b := 0) rfl (by decide) (by omega) (by omega)).mp h156
            exact absurd g156 (by decide)
          · have g156 : ¬ 1 = 0 := fun q => h156 ((cv_eq (a := 1) (b := 0) rfl (by decide) (by omega) (by omega)).mpr q)
            refine ww_iload_n C dX2_nameDiagonals_159 rfl 3 rfl ?_
            refine ww_aload_n C dX2_nameDiagonals_160 rfl 6 rfl ?_
            refine ww_calliF (cx_V (n := 0) (As := []) C  (c_X3_diagonalCount (kL K) G hA _ p n hp hst hn) gX2_nameDiagonals_X3_diagonalCount rfl ⟨rfl, rfl⟩ (by decide +kernel) (by decide) rfl hp rfl rfl rfl (Nat.le_of_ble_eq_true rfl) dX2_nameDiagonals_161) ?_
            refine ww_icmp_ge 186 C dX2_nameDiagonals_164 (by decide) (fun h164 => ?_) (fun h164 => ?_)
            · have g164 : n - 3 ≤ d := (cv_le (a := n - 3) (b := d) (pk_sub (a := n) (b := 3) (by omega)) rfl (by omega) (by omega)).mp h164
              refine ww_iinc (q := 1) (fun y6 => [(5, .int (y6)), (6, .int (nI 1)), (4, .int (nI i)), (3, .int (nI d)), (2, .int (nI n)), (0, .ref (gA G 4 (0))), (1, .ref (gA G 17 (p)))]) C dX2_nameDiagonals_186 rfl (by decide) (fun _ => rfl) (fun y6 ey6 => ?_)
              obtain rfl : y6 = nI (j + 1) := ninc rfl ey6
              refine ww_goto 113 C dX2_nameDiagonals_189 (by decide) ?_
              exact ww_sub [0, 2, 3, 4, 5, 6] rfl (ih (j + 1) _ (pre ++ [(i, j)]) d (by omega) (by omega) (by omega) (p3_c (by omega) (by simp only [decide_eq_true (show J2 (fun a b => σ 19 (14 * p + a) b) A B (n - 2) i j = 1 by rw [← h12 i j (by omega) (by omega)]; exact h130), decide_eq_true (show σ 19 (14 * p + i) j = 1 by rw [← h19]; exact h144)]; rfl) (by omega) hk))
            · have g164 : ¬ n - 3 ≤ d := fun q => h164 ((cv_le (a := n - 3) (b := d) (pk_sub (a := n) (b := 3) (by omega)) rfl (by omega) (by omega)).mpr q)
              refine ww_aload_n C dX2_nameDiagonals_167 rfl 6 rfl ?_
              refine ww_gr (j := p) (k := 17) (f := 9) C rfl rfl hp rfl in_X2_nameDiagonals_X3 (by decide) lk_X2_nameDiagonals_92 dX2_nameDiagonals_168 rfl ?_
              refine ww_iload_n C dX2_nameDiagonals_171 rfl 3 rfl ?_
              refine ww_iload C dX2_nameDiagonals_172 2 rfl ?_
              refine ww_iast (k := 23) (j := d) C rfl hp (by decide) dX2_nameDiagonals_174 rfl (by omega) ?_
              obtain ⟨σ7, hσ7⟩ : ∃ z : Sg, z = (sgu τ 23 (p) (d) (nI i)) := ⟨_, rfl⟩
              rw [← hσ7]
              refine ww_aload_n C dX2_nameDiagonals_175 rfl 6 rfl ?_
              refine ww_gr (j := p) (k := 17) (f := 10) C rfl rfl hp rfl in_X2_nameDiagonals_X3 (by decide) lk_X2_nameDiagonals_95 dX2_nameDiagonals_176 rfl ?_
              refine ww_iload_n C dX2_nameDiagonals_179 rfl 3 rfl ?_
              refine ww_iload C dX2_nameDiagonals_180 1 rfl ?_
              refine ww_iast (k := 24) (j := d) C rfl hp (by decide) dX2_nameDiagonals_182 rfl (by omega) ?_
              obtain ⟨σ8, hσ8⟩ : ∃ z : Sg, z = (sgu σ7 24 (p) (d) (nI j)) := ⟨_, rfl⟩
              rw [← hσ8]
              refine ww_iinc (q := 3) (fun y9 => [(3, .int (y9)), (6, .int (nI 1)), (5, .int (nI j)), (4, .int (nI i)), (2, .int (nI n)), (0, .ref (gA G 4 (0))), (1, .ref (gA G 17 (p)))]) C dX2_nameDiagonals_183 rfl (by decide) (fun _ => rfl) (fun y9 ey9 => ?_)
              obtain rfl : y9 = nI (d + 1) := ninc rfl ey9
              refine ww_iinc (q := 2) (fun y10 => [(5, .int (y10)), (3, .int (nI (d + 1))), (6, .int (nI 1)), (4, .int (nI i)), (2, .int (nI n)), (0, .ref (gA G 4 (0))), (1, .ref (gA G 17 (p)))]) C dX2_nameDiagonals_186 rfl (by decide) (fun _ => rfl) (fun y10 ey10 => ?_)
              obtain rfl : y10 = nI (j + 1) := ninc rfl ey10
              refine ww_goto 113 C dX2_nameDiagonals_189 (by decide) ?_
              exact ww_sub [0, 3, 1, 4, 5, 6] rfl (ih (j + 1) _ (pre ++ [(i, j)]) (d + 1) (by omega) (by omega) (by omega) (p3_t (by omega) (by simp only [decide_eq_true (show J2 (fun a b => σ 19 (14 * p + a) b) A B (n - 2) i j = 1 by rw [← h12 i j (by omega) (by omega)]; exact h130), decide_eq_true (show σ 19 (14 * p + i) j = 1 by rw [← h19]; exact h144)]; rfl) (by omega) hk hσ7 hσ8))
set_option maxHeartbeats 4000000 in
set_option maxRecDepth 100000 in
theorem lp_X2_nameDiagonals_i {K : Kx} {G : Gx} (hA : wa G) (C : CX K G cX2_nameDiagonals 7 RX2 wsX2_nameDiagonals (rmd 2) none) (σ : Sg) (p n : Nat) (hp : p < 8) (hs : σ 14 (p + 1) 2 = nI n) (hn : n ≤ 14) (h3 : 3 ≤ n) (A B : Nat → Nat) (hAB : ∀ t, t < n - 2 → σ 20 p t = nI (A t) ∧ σ 22 p t = nI (B t) ∧ A t < n ∧ B t < n) (ρ : Sg) (hρ : P2 σ ρ n (fun a b => σ 19 (14 * p + a) b) A B (n - 2)) : ∀ (f i : Nat) (τ : Sg) (pre : List (Nat × Nat)) (d : Nat), n - i < f → (i ≤ n) → (d ≤ n - 3) → (P3 ρ τ p n (fun a b => decide (J2 (fun a b => σ 19 (14 * p + a) b) A B (n - 2) a b = 1) && decide (σ 19 (14 * p + a) b = 1)) i (i + 1) pre d ∨ (i = n ∧ pre = dl (fun a b => decide (J2 (fun a b => σ 19 (14 * p + a) b) A B (n - 2) a b = 1) && decide (σ 19 (14 * p + a) b = 1)) n ∧ (∀ k, k ≠ 23 ∧ k ≠ 24 → τ k = ρ k) ∧ (∀ k a, a ≠ p → τ k a = ρ k a) ∧ okl τ p (pre.take (n - 3)))) → WW K G 7 (QV K G (fun σ2 => NDe σ σ2 p n A B)) τ [(4, .int (nI i)), (3, .int (nI d)), (2, .int (nI n)), (0, .ref (gA G 4 (0))), (1, .ref (gA G 17 (p)))] 101 [] := by
  intro f
  induction f with
  | zero => intro i τ pre d h; exact absurd h (Nat.not_lt_zero _)
  | succ f ih =>
    intro i τ pre d hf hi hd hk0
    refine ww_iload C dX2_nameDiagonals_101 0 rfl ?_
    refine ww_iload_n C dX2_nameDiagonals_103 rfl 2 rfl ?_
    refine ww_icmp_ge 198 C dX2_nameDiagonals_104 (by decide) (fun h104 => ?_) (fun h104 => ?_)
    · have g104 : n ≤ i := (cv_le (a := n) (b := i) rfl rfl (by omega) (by omega)).mp h104
      refine ww_vret C dX2_nameDiagonals_198 ?_
      have hq : i = n ∧ pre = dl (fun a b => decide (J2 (fun a b => σ 19 (14 * p + a) b) A B (n - 2) a b = 1) && decide (σ 19 (14 * p + a) b = 1)) n ∧ (∀ k, k ≠ 23 ∧ k ≠ 24 → τ k = ρ k) ∧ (∀ k a, a ≠ p → τ k a = ρ k a) ∧ okl τ p (pre.take (n - 3)) := hk0.elim (fun q => ⟨by omega, p3_e (by omega) (by omega) q, q.1, q.2.1, q.2.2.1⟩) id
      obtain ⟨-, rfl, q1, q2, q3⟩ := hq
      exact ⟨fun k hk => by rw [q1 k hk.2, hρ.1 k hk.1], fun k a hk ha => by rw [q2 k a ha, hρ.1 k hk], fun a b ha hb => by rw [q1 12 (by decide)]; exact hρ.2 a b ha hb, q3⟩
    · have g104 : ¬ n ≤ i := fun q => h104 ((cv_le (a := n) (b := i) rfl rfl (by omega) (by omega)).mpr q)
      have hk := hk0.resolve_right (fun q => by omega)
      refine ww_iload C dX2_nameDiagonals_107 0 rfl ?_
      refine ww_iconst (v := 1) C dX2_nameDiagonals_109 rfl ?_
      refine ww_iadd C dX2_nameDiagonals_110 ?_
      refine ww_istore (fun y1 => [(5, .int (y1)), (4, .int (nI i)), (3, .int (nI d)), (2, .int (nI n)), (0, .ref (gA G 4 (0))), (1, .ref (gA G 17 (p)))]) C dX2_nameDiagonals_111 (by decide) (fun _ => rfl) (fun y1 ey1 => ?_)
      obtain rfl : y1 = nI (i + 1) := (ey1.trans (nI_add (i) (1)))
      refine ww_sub [0, 1, 2, 3, 4, 5] rfl (lp_X2_nameDiagonals_j hA C σ p n hp hs hn h3 A B hAB ρ hρ i (by omega) (fun τ2 pre2 d2 hd2 hk2 => ?_) (n + 1) (i + 1) τ pre d (by omega) (by omega) hd hk)
      refine ww_iinc (q := 0) (fun y2 => [(4, .int (y2)), (3, .int (nI d2)), (2, .int (nI n)), (0, .ref (gA G 4 (0))), (1, .ref (gA G 17 (p)))]) C dX2_nameDiagonals_192 rfl (by decide) (fun _ => rfl) (fun y2 ey2 => ?_)
      obtain rfl : y2 = nI (i + 1) := ninc rfl ey2
      refine ww_goto 101 C dX2_nameDiagonals_195 (by decide) ?_
      refine ww_sub [0, 1, 2, 3, 4] rfl ?_
      rcases Nat.lt_or_ge (i + 1) n with q9 | q9
      · exact ih (i + 1) _ pre2 d2 (by omega) (by omega) hd2 (Or.inl (p3_n (by omega) q9 hk2))
      · exact ih (i + 1) _ pre2 d2 (by omega) (by omega) hd2 (Or.inr ⟨by omega, p3_e (by omega) q9 hk2, hk2.1, hk2.2.1, hk2.2.2.1⟩)
theorem c_jn2 (l : Launch) (G : Gx) (hA : wa G) (σ : Sg) (i j : Nat) (hi : i < 14) (hj : j < 14) (v : Int32) : CtV l yX2_join wsX2_join (rmd 1) G [.ref (gA G 4 0), .int (nI i), .int (nI j), .int v] σ (fun σ2 => σ2 = jn2 σ i j v) := c_X2_join l G hA σ i j hi hj v
theorem dl_0 {c : Nat → Nat → Bool} {n : Nat} (h3 : 3 ≤ n) : [] ++ (dlJ c 0 (0 + 1) (n - (0 + 1)) ++ dlI c n (0 + 1) (n - (0 + 1))) = dl c n := by
  obtain ⟨m, rfl⟩ : ∃ m, n = m + 1 := ⟨n - 1, by omega⟩
  rw [List.nil_append, dl, dlI]
  rfl
set_option maxHeartbeats 4000000 in
set_option maxRecDepth 100000 in
theorem lp_X2_nameDiagonals_t {K : Kx} {G : Gx} (hA : wa G) (C : CX K G cX2_nameDiagonals 7 RX2 wsX2_nameDiagonals (rmd 2) none) (σ : Sg) (p n : Nat) (hp : p < 8) (hs : σ 14 (p + 1) 2 = nI n) (hn : n ≤ 14) (h3 : 3 ≤ n) (A B : Nat → Nat) (hAB : ∀ t, t < n - 2 → σ 20 p t = nI (A t) ∧ σ 22 p t = nI (B t) ∧ A t < n ∧ B t < n) : ∀ (f t : Nat) (τ : Sg), (n - 2) - t < f → (1 ≤ t) → (t ≤ n - 2) → (P2 σ τ n (fun a b => σ 19 (14 * p + a) b) A B t) → WW K G 7 (QV K G (fun σ2 => NDe σ σ2 p n A B)) τ [(3, .int (nI t)), (2, .int (nI n)), (0, .ref (gA G 4 (0))), (1, .ref (gA G 17 (p)))] 65 [] := by
  intro f
  induction f with
  | zero => intro t τ h; exact absurd h (Nat.not_lt_zero _)
  | succ f ih =>
    intro t τ hf h1 hi hk
    have hst : τ 14 (p + 1) 2 = nI n := by rw [hk.1 14 (by decide)]; exact hs
    refine ww_iload_n C dX2_nameDiagonals_65 rfl 0 rfl ?_
    refine ww_aload_n C dX2_nameDiagonals_66 rfl 3 rfl ?_
    refine ww_calliF (cx_V (n := 0) (As := []) C  (c_X3_triangleCount (kL K) G hA _ p n hp hst hn) gX2_nameDiagonals_X3_triangleCount rfl ⟨rfl, rfl⟩ (by decide +kernel) (by decide) rfl hp rfl rfl rfl (Nat.le_of_ble_eq_true rfl) dX2_nameDiagonals_67) ?_
    refine ww_icmp_ge 96 C dX2_nameDiagonals_70 (by decide) (fun h70 => ?_) (fun h70 => ?_)
    · have g70 : n - 2 ≤ t := (cv_le (a := n - 2) (b := t) (pk_sub (a := n) (b := 2) (by omega)) rfl (by omega) (by omega)).mp h70
      refine ww_iconst (v := 0) C dX2_nameDiagonals_96 rfl ?_
      refine ww_istore_n (fun y1 => [(3, .int (y1)), (2, .int (nI n)), (0, .ref (gA G 4 (0))), (1, .ref (gA G 17 (p)))]) C dX2_nameDiagonals_97 rfl (by decide) (fun _ => rfl) (fun y1 ey1 => ?_)
      obtain rfl : y1 = nI 0 := (ey1.trans (by decide))
      refine ww_iconst (v := 0) C dX2_nameDiagonals_98 rfl ?_
      refine ww_istore (fun y2 => [(4, .int (y2)), (3, .int (nI 0)), (2, .int (nI n)), (0, .ref (gA G 4 (0))), (1, .ref (gA G 17 (p)))]) C dX2_nameDiagonals_99 (by decide) (fun _ => rfl) (fun y2 ey2 => ?_)
      obtain rfl : y2 = nI 0 := (ey2.trans (by decide))
      exact ww_sub [0, 1, 2, 3, 4] rfl (lp_X2_nameDiagonals_i hA C σ p n hp hs hn h3 A B hAB τ (by rw [show n - 2 = t by omega]; exact hk) (n + 1) 0 τ [] 0 (by omega) (by omega) (by omega) (Or.inl ⟨fun _ _ => rfl, fun _ _ _ => rfl, fun d q h => by simp at h, by simp, dl_0 h3⟩))
    · have g70 : ¬ n - 2 ≤ t := fun q => h70 ((cv_le (a := n - 2) (b := t) (pk_sub (a := n) (b := 2) (by omega)) rfl (by omega) (by omega)).mpr q)
      obtain ⟨hfr, hto, hAl, hBl⟩ := hAB t (by omega)
      have hfr : τ 20 p t = nI (A t) := by rw [hk.1 20 (by decide)]; exact hfr
      have hto : τ 22 p t = nI (B t) := by rw [hk.1 22 (by decide)]; exact hto
      refine ww_aload_n C dX2_nameDiagonals_73 rfl 2 rfl ?_
      refine ww_aload_n C dX2_nameDiagonals_74 rfl 3 rfl ?_
      refine ww_gr (j := p) (k := 17) (f := 6) C rfl rfl hp rfl in_X2_nameDiagonals_X3 (by decide) lk_X2_nameDiagonals_67 dX2_nameDiagonals_75 rfl ?_
      refine ww_iload_n C dX2_nameDiagonals_78 rfl 0 rfl ?_
      refine ww_iald (k := 20) (j := t) C rfl hp (by decide) dX2_nameDiagonals_79 rfl (by omega) ?_
      refine ww_aload_n C dX2_nameDiagonals_80 rfl 3 rfl ?_
      refine ww_gr (j := p) (k := 17) (f := 8) C rfl rfl hp rfl in_X2_nameDiagonals_X3 (by decide) lk_X2_nameDiagonals_71 dX2_nameDiagonals_81 rfl ?_
      refine ww_iload_n C dX2_nameDiagonals_84 rfl 0 rfl ?_
      refine ww_iald (k := 22) (j := t) C rfl hp (by decide) dX2_nameDiagonals_85 rfl (by omega) ?_
      refine ww_iconst (v := 1) C dX2_nameDiagonals_86 rfl ?_
      rw [hfr]
      rw [hto]
      refine ww_callvF (cx_V (n := 3) (As := [.int (nI (A t)), .int (nI (B t)), .int (1)]) C  (c_jn2 (kL K) G hA _ (A t) (B t) (by omega) (by omega) _) gX2_nameDiagonals_X2_join rfl ⟨rfl, rfl⟩ (by decide +kernel) (by decide) rfl (by decide) rfl rfl rfl (Nat.le_of_ble_eq_true rfl) dX2_nameDiagonals_87) ?_
      obtain ⟨σ3, hσ3⟩ : ∃ z : Sg, z = (jn2 τ (A t) (B t) (1)) := ⟨_, rfl⟩
      rw [← hσ3]
      refine ww_iinc (q := 0) (fun y4 => [(3, .int (y4)), (2, .int (nI n)), (0, .ref (gA G 4 (0))), (1, .ref (gA G 17 (p)))]) C dX2_nameDiagonals_90 rfl (by decide) (fun _ => rfl) (fun y4 ey4 => ?_)
      obtain rfl : y4 = nI (t + 1) := ninc rfl ey4
      refine ww_goto 65 C dX2_nameDiagonals_93 (by decide) ?_
      exact ww_sub [0, 1, 2, 3] rfl (ih (t + 1) _ (by omega) (by omega) (by omega) (p2_s h1 hk hσ3))
set_option maxHeartbeats 4000000 in
set_option maxRecDepth 100000 in
theorem lp_X2_nameDiagonals_b {K : Kx} {G : Gx} (hA : wa G) (C : CX K G cX2_nameDiagonals 7 RX2 wsX2_nameDiagonals (rmd 2) none) (σ : Sg) (p n : Nat) (hp : p < 8) (hs : σ 14 (p + 1) 2 = nI n) (hn : n ≤ 14) (h3 : 3 ≤ n) (A B : Nat → Nat) (hAB : ∀ t, t < n - 2 → σ 20 p t = nI (A t) ∧ σ 22 p t = nI (B t) ∧ A t < n ∧ B t < n) (i : Nat) (hi : i < n) (kx : ∀ τ, P1 σ τ n (fun a b => σ 19 (14 * p + a) b) (i + 1) 0 → WW K G 7 (QV K G (fun σ2 => NDe σ σ2 p n A B)) τ [(3, .int (nI i)), (2, .int (nI n)), (0, .ref (gA G 4 (0))), (1, .ref (gA G 17 (p)))] 57 []) : ∀ (f j : Nat) (τ : Sg), n - j < f → (j ≤ n) → (P1 σ τ n (fun a b => σ 19 (14 * p + a) b) i j) → WW K G 7 (QV K G (fun σ2 => NDe σ σ2 p n A B)) τ [(4, .int (nI j)), (3, .int (nI i)), (2, .int (nI n)), (0, .ref (gA G 4 (0))), (1, .ref (gA G 17 (p)))] 18 [] := by
  intro f
  induction f with
  | zero => intro j τ h; exact absurd h (Nat.not_lt_zero _)
  | succ f ih =>
    intro j τ hf hj hk
    have h19 : τ 19 = σ 19 := hk.1 19 (by decide)
    refine ww_iload C dX2_nameDiagonals_18 0 rfl ?_
    refine ww_iload_n C dX2_nameDiagonals_20 rfl 2 rfl ?_
    refine ww_icmp_ge 57 C dX2_nameDiagonals_21 (by decide) (fun h21 => ?_) (fun h21 => ?_)
    · have g21 : n ≤ j := (cv_le (a := n) (b := j) rfl rfl (by omega) (by omega)).mp h21
      exact ww_sub [1, 2, 3, 4] rfl (kx _ (p1_n (by omega) hk))
    · have g21 : ¬ n ≤ j := fun q => h21 ((cv_le (a := n) (b := j) rfl rfl (by omega) (by omega)).mpr q)
      refine ww_aload_n C dX2_nameDiagonals_24 rfl 3 rfl ?_
      refine ww_gr (j := 0) (k := 4) (f := 3) C rfl rfl (by decide) rfl in_X2_nameDiagonals_X2 (by decide) lk_X2_nameDiagonals_22 dX2_nameDiagonals_25 rfl ?_
      refine ww_iload_n C dX2_nameDiagonals_28 rfl 1 rfl ?_
      refine ww_aald (k := 8) (j := i) (j' := i) C rfl (by decide) (by decide) (by decide) dX2_nameDiagonals_29 rfl (by omega) rfl ?_
      refine ww_iload C dX2_nameDiagonals_30 0 rfl ?_
      refine ww_aload_n C dX2_nameDiagonals_32 rfl 4 rfl ?_
      refine ww_gr (j := p) (k := 17) (f := 1) C rfl rfl hp rfl in_X2_nameDiagonals_X3 (by decide) lk_X2_nameDiagonals_60 dX2_nameDiagonals_33 rfl ?_
      refine ww_iload_n C dX2_nameDiagonals_36 rfl 1 rfl ?_
      refine ww_aald (k := 18) (j := i) (j' := 14 * p + i) C rfl (by decide) hp (by decide) dX2_nameDiagonals_37 rfl (by omega) rfl ?_
      refine ww_iload C dX2_nameDiagonals_38 0 rfl ?_
      refine ww_iald (k := 19) (j := j) C rfl (dm19 hp (by omega)) (by decide) dX2_nameDiagonals_40 rfl (by omega) ?_
      refine ww_iconst (v := 2) C dX2_nameDiagonals_41 rfl ?_
      refine ww_bc_ne C dX2_nameDiagonals_42 dX2_nameDiagonals_45 dX2_nameDiagonals_46 dX2_nameDiagonals_49 ?_
      refine ww_iast (k := 12) (j := j) C rfl (show i < 14 from (by omega)) (by decide) dX2_nameDiagonals_50 rfl (by omega) ?_
      obtain ⟨σ1, hσ1⟩ : ∃ z : Sg, z = (sgu τ 12 (i) (j) (bI (decide ((τ 19 (14 * p + i) (j)) = (2))))) := ⟨_, rfl⟩
      rw [← hσ1]
      refine ww_iinc (q := 0) (fun y2 => [(4, .int (y2)), (3, .int (nI i)), (2, .int (nI n)), (0, .ref (gA G 4 (0))), (1, .ref (gA G 17 (p)))]) C dX2_nameDiagonals_51 rfl (by decide) (fun _ => rfl) (fun y2 ey2 => ?_)
      obtain rfl : y2 = nI (j + 1) := ninc rfl ey2
      refine ww_goto 18 C dX2_nameDiagonals_54 (by decide) ?_
      exact ww_sub [0, 1, 2, 3, 4] rfl (ih (j + 1) _ (by omega) (by omega) (p1_s hk hσ1 (by rw [h19]; rfl)))
set_option maxHeartbeats 4000000 in
set_option maxRecDepth 100000 in
theorem lp_X2_nameDiagonals_a {K : Kx} {G : Gx} (hA : wa G) (C : CX K G cX2_nameDiagonals 7 RX2 wsX2_nameDiagonals (rmd 2) none) (σ : Sg) (p n : Nat) (hp : p < 8) (hs : σ 14 (p + 1) 2 = nI n) (hn : n ≤ 14) (h3 : 3 ≤ n) (A B : Nat → Nat) (hAB : ∀ t, t < n - 2 → σ 20 p t = nI (A t) ∧ σ 22 p t = nI (B t) ∧ A t < n ∧ B t < n) : ∀ (f i : Nat) (τ : Sg), n - i < f → (i ≤ n) → (P1 σ τ n (fun a b => σ 19 (14 * p + a) b) i 0) → WW K G 7 (QV K G (fun σ2 => NDe σ σ2 p n A B)) τ [(3, .int (nI i)), (2, .int (nI n)), (0, .ref (gA G 4 (0))), (1, .ref (gA G 17 (p)))] 10 [] := by
  intro f
  induction f with
  | zero => intro i τ h; exact absurd h (Nat.not_lt_zero _)
  | succ f ih =>
    intro i τ hf hi hk
    refine ww_iload_n C dX2_nameDiagonals_10 rfl 0 rfl ?_
    refine ww_iload_n C dX2_nameDiagonals_11 rfl 1 rfl ?_
    refine ww_icmp_ge 63 C dX2_nameDiagonals_12 (by decide) (fun h12 => ?_) (fun h12 => ?_)
    · have g12 : n ≤ i := (cv_le (a := n) (b := i) rfl rfl (by omega) (by omega)).mp h12
      refine ww_iconst (v := 1) C dX2_nameDiagonals_63 rfl ?_
      refine ww_istore_n (fun y1 => [(3, .int (y1)), (2, .int (nI n)), (0, .ref (gA G 4 (0))), (1, .ref (gA G 17 (p)))]) C dX2_nameDiagonals_64 rfl (by decide) (fun _ => rfl) (fun y1 ey1 => ?_)
      obtain rfl : y1 = nI 1 := (ey1.trans (by decide))
      exact ww_sub [0, 1, 2, 3] rfl (lp_X2_nameDiagonals_t hA C σ p n hp hs hn h3 A B hAB (n + 1) 1 τ (by omega) (by omega) (by omega) ⟨hk.1, fun a b ha hb => by rw [show (1 : Nat) = 0 + 1 from rfl, J2_s, if_neg (fun q => q.1 rfl)]; exact hk.2 a b hb (by omega)⟩)
    · have g12 : ¬ n ≤ i := fun q => h12 ((cv_le (a := n) (b := i) rfl rfl (by omega) (by omega)).mpr q)
      refine ww_iconst (v := 0) C dX2_nameDiagonals_15 rfl ?_
      refine ww_istore (fun y2 => [(4, .int (y2)), (3, .int (nI i)), (2, .int (nI n)), (0, .ref (gA G 4 (0))), (1, .ref (gA G 17 (p)))]) C dX2_nameDiagonals_16 (by decide) (fun _ => rfl) (fun y2 ey2 => ?_)
      obtain rfl : y2 = nI 0 := (ey2.trans (by decide))
      refine ww_sub [0, 1, 2, 3, 4] rfl (lp_X2_nameDiagonals_b hA C σ p n hp hs hn h3 A B hAB i (by omega) (fun τ2 hk2 => ?_) (n + 1) 0 τ (by omega) (by omega) hk)
      refine ww_iinc (q := 0) (fun y3 => [(3, .int (y3)), (2, .int (nI n)), (0, .ref (gA G 4 (0))), (1, .ref (gA G 17 (p)))]) C dX2_nameDiagonals_57 rfl (by decide) (fun _ => rfl) (fun y3 ey3 => ?_)
      obtain rfl : y3 = nI (i + 1) := ninc rfl ey3
      refine ww_goto 10 C dX2_nameDiagonals_60 (by decide) ?_
      exact ww_sub [0, 1, 2, 3] rfl (ih (i + 1) _ (by omega) (by omega) hk2)
set_option maxHeartbeats 4000000 in
set_option maxRecDepth 100000 in
theorem c_X2_nameDiagonals (l : Launch) (G : Gx) (hA : wa G) (σ : Sg) (p n : Nat) (hp : p < 8) (hs : σ 14 (p + 1) 2 = nI n) (hn : n ≤ 14) (h3 : 3 ≤ n) (A B : Nat → Nat) (hAB : ∀ t, t < n - 2 → σ 20 p t = nI (A t) ∧ σ 22 p t = nI (B t) ∧ A t < n ∧ B t < n) : CtV l yX2_nameDiagonals wsX2_nameDiagonals (rmd 2) G [.ref (gA G 4 (0)), .ref (gA G 17 (p))] σ (fun σ2 => NDe σ σ2 p n A B) := by
  refine ct_v (maxL := 7) (ret := none) (by decide) rfl (Nat.le_of_ble_eq_true rfl) hA (fun K hl C => ?_)
  subst hl
  change WW K G _ _ σ [(0, .ref (gA G 4 (0))), (1, .ref (gA G 17 (p)))] 0 []
  refine ww_aload_n C dX2_nameDiagonals_0 rfl 1 rfl ?_
  refine ww_gr (j := p + 1) (k := 17) (f := 0) C rfl rfl hp rfl in_X2_nameDiagonals_X3 (by decide) lk_X2_nameDiagonals_25 dX2_nameDiagonals_1 rfl ?_
  refine ww_gi (k := 14) (f := 2) C rfl rfl (Nat.add_lt_add_right hp 1) rfl in_X2_nameDiagonals_X1 (by decide) lk_X2_nameDiagonals_31 dX2_nameDiagonals_4 ?_
  refine ww_istore_n (fun y1 => [(2, .int (y1)), (0, .ref (gA G 4 (0))), (1, .ref (gA G 17 (p)))]) C dX2_nameDiagonals_7 rfl (by decide) (fun _ => rfl) (fun y1 ey1 => ?_)
  obtain rfl : y1 = nI n := (ey1.trans hs)
  refine ww_iconst (v := 0) C dX2_nameDiagonals_8 rfl ?_
  refine ww_istore_n (fun y2 => [(3, .int (y2)), (2, .int (nI n)), (0, .ref (gA G 4 (0))), (1, .ref (gA G 17 (p)))]) C dX2_nameDiagonals_9 rfl (by decide) (fun _ => rfl) (fun y2 ey2 => ?_)
  obtain rfl : y2 = nI 0 := (ey2.trans (by decide))
  exact ww_sub [0, 1, 2, 3] rfl (lp_X2_nameDiagonals_a hA C σ p n hp hs hn h3 A B hAB (n + 1) 0 σ (by omega) (by omega) ⟨fun _ _ => rfl, fun a b _ h => absurd h (by omega)⟩)
