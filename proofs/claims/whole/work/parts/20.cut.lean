theorem in_X2_weighSpan_X3 : ∀ w ∈ wsX30, w ∈ wsX2_weighSpan := by decide +kernel
theorem lk_X2_weighSpan_60 : Cond.fieldLink RX2 60 "PolyCuts$Shape" "sight" "[[I" ∈ wsX2_weighSpan := by decide +kernel
theorem in_X2_weighSpan_X2 : ∀ w ∈ wsX20, w ∈ wsX2_weighSpan := by decide +kernel
theorem lk_X2_weighSpan_16 : Cond.fieldLink RX2 16 "PolyCuts$Cutter" "sum" "[[I" ∈ wsX2_weighSpan := by decide +kernel
theorem lk_X2_weighSpan_25 : Cond.fieldLink RX2 25 "PolyCuts$Shape" "corners" "LPolyCuts$Corners;" ∈ wsX2_weighSpan := by decide +kernel
theorem lk_X2_weighSpan_11 : Cond.fieldLink RX2 11 "PolyCuts$Cutter" "ways" "[[I" ∈ wsX2_weighSpan := by decide +kernel
theorem lk_X2_weighSpan_19 : Cond.fieldLink RX2 19 "PolyCuts$Cutter" "third" "[[I" ∈ wsX2_weighSpan := by decide +kernel
/-- a span's three numbers: ways, least sum, third corner -/
abbrev T3 : Type := Int32 × Int32 × Int32
def sp3 (σ : Sg) (i j : Nat) (c : T3) : Sg := sgu (sgu (sgu σ 9 i j c.1) 10 i j c.2.1) 11 i j c.2.2
def spS (w s : Nat → Nat → Int32) (i j : Nat) : Nat → T3
  | 0 => (0, 0, nI (i + 1))
  | d + 1 => ((spS w s i j d).1 + w i (i + 1 + d) * w (i + 1 + d) j, if 0 < w i (i + 1 + d) * w (i + 1 + d) j ∧ ((spS w s i j d).1 = 0 ∨ s i (i + 1 + d) + s (i + 1 + d) j < (spS w s i j d).2.1) then (s i (i + 1 + d) + s (i + 1 + d) j, nI (i + 1 + d)) else (spS w s i j d).2)
def spF (w s : Nat → Nat → Int32) (sg sq : Int32) (i j : Nat) : T3 := if sg = 0 then (0, 0, nI (i + 1)) else if sg = 1 then ((spS w s i j (j - i - 1)).1, (spS w s i j (j - i - 1)).2.1 + sq, (spS w s i j (j - i - 1)).2.2) else spS w s i j (j - i - 1)
theorem sgu_comm {σ : Sg} {k i f k' i' f' : Nat} {a b : Int32} (h : k ≠ k') : sgu (sgu σ k i f a) k' i' f' b = sgu (sgu σ k' i' f' b) k i f a := by
  funext x y z
  by_cases h1 : x = k' ∧ y = i' ∧ z = f'
  · obtain ⟨rfl, rfl, rfl⟩ := h1
    rw [sgu_self, sgu_k (Ne.symm h), sgu_self]
  · by_cases h2 : x = k ∧ y = i ∧ z = f
    · obtain ⟨rfl, rfl, rfl⟩ := h2
      rw [sgu_k h, sgu_self, sgu_self]
    · simp only [sgu, if_neg h1, if_neg h2]
theorem sp3_9 {σ : Sg} {i j : Nat} {c : T3} {v : Int32} : sgu (sp3 σ i j c) 9 i j v = sp3 σ i j (v, c.2) := by
  unfold sp3
  rw [sgu_comm (by decide), sgu_comm (k := 10) (by decide), sgu_sgu]
theorem sp3_10 {σ : Sg} {i j : Nat} {c : T3} {v : Int32} : sgu (sp3 σ i j c) 10 i j v = sp3 σ i j (c.1, v, c.2.2) := by
  unfold sp3
  rw [sgu_comm (by decide), sgu_sgu]
theorem sp3_11 {σ : Sg} {i j : Nat} {c : T3} {v : Int32} : sgu (sp3 σ i j c) 11 i j v = sp3 σ i j (c.1, c.2.1, v) := by
  unfold sp3
  rw [sgu_sgu]
theorem sp3_w {σ : Sg} {i j : Nat} {c : T3} : sp3 σ i j c 9 i j = c.1 := by
  rw [sp3, sgu_k (by decide), sgu_k (by decide), sgu_self]
theorem sp3_s {σ : Sg} {i j : Nat} {c : T3} : sp3 σ i j c 10 i j = c.2.1 := by
  rw [sp3, sgu_k (by decide), sgu_self]
theorem sp3_t {σ : Sg} {i j : Nat} {c : T3} : sp3 σ i j c 11 i j = c.2.2 := by
  rw [sp3, sgu_self]
theorem sp3_i {σ : Sg} {i j k a b : Nat} {c : T3} (h : a ≠ i) : sp3 σ i j c k a b = σ k a b := by
  rw [sp3, sgu_i h, sgu_i h, sgu_i h]
theorem sp3_j {σ : Sg} {i j k a b : Nat} {c : T3} (h : b ≠ j) : sp3 σ i j c k a b = σ k a b := by
  rw [sp3, sgu_f h, sgu_f h, sgu_f h]
theorem sp3_k {σ : Sg} {i j k : Nat} {c : T3} (h : k ≠ 9 ∧ k ≠ 10 ∧ k ≠ 11) : sp3 σ i j c k = σ k := by
  rw [sp3, sgu_kk h.2.2, sgu_kk h.2.1, sgu_kk h.1]
set_option maxHeartbeats 4000000 in
set_option maxRecDepth 100000 in
theorem lp_X2_weighSpan {K : Kx} {G : Gx} (hA : wa G) (C : CX K G cX2_weighSpan 7 RX2 wsX2_weighSpan (rmd 2) none) (σ : Sg) (p n : Nat) (hp : p < 8) (hs : σ 14 (p + 1) 2 = nI n) (hn : n ≤ 14) (i j : Nat) (hij : i + 2 ≤ j) (hj : j < n) (h0 : ¬ (σ 19 (14 * p + i) j) = 0) : ∀ (f k : Nat) (τ : Sg), j - k < f → i + 1 ≤ k → k ≤ j → τ = sp3 σ i j (spS (σ 9) (σ 10) i j (k - (i + 1))) → WW K G 7 (QV K G (fun σ2 => σ2 = sp3 σ i j (spF (σ 9) (σ 10) (σ 19 (14 * p + i) j) (sq9 (σ 15 (p + 1)) (σ 16 (p + 1)) i j) i j))) τ [(4, .int (nI k)), (0, .ref (gA G 4 (0))), (1, .ref (gA G 17 (p))), (2, .int (nI i)), (3, .int (nI j))] 46 [] := by
  intro f
  induction f with
  | zero => intro k τ h; exact absurd h (Nat.not_lt_zero _)
  | succ f ih =>
    intro k τ hf hk hkj ht
    refine ww_iload C dX2_weighSpan_46 0 rfl ?_
    refine ww_iload_n C dX2_weighSpan_48 rfl 4 rfl ?_
    refine ww_icmp_ge 162 C dX2_weighSpan_49 (by decide) (fun h49 => ?_) (fun h49 => ?_)
    · have g49 : j ≤ k := (cv_le (a := j) (b := k) rfl rfl (by omega) (by omega)).mp h49
      refine ww_aload_n C dX2_weighSpan_162 rfl 2 rfl ?_
      refine ww_gr (j := p) (k := 17) (f := 1) C rfl rfl hp rfl in_X2_weighSpan_X3 (by decide) lk_X2_weighSpan_60 dX2_weighSpan_163 rfl ?_
      refine ww_iload_n C dX2_weighSpan_166 rfl 3 rfl ?_
      refine ww_aald (k := 18) (j := i) (j' := 14 * p + i) C rfl (by decide) hp (by decide) dX2_weighSpan_167 rfl (by omega) rfl ?_
      refine ww_iload_n C dX2_weighSpan_168 rfl 4 rfl ?_
      refine ww_iald (k := 19) (j := j) C rfl (dm19 hp (by omega)) (by decide) dX2_weighSpan_169 rfl (by omega) ?_
      refine ww_iconst (v := 1) C dX2_weighSpan_170 rfl ?_
      refine ww_icmp_ne 194 C dX2_weighSpan_171 (by decide) (fun h171 => ?_) (fun h171 => ?_)
      · refine ww_vret C dX2_weighSpan_194 ?_
        rw [ht, spF, if_neg h0, if_neg (by rw [ht, sp3_k (by decide)] at h171; exact h171), show k = j by omega, show j - (i + 1) = j - i - 1 by omega]
      · refine ww_aload_n C dX2_weighSpan_174 rfl 1 rfl ?_
        refine ww_gr (j := 0) (k := 4) (f := 1) C rfl rfl (by decide) rfl in_X2_weighSpan_X2 (by decide) lk_X2_weighSpan_16 dX2_weighSpan_175 rfl ?_
        refine ww_iload_n C dX2_weighSpan_178 rfl 3 rfl ?_
        refine ww_aald (k := 6) (j := i) (j' := i) C rfl (by decide) (by decide) (by decide) dX2_weighSpan_179 rfl (by omega) rfl ?_
        refine ww_iload_n C dX2_weighSpan_180 rfl 4 rfl ?_
        refine ww_dup2 C dX2_weighSpan_181 rfl rfl ?_
        refine ww_iald (k := 10) (j := j) C rfl (show i < 14 from (by omega)) (by decide) dX2_weighSpan_182 rfl (by omega) ?_
        refine ww_aload_n C dX2_weighSpan_183 rfl 2 rfl ?_
        refine ww_gr (j := p + 1) (k := 17) (f := 0) C rfl rfl hp rfl in_X2_weighSpan_X3 (by decide) lk_X2_weighSpan_25 dX2_weighSpan_184 rfl ?_
        refine ww_iload_n C dX2_weighSpan_187 rfl 3 rfl ?_
        refine ww_iload_n C dX2_weighSpan_188 rfl 4 rfl ?_
        refine ww_calliF (cx_V (n := 2) (As := [.int (nI i), .int (nI j)]) C  (c_X1_squaredLength (kL K) G hA _ (p + 1) (Nat.add_lt_add_right hp 1) i j (by omega) (by omega)) gX2_weighSpan_X1_squaredLength rfl ⟨rfl, rfl⟩ (by decide +kernel) (by decide) rfl (Nat.add_lt_add_right hp 1) rfl rfl rfl (Nat.le_of_ble_eq_true rfl) dX2_weighSpan_189) ?_
        refine ww_iadd C dX2_weighSpan_192 ?_
        refine ww_iast (k := 10) (j := j) C rfl (show i < 14 from (by omega)) (by decide) dX2_weighSpan_193 rfl (by omega) ?_
        obtain ⟨σ1, hσ1⟩ : ∃ z : Sg, z = (sgu τ 10 (i) (j) ((τ 10 (i) (j)) + (sq9 (τ 15 (p + 1)) (τ 16 (p + 1)) i j))) := ⟨_, rfl⟩
        rw [← hσ1]
        refine ww_vret C dX2_weighSpan_194 ?_
        rw [hσ1, ht, sp3_s, sp3_10, spF, if_neg h0, if_pos (by rw [ht, sp3_k (by decide)] at h171; exact h171), show k = j by omega, show j - (i + 1) = j - i - 1 by omega, sp3_k (by decide), sp3_k (by decide)]
    · have g49 : ¬ j ≤ k := fun q => h49 ((cv_le (a := j) (b := k) rfl rfl (by omega) (by omega)).mpr q)
      refine ww_aload_n C dX2_weighSpan_52 rfl 1 rfl ?_
      refine ww_gr (j := 0) (k := 4) (f := 0) C rfl rfl (by decide) rfl in_X2_weighSpan_X2 (by decide) lk_X2_weighSpan_11 dX2_weighSpan_53 rfl ?_
      refine ww_iload_n C dX2_weighSpan_56 rfl 3 rfl ?_
      refine ww_aald (k := 5) (j := i) (j' := i) C rfl (by decide) (by decide) (by decide) dX2_weighSpan_57 rfl (by omega) rfl ?_
      refine ww_iload C dX2_weighSpan_58 0 rfl ?_
      refine ww_iald (k := 9) (j := k) C rfl (show i < 14 from (by omega)) (by decide) dX2_weighSpan_60 rfl (by omega) ?_
      refine ww_aload_n C dX2_weighSpan_61 rfl 1 rfl ?_
      refine ww_gr (j := 0) (k := 4) (f := 0) C rfl rfl (by decide) rfl in_X2_weighSpan_X2 (by decide) lk_X2_weighSpan_11 dX2_weighSpan_62 rfl ?_
      refine ww_iload C dX2_weighSpan_65 0 rfl ?_
      refine ww_aald (k := 5) (j := k) (j' := k) C rfl (by decide) (by decide) (by decide) dX2_weighSpan_67 rfl (by omega) rfl ?_
      refine ww_iload_n C dX2_weighSpan_68 rfl 4 rfl ?_
      refine ww_iald (k := 9) (j := j) C rfl (show k < 14 from (by omega)) (by decide) dX2_weighSpan_69 rfl (by omega) ?_
      refine ww_imul C dX2_weighSpan_70 ?_
      refine ww_istore (fun bo => [(5, .int (bo)), (4, .int (nI k)), (0, .ref (gA G 4 (0))), (1, .ref (gA G 17 (p))), (2, .int (nI i)), (3, .int (nI j))]) C dX2_weighSpan_71 (by decide) (fun _ => rfl) (fun bo ebo => ?_)
      refine ww_aload_n C dX2_weighSpan_73 rfl 2 rfl ?_
      refine ww_gr (j := 0) (k := 4) (f := 1) C rfl rfl (by decide) rfl in_X2_weighSpan_X2 (by decide) lk_X2_weighSpan_16 dX2_weighSpan_74 rfl ?_
      refine ww_iload_n C dX2_weighSpan_77 rfl 4 rfl ?_
      refine ww_aald (k := 6) (j := i) (j' := i) C rfl (by decide) (by decide) (by decide) dX2_weighSpan_78 rfl (by omega) rfl ?_
      refine ww_iload C dX2_weighSpan_79 1 rfl ?_
      refine ww_iald (k := 10) (j := k) C rfl (show i < 14 from (by omega)) (by decide) dX2_weighSpan_81 rfl (by omega) ?_
      refine ww_aload_n C dX2_weighSpan_82 rfl 2 rfl ?_
      refine ww_gr (j := 0) (k := 4) (f := 1) C rfl rfl (by decide) rfl in_X2_weighSpan_X2 (by decide) lk_X2_weighSpan_16 dX2_weighSpan_83 rfl ?_
      refine ww_iload C dX2_weighSpan_86 1 rfl ?_
      refine ww_aald (k := 6) (j := k) (j' := k) C rfl (by decide) (by decide) (by decide) dX2_weighSpan_88 rfl (by omega) rfl ?_
      refine ww_iload_n C dX2_weighSpan_89 rfl 5 rfl ?_
      refine ww_iald (k := 10) (j := j) C rfl (show k < 14 from (by omega)) (by decide) dX2_weighSpan_90 rfl (by omega) ?_
      refine ww_iadd C dX2_weighSpan_91 ?_
      refine ww_istore (fun to => [(6, .int (to)), (5, .int (bo)), (4, .int (nI k)), (0, .ref (gA G 4 (0))), (1, .ref (gA G 17 (p))), (2, .int (nI i)), (3, .int (nI j))]) C dX2_weighSpan_92 (by decide) (fun _ => rfl) (fun to eto => ?_)
      refine ww_iload C dX2_weighSpan_94 1 rfl ?_
      refine ww_if_le 143 C dX2_weighSpan_96 (by decide) (fun h96 => ?_) (fun h96 => ?_)
      · refine ww_aload_n C dX2_weighSpan_143 rfl 3 rfl ?_
        refine ww_gr (j := 0) (k := 4) (f := 0) C rfl rfl (by decide) rfl in_X2_weighSpan_X2 (by decide) lk_X2_weighSpan_11 dX2_weighSpan_144 rfl ?_
        refine ww_iload_n C dX2_weighSpan_147 rfl 5 rfl ?_
        refine ww_aald (k := 5) (j := i) (j' := i) C rfl (by decide) (by decide) (by decide) dX2_weighSpan_148 rfl (by omega) rfl ?_
        refine ww_iload_n C dX2_weighSpan_149 rfl 6 rfl ?_
        refine ww_dup2 C dX2_weighSpan_150 rfl rfl ?_
        refine ww_iald (k := 9) (j := j) C rfl (show i < 14 from (by omega)) (by decide) dX2_weighSpan_151 rfl (by omega) ?_
        refine ww_iload C dX2_weighSpan_152 1 rfl ?_
        refine ww_iadd C dX2_weighSpan_154 ?_
        refine ww_iast (k := 9) (j := j) C rfl (show i < 14 from (by omega)) (by decide) dX2_weighSpan_155 rfl (by omega) ?_
        obtain ⟨σ2, hσ2⟩ : ∃ z : Sg, z = (sgu τ 9 (i) (j) ((τ 9 (i) (j)) + (bo))) := ⟨_, rfl⟩
        rw [← hσ2]
        refine ww_iinc (q := 2) (fun y3 => [(4, .int (y3)), (6, .int (to)), (5, .int (bo)), (0, .ref (gA G 4 (0))), (1, .ref (gA G 17 (p))), (2, .int (nI i)), (3, .int (nI j))]) C dX2_weighSpan_156 rfl (by decide) (fun _ => rfl) (fun y3 ey3 => ?_)
        obtain rfl : y3 = nI (k + 1) := ninc rfl ey3
        refine ww_goto 46 C dX2_weighSpan_159 (by decide) ?_
        have hb : bo = (σ 9 i k * σ 9 k j) := by rw [ebo, ht, sp3_j (by omega), sp3_i (by omega)]
        have ha : to = (σ 10 i k + σ 10 k j) := by rw [eto, ht, sp3_j (by omega), sp3_i (by omega)]
        have hk1 : i + 1 + (k - (i + 1)) = k := by omega
        have hst : σ2 = sp3 σ i j (spS (σ 9) (σ 10) i j (k + 1 - (i + 1))) := by
          rw [show k + 1 - (i + 1) = (k - (i + 1)) + 1 by omega, spS, hk1, if_neg (fun q => absurd (by rw [← hb] at q; exact q.1) (Int32.not_lt.mpr h96)), hσ2, ht, sp3_w, sp3_9, ← hb]
        exact ww_sub [0, 3, 4, 5, 6] rfl (ih (k + 1) _ (by omega) (by omega) (by omega) hst)
      · refine ww_aload_n C dX2_weighSpan_99 rfl 3 rfl ?_
        refine ww_gr (j := 0) (k := 4) (f := 0) C rfl rfl (by decide) rfl in_X2_weighSpan_X2 (by decide) lk_X2_weighSpan_11 dX2_weighSpan_100 rfl ?_
        refine ww_iload_n C dX2_weighSpan_103 rfl 5 rfl ?_
        refine ww_aald (k := 5) (j := i) (j' := i) C rfl (by decide) (by decide) (by decide) dX2_weighSpan_104 rfl (by omega) rfl ?_
        refine ww_iload_n C dX2_weighSpan_105 rfl 6 rfl ?_
        refine ww_iald (k := 9) (j := j) C rfl (show i < 14 from (by omega)) (by decide) dX2_weighSpan_106 rfl (by omega) ?_
        refine ww_if_eq 123 C dX2_weighSpan_107 (by decide) (fun h107 => ?_) (fun h107 => ?_)
        · refine ww_aload_n C dX2_weighSpan_123 rfl 3 rfl ?_
          refine ww_gr (j := 0) (k := 4) (f := 1) C rfl rfl (by decide) rfl in_X2_weighSpan_X2 (by decide) lk_X2_weighSpan_16 dX2_weighSpan_124 rfl ?_
          refine ww_iload_n C dX2_weighSpan_127 rfl 5 rfl ?_
          refine ww_aald (k := 6) (j := i) (j' := i) C rfl (by decide) (by decide) (by decide) dX2_weighSpan_128 rfl (by omega) rfl ?_
          refine ww_iload_n C dX2_weighSpan_129 rfl 6 rfl ?_
          refine ww_iload C dX2_weighSpan_130 0 rfl ?_
          refine ww_iast (k := 10) (j := j) C rfl (show i < 14 from (by omega)) (by decide) dX2_weighSpan_132 rfl (by omega) ?_
          obtain ⟨σ4, hσ4⟩ : ∃ z : Sg, z = (sgu τ 10 (i) (j) (to)) := ⟨_, rfl⟩
          rw [← hσ4]
          refine ww_aload_n C dX2_weighSpan_133 rfl 3 rfl ?_
          refine ww_gr (j := 0) (k := 4) (f := 2) C rfl rfl (by decide) rfl in_X2_weighSpan_X2 (by decide) lk_X2_weighSpan_19 dX2_weighSpan_134 rfl ?_
          refine ww_iload_n C dX2_weighSpan_137 rfl 5 rfl ?_
          refine ww_aald (k := 7) (j := i) (j' := i) C rfl (by decide) (by decide) (by decide) dX2_weighSpan_138 rfl (by omega) rfl ?_
          refine ww_iload_n C dX2_weighSpan_139 rfl 6 rfl ?_
          refine ww_iload C dX2_weighSpan_140 2 rfl ?_
          refine ww_iast (k := 11) (j := j) C rfl (show i < 14 from (by omega)) (by decide) dX2_weighSpan_142 rfl (by omega) ?_
          obtain ⟨σ5, hσ5⟩ : ∃ z : Sg, z = (sgu σ4 11 (i) (j) (nI k)) := ⟨_, rfl⟩
          rw [← hσ5]
          refine ww_aload_n C dX2_weighSpan_143 rfl 3 rfl ?_
          refine ww_gr (j := 0) (k := 4) (f := 0) C rfl rfl (by decide) rfl in_X2_weighSpan_X2 (by decide) lk_X2_weighSpan_11 dX2_weighSpan_144 rfl ?_
          refine ww_iload_n C dX2_weighSpan_147 rfl 5 rfl ?_
          refine ww_aald (k := 5) (j := i) (j' := i) C rfl (by decide) (by decide) (by decide) dX2_weighSpan_148 rfl (by omega) rfl ?_
          refine ww_iload_n C dX2_weighSpan_149 rfl 6 rfl ?_
          refine ww_dup2 C dX2_weighSpan_150 rfl rfl ?_
          refine ww_iald (k := 9) (j := j) C rfl (show i < 14 from (by omega)) (by decide) dX2_weighSpan_151 rfl (by omega) ?_
          refine ww_iload C dX2_weighSpan_152 1 rfl ?_
          refine ww_iadd C dX2_weighSpan_154 ?_
          refine ww_iast (k := 9) (j := j) C rfl (show i < 14 from (by omega)) (by decide) dX2_weighSpan_155 rfl (by omega) ?_
          obtain ⟨σ6, hσ6⟩ : ∃ z : Sg, z = (sgu σ5 9 (i) (j) ((σ5 9 (i) (j)) + (bo))) := ⟨_, rfl⟩
          rw [← hσ6]
          refine ww_iinc (q := 2) (fun y7 => [(4, .int (y7)), (6, .int (to)), (5, .int (bo)), (0, .ref (gA G 4 (0))), (1, .ref (gA G 17 (p))), (2, .int (nI i)), (3, .int (nI j))]) C dX2_weighSpan_156 rfl (by decide) (fun _ => rfl) (fun y7 ey7 => ?_)
          obtain rfl : y7 = nI (k + 1) := ninc rfl ey7
          refine ww_goto 46 C dX2_weighSpan_159 (by decide) ?_
          have hb : bo = (σ 9 i k * σ 9 k j) := by rw [ebo, ht, sp3_j (by omega), sp3_i (by omega)]
          have ha : to = (σ 10 i k + σ 10 k j) := by rw [eto, ht, sp3_j (by omega), sp3_i (by omega)]
          have hk1 : i + 1 + (k - (i + 1)) = k := by omega
          have hst : σ6 = sp3 σ i j (spS (σ 9) (σ 10) i j (k + 1 - (i + 1))) := by
            rw [show k + 1 - (i + 1) = (k - (i + 1)) + 1 by omega, spS, hk1, if_pos ⟨by rw [← hb]; exact Int32.not_le.mp h96, Or.inl (by rw [ht, sp3_w] at h107; exact h107)⟩, hσ6, hσ5, hσ4, ht, sp3_10, sp3_11, sp3_w, sp3_9, ← hb, ← ha]
          exact ww_sub [0, 3, 4, 5, 6] rfl (ih (k + 1) _ (by omega) (by omega) (by omega) hst)
        · refine ww_iload C dX2_weighSpan_110 0 rfl ?_
          refine ww_aload_n C dX2_weighSpan_112 rfl 3 rfl ?_
          refine ww_gr (j := 0) (k := 4) (f := 1) C rfl rfl (by decide) rfl in_X2_weighSpan_X2 (by decide) lk_X2_weighSpan_16 dX2_weighSpan_113 rfl ?_
          refine ww_iload_n C dX2_weighSpan_116 rfl 5 rfl ?_
          refine ww_aald (k := 6) (j := i) (j' := i) C rfl (by decide) (by decide) (by decide) dX2_weighSpan_117 rfl (by omega) rfl ?_
          refine ww_iload_n C dX2_weighSpan_118 rfl 6 rfl ?_
          refine ww_iald (k := 10) (j := j) C rfl (show i < 14 from (by omega)) (by decide) dX2_weighSpan_119 rfl (by omega) ?_
          refine ww_icmp_ge 143 C dX2_weighSpan_120 (by decide) (fun h120 => ?_) (fun h120 => ?_)
          · refine ww_aload_n C dX2_weighSpan_143 rfl 3 rfl ?_
            refine ww_gr (j := 0) (k := 4) (f := 0) C rfl rfl (by decide) rfl in_X2_weighSpan_X2 (by decide) lk_X2_weighSpan_11 dX2_weighSpan_144 rfl ?_
            refine ww_iload_n C dX2_weighSpan_147 rfl 5 rfl ?_
            refine ww_aald (k := 5) (j := i) (j' := i) C rfl (by decide) (by decide) (by decide) dX2_weighSpan_148 rfl (by omega) rfl ?_
            refine ww_iload_n C dX2_weighSpan_149 rfl 6 rfl ?_
            refine ww_dup2 C dX2_weighSpan_150 rfl rfl ?_
            refine ww_iald (k := 9) (j := j) C rfl (show i < 14 from (by omega)) (by decide) dX2_weighSpan_151 rfl (by omega) ?_
            refine ww_iload C dX2_weighSpan_152 1 rfl ?_
            refine ww_iadd C dX2_weighSpan_154 ?_
            refine ww_iast (k := 9) (j := j) C rfl (show i < 14 from (by omega)) (by decide) dX2_weighSpan_155 rfl (by omega) ?_
            obtain ⟨σ8, hσ8⟩ : ∃ z : Sg, z = (sgu τ 9 (i) (j) ((τ 9 (i) (j)) + (bo))) := ⟨_, rfl⟩
            rw [← hσ8]
            refine ww_iinc (q := 2) (fun y9 => [(4, .int (y9)), (6, .int (to)), (5, .int (bo)), (0, .ref (gA G 4 (0))), (1, .ref (gA G 17 (p))), (2, .int (nI i)), (3, .int (nI j))]) C dX2_weighSpan_156 rfl (by decide) (fun _ => rfl) (fun y9 ey9 => ?_)
            obtain rfl : y9 = nI (k + 1) := ninc rfl ey9
            refine ww_goto 46 C dX2_weighSpan_159 (by decide) ?_
            have hb : bo = (σ 9 i k * σ 9 k j) := by rw [ebo, ht, sp3_j (by omega), sp3_i (by omega)]
            have ha : to = (σ 10 i k + σ 10 k j) := by rw [eto, ht, sp3_j (by omega), sp3_i (by omega)]
            have hk1 : i + 1 + (k - (i + 1)) = k := by omega
            have hst : σ8 = sp3 σ i j (spS (σ 9) (σ 10) i j (k + 1 - (i + 1))) := by
              rw [show k + 1 - (i + 1) = (k - (i + 1)) + 1 by omega, spS, hk1, if_neg (fun q => q.2.elim (fun q2 => by rw [ht, sp3_w] at h107; exact h107 q2) (fun q2 => by rw [← ha] at q2; rw [ht, sp3_s] at h120; exact absurd q2 (Int32.not_lt.mpr h120))), hσ8, ht, sp3_w, sp3_9, ← hb]
            exact ww_sub [0, 3, 4, 5, 6] rfl (ih (k + 1) _ (by omega) (by omega) (by omega) hst)
          · refine ww_aload_n C dX2_weighSpan_123 rfl 3 rfl ?_
            refine ww_gr (j := 0) (k := 4) (f := 1) C rfl rfl (by decide) rfl in_X2_weighSpan_X2 (by decide) lk_X2_weighSpan_16 dX2_weighSpan_124 rfl ?_
            refine ww_iload_n C dX2_weighSpan_127 rfl 5 rfl ?_
            refine ww_aald (k := 6) (j := i) (j' := i) C rfl (by decide) (by decide) (by decide) dX2_weighSpan_128 rfl (by omega) rfl ?_
            refine ww_iload_n C dX2_weighSpan_129 rfl 6 rfl ?_
            refine ww_iload C dX2_weighSpan_130 0 rfl ?_
            refine ww_iast (k := 10) (j := j) C rfl (show i < 14 from (by omega)) (by decide) dX2_weighSpan_132 rfl (by omega) ?_
            obtain ⟨σ10, hσ10⟩ : ∃ z : Sg, z = (sgu τ 10 (i) (j) (to)) := ⟨_, rfl⟩
            rw [← hσ10]
            refine ww_aload_n C dX2_weighSpan_133 rfl 3 rfl ?_
            refine ww_gr (j := 0) (k := 4) (f := 2) C rfl rfl (by decide) rfl in_X2_weighSpan_X2 (by decide) lk_X2_weighSpan_19 dX2_weighSpan_134 rfl ?_
            refine ww_iload_n C dX2_weighSpan_137 rfl 5 rfl ?_
            refine ww_aald (k := 7) (j := i) (j' := i) C rfl (by decide) (by decide) (by decide) dX2_weighSpan_138 rfl (by omega) rfl ?_
            refine ww_iload_n C dX2_weighSpan_139 rfl 6 rfl ?_
            refine ww_iload C dX2_weighSpan_140 2 rfl ?_
            refine ww_iast (k := 11) (j := j) C rfl (show i < 14 from (by omega)) (by decide) dX2_weighSpan_142 rfl (by omega) ?_
            obtain ⟨σ11, hσ11⟩ : ∃ z : Sg, z = (sgu σ10 11 (i) (j) (nI k)) := ⟨_, rfl⟩
            rw [← hσ11]
            refine ww_aload_n C dX2_weighSpan_143 rfl 3 rfl ?_
            refine ww_gr (j := 0) (k := 4) (f := 0) C rfl rfl (by decide) rfl in_X2_weighSpan_X2 (by decide) lk_X2_weighSpan_11 dX2_weighSpan_144 rfl ?_
            refine ww_iload_n C dX2_weighSpan_147 rfl 5 rfl ?_
            refine ww_aald (k := 5) (j := i) (j' := i) C rfl (by decide) (by decide) (by decide) dX2_weighSpan_148 rfl (by omega) rfl ?_
            refine ww_iload_n C dX2_weighSpan_149 rfl 6 rfl ?_
            refine ww_dup2 C dX2_weighSpan_150 rfl rfl ?_
            refine ww_iald (k := 9) (j := j) C rfl (show i < 14 from (by omega)) (by decide) dX2_weighSpan_151 rfl (by omega) ?_
            refine ww_iload C dX2_weighSpan_152 1 rfl ?_
            refine ww_iadd C dX2_weighSpan_154 ?_
            refine ww_iast (k := 9) (j := j) C rfl (show i < 14 from (by omega)) (by decide) dX2_weighSpan_155 rfl (by omega) ?_
            obtain ⟨σ12, hσ12⟩ : ∃ z : Sg, z = (sgu σ11 9 (i) (j) ((σ11 9 (i) (j)) + (bo))) := ⟨_, rfl⟩
            rw [← hσ12]
            refine ww_iinc (q := 2) (fun y13 => [(4, .int (y13)), (6, .int (to)), (5, .int (bo)), (0, .ref (gA G 4 (0))), (1, .ref (gA G 17 (p))), (2, .int (nI i)), (3, .int (nI j))]) C dX2_weighSpan_156 rfl (by decide) (fun _ => rfl) (fun y13 ey13 => ?_)
            obtain rfl : y13 = nI (k + 1) := ninc rfl ey13
            refine ww_goto 46 C dX2_weighSpan_159 (by decide) ?_
            have hb : bo = (σ 9 i k * σ 9 k j) := by rw [ebo, ht, sp3_j (by omega), sp3_i (by omega)]
            have ha : to = (σ 10 i k + σ 10 k j) := by rw [eto, ht, sp3_j (by omega), sp3_i (by omega)]
            have hk1 : i + 1 + (k - (i + 1)) = k := by omega
            have hst : σ12 = sp3 σ i j (spS (σ 9) (σ 10) i j (k + 1 - (i + 1))) := by
              rw [show k + 1 - (i + 1) = (k - (i + 1)) + 1 by omega, spS, hk1, if_pos ⟨by rw [← hb]; exact Int32.not_le.mp h96, Or.inr (by rw [← ha]; rw [ht, sp3_s] at h120; exact Int32.not_le.mp h120)⟩, hσ12, hσ11, hσ10, ht, sp3_10, sp3_11, sp3_w, sp3_9, ← hb, ← ha]
            exact ww_sub [0, 3, 4, 5, 6] rfl (ih (k + 1) _ (by omega) (by omega) (by omega) hst)
set_option maxHeartbeats 4000000 in
set_option maxRecDepth 100000 in
theorem c_X2_weighSpan (l : Launch) (G : Gx) (hA : wa G) (σ : Sg) (p n : Nat) (hp : p < 8) (hs : σ 14 (p + 1) 2 = nI n) (hn : n ≤ 14) (i j : Nat) (hij : i + 2 ≤ j) (hj : j < n) : CtV l yX2_weighSpan wsX2_weighSpan (rmd 2) G [.ref (gA G 4 (0)), .ref (gA G 17 (p)), .int (nI i), .int (nI j)] σ (fun σ2 => σ2 = sp3 σ i j (spF (σ 9) (σ 10) (σ 19 (14 * p + i) j) (sq9 (σ 15 (p + 1)) (σ 16 (p + 1)) i j) i j)) := by
  refine ct_v (maxL := 7) (ret := none) (by decide) rfl (Nat.le_of_ble_eq_true rfl) hA (fun K hl C => ?_)
  subst hl
  change WW K G _ _ σ [(0, .ref (gA G 4 (0))), (1, .ref (gA G 17 (p))), (2, .int (nI i)), (3, .int (nI j))] 0 []
  refine ww_aload_n C dX2_weighSpan_0 rfl 0 rfl ?_
  refine ww_gr (j := 0) (k := 4) (f := 0) C rfl rfl (by decide) rfl in_X2_weighSpan_X2 (by decide) lk_X2_weighSpan_11 dX2_weighSpan_1 rfl ?_
  refine ww_iload_n C dX2_weighSpan_4 rfl 2 rfl ?_
  refine ww_aald (k := 5) (j := i) (j' := i) C rfl (by decide) (by decide) (by decide) dX2_weighSpan_5 rfl (by omega) rfl ?_
  refine ww_iload_n C dX2_weighSpan_6 rfl 3 rfl ?_
  refine ww_iconst (v := 0) C dX2_weighSpan_7 rfl ?_
  refine ww_iast (k := 9) (j := j) C rfl (show i < 14 from (by omega)) (by decide) dX2_weighSpan_8 rfl (by omega) ?_
  obtain ⟨σ1, hσ1⟩ : ∃ z : Sg, z = (sgu σ 9 (i) (j) (0)) := ⟨_, rfl⟩
  rw [← hσ1]
  refine ww_aload_n C dX2_weighSpan_9 rfl 0 rfl ?_
  refine ww_gr (j := 0) (k := 4) (f := 1) C rfl rfl (by decide) rfl in_X2_weighSpan_X2 (by decide) lk_X2_weighSpan_16 dX2_weighSpan_10 rfl ?_
  refine ww_iload_n C dX2_weighSpan_13 rfl 2 rfl ?_
  refine ww_aald (k := 6) (j := i) (j' := i) C rfl (by decide) (by decide) (by decide) dX2_weighSpan_14 rfl (by omega) rfl ?_
  refine ww_iload_n C dX2_weighSpan_15 rfl 3 rfl ?_
  refine ww_iconst (v := 0) C dX2_weighSpan_16 rfl ?_
  refine ww_iast (k := 10) (j := j) C rfl (show i < 14 from (by omega)) (by decide) dX2_weighSpan_17 rfl (by omega) ?_
  obtain ⟨σ2, hσ2⟩ : ∃ z : Sg, z = (sgu σ1 10 (i) (j) (0)) := ⟨_, rfl⟩
  rw [← hσ2]
  refine ww_aload_n C dX2_weighSpan_18 rfl 0 rfl ?_
  refine ww_gr (j := 0) (k := 4) (f := 2) C rfl rfl (by decide) rfl in_X2_weighSpan_X2 (by decide) lk_X2_weighSpan_19 dX2_weighSpan_19 rfl ?_
  refine ww_iload_n C dX2_weighSpan_22 rfl 2 rfl ?_
  refine ww_aald (k := 7) (j := i) (j' := i) C rfl (by decide) (by decide) (by decide) dX2_weighSpan_23 rfl (by omega) rfl ?_
  refine ww_iload_n C dX2_weighSpan_24 rfl 3 rfl ?_
  refine ww_iload_n C dX2_weighSpan_25 rfl 2 rfl ?_
  refine ww_iconst (v := 1) C dX2_weighSpan_26 rfl ?_
  refine ww_iadd C dX2_weighSpan_27 ?_
  refine ww_iast (k := 11) (j := j) C rfl (show i < 14 from (by omega)) (by decide) dX2_weighSpan_28 rfl (by omega) ?_
  obtain ⟨σ3, hσ3⟩ : ∃ z : Sg, z = (sgu σ2 11 (i) (j) ((nI i) + (1))) := ⟨_, rfl⟩
  rw [← hσ3]
  refine ww_aload_n C dX2_weighSpan_29 rfl 1 rfl ?_
  refine ww_gr (j := p) (k := 17) (f := 1) C rfl rfl hp rfl in_X2_weighSpan_X3 (by decide) lk_X2_weighSpan_60 dX2_weighSpan_30 rfl ?_
  refine ww_iload_n C dX2_weighSpan_33 rfl 2 rfl ?_
  refine ww_aald (k := 18) (j := i) (j' := 14 * p + i) C rfl (by decide) hp (by decide) dX2_weighSpan_34 rfl (by omega) rfl ?_
  refine ww_iload_n C dX2_weighSpan_35 rfl 3 rfl ?_
  refine ww_iald (k := 19) (j := j) C rfl (dm19 hp (by omega)) (by decide) dX2_weighSpan_36 rfl (by omega) ?_
  refine ww_if_ne 41 C dX2_weighSpan_37 (by decide) (fun h37 => ?_) (fun h37 => ?_)
  · refine ww_iload_n C dX2_weighSpan_41 rfl 2 rfl ?_
    refine ww_iconst (v := 1) C dX2_weighSpan_42 rfl ?_
    refine ww_iadd C dX2_weighSpan_43 ?_
    refine ww_istore (fun y4 => [(4, .int (y4)), (0, .ref (gA G 4 (0))), (1, .ref (gA G 17 (p))), (2, .int (nI i)), (3, .int (nI j))]) C dX2_weighSpan_44 (by decide) (fun _ => rfl) (fun y4 ey4 => ?_)
    obtain rfl : y4 = nI (i + 1) := (ey4.trans (nI_add (i) (1)))
    have hst : σ3 = sp3 σ i j (spS (σ 9) (σ 10) i j (i + 1 - (i + 1))) := by rw [hσ3, hσ2, hσ1, Nat.sub_self, nI_1]; rfl
    exact ww_sub [0, 1, 2, 3, 4] rfl (lp_X2_weighSpan hA C σ p n hp hs hn i j hij hj (by rw [hσ3, hσ2, hσ1, sgu_kk (by decide), sgu_kk (by decide), sgu_kk (by decide)] at h37; exact h37) (j + 1) (i + 1) _ (by omega) (by omega) (by omega) hst)
  · refine ww_vret C dX2_weighSpan_40 ?_
    rw [hσ3, hσ2, hσ1] at h37 ⊢; rw [sgu_kk (by decide), sgu_kk (by decide), sgu_kk (by decide)] at h37; rw [spF, if_pos h37, nI_1]; rfl
