theorem in_X6_isNear_X6 : ∀ w ∈ wsX60, w ∈ wsX6_isNear := by decide +kernel
theorem lk_X6_isNear_16 : Cond.fieldLink RX6 16 "PolyCutsModel" "corners" "[I" ∈ wsX6_isNear := by decide +kernel
theorem in_X6_isSeen_X6 : ∀ w ∈ wsX60, w ∈ wsX6_isSeen := by decide +kernel
theorem lk_X6_isSeen_16 : Cond.fieldLink RX6 16 "PolyCutsModel" "corners" "[I" ∈ wsX6_isSeen := by decide +kernel
set_option maxHeartbeats 4000000 in
set_option maxRecDepth 100000 in
theorem c_X6_isNear (l : Launch) (G : Gx) (hA : wa G) (σ : Sg) (p n : Nat) (hp : p < 8) (hs : σ 33 0 p = nI n) (h3 : 3 ≤ n) (hn : n ≤ 14) (i j : Nat) (hi : i < n) (hj : j < n) : CtI l yX6_isNear wsX6_isNear (rmd 1) G [.ref (gA G 30 (0)), .int (nI p), .int (nI i), .int (nI j)] σ (fun r σ2 => r = bI (decide (af n i = j ∨ af n j = i)) ∧ σ2 = σ) := by
  refine ct_i (maxL := 4) (ret := (some .boolean)) (by decide) rfl (Nat.le_of_ble_eq_true rfl) hA (fun K hl C => ?_)
  subst hl
  change WW K G _ _ σ [(0, .ref (gA G 30 (0))), (1, .int (nI p)), (2, .int (nI i)), (3, .int (nI j))] 0 []
  refine ww_iload_n C dX6_isNear_0 rfl 2 rfl ?_
  refine ww_iconst (v := 1) C dX6_isNear_1 rfl ?_
  refine ww_iadd C dX6_isNear_2 ?_
  rw [show (nI i) + (1) = nI (i + 1) from nI_add (i) (1)]
  refine ww_aload_n C dX6_isNear_3 rfl 0 rfl ?_
  refine ww_gr (j := 0) (k := 30) (f := 4) C rfl rfl (by decide) rfl in_X6_isNear_X6 (by decide) lk_X6_isNear_16 dX6_isNear_4 rfl ?_
  refine ww_iload_n C dX6_isNear_7 rfl 1 rfl ?_
  refine ww_iald (k := 33) (j := p) C rfl (by decide) (by decide) dX6_isNear_8 rfl hp ?_
  rw [hs]
  refine ww_irem C dX6_isNear_9 (nI_ne0 (by omega) (by omega)) ?_
  rw [rem9 (a := i + 1) (b := n) rfl rfl (by omega) (by omega) (by omega)]
  refine ww_iload_n C dX6_isNear_10 rfl 3 rfl ?_
  refine ww_icmp_eq 28 C dX6_isNear_11 (by decide) (fun h11 => ?_) (fun h11 => ?_)
  · have g11 : (i + 1) % n = j := (cv_eq (a := (i + 1) % n) (b := j) rfl rfl (lt31 (mod14 (by omega) hn)) (by omega)).mp h11
    refine ww_iconst (v := 1) C dX6_isNear_28 rfl ?_
    refine ww_goto 33 C dX6_isNear_29 (by decide) ?_
    refine ww_zret C dX6_isNear_33 (by first | rfl | exact bI_n) ?_
    exact ⟨by rw [mod_s hi] at g11; rw [decide_eq_true (Or.inl g11)]; rfl, rfl⟩
  · have g11 : ¬ (i + 1) % n = j := fun q => h11 ((cv_eq (a := (i + 1) % n) (b := j) rfl rfl (lt31 (mod14 (by omega) hn)) (by omega)).mpr q)
    refine ww_iload_n C dX6_isNear_14 rfl 3 rfl ?_
    refine ww_iconst (v := 1) C dX6_isNear_15 rfl ?_
    refine ww_iadd C dX6_isNear_16 ?_
    rw [show (nI j) + (1) = nI (j + 1) from nI_add (j) (1)]
    refine ww_aload_n C dX6_isNear_17 rfl 0 rfl ?_
    refine ww_gr (j := 0) (k := 30) (f := 4) C rfl rfl (by decide) rfl in_X6_isNear_X6 (by decide) lk_X6_isNear_16 dX6_isNear_18 rfl ?_
    refine ww_iload_n C dX6_isNear_21 rfl 1 rfl ?_
    refine ww_iald (k := 33) (j := p) C rfl (by decide) (by decide) dX6_isNear_22 rfl hp ?_
    rw [hs]
    refine ww_irem C dX6_isNear_23 (nI_ne0 (by omega) (by omega)) ?_
    rw [rem9 (a := j + 1) (b := n) rfl rfl (by omega) (by omega) (by omega)]
    refine ww_iload_n C dX6_isNear_24 rfl 2 rfl ?_
    refine ww_icmp_ne 32 C dX6_isNear_25 (by decide) (fun h25 => ?_) (fun h25 => ?_)
    · have g25 : ¬ (j + 1) % n = i := fun q => h25 ((cv_eq (a := (j + 1) % n) (b := i) rfl rfl (lt31 (mod14 (by omega) hn)) (by omega)).mpr q)
      refine ww_iconst (v := 0) C dX6_isNear_32 rfl ?_
      refine ww_zret C dX6_isNear_33 (by first | rfl | exact bI_n) ?_
      exact ⟨by rw [mod_s hi] at g11; rw [mod_s hj] at g25; rw [decide_eq_false (fun q => q.elim g11 g25)]; rfl, rfl⟩
    · have g25 : (j + 1) % n = i := (cv_eq (a := (j + 1) % n) (b := i) rfl rfl (lt31 (mod14 (by omega) hn)) (by omega)).mp h25
      refine ww_iconst (v := 1) C dX6_isNear_28 rfl ?_
      refine ww_goto 33 C dX6_isNear_29 (by decide) ?_
      refine ww_zret C dX6_isNear_33 (by first | rfl | exact bI_n) ?_
      exact ⟨by rw [mod_s hj] at g25; rw [decide_eq_true (Or.inr g25)]; rfl, rfl⟩
def btP (x y : Nat → Int32) (a b c : Nat) : Bool := btw (x a) (y a) (x b) (y b) (x c) (y c)
def seenP (n : Nat) (x y : Nat → Int32) (i j : Nat) : Nat → Bool := fun k => (!(decide (k = i) || decide (k = j) || decide (af n k = i) || decide (af n k = j)) && mtP x y i j k (af n k)) || (!(decide (k = i) || decide (k = j)) && btP x y i j k)
def seenR (n : Nat) (x y : Nat → Int32) (i j : Nat) : Bool := (fndN (seenP n x y i j) 0 n).isNone && decide (plcR n x y (x i + x j) (y i + y j) 2 = 2)
def sightR (n : Nat) (x y : Nat → Int32) (i j : Nat) : Int32 := if af n i = j ∨ af n j = i then 2 else if seenR n x y i j = true then 1 else 0
set_option maxHeartbeats 4000000 in
set_option maxRecDepth 100000 in
theorem lp_X6_isSeen {K : Kx} {G : Gx} (hA : wa G) (C : CX K G cX6_isSeen 8 RX6 wsX6_isSeen (rmd 4) (some .boolean)) (σ : Sg) (p n : Nat) (hp : p < 8) (hs : σ 33 0 p = nI n) (h3 : 3 ≤ n) (hn : n ≤ 14) (i j : Nat) (hi : i < n) (hj : j < n) : ∀ (f k : Nat), n - k < f → (k ≤ n) → (fndN (seenP n (fun i => σ 34 0 (14 * p + i)) (fun i => σ 35 0 (14 * p + i)) i j) k n = fndN (seenP n (fun i => σ 34 0 (14 * p + i)) (fun i => σ 35 0 (14 * p + i)) i j) 0 n) → WW K G 8 (QI K G (fun r σ2 => r = bI (seenR n (fun i => σ 34 0 (14 * p + i)) (fun i => σ 35 0 (14 * p + i)) i j) ∧ σ2 = σ)) σ [(5, .int (nI k)), (4, .int (nI n)), (0, .ref (gA G 30 (0))), (1, .int (nI p)), (2, .int (nI i)), (3, .int (nI j))] 11 [] := by
  intro f
  induction f with
  | zero => intro k  h; exact absurd h (Nat.not_lt_zero _)
  | succ f ih =>
    intro k  hf hk hv
    refine ww_iload C dX6_isSeen_11 0 rfl ?_
    refine ww_iload C dX6_isSeen_13 1 rfl ?_
    refine ww_icmp_ge 187 C dX6_isSeen_15 (by decide) (fun h15 => ?_) (fun h15 => ?_)
    · have g15 : n ≤ k := (cv_le (a := n) (b := k) rfl rfl (by omega) (by omega)).mp h15
      refine ww_aload_n C dX6_isSeen_187 rfl 2 rfl ?_
      refine ww_iload_n C dX6_isSeen_188 rfl 3 rfl ?_
      refine ww_iconst (v := 2) C dX6_isSeen_189 rfl ?_
      refine ww_aload_n C dX6_isSeen_190 rfl 2 rfl ?_
      refine ww_iload_n C dX6_isSeen_191 rfl 3 rfl ?_
      refine ww_iload_n C dX6_isSeen_192 rfl 4 rfl ?_
      refine ww_calliF (cx_V (n := 2) (As := [.int (nI p), .int (nI i)]) C  (c_xOf_i (kL K) G hA _ p n hp hs h3 hn i (by omega)) gX6_isSeen_X6_xOf rfl ⟨rfl, rfl⟩ (by decide +kernel) (by decide) rfl (by decide) rfl rfl rfl (Nat.le_of_ble_eq_true rfl) dX6_isSeen_193) ?_
      refine ww_aload_n C dX6_isSeen_196 rfl 2 rfl ?_
      refine ww_iload_n C dX6_isSeen_197 rfl 3 rfl ?_
      refine ww_iload_n C dX6_isSeen_198 rfl 5 rfl ?_
      refine ww_calliF (cx_V (n := 2) (As := [.int (nI p), .int (nI j)]) C  (c_xOf_i (kL K) G hA _ p n hp hs h3 hn j (by omega)) gX6_isSeen_X6_xOf rfl ⟨rfl, rfl⟩ (by decide +kernel) (by decide) rfl (by decide) rfl rfl rfl (Nat.le_of_ble_eq_true rfl) dX6_isSeen_199) ?_
      refine ww_iadd C dX6_isSeen_202 ?_
      refine ww_aload_n C dX6_isSeen_203 rfl 2 rfl ?_
      refine ww_iload_n C dX6_isSeen_204 rfl 3 rfl ?_
      refine ww_iload_n C dX6_isSeen_205 rfl 4 rfl ?_
      refine ww_calliF (cx_V (n := 2) (As := [.int (nI p), .int (nI i)]) C  (c_yOf_i (kL K) G hA _ p n hp hs h3 hn i (by omega)) gX6_isSeen_X6_yOf rfl ⟨rfl, rfl⟩ (by decide +kernel) (by decide) rfl (by decide) rfl rfl rfl (Nat.le_of_ble_eq_true rfl) dX6_isSeen_206) ?_
      refine ww_aload_n C dX6_isSeen_209 rfl 2 rfl ?_
      refine ww_iload_n C dX6_isSeen_210 rfl 3 rfl ?_
      refine ww_iload_n C dX6_isSeen_211 rfl 5 rfl ?_
      refine ww_calliF (cx_V (n := 2) (As := [.int (nI p), .int (nI j)]) C  (c_yOf_i (kL K) G hA _ p n hp hs h3 hn j (by omega)) gX6_isSeen_X6_yOf rfl ⟨rfl, rfl⟩ (by decide +kernel) (by decide) rfl (by decide) rfl rfl rfl (Nat.le_of_ble_eq_true rfl) dX6_isSeen_212) ?_
      refine ww_iadd C dX6_isSeen_215 ?_
      refine ww_calliF (cx_V (n := 4) (As := [.int (nI p), .int (2), .int ((σ 34 0 (14 * p + i)) + (σ 34 0 (14 * p + j))), .int ((σ 35 0 (14 * p + i)) + (σ 35 0 (14 * p + j)))]) C  (c_X6_lies (kL K) G hA _ p n hp hs h3 hn _ _ _) gX6_isSeen_X6_lies rfl ⟨rfl, rfl⟩ (by decide +kernel) (by decide) rfl (by decide) rfl rfl rfl (Nat.le_of_ble_eq_true rfl) dX6_isSeen_216) ?_
      refine ww_iconst (v := 2) C dX6_isSeen_219 rfl ?_
      refine ww_bc_ne C dX6_isSeen_220 dX6_isSeen_223 dX6_isSeen_224 dX6_isSeen_227 ?_
      refine ww_zret C dX6_isSeen_228 (by first | rfl | exact bI_n) ?_
      exact ⟨by rw [seenR, ← hv, fndN_end g15]; rfl, rfl⟩
    · have g15 : ¬ n ≤ k := fun q => h15 ((cv_le (a := n) (b := k) rfl rfl (by omega) (by omega)).mpr q)
      refine ww_iload C dX6_isSeen_18 0 rfl ?_
      refine ww_iconst (v := 1) C dX6_isSeen_20 rfl ?_
      refine ww_iadd C dX6_isSeen_21 ?_
      rw [show (nI k) + (1) = nI (k + 1) from nI_add (k) (1)]
      refine ww_iload C dX6_isSeen_22 1 rfl ?_
      refine ww_irem C dX6_isSeen_24 (nI_ne0 (by omega) (by omega)) ?_
      rw [rem9 (a := k + 1) (b := n) rfl rfl (by omega) (by omega) (by omega)]
      refine ww_istore (fun y1 => [(6, .int (y1)), (5, .int (nI k)), (4, .int (nI n)), (0, .ref (gA G 30 (0))), (1, .int (nI p)), (2, .int (nI i)), (3, .int (nI j))]) C dX6_isSeen_25 (by decide) (fun _ => rfl) (fun y1 ey1 => ?_)
      obtain rfl : y1 = nI ((k + 1) % n) := ey1
      refine ww_iload C dX6_isSeen_27 1 rfl ?_
      refine ww_iload_n C dX6_isSeen_29 rfl 5 rfl ?_
      refine ww_icmp_eq 55 C dX6_isSeen_30 (by decide) (fun h30 => ?_) (fun h30 => ?_)
      · have g30 : k = i := (cv_eq (a := k) (b := i) rfl rfl (by omega) (by omega)).mp h30
        refine ww_iconst (v := 0) C dX6_isSeen_55 rfl ?_
        refine ww_istore (fun y2 => [(7, .int (y2)), (6, .int (nI ((k + 1) % n))), (5, .int (nI k)), (4, .int (nI n)), (0, .ref (gA G 30 (0))), (1, .int (nI p)), (2, .int (nI i)), (3, .int (nI j))]) C dX6_isSeen_56 (by decide) (fun _ => rfl) (fun y2 ey2 => ?_)
        obtain rfl : y2 = nI 0 := (ey2.trans (by decide))
        refine ww_iload C dX6_isSeen_58 0 rfl ?_
        refine ww_if_eq 123 C dX6_isSeen_60 (by decide) (fun h60 => ?_) (fun h60 => ?_)
        · have g60 : 0 = 0 := (cv_eq (a := 0) (b := 0) rfl (by decide) (by omega) (by omega)).mp h60
          refine ww_iload C dX6_isSeen_123 2 rfl ?_
          refine ww_iload_n C dX6_isSeen_125 rfl 6 rfl ?_
          refine ww_icmp_eq 181 C dX6_isSeen_126 (by decide) (fun h126 => ?_) (fun h126 => ?_)
          · have g126 : k = i := (cv_eq (a := k) (b := i) rfl rfl (by omega) (by omega)).mp h126
            refine ww_iinc (q := 2) (fun y3 => [(5, .int (y3)), (7, .int (nI 0)), (6, .int (nI ((k + 1) % n))), (4, .int (nI n)), (0, .ref (gA G 30 (0))), (1, .int (nI p)), (2, .int (nI i)), (3, .int (nI j))]) C dX6_isSeen_181 rfl (by decide) (fun _ => rfl) (fun y3 ey3 => ?_)
            obtain rfl : y3 = nI (k + 1) := ninc rfl ey3
            refine ww_goto 11 C dX6_isSeen_184 (by decide) ?_
            have hm := mod_s (show k < n by omega)
            have hf : (seenP n (fun i => σ 34 0 (14 * p + i)) (fun i => σ 35 0 (14 * p + i)) i j) k = false := by simp [seenP, g30, g126]
            exact ww_sub [0, 3, 4, 5, 6, 7] rfl (ih (k + 1) (by omega) (by omega) (by rw [← fndN_f (by omega) hf]; exact hv))
          · have g126 : ¬ k = i := fun q => h126 ((cv_eq (a := k) (b := i) rfl rfl (by omega) (by omega)).mpr q)
            refine ww_iload C dX6_isSeen_129 2 rfl ?_
            refine ww_iload_n C dX6_isSeen_131 rfl 7 rfl ?_
            refine ww_icmp_eq 181 C dX6_isSeen_132 (by decide) (fun h132 => ?_) (fun h132 => ?_)
            · have g132 : k = j := (cv_eq (a := k) (b := j) rfl rfl (by omega) (by omega)).mp h132
              refine ww_iinc (q := 2) (fun y4 => [(5, .int (y4)), (7, .int (nI 0)), (6, .int (nI ((k + 1) % n))), (4, .int (nI n)), (0, .ref (gA G 30 (0))), (1, .int (nI p)), (2, .int (nI i)), (3, .int (nI j))]) C dX6_isSeen_181 rfl (by decide) (fun _ => rfl) (fun y4 ey4 => ?_)
              obtain rfl : y4 = nI (k + 1) := ninc rfl ey4
              refine ww_goto 11 C dX6_isSeen_184 (by decide) ?_
              have hm := mod_s (show k < n by omega)
              have hf : (seenP n (fun i => σ 34 0 (14 * p + i)) (fun i => σ 35 0 (14 * p + i)) i j) k = false := by simp [seenP, g30, g126, g132]
              exact ww_sub [0, 3, 4, 5, 6, 7] rfl (ih (k + 1) (by omega) (by omega) (by rw [← fndN_f (by omega) hf]; exact hv))
            · have g132 : ¬ k = j := fun q => h132 ((cv_eq (a := k) (b := j) rfl rfl (by omega) (by omega)).mpr q)
              refine ww_aload_n C dX6_isSeen_135 rfl 4 rfl ?_
              refine ww_iload_n C dX6_isSeen_136 rfl 5 rfl ?_
              refine ww_iload_n C dX6_isSeen_137 rfl 6 rfl ?_
              refine ww_calliF (cx_V (n := 2) (As := [.int (nI p), .int (nI i)]) C  (c_xOf_i (kL K) G hA _ p n hp hs h3 hn i (by omega)) gX6_isSeen_X6_xOf rfl ⟨rfl, rfl⟩ (by decide +kernel) (by decide) rfl (by decide) rfl rfl rfl (Nat.le_of_ble_eq_true rfl) dX6_isSeen_138) ?_
              refine ww_aload_n C dX6_isSeen_141 rfl 4 rfl ?_
              refine ww_iload_n C dX6_isSeen_142 rfl 5 rfl ?_
              refine ww_iload_n C dX6_isSeen_143 rfl 6 rfl ?_
              refine ww_calliF (cx_V (n := 2) (As := [.int (nI p), .int (nI i)]) C  (c_yOf_i (kL K) G hA _ p n hp hs h3 hn i (by omega)) gX6_isSeen_X6_yOf rfl ⟨rfl, rfl⟩ (by decide +kernel) (by decide) rfl (by decide) rfl rfl rfl (Nat.le_of_ble_eq_true rfl) dX6_isSeen_144) ?_
              refine ww_aload_n C dX6_isSeen_147 rfl 4 rfl ?_
              refine ww_iload_n C dX6_isSeen_148 rfl 5 rfl ?_
              refine ww_iload_n C dX6_isSeen_149 rfl 7 rfl ?_
              refine ww_calliF (cx_V (n := 2) (As := [.int (nI p), .int (nI j)]) C  (c_xOf_i (kL K) G hA _ p n hp hs h3 hn j (by omega)) gX6_isSeen_X6_xOf rfl ⟨rfl, rfl⟩ (by decide +kernel) (by decide) rfl (by decide) rfl rfl rfl (Nat.le_of_ble_eq_true rfl) dX6_isSeen_150) ?_
              refine ww_aload_n C dX6_isSeen_153 rfl 4 rfl ?_
              refine ww_iload_n C dX6_isSeen_154 rfl 5 rfl ?_
              refine ww_iload_n C dX6_isSeen_155 rfl 7 rfl ?_
              refine ww_calliF (cx_V (n := 2) (As := [.int (nI p), .int (nI j)]) C  (c_yOf_i (kL K) G hA _ p n hp hs h3 hn j (by omega)) gX6_isSeen_X6_yOf rfl ⟨rfl, rfl⟩ (by decide +kernel) (by decide) rfl (by decide) rfl rfl rfl (Nat.le_of_ble_eq_true rfl) dX6_isSeen_156) ?_
              refine ww_aload_n C dX6_isSeen_159 rfl 4 rfl ?_
              refine ww_iload_n C dX6_isSeen_160 rfl 5 rfl ?_
              refine ww_iload C dX6_isSeen_161 2 rfl ?_
              refine ww_calliF (cx_V (n := 2) (As := [.int (nI p), .int (nI k)]) C  (c_xOf_i (kL K) G hA _ p n hp hs h3 hn k (by omega)) gX6_isSeen_X6_xOf rfl ⟨rfl, rfl⟩ (by decide +kernel) (by decide) rfl (by decide) rfl rfl rfl (Nat.le_of_ble_eq_true rfl) dX6_isSeen_163) ?_
              refine ww_aload_n C dX6_isSeen_166 rfl 4 rfl ?_
              refine ww_iload_n C dX6_isSeen_167 rfl 5 rfl ?_
              refine ww_iload C dX6_isSeen_168 2 rfl ?_
              refine ww_calliF (cx_V (n := 2) (As := [.int (nI p), .int (nI k)]) C  (c_yOf_i (kL K) G hA _ p n hp hs h3 hn k (by omega)) gX6_isSeen_X6_yOf rfl ⟨rfl, rfl⟩ (by decide +kernel) (by decide) rfl (by decide) rfl rfl rfl (Nat.le_of_ble_eq_true rfl) dX6_isSeen_170) ?_
              refine ww_calliF (cx_S (n := 6) (As := [.int (σ 34 0 (14 * p + i)), .int (σ 35 0 (14 * p + i)), .int (σ 34 0 (14 * p + j)), .int (σ 35 0 (14 * p + j)), .int (σ 34 0 (14 * p + k)), .int (σ 35 0 (14 * p + k))]) C  (c_X6_isBetween (kL K) G hA _ _ _ _ _ _ _) gX6_isSeen_X6_isBetween rfl ⟨rfl, rfl⟩ (by decide +kernel) (by decide) rfl rfl (Nat.le_of_ble_eq_true rfl) dX6_isSeen_173) ?_
              refine ww_if_eq 181 C dX6_isSeen_176 (by decide) (fun h176 => ?_) (fun h176 => ?_)
              · refine ww_iinc (q := 2) (fun y5 => [(5, .int (y5)), (7, .int (nI 0)), (6, .int (nI ((k + 1) % n))), (4, .int (nI n)), (0, .ref (gA G 30 (0))), (1, .int (nI p)), (2, .int (nI i)), (3, .int (nI j))]) C dX6_isSeen_181 rfl (by decide) (fun _ => rfl) (fun y5 ey5 => ?_)
                obtain rfl : y5 = nI (k + 1) := ninc rfl ey5
                refine ww_goto 11 C dX6_isSeen_184 (by decide) ?_
                have hm := mod_s (show k < n by omega)
                have q2 : btP (fun i => σ 34 0 (14 * p + i)) (fun i => σ 35 0 (14 * p + i)) i j k = false := bI_0.mp h176
                have hf : (seenP n (fun i => σ 34 0 (14 * p + i)) (fun i => σ 35 0 (14 * p + i)) i j) k = false := by simp [seenP, g30, g126, g132, q2]
                exact ww_sub [0, 3, 4, 5, 6, 7] rfl (ih (k + 1) (by omega) (by omega) (by rw [← fndN_f (by omega) hf]; exact hv))
              · refine ww_iconst (v := 0) C dX6_isSeen_179 rfl ?_
                refine ww_zret C dX6_isSeen_180 (by first | rfl | exact bI_n) ?_
                have q2 : btP (fun i => σ 34 0 (14 * p + i)) (fun i => σ 35 0 (14 * p + i)) i j k = true := bI_1.mp h176
                have hf : (seenP n (fun i => σ 34 0 (14 * p + i)) (fun i => σ 35 0 (14 * p + i)) i j) k = true := by simp [seenP, g126, g132, q2]
                exact ⟨by rw [seenR, ← hv, fndN_t (by omega) hf]; rfl, rfl⟩
        · have g60 : ¬ 0 = 0 := fun q => h60 ((cv_eq (a := 0) (b := 0) rfl (by decide) (by omega) (by omega)).mpr q)
          exact absurd g60 (by decide)
      · have g30 : ¬ k = i := fun q => h30 ((cv_eq (a := k) (b := i) rfl rfl (by omega) (by omega)).mpr q)
        refine ww_iload C dX6_isSeen_33 1 rfl ?_
        refine ww_iload_n C dX6_isSeen_35 rfl 6 rfl ?_
        refine ww_icmp_eq 55 C dX6_isSeen_36 (by decide) (fun h36 => ?_) (fun h36 => ?_)
        · have g36 : k = j := (cv_eq (a := k) (b := j) rfl rfl (by omega) (by omega)).mp h36
          refine ww_iconst (v := 0) C dX6_isSeen_55 rfl ?_
          refine ww_istore (fun y6 => [(7, .int (y6)), (6, .int (nI ((k + 1) % n))), (5, .int (nI k)), (4, .int (nI n)), (0, .ref (gA G 30 (0))), (1, .int (nI p)), (2, .int (nI i)), (3, .int (nI j))]) C dX6_isSeen_56 (by decide) (fun _ => rfl) (fun y6 ey6 => ?_)
          obtain rfl : y6 = nI 0 := (ey6.trans (by decide))
          refine ww_iload C dX6_isSeen_58 0 rfl ?_
          refine ww_if_eq 123 C dX6_isSeen_60 (by decide) (fun h60 => ?_) (fun h60 => ?_)
          · have g60 : 0 = 0 := (cv_eq (a := 0) (b := 0) rfl (by decide) (by omega) (by omega)).mp h60
            refine ww_iload C dX6_isSeen_123 2 rfl ?_
            refine ww_iload_n C dX6_isSeen_125 rfl 6 rfl ?_
            refine ww_icmp_eq 181 C dX6_isSeen_126 (by decide) (fun h126 => ?_) (fun h126 => ?_)
            · have g126 : k = i := (cv_eq (a := k) (b := i) rfl rfl (by omega) (by omega)).mp h126
              refine ww_iinc (q := 2) (fun y7 => [(5, .int (y7)), (7, .int (nI 0)), (6, .int (nI ((k + 1) % n))), (4, .int (nI n)), (0, .ref (gA G 30 (0))), (1, .int (nI p)), (2, .int (nI i)), (3, .int (nI j))]) C dX6_isSeen_181 rfl (by decide) (fun _ => rfl) (fun y7 ey7 => ?_)
              obtain rfl : y7 = nI (k + 1) := ninc rfl ey7
              refine ww_goto 11 C dX6_isSeen_184 (by decide) ?_
              have hm := mod_s (show k < n by omega)
              have hf : (seenP n (fun i => σ 34 0 (14 * p + i)) (fun i => σ 35 0 (14 * p + i)) i j) k = false := by simp [seenP, g30, g36, g126]
              exact ww_sub [0, 3, 4, 5, 6, 7] rfl (ih (k + 1) (by omega) (by omega) (by rw [← fndN_f (by omega) hf]; exact hv))
            · have g126 : ¬ k = i := fun q => h126 ((cv_eq (a := k) (b := i) rfl rfl (by omega) (by omega)).mpr q)
              refine ww_iload C dX6_isSeen_129 2 rfl ?_
              refine ww_iload_n C dX6_isSeen_131 rfl 7 rfl ?_
              refine ww_icmp_eq 181 C dX6_isSeen_132 (by decide) (fun h132 => ?_) (fun h132 => ?_)
              · have g132 : k = j := (cv_eq (a := k) (b := j) rfl rfl (by omega) (by omega)).mp h132
                refine ww_iinc (q := 2) (fun y8 => [(5, .int (y8)), (7, .int (nI 0)), (6, .int (nI ((k + 1) % n))), (4, .int (nI n)), (0, .ref (gA G 30 (0))), (1, .int (nI p)), (2, .int (nI i)), (3, .int (nI j))]) C dX6_isSeen_181 rfl (by decide) (fun _ => rfl) (fun y8 ey8 => ?_)
                obtain rfl : y8 = nI (k + 1) := ninc rfl ey8
                refine ww_goto 11 C dX6_isSeen_184 (by decide) ?_
                have hm := mod_s (show k < n by omega)
                have hf : (seenP n (fun i => σ 34 0 (14 * p + i)) (fun i => σ 35 0 (14 * p + i)) i j) k = false := by simp [seenP, g30, g36, g126, g132]
                exact ww_sub [0, 3, 4, 5, 6, 7] rfl (ih (k + 1) (by omega) (by omega) (by rw [← fndN_f (by omega) hf]; exact hv))
              · have g132 : ¬ k = j := fun q => h132 ((cv_eq (a := k) (b := j) rfl rfl (by omega) (by omega)).mpr q)
                refine ww_aload_n C dX6_isSeen_135 rfl 4 rfl ?_
                refine ww_iload_n C dX6_isSeen_136 rfl 5 rfl ?_
                refine ww_iload_n C dX6_isSeen_137 rfl 6 rfl ?_
                refine ww_calliF (cx_V (n := 2) (As := [.int (nI p), .int (nI i)]) C  (c_xOf_i (kL K) G hA _ p n hp hs h3 hn i (by omega)) gX6_isSeen_X6_xOf rfl ⟨rfl, rfl⟩ (by decide +kernel) (by decide) rfl (by decide) rfl rfl rfl (Nat.le_of_ble_eq_true rfl) dX6_isSeen_138) ?_
                refine ww_aload_n C dX6_isSeen_141 rfl 4 rfl ?_
                refine ww_iload_n C dX6_isSeen_142 rfl 5 rfl ?_
                refine ww_iload_n C dX6_isSeen_143 rfl 6 rfl ?_
                refine ww_calliF (cx_V (n := 2) (As := [.int (nI p), .int (nI i)]) C  (c_yOf_i (kL K) G hA _ p n hp hs h3 hn i (by omega)) gX6_isSeen_X6_yOf rfl ⟨rfl, rfl⟩ (by decide +kernel) (by decide) rfl (by decide) rfl rfl rfl (Nat.le_of_ble_eq_true rfl) dX6_isSeen_144) ?_
                refine ww_aload_n C dX6_isSeen_147 rfl 4 rfl ?_
                refine ww_iload_n C dX6_isSeen_148 rfl 5 rfl ?_
                refine ww_iload_n C dX6_isSeen_149 rfl 7 rfl ?_
                refine ww_calliF (cx_V (n := 2) (As := [.int (nI p), .int (nI j)]) C  (c_xOf_i (kL K) G hA _ p n hp hs h3 hn j (by omega)) gX6_isSeen_X6_xOf rfl ⟨rfl, rfl⟩ (by decide +kernel) (by decide) rfl (by decide) rfl rfl rfl (Nat.le_of_ble_eq_true rfl) dX6_isSeen_150) ?_
                refine ww_aload_n C dX6_isSeen_153 rfl 4 rfl ?_
                refine ww_iload_n C dX6_isSeen_154 rfl 5 rfl ?_
                refine ww_iload_n C dX6_isSeen_155 rfl 7 rfl ?_
                refine ww_calliF (cx_V (n := 2) (As := [.int (nI p), .int (nI j)]) C  (c_yOf_i (kL K) G hA _ p n hp hs h3 hn j (by omega)) gX6_isSeen_X6_yOf rfl ⟨rfl, rfl⟩ (by decide +kernel) (by decide) rfl (by decide) rfl rfl rfl (Nat.le_of_ble_eq_true rfl) dX6_isSeen_156) ?_
                refine ww_aload_n C dX6_isSeen_159 rfl 4 rfl ?_
                refine ww_iload_n C dX6_isSeen_160 rfl 5 rfl ?_
                refine ww_iload C dX6_isSeen_161 2 rfl ?_
                refine ww_calliF (cx_V (n := 2) (As := [.int (nI p), .int (nI k)]) C  (c_xOf_i (kL K) G hA _ p n hp hs h3 hn k (by omega)) gX6_isSeen_X6_xOf rfl ⟨rfl, rfl⟩ (by decide +kernel) (by decide) rfl (by decide) rfl rfl rfl (Nat.le_of_ble_eq_true rfl) dX6_isSeen_163) ?_
                refine ww_aload_n C dX6_isSeen_166 rfl 4 rfl ?_
                refine ww_iload_n C dX6_isSeen_167 rfl 5 rfl ?_
                refine ww_iload C dX6_isSeen_168 2 rfl ?_
                refine ww_calliF (cx_V (n := 2) (As := [.int (nI p), .int (nI k)]) C  (c_yOf_i (kL K) G hA _ p n hp hs h3 hn k (by omega)) gX6_isSeen_X6_yOf rfl ⟨rfl, rfl⟩ (by decide +kernel) (by decide) rfl (by decide) rfl rfl rfl (Nat.le_of_ble_eq_true rfl) dX6_isSeen_170) ?_
                refine ww_calliF (cx_S (n := 6) (As := [.int (σ 34 0 (14 * p + i)), .int (σ 35 0 (14 * p + i)), .int (σ 34 0 (14 * p + j)), .int (σ 35 0 (14 * p + j)), .int (σ 34 0 (14 * p + k)), .int (σ 35 0 (14 * p + k))]) C  (c_X6_isBetween (kL K) G hA _ _ _ _ _ _ _) gX6_isSeen_X6_isBetween rfl ⟨rfl, rfl⟩ (by decide +kernel) (by decide) rfl rfl (Nat.le_of_ble_eq_true rfl) dX6_isSeen_173) ?_
                refine ww_if_eq 181 C dX6_isSeen_176 (by decide) (fun h176 => ?_) (fun h176 => ?_)
                · refine ww_iinc (q := 2) (fun y9 => [(5, .int (y9)), (7, .int (nI 0)), (6, .int (nI ((k + 1) % n))), (4, .int (nI n)), (0, .ref (gA G 30 (0))), (1, .int (nI p)), (2, .int (nI i)), (3, .int (nI j))]) C dX6_isSeen_181 rfl (by decide) (fun _ => rfl) (fun y9 ey9 => ?_)
                  obtain rfl : y9 = nI (k + 1) := ninc rfl ey9
                  refine ww_goto 11 C dX6_isSeen_184 (by decide) ?_
                  have hm := mod_s (show k < n by omega)
                  have q2 : btP (fun i => σ 34 0 (14 * p + i)) (fun i => σ 35 0 (14 * p + i)) i j k = false := bI_0.mp h176
                  have hf : (seenP n (fun i => σ 34 0 (14 * p + i)) (fun i => σ 35 0 (14 * p + i)) i j) k = false := by simp [seenP, g30, g36, g126, g132, q2]
                  exact ww_sub [0, 3, 4, 5, 6, 7] rfl (ih (k + 1) (by omega) (by omega) (by rw [← fndN_f (by omega) hf]; exact hv))
                · refine ww_iconst (v := 0) C dX6_isSeen_179 rfl ?_
                  refine ww_zret C dX6_isSeen_180 (by first | rfl | exact bI_n) ?_
                  have q2 : btP (fun i => σ 34 0 (14 * p + i)) (fun i => σ 35 0 (14 * p + i)) i j k = true := bI_1.mp h176
                  have hf : (seenP n (fun i => σ 34 0 (14 * p + i)) (fun i => σ 35 0 (14 * p + i)) i j) k = true := by simp [seenP, g126, g132, q2]
                  exact ⟨by rw [seenR, ← hv, fndN_t (by omega) hf]; rfl, rfl⟩
          · have g60 : ¬ 0 = 0 := fun q => h60 ((cv_eq (a := 0) (b := 0) rfl (by decide) (by omega) (by omega)).mpr q)
            exact absurd g60 (by decide)
        · have g36 : ¬ k = j := fun q => h36 ((cv_eq (a := k) (b := j) rfl rfl (by omega) (by omega)).mpr q)
          refine ww_iload C dX6_isSeen_39 0 rfl ?_
          refine ww_iload_n C dX6_isSeen_41 rfl 5 rfl ?_
          refine ww_icmp_eq 55 C dX6_isSeen_42 (by decide) (fun h42 => ?_) (fun h42 => ?_)
          · have g42 : (k + 1) % n = i := (cv_eq (a := (k + 1) % n) (b := i) rfl rfl (lt31 (mod14 (by omega) hn)) (by omega)).mp h42
            refine ww_iconst (v := 0) C dX6_isSeen_55 rfl ?_
            refine ww_istore (fun y10 => [(7, .int (y10)), (6, .int (nI ((k + 1) % n))), (5, .int (nI k)), (4, .int (nI n)), (0, .ref (gA G 30 (0))), (1, .int (nI p)), (2, .int (nI i)), (3, .int (nI j))]) C dX6_isSeen_56 (by decide) (fun _ => rfl) (fun y10 ey10 => ?_)
            obtain rfl : y10 = nI 0 := (ey10.trans (by decide))
            refine ww_iload C dX6_isSeen_58 0 rfl ?_
            refine ww_if_eq 123 C dX6_isSeen_60 (by decide) (fun h60 => ?_) (fun h60 => ?_)
            · have g60 : 0 = 0 := (cv_eq (a := 0) (b := 0) rfl (by decide) (by omega) (by omega)).mp h60
              refine ww_iload C dX6_isSeen_123 2 rfl ?_
              refine ww_iload_n C dX6_isSeen_125 rfl 6 rfl ?_
              refine ww_icmp_eq 181 C dX6_isSeen_126 (by decide) (fun h126 => ?_) (fun h126 => ?_)
              · have g126 : k = i := (cv_eq (a := k) (b := i) rfl rfl (by omega) (by omega)).mp h126
                refine ww_iinc (q := 2) (fun y11 => [(5, .int (y11)), (7, .int (nI 0)), (6, .int (nI ((k + 1) % n))), (4, .int (nI n)), (0, .ref (gA G 30 (0))), (1, .int (nI p)), (2, .int (nI i)), (3, .int (nI j))]) C dX6_isSeen_181 rfl (by decide) (fun _ => rfl) (fun y11 ey11 => ?_)
                obtain rfl : y11 = nI (k + 1) := ninc rfl ey11
                refine ww_goto 11 C dX6_isSeen_184 (by decide) ?_
                have hm := mod_s (show k < n by omega)
                rw [hm] at g42
                have hf : (seenP n (fun i => σ 34 0 (14 * p + i)) (fun i => σ 35 0 (14 * p + i)) i j) k = false := by simp [seenP, g30, g36, g42, g126]
                exact ww_sub [0, 3, 4, 5, 6, 7] rfl (ih (k + 1) (by omega) (by omega) (by rw [← fndN_f (by omega) hf]; exact hv))
              · have g126 : ¬ k = i := fun q => h126 ((cv_eq (a := k) (b := i) rfl rfl (by omega) (by omega)).mpr q)
                refine ww_iload C dX6_isSeen_129 2 rfl ?_
                refine ww_iload_n C dX6_isSeen_131 rfl 7 rfl ?_
                refine ww_icmp_eq 181 C dX6_isSeen_132 (by decide) (fun h132 => ?_) (fun h132 => ?_)
                · have g132 : k = j := (cv_eq (a := k) (b := j) rfl rfl (by omega) (by omega)).mp h132
                  refine ww_iinc (q := 2) (fun y12 => [(5, .int (y12)), (7, .int (nI 0)), (6, .int (nI ((k + 1) % n))), (4, .int (nI n)), (0, .ref (gA G 30 (0))), (1, .int (nI p)), (2, .int (nI i)), (3, .int (nI j))]) C dX6_isSeen_181 rfl (by decide) (fun _ => rfl) (fun y12 ey12 => ?_)
                  obtain rfl : y12 = nI (k + 1) := ninc rfl ey12
                  refine ww_goto 11 C dX6_isSeen_184 (by decide) ?_
                  have hm := mod_s (show k < n by omega)
                  rw [hm] at g42
                  have hf : (seenP n (fun i => σ 34 0 (14 * p + i)) (fun i => σ 35 0 (14 * p + i)) i j) k = false := by simp [seenP, g30, g36, g42, g126, g132]
                  exact ww_sub [0, 3, 4, 5, 6, 7] rfl (ih (k + 1) (by omega) (by omega) (by rw [← fndN_f (by omega) hf]; exact hv))
                · have g132 : ¬ k = j := fun q => h132 ((cv_eq (a := k) (b := j) rfl rfl (by omega) (by omega)).mpr q)
                  refine ww_aload_n C dX6_isSeen_135 rfl 4 rfl ?_
                  refine ww_iload_n C dX6_isSeen_136 rfl 5 rfl ?_
                  refine ww_iload_n C dX6_isSeen_137 rfl 6 rfl ?_
                  refine ww_calliF (cx_V (n := 2) (As := [.int (nI p), .int (nI i)]) C  (c_xOf_i (kL K) G hA _ p n hp hs h3 hn i (by omega)) gX6_isSeen_X6_xOf rfl ⟨rfl, rfl⟩ (by decide +kernel) (by decide) rfl (by decide) rfl rfl rfl (Nat.le_of_ble_eq_true rfl) dX6_isSeen_138) ?_
                  refine ww_aload_n C dX6_isSeen_141 rfl 4 rfl ?_
                  refine ww_iload_n C dX6_isSeen_142 rfl 5 rfl ?_
                  refine ww_iload_n C dX6_isSeen_143 rfl 6 rfl ?_
                  refine ww_calliF (cx_V (n := 2) (As := [.int (nI p), .int (nI i)]) C  (c_yOf_i (kL K) G hA _ p n hp hs h3 hn i (by omega)) gX6_isSeen_X6_yOf rfl ⟨rfl, rfl⟩ (by decide +kernel) (by decide) rfl (by decide) rfl rfl rfl (Nat.le_of_ble_eq_true rfl) dX6_isSeen_144) ?_
                  refine ww_aload_n C dX6_isSeen_147 rfl 4 rfl ?_
                  refine ww_iload_n C dX6_isSeen_148 rfl 5 rfl ?_
                  refine ww_iload_n C dX6_isSeen_149 rfl 7 rfl ?_
                  refine ww_calliF (cx_V (n := 2) (As := [.int (nI p), .int (nI j)]) C  (c_xOf_i (kL K) G hA _ p n hp hs h3 hn j (by omega)) gX6_isSeen_X6_xOf rfl ⟨rfl, rfl⟩ (by decide +kernel) (by decide) rfl (by decide) rfl rfl rfl (Nat.le_of_ble_eq_true rfl) dX6_isSeen_150) ?_
                  refine ww_aload_n C dX6_isSeen_153 rfl 4 rfl ?_
                  refine ww_iload_n C dX6_isSeen_154 rfl 5 rfl ?_
                  refine ww_iload_n C dX6_isSeen_155 rfl 7 rfl ?_
                  refine ww_calliF (cx_V (n := 2) (As := [.int (nI p), .int (nI j)]) C  (c_yOf_i (kL K) G hA _ p n hp hs h3 hn j (by omega)) gX6_isSeen_X6_yOf rfl ⟨rfl, rfl⟩ (by decide +kernel) (by decide) rfl (by decide) rfl rfl rfl (Nat.le_of_ble_eq_true rfl) dX6_isSeen_156) ?_
                  refine ww_aload_n C dX6_isSeen_159 rfl 4 rfl ?_
                  refine ww_iload_n C dX6_isSeen_160 rfl 5 rfl ?_
                  refine ww_iload C dX6_isSeen_161 2 rfl ?_
                  refine ww_calliF (cx_V (n := 2) (As := [.int (nI p), .int (nI k)]) C  (c_xOf_i (kL K) G hA _ p n hp hs h3 hn k (by omega)) gX6_isSeen_X6_xOf rfl ⟨rfl, rfl⟩ (by decide +kernel) (by decide) rfl (by decide) rfl rfl rfl (Nat.le_of_ble_eq_true rfl) dX6_isSeen_163) ?_
                  refine ww_aload_n C dX6_isSeen_166 rfl 4 rfl ?_
                  refine ww_iload_n C dX6_isSeen_167 rfl 5 rfl ?_
                  refine ww_iload C dX6_isSeen_168 2 rfl ?_
                  refine ww_calliF (cx_V (n := 2) (As := [.int (nI p), .int (nI k)]) C  (c_yOf_i (kL K) G hA _ p n hp hs h3 hn k (by omega)) gX6_isSeen_X6_yOf rfl ⟨rfl, rfl⟩ (by decide +kernel) (by decide) rfl (by decide) rfl rfl rfl (Nat.le_of_ble_eq_true rfl) dX6_isSeen_170) ?_
                  refine ww_calliF (cx_S (n := 6) (As := [.int (σ 34 0 (14 * p + i)), .int (σ 35 0 (14 * p + i)), .int (σ 34 0 (14 * p + j)), .int (σ 35 0 (14 * p + j)), .int (σ 34 0 (14 * p + k)), .int (σ 35 0 (14 * p + k))]) C  (c_X6_isBetween (kL K) G hA _ _ _ _ _ _ _) gX6_isSeen_X6_isBetween rfl ⟨rfl, rfl⟩ (by decide +kernel) (by decide) rfl rfl (Nat.le_of_ble_eq_true rfl) dX6_isSeen_173) ?_
                  refine ww_if_eq 181 C dX6_isSeen_176 (by decide) (fun h176 => ?_) (fun h176 => ?_)
                  · refine ww_iinc (q := 2) (fun y13 => [(5, .int (y13)), (7, .int (nI 0)), (6, .int (nI ((k + 1) % n))), (4, .int (nI n)), (0, .ref (gA G 30 (0))), (1, .int (nI p)), (2, .int (nI i)), (3, .int (nI j))]) C dX6_isSeen_181 rfl (by decide) (fun _ => rfl) (fun y13 ey13 => ?_)
                    obtain rfl : y13 = nI (k + 1) := ninc rfl ey13
                    refine ww_goto 11 C dX6_isSeen_184 (by decide) ?_
                    have hm := mod_s (show k < n by omega)
                    have q2 : btP (fun i => σ 34 0 (14 * p + i)) (fun i => σ 35 0 (14 * p + i)) i j k = false := bI_0.mp h176
                    rw [hm] at g42
                    have hf : (seenP n (fun i => σ 34 0 (14 * p + i)) (fun i => σ 35 0 (14 * p + i)) i j) k = false := by simp [seenP, g30, g36, g42, g126, g132, q2]
                    exact ww_sub [0, 3, 4, 5, 6, 7] rfl (ih (k + 1) (by omega) (by omega) (by rw [← fndN_f (by omega) hf]; exact hv))
                  · refine ww_iconst (v := 0) C dX6_isSeen_179 rfl ?_
                    refine ww_zret C dX6_isSeen_180 (by first | rfl | exact bI_n) ?_
                    have q2 : btP (fun i => σ 34 0 (14 * p + i)) (fun i => σ 35 0 (14 * p + i)) i j k = true := bI_1.mp h176
                    have hf : (seenP n (fun i => σ 34 0 (14 * p + i)) (fun i => σ 35 0 (14 * p + i)) i j) k = true := by simp [seenP, g126, g132, q2]
                    exact ⟨by rw [seenR, ← hv, fndN_t (by omega) hf]; rfl, rfl⟩
            · have g60 : ¬ 0 = 0 := fun q => h60 ((cv_eq (a := 0) (b := 0) rfl (by decide) (by omega) (by omega)).mpr q)
              exact absurd g60 (by decide)
          · have g42 : ¬ (k + 1) % n = i := fun q => h42 ((cv_eq (a := (k + 1) % n) (b := i) rfl rfl (lt31 (mod14 (by omega) hn)) (by omega)).mpr q)
            refine ww_iload C dX6_isSeen_45 0 rfl ?_
            refine ww_iload_n C dX6_isSeen_47 rfl 6 rfl ?_
            refine ww_icmp_eq 55 C dX6_isSeen_48 (by decide) (fun h48 => ?_) (fun h48 => ?_)
            · have g48 : (k + 1) % n = j := (cv_eq (a := (k + 1) % n) (b := j) rfl rfl (lt31 (mod14 (by omega) hn)) (by omega)).mp h48
              refine ww_iconst (v := 0) C dX6_isSeen_55 rfl ?_
              refine ww_istore (fun y14 => [(7, .int (y14)), (6, .int (nI ((k + 1) % n))), (5, .int (nI k)), (4, .int (nI n)), (0, .ref (gA G 30 (0))), (1, .int (nI p)), (2, .int (nI i)), (3, .int (nI j))]) C dX6_isSeen_56 (by decide) (fun _ => rfl) (fun y14 ey14 => ?_)
              obtain rfl : y14 = nI 0 := (ey14.trans (by decide))
              refine ww_iload C dX6_isSeen_58 0 rfl ?_
              refine ww_if_eq 123 C dX6_isSeen_60 (by decide) (fun h60 => ?_) (fun h60 => ?_)
              · have g60 : 0 = 0 := (cv_eq (a := 0) (b := 0) rfl (by decide) (by omega) (by omega)).mp h60
                refine ww_iload C dX6_isSeen_123 2 rfl ?_
                refine ww_iload_n C dX6_isSeen_125 rfl 6 rfl ?_
                refine ww_icmp_eq 181 C dX6_isSeen_126 (by decide) (fun h126 => ?_) (fun h126 => ?_)
                · have g126 : k = i := (cv_eq (a := k) (b := i) rfl rfl (by omega) (by omega)).mp h126
                  refine ww_iinc (q := 2) (fun y15 => [(5, .int (y15)), (7, .int (nI 0)), (6, .int (nI ((k + 1) % n))), (4, .int (nI n)), (0, .ref (gA G 30 (0))), (1, .int (nI p)), (2, .int (nI i)), (3, .int (nI j))]) C dX6_isSeen_181 rfl (by decide) (fun _ => rfl) (fun y15 ey15 => ?_)
                  obtain rfl : y15 = nI (k + 1) := ninc rfl ey15
                  refine ww_goto 11 C dX6_isSeen_184 (by decide) ?_
                  have hm := mod_s (show k < n by omega)
                  rw [hm] at g42
                  rw [hm] at g48
                  have hf : (seenP n (fun i => σ 34 0 (14 * p + i)) (fun i => σ 35 0 (14 * p + i)) i j) k = false := by simp [seenP, g30, g36, g42, g48, g126]
                  exact ww_sub [0, 3, 4, 5, 6, 7] rfl (ih (k + 1) (by omega) (by omega) (by rw [← fndN_f (by omega) hf]; exact hv))
                · have g126 : ¬ k = i := fun q => h126 ((cv_eq (a := k) (b := i) rfl rfl (by omega) (by omega)).mpr q)
                  refine ww_iload C dX6_isSeen_129 2 rfl ?_
                  refine ww_iload_n C dX6_isSeen_131 rfl 7 rfl ?_
                  refine ww_icmp_eq 181 C dX6_isSeen_132 (by decide) (fun h132 => ?_) (fun h132 => ?_)
                  · have g132 : k = j := (cv_eq (a := k) (b := j) rfl rfl (by omega) (by omega)).mp h132
                    refine ww_iinc (q := 2) (fun y16 => [(5, .int (y16)), (7, .int (nI 0)), (6, .int (nI ((k + 1) % n))), (4, .int (nI n)), (0, .ref (gA G 30 (0))), (1, .int (nI p)), (2, .int (nI i)), (3, .int (nI j))]) C dX6_isSeen_181 rfl (by decide) (fun _ => rfl) (fun y16 ey16 => ?_)
                    obtain rfl : y16 = nI (k + 1) := ninc rfl ey16
                    refine ww_goto 11 C dX6_isSeen_184 (by decide) ?_
                    have hm := mod_s (show k < n by omega)
                    rw [hm] at g42
                    rw [hm] at g48
                    have hf : (seenP n (fun i => σ 34 0 (14 * p + i)) (fun i => σ 35 0 (14 * p + i)) i j) k = false := by simp [seenP, g30, g36, g42, g48, g126, g132]
                    exact ww_sub [0, 3, 4, 5, 6, 7] rfl (ih (k + 1) (by omega) (by omega) (by rw [← fndN_f (by omega) hf]; exact hv))
                  · have g132 : ¬ k = j := fun q => h132 ((cv_eq (a := k) (b := j) rfl rfl (by omega) (by omega)).mpr q)
                    refine ww_aload_n C dX6_isSeen_135 rfl 4 rfl ?_
                    refine ww_iload_n C dX6_isSeen_136 rfl 5 rfl ?_
                    refine ww_iload_n C dX6_isSeen_137 rfl 6 rfl ?_
                    refine ww_calliF (cx_V (n := 2) (As := [.int (nI p), .int (nI i)]) C  (c_xOf_i (kL K) G hA _ p n hp hs h3 hn i (by omega)) gX6_isSeen_X6_xOf rfl ⟨rfl, rfl⟩ (by decide +kernel) (by decide) rfl (by decide) rfl rfl rfl (Nat.le_of_ble_eq_true rfl) dX6_isSeen_138) ?_
                    refine ww_aload_n C dX6_isSeen_141 rfl 4 rfl ?_
                    refine ww_iload_n C dX6_isSeen_142 rfl 5 rfl ?_
                    refine ww_iload_n C dX6_isSeen_143 rfl 6 rfl ?_
                    refine ww_calliF (cx_V (n := 2) (As := [.int (nI p), .int (nI i)]) C  (c_yOf_i (kL K) G hA _ p n hp hs h3 hn i (by omega)) gX6_isSeen_X6_yOf rfl ⟨rfl, rfl⟩ (by decide +kernel) (by decide) rfl (by decide) rfl rfl rfl (Nat.le_of_ble_eq_true rfl) dX6_isSeen_144) ?_
                    refine ww_aload_n C dX6_isSeen_147 rfl 4 rfl ?_
                    refine ww_iload_n C dX6_isSeen_148 rfl 5 rfl ?_
                    refine ww_iload_n C dX6_isSeen_149 rfl 7 rfl ?_
                    refine ww_calliF (cx_V (n := 2) (As := [.int (nI p), .int (nI j)]) C  (c_xOf_i (kL K) G hA _ p n hp hs h3 hn j (by omega)) gX6_isSeen_X6_xOf rfl ⟨rfl, rfl⟩ (by decide +kernel) (by decide) rfl (by decide) rfl rfl rfl (Nat.le_of_ble_eq_true rfl) dX6_isSeen_150) ?_
                    refine ww_aload_n C dX6_isSeen_153 rfl 4 rfl ?_
                    refine ww_iload_n C dX6_isSeen_154 rfl 5 rfl ?_
                    refine ww_iload_n C dX6_isSeen_155 rfl 7 rfl ?_
                    refine ww_calliF (cx_V (n := 2) (As := [.int (nI p), .int (nI j)]) C  (c_yOf_i (kL K) G hA _ p n hp hs h3 hn j (by omega)) gX6_isSeen_X6_yOf rfl ⟨rfl, rfl⟩ (by decide +kernel) (by decide) rfl (by decide) rfl rfl rfl (Nat.le_of_ble_eq_true rfl) dX6_isSeen_156) ?_
                    refine ww_aload_n C dX6_isSeen_159 rfl 4 rfl ?_
                    refine ww_iload_n C dX6_isSeen_160 rfl 5 rfl ?_
                    refine ww_iload C dX6_isSeen_161 2 rfl ?_
                    refine ww_calliF (cx_V (n := 2) (As := [.int (nI p), .int (nI k)]) C  (c_xOf_i (kL K) G hA _ p n hp hs h3 hn k (by omega)) gX6_isSeen_X6_xOf rfl ⟨rfl, rfl⟩ (by decide +kernel) (by decide) rfl (by decide) rfl rfl rfl (Nat.le_of_ble_eq_true rfl) dX6_isSeen_163) ?_
                    refine ww_aload_n C dX6_isSeen_166 rfl 4 rfl ?_
                    refine ww_iload_n C dX6_isSeen_167 rfl 5 rfl ?_
                    refine ww_iload C dX6_isSeen_168 2 rfl ?_
                    refine ww_calliF (cx_V (n := 2) (As := [.int (nI p), .int (nI k)]) C  (c_yOf_i (kL K) G hA _ p n hp hs h3 hn k (by omega)) gX6_isSeen_X6_yOf rfl ⟨rfl, rfl⟩ (by decide +kernel) (by decide) rfl (by decide) rfl rfl rfl (Nat.le_of_ble_eq_true rfl) dX6_isSeen_170) ?_
                    refine ww_calliF (cx_S (n := 6) (As := [.int (σ 34 0 (14 * p + i)), .int (σ 35 0 (14 * p + i)), .int (σ 34 0 (14 * p + j)), .int (σ 35 0 (14 * p + j)), .int (σ 34 0 (14 * p + k)), .int (σ 35 0 (14 * p + k))]) C  (c_X6_isBetween (kL K) G hA _ _ _ _ _ _ _) gX6_isSeen_X6_isBetween rfl ⟨rfl, rfl⟩ (by decide +kernel) (by decide) rfl rfl (Nat.le_of_ble_eq_true rfl) dX6_isSeen_173) ?_
                    refine ww_if_eq 181 C dX6_isSeen_176 (by decide) (fun h176 => ?_) (fun h176 => ?_)
                    · refine ww_iinc (q := 2) (fun y17 => [(5, .int (y17)), (7, .int (nI 0)), (6, .int (nI ((k + 1) % n))), (4, .int (nI n)), (0, .ref (gA G 30 (0))), (1, .int (nI p)), (2, .int (nI i)), (3, .int (nI j))]) C dX6_isSeen_181 rfl (by decide) (fun _ => rfl) (fun y17 ey17 => ?_)
                      obtain rfl : y17 = nI (k + 1) := ninc rfl ey17
                      refine ww_goto 11 C dX6_isSeen_184 (by decide) ?_
                      have hm := mod_s (show k < n by omega)
                      have q2 : btP (fun i => σ 34 0 (14 * p + i)) (fun i => σ 35 0 (14 * p + i)) i j k = false := bI_0.mp h176
                      rw [hm] at g42
                      rw [hm] at g48
                      have hf : (seenP n (fun i => σ 34 0 (14 * p + i)) (fun i => σ 35 0 (14 * p + i)) i j) k = false := by simp [seenP, g30, g36, g42, g48, g126, g132, q2]
                      exact ww_sub [0, 3, 4, 5, 6, 7] rfl (ih (k + 1) (by omega) (by omega) (by rw [← fndN_f (by omega) hf]; exact hv))
                    · refine ww_iconst (v := 0) C dX6_isSeen_179 rfl ?_
                      refine ww_zret C dX6_isSeen_180 (by first | rfl | exact bI_n) ?_
                      have q2 : btP (fun i => σ 34 0 (14 * p + i)) (fun i => σ 35 0 (14 * p + i)) i j k = true := bI_1.mp h176
                      have hf : (seenP n (fun i => σ 34 0 (14 * p + i)) (fun i => σ 35 0 (14 * p + i)) i j) k = true := by simp [seenP, g126, g132, q2]
                      exact ⟨by rw [seenR, ← hv, fndN_t (by omega) hf]; rfl, rfl⟩
              · have g60 : ¬ 0 = 0 := fun q => h60 ((cv_eq (a := 0) (b := 0) rfl (by decide) (by omega) (by omega)).mpr q)
                exact absurd g60 (by decide)
            · have g48 : ¬ (k + 1) % n = j := fun q => h48 ((cv_eq (a := (k + 1) % n) (b := j) rfl rfl (lt31 (mod14 (by omega) hn)) (by omega)).mpr q)
              refine ww_iconst (v := 1) C dX6_isSeen_51 rfl ?_
              refine ww_goto 56 C dX6_isSeen_52 (by decide) ?_
              refine ww_istore (fun y18 => [(7, .int (y18)), (6, .int (nI ((k + 1) % n))), (5, .int (nI k)), (4, .int (nI n)), (0, .ref (gA G 30 (0))), (1, .int (nI p)), (2, .int (nI i)), (3, .int (nI j))]) C dX6_isSeen_56 (by decide) (fun _ => rfl) (fun y18 ey18 => ?_)
              obtain rfl : y18 = nI 1 := (ey18.trans (by decide))
              refine ww_iload C dX6_isSeen_58 0 rfl ?_
              refine ww_if_eq 123 C dX6_isSeen_60 (by decide) (fun h60 => ?_) (fun h60 => ?_)
              · have g60 : 1 = 0 := (cv_eq (a := 1) (b := 0) rfl (by decide) (by omega) (by omega)).mp h60
                exact absurd g60 (by decide)
              · have g60 : ¬ 1 = 0 := fun q => h60 ((cv_eq (a := 1) (b := 0) rfl (by decide) (by omega) (by omega)).mpr q)
                refine ww_aload_n C dX6_isSeen_63 rfl 4 rfl ?_
                refine ww_iload_n C dX6_isSeen_64 rfl 5 rfl ?_
                refine ww_iload_n C dX6_isSeen_65 rfl 6 rfl ?_
                refine ww_calliF (cx_V (n := 2) (As := [.int (nI p), .int (nI i)]) C  (c_xOf_i (kL K) G hA _ p n hp hs h3 hn i (by omega)) gX6_isSeen_X6_xOf rfl ⟨rfl, rfl⟩ (by decide +kernel) (by decide) rfl (by decide) rfl rfl rfl (Nat.le_of_ble_eq_true rfl) dX6_isSeen_66) ?_
                refine ww_aload_n C dX6_isSeen_69 rfl 4 rfl ?_
                refine ww_iload_n C dX6_isSeen_70 rfl 5 rfl ?_
                refine ww_iload_n C dX6_isSeen_71 rfl 6 rfl ?_
                refine ww_calliF (cx_V (n := 2) (As := [.int (nI p), .int (nI i)]) C  (c_yOf_i (kL K) G hA _ p n hp hs h3 hn i (by omega)) gX6_isSeen_X6_yOf rfl ⟨rfl, rfl⟩ (by decide +kernel) (by decide) rfl (by decide) rfl rfl rfl (Nat.le_of_ble_eq_true rfl) dX6_isSeen_72) ?_
                refine ww_aload_n C dX6_isSeen_75 rfl 4 rfl ?_
                refine ww_iload_n C dX6_isSeen_76 rfl 5 rfl ?_
                refine ww_iload_n C dX6_isSeen_77 rfl 7 rfl ?_
                refine ww_calliF (cx_V (n := 2) (As := [.int (nI p), .int (nI j)]) C  (c_xOf_i (kL K) G hA _ p n hp hs h3 hn j (by omega)) gX6_isSeen_X6_xOf rfl ⟨rfl, rfl⟩ (by decide +kernel) (by decide) rfl (by decide) rfl rfl rfl (Nat.le_of_ble_eq_true rfl) dX6_isSeen_78) ?_
                refine ww_aload_n C dX6_isSeen_81 rfl 4 rfl ?_
                refine ww_iload_n C dX6_isSeen_82 rfl 5 rfl ?_
                refine ww_iload_n C dX6_isSeen_83 rfl 7 rfl ?_
                refine ww_calliF (cx_V (n := 2) (As := [.int (nI p), .int (nI j)]) C  (c_yOf_i (kL K) G hA _ p n hp hs h3 hn j (by omega)) gX6_isSeen_X6_yOf rfl ⟨rfl, rfl⟩ (by decide +kernel) (by decide) rfl (by decide) rfl rfl rfl (Nat.le_of_ble_eq_true rfl) dX6_isSeen_84) ?_
                refine ww_aload_n C dX6_isSeen_87 rfl 4 rfl ?_
                refine ww_iload_n C dX6_isSeen_88 rfl 5 rfl ?_
                refine ww_iload C dX6_isSeen_89 2 rfl ?_
                refine ww_calliF (cx_V (n := 2) (As := [.int (nI p), .int (nI k)]) C  (c_xOf_i (kL K) G hA _ p n hp hs h3 hn k (by omega)) gX6_isSeen_X6_xOf rfl ⟨rfl, rfl⟩ (by decide +kernel) (by decide) rfl (by decide) rfl rfl rfl (Nat.le_of_ble_eq_true rfl) dX6_isSeen_91) ?_
                refine ww_aload_n C dX6_isSeen_94 rfl 4 rfl ?_
                refine ww_iload_n C dX6_isSeen_95 rfl 5 rfl ?_
                refine ww_iload C dX6_isSeen_96 2 rfl ?_
                refine ww_calliF (cx_V (n := 2) (As := [.int (nI p), .int (nI k)]) C  (c_yOf_i (kL K) G hA _ p n hp hs h3 hn k (by omega)) gX6_isSeen_X6_yOf rfl ⟨rfl, rfl⟩ (by decide +kernel) (by decide) rfl (by decide) rfl rfl rfl (Nat.le_of_ble_eq_true rfl) dX6_isSeen_98) ?_
                refine ww_aload_n C dX6_isSeen_101 rfl 4 rfl ?_
                refine ww_iload_n C dX6_isSeen_102 rfl 5 rfl ?_
                refine ww_iload C dX6_isSeen_103 1 rfl ?_
                refine ww_calliF (cx_V (n := 2) (As := [.int (nI p), .int (nI ((k + 1) % n))]) C  (c_xOf_i (kL K) G hA _ p n hp hs h3 hn ((k + 1) % n) (Nat.mod_lt _ (by omega))) gX6_isSeen_X6_xOf rfl ⟨rfl, rfl⟩ (by decide +kernel) (by decide) rfl (by decide) rfl rfl rfl (Nat.le_of_ble_eq_true rfl) dX6_isSeen_105) ?_
                refine ww_aload_n C dX6_isSeen_108 rfl 4 rfl ?_
                refine ww_iload_n C dX6_isSeen_109 rfl 5 rfl ?_
                refine ww_iload C dX6_isSeen_110 1 rfl ?_
                refine ww_calliF (cx_V (n := 2) (As := [.int (nI p), .int (nI ((k + 1) % n))]) C  (c_yOf_i (kL K) G hA _ p n hp hs h3 hn ((k + 1) % n) (Nat.mod_lt _ (by omega))) gX6_isSeen_X6_yOf rfl ⟨rfl, rfl⟩ (by decide +kernel) (by decide) rfl (by decide) rfl rfl rfl (Nat.le_of_ble_eq_true rfl) dX6_isSeen_112) ?_
                refine ww_calliF (cx_S (n := 8) (As := [.int (σ 34 0 (14 * p + i)), .int (σ 35 0 (14 * p + i)), .int (σ 34 0 (14 * p + j)), .int (σ 35 0 (14 * p + j)), .int (σ 34 0 (14 * p + k)), .int (σ 35 0 (14 * p + k)), .int (σ 34 0 (14 * p + ((k + 1) % n))), .int (σ 35 0 (14 * p + ((k + 1) % n)))]) C  (c_X6_meet (kL K) G hA _ _ _ _ _ _ _ _ _) gX6_isSeen_X6_meet rfl ⟨rfl, rfl⟩ (by decide +kernel) (by decide) rfl rfl (Nat.le_of_ble_eq_true rfl) dX6_isSeen_115) ?_
                refine ww_if_eq 123 C dX6_isSeen_118 (by decide) (fun h118 => ?_) (fun h118 => ?_)
                · refine ww_iload C dX6_isSeen_123 2 rfl ?_
                  refine ww_iload_n C dX6_isSeen_125 rfl 6 rfl ?_
                  refine ww_icmp_eq 181 C dX6_isSeen_126 (by decide) (fun h126 => ?_) (fun h126 => ?_)
                  · have g126 : k = i := (cv_eq (a := k) (b := i) rfl rfl (by omega) (by omega)).mp h126
                    refine ww_iinc (q := 2) (fun y19 => [(5, .int (y19)), (7, .int (nI 1)), (6, .int (nI ((k + 1) % n))), (4, .int (nI n)), (0, .ref (gA G 30 (0))), (1, .int (nI p)), (2, .int (nI i)), (3, .int (nI j))]) C dX6_isSeen_181 rfl (by decide) (fun _ => rfl) (fun y19 ey19 => ?_)
                    obtain rfl : y19 = nI (k + 1) := ninc rfl ey19
                    refine ww_goto 11 C dX6_isSeen_184 (by decide) ?_
                    have hm := mod_s (show k < n by omega)
                    have q1 : mtP (fun i => σ 34 0 (14 * p + i)) (fun i => σ 35 0 (14 * p + i)) i j k (af n k) = false := by rw [← hm]; exact bI_0.mp h118
                    rw [hm] at g42
                    rw [hm] at g48
                    have hf : (seenP n (fun i => σ 34 0 (14 * p + i)) (fun i => σ 35 0 (14 * p + i)) i j) k = false := by simp [seenP, g30, g36, g42, g48, g126, q1]
                    exact ww_sub [0, 3, 4, 5, 6, 7] rfl (ih (k + 1) (by omega) (by omega) (by rw [← fndN_f (by omega) hf]; exact hv))
                  · have g126 : ¬ k = i := fun q => h126 ((cv_eq (a := k) (b := i) rfl rfl (by omega) (by omega)).mpr q)
                    refine ww_iload C dX6_isSeen_129 2 rfl ?_
                    refine ww_iload_n C dX6_isSeen_131 rfl 7 rfl ?_
                    refine ww_icmp_eq 181 C dX6_isSeen_132 (by decide) (fun h132 => ?_) (fun h132 => ?_)
                    · have g132 : k = j := (cv_eq (a := k) (b := j) rfl rfl (by omega) (by omega)).mp h132
                      refine ww_iinc (q := 2) (fun y20 => [(5, .int (y20)), (7, .int (nI 1)), (6, .int (nI ((k + 1) % n))), (4, .int (nI n)), (0, .ref (gA G 30 (0))), (1, .int (nI p)), (2, .int (nI i)), (3, .int (nI j))]) C dX6_isSeen_181 rfl (by decide) (fun _ => rfl) (fun y20 ey20 => ?_)
                      obtain rfl : y20 = nI (k + 1) := ninc rfl ey20
                      refine ww_goto 11 C dX6_isSeen_184 (by decide) ?_
                      have hm := mod_s (show k < n by omega)
                      have q1 : mtP (fun i => σ 34 0 (14 * p + i)) (fun i => σ 35 0 (14 * p + i)) i j k (af n k) = false := by rw [← hm]; exact bI_0.mp h118
                      rw [hm] at g42
                      rw [hm] at g48
                      have hf : (seenP n (fun i => σ 34 0 (14 * p + i)) (fun i => σ 35 0 (14 * p + i)) i j) k = false := by simp [seenP, g30, g36, g42, g48, g126, g132, q1]
                      exact ww_sub [0, 3, 4, 5, 6, 7] rfl (ih (k + 1) (by omega) (by omega) (by rw [← fndN_f (by omega) hf]; exact hv))
                    · have g132 : ¬ k = j := fun q => h132 ((cv_eq (a := k) (b := j) rfl rfl (by omega) (by omega)).mpr q)
                      refine ww_aload_n C dX6_isSeen_135 rfl 4 rfl ?_
                      refine ww_iload_n C dX6_isSeen_136 rfl 5 rfl ?_
                      refine ww_iload_n C dX6_isSeen_137 rfl 6 rfl ?_
                      refine ww_calliF (cx_V (n := 2) (As := [.int (nI p), .int (nI i)]) C  (c_xOf_i (kL K) G hA _ p n hp hs h3 hn i (by omega)) gX6_isSeen_X6_xOf rfl ⟨rfl, rfl⟩ (by decide +kernel) (by decide) rfl (by decide) rfl rfl rfl (Nat.le_of_ble_eq_true rfl) dX6_isSeen_138) ?_
                      refine ww_aload_n C dX6_isSeen_141 rfl 4 rfl ?_
                      refine ww_iload_n C dX6_isSeen_142 rfl 5 rfl ?_
                      refine ww_iload_n C dX6_isSeen_143 rfl 6 rfl ?_
                      refine ww_calliF (cx_V (n := 2) (As := [.int (nI p), .int (nI i)]) C  (c_yOf_i (kL K) G hA _ p n hp hs h3 hn i (by omega)) gX6_isSeen_X6_yOf rfl ⟨rfl, rfl⟩ (by decide +kernel) (by decide) rfl (by decide) rfl rfl rfl (Nat.le_of_ble_eq_true rfl) dX6_isSeen_144) ?_
                      refine ww_aload_n C dX6_isSeen_147 rfl 4 rfl ?_
                      refine ww_iload_n C dX6_isSeen_148 rfl 5 rfl ?_
                      refine ww_iload_n C dX6_isSeen_149 rfl 7 rfl ?_
                      refine ww_calliF (cx_V (n := 2) (As := [.int (nI p), .int (nI j)]) C  (c_xOf_i (kL K) G hA _ p n hp hs h3 hn j (by omega)) gX6_isSeen_X6_xOf rfl ⟨rfl, rfl⟩ (by decide +kernel) (by decide) rfl (by decide) rfl rfl rfl (Nat.le_of_ble_eq_true rfl) dX6_isSeen_150) ?_
                      refine ww_aload_n C dX6_isSeen_153 rfl 4 rfl ?_
                      refine ww_iload_n C dX6_isSeen_154 rfl 5 rfl ?_
                      refine ww_iload_n C dX6_isSeen_155 rfl 7 rfl ?_
                      refine ww_calliF (cx_V (n := 2) (As := [.int (nI p), .int (nI j)]) C  (c_yOf_i (kL K) G hA _ p n hp hs h3 hn j (by omega)) gX6_isSeen_X6_yOf rfl ⟨rfl, rfl⟩ (by decide +kernel) (by decide) rfl (by decide) rfl rfl rfl (Nat.le_of_ble_eq_true rfl) dX6_isSeen_156) ?_
                      refine ww_aload_n C dX6_isSeen_159 rfl 4 rfl ?_
                      refine ww_iload_n C dX6_isSeen_160 rfl 5 rfl ?_
                      refine ww_iload C dX6_isSeen_161 2 rfl ?_
                      refine ww_calliF (cx_V (n := 2) (As := [.int (nI p), .int (nI k)]) C  (c_xOf_i (kL K) G hA _ p n hp hs h3 hn k (by omega)) gX6_isSeen_X6_xOf rfl ⟨rfl, rfl⟩ (by decide +kernel) (by decide) rfl (by decide) rfl rfl rfl (Nat.le_of_ble_eq_true rfl) dX6_isSeen_163) ?_
                      refine ww_aload_n C dX6_isSeen_166 rfl 4 rfl ?_
                      refine ww_iload_n C dX6_isSeen_167 rfl 5 rfl ?_
                      refine ww_iload C dX6_isSeen_168 2 rfl ?_
                      refine ww_calliF (cx_V (n := 2) (As := [.int (nI p), .int (nI k)]) C  (c_yOf_i (kL K) G hA _ p n hp hs h3 hn k (by omega)) gX6_isSeen_X6_yOf rfl ⟨rfl, rfl⟩ (by decide +kernel) (by decide) rfl (by decide) rfl rfl rfl (Nat.le_of_ble_eq_true rfl) dX6_isSeen_170) ?_
                      refine ww_calliF (cx_S (n := 6) (As := [.int (σ 34 0 (14 * p + i)), .int (σ 35 0 (14 * p + i)), .int (σ 34 0 (14 * p + j)), .int (σ 35 0 (14 * p + j)), .int (σ 34 0 (14 * p + k)), .int (σ 35 0 (14 * p + k))]) C  (c_X6_isBetween (kL K) G hA _ _ _ _ _ _ _) gX6_isSeen_X6_isBetween rfl ⟨rfl, rfl⟩ (by decide +kernel) (by decide) rfl rfl (Nat.le_of_ble_eq_true rfl) dX6_isSeen_173) ?_
                      refine ww_if_eq 181 C dX6_isSeen_176 (by decide) (fun h176 => ?_) (fun h176 => ?_)
                      · refine ww_iinc (q := 2) (fun y21 => [(5, .int (y21)), (7, .int (nI 1)), (6, .int (nI ((k + 1) % n))), (4, .int (nI n)), (0, .ref (gA G 30 (0))), (1, .int (nI p)), (2, .int (nI i)), (3, .int (nI j))]) C dX6_isSeen_181 rfl (by decide) (fun _ => rfl) (fun y21 ey21 => ?_)
                        obtain rfl : y21 = nI (k + 1) := ninc rfl ey21
                        refine ww_goto 11 C dX6_isSeen_184 (by decide) ?_
                        have hm := mod_s (show k < n by omega)
                        have q1 : mtP (fun i => σ 34 0 (14 * p + i)) (fun i => σ 35 0 (14 * p + i)) i j k (af n k) = false := by rw [← hm]; exact bI_0.mp h118
                        have q2 : btP (fun i => σ 34 0 (14 * p + i)) (fun i => σ 35 0 (14 * p + i)) i j k = false := bI_0.mp h176
                        rw [hm] at g42
                        rw [hm] at g48
                        have hf : (seenP n (fun i => σ 34 0 (14 * p + i)) (fun i => σ 35 0 (14 * p + i)) i j) k = false := by simp [seenP, g30, g36, g42, g48, g126, g132, q1, q2]
                        exact ww_sub [0, 3, 4, 5, 6, 7] rfl (ih (k + 1) (by omega) (by omega) (by rw [← fndN_f (by omega) hf]; exact hv))
                      · refine ww_iconst (v := 0) C dX6_isSeen_179 rfl ?_
                        refine ww_zret C dX6_isSeen_180 (by first | rfl | exact bI_n) ?_
                        have q2 : btP (fun i => σ 34 0 (14 * p + i)) (fun i => σ 35 0 (14 * p + i)) i j k = true := bI_1.mp h176
                        have hf : (seenP n (fun i => σ 34 0 (14 * p + i)) (fun i => σ 35 0 (14 * p + i)) i j) k = true := by simp [seenP, g126, g132, q2]
                        exact ⟨by rw [seenR, ← hv, fndN_t (by omega) hf]; rfl, rfl⟩
                · refine ww_iconst (v := 0) C dX6_isSeen_121 rfl ?_
                  refine ww_zret C dX6_isSeen_122 (by first | rfl | exact bI_n) ?_
                  have hm := mod_s (show k < n by omega)
                  have q1 : mtP (fun i => σ 34 0 (14 * p + i)) (fun i => σ 35 0 (14 * p + i)) i j k (af n k) = true := by rw [← hm]; exact bI_1.mp h118
                  rw [hm] at g42 g48
                  have hf : (seenP n (fun i => σ 34 0 (14 * p + i)) (fun i => σ 35 0 (14 * p + i)) i j) k = true := by simp [seenP, g30, g36, g42, g48, q1]
                  exact ⟨by rw [seenR, ← hv, fndN_t (by omega) hf]; rfl, rfl⟩
set_option maxHeartbeats 4000000 in
set_option maxRecDepth 100000 in
theorem c_X6_isSeen (l : Launch) (G : Gx) (hA : wa G) (σ : Sg) (p n : Nat) (hp : p < 8) (hs : σ 33 0 p = nI n) (h3 : 3 ≤ n) (hn : n ≤ 14) (i j : Nat) (hi : i < n) (hj : j < n) : CtI l yX6_isSeen wsX6_isSeen (rmd 4) G [.ref (gA G 30 (0)), .int (nI p), .int (nI i), .int (nI j)] σ (fun r σ2 => r = bI (seenR n (fun i => σ 34 0 (14 * p + i)) (fun i => σ 35 0 (14 * p + i)) i j) ∧ σ2 = σ) := by
  refine ct_i (maxL := 8) (ret := (some .boolean)) (by decide) rfl (Nat.le_of_ble_eq_true rfl) hA (fun K hl C => ?_)
  subst hl
  change WW K G _ _ σ [(0, .ref (gA G 30 (0))), (1, .int (nI p)), (2, .int (nI i)), (3, .int (nI j))] 0 []
  refine ww_aload_n C dX6_isSeen_0 rfl 0 rfl ?_
  refine ww_gr (j := 0) (k := 30) (f := 4) C rfl rfl (by decide) rfl in_X6_isSeen_X6 (by decide) lk_X6_isSeen_16 dX6_isSeen_1 rfl ?_
  refine ww_iload_n C dX6_isSeen_4 rfl 1 rfl ?_
  refine ww_iald (k := 33) (j := p) C rfl (by decide) (by decide) dX6_isSeen_5 rfl hp ?_
  rw [hs]
  refine ww_istore (fun y1 => [(4, .int (y1)), (0, .ref (gA G 30 (0))), (1, .int (nI p)), (2, .int (nI i)), (3, .int (nI j))]) C dX6_isSeen_6 (by decide) (fun _ => rfl) (fun y1 ey1 => ?_)
  obtain rfl : y1 = nI n := ey1
  refine ww_iconst (v := 0) C dX6_isSeen_8 rfl ?_
  refine ww_istore (fun y2 => [(5, .int (y2)), (4, .int (nI n)), (0, .ref (gA G 30 (0))), (1, .int (nI p)), (2, .int (nI i)), (3, .int (nI j))]) C dX6_isSeen_9 (by decide) (fun _ => rfl) (fun y2 ey2 => ?_)
  obtain rfl : y2 = nI 0 := (ey2.trans (by decide))
  exact ww_sub [0, 1, 2, 3, 4, 5] rfl (lp_X6_isSeen hA C σ p n hp hs h3 hn i j hi hj (n + 1) 0 (by omega) (by omega) rfl)
set_option maxHeartbeats 4000000 in
set_option maxRecDepth 100000 in
theorem c_X6_sight (l : Launch) (G : Gx) (hA : wa G) (σ : Sg) (p n : Nat) (hp : p < 8) (hs : σ 33 0 p = nI n) (h3 : 3 ≤ n) (hn : n ≤ 14) (i j : Nat) (hi : i < n) (hj : j < n) : CtI l yX6_sight wsX6_sight (rmd 5) G [.ref (gA G 30 (0)), .int (nI p), .int (nI i), .int (nI j)] σ (fun r σ2 => r = sightR n (fun i => σ 34 0 (14 * p + i)) (fun i => σ 35 0 (14 * p + i)) i j ∧ σ2 = σ) := by
  refine ct_i (maxL := 4) (ret := (some .int)) (by decide) rfl (Nat.le_of_ble_eq_true rfl) hA (fun K hl C => ?_)
  subst hl
  change WW K G _ _ σ [(0, .ref (gA G 30 (0))), (1, .int (nI p)), (2, .int (nI i)), (3, .int (nI j))] 0 []
  refine ww_aload_n C dX6_sight_0 rfl 0 rfl ?_
  refine ww_iload_n C dX6_sight_1 rfl 1 rfl ?_
  refine ww_iload_n C dX6_sight_2 rfl 2 rfl ?_
  refine ww_iload_n C dX6_sight_3 rfl 3 rfl ?_
  refine ww_calliF (cx_V (n := 3) (As := [.int (nI p), .int (nI i), .int (nI j)]) C  (c_X6_isNear (kL K) G hA _ p n hp hs h3 hn i j (by omega) (by omega)) gX6_sight_X6_isNear rfl ⟨rfl, rfl⟩ (by decide +kernel) (by decide) rfl (by decide) rfl rfl rfl (Nat.le_of_ble_eq_true rfl) dX6_sight_4) ?_
  refine ww_if_eq 14 C dX6_sight_7 (by decide) (fun h7 => ?_) (fun h7 => ?_)
  · refine ww_aload_n C dX6_sight_14 rfl 0 rfl ?_
    refine ww_iload_n C dX6_sight_15 rfl 1 rfl ?_
    refine ww_iload_n C dX6_sight_16 rfl 2 rfl ?_
    refine ww_iload_n C dX6_sight_17 rfl 3 rfl ?_
    refine ww_calliF (cx_V (n := 3) (As := [.int (nI p), .int (nI i), .int (nI j)]) C  (c_X6_isSeen (kL K) G hA _ p n hp hs h3 hn i j (by omega) (by omega)) gX6_sight_X6_isSeen rfl ⟨rfl, rfl⟩ (by decide +kernel) (by decide) rfl (by decide) rfl rfl rfl (Nat.le_of_ble_eq_true rfl) dX6_sight_18) ?_
    refine ww_if_eq 28 C dX6_sight_21 (by decide) (fun h21 => ?_) (fun h21 => ?_)
    · refine ww_iconst (v := 0) C dX6_sight_28 rfl ?_
      refine ww_iret C dX6_sight_29 ?_
      exact ⟨by rw [sightR, if_neg (of_decide_eq_false (bI_0.mp h7)), if_neg (by rw [bI_0.mp h21]; decide)], rfl⟩
    · refine ww_iconst (v := 1) C dX6_sight_24 rfl ?_
      refine ww_goto 29 C dX6_sight_25 (by decide) ?_
      refine ww_iret C dX6_sight_29 ?_
      exact ⟨by rw [sightR, if_neg (of_decide_eq_false (bI_0.mp h7)), if_pos (bI_1.mp h21)], rfl⟩
  · refine ww_iconst (v := 2) C dX6_sight_10 rfl ?_
    refine ww_goto 29 C dX6_sight_11 (by decide) ?_
    refine ww_iret C dX6_sight_29 ?_
    exact ⟨by rw [sightR, if_pos (of_decide_eq_true (bI_1.mp h7))], rfl⟩
set_option maxHeartbeats 4000000 in
set_option maxRecDepth 100000 in
theorem c_X6_sees_s (l : Launch) (G : Gx) (hA : wa G) (σ : Sg) (cnt p n : Nat) (hc : σ 30 0 3 = nI cnt) (hc8 : cnt ≤ 8) (hpc : p < cnt) (hp : p < 8) (hs : σ 33 0 p = nI n) (h3 : 3 ≤ n) (hn : n ≤ 14) (c d : Int32) : CtI l yX6_sees wsX6_sees (rmd 6) G [.ref (gA G 30 (0)), .int (nI p), .int (c), .int (d)] σ (fun r σ2 => r = pairR n c d (seesV (sightR n (fun i => σ 34 0 (14 * p + i)) (fun i => σ 35 0 (14 * p + i)))) ∧ σ2 = σ) := by
  refine ct_i (maxL := 4) (ret := (some .int)) (by decide) rfl (Nat.le_of_ble_eq_true rfl) hA (fun K hl C => ?_)
  subst hl
  change WW K G _ _ σ [(0, .ref (gA G 30 (0))), (1, .int (nI p)), (2, .int (c)), (3, .int (d))] 0 []
  refine ww_aload_n C dX6_sees_0 rfl 0 rfl ?_
  refine ww_iload_n C dX6_sees_1 rfl 1 rfl ?_
  refine ww_iload_n C dX6_sees_2 rfl 2 rfl ?_
  refine ww_calliF (cx_V (n := 2) (As := [.int (nI p), .int (c)]) C  (c_X6_isCorner_s (kL K) G hA _ cnt p n hc hc8 hpc hp hs h3 hn _) gX6_sees_X6_isCorner rfl ⟨rfl, rfl⟩ (by decide +kernel) (by decide) rfl (by decide) rfl rfl rfl (Nat.le_of_ble_eq_true rfl) dX6_sees_3) ?_
  refine ww_if_eq 18 C dX6_sees_6 (by decide) (fun h6 => ?_) (fun h6 => ?_)
  · refine ww_bipush (v := -2) C dX6_sees_18 (by decide) ?_
    refine ww_iret C dX6_sees_20 ?_
    exact ⟨by rw [pair_f1 h6], rfl⟩
  · obtain ⟨i, hi, rfl⟩ := ix_of (of_decide_eq_true (bI_1.mp h6)) hn
    refine ww_aload_n C dX6_sees_9 rfl 0 rfl ?_
    refine ww_iload_n C dX6_sees_10 rfl 1 rfl ?_
    refine ww_iload_n C dX6_sees_11 rfl 3 rfl ?_
    refine ww_calliF (cx_V (n := 2) (As := [.int (nI p), .int (d)]) C  (c_X6_isCorner_s (kL K) G hA _ cnt p n hc hc8 hpc hp hs h3 hn _) gX6_sees_X6_isCorner rfl ⟨rfl, rfl⟩ (by decide +kernel) (by decide) rfl (by decide) rfl rfl rfl (Nat.le_of_ble_eq_true rfl) dX6_sees_12) ?_
    refine ww_if_ne 21 C dX6_sees_15 (by decide) (fun h15 => ?_) (fun h15 => ?_)
    · obtain ⟨j, hj, rfl⟩ := ix_of (of_decide_eq_true (bI_1.mp h15)) hn
      refine ww_iload_n C dX6_sees_21 rfl 2 rfl ?_
      refine ww_iload_n C dX6_sees_22 rfl 3 rfl ?_
      refine ww_icmp_ne 31 C dX6_sees_23 (by decide) (fun h23 => ?_) (fun h23 => ?_)
      · have g23 : ¬ i = j := fun q => h23 ((cv_eq (a := i) (b := j) rfl rfl (by omega) (by omega)).mpr q)
        refine ww_aload_n C dX6_sees_31 rfl 0 rfl ?_
        refine ww_iload_n C dX6_sees_32 rfl 1 rfl ?_
        refine ww_iload_n C dX6_sees_33 rfl 2 rfl ?_
        refine ww_iload_n C dX6_sees_34 rfl 3 rfl ?_
        refine ww_calliF (cx_V (n := 3) (As := [.int (nI p), .int (nI i), .int (nI j)]) C  (c_X6_sight (kL K) G hA _ p n hp hs h3 hn i j (by omega) (by omega)) gX6_sees_X6_sight rfl ⟨rfl, rfl⟩ (by decide +kernel) (by decide) rfl (by decide) rfl rfl rfl (Nat.le_of_ble_eq_true rfl) dX6_sees_35) ?_
        refine ww_iret C dX6_sees_38 ?_
        exact ⟨by rw [pair_t hi hj hn, seesV, if_neg g23], rfl⟩
      · have g23 : i = j := (cv_eq (a := i) (b := j) rfl rfl (by omega) (by omega)).mp h23
        refine ww_bipush (v := -3) C dX6_sees_26 (by decide) ?_
        refine ww_goto 38 C dX6_sees_28 (by decide) ?_
        refine ww_iret C dX6_sees_38 ?_
        exact ⟨by rw [pair_t hi hj hn, seesV, if_pos g23], rfl⟩
    · refine ww_bipush (v := -2) C dX6_sees_18 (by decide) ?_
      refine ww_iret C dX6_sees_20 ?_
      exact ⟨by rw [pair_f2 hi hn h15], rfl⟩
set_option maxHeartbeats 4000000 in
set_option maxRecDepth 100000 in
theorem c_X6_sees_n (l : Launch) (G : Gx) (hA : wa G) (σ : Sg) (cnt : Nat) (hc : σ 30 0 3 = nI cnt) (hc8 : cnt ≤ 8) (x : Int32) (hu : ¬ (0 ≤ x ∧ x < nI cnt)) (c d : Int32) : CtI l yX6_sees wsX6_sees (rmd 6) G [.ref (gA G 30 (0)), .int (x), .int (c), .int (d)] σ (fun r σ2 => r = -2 ∧ σ2 = σ) := by
  refine ct_i (maxL := 4) (ret := (some .int)) (by decide) rfl (Nat.le_of_ble_eq_true rfl) hA (fun K hl C => ?_)
  subst hl
  change WW K G _ _ σ [(0, .ref (gA G 30 (0))), (1, .int (x)), (2, .int (c)), (3, .int (d))] 0 []
  refine ww_aload_n C dX6_sees_0 rfl 0 rfl ?_
  refine ww_iload_n C dX6_sees_1 rfl 1 rfl ?_
  refine ww_iload_n C dX6_sees_2 rfl 2 rfl ?_
  refine ww_calliF (cx_V (n := 2) (As := [.int (x), .int (c)]) C  (c_X6_isCorner_n (kL K) G hA _ cnt hc hc8 x hu _) gX6_sees_X6_isCorner rfl ⟨rfl, rfl⟩ (by decide +kernel) (by decide) rfl (by decide) rfl rfl rfl (Nat.le_of_ble_eq_true rfl) dX6_sees_3) ?_
  refine ww_if_eq 18 C dX6_sees_6 (by decide) (fun h6 => ?_) (fun h6 => ?_)
  · have g6 : 0 = 0 := (cv_eq (a := 0) (b := 0) (by decide) (by decide) (by omega) (by omega)).mp h6
    refine ww_bipush (v := -2) C dX6_sees_18 (by decide) ?_
    refine ww_iret C dX6_sees_20 ?_
    exact ⟨rfl, rfl⟩
  · have g6 : ¬ 0 = 0 := fun q => h6 ((cv_eq (a := 0) (b := 0) (by decide) (by decide) (by omega) (by omega)).mpr q)
    exact absurd g6 (by decide)
