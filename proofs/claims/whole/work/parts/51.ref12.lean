theorem in_X6_triangle_X6 : ∀ w ∈ wsX60, w ∈ wsX6_triangle := by decide +kernel
theorem lk_X6_triangle_157 : Cond.fieldLink RX6 157 "PolyCutsModel" "triangles" "I" ∈ wsX6_triangle := by decide +kernel
theorem lk_X6_triangle_50 : Cond.fieldLink RX6 50 "PolyCutsModel" "triangleJ" "[I" ∈ wsX6_triangle := by decide +kernel
theorem lk_X6_triangle_47 : Cond.fieldLink RX6 47 "PolyCutsModel" "triangleK" "[I" ∈ wsX6_triangle := by decide +kernel
theorem lk_X6_triangle_44 : Cond.fieldLink RX6 44 "PolyCutsModel" "triangleI" "[I" ∈ wsX6_triangle := by decide +kernel
theorem in_X6_isFlat_X6 : ∀ w ∈ wsX60, w ∈ wsX6_isFlat := by decide +kernel
theorem lk_X6_isFlat_163 : Cond.fieldLink RX6 163 "PolyCutsModel" "diagonals" "I" ∈ wsX6_isFlat := by decide +kernel
theorem lk_X6_isFlat_56 : Cond.fieldLink RX6 56 "PolyCutsModel" "diagonalA" "[I" ∈ wsX6_isFlat := by decide +kernel
theorem lk_X6_isFlat_59 : Cond.fieldLink RX6 59 "PolyCutsModel" "diagonalB" "[I" ∈ wsX6_isFlat := by decide +kernel
theorem lk_X6_isFlat_62 : Cond.fieldLink RX6 62 "PolyCutsModel" "stays" "[Z" ∈ wsX6_isFlat := by decide +kernel
theorem lk_X6_isFlat_16 : Cond.fieldLink RX6 16 "PolyCutsModel" "corners" "[I" ∈ wsX6_isFlat := by decide +kernel
theorem le_pred2 {x : Int32} {c : Nat} (h : c < 2 ^ 30) : (0 ≤ x ∧ x ≤ nI c - 1) ↔ (0 ≤ x ∧ x < nI c) := and_congr_right (fun _ => le_pred h)
theorem ix12 {x : Int32} {m : Nat} (h : 0 ≤ x ∧ x < nI m) (hm : m ≤ 14) : ∃ j, j < m ∧ x = nI j := ix_of h hm
set_option maxHeartbeats 4000000 in
set_option maxRecDepth 100000 in
theorem c_X6_triangle_s (l : Launch) (G : Gx) (hA : wa G) (σ : Sg) (cnt p n : Nat) (hc : σ 30 0 3 = nI cnt) (hc8 : cnt ≤ 8) (hpc : p < cnt) (hp : p < 8) (hs : σ 33 0 p = nI n) (h3 : 3 ≤ n) (hn : n ≤ 14) (t w : Int32) (hw : 0 ≤ w ∧ w ≤ 2) : CtI l yX6_triangle wsX6_triangle (rmd 8) G [.ref (gA G 30 (0)), .int (nI p), .int (t), .int (w)] σ (fun r σ2 => r = lstR (n - 2) t w (σ2 40 0) (σ2 41 0) (σ2 42 0) ∧ (∃ ρ, PTA σ ρ n (jnA n (fun i => σ 34 0 (14 * p + i)) (fun i => σ 35 0 (14 * p + i))) ∧ RTe ρ σ2 n (trF (tb9 ρ 39) (tb9 ρ 38)))) := by
  refine ct_i (maxL := 4) (ret := (some .int)) (by decide) rfl (Nat.le_of_ble_eq_true rfl) hA (fun K hl C => ?_)
  subst hl
  change WW K G _ _ σ [(0, .ref (gA G 30 (0))), (1, .int (nI p)), (2, .int (t)), (3, .int (w))] 0 []
  refine ww_aload_n C dX6_triangle_0 rfl 0 rfl ?_
  refine ww_iload_n C dX6_triangle_1 rfl 1 rfl ?_
  refine ww_calliF (cx_V (n := 1) (As := [.int (nI p)]) C  (c_X6_isPolygon (kL K) G hA _ cnt hc hc8 _) gX6_triangle_X6_isPolygon rfl ⟨rfl, rfl⟩ (by decide +kernel) (by decide) rfl (by decide) rfl rfl rfl (Nat.le_of_ble_eq_true rfl) dX6_triangle_2) ?_
  refine ww_if_ne 11 C dX6_triangle_5 (by decide) (fun h5 => ?_) (fun h5 => ?_)
  · refine ww_iload_n C dX6_triangle_11 rfl 3 rfl ?_
    refine ww_iconst (v := 0) C dX6_triangle_12 rfl ?_
    refine ww_iconst (v := 2) C dX6_triangle_13 rfl ?_
    refine ww_calliF (cx_S (n := 3) (As := [.int (w), .int (0), .int (2)]) C  (c_X6_within (kL K) G hA _ _ _ _) gX6_triangle_X6_within rfl ⟨rfl, rfl⟩ (by decide +kernel) (by decide) rfl rfl (Nat.le_of_ble_eq_true rfl) dX6_triangle_14) ?_
    refine ww_if_ne 23 C dX6_triangle_17 (by decide) (fun h17 => ?_) (fun h17 => ?_)
    · refine ww_aload_n C dX6_triangle_23 rfl 0 rfl ?_
      refine ww_iload_n C dX6_triangle_24 rfl 1 rfl ?_
      refine ww_callv (cx_V (n := 1) (As := [.int (nI p)]) C  (c_X6_layTriangles (kL K) G hA _ p n hp hs h3 hn) gX6_triangle_X6_layTriangles rfl ⟨rfl, rfl⟩ (by decide +kernel) (by decide) rfl (by decide) rfl rfl rfl (Nat.le_of_ble_eq_true rfl) dX6_triangle_25) ?_
      intro τ hτ
      obtain ⟨ρ, hρ, hR⟩ := id hτ
      have ht13 : τ 30 0 13 = nI (n - 2) := hR.2.1
      refine ww_iload_n C dX6_triangle_28 rfl 2 rfl ?_
      refine ww_iconst (v := 0) C dX6_triangle_29 rfl ?_
      refine ww_aload_n C dX6_triangle_30 rfl 0 rfl ?_
      refine ww_gi (k := 30) (f := 13) C rfl rfl (by decide) rfl in_X6_triangle_X6 (by decide) lk_X6_triangle_157 dX6_triangle_31 ?_
      rw [ht13]
      refine ww_iconst (v := 1) C dX6_triangle_34 rfl ?_
      refine ww_isub C dX6_triangle_35 ?_
      refine ww_calliF (cx_S (n := 3) (As := [.int (t), .int (0), .int ((nI ((n - 2))) - (1))]) C  (c_X6_within (kL K) G hA _ _ _ _) gX6_triangle_X6_within rfl ⟨rfl, rfl⟩ (by decide +kernel) (by decide) rfl rfl (Nat.le_of_ble_eq_true rfl) dX6_triangle_36) ?_
      refine ww_if_ne 44 C dX6_triangle_39 (by decide) (fun h39 => ?_) (fun h39 => ?_)
      · obtain ⟨j, hj, rfl⟩ := ix12 ((le_pred2 (by omega)).mp (of_decide_eq_true (bI_1.mp h39))) (by omega)
        refine ww_iload_n C dX6_triangle_44 rfl 3 rfl ?_
        refine ww_if_ne 57 C dX6_triangle_45 (by decide) (fun h45 => ?_) (fun h45 => ?_)
        · refine ww_iload_n C dX6_triangle_57 rfl 3 rfl ?_
          refine ww_iconst (v := 1) C dX6_triangle_58 rfl ?_
          refine ww_icmp_ne 71 C dX6_triangle_59 (by decide) (fun h59 => ?_) (fun h59 => ?_)
          · refine ww_aload_n C dX6_triangle_71 rfl 0 rfl ?_
            refine ww_gr (j := 0) (k := 30) (f := 16) C rfl rfl (by decide) rfl in_X6_triangle_X6 (by decide) lk_X6_triangle_50 dX6_triangle_72 rfl ?_
            refine ww_iload_n C dX6_triangle_75 rfl 2 rfl ?_
            refine ww_iald (k := 42) (j := j) C rfl (by decide) (by decide) dX6_triangle_76 rfl (by omega) ?_
            refine ww_iret C dX6_triangle_77 ?_
            exact ⟨by rw [lst_t hw hj (by omega), if_neg h45, if_neg h59], hτ⟩
          · refine ww_aload_n C dX6_triangle_62 rfl 0 rfl ?_
            refine ww_gr (j := 0) (k := 30) (f := 15) C rfl rfl (by decide) rfl in_X6_triangle_X6 (by decide) lk_X6_triangle_47 dX6_triangle_63 rfl ?_
            refine ww_iload_n C dX6_triangle_66 rfl 2 rfl ?_
            refine ww_iald (k := 41) (j := j) C rfl (by decide) (by decide) dX6_triangle_67 rfl (by omega) ?_
            refine ww_goto 77 C dX6_triangle_68 (by decide) ?_
            refine ww_iret C dX6_triangle_77 ?_
            exact ⟨by rw [lst_t hw hj (by omega), if_neg h45, if_pos h59], hτ⟩
        · refine ww_aload_n C dX6_triangle_48 rfl 0 rfl ?_
          refine ww_gr (j := 0) (k := 30) (f := 14) C rfl rfl (by decide) rfl in_X6_triangle_X6 (by decide) lk_X6_triangle_44 dX6_triangle_49 rfl ?_
          refine ww_iload_n C dX6_triangle_52 rfl 2 rfl ?_
          refine ww_iald (k := 40) (j := j) C rfl (by decide) (by decide) dX6_triangle_53 rfl (by omega) ?_
          refine ww_goto 77 C dX6_triangle_54 (by decide) ?_
          refine ww_iret C dX6_triangle_77 ?_
          exact ⟨by rw [lst_t hw hj (by omega), if_pos h45], hτ⟩
      · refine ww_iconst (v := -1) C dX6_triangle_42 rfl ?_
        refine ww_iret C dX6_triangle_43 ?_
        exact ⟨by rw [lst_n hw (fun q => of_decide_eq_false (bI_0.mp h39) ((le_pred2 (by omega)).mpr q))], hτ⟩
    · exact absurd hw (of_decide_eq_false (bI_0.mp h17))
  · exact absurd (kn_p hpc hc8) (of_decide_eq_false (bI_0.mp h5))
set_option maxHeartbeats 4000000 in
set_option maxRecDepth 100000 in
theorem c_X6_triangle_o (l : Launch) (G : Gx) (hA : wa G) (σ : Sg) (cnt p n : Nat) (hc : σ 30 0 3 = nI cnt) (hc8 : cnt ≤ 8) (hpc : p < cnt) (hp : p < 8) (hs : σ 33 0 p = nI n) (h3 : 3 ≤ n) (hn : n ≤ 14) (t w : Int32) (hw : ¬ (0 ≤ w ∧ w ≤ 2)) : CtI l yX6_triangle wsX6_triangle (rmd 8) G [.ref (gA G 30 (0)), .int (nI p), .int (t), .int (w)] σ (fun r σ2 => r = -3 ∧ σ2 = σ) := by
  refine ct_i (maxL := 4) (ret := (some .int)) (by decide) rfl (Nat.le_of_ble_eq_true rfl) hA (fun K hl C => ?_)
  subst hl
  change WW K G _ _ σ [(0, .ref (gA G 30 (0))), (1, .int (nI p)), (2, .int (t)), (3, .int (w))] 0 []
  refine ww_aload_n C dX6_triangle_0 rfl 0 rfl ?_
  refine ww_iload_n C dX6_triangle_1 rfl 1 rfl ?_
  refine ww_calliF (cx_V (n := 1) (As := [.int (nI p)]) C  (c_X6_isPolygon (kL K) G hA _ cnt hc hc8 _) gX6_triangle_X6_isPolygon rfl ⟨rfl, rfl⟩ (by decide +kernel) (by decide) rfl (by decide) rfl rfl rfl (Nat.le_of_ble_eq_true rfl) dX6_triangle_2) ?_
  refine ww_if_ne 11 C dX6_triangle_5 (by decide) (fun h5 => ?_) (fun h5 => ?_)
  · refine ww_iload_n C dX6_triangle_11 rfl 3 rfl ?_
    refine ww_iconst (v := 0) C dX6_triangle_12 rfl ?_
    refine ww_iconst (v := 2) C dX6_triangle_13 rfl ?_
    refine ww_calliF (cx_S (n := 3) (As := [.int (w), .int (0), .int (2)]) C  (c_X6_within (kL K) G hA _ _ _ _) gX6_triangle_X6_within rfl ⟨rfl, rfl⟩ (by decide +kernel) (by decide) rfl rfl (Nat.le_of_ble_eq_true rfl) dX6_triangle_14) ?_
    refine ww_if_ne 23 C dX6_triangle_17 (by decide) (fun h17 => ?_) (fun h17 => ?_)
    · exact absurd (of_decide_eq_true (bI_1.mp h17)) hw
    · refine ww_bipush (v := -3) C dX6_triangle_20 (by decide) ?_
      refine ww_iret C dX6_triangle_22 ?_
      exact ⟨rfl, rfl⟩
  · exact absurd (kn_p hpc hc8) (of_decide_eq_false (bI_0.mp h5))
set_option maxHeartbeats 4000000 in
set_option maxRecDepth 100000 in
theorem c_X6_triangle_n (l : Launch) (G : Gx) (hA : wa G) (σ : Sg) (cnt : Nat) (hc : σ 30 0 3 = nI cnt) (hc8 : cnt ≤ 8) (x : Int32) (hu : ¬ (0 ≤ x ∧ x < nI cnt)) (t w : Int32) : CtI l yX6_triangle wsX6_triangle (rmd 8) G [.ref (gA G 30 (0)), .int (x), .int (t), .int (w)] σ (fun r σ2 => r = -2 ∧ σ2 = σ) := by
  refine ct_i (maxL := 4) (ret := (some .int)) (by decide) rfl (Nat.le_of_ble_eq_true rfl) hA (fun K hl C => ?_)
  subst hl
  change WW K G _ _ σ [(0, .ref (gA G 30 (0))), (1, .int (x)), (2, .int (t)), (3, .int (w))] 0 []
  refine ww_aload_n C dX6_triangle_0 rfl 0 rfl ?_
  refine ww_iload_n C dX6_triangle_1 rfl 1 rfl ?_
  refine ww_calliF (cx_V (n := 1) (As := [.int (x)]) C  (c_X6_isPolygon (kL K) G hA _ cnt hc hc8 _) gX6_triangle_X6_isPolygon rfl ⟨rfl, rfl⟩ (by decide +kernel) (by decide) rfl (by decide) rfl rfl rfl (Nat.le_of_ble_eq_true rfl) dX6_triangle_2) ?_
  refine ww_if_ne 11 C dX6_triangle_5 (by decide) (fun h5 => ?_) (fun h5 => ?_)
  · exact absurd (of_decide_eq_true (bI_1.mp h5)) hu
  · refine ww_bipush (v := -2) C dX6_triangle_8 (by decide) ?_
    refine ww_iret C dX6_triangle_10 ?_
    exact ⟨rfl, rfl⟩
def bfS (ok : Bool) (far its b : Nat) : Nat := if ok = true ∧ far < its ∧ b < far then far else b
def bhS (ok : Bool) (far its b : Nat) : Nat := if ok = true ∧ its < far ∧ far < b then far else b
def okE (A B : Nat → Nat) (st : Nat → Bool) (w u d : Nat) : Bool := (!decide (d = w) && st d) && (decide (A d = u) || decide (B d = u))
def othE (A B : Nat → Nat) (u d : Nat) : Nat := if A d = u then B d else A d
def farE (n u o : Nat) : Nat := (o + n - u) % n
def befR (n : Nat) (A B : Nat → Nat) (st : Nat → Bool) (w u its : Nat) : Nat → Nat
  | 0 => 1
  | d + 1 => bfS (okE A B st w u d) (farE n u (othE A B u d)) its (befR n A B st w u its d)
def behR (n : Nat) (A B : Nat → Nat) (st : Nat → Bool) (w u its : Nat) : Nat → Nat
  | 0 => n - 1
  | d + 1 => bhS (okE A B st w u d) (farE n u (othE A B u d)) its (behR n A B st w u its d)
def flD (n : Nat) (x y : Nat → Int32) (A B : Nat → Nat) (st : Nat → Bool) (m w u v : Nat) : Bool := if 0 < fan n x y then decide (0 ≤ tn x y u ((u + befR n A B st w u (farE n u v) m) % n) ((u + behR n A B st w u (farE n u v) m) % n)) else decide (tn x y u ((u + befR n A B st w u (farE n u v) m) % n) ((u + behR n A B st w u (farE n u v) m) % n) ≤ 0)
theorem bef_lt {n : Nat} (h : 3 ≤ n) {A B : Nat → Nat} {st : Nat → Bool} {w u its : Nat} : ∀ d, befR n A B st w u its d < n
  | 0 => by show 1 < n; omega
  | d + 1 => by
    have := bef_lt h (A := A) (B := B) (st := st) (w := w) (u := u) (its := its) d
    rw [befR, bfS]
    split
    · exact Nat.mod_lt _ (by omega)
    · exact this
theorem beh_lt {n : Nat} (h : 3 ≤ n) {A B : Nat → Nat} {st : Nat → Bool} {w u its : Nat} : ∀ d, behR n A B st w u its d < n
  | 0 => by show n - 1 < n; omega
  | d + 1 => by
    have := beh_lt h (A := A) (B := B) (st := st) (w := w) (u := u) (its := its) d
    rw [behR, bhS]
    split
    · exact Nat.mod_lt _ (by omega)
    · exact this
theorem bf_0 {f i b : Nat} : bfS false f i b = b := if_neg (fun q => by cases q.1)
theorem bh_0 {f i b : Nat} : bhS false f i b = b := if_neg (fun q => by cases q.1)
set_option maxHeartbeats 4000000 in
set_option maxRecDepth 100000 in
theorem lp_X6_isFlat {K : Kx} {G : Gx} (hA : wa G) (C : CX K G cX6_isFlat 12 RX6 wsX6_isFlat (rmd 3) (some .boolean)) (σ : Sg) (p n : Nat) (hp : p < 8) (hs : σ 33 0 p = nI n) (h3 : 3 ≤ n) (hn : n ≤ 14) (A B : Nat → Nat) (st : Nat → Bool) (m w u v : Nat) (hm : m ≤ 11) (hm13 : σ 30 0 18 = nI m) (hD : ∀ d, d < m → (σ 44 0 d = nI (A d) ∧ σ 45 0 d = nI (B d)) ∧ σ 46 0 d = bI (st d) ∧ A d < n ∧ B d < n) (hw : w < 14) (hu : u < n) (hv : v < n) (its : Nat) (hits : its = farE n u v) : ∀ (f d : Nat) (y z : Nat), m - d < f → (d ≤ m) → (y < n) → (z < n) → (y = befR n A B st w u its (d)) → (z = behR n A B st w u its (d)) → WW K G 12 (QI K G (fun r σ2 => r = bI (flD n (fun i => σ 34 0 (14 * p + i)) (fun i => σ 35 0 (14 * p + i)) A B st m w u v) ∧ σ2 = σ)) σ [(9, .int (nI d)), (8, .int (nI z)), (7, .int (nI y)), (6, .int (nI its)), (5, .int (nI n)), (0, .ref (gA G 30 (0))), (1, .int (nI p)), (2, .int (nI w)), (3, .int (nI u)), (4, .int (nI v))] 32 [] := by
  intro f
  induction f with
  | zero => intro d y z h; exact absurd h (Nat.not_lt_zero _)
  | succ f ih =>
    intro d y z hf hd ky kz hy hz
    have kits : its < n := by rw [hits]; exact Nat.mod_lt _ (by omega)
    refine ww_iload C dX6_isFlat_32 0 rfl ?_
    refine ww_aload_n C dX6_isFlat_34 rfl 5 rfl ?_
    refine ww_gi (k := 30) (f := 18) C rfl rfl (by decide) rfl in_X6_isFlat_X6 (by decide) lk_X6_isFlat_163 dX6_isFlat_35 ?_
    rw [hm13]
    refine ww_icmp_ge 172 C dX6_isFlat_38 (by decide) (fun h38 => ?_) (fun h38 => ?_)
    · have g38 : m ≤ d := (cv_le (a := m) (b := d) rfl rfl (by omega) (by omega)).mp h38
      refine ww_iload_n C dX6_isFlat_172 rfl 8 rfl ?_
      refine ww_iload C dX6_isFlat_173 2 rfl ?_
      refine ww_iadd C dX6_isFlat_175 ?_
      rw [show (nI u) + (nI y) = nI (u + y) from nI_add (u) (y)]
      refine ww_iload C dX6_isFlat_176 4 rfl ?_
      refine ww_irem C dX6_isFlat_178 (nI_ne0 (by omega) (by omega)) ?_
      rw [rem9 (a := u + y) (b := n) rfl rfl (by omega) (by omega) (by omega)]
      refine ww_istore (fun ya => [(9, .int (ya)), (8, .int (nI z)), (7, .int (nI y)), (6, .int (nI its)), (5, .int (nI n)), (0, .ref (gA G 30 (0))), (1, .int (nI p)), (2, .int (nI w)), (3, .int (nI u)), (4, .int (nI v))]) C dX6_isFlat_179 (by decide) (fun _ => rfl) (fun ya eya => ?_)
      obtain ⟨a, ha⟩ : ∃ q9, q9 = (u + y) % n := ⟨_, rfl⟩
      have ka : a < n := by rw [ha]; exact Nat.mod_lt _ (by omega)
      obtain rfl : ya = nI a := eya.trans (congrArg nI ha.symm)
      refine ww_iload_n C dX6_isFlat_181 rfl 8 rfl ?_
      refine ww_iload C dX6_isFlat_182 1 rfl ?_
      refine ww_iadd C dX6_isFlat_184 ?_
      rw [show (nI u) + (nI z) = nI (u + z) from nI_add (u) (z)]
      refine ww_iload C dX6_isFlat_185 4 rfl ?_
      refine ww_irem C dX6_isFlat_187 (nI_ne0 (by omega) (by omega)) ?_
      rw [rem9 (a := u + z) (b := n) rfl rfl (by omega) (by omega) (by omega)]
      refine ww_istore (fun yb => [(10, .int (yb)), (9, .int (nI a)), (8, .int (nI z)), (7, .int (nI y)), (6, .int (nI its)), (5, .int (nI n)), (0, .ref (gA G 30 (0))), (1, .int (nI p)), (2, .int (nI w)), (3, .int (nI u)), (4, .int (nI v))]) C dX6_isFlat_188 (by decide) (fun _ => rfl) (fun yb eyb => ?_)
      obtain ⟨b, hb⟩ : ∃ q9, q9 = (u + z) % n := ⟨_, rfl⟩
      have kb : b < n := by rw [hb]; exact Nat.mod_lt _ (by omega)
      obtain rfl : yb = nI b := eyb.trans (congrArg nI hb.symm)
      refine ww_aload_n C dX6_isFlat_190 rfl 6 rfl ?_
      refine ww_iload_n C dX6_isFlat_191 rfl 7 rfl ?_
      refine ww_iload_n C dX6_isFlat_192 rfl 9 rfl ?_
      refine ww_calliF (cx_V (n := 2) (As := [.int (nI p), .int (nI u)]) C  (c_xOf_i (kL K) G hA _ p n hp hs h3 hn u (by omega)) gX6_isFlat_X6_xOf rfl ⟨rfl, rfl⟩ (by decide +kernel) (by decide) rfl (by decide) rfl rfl rfl (Nat.le_of_ble_eq_true rfl) dX6_isFlat_193) ?_
      refine ww_aload_n C dX6_isFlat_196 rfl 6 rfl ?_
      refine ww_iload_n C dX6_isFlat_197 rfl 7 rfl ?_
      refine ww_iload_n C dX6_isFlat_198 rfl 9 rfl ?_
      refine ww_calliF (cx_V (n := 2) (As := [.int (nI p), .int (nI u)]) C  (c_yOf_i (kL K) G hA _ p n hp hs h3 hn u (by omega)) gX6_isFlat_X6_yOf rfl ⟨rfl, rfl⟩ (by decide +kernel) (by decide) rfl (by decide) rfl rfl rfl (Nat.le_of_ble_eq_true rfl) dX6_isFlat_199) ?_
      refine ww_aload_n C dX6_isFlat_202 rfl 6 rfl ?_
      refine ww_iload_n C dX6_isFlat_203 rfl 7 rfl ?_
      refine ww_iload C dX6_isFlat_204 1 rfl ?_
      refine ww_calliF (cx_V (n := 2) (As := [.int (nI p), .int (nI a)]) C  (c_xOf_i (kL K) G hA _ p n hp hs h3 hn a (by omega)) gX6_isFlat_X6_xOf rfl ⟨rfl, rfl⟩ (by decide +kernel) (by decide) rfl (by decide) rfl rfl rfl (Nat.le_of_ble_eq_true rfl) dX6_isFlat_206) ?_
      refine ww_aload_n C dX6_isFlat_209 rfl 6 rfl ?_
      refine ww_iload_n C dX6_isFlat_210 rfl 7 rfl ?_
      refine ww_iload C dX6_isFlat_211 1 rfl ?_
      refine ww_calliF (cx_V (n := 2) (As := [.int (nI p), .int (nI a)]) C  (c_yOf_i (kL K) G hA _ p n hp hs h3 hn a (by omega)) gX6_isFlat_X6_yOf rfl ⟨rfl, rfl⟩ (by decide +kernel) (by decide) rfl (by decide) rfl rfl rfl (Nat.le_of_ble_eq_true rfl) dX6_isFlat_213) ?_
      refine ww_aload_n C dX6_isFlat_216 rfl 6 rfl ?_
      refine ww_iload_n C dX6_isFlat_217 rfl 7 rfl ?_
      refine ww_iload C dX6_isFlat_218 0 rfl ?_
      refine ww_calliF (cx_V (n := 2) (As := [.int (nI p), .int (nI b)]) C  (c_xOf_i (kL K) G hA _ p n hp hs h3 hn b (by omega)) gX6_isFlat_X6_xOf rfl ⟨rfl, rfl⟩ (by decide +kernel) (by decide) rfl (by decide) rfl rfl rfl (Nat.le_of_ble_eq_true rfl) dX6_isFlat_220) ?_
      refine ww_aload_n C dX6_isFlat_223 rfl 6 rfl ?_
      refine ww_iload_n C dX6_isFlat_224 rfl 7 rfl ?_
      refine ww_iload C dX6_isFlat_225 0 rfl ?_
      refine ww_calliF (cx_V (n := 2) (As := [.int (nI p), .int (nI b)]) C  (c_yOf_i (kL K) G hA _ p n hp hs h3 hn b (by omega)) gX6_isFlat_X6_yOf rfl ⟨rfl, rfl⟩ (by decide +kernel) (by decide) rfl (by decide) rfl rfl rfl (Nat.le_of_ble_eq_true rfl) dX6_isFlat_227) ?_
      refine ww_calliF (cx_S (n := 6) (As := [.int (σ 34 0 (14 * p + u)), .int (σ 35 0 (14 * p + u)), .int (σ 34 0 (14 * p + a)), .int (σ 35 0 (14 * p + a)), .int (σ 34 0 (14 * p + b)), .int (σ 35 0 (14 * p + b))]) C  (c_X6_turn (kL K) G hA _ _ _ _ _ _ _) gX6_isFlat_X6_turn rfl ⟨rfl, rfl⟩ (by decide +kernel) (by decide) rfl rfl (Nat.le_of_ble_eq_true rfl) dX6_isFlat_230) ?_
      refine ww_istore (fun y1 => [(11, .int (y1)), (10, .int (nI b)), (9, .int (nI a)), (8, .int (nI z)), (7, .int (nI y)), (6, .int (nI its)), (5, .int (nI n)), (0, .ref (gA G 30 (0))), (1, .int (nI p)), (2, .int (nI w)), (3, .int (nI u)), (4, .int (nI v))]) C dX6_isFlat_233 (by decide) (fun _ => rfl) (fun y1 ey1 => ?_)
      rw [ey1]; clear ey1 y1
      refine ww_aload_n C dX6_isFlat_235 rfl 7 rfl ?_
      refine ww_iload_n C dX6_isFlat_236 rfl 8 rfl ?_
      refine ww_calliF (cx_V (n := 1) (As := [.int (nI p)]) C  (c_X6_twice (kL K) G hA _ p n hp hs h3 hn) gX6_isFlat_X6_twice rfl ⟨rfl, rfl⟩ (by decide +kernel) (by decide) rfl (by decide) rfl rfl rfl (Nat.le_of_ble_eq_true rfl) dX6_isFlat_237) ?_
      refine ww_if_le 256 C dX6_isFlat_240 (by decide) (fun h240 => ?_) (fun h240 => ?_)
      · refine ww_iload C dX6_isFlat_256 0 rfl ?_
        refine ww_if_gt 265 C dX6_isFlat_258 (by decide) (fun h258 => ?_) (fun h258 => ?_)
        · refine ww_iconst (v := 0) C dX6_isFlat_265 rfl ?_
          refine ww_zret C dX6_isFlat_266 (by first | rfl | exact bI_n) ?_
          have hy9 : y = befR n A B st w u (farE n u v) m := by rw [hy, hits, show d = m by omega]
          have hz9 : z = behR n A B st w u (farE n u v) m := by rw [hz, hits, show d = m by omega]
          have he : flD n (fun i => σ 34 0 (14 * p + i)) (fun i => σ 35 0 (14 * p + i)) A B st m w u v = (if 0 < fan n (fun i => σ 34 0 (14 * p + i)) (fun i => σ 35 0 (14 * p + i)) then decide (0 ≤ tn (fun i => σ 34 0 (14 * p + i)) (fun i => σ 35 0 (14 * p + i)) u a b) else decide (tn (fun i => σ 34 0 (14 * p + i)) (fun i => σ 35 0 (14 * p + i)) u a b ≤ 0)) := by rw [flD, ha, hb, hy9, hz9]
          exact ⟨by rw [he, if_neg (Int32.not_lt.mpr h240), decide_eq_false (p := tn (fun i => σ 34 0 (14 * p + i)) (fun i => σ 35 0 (14 * p + i)) u a b ≤ 0) (Int32.not_le.mpr h258)]; rfl, rfl⟩
        · refine ww_iconst (v := 1) C dX6_isFlat_261 rfl ?_
          refine ww_goto 266 C dX6_isFlat_262 (by decide) ?_
          refine ww_zret C dX6_isFlat_266 (by first | rfl | exact bI_n) ?_
          have hy9 : y = befR n A B st w u (farE n u v) m := by rw [hy, hits, show d = m by omega]
          have hz9 : z = behR n A B st w u (farE n u v) m := by rw [hz, hits, show d = m by omega]
          have he : flD n (fun i => σ 34 0 (14 * p + i)) (fun i => σ 35 0 (14 * p + i)) A B st m w u v = (if 0 < fan n (fun i => σ 34 0 (14 * p + i)) (fun i => σ 35 0 (14 * p + i)) then decide (0 ≤ tn (fun i => σ 34 0 (14 * p + i)) (fun i => σ 35 0 (14 * p + i)) u a b) else decide (tn (fun i => σ 34 0 (14 * p + i)) (fun i => σ 35 0 (14 * p + i)) u a b ≤ 0)) := by rw [flD, ha, hb, hy9, hz9]
          exact ⟨by rw [he, if_neg (Int32.not_lt.mpr h240), decide_eq_true (p := tn (fun i => σ 34 0 (14 * p + i)) (fun i => σ 35 0 (14 * p + i)) u a b ≤ 0) (Int32.not_lt.mp h258)]; rfl, rfl⟩
      · refine ww_iload C dX6_isFlat_243 0 rfl ?_
        refine ww_if_lt 252 C dX6_isFlat_245 (by decide) (fun h245 => ?_) (fun h245 => ?_)
        · refine ww_iconst (v := 0) C dX6_isFlat_252 rfl ?_
          refine ww_goto 266 C dX6_isFlat_253 (by decide) ?_
          refine ww_zret C dX6_isFlat_266 (by first | rfl | exact bI_n) ?_
          have hy9 : y = befR n A B st w u (farE n u v) m := by rw [hy, hits, show d = m by omega]
          have hz9 : z = behR n A B st w u (farE n u v) m := by rw [hz, hits, show d = m by omega]
          have he : flD n (fun i => σ 34 0 (14 * p + i)) (fun i => σ 35 0 (14 * p + i)) A B st m w u v = (if 0 < fan n (fun i => σ 34 0 (14 * p + i)) (fun i => σ 35 0 (14 * p + i)) then decide (0 ≤ tn (fun i => σ 34 0 (14 * p + i)) (fun i => σ 35 0 (14 * p + i)) u a b) else decide (tn (fun i => σ 34 0 (14 * p + i)) (fun i => σ 35 0 (14 * p + i)) u a b ≤ 0)) := by rw [flD, ha, hb, hy9, hz9]
          exact ⟨by rw [he, if_pos (Int32.not_le.mp h240), decide_eq_false (p := 0 ≤ tn (fun i => σ 34 0 (14 * p + i)) (fun i => σ 35 0 (14 * p + i)) u a b) (Int32.not_le.mpr h245)]; rfl, rfl⟩
        · refine ww_iconst (v := 1) C dX6_isFlat_248 rfl ?_
          refine ww_goto 266 C dX6_isFlat_249 (by decide) ?_
          refine ww_zret C dX6_isFlat_266 (by first | rfl | exact bI_n) ?_
          have hy9 : y = befR n A B st w u (farE n u v) m := by rw [hy, hits, show d = m by omega]
          have hz9 : z = behR n A B st w u (farE n u v) m := by rw [hz, hits, show d = m by omega]
          have he : flD n (fun i => σ 34 0 (14 * p + i)) (fun i => σ 35 0 (14 * p + i)) A B st m w u v = (if 0 < fan n (fun i => σ 34 0 (14 * p + i)) (fun i => σ 35 0 (14 * p + i)) then decide (0 ≤ tn (fun i => σ 34 0 (14 * p + i)) (fun i => σ 35 0 (14 * p + i)) u a b) else decide (tn (fun i => σ 34 0 (14 * p + i)) (fun i => σ 35 0 (14 * p + i)) u a b ≤ 0)) := by rw [flD, ha, hb, hy9, hz9]
          exact ⟨by rw [he, if_pos (Int32.not_le.mp h240), decide_eq_true (p := 0 ≤ tn (fun i => σ 34 0 (14 * p + i)) (fun i => σ 35 0 (14 * p + i)) u a b) (Int32.not_lt.mp h245)]; rfl, rfl⟩
    · have g38 : ¬ m ≤ d := fun q => h38 ((cv_le (a := m) (b := d) rfl rfl (by omega) (by omega)).mpr q)
      obtain ⟨⟨hAd, hBd⟩, hSd, kA, kB⟩ := hD d (by omega)
      refine ww_aload_n C dX6_isFlat_41 rfl 5 rfl ?_
      refine ww_gr (j := 0) (k := 30) (f := 19) C rfl rfl (by decide) rfl in_X6_isFlat_X6 (by decide) lk_X6_isFlat_56 dX6_isFlat_42 rfl ?_
      refine ww_iload C dX6_isFlat_45 0 rfl ?_
      refine ww_iald (k := 44) (j := d) C rfl (by decide) (by decide) dX6_isFlat_47 rfl (by omega) ?_
      rw [hAd]
      refine ww_iload_n C dX6_isFlat_48 rfl 8 rfl ?_
      refine ww_icmp_ne 62 C dX6_isFlat_49 (by decide) (fun h49 => ?_) (fun h49 => ?_)
      · have g49 : ¬ A d = u := fun q => h49 ((cv_eq (a := A d) (b := u) rfl rfl (by omega) (by omega)).mpr q)
        refine ww_aload_n C dX6_isFlat_62 rfl 5 rfl ?_
        refine ww_gr (j := 0) (k := 30) (f := 20) C rfl rfl (by decide) rfl in_X6_isFlat_X6 (by decide) lk_X6_isFlat_59 dX6_isFlat_63 rfl ?_
        refine ww_iload C dX6_isFlat_66 0 rfl ?_
        refine ww_iald (k := 45) (j := d) C rfl (by decide) (by decide) dX6_isFlat_68 rfl (by omega) ?_
        rw [hBd]
        refine ww_iload_n C dX6_isFlat_69 rfl 8 rfl ?_
        refine ww_icmp_ne 83 C dX6_isFlat_70 (by decide) (fun h70 => ?_) (fun h70 => ?_)
        · have g70 : ¬ B d = u := fun q => h70 ((cv_eq (a := B d) (b := u) rfl rfl (by omega) (by omega)).mpr q)
          refine ww_iconst (v := -1) C dX6_isFlat_83 rfl ?_
          refine ww_istore (fun y2 => [(10, .int (y2)), (9, .int (nI d)), (8, .int (nI z)), (7, .int (nI y)), (6, .int (nI its)), (5, .int (nI n)), (0, .ref (gA G 30 (0))), (1, .int (nI p)), (2, .int (nI w)), (3, .int (nI u)), (4, .int (nI v))]) C dX6_isFlat_84 (by decide) (fun _ => rfl) (fun y2 ey2 => ?_)
          rw [ey2]; clear ey2 y2
          refine ww_iload C dX6_isFlat_86 1 rfl ?_
          refine ww_iload_n C dX6_isFlat_88 rfl 8 rfl ?_
          refine ww_icmp_eq 166 C dX6_isFlat_89 (by decide) (fun h89 => ?_) (fun h89 => ?_)
          · have g89 : d = w := (cv_eq (a := d) (b := w) rfl rfl (by omega) (by omega)).mp h89
            refine ww_iinc (q := 1) (fun y3 => [(9, .int (y3)), (10, .int (-1)), (8, .int (nI z)), (7, .int (nI y)), (6, .int (nI its)), (5, .int (nI n)), (0, .ref (gA G 30 (0))), (1, .int (nI p)), (2, .int (nI w)), (3, .int (nI u)), (4, .int (nI v))]) C dX6_isFlat_166 rfl (by decide) (fun _ => rfl) (fun y3 ey3 => ?_)
            obtain rfl : y3 = nI (d + 1) := ninc rfl ey3
            refine ww_goto 32 C dX6_isFlat_169 (by decide) ?_
            have hok : okE A B st w u d = false := by simp [okE, g49, g70]
            exact ww_sub [0, 2, 3, 4, 5, 6, 7, 8, 9, 10] rfl (ih (d + 1) y z (by omega) (by omega) (by omega) (by omega) ((by rw [befR, hok, bf_0]; exact hy)) ((by rw [behR, hok, bh_0]; exact hz)))
          · have g89 : ¬ d = w := fun q => h89 ((cv_eq (a := d) (b := w) rfl rfl (by omega) (by omega)).mpr q)
            refine ww_aload_n C dX6_isFlat_92 rfl 6 rfl ?_
            refine ww_gr (j := 0) (k := 30) (f := 21) C rfl rfl (by decide) rfl in_X6_isFlat_X6 (by decide) lk_X6_isFlat_62 dX6_isFlat_93 rfl ?_
            refine ww_iload C dX6_isFlat_96 1 rfl ?_
            refine ww_zald (k := 46) (j := d) C rfl (by decide) (by decide) dX6_isFlat_98 rfl (by omega) ?_
            refine ww_if_eq 166 C dX6_isFlat_99 (by decide) (fun h99 => ?_) (fun h99 => ?_)
            · refine ww_iinc (q := 1) (fun y4 => [(9, .int (y4)), (10, .int (-1)), (8, .int (nI z)), (7, .int (nI y)), (6, .int (nI its)), (5, .int (nI n)), (0, .ref (gA G 30 (0))), (1, .int (nI p)), (2, .int (nI w)), (3, .int (nI u)), (4, .int (nI v))]) C dX6_isFlat_166 rfl (by decide) (fun _ => rfl) (fun y4 ey4 => ?_)
              obtain rfl : y4 = nI (d + 1) := ninc rfl ey4
              refine ww_goto 32 C dX6_isFlat_169 (by decide) ?_
              have hok : okE A B st w u d = false := by simp [okE, g49, g70]
              exact ww_sub [0, 2, 3, 4, 5, 6, 7, 8, 9, 10] rfl (ih (d + 1) y z (by omega) (by omega) (by omega) (by omega) ((by rw [befR, hok, bf_0]; exact hy)) ((by rw [behR, hok, bh_0]; exact hz)))
            · refine ww_iload C dX6_isFlat_102 0 rfl ?_
              refine ww_iconst (v := -1) C dX6_isFlat_104 rfl ?_
              refine ww_icmp_eq 166 C dX6_isFlat_105 (by decide) (fun h105 => ?_) (fun h105 => ?_)
              · refine ww_iinc (q := 1) (fun y5 => [(9, .int (y5)), (10, .int (-1)), (8, .int (nI z)), (7, .int (nI y)), (6, .int (nI its)), (5, .int (nI n)), (0, .ref (gA G 30 (0))), (1, .int (nI p)), (2, .int (nI w)), (3, .int (nI u)), (4, .int (nI v))]) C dX6_isFlat_166 rfl (by decide) (fun _ => rfl) (fun y5 ey5 => ?_)
                obtain rfl : y5 = nI (d + 1) := ninc rfl ey5
                refine ww_goto 32 C dX6_isFlat_169 (by decide) ?_
                have hok : okE A B st w u d = false := by simp [okE, g49, g70]
                exact ww_sub [0, 2, 3, 4, 5, 6, 7, 8, 9, 10] rfl (ih (d + 1) y z (by omega) (by omega) (by omega) (by omega) ((by rw [befR, hok, bf_0]; exact hy)) ((by rw [behR, hok, bh_0]; exact hz)))
              · exact absurd rfl h105
        · have g70 : B d = u := (cv_eq (a := B d) (b := u) rfl rfl (by omega) (by omega)).mp h70
          refine ww_aload_n C dX6_isFlat_73 rfl 5 rfl ?_
          refine ww_gr (j := 0) (k := 30) (f := 19) C rfl rfl (by decide) rfl in_X6_isFlat_X6 (by decide) lk_X6_isFlat_56 dX6_isFlat_74 rfl ?_
          refine ww_iload C dX6_isFlat_77 0 rfl ?_
          refine ww_iald (k := 44) (j := d) C rfl (by decide) (by decide) dX6_isFlat_79 rfl (by omega) ?_
          rw [hAd]
          refine ww_goto 84 C dX6_isFlat_80 (by decide) ?_
          refine ww_istore (fun y6 => [(10, .int (y6)), (9, .int (nI d)), (8, .int (nI z)), (7, .int (nI y)), (6, .int (nI its)), (5, .int (nI n)), (0, .ref (gA G 30 (0))), (1, .int (nI p)), (2, .int (nI w)), (3, .int (nI u)), (4, .int (nI v))]) C dX6_isFlat_84 (by decide) (fun _ => rfl) (fun y6 ey6 => ?_)
          rw [ey6]; clear ey6 y6
          refine ww_iload C dX6_isFlat_86 1 rfl ?_
          refine ww_iload_n C dX6_isFlat_88 rfl 8 rfl ?_
          refine ww_icmp_eq 166 C dX6_isFlat_89 (by decide) (fun h89 => ?_) (fun h89 => ?_)
          · have g89 : d = w := (cv_eq (a := d) (b := w) rfl rfl (by omega) (by omega)).mp h89
            refine ww_iinc (q := 1) (fun y7 => [(9, .int (y7)), (10, .int (nI (A d))), (8, .int (nI z)), (7, .int (nI y)), (6, .int (nI its)), (5, .int (nI n)), (0, .ref (gA G 30 (0))), (1, .int (nI p)), (2, .int (nI w)), (3, .int (nI u)), (4, .int (nI v))]) C dX6_isFlat_166 rfl (by decide) (fun _ => rfl) (fun y7 ey7 => ?_)
            obtain rfl : y7 = nI (d + 1) := ninc rfl ey7
            refine ww_goto 32 C dX6_isFlat_169 (by decide) ?_
            have hok : okE A B st w u d = false := by simp [okE, g89]
            exact ww_sub [0, 2, 3, 4, 5, 6, 7, 8, 9, 10] rfl (ih (d + 1) y z (by omega) (by omega) (by omega) (by omega) ((by rw [befR, hok, bf_0]; exact hy)) ((by rw [behR, hok, bh_0]; exact hz)))
          · have g89 : ¬ d = w := fun q => h89 ((cv_eq (a := d) (b := w) rfl rfl (by omega) (by omega)).mpr q)
            refine ww_aload_n C dX6_isFlat_92 rfl 6 rfl ?_
            refine ww_gr (j := 0) (k := 30) (f := 21) C rfl rfl (by decide) rfl in_X6_isFlat_X6 (by decide) lk_X6_isFlat_62 dX6_isFlat_93 rfl ?_
            refine ww_iload C dX6_isFlat_96 1 rfl ?_
            refine ww_zald (k := 46) (j := d) C rfl (by decide) (by decide) dX6_isFlat_98 rfl (by omega) ?_
            refine ww_if_eq 166 C dX6_isFlat_99 (by decide) (fun h99 => ?_) (fun h99 => ?_)
            · refine ww_iinc (q := 1) (fun y8 => [(9, .int (y8)), (10, .int (nI (A d))), (8, .int (nI z)), (7, .int (nI y)), (6, .int (nI its)), (5, .int (nI n)), (0, .ref (gA G 30 (0))), (1, .int (nI p)), (2, .int (nI w)), (3, .int (nI u)), (4, .int (nI v))]) C dX6_isFlat_166 rfl (by decide) (fun _ => rfl) (fun y8 ey8 => ?_)
              obtain rfl : y8 = nI (d + 1) := ninc rfl ey8
              refine ww_goto 32 C dX6_isFlat_169 (by decide) ?_
              have hok : okE A B st w u d = false := by rw [hSd] at h99; simp [okE, bI_0.mp h99]
              exact ww_sub [0, 2, 3, 4, 5, 6, 7, 8, 9, 10] rfl (ih (d + 1) y z (by omega) (by omega) (by omega) (by omega) ((by rw [befR, hok, bf_0]; exact hy)) ((by rw [behR, hok, bh_0]; exact hz)))
            · refine ww_iload C dX6_isFlat_102 0 rfl ?_
              refine ww_iconst (v := -1) C dX6_isFlat_104 rfl ?_
              refine ww_icmp_eq 166 C dX6_isFlat_105 (by decide) (fun h105 => ?_) (fun h105 => ?_)
              · exact absurd h105 (nI_nm1 (by omega))
              · refine ww_iload C dX6_isFlat_108 0 rfl ?_
                refine ww_iload_n C dX6_isFlat_110 rfl 9 rfl ?_
                refine ww_isub C dX6_isFlat_111 ?_
                refine ww_iload C dX6_isFlat_112 5 rfl ?_
                refine ww_iadd C dX6_isFlat_114 ?_
                rw [show ((nI (A d)) - (nI u)) + (nI n) = nI (A d + n - u) from go9 (by omega)]
                refine ww_iload C dX6_isFlat_115 5 rfl ?_
                refine ww_irem C dX6_isFlat_117 (nI_ne0 (by omega) (by omega)) ?_
                rw [rem9 (a := A d + n - u) (b := n) rfl rfl (by omega) (by omega) (by omega)]
                refine ww_istore (fun yf => [(11, .int (yf)), (10, .int (nI (A d))), (9, .int (nI d)), (8, .int (nI z)), (7, .int (nI y)), (6, .int (nI its)), (5, .int (nI n)), (0, .ref (gA G 30 (0))), (1, .int (nI p)), (2, .int (nI w)), (3, .int (nI u)), (4, .int (nI v))]) C dX6_isFlat_118 (by decide) (fun _ => rfl) (fun yf eyf => ?_)
                obtain ⟨far, hfar⟩ : ∃ z, z = farE n u (A d) := ⟨_, rfl⟩
                have kfar : far < n := by rw [hfar]; exact Nat.mod_lt _ (by omega)
                obtain rfl : yf = nI far := eyf.trans (congrArg nI hfar.symm)
                refine ww_iload C dX6_isFlat_120 0 rfl ?_
                refine ww_iload C dX6_isFlat_122 5 rfl ?_
                refine ww_icmp_ge 139 C dX6_isFlat_124 (by decide) (fun h124 => ?_) (fun h124 => ?_)
                · have g124 : its ≤ far := (cv_le (a := its) (b := far) rfl rfl (by omega) (by omega)).mp h124
                  refine ww_iload C dX6_isFlat_139 4 rfl ?_
                  refine ww_istore (fun y9 => [(7, .int (y9)), (11, .int (nI far)), (10, .int (nI (A d))), (9, .int (nI d)), (8, .int (nI z)), (6, .int (nI its)), (5, .int (nI n)), (0, .ref (gA G 30 (0))), (1, .int (nI p)), (2, .int (nI w)), (3, .int (nI u)), (4, .int (nI v))]) C dX6_isFlat_141 (by decide) (fun _ => rfl) (fun y9 ey9 => ?_)
                  obtain rfl : y9 = nI y := ey9
                  refine ww_iload C dX6_isFlat_143 1 rfl ?_
                  refine ww_iload C dX6_isFlat_145 5 rfl ?_
                  refine ww_icmp_le 162 C dX6_isFlat_147 (by decide) (fun h147 => ?_) (fun h147 => ?_)
                  · have g147 : far ≤ its := (cv_le (a := far) (b := its) rfl rfl (by omega) (by omega)).mp h147
                    refine ww_iload C dX6_isFlat_162 4 rfl ?_
                    refine ww_istore (fun y10 => [(8, .int (y10)), (7, .int (nI y)), (11, .int (nI far)), (10, .int (nI (A d))), (9, .int (nI d)), (6, .int (nI its)), (5, .int (nI n)), (0, .ref (gA G 30 (0))), (1, .int (nI p)), (2, .int (nI w)), (3, .int (nI u)), (4, .int (nI v))]) C dX6_isFlat_164 (by decide) (fun _ => rfl) (fun y10 ey10 => ?_)
                    obtain rfl : y10 = nI z := ey10
                    refine ww_iinc (q := 4) (fun y11 => [(9, .int (y11)), (8, .int (nI z)), (7, .int (nI y)), (11, .int (nI far)), (10, .int (nI (A d))), (6, .int (nI its)), (5, .int (nI n)), (0, .ref (gA G 30 (0))), (1, .int (nI p)), (2, .int (nI w)), (3, .int (nI u)), (4, .int (nI v))]) C dX6_isFlat_166 rfl (by decide) (fun _ => rfl) (fun y11 ey11 => ?_)
                    obtain rfl : y11 = nI (d + 1) := ninc rfl ey11
                    refine ww_goto 32 C dX6_isFlat_169 (by decide) ?_
                    have hok : okE A B st w u d = true := by rw [hSd] at h99; simp [okE, bI_1.mp h99, g89, g70]
                    have hot : farE n u (othE A B u d) = far := by rw [hfar, othE, if_neg g49]
                    exact ww_sub [0, 1, 2, 5, 6, 7, 8, 9, 10, 11] rfl (ih (d + 1) y z (by omega) (by omega) (by omega) (by omega) (by rw [befR, hok, hot, ← hy, bfS, if_neg (fun q => absurd q.2.1 (by omega))]) (by rw [behR, hok, hot, ← hz, bhS, if_neg (fun q => absurd q.2.1 (by omega))]))
                  · have g147 : ¬ far ≤ its := fun q => h147 ((cv_le (a := far) (b := its) rfl rfl (by omega) (by omega)).mpr q)
                    refine ww_iload C dX6_isFlat_150 1 rfl ?_
                    refine ww_iload C dX6_isFlat_152 4 rfl ?_
                    refine ww_icmp_ge 162 C dX6_isFlat_154 (by decide) (fun h154 => ?_) (fun h154 => ?_)
                    · have g154 : z ≤ far := (cv_le (a := z) (b := far) rfl rfl (by omega) (by omega)).mp h154
                      refine ww_iload C dX6_isFlat_162 4 rfl ?_
                      refine ww_istore (fun y12 => [(8, .int (y12)), (7, .int (nI y)), (11, .int (nI far)), (10, .int (nI (A d))), (9, .int (nI d)), (6, .int (nI its)), (5, .int (nI n)), (0, .ref (gA G 30 (0))), (1, .int (nI p)), (2, .int (nI w)), (3, .int (nI u)), (4, .int (nI v))]) C dX6_isFlat_164 (by decide) (fun _ => rfl) (fun y12 ey12 => ?_)
                      obtain rfl : y12 = nI z := ey12
                      refine ww_iinc (q := 4) (fun y13 => [(9, .int (y13)), (8, .int (nI z)), (7, .int (nI y)), (11, .int (nI far)), (10, .int (nI (A d))), (6, .int (nI its)), (5, .int (nI n)), (0, .ref (gA G 30 (0))), (1, .int (nI p)), (2, .int (nI w)), (3, .int (nI u)), (4, .int (nI v))]) C dX6_isFlat_166 rfl (by decide) (fun _ => rfl) (fun y13 ey13 => ?_)
                      obtain rfl : y13 = nI (d + 1) := ninc rfl ey13
                      refine ww_goto 32 C dX6_isFlat_169 (by decide) ?_
                      have hok : okE A B st w u d = true := by rw [hSd] at h99; simp [okE, bI_1.mp h99, g89, g70]
                      have hot : farE n u (othE A B u d) = far := by rw [hfar, othE, if_neg g49]
                      exact ww_sub [0, 1, 2, 5, 6, 7, 8, 9, 10, 11] rfl (ih (d + 1) y z (by omega) (by omega) (by omega) (by omega) (by rw [befR, hok, hot, ← hy, bfS, if_neg (fun q => absurd q.2.1 (by omega))]) (by rw [behR, hok, hot, ← hz, bhS, if_neg (fun q => absurd q.2.2 (by omega))]))
                    · have g154 : ¬ z ≤ far := fun q => h154 ((cv_le (a := z) (b := far) rfl rfl (by omega) (by omega)).mpr q)
                      refine ww_iload C dX6_isFlat_157 1 rfl ?_
                      refine ww_goto 164 C dX6_isFlat_159 (by decide) ?_
                      refine ww_istore (fun y14 => [(8, .int (y14)), (7, .int (nI y)), (11, .int (nI far)), (10, .int (nI (A d))), (9, .int (nI d)), (6, .int (nI its)), (5, .int (nI n)), (0, .ref (gA G 30 (0))), (1, .int (nI p)), (2, .int (nI w)), (3, .int (nI u)), (4, .int (nI v))]) C dX6_isFlat_164 (by decide) (fun _ => rfl) (fun y14 ey14 => ?_)
                      obtain rfl : y14 = nI far := ey14
                      refine ww_iinc (q := 4) (fun y15 => [(9, .int (y15)), (8, .int (nI far)), (7, .int (nI y)), (11, .int (nI far)), (10, .int (nI (A d))), (6, .int (nI its)), (5, .int (nI n)), (0, .ref (gA G 30 (0))), (1, .int (nI p)), (2, .int (nI w)), (3, .int (nI u)), (4, .int (nI v))]) C dX6_isFlat_166 rfl (by decide) (fun _ => rfl) (fun y15 ey15 => ?_)
                      obtain rfl : y15 = nI (d + 1) := ninc rfl ey15
                      refine ww_goto 32 C dX6_isFlat_169 (by decide) ?_
                      have hok : okE A B st w u d = true := by rw [hSd] at h99; simp [okE, bI_1.mp h99, g89, g70]
                      have hot : farE n u (othE A B u d) = far := by rw [hfar, othE, if_neg g49]
                      exact ww_sub [0, 1, 2, 5, 6, 7, 8, 9, 10, 11] rfl (ih (d + 1) y far (by omega) (by omega) (by omega) (by omega) (by rw [befR, hok, hot, ← hy, bfS, if_neg (fun q => absurd q.2.1 (by omega))]) (by rw [behR, hok, hot, ← hz, bhS, if_pos ⟨rfl, by omega, by omega⟩]))
                · have g124 : ¬ its ≤ far := fun q => h124 ((cv_le (a := its) (b := far) rfl rfl (by omega) (by omega)).mpr q)
                  refine ww_iload C dX6_isFlat_127 0 rfl ?_
                  refine ww_iload C dX6_isFlat_129 4 rfl ?_
                  refine ww_icmp_le 139 C dX6_isFlat_131 (by decide) (fun h131 => ?_) (fun h131 => ?_)
                  · have g131 : far ≤ y := (cv_le (a := far) (b := y) rfl rfl (by omega) (by omega)).mp h131
                    refine ww_iload C dX6_isFlat_139 4 rfl ?_
                    refine ww_istore (fun y16 => [(7, .int (y16)), (11, .int (nI far)), (10, .int (nI (A d))), (9, .int (nI d)), (8, .int (nI z)), (6, .int (nI its)), (5, .int (nI n)), (0, .ref (gA G 30 (0))), (1, .int (nI p)), (2, .int (nI w)), (3, .int (nI u)), (4, .int (nI v))]) C dX6_isFlat_141 (by decide) (fun _ => rfl) (fun y16 ey16 => ?_)
                    obtain rfl : y16 = nI y := ey16
                    refine ww_iload C dX6_isFlat_143 1 rfl ?_
                    refine ww_iload C dX6_isFlat_145 5 rfl ?_
                    refine ww_icmp_le 162 C dX6_isFlat_147 (by decide) (fun h147 => ?_) (fun h147 => ?_)
                    · have g147 : far ≤ its := (cv_le (a := far) (b := its) rfl rfl (by omega) (by omega)).mp h147
                      refine ww_iload C dX6_isFlat_162 4 rfl ?_
                      refine ww_istore (fun y17 => [(8, .int (y17)), (7, .int (nI y)), (11, .int (nI far)), (10, .int (nI (A d))), (9, .int (nI d)), (6, .int (nI its)), (5, .int (nI n)), (0, .ref (gA G 30 (0))), (1, .int (nI p)), (2, .int (nI w)), (3, .int (nI u)), (4, .int (nI v))]) C dX6_isFlat_164 (by decide) (fun _ => rfl) (fun y17 ey17 => ?_)
                      obtain rfl : y17 = nI z := ey17
                      refine ww_iinc (q := 4) (fun y18 => [(9, .int (y18)), (8, .int (nI z)), (7, .int (nI y)), (11, .int (nI far)), (10, .int (nI (A d))), (6, .int (nI its)), (5, .int (nI n)), (0, .ref (gA G 30 (0))), (1, .int (nI p)), (2, .int (nI w)), (3, .int (nI u)), (4, .int (nI v))]) C dX6_isFlat_166 rfl (by decide) (fun _ => rfl) (fun y18 ey18 => ?_)
                      obtain rfl : y18 = nI (d + 1) := ninc rfl ey18
                      refine ww_goto 32 C dX6_isFlat_169 (by decide) ?_
                      have hok : okE A B st w u d = true := by rw [hSd] at h99; simp [okE, bI_1.mp h99, g89, g70]
                      have hot : farE n u (othE A B u d) = far := by rw [hfar, othE, if_neg g49]
                      exact ww_sub [0, 1, 2, 5, 6, 7, 8, 9, 10, 11] rfl (ih (d + 1) y z (by omega) (by omega) (by omega) (by omega) (by rw [befR, hok, hot, ← hy, bfS, if_neg (fun q => absurd q.2.2 (by omega))]) (by rw [behR, hok, hot, ← hz, bhS, if_neg (fun q => absurd q.2.1 (by omega))]))
                    · have g147 : ¬ far ≤ its := fun q => h147 ((cv_le (a := far) (b := its) rfl rfl (by omega) (by omega)).mpr q)
                      refine ww_iload C dX6_isFlat_150 1 rfl ?_
                      refine ww_iload C dX6_isFlat_152 4 rfl ?_
                      refine ww_icmp_ge 162 C dX6_isFlat_154 (by decide) (fun h154 => ?_) (fun h154 => ?_)
                      · have g154 : z ≤ far := (cv_le (a := z) (b := far) rfl rfl (by omega) (by omega)).mp h154
                        refine ww_iload C dX6_isFlat_162 4 rfl ?_
                        refine ww_istore (fun y19 => [(8, .int (y19)), (7, .int (nI y)), (11, .int (nI far)), (10, .int (nI (A d))), (9, .int (nI d)), (6, .int (nI its)), (5, .int (nI n)), (0, .ref (gA G 30 (0))), (1, .int (nI p)), (2, .int (nI w)), (3, .int (nI u)), (4, .int (nI v))]) C dX6_isFlat_164 (by decide) (fun _ => rfl) (fun y19 ey19 => ?_)
                        obtain rfl : y19 = nI z := ey19
                        refine ww_iinc (q := 4) (fun y20 => [(9, .int (y20)), (8, .int (nI z)), (7, .int (nI y)), (11, .int (nI far)), (10, .int (nI (A d))), (6, .int (nI its)), (5, .int (nI n)), (0, .ref (gA G 30 (0))), (1, .int (nI p)), (2, .int (nI w)), (3, .int (nI u)), (4, .int (nI v))]) C dX6_isFlat_166 rfl (by decide) (fun _ => rfl) (fun y20 ey20 => ?_)
                        obtain rfl : y20 = nI (d + 1) := ninc rfl ey20
                        refine ww_goto 32 C dX6_isFlat_169 (by decide) ?_
                        have hok : okE A B st w u d = true := by rw [hSd] at h99; simp [okE, bI_1.mp h99, g89, g70]
                        have hot : farE n u (othE A B u d) = far := by rw [hfar, othE, if_neg g49]
                        exact ww_sub [0, 1, 2, 5, 6, 7, 8, 9, 10, 11] rfl (ih (d + 1) y z (by omega) (by omega) (by omega) (by omega) (by rw [befR, hok, hot, ← hy, bfS, if_neg (fun q => absurd q.2.2 (by omega))]) (by rw [behR, hok, hot, ← hz, bhS, if_neg (fun q => absurd q.2.2 (by omega))]))
                      · have g154 : ¬ z ≤ far := fun q => h154 ((cv_le (a := z) (b := far) rfl rfl (by omega) (by omega)).mpr q)
                        refine ww_iload C dX6_isFlat_157 1 rfl ?_
                        refine ww_goto 164 C dX6_isFlat_159 (by decide) ?_
                        refine ww_istore (fun y21 => [(8, .int (y21)), (7, .int (nI y)), (11, .int (nI far)), (10, .int (nI (A d))), (9, .int (nI d)), (6, .int (nI its)), (5, .int (nI n)), (0, .ref (gA G 30 (0))), (1, .int (nI p)), (2, .int (nI w)), (3, .int (nI u)), (4, .int (nI v))]) C dX6_isFlat_164 (by decide) (fun _ => rfl) (fun y21 ey21 => ?_)
                        obtain rfl : y21 = nI far := ey21
                        refine ww_iinc (q := 4) (fun y22 => [(9, .int (y22)), (8, .int (nI far)), (7, .int (nI y)), (11, .int (nI far)), (10, .int (nI (A d))), (6, .int (nI its)), (5, .int (nI n)), (0, .ref (gA G 30 (0))), (1, .int (nI p)), (2, .int (nI w)), (3, .int (nI u)), (4, .int (nI v))]) C dX6_isFlat_166 rfl (by decide) (fun _ => rfl) (fun y22 ey22 => ?_)
                        obtain rfl : y22 = nI (d + 1) := ninc rfl ey22
                        refine ww_goto 32 C dX6_isFlat_169 (by decide) ?_
                        have hok : okE A B st w u d = true := by rw [hSd] at h99; simp [okE, bI_1.mp h99, g89, g70]
                        have hot : farE n u (othE A B u d) = far := by rw [hfar, othE, if_neg g49]
                        exact ww_sub [0, 1, 2, 5, 6, 7, 8, 9, 10, 11] rfl (ih (d + 1) y far (by omega) (by omega) (by omega) (by omega) (by rw [befR, hok, hot, ← hy, bfS, if_neg (fun q => absurd q.2.2 (by omega))]) (by rw [behR, hok, hot, ← hz, bhS, if_pos ⟨rfl, by omega, by omega⟩]))
                  · have g131 : ¬ far ≤ y := fun q => h131 ((cv_le (a := far) (b := y) rfl rfl (by omega) (by omega)).mpr q)
                    refine ww_iload C dX6_isFlat_134 0 rfl ?_
                    refine ww_goto 141 C dX6_isFlat_136 (by decide) ?_
                    refine ww_istore (fun y23 => [(7, .int (y23)), (11, .int (nI far)), (10, .int (nI (A d))), (9, .int (nI d)), (8, .int (nI z)), (6, .int (nI its)), (5, .int (nI n)), (0, .ref (gA G 30 (0))), (1, .int (nI p)), (2, .int (nI w)), (3, .int (nI u)), (4, .int (nI v))]) C dX6_isFlat_141 (by decide) (fun _ => rfl) (fun y23 ey23 => ?_)
                    obtain rfl : y23 = nI far := ey23
                    refine ww_iload C dX6_isFlat_143 1 rfl ?_
                    refine ww_iload C dX6_isFlat_145 5 rfl ?_
                    refine ww_icmp_le 162 C dX6_isFlat_147 (by decide) (fun h147 => ?_) (fun h147 => ?_)
                    · have g147 : far ≤ its := (cv_le (a := far) (b := its) rfl rfl (by omega) (by omega)).mp h147
                      refine ww_iload C dX6_isFlat_162 4 rfl ?_
                      refine ww_istore (fun y24 => [(8, .int (y24)), (7, .int (nI far)), (11, .int (nI far)), (10, .int (nI (A d))), (9, .int (nI d)), (6, .int (nI its)), (5, .int (nI n)), (0, .ref (gA G 30 (0))), (1, .int (nI p)), (2, .int (nI w)), (3, .int (nI u)), (4, .int (nI v))]) C dX6_isFlat_164 (by decide) (fun _ => rfl) (fun y24 ey24 => ?_)
                      obtain rfl : y24 = nI z := ey24
                      refine ww_iinc (q := 4) (fun y25 => [(9, .int (y25)), (8, .int (nI z)), (7, .int (nI far)), (11, .int (nI far)), (10, .int (nI (A d))), (6, .int (nI its)), (5, .int (nI n)), (0, .ref (gA G 30 (0))), (1, .int (nI p)), (2, .int (nI w)), (3, .int (nI u)), (4, .int (nI v))]) C dX6_isFlat_166 rfl (by decide) (fun _ => rfl) (fun y25 ey25 => ?_)
                      obtain rfl : y25 = nI (d + 1) := ninc rfl ey25
                      refine ww_goto 32 C dX6_isFlat_169 (by decide) ?_
                      have hok : okE A B st w u d = true := by rw [hSd] at h99; simp [okE, bI_1.mp h99, g89, g70]
                      have hot : farE n u (othE A B u d) = far := by rw [hfar, othE, if_neg g49]
                      exact ww_sub [0, 1, 2, 5, 6, 7, 8, 9, 10, 11] rfl (ih (d + 1) far z (by omega) (by omega) (by omega) (by omega) (by rw [befR, hok, hot, ← hy, bfS, if_pos ⟨rfl, by omega, by omega⟩]) (by rw [behR, hok, hot, ← hz, bhS, if_neg (fun q => absurd q.2.1 (by omega))]))
                    · have g147 : ¬ far ≤ its := fun q => h147 ((cv_le (a := far) (b := its) rfl rfl (by omega) (by omega)).mpr q)
                      refine ww_iload C dX6_isFlat_150 1 rfl ?_
                      refine ww_iload C dX6_isFlat_152 4 rfl ?_
                      refine ww_icmp_ge 162 C dX6_isFlat_154 (by decide) (fun h154 => ?_) (fun h154 => ?_)
                      · have g154 : z ≤ far := (cv_le (a := z) (b := far) rfl rfl (by omega) (by omega)).mp h154
                        refine ww_iload C dX6_isFlat_162 4 rfl ?_
                        refine ww_istore (fun y26 => [(8, .int (y26)), (7, .int (nI far)), (11, .int (nI far)), (10, .int (nI (A d))), (9, .int (nI d)), (6, .int (nI its)), (5, .int (nI n)), (0, .ref (gA G 30 (0))), (1, .int (nI p)), (2, .int (nI w)), (3, .int (nI u)), (4, .int (nI v))]) C dX6_isFlat_164 (by decide) (fun _ => rfl) (fun y26 ey26 => ?_)
                        obtain rfl : y26 = nI z := ey26
                        refine ww_iinc (q := 4) (fun y27 => [(9, .int (y27)), (8, .int (nI z)), (7, .int (nI far)), (11, .int (nI far)), (10, .int (nI (A d))), (6, .int (nI its)), (5, .int (nI n)), (0, .ref (gA G 30 (0))), (1, .int (nI p)), (2, .int (nI w)), (3, .int (nI u)), (4, .int (nI v))]) C dX6_isFlat_166 rfl (by decide) (fun _ => rfl) (fun y27 ey27 => ?_)
                        obtain rfl : y27 = nI (d + 1) := ninc rfl ey27
                        refine ww_goto 32 C dX6_isFlat_169 (by decide) ?_
                        have hok : okE A B st w u d = true := by rw [hSd] at h99; simp [okE, bI_1.mp h99, g89, g70]
                        have hot : farE n u (othE A B u d) = far := by rw [hfar, othE, if_neg g49]
                        exact ww_sub [0, 1, 2, 5, 6, 7, 8, 9, 10, 11] rfl (ih (d + 1) far z (by omega) (by omega) (by omega) (by omega) (by rw [befR, hok, hot, ← hy, bfS, if_pos ⟨rfl, by omega, by omega⟩]) (by rw [behR, hok, hot, ← hz, bhS, if_neg (fun q => absurd q.2.2 (by omega))]))
                      · have g154 : ¬ z ≤ far := fun q => h154 ((cv_le (a := z) (b := far) rfl rfl (by omega) (by omega)).mpr q)
                        refine ww_iload C dX6_isFlat_157 1 rfl ?_
                        refine ww_goto 164 C dX6_isFlat_159 (by decide) ?_
                        refine ww_istore (fun y28 => [(8, .int (y28)), (7, .int (nI far)), (11, .int (nI far)), (10, .int (nI (A d))), (9, .int (nI d)), (6, .int (nI its)), (5, .int (nI n)), (0, .ref (gA G 30 (0))), (1, .int (nI p)), (2, .int (nI w)), (3, .int (nI u)), (4, .int (nI v))]) C dX6_isFlat_164 (by decide) (fun _ => rfl) (fun y28 ey28 => ?_)
                        obtain rfl : y28 = nI far := ey28
                        refine ww_iinc (q := 4) (fun y29 => [(9, .int (y29)), (8, .int (nI far)), (7, .int (nI far)), (11, .int (nI far)), (10, .int (nI (A d))), (6, .int (nI its)), (5, .int (nI n)), (0, .ref (gA G 30 (0))), (1, .int (nI p)), (2, .int (nI w)), (3, .int (nI u)), (4, .int (nI v))]) C dX6_isFlat_166 rfl (by decide) (fun _ => rfl) (fun y29 ey29 => ?_)
                        obtain rfl : y29 = nI (d + 1) := ninc rfl ey29
                        refine ww_goto 32 C dX6_isFlat_169 (by decide) ?_
                        have hok : okE A B st w u d = true := by rw [hSd] at h99; simp [okE, bI_1.mp h99, g89, g70]
                        have hot : farE n u (othE A B u d) = far := by rw [hfar, othE, if_neg g49]
                        exact ww_sub [0, 1, 2, 5, 6, 7, 8, 9, 10, 11] rfl (ih (d + 1) far far (by omega) (by omega) (by omega) (by omega) (by rw [befR, hok, hot, ← hy, bfS, if_pos ⟨rfl, by omega, by omega⟩]) (by rw [behR, hok, hot, ← hz, bhS, if_pos ⟨rfl, by omega, by omega⟩]))
      · have g49 : A d = u := (cv_eq (a := A d) (b := u) rfl rfl (by omega) (by omega)).mp h49
        refine ww_aload_n C dX6_isFlat_52 rfl 5 rfl ?_
        refine ww_gr (j := 0) (k := 30) (f := 20) C rfl rfl (by decide) rfl in_X6_isFlat_X6 (by decide) lk_X6_isFlat_59 dX6_isFlat_53 rfl ?_
        refine ww_iload C dX6_isFlat_56 0 rfl ?_
        refine ww_iald (k := 45) (j := d) C rfl (by decide) (by decide) dX6_isFlat_58 rfl (by omega) ?_
        rw [hBd]
        refine ww_goto 84 C dX6_isFlat_59 (by decide) ?_
        refine ww_istore (fun y30 => [(10, .int (y30)), (9, .int (nI d)), (8, .int (nI z)), (7, .int (nI y)), (6, .int (nI its)), (5, .int (nI n)), (0, .ref (gA G 30 (0))), (1, .int (nI p)), (2, .int (nI w)), (3, .int (nI u)), (4, .int (nI v))]) C dX6_isFlat_84 (by decide) (fun _ => rfl) (fun y30 ey30 => ?_)
        rw [ey30]; clear ey30 y30
        refine ww_iload C dX6_isFlat_86 1 rfl ?_
        refine ww_iload_n C dX6_isFlat_88 rfl 8 rfl ?_
        refine ww_icmp_eq 166 C dX6_isFlat_89 (by decide) (fun h89 => ?_) (fun h89 => ?_)
        · have g89 : d = w := (cv_eq (a := d) (b := w) rfl rfl (by omega) (by omega)).mp h89
          refine ww_iinc (q := 1) (fun y31 => [(9, .int (y31)), (10, .int (nI (B d))), (8, .int (nI z)), (7, .int (nI y)), (6, .int (nI its)), (5, .int (nI n)), (0, .ref (gA G 30 (0))), (1, .int (nI p)), (2, .int (nI w)), (3, .int (nI u)), (4, .int (nI v))]) C dX6_isFlat_166 rfl (by decide) (fun _ => rfl) (fun y31 ey31 => ?_)
          obtain rfl : y31 = nI (d + 1) := ninc rfl ey31
          refine ww_goto 32 C dX6_isFlat_169 (by decide) ?_
          have hok : okE A B st w u d = false := by simp [okE, g89]
          exact ww_sub [0, 2, 3, 4, 5, 6, 7, 8, 9, 10] rfl (ih (d + 1) y z (by omega) (by omega) (by omega) (by omega) ((by rw [befR, hok, bf_0]; exact hy)) ((by rw [behR, hok, bh_0]; exact hz)))
        · have g89 : ¬ d = w := fun q => h89 ((cv_eq (a := d) (b := w) rfl rfl (by omega) (by omega)).mpr q)
          refine ww_aload_n C dX6_isFlat_92 rfl 6 rfl ?_
          refine ww_gr (j := 0) (k := 30) (f := 21) C rfl rfl (by decide) rfl in_X6_isFlat_X6 (by decide) lk_X6_isFlat_62 dX6_isFlat_93 rfl ?_
          refine ww_iload C dX6_isFlat_96 1 rfl ?_
          refine ww_zald (k := 46) (j := d) C rfl (by decide) (by decide) dX6_isFlat_98 rfl (by omega) ?_
          refine ww_if_eq 166 C dX6_isFlat_99 (by decide) (fun h99 => ?_) (fun h99 => ?_)
          · refine ww_iinc (q := 1) (fun y32 => [(9, .int (y32)), (10, .int (nI (B d))), (8, .int (nI z)), (7, .int (nI y)), (6, .int (nI its)), (5, .int (nI n)), (0, .ref (gA G 30 (0))), (1, .int (nI p)), (2, .int (nI w)), (3, .int (nI u)), (4, .int (nI v))]) C dX6_isFlat_166 rfl (by decide) (fun _ => rfl) (fun y32 ey32 => ?_)
            obtain rfl : y32 = nI (d + 1) := ninc rfl ey32
            refine ww_goto 32 C dX6_isFlat_169 (by decide) ?_
            have hok : okE A B st w u d = false := by rw [hSd] at h99; simp [okE, bI_0.mp h99]
            exact ww_sub [0, 2, 3, 4, 5, 6, 7, 8, 9, 10] rfl (ih (d + 1) y z (by omega) (by omega) (by omega) (by omega) ((by rw [befR, hok, bf_0]; exact hy)) ((by rw [behR, hok, bh_0]; exact hz)))
          · refine ww_iload C dX6_isFlat_102 0 rfl ?_
            refine ww_iconst (v := -1) C dX6_isFlat_104 rfl ?_
            refine ww_icmp_eq 166 C dX6_isFlat_105 (by decide) (fun h105 => ?_) (fun h105 => ?_)
            · exact absurd h105 (nI_nm1 (by omega))
            · refine ww_iload C dX6_isFlat_108 0 rfl ?_
              refine ww_iload_n C dX6_isFlat_110 rfl 9 rfl ?_
              refine ww_isub C dX6_isFlat_111 ?_
              refine ww_iload C dX6_isFlat_112 5 rfl ?_
              refine ww_iadd C dX6_isFlat_114 ?_
              rw [show ((nI (B d)) - (nI u)) + (nI n) = nI (B d + n - u) from go9 (by omega)]
              refine ww_iload C dX6_isFlat_115 5 rfl ?_
              refine ww_irem C dX6_isFlat_117 (nI_ne0 (by omega) (by omega)) ?_
              rw [rem9 (a := B d + n - u) (b := n) rfl rfl (by omega) (by omega) (by omega)]
              refine ww_istore (fun yf => [(11, .int (yf)), (10, .int (nI (B d))), (9, .int (nI d)), (8, .int (nI z)), (7, .int (nI y)), (6, .int (nI its)), (5, .int (nI n)), (0, .ref (gA G 30 (0))), (1, .int (nI p)), (2, .int (nI w)), (3, .int (nI u)), (4, .int (nI v))]) C dX6_isFlat_118 (by decide) (fun _ => rfl) (fun yf eyf => ?_)
              obtain ⟨far, hfar⟩ : ∃ z, z = farE n u (B d) := ⟨_, rfl⟩
              have kfar : far < n := by rw [hfar]; exact Nat.mod_lt _ (by omega)
              obtain rfl : yf = nI far := eyf.trans (congrArg nI hfar.symm)
              refine ww_iload C dX6_isFlat_120 0 rfl ?_
              refine ww_iload C dX6_isFlat_122 5 rfl ?_
              refine ww_icmp_ge 139 C dX6_isFlat_124 (by decide) (fun h124 => ?_) (fun h124 => ?_)
              · have g124 : its ≤ far := (cv_le (a := its) (b := far) rfl rfl (by omega) (by omega)).mp h124
                refine ww_iload C dX6_isFlat_139 4 rfl ?_
                refine ww_istore (fun y33 => [(7, .int (y33)), (11, .int (nI far)), (10, .int (nI (B d))), (9, .int (nI d)), (8, .int (nI z)), (6, .int (nI its)), (5, .int (nI n)), (0, .ref (gA G 30 (0))), (1, .int (nI p)), (2, .int (nI w)), (3, .int (nI u)), (4, .int (nI v))]) C dX6_isFlat_141 (by decide) (fun _ => rfl) (fun y33 ey33 => ?_)
                obtain rfl : y33 = nI y := ey33
                refine ww_iload C dX6_isFlat_143 1 rfl ?_
                refine ww_iload C dX6_isFlat_145 5 rfl ?_
                refine ww_icmp_le 162 C dX6_isFlat_147 (by decide) (fun h147 => ?_) (fun h147 => ?_)
                · have g147 : far ≤ its := (cv_le (a := far) (b := its) rfl rfl (by omega) (by omega)).mp h147
                  refine ww_iload C dX6_isFlat_162 4 rfl ?_
                  refine ww_istore (fun y34 => [(8, .int (y34)), (7, .int (nI y)), (11, .int (nI far)), (10, .int (nI (B d))), (9, .int (nI d)), (6, .int (nI its)), (5, .int (nI n)), (0, .ref (gA G 30 (0))), (1, .int (nI p)), (2, .int (nI w)), (3, .int (nI u)), (4, .int (nI v))]) C dX6_isFlat_164 (by decide) (fun _ => rfl) (fun y34 ey34 => ?_)
                  obtain rfl : y34 = nI z := ey34
                  refine ww_iinc (q := 4) (fun y35 => [(9, .int (y35)), (8, .int (nI z)), (7, .int (nI y)), (11, .int (nI far)), (10, .int (nI (B d))), (6, .int (nI its)), (5, .int (nI n)), (0, .ref (gA G 30 (0))), (1, .int (nI p)), (2, .int (nI w)), (3, .int (nI u)), (4, .int (nI v))]) C dX6_isFlat_166 rfl (by decide) (fun _ => rfl) (fun y35 ey35 => ?_)
                  obtain rfl : y35 = nI (d + 1) := ninc rfl ey35
                  refine ww_goto 32 C dX6_isFlat_169 (by decide) ?_
                  have hok : okE A B st w u d = true := by rw [hSd] at h99; simp [okE, bI_1.mp h99, g89, g49]
                  have hot : farE n u (othE A B u d) = far := by rw [hfar, othE, if_pos g49]
                  exact ww_sub [0, 1, 2, 5, 6, 7, 8, 9, 10, 11] rfl (ih (d + 1) y z (by omega) (by omega) (by omega) (by omega) (by rw [befR, hok, hot, ← hy, bfS, if_neg (fun q => absurd q.2.1 (by omega))]) (by rw [behR, hok, hot, ← hz, bhS, if_neg (fun q => absurd q.2.1 (by omega))]))
                · have g147 : ¬ far ≤ its := fun q => h147 ((cv_le (a := far) (b := its) rfl rfl (by omega) (by omega)).mpr q)
                  refine ww_iload C dX6_isFlat_150 1 rfl ?_
                  refine ww_iload C dX6_isFlat_152 4 rfl ?_
                  refine ww_icmp_ge 162 C dX6_isFlat_154 (by decide) (fun h154 => ?_) (fun h154 => ?_)
                  · have g154 : z ≤ far := (cv_le (a := z) (b := far) rfl rfl (by omega) (by omega)).mp h154
                    refine ww_iload C dX6_isFlat_162 4 rfl ?_
                    refine ww_istore (fun y36 => [(8, .int (y36)), (7, .int (nI y)), (11, .int (nI far)), (10, .int (nI (B d))), (9, .int (nI d)), (6, .int (nI its)), (5, .int (nI n)), (0, .ref (gA G 30 (0))), (1, .int (nI p)), (2, .int (nI w)), (3, .int (nI u)), (4, .int (nI v))]) C dX6_isFlat_164 (by decide) (fun _ => rfl) (fun y36 ey36 => ?_)
                    obtain rfl : y36 = nI z := ey36
                    refine ww_iinc (q := 4) (fun y37 => [(9, .int (y37)), (8, .int (nI z)), (7, .int (nI y)), (11, .int (nI far)), (10, .int (nI (B d))), (6, .int (nI its)), (5, .int (nI n)), (0, .ref (gA G 30 (0))), (1, .int (nI p)), (2, .int (nI w)), (3, .int (nI u)), (4, .int (nI v))]) C dX6_isFlat_166 rfl (by decide) (fun _ => rfl) (fun y37 ey37 => ?_)
                    obtain rfl : y37 = nI (d + 1) := ninc rfl ey37
                    refine ww_goto 32 C dX6_isFlat_169 (by decide) ?_
                    have hok : okE A B st w u d = true := by rw [hSd] at h99; simp [okE, bI_1.mp h99, g89, g49]
                    have hot : farE n u (othE A B u d) = far := by rw [hfar, othE, if_pos g49]
                    exact ww_sub [0, 1, 2, 5, 6, 7, 8, 9, 10, 11] rfl (ih (d + 1) y z (by omega) (by omega) (by omega) (by omega) (by rw [befR, hok, hot, ← hy, bfS, if_neg (fun q => absurd q.2.1 (by omega))]) (by rw [behR, hok, hot, ← hz, bhS, if_neg (fun q => absurd q.2.2 (by omega))]))
                  · have g154 : ¬ z ≤ far := fun q => h154 ((cv_le (a := z) (b := far) rfl rfl (by omega) (by omega)).mpr q)
                    refine ww_iload C dX6_isFlat_157 1 rfl ?_
                    refine ww_goto 164 C dX6_isFlat_159 (by decide) ?_
                    refine ww_istore (fun y38 => [(8, .int (y38)), (7, .int (nI y)), (11, .int (nI far)), (10, .int (nI (B d))), (9, .int (nI d)), (6, .int (nI its)), (5, .int (nI n)), (0, .ref (gA G 30 (0))), (1, .int (nI p)), (2, .int (nI w)), (3, .int (nI u)), (4, .int (nI v))]) C dX6_isFlat_164 (by decide) (fun _ => rfl) (fun y38 ey38 => ?_)
                    obtain rfl : y38 = nI far := ey38
                    refine ww_iinc (q := 4) (fun y39 => [(9, .int (y39)), (8, .int (nI far)), (7, .int (nI y)), (11, .int (nI far)), (10, .int (nI (B d))), (6, .int (nI its)), (5, .int (nI n)), (0, .ref (gA G 30 (0))), (1, .int (nI p)), (2, .int (nI w)), (3, .int (nI u)), (4, .int (nI v))]) C dX6_isFlat_166 rfl (by decide) (fun _ => rfl) (fun y39 ey39 => ?_)
                    obtain rfl : y39 = nI (d + 1) := ninc rfl ey39
                    refine ww_goto 32 C dX6_isFlat_169 (by decide) ?_
                    have hok : okE A B st w u d = true := by rw [hSd] at h99; simp [okE, bI_1.mp h99, g89, g49]
                    have hot : farE n u (othE A B u d) = far := by rw [hfar, othE, if_pos g49]
                    exact ww_sub [0, 1, 2, 5, 6, 7, 8, 9, 10, 11] rfl (ih (d + 1) y far (by omega) (by omega) (by omega) (by omega) (by rw [befR, hok, hot, ← hy, bfS, if_neg (fun q => absurd q.2.1 (by omega))]) (by rw [behR, hok, hot, ← hz, bhS, if_pos ⟨rfl, by omega, by omega⟩]))
              · have g124 : ¬ its ≤ far := fun q => h124 ((cv_le (a := its) (b := far) rfl rfl (by omega) (by omega)).mpr q)
                refine ww_iload C dX6_isFlat_127 0 rfl ?_
                refine ww_iload C dX6_isFlat_129 4 rfl ?_
                refine ww_icmp_le 139 C dX6_isFlat_131 (by decide) (fun h131 => ?_) (fun h131 => ?_)
                · have g131 : far ≤ y := (cv_le (a := far) (b := y) rfl rfl (by omega) (by omega)).mp h131
                  refine ww_iload C dX6_isFlat_139 4 rfl ?_
                  refine ww_istore (fun y40 => [(7, .int (y40)), (11, .int (nI far)), (10, .int (nI (B d))), (9, .int (nI d)), (8, .int (nI z)), (6, .int (nI its)), (5, .int (nI n)), (0, .ref (gA G 30 (0))), (1, .int (nI p)), (2, .int (nI w)), (3, .int (nI u)), (4, .int (nI v))]) C dX6_isFlat_141 (by decide) (fun _ => rfl) (fun y40 ey40 => ?_)
                  obtain rfl : y40 = nI y := ey40
                  refine ww_iload C dX6_isFlat_143 1 rfl ?_
                  refine ww_iload C dX6_isFlat_145 5 rfl ?_
                  refine ww_icmp_le 162 C dX6_isFlat_147 (by decide) (fun h147 => ?_) (fun h147 => ?_)
                  · have g147 : far ≤ its := (cv_le (a := far) (b := its) rfl rfl (by omega) (by omega)).mp h147
                    refine ww_iload C dX6_isFlat_162 4 rfl ?_
                    refine ww_istore (fun y41 => [(8, .int (y41)), (7, .int (nI y)), (11, .int (nI far)), (10, .int (nI (B d))), (9, .int (nI d)), (6, .int (nI its)), (5, .int (nI n)), (0, .ref (gA G 30 (0))), (1, .int (nI p)), (2, .int (nI w)), (3, .int (nI u)), (4, .int (nI v))]) C dX6_isFlat_164 (by decide) (fun _ => rfl) (fun y41 ey41 => ?_)
                    obtain rfl : y41 = nI z := ey41
                    refine ww_iinc (q := 4) (fun y42 => [(9, .int (y42)), (8, .int (nI z)), (7, .int (nI y)), (11, .int (nI far)), (10, .int (nI (B d))), (6, .int (nI its)), (5, .int (nI n)), (0, .ref (gA G 30 (0))), (1, .int (nI p)), (2, .int (nI w)), (3, .int (nI u)), (4, .int (nI v))]) C dX6_isFlat_166 rfl (by decide) (fun _ => rfl) (fun y42 ey42 => ?_)
                    obtain rfl : y42 = nI (d + 1) := ninc rfl ey42
                    refine ww_goto 32 C dX6_isFlat_169 (by decide) ?_
                    have hok : okE A B st w u d = true := by rw [hSd] at h99; simp [okE, bI_1.mp h99, g89, g49]
                    have hot : farE n u (othE A B u d) = far := by rw [hfar, othE, if_pos g49]
                    exact ww_sub [0, 1, 2, 5, 6, 7, 8, 9, 10, 11] rfl (ih (d + 1) y z (by omega) (by omega) (by omega) (by omega) (by rw [befR, hok, hot, ← hy, bfS, if_neg (fun q => absurd q.2.2 (by omega))]) (by rw [behR, hok, hot, ← hz, bhS, if_neg (fun q => absurd q.2.1 (by omega))]))
                  · have g147 : ¬ far ≤ its := fun q => h147 ((cv_le (a := far) (b := its) rfl rfl (by omega) (by omega)).mpr q)
                    refine ww_iload C dX6_isFlat_150 1 rfl ?_
                    refine ww_iload C dX6_isFlat_152 4 rfl ?_
                    refine ww_icmp_ge 162 C dX6_isFlat_154 (by decide) (fun h154 => ?_) (fun h154 => ?_)
                    · have g154 : z ≤ far := (cv_le (a := z) (b := far) rfl rfl (by omega) (by omega)).mp h154
                      refine ww_iload C dX6_isFlat_162 4 rfl ?_
                      refine ww_istore (fun y43 => [(8, .int (y43)), (7, .int (nI y)), (11, .int (nI far)), (10, .int (nI (B d))), (9, .int (nI d)), (6, .int (nI its)), (5, .int (nI n)), (0, .ref (gA G 30 (0))), (1, .int (nI p)), (2, .int (nI w)), (3, .int (nI u)), (4, .int (nI v))]) C dX6_isFlat_164 (by decide) (fun _ => rfl) (fun y43 ey43 => ?_)
                      obtain rfl : y43 = nI z := ey43
                      refine ww_iinc (q := 4) (fun y44 => [(9, .int (y44)), (8, .int (nI z)), (7, .int (nI y)), (11, .int (nI far)), (10, .int (nI (B d))), (6, .int (nI its)), (5, .int (nI n)), (0, .ref (gA G 30 (0))), (1, .int (nI p)), (2, .int (nI w)), (3, .int (nI u)), (4, .int (nI v))]) C dX6_isFlat_166 rfl (by decide) (fun _ => rfl) (fun y44 ey44 => ?_)
                      obtain rfl : y44 = nI (d + 1) := ninc rfl ey44
                      refine ww_goto 32 C dX6_isFlat_169 (by decide) ?_
                      have hok : okE A B st w u d = true := by rw [hSd] at h99; simp [okE, bI_1.mp h99, g89, g49]
                      have hot : farE n u (othE A B u d) = far := by rw [hfar, othE, if_pos g49]
                      exact ww_sub [0, 1, 2, 5, 6, 7, 8, 9, 10, 11] rfl (ih (d + 1) y z (by omega) (by omega) (by omega) (by omega) (by rw [befR, hok, hot, ← hy, bfS, if_neg (fun q => absurd q.2.2 (by omega))]) (by rw [behR, hok, hot, ← hz, bhS, if_neg (fun q => absurd q.2.2 (by omega))]))
                    · have g154 : ¬ z ≤ far := fun q => h154 ((cv_le (a := z) (b := far) rfl rfl (by omega) (by omega)).mpr q)
                      refine ww_iload C dX6_isFlat_157 1 rfl ?_
                      refine ww_goto 164 C dX6_isFlat_159 (by decide) ?_
                      refine ww_istore (fun y45 => [(8, .int (y45)), (7, .int (nI y)), (11, .int (nI far)), (10, .int (nI (B d))), (9, .int (nI d)), (6, .int (nI its)), (5, .int (nI n)), (0, .ref (gA G 30 (0))), (1, .int (nI p)), (2, .int (nI w)), (3, .int (nI u)), (4, .int (nI v))]) C dX6_isFlat_164 (by decide) (fun _ => rfl) (fun y45 ey45 => ?_)
                      obtain rfl : y45 = nI far := ey45
                      refine ww_iinc (q := 4) (fun y46 => [(9, .int (y46)), (8, .int (nI far)), (7, .int (nI y)), (11, .int (nI far)), (10, .int (nI (B d))), (6, .int (nI its)), (5, .int (nI n)), (0, .ref (gA G 30 (0))), (1, .int (nI p)), (2, .int (nI w)), (3, .int (nI u)), (4, .int (nI v))]) C dX6_isFlat_166 rfl (by decide) (fun _ => rfl) (fun y46 ey46 => ?_)
                      obtain rfl : y46 = nI (d + 1) := ninc rfl ey46
                      refine ww_goto 32 C dX6_isFlat_169 (by decide) ?_
                      have hok : okE A B st w u d = true := by rw [hSd] at h99; simp [okE, bI_1.mp h99, g89, g49]
                      have hot : farE n u (othE A B u d) = far := by rw [hfar, othE, if_pos g49]
                      exact ww_sub [0, 1, 2, 5, 6, 7, 8, 9, 10, 11] rfl (ih (d + 1) y far (by omega) (by omega) (by omega) (by omega) (by rw [befR, hok, hot, ← hy, bfS, if_neg (fun q => absurd q.2.2 (by omega))]) (by rw [behR, hok, hot, ← hz, bhS, if_pos ⟨rfl, by omega, by omega⟩]))
                · have g131 : ¬ far ≤ y := fun q => h131 ((cv_le (a := far) (b := y) rfl rfl (by omega) (by omega)).mpr q)
                  refine ww_iload C dX6_isFlat_134 0 rfl ?_
                  refine ww_goto 141 C dX6_isFlat_136 (by decide) ?_
                  refine ww_istore (fun y47 => [(7, .int (y47)), (11, .int (nI far)), (10, .int (nI (B d))), (9, .int (nI d)), (8, .int (nI z)), (6, .int (nI its)), (5, .int (nI n)), (0, .ref (gA G 30 (0))), (1, .int (nI p)), (2, .int (nI w)), (3, .int (nI u)), (4, .int (nI v))]) C dX6_isFlat_141 (by decide) (fun _ => rfl) (fun y47 ey47 => ?_)
                  obtain rfl : y47 = nI far := ey47
                  refine ww_iload C dX6_isFlat_143 1 rfl ?_
                  refine ww_iload C dX6_isFlat_145 5 rfl ?_
                  refine ww_icmp_le 162 C dX6_isFlat_147 (by decide) (fun h147 => ?_) (fun h147 => ?_)
                  · have g147 : far ≤ its := (cv_le (a := far) (b := its) rfl rfl (by omega) (by omega)).mp h147
                    refine ww_iload C dX6_isFlat_162 4 rfl ?_
                    refine ww_istore (fun y48 => [(8, .int (y48)), (7, .int (nI far)), (11, .int (nI far)), (10, .int (nI (B d))), (9, .int (nI d)), (6, .int (nI its)), (5, .int (nI n)), (0, .ref (gA G 30 (0))), (1, .int (nI p)), (2, .int (nI w)), (3, .int (nI u)), (4, .int (nI v))]) C dX6_isFlat_164 (by decide) (fun _ => rfl) (fun y48 ey48 => ?_)
                    obtain rfl : y48 = nI z := ey48
                    refine ww_iinc (q := 4) (fun y49 => [(9, .int (y49)), (8, .int (nI z)), (7, .int (nI far)), (11, .int (nI far)), (10, .int (nI (B d))), (6, .int (nI its)), (5, .int (nI n)), (0, .ref (gA G 30 (0))), (1, .int (nI p)), (2, .int (nI w)), (3, .int (nI u)), (4, .int (nI v))]) C dX6_isFlat_166 rfl (by decide) (fun _ => rfl) (fun y49 ey49 => ?_)
                    obtain rfl : y49 = nI (d + 1) := ninc rfl ey49
                    refine ww_goto 32 C dX6_isFlat_169 (by decide) ?_
                    have hok : okE A B st w u d = true := by rw [hSd] at h99; simp [okE, bI_1.mp h99, g89, g49]
                    have hot : farE n u (othE A B u d) = far := by rw [hfar, othE, if_pos g49]
                    exact ww_sub [0, 1, 2, 5, 6, 7, 8, 9, 10, 11] rfl (ih (d + 1) far z (by omega) (by omega) (by omega) (by omega) (by rw [befR, hok, hot, ← hy, bfS, if_pos ⟨rfl, by omega, by omega⟩]) (by rw [behR, hok, hot, ← hz, bhS, if_neg (fun q => absurd q.2.1 (by omega))]))
                  · have g147 : ¬ far ≤ its := fun q => h147 ((cv_le (a := far) (b := its) rfl rfl (by omega) (by omega)).mpr q)
                    refine ww_iload C dX6_isFlat_150 1 rfl ?_
                    refine ww_iload C dX6_isFlat_152 4 rfl ?_
                    refine ww_icmp_ge 162 C dX6_isFlat_154 (by decide) (fun h154 => ?_) (fun h154 => ?_)
                    · have g154 : z ≤ far := (cv_le (a := z) (b := far) rfl rfl (by omega) (by omega)).mp h154
                      refine ww_iload C dX6_isFlat_162 4 rfl ?_
                      refine ww_istore (fun y50 => [(8, .int (y50)), (7, .int (nI far)), (11, .int (nI far)), (10, .int (nI (B d))), (9, .int (nI d)), (6, .int (nI its)), (5, .int (nI n)), (0, .ref (gA G 30 (0))), (1, .int (nI p)), (2, .int (nI w)), (3, .int (nI u)), (4, .int (nI v))]) C dX6_isFlat_164 (by decide) (fun _ => rfl) (fun y50 ey50 => ?_)
                      obtain rfl : y50 = nI z := ey50
                      refine ww_iinc (q := 4) (fun y51 => [(9, .int (y51)), (8, .int (nI z)), (7, .int (nI far)), (11, .int (nI far)), (10, .int (nI (B d))), (6, .int (nI its)), (5, .int (nI n)), (0, .ref (gA G 30 (0))), (1, .int (nI p)), (2, .int (nI w)), (3, .int (nI u)), (4, .int (nI v))]) C dX6_isFlat_166 rfl (by decide) (fun _ => rfl) (fun y51 ey51 => ?_)
                      obtain rfl : y51 = nI (d + 1) := ninc rfl ey51
                      refine ww_goto 32 C dX6_isFlat_169 (by decide) ?_
                      have hok : okE A B st w u d = true := by rw [hSd] at h99; simp [okE, bI_1.mp h99, g89, g49]
                      have hot : farE n u (othE A B u d) = far := by rw [hfar, othE, if_pos g49]
                      exact ww_sub [0, 1, 2, 5, 6, 7, 8, 9, 10, 11] rfl (ih (d + 1) far z (by omega) (by omega) (by omega) (by omega) (by rw [befR, hok, hot, ← hy, bfS, if_pos ⟨rfl, by omega, by omega⟩]) (by rw [behR, hok, hot, ← hz, bhS, if_neg (fun q => absurd q.2.2 (by omega))]))
                    · have g154 : ¬ z ≤ far := fun q => h154 ((cv_le (a := z) (b := far) rfl rfl (by omega) (by omega)).mpr q)
                      refine ww_iload C dX6_isFlat_157 1 rfl ?_
                      refine ww_goto 164 C dX6_isFlat_159 (by decide) ?_
                      refine ww_istore (fun y52 => [(8, .int (y52)), (7, .int (nI far)), (11, .int (nI far)), (10, .int (nI (B d))), (9, .int (nI d)), (6, .int (nI its)), (5, .int (nI n)), (0, .ref (gA G 30 (0))), (1, .int (nI p)), (2, .int (nI w)), (3, .int (nI u)), (4, .int (nI v))]) C dX6_isFlat_164 (by decide) (fun _ => rfl) (fun y52 ey52 => ?_)
                      obtain rfl : y52 = nI far := ey52
                      refine ww_iinc (q := 4) (fun y53 => [(9, .int (y53)), (8, .int (nI far)), (7, .int (nI far)), (11, .int (nI far)), (10, .int (nI (B d))), (6, .int (nI its)), (5, .int (nI n)), (0, .ref (gA G 30 (0))), (1, .int (nI p)), (2, .int (nI w)), (3, .int (nI u)), (4, .int (nI v))]) C dX6_isFlat_166 rfl (by decide) (fun _ => rfl) (fun y53 ey53 => ?_)
                      obtain rfl : y53 = nI (d + 1) := ninc rfl ey53
                      refine ww_goto 32 C dX6_isFlat_169 (by decide) ?_
                      have hok : okE A B st w u d = true := by rw [hSd] at h99; simp [okE, bI_1.mp h99, g89, g49]
                      have hot : farE n u (othE A B u d) = far := by rw [hfar, othE, if_pos g49]
                      exact ww_sub [0, 1, 2, 5, 6, 7, 8, 9, 10, 11] rfl (ih (d + 1) far far (by omega) (by omega) (by omega) (by omega) (by rw [befR, hok, hot, ← hy, bfS, if_pos ⟨rfl, by omega, by omega⟩]) (by rw [behR, hok, hot, ← hz, bhS, if_pos ⟨rfl, by omega, by omega⟩]))
set_option maxHeartbeats 4000000 in
set_option maxRecDepth 100000 in
theorem c_X6_isFlat (l : Launch) (G : Gx) (hA : wa G) (σ : Sg) (p n : Nat) (hp : p < 8) (hs : σ 33 0 p = nI n) (h3 : 3 ≤ n) (hn : n ≤ 14) (A B : Nat → Nat) (st : Nat → Bool) (m w u v : Nat) (hm : m ≤ 11) (hm13 : σ 30 0 18 = nI m) (hD : ∀ d, d < m → (σ 44 0 d = nI (A d) ∧ σ 45 0 d = nI (B d)) ∧ σ 46 0 d = bI (st d) ∧ A d < n ∧ B d < n) (hw : w < 14) (hu : u < n) (hv : v < n) : CtI l yX6_isFlat wsX6_isFlat (rmd 3) G [.ref (gA G 30 (0)), .int (nI p), .int (nI w), .int (nI u), .int (nI v)] σ (fun r σ2 => r = bI (flD n (fun i => σ 34 0 (14 * p + i)) (fun i => σ 35 0 (14 * p + i)) A B st m w u v) ∧ σ2 = σ) := by
  refine ct_i (maxL := 12) (ret := (some .boolean)) (by decide) rfl (Nat.le_of_ble_eq_true rfl) hA (fun K hl C => ?_)
  subst hl
  change WW K G _ _ σ [(0, .ref (gA G 30 (0))), (1, .int (nI p)), (2, .int (nI w)), (3, .int (nI u)), (4, .int (nI v))] 0 []
  refine ww_aload_n C dX6_isFlat_0 rfl 0 rfl ?_
  refine ww_gr (j := 0) (k := 30) (f := 4) C rfl rfl (by decide) rfl in_X6_isFlat_X6 (by decide) lk_X6_isFlat_16 dX6_isFlat_1 rfl ?_
  refine ww_iload_n C dX6_isFlat_4 rfl 1 rfl ?_
  refine ww_iald (k := 33) (j := p) C rfl (by decide) (by decide) dX6_isFlat_5 rfl hp ?_
  rw [hs]
  refine ww_istore (fun y1 => [(5, .int (y1)), (0, .ref (gA G 30 (0))), (1, .int (nI p)), (2, .int (nI w)), (3, .int (nI u)), (4, .int (nI v))]) C dX6_isFlat_6 (by decide) (fun _ => rfl) (fun y1 ey1 => ?_)
  obtain rfl : y1 = nI n := ey1
  refine ww_iload C dX6_isFlat_8 5 rfl ?_
  refine ww_iload_n C dX6_isFlat_10 rfl 4 rfl ?_
  refine ww_isub C dX6_isFlat_11 ?_
  refine ww_iload C dX6_isFlat_12 0 rfl ?_
  refine ww_iadd C dX6_isFlat_14 ?_
  rw [show ((nI v) - (nI u)) + (nI n) = nI (v + n - u) from go9 (by omega)]
  refine ww_iload C dX6_isFlat_15 0 rfl ?_
  refine ww_irem C dX6_isFlat_17 (nI_ne0 (by omega) (by omega)) ?_
  rw [rem9 (a := v + n - u) (b := n) rfl rfl (by omega) (by omega) (by omega)]
  refine ww_istore (fun yits => [(6, .int (yits)), (5, .int (nI n)), (0, .ref (gA G 30 (0))), (1, .int (nI p)), (2, .int (nI w)), (3, .int (nI u)), (4, .int (nI v))]) C dX6_isFlat_18 (by decide) (fun _ => rfl) (fun yits eyits => ?_)
  obtain ⟨its, hits⟩ : ∃ q9, q9 = farE n u v := ⟨_, rfl⟩
  have kits : its < n := by rw [hits]; exact Nat.mod_lt _ (by omega)
  obtain rfl : yits = nI its := eyits.trans (congrArg nI hits.symm)
  refine ww_iconst (v := 1) C dX6_isFlat_20 rfl ?_
  refine ww_istore (fun y2 => [(7, .int (y2)), (6, .int (nI its)), (5, .int (nI n)), (0, .ref (gA G 30 (0))), (1, .int (nI p)), (2, .int (nI w)), (3, .int (nI u)), (4, .int (nI v))]) C dX6_isFlat_21 (by decide) (fun _ => rfl) (fun y2 ey2 => ?_)
  obtain rfl : y2 = nI 1 := (ey2.trans (by decide))
  refine ww_iload C dX6_isFlat_23 2 rfl ?_
  refine ww_iconst (v := 1) C dX6_isFlat_25 rfl ?_
  refine ww_isub C dX6_isFlat_26 ?_
  rw [show (nI n) - (1) = nI (n - 1) from pk_sub (a := n) (b := 1) (by omega)]
  refine ww_istore (fun y3 => [(8, .int (y3)), (7, .int (nI 1)), (6, .int (nI its)), (5, .int (nI n)), (0, .ref (gA G 30 (0))), (1, .int (nI p)), (2, .int (nI w)), (3, .int (nI u)), (4, .int (nI v))]) C dX6_isFlat_27 (by decide) (fun _ => rfl) (fun y3 ey3 => ?_)
  obtain rfl : y3 = nI (n - 1) := ey3
  refine ww_iconst (v := 0) C dX6_isFlat_29 rfl ?_
  refine ww_istore (fun y4 => [(9, .int (y4)), (8, .int (nI (n - 1))), (7, .int (nI 1)), (6, .int (nI its)), (5, .int (nI n)), (0, .ref (gA G 30 (0))), (1, .int (nI p)), (2, .int (nI w)), (3, .int (nI u)), (4, .int (nI v))]) C dX6_isFlat_30 (by decide) (fun _ => rfl) (fun y4 ey4 => ?_)
  obtain rfl : y4 = nI 0 := (ey4.trans (by decide))
  exact ww_sub [0, 1, 2, 3, 4, 5, 6, 7, 8, 9] rfl (lp_X6_isFlat hA C σ p n hp hs h3 hn A B st m w u v hm hm13 hD hw hu hv its hits (m + 1) 0 1 (n - 1) (by omega) (by omega) (by omega) (by omega) rfl rfl)
