def Nxt (σ : Sg) : Prop := ∃ c r, Rel9 σ c r
/-- a call of both, one after the other: the same answer, and both memories tell the same again -/
def PrI (l : Launch) (G : Gx) (yC : MethodName) (wsC : List Cond) (rC : Nat) (yM : MethodName) (wsM : List Cond) (rM : Nat) (av : List Value) (σ : Sg) : Prop := ∃ post1, CtI l yC wsC (rmd rC) G (.ref (gA G 0 0) :: av) σ post1 ∧ ∀ r1 σ1, post1 r1 σ1 → ∃ post2, CtI l yM wsM (rmd rM) G (.ref (gA G 30 0) :: av) σ1 post2 ∧ ∀ r2 σ2, post2 r2 σ2 → r1 = r2 ∧ Nxt σ2
def PrL (l : Launch) (G : Gx) (yC : MethodName) (wsC : List Cond) (rC : Nat) (yM : MethodName) (wsM : List Cond) (rM : Nat) (av : List Value) (σ : Sg) : Prop := ∃ post1, CtL l yC wsC (rmd rC) G (.ref (gA G 0 0) :: av) σ post1 ∧ ∀ r1 σ1, post1 r1 σ1 → ∃ post2, CtL l yM wsM (rmd rM) G (.ref (gA G 30 0) :: av) σ1 post2 ∧ ∀ r2 σ2, post2 r2 σ2 → r1 = r2 ∧ Nxt σ2
/-- only what is laid anew at every call has changed -/
def Kp (σ τ : Sg) : Prop := (∀ k, k ≠ 3 → k < 36 → k ≠ 30 → τ k = σ k) ∧ ∀ f, f ≠ 13 → f ≠ 18 → f ≠ 23 → τ 30 0 f = σ 30 0 f
theorem Kp_rfl {σ : Sg} : Kp σ σ := ⟨fun _ _ _ _ => rfl, fun _ _ _ _ => rfl⟩
theorem rel_k {σ τ : Sg} {c r : Nat} (h : Rel9 σ c r) (k : Kp σ τ) : Rel9 τ c r := by
  obtain ⟨a1, a2, a3, a4, a5, a6, a7, a8, a9, a10, a11, a12⟩ := h
  obtain ⟨k1, k2⟩ := k
  refine ⟨a1, a2, by rw [k1 0 (by decide) (by decide) (by decide)]; exact a3, by rw [k2 3 (by decide) (by decide) (by decide)]; exact a4, by rw [k1 14 (by decide) (by decide) (by decide)]; exact a5, by rw [k2 0 (by decide) (by decide) (by decide)]; exact a6, by rw [k1 31 (by decide) (by decide) (by decide), k1 15 (by decide) (by decide) (by decide)]; exact a7, by rw [k1 32 (by decide) (by decide) (by decide), k1 16 (by decide) (by decide) (by decide)]; exact a8, by rw [k1 15 (by decide) (by decide) (by decide), k1 16 (by decide) (by decide) (by decide)]; exact a9, by rw [k2 7 (by decide) (by decide) (by decide), k1 1 (by decide) (by decide) (by decide)]; exact a10, by rw [k2 8 (by decide) (by decide) (by decide), k1 1 (by decide) (by decide) (by decide)]; exact a11, fun p hp => ?_⟩
  obtain ⟨n, hn⟩ := a12 p hp
  refine ⟨n, PG_k hn (by rw [k1 14 (by decide) (by decide) (by decide)]) (by rw [k1 15 (by decide) (by decide) (by decide)]) (by rw [k1 16 (by decide) (by decide) (by decide)]) (by rw [k1 17 (by decide) (by decide) (by decide)]) (fun a _ => by rw [k1 19 (by decide) (by decide) (by decide)]) (fun k h1 h2 => by rw [k1 k (by omega) (by omega) (by omega)]) (by rw [k1 33 (by decide) (by decide) (by decide)]) (fun i _ => by rw [k1 34 (by decide) (by decide) (by decide), k1 35 (by decide) (by decide) (by decide)]; exact ⟨rfl, rfl⟩)⟩
theorem pr_e {l : Launch} {G : Gx} {yC : MethodName} {wsC : List Cond} {rC : Nat} {yM : MethodName} {wsM : List Cond} {rM : Nat} {av : List Value} {σ : Sg} {c r : Nat} {v : Int32} (h : Rel9 σ c r) (h1 : CtI l yC wsC (rmd rC) G (.ref (gA G 0 0) :: av) σ (fun r σ2 => r = v ∧ σ2 = σ)) {P : Int32 → Sg → Prop} (h2 : CtI l yM wsM (rmd rM) G (.ref (gA G 30 0) :: av) σ P) (hP : ∀ r2 σ2, P r2 σ2 → r2 = v ∧ Kp σ σ2) : PrI l G yC wsC rC yM wsM rM av σ :=
  ⟨_, h1, fun r1 σ1 q => ⟨P, by rw [q.2]; exact h2, fun r2 σ2 w => ⟨by rw [q.1, (hP r2 σ2 w).1], c, r, rel_k h (hP r2 σ2 w).2⟩⟩⟩
theorem pr_0 {l : Launch} {G : Gx} {yC : MethodName} {wsC : List Cond} {rC : Nat} {yM : MethodName} {wsM : List Cond} {rM : Nat} {av : List Value} {σ : Sg} {c r : Nat} {v v' : Int32} (h : Rel9 σ c r) (h1 : CtI l yC wsC (rmd rC) G (.ref (gA G 0 0) :: av) σ (fun r σ2 => r = v ∧ σ2 = σ)) (h2 : CtI l yM wsM (rmd rM) G (.ref (gA G 30 0) :: av) σ (fun r σ2 => r = v' ∧ σ2 = σ)) (e : v' = v) : PrI l G yC wsC rC yM wsM rM av σ := pr_e h h1 h2 (fun r2 σ2 w => ⟨by rw [w.1, e], by rw [w.2]; exact Kp_rfl⟩)
theorem prl_0 {l : Launch} {G : Gx} {yC : MethodName} {wsC : List Cond} {rC : Nat} {yM : MethodName} {wsM : List Cond} {rM : Nat} {av : List Value} {σ : Sg} {c r : Nat} {v v' : Int64} (h : Rel9 σ c r) (h1 : CtL l yC wsC (rmd rC) G (.ref (gA G 0 0) :: av) σ (fun r σ2 => r = v ∧ σ2 = σ)) (h2 : CtL l yM wsM (rmd rM) G (.ref (gA G 30 0) :: av) σ (fun r σ2 => r = v' ∧ σ2 = σ)) (e : v' = v) : PrL l G yC wsC rC yM wsM rM av σ := ⟨_, h1, fun r1 σ1 q => ⟨fun r σ2 => r = v' ∧ σ2 = σ, by rw [q.2]; exact h2, fun r2 σ2 w => ⟨by rw [q.1, w.1, e], c, r, by rw [w.2]; exact h⟩⟩⟩
/-- a polygon's number, known or not -/
theorem kno {σ : Sg} {c r : Nat} (h : Rel9 σ c r) (x : Int32) : (∃ p n, x = nI p ∧ p < c ∧ p < 8 ∧ PG σ p n) ∨ ¬ (0 ≤ x ∧ x < nI c) := by
  by_cases q : 0 ≤ x ∧ x < nI c
  · obtain ⟨p, p1, p2⟩ := ix_of q (by have := h.1; omega)
    obtain ⟨n, hn⟩ := h.2.2.2.2.2.2.2.2.2.2.2 p p1
    exact Or.inl ⟨p, n, p2, p1, by have := h.1; omega, hn⟩
  · exact Or.inr q
theorem k_fault {l : Launch} {G : Gx} (hA : wa G) {σ : Sg} {c r : Nat} (h : Rel9 σ c r) (x : Int32) : PrI l G yX5_fault wsX5_fault 1 yX6_fault wsX6_fault 2 [.int x] σ := pr_0 h (c_X5_fault l G hA σ x) (c_X6_fault l G hA σ x) (by rw [h.2.2.2.2.2.2.2.2.2.1, h.2.2.2.2.2.2.2.2.2.2.1])
theorem k_count {l : Launch} {G : Gx} (hA : wa G) {σ : Sg} {c r : Nat} (h : Rel9 σ c r) (x : Int32) : PrI l G yX5_count wsX5_count 2 yX6_count wsX6_count 3 [.int x] σ := by
  have h3 := h.2.2.1
  have h4 := h.2.2.2.1
  by_cases hm : x = -1
  · subst hm
    exact pr_0 h (c_X5_count_a l G hA σ c h3 h.1) (c_X6_count_a l G hA σ c h4 h.1) rfl
  · rcases kno h x with ⟨p, n, rfl, p1, p2, P⟩ | hu
    · exact pr_0 h (c_X5_count_s l G hA σ c p n h3 h.1 p1 p2 P.2.1 P.1.1.2.1) (c_X6_count_s l G hA σ c p n h4 h.1 p1 p2 P.2.2.1 P.1.1.1 P.1.1.2.1) rfl
    · exact pr_0 h (c_X5_count_n l G hA σ c h3 h.1 x hu hm) (c_X6_count_n l G hA σ c h4 h.1 x hu hm) rfl
theorem corn_c {n : Nat} {w : Int32} {v v' : Nat → Int32} (hn : n ≤ 14) (e : ∀ i, i < n → v i = v' i) : cornR n w v = cornR n w v' := by
  unfold cornR
  by_cases q : 0 ≤ w ∧ w < nI n
  · obtain ⟨j, j1, rfl⟩ := ix_of q hn
    rw [if_pos q, if_pos q, nI_clamp (by omega)]
    exact e j j1
  · rw [if_neg q, if_neg q]
theorem k_at {l : Launch} {G : Gx} (hA : wa G) {σ : Sg} {c r : Nat} (h : Rel9 σ c r) (x w a : Int32) : PrI l G yX5_at wsX5_at 2 yX6_at wsX6_at 4 [.int x, .int w, .int a] σ := by
  have h3 := h.2.2.1
  have h4 := h.2.2.2.1
  rcases kno h x with ⟨p, n, rfl, p1, p2, P⟩ | hu
  · have n14 := P.1.1.2.1
    by_cases a0 : a = 0
    · subst a0
      exact pr_0 h (c_X5_at_0 l G hA σ c p n h3 h.1 p1 p2 P.2.1 n14 w) (c_X6_at_0 l G hA σ c p n h4 h.1 p1 p2 P.2.2.1 P.1.1.1 n14 w) (corn_c n14 P.2.2.2.1)
    · by_cases a1 : a = 1
      · subst a1
        exact pr_0 h (c_X5_at_1 l G hA σ c p n h3 h.1 p1 p2 P.2.1 n14 w) (c_X6_at_1 l G hA σ c p n h4 h.1 p1 p2 P.2.2.1 P.1.1.1 n14 w) (corn_c n14 P.2.2.2.2.1)
      · have hw : ¬ (a = 0 ∨ a = 1) := fun q => q.elim a0 a1
        exact pr_0 h (c_X5_at_o l G hA σ c p n h3 h.1 p1 p2 P.2.1 n14 w a hw) (c_X6_at_o l G hA σ c p n h4 h.1 p1 p2 P.2.2.1 P.1.1.1 n14 w a hw) rfl
  · exact pr_0 h (c_X5_at_n l G hA σ c h3 h.1 x hu w a) (c_X6_at_n l G hA σ c h4 h.1 x hu w a) rfl
theorem k_area {l : Launch} {G : Gx} (hA : wa G) {σ : Sg} {c r : Nat} (h : Rel9 σ c r) (x : Int32) : PrI l G yX5_area wsX5_area 2 yX6_area wsX6_area 3 [.int x] σ := by
  have h3 := h.2.2.1
  have h4 := h.2.2.2.1
  rcases kno h x with ⟨p, n, rfl, p1, p2, P⟩ | hu
  · exact pr_0 h (c_X5_area_s l G hA σ c p n h3 h.1 p1 p2 P.2.1 P.1.1.2.1) (c_X6_area_s l G hA σ c p n h4 h.1 p1 p2 P.2.2.1 P.1.1.1 P.1.1.2.1) (by rw [P.2.2.2.2.2.1]; exact fan_c P.2.2.2.1 P.2.2.2.2.1)
  · exact pr_0 h (c_X5_area_n l G hA σ c h3 h.1 x hu) (c_X6_area_n l G hA σ c h4 h.1 x hu) rfl
theorem k_centroid {l : Launch} {G : Gx} (hA : wa G) {σ : Sg} {c r : Nat} (h : Rel9 σ c r) (x a w : Int32) : PrL l G yX5_centroid wsX5_centroid 4 yX6_centroid wsX6_centroid 3 [.int x, .int a, .int w] σ := by
  have h3 := h.2.2.1
  have h4 := h.2.2.2.1
  rcases kno h x with ⟨p, n, rfl, p1, p2, P⟩ | hu
  · have n14 := P.1.1.2.1
    have hf := fan_c P.2.2.2.1 P.2.2.2.2.1
    have hr := P.1.1
    have fin : ∀ (v v' : Nat → Int32), eqn n v' v → (v = σ 15 (p + 1) ∨ v = σ 16 (p + 1)) → (if w = 0 ∨ w = 1 then cenM (sumL (fanL v' (fun i => σ 34 0 (14 * p + i)) (fun i => σ 35 0 (14 * p + i))) (n - 2)) (3 * (fan n (fun i => σ 34 0 (14 * p + i)) (fun i => σ 35 0 (14 * p + i))).toInt64) w else 0) = (if w = 0 ∨ w = 1 then cenR (sumL (momF n v (σ 15 (p + 1)) (σ 16 (p + 1))) n) (3 * (σ 17 p 2).toInt64) w else 0) := fun v v' hv hvv => by
      by_cases hw : w = 0 ∨ w = 1
      · rw [if_pos hw, if_pos hw, P.2.2.2.2.2.1, fanL_c hv P.2.2.2.1 P.2.2.2.2.1, hf, (mom_eq hr hvv).1, cen_eq (mom_eq hr hvv).2 (be_i hr).2 (be_ne hr P.1.2.1 P.1.2.2) hw]
      · rw [if_neg hw, if_neg hw]
    by_cases a0 : a = 0
    · subst a0
      exact prl_0 h (c_X5_centroid_0 l G hA σ c p n h3 h.1 p1 p2 P.2.1 n14 w) (c_X6_centroid_0 l G hA σ c p n h4 h.1 p1 p2 P.2.2.1 P.1.1.1 n14 w (by rw [fanL_c P.2.2.2.1 P.2.2.2.1 P.2.2.2.2.1]; exact (mom_eq hr (Or.inl rfl)).2) (by rw [hf]; exact be_ne hr P.1.2.1 P.1.2.2)) (fin _ _ P.2.2.2.1 (Or.inl rfl))
    · by_cases a1 : a = 1
      · subst a1
        exact prl_0 h (c_X5_centroid_1 l G hA σ c p n h3 h.1 p1 p2 P.2.1 n14 w) (c_X6_centroid_1 l G hA σ c p n h4 h.1 p1 p2 P.2.2.1 P.1.1.1 n14 w (by rw [fanL_c P.2.2.2.2.1 P.2.2.2.1 P.2.2.2.2.1]; exact (mom_eq hr (Or.inr rfl)).2) (by rw [hf]; exact be_ne hr P.1.2.1 P.1.2.2)) (fin _ _ P.2.2.2.2.1 (Or.inr rfl))
      · have hw : ¬ (a = 0 ∨ a = 1) := fun q => q.elim a0 a1
        exact prl_0 h (c_X5_centroid_o l G hA σ c p n h3 h.1 p1 p2 P.2.1 n14 a w hw) (c_X6_centroid_o l G hA σ c p n h4 h.1 p1 p2 P.2.2.1 P.1.1.1 n14 a w hw) rfl
  · exact prl_0 h (c_X5_centroid_n l G hA σ c h3 h.1 x hu a w) (c_X6_centroid_n l G hA σ c h4 h.1 x hu a w) rfl
theorem k_points {l : Launch} {G : Gx} (hA : wa G) {σ : Sg} {c r : Nat} (h : Rel9 σ c r) (x w : Int32) : PrI l G yX5_points wsX5_points 4 yX6_points wsX6_points 3 [.int x, .int w] σ := by
  have h3 := h.2.2.1
  have h4 := h.2.2.2.1
  rcases kno h x with ⟨p, n, rfl, p1, p2, P⟩ | hu
  · exact pr_0 h (c_X5_points_s l G hA σ c p n h3 h.1 p1 p2 P.2.1 P.1.1.2.1 w) (c_X6_points_s l G hA σ c p n h4 h.1 p1 p2 P.2.2.1 P.1.1.1 P.1.1.2.1 w) (by rw [P.2.2.2.2.2.1, fan_c P.2.2.2.1 P.2.2.2.2.1, ptsM_c P.2.2.2.1 P.2.2.2.2.1, pts_eq P.1.1])
  · exact pr_0 h (c_X5_points_n l G hA σ c h3 h.1 x hu w) (c_X6_points_n l G hA σ c h4 h.1 x hu w) rfl
theorem k_in {l : Launch} {G : Gx} (hA : wa G) {σ : Sg} {c r : Nat} (h : Rel9 σ c r) (x u v : Int32) : PrI l G yX5_in wsX5_in 3 yX6_in wsX6_in 4 [.int x, .int u, .int v] σ := by
  have h3 := h.2.2.1
  have h4 := h.2.2.2.1
  rcases kno h x with ⟨p, n, rfl, p1, p2, P⟩ | hu
  · refine pr_0 h (c_X5_in_s l G hA σ c p n h3 h.1 p1 p2 P.2.1 P.1.1.2.1 u v) (c_X6_in_s l G hA σ c p n h4 h.1 p1 p2 P.2.2.1 P.1.1.1 P.1.1.2.1 u v) ?_
    unfold inR
    by_cases q : (-3000 ≤ u ∧ u ≤ 3000) ∧ (-3000 ≤ v ∧ v ≤ 3000)
    · rw [if_pos q, if_pos q, plcR_c P.2.2.2.1 P.2.2.2.2.1]
      refine (plc_eq P.1.1 (Or.inl rfl) ?_ ?_).symm
      · unfold wB
        have a := le32.mp q.1.1
        have b := le32.mp q.1.2
        rw [show (-3000 : Int32).toInt = -3000 by decide] at a
        rw [show (3000 : Int32).toInt = 3000 by decide] at b
        omega
      · unfold wB
        have a := le32.mp q.2.1
        have b := le32.mp q.2.2
        rw [show (-3000 : Int32).toInt = -3000 by decide] at a
        rw [show (3000 : Int32).toInt = 3000 by decide] at b
        omega
    · rw [if_neg q, if_neg q]
  · exact pr_0 h (c_X5_in_n l G hA σ c h3 h.1 x hu u v) (c_X6_in_n l G hA σ c h4 h.1 x hu u v) rfl
theorem pair_c {n : Nat} {u w : Int32} {v v' : Nat → Nat → Int32} (hn : n ≤ 14) (e : ∀ i j, i < n → j < n → v i j = v' i j) : pairR n u w v = pairR n u w v' := by
  unfold pairR
  exact corn_c hn (fun i hi => corn_c hn (fun j hj => e i j hi hj))
theorem k_sees {l : Launch} {G : Gx} (hA : wa G) {σ : Sg} {c r : Nat} (h : Rel9 σ c r) (x u v : Int32) : PrI l G yX5_sees wsX5_sees 2 yX6_sees wsX6_sees 6 [.int x, .int u, .int v] σ := by
  have h3 := h.2.2.1
  have h4 := h.2.2.2.1
  rcases kno h x with ⟨p, n, rfl, p1, p2, P⟩ | hu
  · refine pr_0 h (c_X5_sees_s l G hA σ c p n h3 h.1 p1 p2 P.2.1 P.1.1.2.1 u v) (c_X6_sees_s l G hA σ c p n h4 h.1 p1 p2 P.2.2.1 P.1.1.1 P.1.1.2.1 u v) (pair_c P.1.1.2.1 (fun i j hi hj => ?_))
    unfold seesV
    rw [sight_c P.2.2.2.1 P.2.2.2.2.1 hi hj]
    show _ = (if i = j then (-3 : Int32) else σ 19 (14 * p + i) j)
    rw [P.2.2.2.2.2.2.1 i j hi hj]
  · exact pr_0 h (c_X5_sees_n l G hA σ c h3 h.1 x hu u v) (c_X6_sees_n l G hA σ c h4 h.1 x hu u v) rfl
theorem k_same {l : Launch} {G : Gx} (hA : wa G) {σ : Sg} {c r : Nat} (h : Rel9 σ c r) (x z : Int32) : PrI l G yX5_same wsX5_same 5 yX6_same wsX6_same 5 [.int x, .int z] σ := by
  have h3 := h.2.2.1
  have h4 := h.2.2.2.1
  rcases kno h x with ⟨p, n, rfl, p1, p2, P⟩ | hu
  · rcases kno h z with ⟨q, m, rfl, q1, q2, R⟩ | hz
    · refine pr_e h (c_X5_same_ss l G hA σ c p n q m h3 h.1 p1 p2 P.2.1 P.1.1.2.1 q1 q2 R.2.1 R.1.1.2.1) (c_X6_same_ss l G hA σ c p n q m h4 h.1 p1 p2 P.2.2.1 P.1.1.1 P.1.1.2.1 q1 q2 R.2.2.1 R.1.1.1 R.1.1.2.1) (fun r2 σ2 w => ⟨?_, fun k k1 k2 k3 => w.2.1 k k3, fun f _ _ f3 => w.2.2 f f3⟩)
      rw [w.1, P.2.2.2.2.2.1, R.2.2.2.2.2.1]
      congr 1
      · exact fndN_c (fun s _ hs => by rw [ft_c P.1.1.1 P.2.2.2.1 P.2.2.2.2.1 R.2.2.2.1 R.2.2.2.2.1]; exact (fit_eq P.1.1 P.1.2.1 P.1.2.2 R.1.1 R.1.2.1 R.1.2.2 hs false).symm)
      · exact fndN_c (fun s _ hs => by rw [ft_c P.1.1.1 P.2.2.2.1 P.2.2.2.2.1 R.2.2.2.1 R.2.2.2.2.1]; exact (fit_eq P.1.1 P.1.2.1 P.1.2.2 R.1.1 R.1.2.1 R.1.2.2 hs true).symm)
    · exact pr_0 h (c_X5_same_sn l G hA σ c h3 h.1 z hz p p1 p2) (c_X6_same_sn l G hA σ c h4 h.1 z hz p p1 p2) rfl
  · rcases kno h z with ⟨q, m, rfl, q1, q2, R⟩ | hz
    · exact pr_0 h (c_X5_same_ns l G hA σ c h3 h.1 x hu q q1 q2) (c_X6_same_ns l G hA σ c h4 h.1 x hu q q1 q2) rfl
    · exact pr_0 h (c_X5_same_nn l G hA σ c h3 h.1 x hu z hz) (c_X6_same_nn l G hA σ c h4 h.1 x hu z hz) rfl
theorem k_onto {l : Launch} {G : Gx} (hA : wa G) {σ : Sg} {c r : Nat} (h : Rel9 σ c r) (x z : Int32) : PrI l G yX5_onto wsX5_onto 5 yX6_onto wsX6_onto 5 [.int x, .int z] σ := by
  have h3 := h.2.2.1
  have h4 := h.2.2.2.1
  rcases kno h x with ⟨p, n, rfl, p1, p2, P⟩ | hu
  · rcases kno h z with ⟨q, m, rfl, q1, q2, R⟩ | hz
    · refine pr_e h (c_X5_onto_ss l G hA σ c p n q m h3 h.1 p1 p2 P.2.1 P.1.1.2.1 q1 q2 R.2.1 R.1.1.2.1) (c_X6_onto_ss l G hA σ c p n q m h4 h.1 p1 p2 P.2.2.1 P.1.1.1 P.1.1.2.1 q1 q2 R.2.2.1 R.1.1.1 R.1.1.2.1) (fun r2 σ2 w => ⟨?_, fun k k1 k2 k3 => w.2.1 k k3, fun f _ _ f3 => w.2.2 f f3⟩)
      rw [w.1, P.2.2.2.2.2.1, R.2.2.2.2.2.1]
      have e1 : fndN (ftP n m (fun i => σ 34 0 (14 * p + i)) (fun i => σ 35 0 (14 * p + i)) (fun i => σ 34 0 (14 * q + i)) (fun i => σ 35 0 (14 * q + i)) false) 0 m = fndN (fun s => fitC n m (σ 15 (p + 1)) (σ 16 (p + 1)) (σ 15 (q + 1)) (σ 16 (q + 1)) (fan n (σ 15 (p + 1)) (σ 16 (p + 1))) (fan m (σ 15 (q + 1)) (σ 16 (q + 1))) 1 s) 0 m := fndN_c (fun s _ hs => by rw [ft_c P.1.1.1 P.2.2.2.1 P.2.2.2.2.1 R.2.2.2.1 R.2.2.2.2.1]; exact (fit_eq P.1.1 P.1.2.1 P.1.2.2 R.1.1 R.1.2.1 R.1.2.2 hs false).symm)
      have e2 : fndN (ftP n m (fun i => σ 34 0 (14 * p + i)) (fun i => σ 35 0 (14 * p + i)) (fun i => σ 34 0 (14 * q + i)) (fun i => σ 35 0 (14 * q + i)) true) 0 m = fndN (fun s => fitC n m (σ 15 (p + 1)) (σ 16 (p + 1)) (σ 15 (q + 1)) (σ 16 (q + 1)) (fan n (σ 15 (p + 1)) (σ 16 (p + 1))) (fan m (σ 15 (q + 1)) (σ 16 (q + 1))) (-1) s) 0 m := fndN_c (fun s _ hs => by rw [ft_c P.1.1.1 P.2.2.2.1 P.2.2.2.2.1 R.2.2.2.1 R.2.2.2.2.1]; exact (fit_eq P.1.1 P.1.2.1 P.1.2.2 R.1.1 R.1.2.1 R.1.2.2 hs true).symm)
      rw [e1, e2]
    · exact pr_0 h (c_X5_onto_sn l G hA σ c h3 h.1 z hz p p1 p2) (c_X6_onto_sn l G hA σ c h4 h.1 z hz p p1 p2) rfl
  · rcases kno h z with ⟨q, m, rfl, q1, q2, R⟩ | hz
    · exact pr_0 h (c_X5_onto_ns l G hA σ c h3 h.1 x hu q q1 q2) (c_X6_onto_ns l G hA σ c h4 h.1 x hu q q1 q2) rfl
    · exact pr_0 h (c_X5_onto_nn l G hA σ c h3 h.1 x hu z hz) (c_X6_onto_nn l G hA σ c h4 h.1 x hu z hz) rfl
theorem k_symmetries {l : Launch} {G : Gx} (hA : wa G) {σ : Sg} {c r : Nat} (h : Rel9 σ c r) (x w : Int32) : PrI l G yX5_symmetries wsX5_symmetries 5 yX6_symmetries wsX6_symmetries 5 [.int x, .int w] σ := by
  have h3 := h.2.2.1
  have h4 := h.2.2.2.1
  rcases kno h x with ⟨p, n, rfl, p1, p2, P⟩ | hu
  · refine pr_e h (c_X5_symmetries_s l G hA σ c p n h3 h.1 p1 p2 P.2.1 P.1.1.2.1 w) (c_X6_symmetries_s l G hA σ c p n h4 h.1 p1 p2 P.2.2.1 P.1.1.1 P.1.1.2.1 w) (fun r2 σ2 q => ⟨?_, fun k k1 k2 k3 => q.2.1 k k3, fun f _ _ f3 => q.2.2 f f3⟩)
    rw [q.1, P.2.2.2.2.2.1]
    have e : ∀ ov, cntN (ftP n n (fun i => σ 34 0 (14 * p + i)) (fun i => σ 35 0 (14 * p + i)) (fun i => σ 34 0 (14 * p + i)) (fun i => σ 35 0 (14 * p + i)) ov) n = cntN (fun s => fitC n n (σ 15 (p + 1)) (σ 16 (p + 1)) (σ 15 (p + 1)) (σ 16 (p + 1)) (fan n (σ 15 (p + 1)) (σ 16 (p + 1))) (fan n (σ 15 (p + 1)) (σ 16 (p + 1))) (hw32 ov) s) n := fun ov => cntN_c n (fun s hs => by rw [ft_c P.1.1.1 P.2.2.2.1 P.2.2.2.2.1 P.2.2.2.1 P.2.2.2.2.1]; exact (fit_eq P.1.1 P.1.2.1 P.1.2.2 P.1.1 P.1.2.1 P.1.2.2 hs ov).symm)
    rw [e false, e true]
    rfl
  · exact pr_0 h (c_X5_symmetries_n l G hA σ c h3 h.1 x hu w) (c_X6_symmetries_n l G hA σ c h4 h.1 x hu w) rfl
