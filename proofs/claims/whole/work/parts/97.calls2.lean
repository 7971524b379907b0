theorem kp3 {σ τ : Sg} (h : ∀ k, k ≠ 3 → τ k = σ k) : Kp σ τ := ⟨fun k k1 _ _ => h k k1, fun f _ _ _ => by rw [h 30 (by decide)]⟩
theorem kp36 {σ τ : Sg} (h : ∀ k, k ≠ 36 → τ k = σ k) : Kp σ τ := ⟨fun k _ k2 _ => h k (by omega), fun f _ _ _ => by rw [h 30 (by decide)]⟩
theorem kp_pt {σ τ : Sg} (h : PTk σ τ) : Kp σ τ := ⟨fun k _ k2 _ => h k (by omega), fun f _ _ _ => by rw [h 30 (by decide)]⟩
theorem kp_rt {σ ρ τ : Sg} (h : PTk σ ρ) (g : RTk ρ τ) : Kp σ τ := ⟨fun k k1 k2 k3 => by rw [g.1 k (by omega), h k (by omega)], fun f f1 _ _ => by rw [g.2 f f1, h 30 (by decide)]⟩
theorem kp_ld {σ τ : Sg} (g : LDk σ τ) : Kp σ τ := ⟨fun k k1 k2 k3 => g.1 k (by omega) k3, fun f f1 f2 _ => g.2 f f1 f2⟩
theorem PG_kp {σ τ : Sg} {p n : Nat} (hn : PG σ p n) (k : Kp σ τ) : PG τ p n := by
  obtain ⟨k1, k2⟩ := k
  exact PG_k hn (by rw [k1 14 (by decide) (by decide) (by decide)]) (by rw [k1 15 (by decide) (by decide) (by decide)]) (by rw [k1 16 (by decide) (by decide) (by decide)]) (by rw [k1 17 (by decide) (by decide) (by decide)]) (fun a _ => by rw [k1 19 (by decide) (by decide) (by decide)]) (fun k h1 h2 => by rw [k1 k (by omega) (by omega) (by omega)]) (by rw [k1 33 (by decide) (by decide) (by decide)]) (fun i _ => by rw [k1 34 (by decide) (by decide) (by decide), k1 35 (by decide) (by decide) (by decide)]; exact ⟨rfl, rfl⟩)
theorem k_way {l : Launch} {G : Gx} (hA : wa G) {σ : Sg} {c r : Nat} (h : Rel9 σ c r) (x u v : Int32) : PrI l G yX5_way wsX5_way 3 yX6_way wsX6_way 7 [.int x, .int u, .int v] σ := by
  have h3 := h.2.2.1
  rcases kno h x with ⟨p, n, rfl, p1, p2, P⟩ | hu
  · refine ⟨_, c_X5_way_s l G hA σ c p n h3 h.1 p1 p2 P.2.1 P.1.1.2.1 u v, fun r1 σ1 q => ?_⟩
    have h' := rel_k h (kp3 q.2)
    have P' := PG_kp P (kp3 q.2)
    refine ⟨_, c_X6_way_s l G hA σ1 c p n h'.2.2.2.1 h.1 p1 p2 P'.2.2.1 P'.1.1.1 P'.1.1.2.1 u v, fun r2 σ2 w => ⟨?_, c, r, rel_k h' (kp36 w.2)⟩⟩
    have e15 : σ1 15 = σ 15 := q.2 15 (by decide)
    have e16 : σ1 16 = σ 16 := q.2 16 (by decide)
    rw [q.1, w.1]
    refine pair_c P.1.1.2.1 (fun a b ha hb => ?_)
    rw [way_eq P.1.1 P.2.2.2.2.2.2.1 (D' := σ1 36 0) a ha]
    refine (rOut_c (fun a b ha hb => ?_) (fun a b _ _ => sight_p a b) n (by have := P.1.1.2.1; omega) a ha).symm
    rw [sight_c P'.2.2.2.1 P'.2.2.2.2.1 ha hb, e15, e16]
  · refine ⟨_, c_X5_way_n l G hA σ c h3 h.1 x hu u v, fun r1 σ1 q => ?_⟩
    have h' := rel_k h (kp3 q.2)
    exact ⟨_, c_X6_way_n l G hA σ1 c h'.2.2.2.1 h.1 x hu u v, fun r2 σ2 w => ⟨by rw [q.1, w.1], c, r, rel_k h' (kp36 w.2)⟩⟩
theorem k_step {l : Launch} {G : Gx} (hA : wa G) {σ : Sg} {c r : Nat} (h : Rel9 σ c r) (x u v k : Int32) : PrI l G yX5_step wsX5_step 3 yX6_step wsX6_step 7 [.int x, .int u, .int v, .int k] σ := by
  have h3 := h.2.2.1
  rcases kno h x with ⟨p, n, rfl, p1, p2, P⟩ | hu
  · refine ⟨_, c_X5_step_s l G hA σ c p n h3 h.1 p1 p2 P.2.1 P.1.1.2.1 u v k, fun r1 σ1 q => ?_⟩
    have h' := rel_k h (kp3 q.2)
    have P' := PG_kp P (kp3 q.2)
    have e15 : σ1 15 = σ 15 := q.2 15 (by decide)
    have e16 : σ1 16 = σ 16 := q.2 16 (by decide)
    have es : ∀ a b, a < n → b < n → sightR n (fun i => σ1 34 0 (14 * p + i)) (fun i => σ1 35 0 (14 * p + i)) a b = sightR n (σ 15 (p + 1)) (σ 16 (p + 1)) a b := fun a b ha hb => by rw [sight_c P'.2.2.2.1 P'.2.2.2.2.1 ha hb, e15, e16]
    refine ⟨_, c_X6_step_s l G hA σ1 c p n h'.2.2.2.1 h.1 p1 p2 P'.2.2.1 P'.1.1.1 P'.1.1.2.1 (fun i j hi hj => by rw [es i j hi hj, es j i hj hi]; exact sight_sym P.1.1 hi hj) u v k, fun r2 σ2 w => ⟨?_, c, r, rel_k h' (kp36 w.2)⟩⟩
    rw [q.1, w.1]
    refine pair_c P.1.1.2.1 (fun a b ha hb => ?_)
    rw [step_eq P.1.1 P.2.2.2.2.2.2.1 (D' := σ1 36 0) ha k]
    have eo := rOut_c (F := mD0 14 b (σ1 36 0)) es (fun a b _ _ => sight_p a b) n (by have := P.1.1.2.1; omega)
    unfold caR
    rw [eo a ha, walk_c es eo _ _ _ ha]
  · refine ⟨_, c_X5_step_n l G hA σ c h3 h.1 x hu u v k, fun r1 σ1 q => ?_⟩
    have h' := rel_k h (kp3 q.2)
    exact ⟨_, c_X6_step_n l G hA σ1 c h'.2.2.2.1 h.1 x hu u v k, fun r2 σ2 w => ⟨by rw [q.1, w.1], c, r, rel_k h' (kp36 w.2)⟩⟩
theorem PTA_c {σ ρ : Sg} {n : Nat} {A B : Nat → Nat → Int32} (h : PTA σ ρ n A) (e : ∀ i j, i < j → j < n → A i j = B i j) : PTA σ ρ n B := ⟨h.1, fun i j a b => (h.2.1 i j a b).trans (e i j a b), h.2.2.1, h.2.2.2⟩
theorem PTA_p {σ ρ : Sg} {p n : Nat} (P : PG σ p n) (h : PTA σ ρ n (jnA n (fun i => σ 34 0 (14 * p + i)) (fun i => σ 35 0 (14 * p + i)))) : PTA σ ρ n (jnA n (σ 15 (p + 1)) (σ 16 (p + 1))) := PTA_c h (fun i j a b => jnA_c P.2.2.2.1 P.2.2.2.2.1 (by omega) b)
theorem k_triangulations {l : Launch} {G : Gx} (hA : wa G) {σ : Sg} {c r : Nat} (h : Rel9 σ c r) (x : Int32) : PrI l G yX5_triangulations wsX5_triangulations 2 yX6_triangulations wsX6_triangulations 7 [.int x] σ := by
  have h3 := h.2.2.1
  have h4 := h.2.2.2.1
  rcases kno h x with ⟨p, n, rfl, p1, p2, P⟩ | hu
  · refine pr_e h (c_X5_triangulations_s l G hA σ c p n h3 h.1 p1 p2 P.2.1 P.1.1.2.1) (c_X6_triangulations_s l G hA σ c p n h4 h.1 p1 p2 P.2.2.1 P.1.1.1 P.1.1.2.1) (fun r2 σ2 w => ?_)
    obtain ⟨τ, t1, t2, t3⟩ := w
    obtain ⟨g1, g2, g3, g4, g5, g6, g7, g8, g9, g10, g11, g12⟩ := P
    exact ⟨by rw [t2, (ref_tab g1.1.1 (PTA_p ⟨g1, g2, g3, g4, g5, g6, g7, g8, g9, g10, g11, g12⟩ t1)).1, g8], by rw [t3]; exact kp_pt t1.1⟩
  · exact pr_0 h (c_X5_triangulations_n l G hA σ c h3 h.1 x hu) (c_X6_triangulations_n l G hA σ c h4 h.1 x hu) rfl
theorem k_best {l : Launch} {G : Gx} (hA : wa G) {σ : Sg} {c r : Nat} (h : Rel9 σ c r) (x : Int32) : PrI l G yX5_best wsX5_best 2 yX6_best wsX6_best 7 [.int x] σ := by
  have h3 := h.2.2.1
  have h4 := h.2.2.2.1
  rcases kno h x with ⟨p, n, rfl, p1, p2, P⟩ | hu
  · refine pr_e h (c_X5_best_s l G hA σ c p n h3 h.1 p1 p2 P.2.1 P.1.1.2.1) (c_X6_best_s l G hA σ c p n h4 h.1 p1 p2 P.2.2.1 P.1.1.1 P.1.1.2.1) (fun r2 σ2 w => ?_)
    obtain ⟨τ, t1, t2, t3⟩ := w
    obtain ⟨g1, g2, g3, g4, g5, g6, g7, g8, g9, g10, g11, g12⟩ := P
    exact ⟨by rw [t2, (ref_tab g1.1.1 (PTA_p ⟨g1, g2, g3, g4, g5, g6, g7, g8, g9, g10, g11, g12⟩ t1)).2.1, g9], by rw [t3]; exact kp_pt t1.1⟩
  · exact pr_0 h (c_X5_best_n l G hA σ c h3 h.1 x hu) (c_X6_best_n l G hA σ c h4 h.1 x hu) rfl
theorem lst_c {m : Nat} (hm : m ≤ 14) {t w : Int32} {a b c a' b' c' : Nat → Int32} (e : ∀ j, j < m → a j = a' j ∧ b j = b' j ∧ c j = c' j) : lstR m t w a b c = lstR m t w a' b' c' := by
  by_cases q : 0 ≤ t ∧ t < nI m
  · obtain ⟨j, j1, rfl⟩ := ix_of q hm
    obtain ⟨e1, e2, e3⟩ := e j j1
    unfold lstR
    rw [nI_clamp (by omega), e1, e2, e3]
  · unfold lstR
    rw [if_neg q, if_neg q]
theorem cL_len {n : Nat} {x y : Nat → Int32} (h3 : 3 ≤ n) : (cL n x y).length = n - 2 := by
  have hl := trl_len (c_okT (x := x) (y := y) h3) n 0 (n - 1) (by omega) (by omega)
  show (trl (cT n x y) n 0 (n - 1)).length = _
  omega
theorem k_triangle {l : Launch} {G : Gx} (hA : wa G) {σ : Sg} {c r : Nat} (h : Rel9 σ c r) (x t w : Int32) : PrI l G yX5_triangle wsX5_triangle 2 yX6_triangle wsX6_triangle 8 [.int x, .int t, .int w] σ := by
  have h3 := h.2.2.1
  have h4 := h.2.2.2.1
  rcases kno h x with ⟨p, n, rfl, p1, p2, P⟩ | hu
  · by_cases hw : 0 ≤ w ∧ w ≤ 2
    · refine pr_e h (c_X5_triangle_s l G hA σ c p n h3 h.1 p1 p2 P.2.1 P.1.1.2.1 P.1.1.1 t w) (c_X6_triangle_s l G hA σ c p n h4 h.1 p1 p2 P.2.2.1 P.1.1.1 P.1.1.2.1 t w hw) (fun r2 σ2 q => ?_)
      obtain ⟨q1, ρ, q2, q3⟩ := q
      have e := (ref_tab P.1.1.1 (PTA_p P q2)).2.2
      obtain ⟨g1, g2, g3, g4, g5, g6, g7, g8, g9, g10, g11, g12⟩ := P
      refine ⟨?_, kp_rt q2.1 q3.1⟩
      rw [q1]
      refine lst_c (by have := g1.1.2.1; omega) (fun j hj => ?_)
      have hl : j < (cL n (σ 15 (p + 1)) (σ 16 (p + 1))).length := by rw [cL_len g1.1.1]; exact hj
      have hs := List.getElem?_eq_getElem hl
      have a1 := g10 j _ hs
      have a2 := q3.2.2 j _ (by rw [e]; exact hs)
      exact ⟨by rw [a2.1, a1.1], by rw [a2.2.1, a1.2.1], by rw [a2.2.2, a1.2.2]⟩
    · exact pr_0 h (c_X5_triangle_s l G hA σ c p n h3 h.1 p1 p2 P.2.1 P.1.1.2.1 P.1.1.1 t w) (c_X6_triangle_o l G hA σ c p n h4 h.1 p1 p2 P.2.2.1 P.1.1.1 P.1.1.2.1 t w hw) (lst_o hw).symm
  · exact pr_0 h (c_X5_triangle_n l G hA σ c h3 h.1 x hu t w) (c_X6_triangle_n l G hA σ c h4 h.1 x hu t w) rfl
/-- the diagonals that stay, as the reference and as the tables tell -/
theorem stF_p {σ : Sg} {p n : Nat} (P : PG σ p n) {D : List (Nat × Nat)} (hD : D = cD n (σ 15 (p + 1)) (σ 16 (p + 1))) : D.length = n - 3 ∧ stF n (fun i => σ 34 0 (14 * p + i)) (fun i => σ 35 0 (14 * p + i)) (lA D) (lB D) D.length D.length = cF n (σ 15 (p + 1)) (σ 16 (p + 1)) := by
  subst hD
  have hl := cD_len (x := σ 15 (p + 1)) (y := σ 16 (p + 1)) P.1.1.1
  refine ⟨hl, ?_⟩
  rw [hl]
  exact stF_c (by have := P.1.1.1; omega) P.2.2.2.1 P.2.2.2.2.1 (fun d hd => by
    have q := cD_at P.1.1 P.1.2.1 P.1.2.2 hd
    exact ⟨by omega, q.2.1⟩) _ (Nat.le_refl _)
theorem k_diagonal {l : Launch} {G : Gx} (hA : wa G) {σ : Sg} {c r : Nat} (h : Rel9 σ c r) (x t w : Int32) : PrI l G yX5_diagonal wsX5_diagonal 2 yX6_diagonal wsX6_diagonal 9 [.int x, .int t, .int w] σ := by
  have h3 := h.2.2.1
  have h4 := h.2.2.2.1
  rcases kno h x with ⟨p, n, rfl, p1, p2, P⟩ | hu
  · by_cases hw : 0 ≤ w ∧ w ≤ 2
    · refine pr_e h (c_X5_diagonal_s l G hA σ c p n h3 h.1 p1 p2 P.2.1 P.1.1.2.1 P.1.1.1 t w) (c_X6_diagonal_s l G hA σ c p n h4 h.1 p1 p2 P.2.2.1 P.1.1.1 P.1.1.2.1 t w hw) (fun r2 σ2 q => ?_)
      obtain ⟨ρ, q2, q3, q1⟩ := q
      have e := dgL_c (ref_tab P.1.1.1 (PTA_p P q2)).2.2
      obtain ⟨e1, e2⟩ := stF_p P e
      obtain ⟨q4, _, q5⟩ := q3
      obtain ⟨g1, g2, g3, g4, g5, g6, g7, g8, g9, g10, g11, g12⟩ := P
      refine ⟨?_, kp_ld q4⟩
      rw [e2, e1, e] at q5
      rw [q1, e1]
      refine lst_c (by have := g1.1.2.1; omega) (fun j hj => ?_)
      have a1 := g11 j hj
      have a2 := q5 j hj
      exact ⟨by rw [a2.1, a1.1], by rw [a2.2.1, a1.2.1], by rw [a2.2.2, a1.2.2]⟩
    · exact pr_0 h (c_X5_diagonal_s l G hA σ c p n h3 h.1 p1 p2 P.2.1 P.1.1.2.1 P.1.1.1 t w) (c_X6_diagonal_o l G hA σ c p n h4 h.1 p1 p2 P.2.2.1 P.1.1.1 P.1.1.2.1 t w hw) (lst_o hw).symm
  · exact pr_0 h (c_X5_diagonal_n l G hA σ c h3 h.1 x hu t w) (c_X6_diagonal_n l G hA σ c h4 h.1 x hu t w) rfl
theorem k_parts {l : Launch} {G : Gx} (hA : wa G) {σ : Sg} {c r : Nat} (h : Rel9 σ c r) (x : Int32) : PrI l G yX5_parts wsX5_parts 2 yX6_parts wsX6_parts 9 [.int x] σ := by
  have h3 := h.2.2.1
  have h4 := h.2.2.2.1
  rcases kno h x with ⟨p, n, rfl, p1, p2, P⟩ | hu
  · refine pr_e h (c_X5_parts_s l G hA σ c p n h3 h.1 p1 p2 P.2.1 P.1.1.2.1) (c_X6_parts_s l G hA σ c p n h4 h.1 p1 p2 P.2.2.1 P.1.1.1 P.1.1.2.1) (fun r2 σ2 q => ?_)
    obtain ⟨ρ, q2, q3, q1⟩ := q
    have e := dgL_c (ref_tab P.1.1.1 (PTA_p P q2)).2.2
    obtain ⟨e1, e2⟩ := stF_p P e
    obtain ⟨g1, g2, g3, g4, g5, g6, g7, g8, g9, g10, g11, g12⟩ := P
    refine ⟨?_, kp_ld q3.1⟩
    rw [q1, e2, e1, g12]
  · exact pr_0 h (c_X5_parts_n l G hA σ c h3 h.1 x hu) (c_X6_parts_n l G hA σ c h4 h.1 x hu) rfl
theorem sgu_ii {σ : Sg} {k i f k' i' : Nat} {v : Int32} (h : i' ≠ i) : sgu σ k i f v k' i' = σ k' i' := by
  funext f'
  exact sgu_i h
theorem k_drop {l : Launch} {G : Gx} (hA : wa G) {σ : Sg} {c r : Nat} (h : Rel9 σ c r) : PrI l G yX5_drop wsX5_drop 1 yX6_drop wsX6_drop 1 [] σ := by
  obtain ⟨a1, a2, a3, a4, a5, a6, a7, a8, a9, a10, a11, a12⟩ := h
  cases c with
  | zero => exact pr_0 ⟨a1, a2, a3, a4, a5, a6, a7, a8, a9, a10, a11, a12⟩ (c_X5_drop_0 l G hA σ a3) (c_X6_drop_0 l G hA σ a4) rfl
  | succ d =>
    refine ⟨_, c_X5_drop_s l G hA σ d a3 (by omega), fun r1 σ1 q => ⟨_, c_X6_drop_s l G hA σ1 d (by rw [q.2, sgu_k (by decide)]; exact a4) (by omega), fun r2 σ2 w => ⟨by rw [q.1, w.1], d, r, ?_⟩⟩⟩
    rw [w.2, q.2]
    refine ⟨by omega, a2, by rw [sgu_k (by decide), sgu_self], by rw [sgu_self], by rw [sgu_k (by decide), sgu_k (by decide)]; exact a5, by rw [sgu_f (by decide), sgu_k (by decide)]; exact a6, ?_, ?_, ?_, ?_, ?_, fun p hp => ?_⟩
    · rw [sgu_kk (by decide), sgu_kk (by decide), sgu_kk (by decide), sgu_kk (by decide)]; exact a7
    · rw [sgu_kk (by decide), sgu_kk (by decide), sgu_kk (by decide), sgu_kk (by decide)]; exact a8
    · rw [sgu_kk (by decide), sgu_kk (by decide), sgu_kk (by decide), sgu_kk (by decide)]; exact a9
    · rw [sgu_f (by decide), sgu_k (by decide), sgu_k (by decide), sgu_k (by decide)]; exact a10
    · rw [sgu_f (by decide), sgu_k (by decide), sgu_k (by decide), sgu_k (by decide)]; exact a11
    · obtain ⟨n, hn⟩ := a12 p (by omega)
      have e : ∀ k, k ≠ 0 → k ≠ 30 → sgu (sgu σ 0 0 5 (nI d)) 30 0 3 (nI d) k = σ k := fun k k1 k2 => by rw [sgu_kk k2, sgu_kk k1]
      exact ⟨n, PG_k hn (by rw [e 14 (by decide) (by decide)]) (by rw [e 15 (by decide) (by decide)]) (by rw [e 16 (by decide) (by decide)]) (by rw [e 17 (by decide) (by decide)]) (fun a _ => by rw [e 19 (by decide) (by decide)]) (fun k h1 h2 => by rw [e k (by omega) (by omega)]) (by rw [e 33 (by decide) (by decide)]) (fun i _ => by rw [e 34 (by decide) (by decide), e 35 (by decide) (by decide)]; exact ⟨rfl, rfl⟩)⟩
theorem wi_B {x : Int32} (h : wi9 x) : wB 1000 x := by
  have a := le32.mp h.1
  have b := le32.mp h.2
  rw [show (-1000 : Int32).toInt = -1000 by decide] at a
  rw [show (1000 : Int32).toInt = 1000 by decide] at b
  exact ⟨a, b⟩
theorem k_corner {l : Launch} {G : Gx} (hA : wa G) {σ : Sg} {c r : Nat} (h : Rel9 σ c r) (x y : Int32) : PrI l G yX5_corner wsX5_corner 3 yX6_corner wsX6_corner 2 [.int x, .int y] σ := by
  by_cases hw : wi9 x ∧ wi9 y
  · by_cases h14 : r = 14
    · exact pr_0 h (c_X5_corner_f l G hA σ r h.2.2.2.2.1 h.2.1 x y hw h14) (c_X6_corner_f l G hA σ r h.2.2.2.2.2.1 h.2.1 x y hw h14) rfl
    · obtain ⟨a1, a2, a3, a4, a5, a6, a7, a8, a9, a10, a11, a12⟩ := h
      refine ⟨_, c_X5_corner_a l G hA σ r a5 a2 x y hw (by omega), fun r1 σ1 q => ⟨_, c_X6_corner_a l G hA σ1 r (by rw [q.2, sgu_k (by decide), sgu_k (by decide), sgu_k (by decide)]; exact a6) a2 x y hw (by omega), fun r2 σ2 w => ⟨by rw [q.1, w.1], c, r + 1, ?_⟩⟩⟩
      rw [w.2, q.2]
      clear q w
      have e : ∀ k, k ≠ 14 → k ≠ 15 → k ≠ 16 → k ≠ 30 → k ≠ 31 → k ≠ 32 → sgu (sgu (sgu (sgu (sgu (sgu σ 15 0 r x) 16 0 r y) 14 0 2 (nI (r + 1))) 31 0 r x) 32 0 r y) 30 0 0 (nI (r + 1)) k = σ k := fun k k1 k2 k3 k4 k5 k6 => by rw [sgu_kk k4, sgu_kk k6, sgu_kk k5, sgu_kk k1, sgu_kk k3, sgu_kk k2]
      have e15 : ∀ i, sgu (sgu (sgu (sgu (sgu (sgu σ 15 0 r x) 16 0 r y) 14 0 2 (nI (r + 1))) 31 0 r x) 32 0 r y) 30 0 0 (nI (r + 1)) 15 0 i = if i = r then x else σ 15 0 i := fun i => by
        rw [sgu_k (by decide), sgu_k (by decide), sgu_k (by decide), sgu_k (by decide), sgu_k (by decide)]
        by_cases q : i = r
        · rw [q, sgu_self, if_pos rfl]
        · rw [sgu_f q, if_neg q]
      have e16 : ∀ i, sgu (sgu (sgu (sgu (sgu (sgu σ 15 0 r x) 16 0 r y) 14 0 2 (nI (r + 1))) 31 0 r x) 32 0 r y) 30 0 0 (nI (r + 1)) 16 0 i = if i = r then y else σ 16 0 i := fun i => by
        rw [sgu_k (by decide), sgu_k (by decide), sgu_k (by decide), sgu_k (by decide)]
        by_cases q : i = r
        · rw [q, sgu_self, if_pos rfl]
        · rw [sgu_f q, if_neg q, sgu_k (by decide)]
      have e31 : ∀ i, sgu (sgu (sgu (sgu (sgu (sgu σ 15 0 r x) 16 0 r y) 14 0 2 (nI (r + 1))) 31 0 r x) 32 0 r y) 30 0 0 (nI (r + 1)) 31 0 i = if i = r then x else σ 31 0 i := fun i => by
        rw [sgu_k (by decide), sgu_k (by decide)]
        by_cases q : i = r
        · rw [q, sgu_self, if_pos rfl]
        · rw [sgu_f q, if_neg q, sgu_k (by decide), sgu_k (by decide), sgu_k (by decide)]
      have e32 : ∀ i, sgu (sgu (sgu (sgu (sgu (sgu σ 15 0 r x) 16 0 r y) 14 0 2 (nI (r + 1))) 31 0 r x) 32 0 r y) 30 0 0 (nI (r + 1)) 32 0 i = if i = r then y else σ 32 0 i := fun i => by
        rw [sgu_k (by decide)]
        by_cases q : i = r
        · rw [q, sgu_self, if_pos rfl]
        · rw [sgu_f q, if_neg q, sgu_k (by decide), sgu_k (by decide), sgu_k (by decide), sgu_k (by decide)]
      refine ⟨a1, by omega, ?_, ?_, ?_, ?_, fun i hi => ?_, fun i hi => ?_, fun i hi => ?_, ?_, ?_, fun p hp => ?_⟩
      · rw [e 0 (by decide) (by decide) (by decide) (by decide) (by decide) (by decide)]; exact a3
      · rw [sgu_f (by decide), sgu_k (by decide), sgu_k (by decide), sgu_k (by decide), sgu_k (by decide), sgu_k (by decide)]; exact a4
      · rw [sgu_k (by decide), sgu_k (by decide), sgu_k (by decide), sgu_self]
      · rw [sgu_self]
      · rw [e31, e15]
        by_cases q : i = r
        · rw [if_pos q, if_pos q]
        · rw [if_neg q, if_neg q]; exact a7 i (by omega)
      · rw [e32, e16]
        by_cases q : i = r
        · rw [if_pos q, if_pos q]
        · rw [if_neg q, if_neg q]; exact a8 i (by omega)
      · rw [e15, e16]
        by_cases q : i = r
        · rw [if_pos q, if_pos q]; exact ⟨wi_B hw.1, wi_B hw.2⟩
        · rw [if_neg q, if_neg q]; exact a9 i (by omega)
      · rw [sgu_f (by decide), sgu_k (by decide), sgu_k (by decide), sgu_k (by decide), sgu_k (by decide), sgu_k (by decide), e 1 (by decide) (by decide) (by decide) (by decide) (by decide) (by decide)]; exact a10
      · rw [sgu_f (by decide), sgu_k (by decide), sgu_k (by decide), sgu_k (by decide), sgu_k (by decide), sgu_k (by decide), e 1 (by decide) (by decide) (by decide) (by decide) (by decide) (by decide)]; exact a11
      · obtain ⟨n, hn⟩ := a12 p hp
        have z : ∀ k, sgu (sgu (sgu (sgu (sgu (sgu σ 15 0 r x) 16 0 r y) 14 0 2 (nI (r + 1))) 31 0 r x) 32 0 r y) 30 0 0 (nI (r + 1)) k (p + 1) = σ k (p + 1) := fun k => by rw [sgu_ii (by omega), sgu_ii (by omega), sgu_ii (by omega), sgu_ii (by omega), sgu_ii (by omega), sgu_ii (by omega)]
        have e' : ∀ k, 17 ≤ k → k ≠ 30 → k ≠ 31 → k ≠ 32 → sgu (sgu (sgu (sgu (sgu (sgu σ 15 0 r x) 16 0 r y) 14 0 2 (nI (r + 1))) 31 0 r x) 32 0 r y) 30 0 0 (nI (r + 1)) k = σ k := fun k _ k1 k2 k3 => e k (by omega) (by omega) (by omega) k1 k2 k3
        exact ⟨n, PG_k hn (z 14) (z 15) (z 16) (by rw [e' 17 (by decide) (by decide) (by decide) (by decide)]) (fun a _ => by rw [e' 19 (by decide) (by decide) (by decide) (by decide)]) (fun k h1 h2 => by rw [e' k (by omega) (by omega) (by omega) (by omega)]) (by rw [e' 33 (by decide) (by decide) (by decide) (by decide)]) (fun i _ => by rw [e' 34 (by decide) (by decide) (by decide) (by decide), e' 35 (by decide) (by decide) (by decide) (by decide)]; exact ⟨rfl, rfl⟩)⟩
  · exact pr_0 h (c_X5_corner_o l G hA σ r h.2.2.2.2.1 h.2.1 x y hw) (c_X6_corner_o l G hA σ r h.2.2.2.2.2.1 h.2.1 x y hw) rfl
