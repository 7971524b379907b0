/-! rows that agree as far as they go -/
def eqn (n : Nat) (x x' : Nat → Int32) : Prop := ∀ i, i < n → x i = x' i
theorem tn_c {n : Nat} {x y x' y' : Nat → Int32} (hx : eqn n x x') (hy : eqn n y y') {a b c : Nat} (ha : a < n) (hb : b < n) (hc : c < n) : tn x y a b c = tn x' y' a b c := by
  unfold tn
  rw [hx a ha, hx b hb, hx c hc, hy a ha, hy b hb, hy c hc]
theorem sq_c {n : Nat} {x y x' y' : Nat → Int32} (hx : eqn n x x') (hy : eqn n y y') {a b : Nat} (ha : a < n) (hb : b < n) : sq9 x y a b = sq9 x' y' a b := by
  unfold sq9
  rw [hx a ha, hx b hb, hy a ha, hy b hb]
theorem fan_c {n : Nat} {x y x' y' : Nat → Int32} (hx : eqn n x x') (hy : eqn n y y') : fan n x y = fan n x' y' := sumN_c _ (fun j hj => tn_c hx hy (by omega) (by omega) (by omega))
theorem sumL_c {f g : Nat → Int64} : ∀ m, (∀ i, i < m → f i = g i) → sumL f m = sumL g m
  | 0, _ => rfl
  | m + 1, h => by rw [sumL, sumL, sumL_c m (fun i hi => h i (by omega)), h m (by omega)]
theorem fanL_c {n : Nat} {v x y v' x' y' : Nat → Int32} (hv : eqn n v v') (hx : eqn n x x') (hy : eqn n y y') : sumL (fanL v x y) (n - 2) = sumL (fanL v' x' y') (n - 2) := sumL_c _ (fun j hj => by
  unfold fanL fanF
  rw [tn_c hx hy (a := 0) (b := j + 1) (c := j + 1 + 1) (by omega) (by omega) (by omega), hv 0 (by omega), hv (j + 1) (by omega), hv (j + 1 + 1) (by omega)])
theorem ptsM_c {n : Nat} {x y x' y' : Nat → Int32} (hx : eqn n x x') (hy : eqn n y y') : sumN (ptsM n x y) n = sumN (ptsM n x' y') n := sumN_c _ (fun i hi => by
  have ha : af n i < n := af_lt (by omega)
  unfold ptsM
  rw [hx i hi, hx _ ha, hy i hi, hy _ ha])
theorem plcR_c {n : Nat} {x y x' y' : Nat → Int32} (hx : eqn n x x') (hy : eqn n y y') (px py sc : Int32) : plcR n x y px py sc = plcR n x' y' px py sc := plcF_c _ _ _ (fun i _ hi => by
  have hi : i < n := by omega
  have ha : af n i < n := af_lt (by omega)
  unfold onR crR
  rw [hx i hi, hx _ ha, hy i hi, hy _ ha]
  exact ⟨rfl, rfl⟩)
theorem sight_c {n : Nat} {x y x' y' : Nat → Int32} (hx : eqn n x x') (hy : eqn n y y') {i j : Nat} (hi : i < n) (hj : j < n) : sightR n x y i j = sightR n x' y' i j := by
  have e : fndN (seenP n x y i j) 0 n = fndN (seenP n x' y' i j) 0 n := fndN_c (fun k _ hk => by
    have ha : af n k < n := af_lt (by omega)
    unfold seenP mtP btP
    rw [hx i hi, hx j hj, hx k hk, hx _ ha, hy i hi, hy j hj, hy k hk, hy _ ha])
  unfold sightR seenR
  rw [e, plcR_c hx hy, hx i hi, hx j hj, hy i hi, hy j hj]
theorem jnA_c {n : Nat} {x y x' y' : Nat → Int32} (hx : eqn n x x') (hy : eqn n y y') {i j : Nat} (hi : i < n) (hj : j < n) : jnA n x y i j = jnA n x' y' i j := by
  unfold jnA
  rw [sight_c hx hy hi hj, sq_c hx hy hi hj]
theorem flD_c {n : Nat} {x y x' y' : Nat → Int32} (hn : 0 < n) (hx : eqn n x x') (hy : eqn n y y') {A B : Nat → Nat} {st : Nat → Bool} {m w u v : Nat} (hu : u < n) : flD n x y A B st m w u v = flD n x' y' A B st m w u v := by
  unfold flD
  rw [fan_c hx hy, tn_c hx hy hu (Nat.mod_lt _ hn) (Nat.mod_lt _ hn)]
theorem stF_c {n : Nat} {x y x' y' : Nat → Int32} (hn : 0 < n) (hx : eqn n x x') (hy : eqn n y y') {A B : Nat → Nat} {m : Nat} (hA : ∀ d, d < m → A d < n ∧ B d < n) : ∀ d, d ≤ m → stF n x y A B m d = stF n x' y' A B m d
  | 0, _ => rfl
  | d + 1, hd => by
    funext e
    have ih := stF_c hn hx hy hA d (by omega)
    obtain ⟨a, b⟩ := hA d (by omega)
    rw [stF_s, stF_s, ih, flD_c hn hx hy a, flD_c hn hx hy b]
theorem ft_c {n m : Nat} {x y u v x' y' u' v' : Nat → Int32} (h3 : 3 ≤ n) (hx : eqn n x x') (hy : eqn n y y') (hu : eqn m u u') (hv : eqn m v v') (ov : Bool) (k : Nat) : ftP n m x y u v ov k = ftP n m x' y' u' v' ov k := by
  unfold ftP
  by_cases q : n = m
  · subst q
    have one : ∀ fw, fitR n x y u v fw ov k = fitR n x' y' u' v' fw ov k := fun fw => by
      unfold fitR
      rw [fndN_c (q := corRN n x' y' u' v' fw ov k)]
      intro i _ hi
      have ha : af n i < n := af_lt (by omega)
      have ha2 : af n (af n i) < n := af_lt (by omega)
      have hg : ∀ j, goR fw n k j < n := fun j => by
        unfold goR
        split
        · exact Nat.mod_lt _ (by omega)
        · exact Nat.mod_lt _ (by omega)
      unfold corRN corR
      rw [sq_c hu hv (hg i) (hg (i + 1)), sq_c hx hy hi ha, sq_c hu hv (hg i) (hg (i + 2)), sq_c hx hy hi ha2, tn_c hu hv (hg i) (hg (i + 1)) (hg (i + 2)), tn_c hx hy hi ha ha2]
    unfold fitB
    rw [one true, one false]
  · rw [decide_eq_false q, Bool.false_and, Bool.false_and]
theorem rOut_c {n : Nat} {S S' : Nat → Nat → Int32} {F : Nat → Int32} (hS : ∀ a b, a < n → b < n → S a b = S' a b) (hp : ∀ a b, a < n → b < n → (0 < S a b ↔ S a b ≠ 0)) : ∀ d, d ≤ 100 → ∀ a, a < n → rOut n S F d a = rOut n S' F d a
  | 0, _ => fun _ _ => rfl
  | d + 1, hd => RM_u (Nat.le_refl n) hS (RM_r (by omega) hp n (Nat.le_refl _)) (RM_r (by omega) (fun a b ha hb => by rw [← hS a b ha hb]; exact hp a b ha hb) n (Nat.le_refl _)) (rOut_c hS hp d (by omega))
/-! what both remember of a polygon -/
/-- a simple polygon -/
def simp9 (n : Nat) (x y : Nat → Int32) : Prop := rowR n x y ∧ noF n x y ∧ noM n x y
/-- polygon p, as both hold it -/
def PG (σ : Sg) (p n : Nat) : Prop := simp9 n (σ 15 (p + 1)) (σ 16 (p + 1)) ∧ σ 14 (p + 1) 2 = nI n ∧ σ 33 0 p = nI n ∧ eqn n (fun i => σ 34 0 (14 * p + i)) (σ 15 (p + 1)) ∧ eqn n (fun i => σ 35 0 (14 * p + i)) (σ 16 (p + 1)) ∧ σ 17 p 2 = fan n (σ 15 (p + 1)) (σ 16 (p + 1)) ∧ (∀ a b, a < n → b < n → σ 19 (14 * p + a) b = sightR n (σ 15 (p + 1)) (σ 16 (p + 1)) a b) ∧ σ 17 p 3 = cW n (σ 15 (p + 1)) (σ 16 (p + 1)) 0 (n - 1) ∧ σ 17 p 4 = cS n (σ 15 (p + 1)) (σ 16 (p + 1)) 0 (n - 1) ∧ (∀ t q, (cL n (σ 15 (p + 1)) (σ 16 (p + 1)))[t]? = some q → tri9 σ p t q) ∧ (∀ d, d < n - 3 → σ 23 p d = nI (lA (cD n (σ 15 (p + 1)) (σ 16 (p + 1))) d) ∧ σ 24 p d = nI (lB (cD n (σ 15 (p + 1)) (σ 16 (p + 1))) d) ∧ σ 25 p d = bI (cF n (σ 15 (p + 1)) (σ 16 (p + 1)) d)) ∧ σ 17 p 5 = nI (1 + cntN (cF n (σ 15 (p + 1)) (σ 16 (p + 1))) (n - 3))
/-- both memories tell the same -/
def Rel9 (σ : Sg) (cnt r : Nat) : Prop := cnt ≤ 8 ∧ r ≤ 14 ∧ σ 0 0 5 = nI cnt ∧ σ 30 0 3 = nI cnt ∧ σ 14 0 2 = nI r ∧ σ 30 0 0 = nI r ∧ eqn r (σ 31 0) (σ 15 0) ∧ eqn r (σ 32 0) (σ 16 0) ∧ (∀ i, i < r → wB 1000 (σ 15 0 i) ∧ wB 1000 (σ 16 0 i)) ∧ σ 30 0 7 = σ 1 0 1 ∧ σ 30 0 8 = σ 1 0 2 ∧ ∀ p, p < cnt → ∃ n, PG σ p n
theorem PG_k {σ τ : Sg} {p n : Nat} (h : PG σ p n) (h14 : τ 14 (p + 1) = σ 14 (p + 1)) (h15 : τ 15 (p + 1) = σ 15 (p + 1)) (h16 : τ 16 (p + 1) = σ 16 (p + 1)) (h17 : τ 17 p = σ 17 p) (h19 : ∀ a, a < 14 → τ 19 (14 * p + a) = σ 19 (14 * p + a)) (h20 : ∀ k, 20 ≤ k → k ≤ 25 → τ k p = σ k p) (h33 : τ 33 0 p = σ 33 0 p) (h34 : ∀ i, i < 14 → τ 34 0 (14 * p + i) = σ 34 0 (14 * p + i) ∧ τ 35 0 (14 * p + i) = σ 35 0 (14 * p + i)) : PG τ p n := by
  obtain ⟨a1, a2, a3, a4, a5, a6, a7, a8, a9, a10, a11, a12⟩ := h
  have hn := a1.1.2.1
  unfold PG tri9
  rw [h14, h15, h16, h17, h33, h20 20 (by omega) (by omega), h20 21 (by omega) (by omega), h20 22 (by omega) (by omega), h20 23 (by omega) (by omega), h20 24 (by omega) (by omega), h20 25 (by omega) (by omega)]
  refine ⟨a1, a2, a3, fun i hi => ?_, fun i hi => ?_, a6, fun a b ha hb => by rw [h19 a (by omega)]; exact a7 a b ha hb, a8, a9, a10, a11, a12⟩
  · show τ 34 0 (14 * p + i) = _
    rw [(h34 i (by omega)).1]; exact a4 i hi
  · show τ 35 0 (14 * p + i) = _
    rw [(h34 i (by omega)).2]; exact a5 i hi
