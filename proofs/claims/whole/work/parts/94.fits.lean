theorem adv_i {n : Nat} {x y : Nat → Int32} (h : rowR n x y) {a b c : Nat} (ha : a < n) (hb : b < n) (hc : c < n) : (adv x y a b c).toInt = dt (p09 x y a) (p09 x y b) (p09 x y c) := by
  obtain ⟨a1, a2⟩ := h.2.2 a ha
  obtain ⟨b1, b2⟩ := h.2.2 b hb
  obtain ⟨c1, c2⟩ := h.2.2 c hc
  unfold wB at *
  have s1 := s32 (a := x b) (b := x a) rfl rfl (by omega) (by omega)
  have s2 := s32 (a := x c) (b := x b) rfl rfl (by omega) (by omega)
  have s3 := s32 (a := y b) (b := y a) rfl rfl (by omega) (by omega)
  have s4 := s32 (a := y c) (b := y b) rfl rfl (by omega) (by omega)
  have m1 := mulb (A := 2000) (B := 2000) (show -2000 ≤ (x b).toInt - (x a).toInt by omega) (by omega) (show -2000 ≤ (x c).toInt - (x b).toInt by omega) (by omega)
  have m2 := mulb (A := 2000) (B := 2000) (show -2000 ≤ (y b).toInt - (y a).toInt by omega) (by omega) (show -2000 ≤ (y c).toInt - (y b).toInt by omega) (by omega)
  have e1 := m32 s1 s2 (by omega) (by omega)
  have e2 := m32 s3 s4 (by omega) (by omega)
  have e3 := a32 e1 e2 (by omega) (by omega)
  exact e3
theorem tn_b {n : Nat} {x y : Nat → Int32} (h : rowR n x y) {a b c : Nat} (ha : a < n) (hb : b < n) (hc : c < n) : -512000000 ≤ tu (p09 x y a) (p09 x y b) (p09 x y c) ∧ tu (p09 x y a) (p09 x y b) (p09 x y c) ≤ 512000000 := (tnR_i (B := 1000) (by decide) (h.2.2 a ha).1 (h.2.2 a ha).2 (h.2.2 b hb).1 (h.2.2 b hb).2 (h.2.2 c hc).1 (h.2.2 c hc).2).2
/-- how: 1 as it is, -1 turned over -/
def hwI (ov : Bool) : Int := if ov then -1 else 1
def hw32 (ov : Bool) : Int32 := if ov then -1 else 1
theorem hw_i (ov : Bool) : (hw32 ov).toInt = hwI ov ∧ hwI ov * hwI ov = 1 ∧ (hwI ov = 1 ∨ hwI ov = -1) := by cases ov <;> decide
theorem hw_mul {t : Int32} {v : Int} (ov : Bool) (ht : t.toInt = v) (h1 : -512000000 ≤ v) (h2 : v ≤ 512000000) : (hw32 ov * t).toInt = hwI ov * v := by
  obtain ⟨e1, -, e3⟩ := hw_i ov
  rcases e3 with e | e
  · exact m32 e1 ht (by rw [e]; omega) (by rw [e]; omega)
  · exact m32 e1 ht (by rw [e]; omega) (by rw [e]; omega)
/-- the polygon q, around from s -/
def goP (n : Nat) (u v : Nat → Int32) (fw : Bool) (s : Nat) (i : Nat) : Pt9 := p09 u v (goG n fw s i)
theorem goG_m {n : Nat} (fw : Bool) (s : Nat) : ∀ z i, goG n fw s (i + n * z) = goG n fw s i
  | 0, i => rfl
  | z + 1, i => by rw [Nat.mul_succ, ← Nat.add_assoc, goG_p, goG_m fw s z i]
theorem per_3 {f : Nat → Pt9} {n : Nat} (h : ∀ i, f (i + n) = f i) {k k' : Nat} (e : k % n = k' % n) (j : Nat) : f (k + j) = f (k' + j) := by
  rw [← per_m h (k + j), ← per_m h (k' + j), Nat.add_mod, e, ← Nat.add_mod]
theorem q0_per {n : Nat} {x y : Nat → Int32} (i : Nat) : Q0 n x y (i + n) = Q0 n x y i := by
  unfold Q0
  rw [Nat.add_mod_right]
theorem fitC_iff {n : Nat} {x y u v : Nat → Int32} (h : rowR n x y) (h' : rowR n u v) {a b : Int32} {s : Nat} (hs : s < n) (ov : Bool) : fitC n n x y u v a b (hw32 ov) s = true ↔ CC (Q0 n x y) (goP n u v (decide (hnd a * hw32 ov = hnd b)) s) (hwI ov) := by
  have h3 := h.1
  unfold fitC
  rw [decide_eq_true rfl, Bool.true_and]
  generalize decide (hnd a * hw32 ov = hnd b) = fw
  have hP : ∀ i, Q0 n x y (i + n) = Q0 n x y i := q0_per
  have hP' : ∀ i, goP n u v fw s (i + n) = goP n u v fw s i := fun i => by unfold goP; rw [goG_p]
  have hg : ∀ i, goG n fw s i < n := fun i => goG_lt (by omega) fw s i
  -- one corner
  have one : ∀ i, i < n → (corN n n x y u v (hw32 ov) fw s i = false ↔ (d2 (Q0 n x y i) (Q0 n x y (i + 1)) = d2 (goP n u v fw s i) (goP n u v fw s (i + 1)) ∧ tu (Q0 n x y (i + n - 1)) (Q0 n x y (i + n - 1 + 1)) (Q0 n x y (i + n - 1 + 2)) = hwI ov * tu (goP n u v fw s (i + n - 1)) (goP n u v fw s (i + n - 1 + 1)) (goP n u v fw s (i + n - 1 + 2)) ∧ dt (Q0 n x y (i + n - 1)) (Q0 n x y (i + n - 1 + 1)) (Q0 n x y (i + n - 1 + 2)) = dt (goP n u v fw s (i + n - 1)) (goP n u v fw s (i + n - 1 + 1)) (goP n u v fw s (i + n - 1 + 2)))) := fun i hi => by
    have haf : af n i < n := af_lt (by omega)
    have hbf : bf n i < n := bf_lt (by omega)
    have q1 : Q0 n x y i = p09 x y i := by unfold Q0; rw [Nat.mod_eq_of_lt hi]
    have q2 : Q0 n x y (i + 1) = p09 x y (af n i) := by rw [Q0_s h3, Nat.mod_eq_of_lt hi]
    have q3 : Q0 n x y (i + n - 1) = p09 x y (bf n i) := by unfold Q0; rw [mod_b hi]
    have q4 : Q0 n x y (i + n - 1 + 1) = p09 x y i := by rw [show i + n - 1 + 1 = i + n by omega, hP, q1]
    have q5 : Q0 n x y (i + n - 1 + 2) = p09 x y (af n i) := by rw [show i + n - 1 + 2 = i + 1 + n by omega, hP, q2]
    have r4 : goP n u v fw s (i + n - 1 + 1) = p09 u v (goG n fw s i) := by rw [show i + n - 1 + 1 = i + n by omega, hP']; rfl
    have r5 : goP n u v fw s (i + n - 1 + 2) = p09 u v (goG n fw s (i + 1)) := by rw [show i + n - 1 + 2 = i + 1 + n by omega, hP']; rfl
    have g1 : goC fw n s i = goG n fw s i := goC_G (by omega) fw hs i
    have g2 : stp fw n (goG n fw s i) = goG n fw s (i + 1) := (goG_s (by omega) fw s i).1.symm
    have g3 : stp (!fw) n (goG n fw s i) = goG n fw s (i + n - 1) := by
      have := (goG_s (n := n) (by omega) fw s (i + n - 1)).2
      rw [show i + n - 1 + 1 = i + n by omega, goG_p] at this
      exact this.symm
    have r3 : goP n u v fw s (i + n - 1) = p09 u v (goG n fw s (i + n - 1)) := rfl
    have r1 : goP n u v fw s i = p09 u v (goG n fw s i) := rfl
    have r2 : goP n u v fw s (i + 1) = p09 u v (goG n fw s (i + 1)) := rfl
    rw [q1, q2, q3, q4, q5, r1, r2, r3, r4, r5]
    unfold corN
    rw [g1, g2, g3, Bool.not_eq_false']
    unfold corC
    rw [Bool.and_eq_true, Bool.and_eq_true, decide_eq_true_eq, decide_eq_true_eq, decide_eq_true_eq, eq32, eq32, eq32, (sq_i h hi haf).1, (sq_i h' (hg i) (hg (i + 1))).1, tn_i h hbf hi haf, hw_mul ov (tn_i h' (hg (i + n - 1)) (hg i) (hg (i + 1))) (tn_b h' (hg (i + n - 1)) (hg i) (hg (i + 1))).1 (tn_b h' (hg (i + n - 1)) (hg i) (hg (i + 1))).2, adv_i h hbf hi haf, adv_i h' (hg (i + n - 1)) (hg i) (hg (i + 1))]
    exact ⟨fun q => ⟨q.1.1, q.1.2, q.2⟩, fun q => ⟨⟨q.1, q.2.1⟩, q.2.2⟩⟩
  have hnone : ((fndN (corN n n x y u v (hw32 ov) fw s) 0 n).isNone = true) ↔ ∀ i, i < n → corN n n x y u v (hw32 ov) fw s i = false := by
    constructor
    · intro q i hi
      have q' : fndN (corN n n x y u v (hw32 ov) fw s) 0 n = none := by
        cases hf : fndN (corN n n x y u v (hw32 ov) fw s) 0 n with
        | none => rfl
        | some w => rw [hf] at q; cases q
      exact fndN_all q' (Nat.zero_le _) hi
    · intro q
      rw [fndN_nn (fun k _ hk => q k hk)]
      rfl
  rw [hnone]
  constructor
  · intro q k
    have k1 := Nat.mod_lt k (show 0 < n by omega)
    have k2 := Nat.mod_lt (k + 1) (show 0 < n by omega)
    have a1 := ((one (k % n) k1).mp (q _ k1)).1
    have a2 := ((one ((k + 1) % n) k2).mp (q _ k2)).2
    have m1 : k % n = (k % n) % n := (Nat.mod_mod _ _).symm
    have m2 : k % n = ((k + 1) % n + n - 1) % n := by
      refine mod_can (r := 1) (by omega) ?_
      rw [show (k + 1) % n + n - 1 + 1 = (k + 1) % n + n by omega, Nat.add_mod_right, Nat.mod_mod]
    have p09' := per_3 hP m1
    have p1' := per_3 hP' m1
    have p2' := per_3 hP m2
    have p3' := per_3 hP' m2
    have z0 : ∀ f : Nat → Pt9, ∀ k, f k = f (k + 0) := fun f k => rfl
    refine ⟨?_, ?_, ?_⟩
    · rw [z0 (Q0 n x y) k, z0 (goP n u v fw s) k, p09' 0, p09' 1, p1' 0, p1' 1]; exact a1
    · rw [z0 (Q0 n x y) k, z0 (goP n u v fw s) k, p2' 0, p2' 1, p2' 2, p3' 0, p3' 1, p3' 2]; exact a2.1
    · rw [z0 (Q0 n x y) k, z0 (goP n u v fw s) k, p2' 0, p2' 1, p2' 2, p3' 0, p3' 1, p3' 2]; exact a2.2
  · intro q i hi
    exact (one i hi).mpr ⟨(q i).1, (q (i + n - 1)).2⟩
theorem d2_3 (a b c : Pt9) : d2 a c = d2 a b + 2 * dt a b c + d2 b c := by unfold d2 dt; grind
theorem fitR_iff {n : Nat} {x y u v : Nat → Int32} (h : rowR n x y) (h' : rowR n u v) {s : Nat} (fw ov : Bool) : fitR n x y u v fw ov s = true ↔ CC (Q0 n x y) (goP n u v fw s) (hwI ov) := by
  have h3 := h.1
  have hP : ∀ i, Q0 n x y (i + n) = Q0 n x y i := q0_per
  have hP' : ∀ i, goP n u v fw s (i + n) = goP n u v fw s i := fun i => by unfold goP; rw [goG_p]
  have hg : ∀ i, goG n fw s i < n := fun i => goG_lt (by omega) fw s i
  have hh := (hw_i ov).2.1
  have one : ∀ i, i < n → (corRN n x y u v fw ov s i = false ↔ ((d2 (goP n u v fw s i) (goP n u v fw s (i + 1)) = d2 (Q0 n x y i) (Q0 n x y (i + 1)) ∧ d2 (goP n u v fw s i) (goP n u v fw s (i + 2)) = d2 (Q0 n x y i) (Q0 n x y (i + 2))) ∧ tu (goP n u v fw s i) (goP n u v fw s (i + 1)) (goP n u v fw s (i + 2)) = hwI ov * tu (Q0 n x y i) (Q0 n x y (i + 1)) (Q0 n x y (i + 2)))) := fun i hi => by
    have haf : af n i < n := af_lt (by omega)
    have haf2 : af n (af n i) < n := af_lt (by omega)
    have q1 : Q0 n x y i = p09 x y i := by unfold Q0; rw [Nat.mod_eq_of_lt hi]
    have q2 : Q0 n x y (i + 1) = p09 x y (af n i) := by rw [Q0_s h3, Nat.mod_eq_of_lt hi]
    have q3 : Q0 n x y (i + 2) = p09 x y (af n (af n i)) := by unfold Q0; rw [mod_ss hi (by omega)]
    rw [q1, q2, q3]
    unfold goP corRN
    rw [goR_G (by omega) fw (by omega), goR_G (by omega) fw (by omega), goR_G (by omega) fw (by omega), Bool.not_eq_false']
    have tv : (if ov = true then 0 - tn x y i (af n i) (af n (af n i)) else tn x y i (af n i) (af n (af n i))).toInt = hwI ov * tu (p09 x y i) (p09 x y (af n i)) (p09 x y (af n (af n i))) := by
      have t1 := tn_i h hi haf haf2
      obtain ⟨t2, t3⟩ := tn_b h hi haf haf2
      cases ov
      · rw [if_neg (by decide), t1]; show _ = 1 * _; omega
      · rw [if_pos rfl, s32 z32 t1 (by omega) (by omega)]; show _ = -1 * _; omega
    unfold corR
    rw [Bool.and_eq_true, Bool.and_eq_true, decide_eq_true_eq, decide_eq_true_eq, decide_eq_true_eq, eq32, eq32, eq32, (sq_i h' (hg i) (hg (i + 1))).1, (sq_i h hi haf).1, (sq_i h' (hg i) (hg (i + 2))).1, (sq_i h hi haf2).1, tn_i h' (hg i) (hg (i + 1)) (hg (i + 2)), tv]
    exact Iff.rfl
  have hnone : fitR n x y u v fw ov s = true ↔ ∀ i, i < n → corRN n x y u v fw ov s i = false := by
    unfold fitR
    constructor
    · intro q i hi
      have q' : fndN (corRN n x y u v fw ov s) 0 n = none := by
        cases hf : fndN (corRN n x y u v fw ov s) 0 n with
        | none => rfl
        | some w => rw [hf] at q; cases q
      exact fndN_all q' (Nat.zero_le _) hi
    · intro q
      rw [fndN_nn (fun k _ hk => q k hk)]
      rfl
  rw [hnone]
  constructor
  · intro q
    have all : ∀ k, (d2 (goP n u v fw s k) (goP n u v fw s (k + 1)) = d2 (Q0 n x y k) (Q0 n x y (k + 1)) ∧ d2 (goP n u v fw s k) (goP n u v fw s (k + 2)) = d2 (Q0 n x y k) (Q0 n x y (k + 2))) ∧ tu (goP n u v fw s k) (goP n u v fw s (k + 1)) (goP n u v fw s (k + 2)) = hwI ov * tu (Q0 n x y k) (Q0 n x y (k + 1)) (Q0 n x y (k + 2)) := fun k => by
      have k1 := Nat.mod_lt k (show 0 < n by omega)
      have a1 := (one (k % n) k1).mp (q _ k1)
      have m1 : k % n = (k % n) % n := (Nat.mod_mod _ _).symm
      have p09' := per_3 hP m1
      have p1' := per_3 hP' m1
      have z0 : ∀ f : Nat → Pt9, ∀ k, f k = f (k + 0) := fun f k => rfl
      rw [z0 (Q0 n x y) k, z0 (goP n u v fw s) k, p09' 0, p09' 1, p09' 2, p1' 0, p1' 1, p1' 2]
      exact a1
    intro k
    obtain ⟨⟨b1, b2⟩, b3⟩ := all k
    obtain ⟨⟨c1, -⟩, -⟩ := all (k + 1)
    refine ⟨b1.symm, ?_, ?_⟩
    · rw [b3, ← Int.mul_assoc, hh, Int.one_mul]
    · rw [d2_3 _ (goP n u v fw s (k + 1)), d2_3 (Q0 n x y k) (Q0 n x y (k + 1))] at b2
      have c1 : d2 (goP n u v fw s (k + 1)) (goP n u v fw s (k + 2)) = d2 (Q0 n x y (k + 1)) (Q0 n x y (k + 2)) := c1
      omega
  · intro q i hi
    refine (one i hi).mpr ⟨⟨(q i).1.symm, ?_⟩, ?_⟩
    · rw [d2_3 _ (goP n u v fw s (i + 1)), d2_3 (Q0 n x y i) (Q0 n x y (i + 1))]
      have c1 : d2 (Q0 n x y (i + 1)) (Q0 n x y (i + 2)) = d2 (goP n u v fw s (i + 1)) (goP n u v fw s (i + 2)) := (q (i + 1)).1
      have := (q i).1
      have := (q i).2.2
      omega
    · rw [(q i).2.1, ← Int.mul_assoc, hh, Int.one_mul]
theorem ar_Q {n : Nat} {x y : Nat → Int32} (h : rowR n x y) : arS (Q0 n x y) n = arZ n x y := by
  have h3 := h.1
  have h14 := h.2.1
  have k := sumN_i (f := crs9 n x y) (g := fun i => crp (p09 x y i) (p09 x y (af n i))) (B := 2000000) (by decide) n (fun i hi => crs_i h hi) (by omega)
  rw [area_eq h, (fan_i h).1] at k
  rw [k.1]
  unfold arS
  exact sumZ_c n (fun i hi => by rw [Q0_s h3, Nat.mod_eq_of_lt hi]; unfold Q0; rw [Nat.mod_eq_of_lt hi])
theorem ar_go {n : Nat} {u v : Nat → Int32} (h : rowR n u v) (fw : Bool) (s : Nat) : arS (goP n u v fw s) n = (if fw then 1 else -1) * arZ n u v := by
  have h3 := h.1
  have hF : ∀ k, crp (Q0 n u v (k + n)) (Q0 n u v (k + n + 1)) = crp (Q0 n u v k) (Q0 n u v (k + 1)) := fun k => by rw [q0_per, show k + n + 1 = k + 1 + n by omega, q0_per]
  have hp := sumZ_per (F := fun k => crp (Q0 n u v k) (Q0 n u v (k + 1))) (n := n) hF s
  rw [← ar_Q h]
  unfold arS
  cases fw
  · show _ = -1 * sumZ _ n
    have hr := sumZ_rev (F := fun k => crp (Q0 n u v (s + k)) (Q0 n u v (s + k + 1))) n
    rw [← hp, ← hr]
    refine sumZ_mul n (fun i hi => ?_)
    show crp (p09 u v ((s + (n - 1) * i) % n)) (p09 u v ((s + (n - 1) * (i + 1)) % n)) = -1 * crp (p09 u v ((s + (n - 1 - i)) % n)) (p09 u v ((s + (n - 1 - i) + 1) % n))
    have e0 : ∀ j, s + (n - 1) * j + j = s + n * j := fun j => by
      obtain ⟨m, rfl⟩ : ∃ m, n = m + 1 := ⟨n - 1, by omega⟩
      rw [show m + 1 - 1 = m by omega, Nat.succ_mul]
      omega
    have e1 : (s + (n - 1) * (i + 1)) % n = (s + (n - 1 - i)) % n := by
      refine mod_can (r := i + 1) (by omega) ?_
      rw [e0, show s + (n - 1 - i) + (i + 1) = s + n by omega, Nat.add_mul_mod_self_left, Nat.add_mod_right]
    have e2 : (s + (n - 1) * i) % n = (s + (n - 1 - i) + 1) % n := by
      refine mod_can (r := i) (by omega) ?_
      rw [e0, show s + (n - 1 - i) + 1 + i = s + n by omega, Nat.add_mul_mod_self_left, Nat.add_mod_right]
    rw [e1, e2]
    unfold crp
    grind
  · show _ = 1 * sumZ _ n
    rw [Int.one_mul, ← hp]
    rfl
theorem d2_pos {a b : Pt9} (h : a ≠ b) : 0 < d2 a b := sq_pos (fun q => h (Prod.ext (by omega) (by omega)))
/-- class and reference: the same starts fit -/
theorem fit_eq {n m : Nat} {x y u v : Nat → Int32} (h : rowR n x y) (hf : noF n x y) (hm : noM n x y) (h' : rowR m u v) (hf' : noF m u v) (hm' : noM m u v) {s : Nat} (hs : s < m) (ov : Bool) : fitC n m x y u v (fan n x y) (fan m u v) (hw32 ov) s = ftP n m x y u v ov s := by
  by_cases hnm : n = m
  · subst hnm
    have h3 := h.1
    have e1 := fitC_iff h h' (a := fan n x y) (b := fan n u v) hs ov
    have e2 := fun fw => fitR_iff h h' (s := s) fw ov
    have hd : ∀ fw, CC (Q0 n x y) (goP n u v fw s) (hwI ov) → fw = decide (hnd (fan n x y) * hw32 ov = hnd (fan n u v)) := fun fw hc => by
      have hp : ∀ i, 0 < d2 (Q0 n x y i) (Q0 n x y (i + 1)) := fun i => by
        rw [Q0_s h3]
        exact d2_pos (edge_ne h hf (Nat.mod_lt _ (by omega)))
      have z0 : Q0 n x y n = Q0 n x y 0 := by have := q0_per (n := n) (x := x) (y := y) 0; rw [Nat.zero_add] at this; exact this
      have z1 : goP n u v fw s n = goP n u v fw s 0 := by
        unfold goP
        have := goG_p (n := n) fw s 0
        rw [Nat.zero_add] at this
        rw [this]
      have ha := cc_area (n := n) (by omega) (hw_i ov).2.1 hc hp z0 z1
      rw [ar_Q h, ar_go h' fw s] at ha
      have n1 := ar_ne h hf hm
      have n2 := ar_ne h' hf' hm'
      have f1 := (fan_i h).1
      have f2 := (fan_i h').1
      have hn : ∀ (w : Int32) (z : Int), w.toInt = z → z ≠ 0 → (0 < z ∧ hnd w = 1) ∨ (z < 0 ∧ hnd w = -1) := fun w z hw hz => by
        unfold hnd
        by_cases q : 0 < w
        · have := lt32.mp q
          rw [z32, hw] at this
          exact Or.inl ⟨this, if_pos q⟩
        · have : ¬ (0 : Int32).toInt < w.toInt := fun r => q (lt32.mpr r)
          rw [z32, hw] at this
          exact Or.inr ⟨by omega, if_neg q⟩
      have k1 := hn _ _ f1 n1
      have k2 := hn _ _ f2 n2
      cases ov <;> cases fw
      · have ha : arZ n x y = 1 * (-1 * arZ n u v) := ha
        rcases k1 with ⟨a1, a2⟩ | ⟨a1, a2⟩ <;> rcases k2 with ⟨b1, b2⟩ | ⟨b1, b2⟩
        · omega
        · rw [a2, b2]; decide
        · rw [a2, b2]; decide
        · omega
      · have ha : arZ n x y = 1 * (1 * arZ n u v) := ha
        rcases k1 with ⟨a1, a2⟩ | ⟨a1, a2⟩ <;> rcases k2 with ⟨b1, b2⟩ | ⟨b1, b2⟩
        · rw [a2, b2]; decide
        · omega
        · omega
        · rw [a2, b2]; decide
      · have ha : arZ n x y = -1 * (-1 * arZ n u v) := ha
        rcases k1 with ⟨a1, a2⟩ | ⟨a1, a2⟩ <;> rcases k2 with ⟨b1, b2⟩ | ⟨b1, b2⟩
        · rw [a2, b2]; decide
        · omega
        · omega
        · rw [a2, b2]; decide
      · have ha : arZ n x y = -1 * (1 * arZ n u v) := ha
        rcases k1 with ⟨a1, a2⟩ | ⟨a1, a2⟩ <;> rcases k2 with ⟨b1, b2⟩ | ⟨b1, b2⟩
        · omega
        · rw [a2, b2]; decide
        · rw [a2, b2]; decide
        · omega
    rw [Bool.eq_iff_iff, e1]
    unfold ftP fitB
    rw [decide_eq_true rfl, Bool.true_and, Bool.or_eq_true, e2, e2]
    constructor
    · intro q
      cases hfw : decide (hnd (fan n x y) * hw32 ov = hnd (fan n u v)) with
      | true => rw [hfw] at q; exact Or.inl q
      | false => rw [hfw] at q; exact Or.inr q
    · rintro (q | q)
      · rw [← hd true q]; exact q
      · rw [← hd false q]; exact q
  · unfold fitC ftP
    rw [decide_eq_false hnm, Bool.false_and, Bool.false_and]
