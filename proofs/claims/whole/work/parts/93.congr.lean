/-! what corners tell, one by one, tells the whole -/
def d2 (a b : Pt9) : Int := (b.1 - a.1) * (b.1 - a.1) + (b.2 - a.2) * (b.2 - a.2)
def dt (a b c : Pt9) : Int := (b.1 - a.1) * (c.1 - b.1) + (b.2 - a.2) * (c.2 - b.2)
/-- cross and dot of edges i and j -/
def ecr (P : Nat → Pt9) (i j : Nat) : Int := ((P (i + 1)).1 - (P i).1) * ((P (j + 1)).2 - (P j).2) - ((P (i + 1)).2 - (P i).2) * ((P (j + 1)).1 - (P j).1)
def edo (P : Nat → Pt9) (i j : Nat) : Int := ((P (i + 1)).1 - (P i).1) * ((P (j + 1)).1 - (P j).1) + ((P (i + 1)).2 - (P i).2) * ((P (j + 1)).2 - (P j).2)
def CC (P P' : Nat → Pt9) (h : Int) : Prop := ∀ i, d2 (P i) (P (i + 1)) = d2 (P' i) (P' (i + 1)) ∧ tu (P i) (P (i + 1)) (P (i + 2)) = h * tu (P' i) (P' (i + 1)) (P' (i + 2)) ∧ dt (P i) (P (i + 1)) (P (i + 2)) = dt (P' i) (P' (i + 1)) (P' (i + 2))
theorem ecr_s (P : Nat → Pt9) (i : Nat) : ecr P i (i + 1) = tu (P i) (P (i + 1)) (P (i + 2)) ∧ edo P i (i + 1) = dt (P i) (P (i + 1)) (P (i + 2)) ∧ edo P i i = d2 (P i) (P (i + 1)) ∧ ecr P i i = 0 := by
  unfold ecr edo tu dt d2
  refine ⟨by grind, by grind, by grind, by grind⟩
theorem ecr_k (P : Nat → Pt9) (i k l : Nat) : edo P k k * ecr P i l = ecr P i k * edo P k l + edo P i k * ecr P k l ∧ edo P k k * edo P i l = edo P i k * edo P k l - ecr P i k * ecr P k l := by
  unfold ecr edo
  constructor <;> grind
theorem cc_all {P P' : Nat → Pt9} {h : Int} (hh : h * h = 1) (hc : CC P P' h) (hp : ∀ i, 0 < d2 (P i) (P (i + 1))) (i : Nat) : ∀ k, ecr P i (i + k) = h * ecr P' i (i + k) ∧ edo P i (i + k) = edo P' i (i + k)
  | 0 => by
    obtain ⟨-, -, a3, a4⟩ := ecr_s P i
    obtain ⟨-, -, b3, b4⟩ := ecr_s P' i
    rw [Nat.add_zero, a3, a4, b3, b4, (hc i).1]
    exact ⟨by rw [Int.mul_zero], rfl⟩
  | k + 1 => by
    obtain ⟨i1, i2⟩ := cc_all hh hc hp i k
    obtain ⟨e1, e2⟩ := ecr_k P i (i + k) (i + k + 1)
    obtain ⟨f1, f2⟩ := ecr_k P' i (i + k) (i + k + 1)
    obtain ⟨a1, a2, a3, -⟩ := ecr_s P (i + k)
    obtain ⟨b1, b2, b3, -⟩ := ecr_s P' (i + k)
    obtain ⟨c1, c2, c3⟩ := hc (i + k)
    have hpos := hp (i + k)
    rw [a1, a2, a3] at e1 e2
    rw [b1, b2, b3] at f1 f2
    rw [← Nat.add_assoc]
    constructor
    · refine mul_cancel hpos ?_
      rw [e1, i1, i2, c2, c3]
      have : d2 (P (i + k)) (P (i + k + 1)) * (h * ecr P' i (i + k + 1)) = h * (d2 (P' (i + k)) (P' (i + k + 1)) * ecr P' i (i + k + 1)) := by rw [c1]; grind
      rw [this, f1]
      grind
    · refine mul_cancel hpos ?_
      rw [e2, i1, i2, c2, c3, c1, f2]
      grind
/-- twice the signed area, all around -/
def arS (P : Nat → Pt9) (n : Nat) : Int := sumZ (fun i => crp (P i) (P (i + 1))) n
theorem sumZ_mul {h : Int} {g g' : Nat → Int} : ∀ m, (∀ t, t < m → g t = h * g' t) → sumZ g m = h * sumZ g' m
  | 0, _ => by rw [sumZ, sumZ, Int.mul_zero]
  | m + 1, e => by rw [sumZ, sumZ, sumZ_mul m (fun t ht => e t (by omega)), e m (by omega), Int.mul_add]
theorem cc_area {P P' : Nat → Pt9} {n : Nat} {h : Int} (hn : 1 ≤ n) (hh : h * h = 1) (hc : CC P P' h) (hp : ∀ i, 0 < d2 (P i) (P (i + 1))) (hP : P n = P 0) (hP' : P' n = P' 0) : arS P n = h * arS P' n := by
  have arm : ∀ m l, m ≤ l → ((P m).1 - (P 0).1) * ((P (l + 1)).2 - (P l).2) - ((P m).2 - (P 0).2) * ((P (l + 1)).1 - (P l).1) = h * (((P' m).1 - (P' 0).1) * ((P' (l + 1)).2 - (P' l).2) - ((P' m).2 - (P' 0).2) * ((P' (l + 1)).1 - (P' l).1)) := by
    intro m
    induction m with
    | zero => intro l _; grind
    | succ m ih =>
      intro l hl
      have i1 := ih l (by omega)
      have i2 := (cc_all hh hc hp m (l - m)).1
      rw [show m + (l - m) = l by omega] at i2
      unfold ecr at i2
      grind
  obtain ⟨k, rfl⟩ : ∃ k, n = k + 1 := ⟨n - 1, by omega⟩
  unfold arS
  rw [fan_sar P k, fan_sar P' k, hP, hP']
  have z : ∀ p : Pt9, crp p p = 0 := fun p => by unfold crp; grind
  rw [z, z, Int.add_zero, Int.add_zero]
  refine sumZ_mul k (fun j _ => ?_)
  have := arm (j + 1) (j + 1) (Nat.le_refl _)
  unfold tu
  grind
theorem sumZ_per {F : Nat → Int} {n : Nat} (h : ∀ k, F (k + n) = F k) : ∀ r, sumZ (fun k => F (r + k)) n = sumZ F n
  | 0 => sumZ_c n (fun t _ => by rw [Nat.zero_add])
  | r + 1 => by
    rw [← sumZ_per h r]
    have e1 := sumZ_a (g := fun k => F (r + k)) 1 n
    have e2 : sumZ (fun k => F (r + k)) (1 + n) = sumZ (fun k => F (r + k)) n + F (r + n) := by rw [Nat.add_comm]; rfl
    have e3 : sumZ (fun k => F (r + k)) 1 = F (r + 0) := by rw [sumZ, sumZ, Int.zero_add]
    have e4 : sumZ (fun t => F (r + (1 + t))) n = sumZ (fun k => F (r + 1 + k)) n := sumZ_c n (fun t _ => by rw [show r + (1 + t) = r + 1 + t by omega])
    have e5 : F (r + n) = F (r + 0) := h r
    omega
/-- backwards -/
theorem sumZ_rev {F : Nat → Int} : ∀ n, sumZ (fun k => F (n - 1 - k)) n = sumZ F n
  | 0 => rfl
  | n + 1 => by
    have e := sumZ_a (g := fun k => F (n + 1 - 1 - k)) 1 n
    rw [show 1 + n = n + 1 by omega] at e
    have e2 : sumZ (fun t => F (n + 1 - 1 - (1 + t))) n = sumZ F n := (sumZ_c n (fun t ht => show F (n + 1 - 1 - (1 + t)) = F (n - 1 - t) by rw [show n + 1 - 1 - (1 + t) = n - 1 - t by omega])).trans (sumZ_rev n)
    have e3 : sumZ (fun k => F (n + 1 - 1 - k)) 1 = F n := by
      rw [sumZ, sumZ, Int.zero_add]
      show F (n + 1 - 1 - 0) = F n
      rw [show n + 1 - 1 - 0 = n by omega]
    rw [e, e2, e3, sumZ]
    omega
/-- around from s, forwards or backwards -/
def goG (n : Nat) (fw : Bool) (s i : Nat) : Nat := if fw then (s + i) % n else (s + (n - 1) * i) % n
theorem goG_lt {n : Nat} (hn : 0 < n) (fw : Bool) (s i : Nat) : goG n fw s i < n := by
  unfold goG
  split
  · exact Nat.mod_lt _ hn
  · exact Nat.mod_lt _ hn
theorem goG_s {n : Nat} (hn : 2 ≤ n) (fw : Bool) (s i : Nat) : goG n fw s (i + 1) = stp fw n (goG n fw s i) ∧ goG n fw s i = stp (!fw) n (goG n fw s (i + 1)) := by
  have hl : ∀ z, z % n < n := fun z => Nat.mod_lt _ (by omega)
  unfold stp
  cases fw
  · have e : goG n false s (i + 1) = bf n (goG n false s i) := by
      show (s + (n - 1) * (i + 1)) % n = bf n ((s + (n - 1) * i) % n)
      rw [← mod_b (hl _), Nat.mul_succ, show (s + (n - 1) * i) % n + n - 1 = (s + (n - 1) * i) % n + (n - 1) by omega, Nat.mod_add_mod, Nat.add_assoc]
    refine ⟨e, ?_⟩
    show _ = af n _
    rw [e]
    exact ((bf_af (goG_lt (by omega) _ _ _) hn).1).symm
  · have e : goG n true s (i + 1) = af n (goG n true s i) := by
      show (s + (i + 1)) % n = af n ((s + i) % n)
      rw [af_add (by omega)]
    refine ⟨e, ?_⟩
    show _ = bf n _
    rw [e]
    exact ((bf_af (goG_lt (by omega) _ _ _) hn).2).symm
theorem goG_p {n : Nat} (fw : Bool) (s i : Nat) : goG n fw s (i + n) = goG n fw s i := by
  unfold goG
  cases fw
  · show (s + (n - 1) * (i + n)) % n = (s + (n - 1) * i) % n
    rw [Nat.mul_add, ← Nat.add_assoc, Nat.mul_comm (n - 1) n, Nat.add_mul_mod_self_left]
  · show (s + (i + n)) % n = (s + i) % n
    rw [← Nat.add_assoc, Nat.add_mod_right]
theorem goC_G {n : Nat} (hn : 2 ≤ n) (fw : Bool) {s : Nat} (hs : s < n) : ∀ i, goC fw n s i = goG n fw s i
  | 0 => by
    show s = goG n fw s 0
    unfold goG
    cases fw
    · show s = (s + (n - 1) * 0) % n
      rw [Nat.mul_zero, Nat.add_zero, Nat.mod_eq_of_lt hs]
    · show s = (s + 0) % n
      rw [Nat.add_zero, Nat.mod_eq_of_lt hs]
  | i + 1 => by
    rw [(goG_s hn fw s i).1, ← goC_G hn fw hs i]
    rfl
theorem goR_G {n : Nat} (hn : 2 ≤ n) (fw : Bool) {s i : Nat} (hi : i ≤ 2 * n) : goR fw n s i = goG n fw s i := by
  unfold goR goG
  cases fw
  · show (s + 2 * n - i) % n = (s + (n - 1) * i) % n
    refine mod_can (r := i) (by omega) ?_
    have e : s + (n - 1) * i + i = s + n * i := by
      obtain ⟨m, rfl⟩ : ∃ m, n = m + 1 := ⟨n - 1, by omega⟩
      rw [show m + 1 - 1 = m by omega, Nat.succ_mul]
      omega
    rw [show s + 2 * n - i + i = s + n * 2 by omega, e, Nat.add_mul_mod_self_left, Nat.add_mul_mod_self_left]
  · rfl
