def h0 : Pt9 := (1, 0)
theorem h0_ne : ¬ (h0.1 = 0 ∧ h0.2 = 0) := fun q => absurd q.1 (by decide)
/-- the polygon of the corners from i to j -/
def Hp (P : Nat → Pt9) (i j : Nat) : Nat → Pt9 := fun k => if k = j - i + 1 then P i else P (i + k)
def hh (P : Nat → Pt9) (i j : Nat) (y : Pt9) : Bool := par y h0 (Hp P i j) (j - i + 1)
theorem hp_u {P : Nat → Pt9} {i j : Nat} (hij : i < j) (y d : Pt9) : par y d (Hp P i j) (j - i + 1) = (xs9 (fun k => crd y d (P (i + k)) (P (i + k + 1))) (j - i) ^^ crd y d (P j) (P i)) := by
  unfold par
  rw [xs9]
  congr 1
  · apply xs_c
    intro t ht
    unfold Hp
    rw [if_neg (by omega), if_neg (by omega)]
    rfl
  · unfold Hp
    rw [if_neg (by omega), if_pos rfl, show i + (j - i) = j by omega]
theorem hp_c {P : Nat → Pt9} {i j : Nat} (hij : i < j) : Hp P i j (j - i + 1) = Hp P i j 0 := by
  unfold Hp
  rw [if_pos rfl, if_neg (by omega)]
  rfl
theorem hp_e {P : Nat → Pt9} {i j k : Nat} (hij : i < j) (hk : k < j - i + 1) : (∃ e, i ≤ e ∧ e < j ∧ Hp P i j k = P e ∧ Hp P i j (k + 1) = P (e + 1)) ∨ (Hp P i j k = P j ∧ Hp P i j (k + 1) = P i) := by
  rcases Nat.lt_or_ge k (j - i) with q | q
  · refine Or.inl ⟨i + k, by omega, by omega, ?_, ?_⟩
    · unfold Hp; rw [if_neg (by omega)]
    · unfold Hp; rw [if_neg (by omega)]; rfl
  · obtain rfl : k = j - i := by omega
    refine Or.inr ⟨?_, ?_⟩
    · unfold Hp; rw [if_neg (by omega), show i + (j - i) = j by omega]
    · unfold Hp; rw [if_pos rfl]
theorem hp_v {P : Nat → Pt9} {i j k : Nat} (hij : i < j) (hk : k ≤ j - i + 1) : ∃ e, i ≤ e ∧ e ≤ j ∧ Hp P i j k = P e := by
  unfold Hp
  by_cases q : k = j - i + 1
  · exact ⟨i, by omega, by omega, by rw [if_pos q]⟩
  · exact ⟨i + k, by omega, by omega, by rw [if_neg q]⟩
theorem hh_K {P : Nat → Pt9} {i j : Nat} {x1 x2 : Pt9} (hij : i < j) (hX : ∀ e, i ≤ e → e < j → ¬ PX x1 x2 (P e) (P (e + 1))) (hXc : ¬ PX x1 x2 (P i) (P j)) (h1 : ∀ e, i ≤ e → e ≤ j → ¬ onS (P e) x1 x2) (h3 : ∀ e, i ≤ e → e < j → ¬ onS x1 (P e) (P (e + 1))) (h3c : ¬ onS x1 (P i) (P j)) (h4 : ∀ e, i ≤ e → e < j → ¬ onS x2 (P e) (P (e + 1))) (h4c : ¬ onS x2 (P i) (P j)) : hh P i j x1 = hh P i j x2 := by
  refine par_K h0_ne (hp_c hij) (fun t ht => ?_) (fun t ht => ?_) (fun t ht => ?_) (fun t ht => ?_)
  · rcases hp_e hij ht with ⟨e, a1, a2, a3, a4⟩ | ⟨a3, a4⟩
    · rw [a3, a4]; exact hX e a1 a2
    · rw [a3, a4]; exact fun q => hXc (PX_r q)
  · obtain ⟨e, a1, a2, a3⟩ := hp_v (P := P) hij ht
    rw [a3]; exact h1 e a1 a2
  · rcases hp_e hij ht with ⟨e, a1, a2, a3, a4⟩ | ⟨a3, a4⟩
    · rw [a3, a4]; exact h3 e a1 a2
    · rw [a3, a4]; exact fun q => h3c (onS_c q)
  · rcases hp_e hij ht with ⟨e, a1, a2, a3, a4⟩ | ⟨a3, a4⟩
    · rw [a3, a4]; exact h4 e a1 a2
    · rw [a3, a4]; exact fun q => h4c (onS_c q)
theorem hh_X {P : Nat → Pt9} {i j : Nat} {x1 x2 : Pt9} (hij : i < j) (hX : ∀ e, i ≤ e → e < j → ¬ PX x1 x2 (P e) (P (e + 1))) (hXc : PX x1 x2 (P i) (P j)) (h1 : ∀ e, i ≤ e → e ≤ j → ¬ onS (P e) x1 x2) (h3 : ∀ e, i ≤ e → e < j → ¬ onS x1 (P e) (P (e + 1))) (h3c : ¬ onS x1 (P i) (P j)) (h4 : ∀ e, i ≤ e → e < j → ¬ onS x2 (P e) (P (e + 1))) (h4c : ¬ onS x2 (P i) (P j)) : hh P i j x1 = !hh P i j x2 := by
  have hne : x1 ≠ x2 := fun q => by
    have := hXc.1
    rw [q, tu_self3, Int.zero_mul] at this
    omega
  have g3 : ∀ t, t < j - i + 1 → ¬ onS x1 (Hp P i j t) (Hp P i j (t + 1)) := fun t ht => by
    rcases hp_e hij ht with ⟨e, a1, a2, a3, a4⟩ | ⟨a3, a4⟩
    · rw [a3, a4]; exact h3 e a1 a2
    · rw [a3, a4]; exact fun q => h3c (onS_c q)
  have g4 : ∀ t, t < j - i + 1 → ¬ onS x2 (Hp P i j t) (Hp P i j (t + 1)) := fun t ht => by
    rcases hp_e hij ht with ⟨e, a1, a2, a3, a4⟩ | ⟨a3, a4⟩
    · rw [a3, a4]; exact h4 e a1 a2
    · rw [a3, a4]; exact fun q => h4c (onS_c q)
  unfold hh
  rw [par_d h0_ne (vec_ne hne) (hp_c hij) g3, par_d (x := x2) h0_ne (vec_ne hne) (hp_c hij) g4, hp_u hij, hp_u hij, crd_X (PX_r hXc)]
  have e9 : xs9 (fun k => crd x1 (vec x1 x2) (P (i + k)) (P (i + k + 1))) (j - i) = xs9 (fun k => crd x2 (vec x1 x2) (P (i + k)) (P (i + k + 1))) (j - i) := xs_c _ (fun k hk => crd_K (hX (i + k) (by omega) (by omega)) (h1 (i + k) (by omega) (by omega)) (h1 (i + k + 1) (by omega) (by omega)) (h3 (i + k) (by omega) (by omega)) (h4 (i + k) (by omega) (by omega)))
  rw [e9]
  cases xs9 (fun k => crd x2 (vec x1 x2) (P (i + k)) (P (i + k + 1))) (j - i) <;> cases crd x2 (vec x1 x2) (P j) (P i) <;> rfl
def mid (P0 : Nat → Pt9) (i j : Nat) : Pt9 := ((P0 i).1 + (P0 j).1, (P0 i).2 + (P0 j).2)
def okc (P P0 : Nat → Pt9) (n i j : Nat) : Prop := j = i + 1 ∨ (gd P (P i) (P j) ∧ par (mid P0 i j) h0 P n = true)
def Inv (P P0 : Nat → Pt9) (n : Nat) (a : Nat → Nat) (m : Nat) : Prop := Sub n a m ∧ (∀ t, okc P P0 n (a t) (a (t + 1))) ∧ (∀ x, (∀ t, P x ≠ P (a t)) → par (P x) h0 (fun t => P (a t)) m = false) ∧ ∀ t s, P (a s) ≠ P (a t) → P (a s) ≠ P (a (t + 1)) → hh P (a t) (a (t + 1)) (P (a s)) = false
theorem gd_sym {P : Nat → Pt9} {A B : Pt9} (h : gd P A B) : gd P B A := ⟨fun c hc => (h.1 c (onS_c hc)).symm, fun e he => h.2 e (PX_l he)⟩
theorem inv_gd {P P0 : Nat → Pt9} {n m : Nat} {f : Pt9} {a : Nat → Nat} (E : Env9 P n f) (I : Inv P P0 n a m) (t : Nat) : gd P (P (a t)) (P (a (t + 1))) := by
  rcases I.2.1 t with q | q
  · rw [q]; exact E.2.2.2 _
  · exact q.1
theorem chn {P P0 : Nat → Pt9} {n m : Nat} {f : Pt9} {a : Nat → Nat} (E : Env9 P n f) (h : Sub n a m) {t e s : Nat} (h1 : a t ≤ e) (h2 : e ≤ a (t + 1)) (he : P e = P (a s)) : P (a s) = P (a t) ∨ P (a s) = P (a (t + 1)) := by
  rcases Nat.lt_or_ge (a t) e with q | q
  · rcases Nat.lt_or_ge e (a (t + 1)) with r | r
    · exact absurd he (CH E h q r s)
    · rw [show e = a (t + 1) by omega] at he; exact Or.inr he.symm
  · rw [show e = a t by omega] at he; exact Or.inl he.symm
/-- a good chord between corners of the part crosses no edge of it -/
theorem Cr {P P0 : Nat → Pt9} {n m : Nat} {f : Pt9} {a : Nat → Nat} (E : Env9 P n f) (I : Inv P P0 n a m) {s s' : Nat} (hg : gd P (P (a s)) (P (a s'))) (t : Nat) : ¬ PX (P (a s)) (P (a s')) (P (a t)) (P (a (t + 1))) := fun hX => by
  obtain ⟨n1, n2, n3, n4⟩ := PX_ne hX
  have j1 := I.2.2.2 t s n1 n2
  have j2 := I.2.2.2 t s' n3 n4
  have hS := I.1
  have g := inv_gd E I t
  have no : ∀ s, P (a s) ≠ P (a t) → P (a s) ≠ P (a (t + 1)) → ∀ e, a t ≤ e → e ≤ a (t + 1) → P e ≠ P (a s) := fun s m1 m2 e h1 h2 he => (chn (P0 := P0) E hS h1 h2 he).elim m1 m2
  have noe : ∀ s, P (a s) ≠ P (a t) → P (a s) ≠ P (a (t + 1)) → ∀ e, a t ≤ e → e < a (t + 1) → ¬ onS (P (a s)) (P e) (P (e + 1)) := fun s m1 m2 e h1 h2 ho => ((E.2.2.2 e).1 _ ho).elim (fun q => no s m1 m2 e h1 (by omega) q.symm) (fun q => no s m1 m2 (e + 1) (by omega) (by omega) q.symm)
  have noc : ∀ s, P (a s) ≠ P (a t) → P (a s) ≠ P (a (t + 1)) → ¬ onS (P (a s)) (P (a t)) (P (a (t + 1))) := fun s m1 m2 ho => (g.1 _ ho).elim m1 m2
  have key := hh_X (hS.2.1 t) (fun e _ _ => hg.2 e) hX (fun e h1 h2 ho => (hg.1 _ ho).elim (no s n1 n2 e h1 h2) (no s' n3 n4 e h1 h2)) (noe s n1 n2) (noc s n1 n2) (noe s' n3 n4) (noc s' n3 n4)
  rw [j1, j2] at key
  cases key
/-- a segment beside the corner v with neighbours b, c -/
def Okf (v b c x y : Pt9) : Prop := ¬ PX v b x y ∧ ¬ PX v c x y ∧ (onS x v b → x = v ∨ x = b) ∧ (onS y v b → y = v ∨ y = b) ∧ (onS x v c → x = v ∨ x = c) ∧ (onS y v c → y = v ∨ y = c) ∧ ¬ onS v x y ∧ (onS b x y → b = x ∨ b = y) ∧ (onS c x y → c = x ∨ c = y) ∧ ¬ (x = b ∧ y = c) ∧ ¬ (x = c ∧ y = b)
theorem XXo {v b c x y : Pt9} {α β : Int} (hτ : 0 < tu v b c) (ho : Okf v b c x y) (hα : 0 ≤ α) (hβ : 0 ≤ β) (hA : 0 < α * tu v b x + β * tu v b y) (hB : 0 < α * tu v x c + β * tu v y c) (hG : 0 ≤ α * tu b c x + β * tu b c y) : ∃ p, (p = x ∨ p = y) ∧ 0 < tu v b p ∧ 0 < tu v p c ∧ α * tu b c x + β * tu b c y ≤ (α + β) * tu b c p := by
  obtain ⟨o1, o2, o3, o4, o5, o6, o7, o8, o9, o10, o11⟩ := ho
  rcases XXp hτ hα hβ hA hB hG o1 o2 o3 o4 o5 o6 o7 o8 o9 o10 o11 with q | q
  · exact ⟨x, Or.inl rfl, q⟩
  · exact ⟨y, Or.inr rfl, q⟩
theorem okf_r {v b c x y : Pt9} (h : Okf v b c x y) : Okf v b c y x := by
  obtain ⟨o1, o2, o3, o4, o5, o6, o7, o8, o9, o10, o11⟩ := h
  exact ⟨fun q => o1 (PX_r q), fun q => o2 (PX_r q), o4, o3, o6, o5, fun q => o7 (onS_c q), fun q => (o8 (onS_c q)).symm, fun q => (o9 (onS_c q)).symm, fun q => o11 ⟨q.2, q.1⟩, fun q => o10 ⟨q.2, q.1⟩⟩
theorem xc_A (v b y x' y' : Pt9) : tu v y y' * tu v b x' - tu v y x' * tu v b y' = tu x' y' v * tu v b y := by unfold tu; grind
theorem xc_B (v c y x' y' : Pt9) : tu v y y' * tu v x' c - tu v y x' * tu v y' c = tu x' y' v * tu v y c := by unfold tu; grind
theorem xc_G (v b c y x' y' : Pt9) : tu v y y' * tu b c x' - tu v y x' * tu b c y' = tu x' y' v * tu b c y - tu x' y' y * tu v b c := by unfold tu; grind
theorem xc_d (v y x' y' : Pt9) : tu v y y' - tu v y x' = tu x' y' v - tu x' y' y := by unfold tu; grind
theorem XXc0 {v b c x y z : Pt9} (hτ : 0 < tu v b c) (ho : Okf v b c x y) (hA : 0 < tu v b z) (hB : 0 < tu v z c) (hG : 0 ≤ tu b c z) (h1 : tu v z x < 0) (h2 : 0 < tu v z y) (h3 : tu x y v * tu x y z < 0) : ∃ p, (p = x ∨ p = y) ∧ 0 < tu v b p ∧ 0 < tu v p c ∧ tu b c z < tu b c p := by
  have e1 := xc_A v b z x y
  have e2 := xc_B v c z x y
  have e3 := xc_G v b c z x y
  have e4 := xc_d v z x y
  have hs := tri_sum v b c z
  have hv : 0 < tu x y v ∧ tu x y z < 0 := by
    rcases Int.lt_trichotomy 0 (tu x y v) with q | q | q
    · exact ⟨q, neg_l q h3⟩
    · rw [← q, Int.zero_mul] at h3; omega
    · exfalso
      have : 0 < tu x y z := Classical.byContradiction (fun w => by have := mnn (show tu x y v ≤ 0 by omega) (show tu x y z ≤ 0 by omega); omega)
      omega
  have f1 := mpp hv.1 hA
  have f2 := mpp hv.1 hB
  have f3 := mzz (show 0 ≤ tu x y v by omega) hG
  have f4 := Int.mul_neg_of_neg_of_pos hv.2 hτ
  have n1 : ∀ k : Int, - tu v z x * k = - (tu v z x * k) := fun k => Int.neg_mul _ _
  obtain ⟨p, p1, p2, p3, p4⟩ := XXo (α := tu v z y) (β := - tu v z x) hτ ho (by omega) (by omega) (by rw [n1]; omega) (by rw [n1]; omega) (by rw [n1]; omega)
  refine ⟨p, p1, p2, p3, ?_⟩
  rw [n1] at p4
  have f5 : tu x y z * tu v b c < tu x y z * tu b c z := by
    have := Int.mul_neg_of_neg_of_pos hv.2 (show 0 < tu v b c - tu b c z by omega)
    rw [Int.mul_sub] at this
    omega
  have f6 : (tu v z y + - tu v z x) * tu b c z < (tu v z y + - tu v z x) * tu b c p := by
    have e5 : (tu v z y + - tu v z x) * tu b c z = tu x y v * tu b c z - tu x y z * tu b c z := by
      rw [show tu v z y + - tu v z x = tu x y v - tu x y z by omega, Int.sub_mul]
    omega
  have hd : 0 < tu v z y + - tu v z x := by omega
  refine Classical.byContradiction (fun q => ?_)
  have := Int.mul_le_mul_of_nonneg_left (show tu b c p ≤ tu b c z by omega) (show 0 ≤ tu v z y + - tu v z x by omega)
  omega
/-- an edge that crosses the segment from v to z has an end nearer to v -/
theorem XXc {v b c x y z : Pt9} (hτ : 0 < tu v b c) (ho : Okf v b c x y) (hA : 0 < tu v b z) (hB : 0 < tu v z c) (hG : 0 ≤ tu b c z) (hX : PX v z x y) : ∃ p, (p = x ∨ p = y) ∧ 0 < tu v b p ∧ 0 < tu v p c ∧ tu b c z < tu b c p := by
  obtain ⟨h1, h3⟩ := hX
  rcases Int.lt_trichotomy 0 (tu v z x) with q | q | q
  · have h2 := neg_l q h1
    have e : ∀ p, tu y x p = - tu x y p := fun p => by unfold tu; grind
    have e5 : - tu x y v * - tu x y z = tu x y v * tu x y z := by grind
    obtain ⟨p, p1, p2⟩ := XXc0 hτ (okf_r ho) hA hB hG h2 q (by rw [e, e, e5]; exact h3)
    exact ⟨p, p1.symm, p2⟩
  · rw [← q, Int.zero_mul] at h1; omega
  · refine XXc0 hτ ho hA hB hG q ?_ h3
    refine Classical.byContradiction (fun w => ?_)
    have := mnn (show tu v z x ≤ 0 by omega) (show tu v z y ≤ 0 by omega)
    omega
/-- an edge through z has an end as near to v as z -/
theorem XXm {v b c x y z : Pt9} (hτ : 0 < tu v b c) (ho : Okf v b c x y) (hA : 0 < tu v b z) (hB : 0 < tu v z c) (hG : 0 ≤ tu b c z) (hz : onS z x y) : ∃ p, (p = x ∨ p = y) ∧ 0 < tu v b p ∧ 0 < tu v p c ∧ tu b c z ≤ tu b c p := by
  obtain ⟨s, t, h1, h2, h3, h4, h5⟩ := hz
  have lin : ∀ u w : Pt9, (s + t) * tu u w z = s * tu u w x + t * tu u w y := fun u w => by unfold tu; grind
  have lin2 : (s + t) * tu v z c = s * tu v x c + t * tu v y c := by unfold tu; grind
  have a1 := mpp h3 hA
  have a2 := mpp h3 hB
  have a3 := mzz (show 0 ≤ s + t by omega) hG
  rw [lin] at a1 a3
  rw [lin2] at a2
  obtain ⟨p, p1, p2, p3, p4⟩ := XXo hτ ho h1 h2 a1 a2 a3
  refine ⟨p, p1, p2, p3, ?_⟩
  rw [← lin] at p4
  exact Int.le_of_mul_le_mul_left p4 h3
