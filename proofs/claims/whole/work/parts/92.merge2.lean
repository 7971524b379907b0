theorem neg_le {t : Int32} (h1 : -100000000 ≤ t.toInt) (h2 : t.toInt ≤ 100000000) : 0 ≤ t * (-1) ↔ t ≤ 0 := by
  have e : (t * (-1)).toInt = - t.toInt := by
    have := m32 (a := t) (b := -1) rfl m1_i (by omega) (by omega)
    rw [this]; omega
  rw [le32, le32, e, z32]
  omega
theorem mul1 (t : Int32) : t * 1 = t := Int32.mul_one t
theorem cvx_fl {n m : Nat} {x y : Nat → Int32} (hr : rowR n x y) {A B : Nat → Nat} {st : Nat → Bool} {J : Nat → Nat → Int32} {c e w : Nat} (hJ : Jn n m A B st J) (hAB : ∀ d, d < m → A d < n ∧ B d < n ∧ A d ≠ B d) (hinj : ∀ d d', d < m → d' < m → A d = A d' → B d = B d' → d = d') (hord : ∀ d, d < m → A d < B d) (hc : c < n) (he : e < n) (hw : w < m) (hce : (c = A w ∧ e = B w) ∨ (c = B w ∧ e = A w)) (hnn : ¬ (af n c = e ∨ af n e = c)) : cvx J n x y (fan n x y) c e = flD n x y A B st m w c e := by
  have h3 := hr.1
  obtain ⟨s1, s2⟩ := scan h3 hJ hAB hinj hord hc he hw hce hnn
  unfold cvx flD
  rw [s1, s2]
  have l1 : (c + befR n A B st w c (farE n c e) m) % n < n := Nat.mod_lt _ (by omega)
  have l2 : (c + behR n A B st w c (farE n c e) m) % n < n := Nat.mod_lt _ (by omega)
  generalize (c + befR n A B st w c (farE n c e) m) % n = u at *
  generalize (c + behR n A B st w c (farE n c e) m) % n = v at *
  unfold hnd
  by_cases q : 0 < fan n x y
  · rw [if_pos q, if_pos q, mul1]
  · rw [if_neg q, if_neg q]
    have ti := tn_i hr hc l1 l2
    obtain ⟨-, t2, t3⟩ := tnR_i (B := 1000) (by decide) (hr.2.2 c hc).1 (hr.2.2 c hc).2 (hr.2.2 u l1).1 (hr.2.2 u l1).2 (hr.2.2 v l2).1 (hr.2.2 v l2).2
    refine decide_eq_decide.mpr (neg_le ?_ ?_)
    · rw [ti]
      obtain ⟨a1, a2⟩ := hr.2.2 c hc
      obtain ⟨b1, b2⟩ := hr.2.2 u l1
      obtain ⟨d1, d2⟩ := hr.2.2 v l2
      unfold wB at *
      have m1 := mulb (A := 2000) (B := 2000) (show -2000 ≤ (x u).toInt - (x c).toInt by omega) (by omega) (show -2000 ≤ (y v).toInt - (y c).toInt by omega) (by omega)
      have m2 := mulb (A := 2000) (B := 2000) (show -2000 ≤ (y u).toInt - (y c).toInt by omega) (by omega) (show -2000 ≤ (x v).toInt - (x c).toInt by omega) (by omega)
      show -100000000 ≤ ((x u).toInt - (x c).toInt) * ((y v).toInt - (y c).toInt) - ((y u).toInt - (y c).toInt) * ((x v).toInt - (x c).toInt)
      omega
    · rw [ti]
      obtain ⟨a1, a2⟩ := hr.2.2 c hc
      obtain ⟨b1, b2⟩ := hr.2.2 u l1
      obtain ⟨d1, d2⟩ := hr.2.2 v l2
      unfold wB at *
      have m1 := mulb (A := 2000) (B := 2000) (show -2000 ≤ (x u).toInt - (x c).toInt by omega) (by omega) (show -2000 ≤ (y v).toInt - (y c).toInt by omega) (by omega)
      have m2 := mulb (A := 2000) (B := 2000) (show -2000 ≤ (y u).toInt - (y c).toInt by omega) (by omega) (show -2000 ≤ (x v).toInt - (x c).toInt by omega) (by omega)
      show ((x u).toInt - (x c).toInt) * ((y v).toInt - (y c).toInt) - ((y u).toInt - (y c).toInt) * ((x v).toInt - (x c).toInt) ≤ 100000000
      omega
theorem stF_s {n : Nat} {x y : Nat → Int32} {A B : Nat → Nat} {m d e : Nat} : stF n x y A B m (d + 1) e = if e = d then !flD n x y A B (stF n x y A B m d) m d (A d) (B d) || !flD n x y A B (stF n x y A B m d) m d (B d) (A d) else stF n x y A B m d e := rfl
theorem stF_ge {n : Nat} {x y : Nat → Int32} {A B : Nat → Nat} {m : Nat} : ∀ d e, d ≤ e → stF n x y A B m d e = true
  | 0, _, _ => rfl
  | d + 1, e, h => by rw [stF_s, if_neg (by omega)]; exact stF_ge d e (by omega)
theorem stF_lt {n : Nat} {x y : Nat → Int32} {A B : Nat → Nat} {m e : Nat} : ∀ k, stF n x y A B m (e + 1 + k) e = stF n x y A B m (e + 1) e
  | 0 => rfl
  | k + 1 => by
    show stF n x y A B m (e + 1 + k + 1) e = _
    rw [stF_s, if_neg (by omega)]
    exact stF_lt k
theorem merge_eq {n m : Nat} {x y : Nat → Int32} (hr : rowR n x y) {A B : Nat → Nat} {J : Nat → Nat → Int32} (hAB : ∀ d, d < m → A d < n ∧ B d < n ∧ A d ≠ B d) (hinj : ∀ d d', d < m → d' < m → A d = A d' → B d = B d' → d = d') (hord : ∀ d, d < m → A d < B d) (hnn : ∀ d, d < m → ¬ (af n (A d) = B d ∨ af n (B d) = A d)) (h0 : Jn n m A B (fun _ => true) J) : ∀ d, d ≤ m → Jn n m A B (stF n x y A B m d) (mgJ n x y (fan n x y) A B J d) ∧ (d < m → stay n x y (fan n x y) A B J d = stF n x y A B m (d + 1) d) := by
  have one : ∀ d, d < m → Jn n m A B (stF n x y A B m d) (mgJ n x y (fan n x y) A B J d) → goes (mgJ n x y (fan n x y) A B J d) n x y (fan n x y) (A d) (B d) = (flD n x y A B (stF n x y A B m d) m d (A d) (B d) && flD n x y A B (stF n x y A B m d) m d (B d) (A d)) := fun d hd hJ => by
    obtain ⟨a1, a2, a3⟩ := hAB d hd
    unfold goes
    rw [cvx_fl hr hJ hAB hinj hord a1 a2 hd (Or.inl ⟨rfl, rfl⟩) (hnn d hd), cvx_fl hr hJ hAB hinj hord a2 a1 hd (Or.inr ⟨rfl, rfl⟩) (fun q => hnn d hd q.symm)]
  have jn : ∀ d, d ≤ m → Jn n m A B (stF n x y A B m d) (mgJ n x y (fan n x y) A B J d) := by
    intro d
    induction d with
    | zero => intro _; exact h0
    | succ d ih =>
      intro hd
      have hJ := ih (by omega)
      have hg := one d (by omega) hJ
      rw [mgJ]
      by_cases q : goes (mgJ n x y (fan n x y) A B J d) n x y (fan n x y) (A d) (B d) = true
      · rw [if_pos q]
        rw [hg, Bool.and_eq_true] at q
        intro a b ha hb
        unfold cutJ
        by_cases p : (a = A d ∧ b = B d) ∨ (a = B d ∧ b = A d)
        · rw [if_pos p]
          constructor
          · intro z; exact absurd rfl z
          · intro z
            exfalso
            rcases z with z | ⟨e, e1, e2, e3⟩
            · rcases p with ⟨p1, p2⟩ | ⟨p1, p2⟩
              · rw [p1, p2] at z; exact hnn d (by omega) z
              · rw [p1, p2] at z; exact hnn d (by omega) z.symm
            · have o1 := hord d (by omega)
              have o2 := hord e e1
              have : e = d := by
                rcases p with ⟨p1, p2⟩ | ⟨p1, p2⟩ <;> rcases e3 with ⟨e3, e4⟩ | ⟨e3, e4⟩
                · exact hinj e d e1 (by omega) (by omega) (by omega)
                · omega
                · omega
                · exact hinj e d e1 (by omega) (by omega) (by omega)
              rw [this, stF_s, if_pos rfl, q.1, q.2] at e2
              cases e2
        · rw [if_neg p, hJ a b ha hb]
          refine or_congr Iff.rfl ⟨fun ⟨e, e1, e2, e3⟩ => ⟨e, e1, ?_, e3⟩, fun ⟨e, e1, e2, e3⟩ => ⟨e, e1, ?_, e3⟩⟩
          · rw [stF_s, if_neg (fun z => p (by rw [← z]; exact e3))]; exact e2
          · rw [stF_s, if_neg (fun z => p (by rw [← z]; exact e3))] at e2; exact e2
      · rw [if_neg q]
        intro a b ha hb
        rw [hJ a b ha hb]
        have hsd : stF n x y A B m (d + 1) d = true := by
          rw [stF_s, if_pos rfl]
          rw [hg] at q
          revert q
          cases flD n x y A B (stF n x y A B m d) m d (A d) (B d) <;> cases flD n x y A B (stF n x y A B m d) m d (B d) (A d) <;> intro q <;> first | rfl | exact absurd rfl q
        have all : ∀ e, stF n x y A B m (d + 1) e = stF n x y A B m d e := fun e => by
          by_cases z : e = d
          · rw [z, hsd, stF_ge d d (Nat.le_refl _)]
          · rw [stF_s, if_neg z]
        simp only [all]
  refine fun d hd => ⟨jn d hd, fun hlt => ?_⟩
  unfold stay
  rw [one d hlt (jn d hd), stF_s, if_pos rfl]
  cases flD n x y A B (stF n x y A B m d) m d (A d) (B d) <;> cases flD n x y A B (stF n x y A B m d) m d (B d) (A d) <;> rfl
theorem cntN_c {p q : Nat → Bool} : ∀ m, (∀ i, i < m → p i = q i) → cntN p m = cntN q m
  | 0, _ => rfl
  | m + 1, h => by rw [cntN, cntN, cntN_c m (fun i hi => h i (by omega)), h m (by omega)]
/-- who stays -/
def cF (n : Nat) (x y : Nat → Int32) : Nat → Bool := stF n x y (lA (cD n x y)) (lB (cD n x y)) (n - 3) (n - 3)
theorem cD_at {n : Nat} {x y : Nat → Int32} (hr : rowR n x y) (hf : noF n x y) (hm : noM n x y) {d : Nat} (hd : d < n - 3) : lA (cD n x y) d < lB (cD n x y) d ∧ lB (cD n x y) d < n ∧ ¬ (af n (lA (cD n x y) d) = lB (cD n x y) d ∨ af n (lB (cD n x y) d) = lA (cD n x y) d) ∧ (lA (cD n x y) d, lB (cD n x y) d) ∈ cD n x y := by
  have hl := cD_len (x := x) (y := y) hr.1
  have hmem := List.mem_of_getElem? (lA_at (l := cD n x y) (d := d) (by omega))
  obtain ⟨m1, m2, m3⟩ := mem_dl.mp hmem
  have hT := c_okT (x := x) (y := y) hr.1
  have ht := (jn_tail hT hr.1 _ _).mp m3
  have := tail_1 hr hf hm ht
  exact ⟨m1, m2, this.2.2.2, hmem⟩
theorem cls_stay {n : Nat} {x y : Nat → Int32} (hr : rowR n x y) (hf : noF n x y) (hm : noM n x y) {S J : Nat → Nat → Int32} (hS : ∀ a b, a < n → b < n → S a b = sightR n x y a b) {T : Nat → Nat → Nat} (hT : trl T n 0 (n - 1) = cL n x y) (hJ : ∀ a b, a < n → b < n → J a b = jnC S T n a b) {d : Nat} (hd : d < n - 3) : stay n x y (fan n x y) (lA (cD n x y)) (lB (cD n x y)) J d = cF n x y d := by
  have h3 := hr.1
  have hl := cD_len (x := x) (y := y) h3
  have hTc := c_okT (x := x) (y := y) h3
  have at_ := fun d (hd : d < n - 3) => cD_at hr hf hm hd
  have hL : (cL n x y).length = n - 2 := by have := trl_len hTc n 0 (n - 1) (by omega) (by omega); show (trl (cT n x y) n 0 (n - 1)).length = _; omega
  have J0 : Jn n (n - 3) (lA (cD n x y)) (lB (cD n x y)) (fun _ => true) J := by
    intro a b ha hb
    rw [hJ a b ha hb]
    have hv : jnC S T n a b ≠ 0 ↔ jnC S T n a b = 1 := by
      have vv : ∀ t, J2 S (lI (trl T n 0 (n - 1))) (lJ (trl T n 0 (n - 1))) t a b = 1 ∨ J2 S (lI (trl T n 0 (n - 1))) (lJ (trl T n 0 (n - 1))) t a b = 0 := by
        intro t
        induction t with
        | zero =>
          show bI (decide (S a b = 2)) = 1 ∨ bI (decide (S a b = 2)) = 0
          cases decide (S a b = 2)
          · exact Or.inr rfl
          · exact Or.inl rfl
        | succ t ih =>
          rw [J2_s]
          split
          · exact Or.inl rfl
          · exact ih
      unfold jnC
      rcases vv (n - 2) with w | w <;> rw [w] <;> decide
    rw [hv]
    unfold jnC
    rw [J2_iff, hT]
    refine or_congr ?_ ?_
    · rw [hS a b ha hb]
      unfold sightR
      constructor
      · intro w
        refine Classical.byContradiction (fun z => ?_)
        rw [if_neg z] at w
        split at w
        · exact absurd w (by decide)
        · exact absurd w (by decide)
      · intro w; rw [if_pos w]
    · have tl : ∀ a b, (∃ u, u < n - 2 ∧ u ≠ 0 ∧ a = lI (cL n x y) u ∧ b = lJ (cL n x y) u) ↔ ∃ e, e < n - 3 ∧ a = lA (cD n x y) e ∧ b = lB (cD n x y) e := fun a b => by
        have jt := jn_tail hTc h3 a b
        constructor
        · rintro ⟨u, u1, u2, u3, u4⟩
          have e9 := l_at (l := cL n x y) (t := u) (by omega)
          have hin : (a, b) ∈ ((cL n x y).tail).map spn := by
            obtain ⟨u', rfl⟩ : ∃ u', u = u' + 1 := ⟨u - 1, by omega⟩
            refine List.mem_map.mpr ⟨_, List.mem_of_getElem? (i := u') (by rw [List.getElem?_tail]; exact e9), by rw [u3, u4]; rfl⟩
          obtain ⟨c1, c2, c3, c4⟩ := tail_1 hr hf hm hin
          have hd : (a, b) ∈ cD n x y := mem_dl.mpr ⟨by show a < b; omega, c2, jt.mpr hin⟩
          obtain ⟨e, e1, e2⟩ := List.mem_iff_getElem.mp hd
          have e3 := lA_at (l := cD n x y) e1
          rw [List.getElem?_eq_getElem e1, e2] at e3
          have e3 := Option.some.inj e3
          exact ⟨e, by omega, congrArg Prod.fst e3, congrArg Prod.snd e3⟩
        · rintro ⟨e, e1, e2, e3⟩
          obtain ⟨-, -, -, hmem⟩ := at_ e e1
          rw [← e2, ← e3] at hmem
          have hin := jt.mp (mem_dl.mp hmem).2.2
          obtain ⟨q, q1, q2⟩ := List.mem_map.mp hin
          obtain ⟨u, u1, u2⟩ := List.mem_iff_getElem.mp q1
          have u1' : u < (cL n x y).length - 1 := by rw [List.length_tail] at u1; exact u1
          have e9 := l_at (l := cL n x y) (t := u + 1) (by omega)
          rw [List.getElem_tail] at u2
          rw [List.getElem?_eq_getElem (by omega)] at e9
          have e9 := Option.some.inj e9
          have e10 : q = (lI (cL n x y) (u + 1), lK (cL n x y) (u + 1), lJ (cL n x y) (u + 1)) := u2.symm.trans e9
          refine ⟨u + 1, by omega, by omega, ?_, ?_⟩
          · have : q.1 = a := congrArg Prod.fst q2
            rw [← this, e10]
          · have : q.2.2 = b := congrArg Prod.snd q2
            rw [← this, e10]
      constructor
      · rintro ⟨u, u1, u2, u3 | u3⟩
        · obtain ⟨e, e1, e2⟩ := (tl a b).mp ⟨u, u1, u2, u3⟩
          exact ⟨e, e1, rfl, Or.inl e2⟩
        · obtain ⟨e, e1, e2, e3⟩ := (tl b a).mp ⟨u, u1, u2, u3.2, u3.1⟩
          exact ⟨e, e1, rfl, Or.inr ⟨e3, e2⟩⟩
      · rintro ⟨e, e1, -, e2 | e2⟩
        · obtain ⟨u, u1, u2, u3⟩ := (tl a b).mpr ⟨e, e1, e2⟩
          exact ⟨u, u1, u2, Or.inl u3⟩
        · obtain ⟨u, u1, u2, u3, u4⟩ := (tl b a).mpr ⟨e, e1, e2.2, e2.1⟩
          exact ⟨u, u1, u2, Or.inr ⟨u4, u3⟩⟩
  have hM := merge_eq hr (m := n - 3) (A := lA (cD n x y)) (B := lB (cD n x y)) (J := J) (fun d hd => ⟨by have := at_ d hd; omega, (at_ d hd).2.1, by have := at_ d hd; omega⟩) (fun d d' h1 h2 e1 e2 => by
    have nd : (cD n x y).Nodup := nd_dl
    have a1 := lA_at (l := cD n x y) (d := d) (by omega)
    have a2 := lA_at (l := cD n x y) (d := d') (by omega)
    rw [← e1, ← e2, ← a1] at a2
    rw [List.getElem?_eq_getElem (by omega), List.getElem?_eq_getElem (by omega)] at a2
    exact ((List.getElem_inj nd).mp (Option.some.inj a2)).symm) (fun d hd => (at_ d hd).1) (fun d hd => (at_ d hd).2.2.1) J0 d (by omega)
  rw [hM.2 hd]
  unfold cF
  have := stF_lt (n := n) (x := x) (y := y) (A := lA (cD n x y)) (B := lB (cD n x y)) (m := n - 3) (e := d) (n - 3 - (d + 1))
  rw [show d + 1 + (n - 3 - (d + 1)) = n - 3 by omega] at this
  exact this.symm
