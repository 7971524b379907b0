/-- who is reached in the next ring, over the first k of this one -/
def RM (n : Nat) (S : Nat → Nat → Int32) (F : Nat → Int32) (d k : Nat) (F' : Nat → Int32) : Prop := ∀ a, a < n → ((F a = -1 ∧ ∃ j, j < k ∧ F j = nI d ∧ S j a ≠ 0) → F' a = nI (d + 1)) ∧ (¬ (F a = -1 ∧ ∃ j, j < k ∧ F j = nI d ∧ S j a ≠ 0) → F' a = F a)
theorem ni_ne {d : Nat} (hd : d < 1000) : nI d ≠ -1 := nI_nm1 (by omega)
theorem ni_s {d : Nat} (hd : d < 1000) : nI (d + 1) ≠ nI d := fun q => by
  have := (nI_eq (by omega) (by omega)).mp q
  omega
theorem upd_a {F : Nat → Int32} {l a : Nat} {v : Int32} : upd F l v a = if a = l then v else F a := rfl
theorem RM_u {n d k : Nat} {S S' : Nat → Nat → Int32} {F G F' G' : Nat → Int32} (hk : k ≤ n) (hS : ∀ a b, a < n → b < n → S a b = S' a b) (h : RM n S F d k F') (h' : RM n S' G d k G') (e : ∀ a, a < n → F a = G a) : ∀ a, a < n → F' a = G' a := fun a ha => by
  have iff : (F a = -1 ∧ ∃ j, j < k ∧ F j = nI d ∧ S j a ≠ 0) ↔ (G a = -1 ∧ ∃ j, j < k ∧ G j = nI d ∧ S' j a ≠ 0) := by
    rw [e a ha]
    refine and_congr Iff.rfl ⟨?_, ?_⟩
    · rintro ⟨j, h1, h2, h3⟩
      exact ⟨j, h1, by rw [← e j (by omega)]; exact h2, by rw [← hS j a (by omega) ha]; exact h3⟩
    · rintro ⟨j, h1, h2, h3⟩
      exact ⟨j, h1, by rw [e j (by omega)]; exact h2, by rw [hS j a (by omega) ha]; exact h3⟩
  by_cases q : F a = -1 ∧ ∃ j, j < k ∧ F j = nI d ∧ S j a ≠ 0
  · rw [(h a ha).1 q, (h' a ha).1 (iff.mp q)]
  · rw [(h a ha).2 q, (h' a ha).2 (fun w => q (iff.mpr w)), e a ha]
/-- the class's ring -/
theorem RM_c {n d : Nat} {S : Nat → Nat → Int32} {F : Nat → Int32} (hd : d < 100) (hsy : ∀ a b, a < n → b < n → S a b = S b a) : RM n S F d n (mIn n S (nI (d + 1)) F n) := by
  have key : ∀ i, i ≤ n → ∀ a, a < n → (a < i → ((F a = -1 ∧ ∃ j, j < n ∧ F j = nI d ∧ S j a ≠ 0) → mIn n S (nI (d + 1)) F i a = nI (d + 1)) ∧ (¬ (F a = -1 ∧ ∃ j, j < n ∧ F j = nI d ∧ S j a ≠ 0) → mIn n S (nI (d + 1)) F i a = F a)) ∧ (i ≤ a → mIn n S (nI (d + 1)) F i a = F a) := by
    intro i
    induction i with
    | zero => intro _ a _; exact ⟨fun q => absurd q (Nat.not_lt_zero _), fun _ => rfl⟩
    | succ i ih =>
      intro hi
      have ih' := ih (by omega)
      -- same entries equal to d
      have eqd : ∀ j, j < n → (mIn n S (nI (d + 1)) F i j = nI d ↔ F j = nI d) := fun j hj => by
        rcases Nat.lt_or_ge j i with q | q
        · by_cases w : F j = -1 ∧ ∃ j', j' < n ∧ F j' = nI d ∧ S j' j ≠ 0
          · rw [((ih' j hj).1 q).1 w, w.1]
            exact ⟨fun z => absurd z (ni_s (by omega)), fun z => absurd z.symm (ni_ne (by omega))⟩
          · rw [((ih' j hj).1 q).2 w]
        · rw [(ih' j hj).2 q]
      have hii : mIn n S (nI (d + 1)) F i i = F i := (ih' i (by omega)).2 (Nat.le_refl _)
      have cond : (mIn n S (nI (d + 1)) F i i = -1 ∧ fndN (lnP (S i) (mIn n S (nI (d + 1)) F i) (nI (d + 1) - 1)) 0 n ≠ none) ↔ (F i = -1 ∧ ∃ j, j < n ∧ F j = nI d ∧ S j i ≠ 0) := by
        rw [hii, nI_sub1]
        refine and_congr Iff.rfl ⟨fun q => ?_, ?_⟩
        · cases hf : fndN (lnP (S i) (mIn n S (nI (d + 1)) F i) (nI d)) 0 n with
          | none => exact absurd hf q
          | some j =>
            have hj := fnd_lt hf
            have hp := fnd_p hf
            unfold lnP at hp
            simp at hp
            exact ⟨j, hj, (eqd j hj).mp hp.2, by rw [← hsy i j (by omega) hj]; exact hp.1⟩
        · rintro ⟨j, h1, h2, h3⟩ q
          have := fndN_all q (Nat.zero_le j) h1
          unfold lnP at this
          rw [← hsy i j (by omega) h1] at h3
          simp [h3, (eqd j h1).mpr h2] at this
      intro a ha
      by_cases c : F i = -1 ∧ ∃ j, j < n ∧ F j = nI d ∧ S j i ≠ 0
      · obtain ⟨c1, c2⟩ := cond.mpr c
        rw [mIn_t c1 c2, upd_a]
        by_cases e : a = i
        · subst e
          exact ⟨fun _ => ⟨fun _ => if_pos rfl, fun q => absurd c q⟩, fun q => by omega⟩
        · rw [if_neg e]
          exact ⟨fun q => (ih' a ha).1 (by omega), fun q => (ih' a ha).2 (by omega)⟩
      · rw [mIn_f (fun q => c (cond.mp q))]
        by_cases e : a = i
        · subst e
          exact ⟨fun _ => ⟨fun q => absurd q c, fun _ => hii⟩, fun q => by omega⟩
        · exact ⟨fun q => (ih' a ha).1 (by omega), fun q => (ih' a ha).2 (by omega)⟩
  exact fun a ha => (key n (Nat.le_refl _) a ha).1 ha
/-- the reference's ring -/
theorem RM_r {n d : Nat} {S : Nat → Nat → Int32} {F : Nat → Int32} (hd : d < 100) (hS : ∀ a b, a < n → b < n → (0 < S a b ↔ S a b ≠ 0)) : ∀ k, k ≤ n → RM n S F d k (rMid n S d F k)
  | 0, _ => fun a _ => ⟨fun ⟨_, j, h, _⟩ => absurd h (Nat.not_lt_zero _), fun _ => rfl⟩
  | k + 1, hk => by
    have ih := RM_r (F := F) hd hS k (by omega)
    have inn : ∀ l, l ≤ n → ∀ a, a < n → (a < l → ((rMid n S d F k k = nI d ∧ rMid n S d F k a = -1 ∧ S k a ≠ 0) → rIn S d k (rMid n S d F k) l a = nI (d + 1)) ∧ (¬ (rMid n S d F k k = nI d ∧ rMid n S d F k a = -1 ∧ S k a ≠ 0) → rIn S d k (rMid n S d F k) l a = rMid n S d F k a)) ∧ (l ≤ a → rIn S d k (rMid n S d F k) l a = rMid n S d F k a) := by
      generalize rMid n S d F k = G
      intro l
      induction l with
      | zero => intro _ a _; exact ⟨fun q => absurd q (Nat.not_lt_zero _), fun _ => rfl⟩
      | succ l ihl =>
        intro hl
        have ih' := ihl (by omega)
        have hkk : rIn S d k G l k = nI d ↔ G k = nI d := by
          rcases Nat.lt_or_ge k l with q | q
          · by_cases w : G k = nI d ∧ G k = -1 ∧ S k k ≠ 0
            · exact absurd (w.1.symm.trans w.2.1) (ni_ne (by omega))
            · rw [((ih' k (by omega)).1 q).2 w]
          · rw [(ih' k (by omega)).2 q]
        have hll : rIn S d k G l l = G l := (ih' l (by omega)).2 (Nat.le_refl _)
        have cond : (rIn S d k G l k = nI d ∧ rIn S d k G l l = -1 ∧ 0 < S k l) ↔ (G k = nI d ∧ G l = -1 ∧ S k l ≠ 0) := by
          rw [hkk, hll, hS k l (by omega) (by omega)]
        intro a ha
        by_cases c : G k = nI d ∧ G l = -1 ∧ S k l ≠ 0
        · obtain ⟨c1, c2, c3⟩ := cond.mpr c
          rw [rIn_t c1 c2 c3, upd_a]
          by_cases e : a = l
          · subst e
            exact ⟨fun _ => ⟨fun _ => if_pos rfl, fun q => absurd c q⟩, fun q => by omega⟩
          · rw [if_neg e]
            exact ⟨fun q => (ih' a ha).1 (by omega), fun q => (ih' a ha).2 (by omega)⟩
        · rw [rIn_f (fun q => c (cond.mp q))]
          by_cases e : a = l
          · subst e
            exact ⟨fun _ => ⟨fun q => absurd q c, fun _ => hll⟩, fun q => by omega⟩
          · exact ⟨fun q => (ih' a ha).1 (by omega), fun q => (ih' a ha).2 (by omega)⟩
    have gk : rMid n S d F k k = nI d ↔ F k = nI d := by
      have := ih k (by omega)
      by_cases w : F k = -1 ∧ ∃ j, j < k ∧ F j = nI d ∧ S j k ≠ 0
      · rw [this.1 w, w.1]
        exact ⟨fun z => absurd z (ni_s (by omega)), fun z => absurd z.symm (ni_ne (by omega))⟩
      · rw [this.2 w]
    intro a ha
    show ((F a = -1 ∧ ∃ j, j < k + 1 ∧ F j = nI d ∧ S j a ≠ 0) → rIn S d k (rMid n S d F k) n a = nI (d + 1)) ∧ (¬ (F a = -1 ∧ ∃ j, j < k + 1 ∧ F j = nI d ∧ S j a ≠ 0) → rIn S d k (rMid n S d F k) n a = F a)
    have ia := (inn n (Nat.le_refl _) a ha).1 ha
    by_cases w : F a = -1 ∧ ∃ j, j < k ∧ F j = nI d ∧ S j a ≠ 0
    · have e := (ih a ha).1 w
      have e2 := ia.2 (fun q => by rw [e] at q; exact ni_ne (d := d + 1) (by omega) q.2.1)
      rw [e2, e]
      obtain ⟨w1, j, w2, w3⟩ := w
      exact ⟨fun _ => rfl, fun q => absurd ⟨w1, j, by omega, w3⟩ q⟩
    · have e := (ih a ha).2 w
      by_cases c : F k = nI d ∧ F a = -1 ∧ S k a ≠ 0
      · rw [ia.1 ⟨gk.mpr c.1, by rw [e]; exact c.2.1, c.2.2⟩]
        exact ⟨fun _ => rfl, fun q => absurd ⟨c.2.1, k, by omega, c.1, c.2.2⟩ q⟩
      · rw [ia.2 (fun q => c ⟨gk.mp q.1, by rw [← e]; exact q.2.1, q.2.2⟩), e]
        refine ⟨fun q => ?_, fun _ => rfl⟩
        obtain ⟨q1, j, q2, q3, q4⟩ := q
        rcases Nat.lt_or_ge j k with z | z
        · exact absurd ⟨q1, j, z, q3, q4⟩ w
        · have : j = k := by omega
          rw [this] at q3 q4
          exact absurd ⟨q3, q1, q4⟩ c
/-- the same rings, one by one -/
theorem ring_eq {n : Nat} {S S' : Nat → Nat → Int32} {F G : Nat → Int32} (hS : ∀ a b, a < n → b < n → S a b = S' a b) (hsy : ∀ a b, a < n → b < n → S a b = S b a) (hp : ∀ a b, a < n → b < n → (0 < S' a b ↔ S' a b ≠ 0)) (e : ∀ a, a < n → F a = G a) : ∀ d, d ≤ 100 → ∀ a, a < n → mOut n S F d a = rOut n S' G d a
  | 0, _ => e
  | d + 1, hd => RM_u (Nat.le_refl n) hS (RM_c (by omega) hsy) (RM_r (by omega) hp n (Nat.le_refl _)) (ring_eq hS hsy hp e d (by omega))
/-- n rings reach no further than n - 1 -/
theorem ring_last {n d : Nat} {S : Nat → Nat → Int32} {F : Nat → Int32} (hn : n ≤ 14) (hd : d + 1 = n) (hS : ∀ a b, a < n → b < n → (0 < S a b ↔ S a b ≠ 0)) (h : okR n S F d) : ∀ a, a < n → rMid n S d F n a = F a := fun a ha => by
  refine (RM_r (by omega) hS n (Nat.le_refl _) a ha).2 (fun q => ?_)
  obtain ⟨q1, j, q2, q3, -⟩ := q
  -- a corner for each distance
  have ch : ∀ e, e ≤ d → ∃ v, v < n ∧ F v = nI (d - e) := by
    intro e
    induction e with
    | zero => intro _; exact ⟨j, q2, q3⟩
    | succ e ih =>
      intro he
      obtain ⟨v, v1, v2⟩ := ih (by omega)
      rw [show d - e = d - (e + 1) + 1 by omega] at v2
      obtain ⟨w, w1, w2, -⟩ := h.2 v (d - (e + 1)) v1 (by omega) v2
      exact ⟨w, w1, w2⟩
  have ls : ∀ m, m ≤ n → ∃ l : List Nat, l.length = m ∧ l.Nodup ∧ ∀ v ∈ l, v < n ∧ ∃ e, e < m ∧ F v = nI e := by
    intro m
    induction m with
    | zero => intro _; exact ⟨[], rfl, List.nodup_nil, fun v hv => by cases hv⟩
    | succ m ih =>
      intro hm
      obtain ⟨l, l1, l2, l3⟩ := ih (by omega)
      obtain ⟨v, v1, v2⟩ := ch (d - m) (by omega)
      rw [show d - (d - m) = m by omega] at v2
      refine ⟨v :: l, by rw [List.length_cons, l1], List.nodup_cons.mpr ⟨fun hv => ?_, l2⟩, fun w hw => ?_⟩
      · obtain ⟨-, e, e1, e2⟩ := l3 v hv
        have := (nI_eq (by omega) (by omega)).mp (v2.symm.trans e2)
        omega
      · rcases List.mem_cons.mp hw with z | z
        · rw [z]; exact ⟨v1, m, by omega, v2⟩
        · obtain ⟨a1, e, a2, a3⟩ := l3 w z
          exact ⟨a1, e, by omega, a3⟩
  obtain ⟨l, l1, l2, l3⟩ := ls n (Nat.le_refl _)
  have hnd : (a :: l).Nodup := List.nodup_cons.mpr ⟨fun hv => by
    obtain ⟨-, e, e1, e2⟩ := l3 a hv
    rw [q1] at e2
    exact ni_ne (by omega) e2.symm, l2⟩
  have hle : (a :: l).length ≤ (List.range n).length := List.Nodup.length_le_of_subset hnd (fun v hv => by
    rcases List.mem_cons.mp hv with z | z
    · rw [z]; exact List.mem_range.mpr ha
    · exact List.mem_range.mpr (l3 v z).1)
  rw [List.length_cons, l1, List.length_range] at hle
  omega
