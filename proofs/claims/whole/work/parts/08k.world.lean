/-! THE WORLD behind both constructors -/
def off9 (k i : Nat) : Nat := match k with
  | 0 => 0 | 1 => 4 | 2 => 66 | 3 => 67 | 4 => 5 | 5 => 6 | 6 => 21 | 7 => 36 | 8 => 51
  | 9 => 7 + i | 10 => 22 + i | 11 => 37 + i | 12 => 52 + i | 13 => 68
  | 14 => match i with | 0 => 1 | j + 1 => 69 + 25 * j + 1
  | 15 => match i with | 0 => 2 | j + 1 => 69 + 25 * j + 2
  | 16 => match i with | 0 => 3 | j + 1 => 69 + 25 * j + 3
  | 17 => 69 + 25 * i | 18 => 69 + 25 * i + 4 | 19 => 69 + 25 * (i / 14) + (5 + i % 14)
  | 20 => 69 + 25 * i + 19 | 21 => 69 + 25 * i + 20 | 22 => 69 + 25 * i + 21 | 23 => 69 + 25 * i + 22 | 24 => 69 + 25 * i + 23 | 25 => 69 + 25 * i + 24
  | k => 239 + k
def inv9 (o : Nat) : Nat × Nat := (keys9.find? (fun x => off9 x.1 x.2 == o)).getD (0, 0)
set_option maxRecDepth 100000 in
theorem inv9_ok : ∀ x ∈ keys9, inv9 (off9 x.1 x.2) = x := by decide +kernel
def mkG (D : Nat → ClassId) (I : Nat → Nat → Nat) (c : Nat → ClassId) (h : Nat) : Gx := (D, I, c, fun k i => h + off9 k i)
theorem wa_mk {D : Nat → ClassId} {I : Nat → Nat → Nat} {c : Nat → ClassId} {h : Nat} : wa (mkG D I c h) := fun k i k' i' hi hi' e => by
  have e0 : h + off9 k i = h + off9 k' i' := e
  have e1 : off9 k i = off9 k' i' := by omega
  have a := inv9_ok (k, i) (keys9_in hi)
  have b := inv9_ok (k', i') (keys9_in hi')
  have c1 : (k, i) = (k', i') := by
    rw [← a, ← b]
    show inv9 (off9 k i) = inv9 (off9 k' i')
    rw [e1]
  exact ⟨congrArg Prod.fst c1, congrArg Prod.snd c1⟩
def sg0 : Sg := fun k _ f => if (k = 1 ∧ (f = 1 ∨ f = 2)) ∨ (k = 30 ∧ (f = 7 ∨ f = 8)) then -1 else 0
theorem sg0_0 {k i : Nat} (h1 : k ≠ 1) (h2 : k ≠ 30) : sg0 k i = fun _ => 0 := funext fun _ => if_neg (fun q => q.elim (fun a => h1 a.1) (fun a => h2 a.1))
theorem arrV_c {c : ClassId} {n : Nat} {f f' : Nat → Value} (h : ∀ j, j < n → f j = f' j) : arrV c n f = arrV c n f' := by
  have e : (fun j : Fin n => f j.val) = fun j : Fin n => f' j.val := funext fun j => h j.val j.isLt
  unfold arrV
  rw [e]
section WDB
variable {D : Nat → ClassId} {I : Nat → Nat → Nat} {c : Nat → ClassId} {h : Nat} {H : Heap}
theorem at_eq {D : va_G} {a a' : Nat} {e e' : va_E} (q : va_at D vwCl (a, e) H) (ha : a = a') (he : e = e') : va_at D vwCl (a', e') H := by subst ha; subst he; exact q
theorem at_q {D : va_G} {a a' : Nat} {c : ClassId} {n : Nat} {A A' : Nat → Option Nat} (q : va_at D vwCl (a, .inl (c, n, .inr (.inr (.inr (.inr A))))) H) (ha : a = a') (hA : ∀ j, j < n → A j = A' j) : va_at D vwCl (a', .inl (c, n, .inr (.inr (.inr (.inr A'))))) H := by
  subst ha
  have q1 : H[a]? = some (vp_cell c (n, .inr (.inr (.inr (.inr A))))) := q
  show H[a]? = some (vp_cell c (n, .inr (.inr (.inr (.inr A')))))
  rw [q1, vp_cell_q, vp_cell_q, arrV_c (fun j hj => by rw [hA j hj])]
theorem gX3_row {G : Gx} {b : Nat} (j : Nat) (hj : j < 14) : gX3 G b (5 + j) = .inl (gC G 0, 14, .inl (fun _ => 0)) := by
  unfold gX3
  rw [ob_s (by omega)]
  unfold bX3
  rw [if_neg (by omega), if_pos (by omega)]
  unfold gmul
  rw [if_neg (by omega)]
theorem gX2_row {G : Gx} {b : Nat} (q j : Nat) (hj : j < 14) : gX2 G b (1 + 15 * q + (1 + j)) = .inl (gC G 0, 14, .inl (fun _ => 0)) := by
  unfold gX2
  rw [ob_s (by omega)]
  unfold bX2
  rw [show (1 + 15 * q + (1 + j) - 1) % 15 = 1 + j by omega]
  unfold gmul
  rw [if_neg (by omega)]
theorem gc_0 {G : Gx} {k i n : Nat} (hl : lay k = .inr (0, n, none)) (h1 : k ≠ 1) (h2 : k ≠ 30) : gcell G sg0 k i = .inl (gC G 0, n, .inl (fun _ => 0)) := by rw [gc_a hl, sg0_0 h1 h2]

theorem wd_0 (at5 : ∀ o, o < 269 → va_at (gD (mkG D I c h)) vwCl (h + o, gX5 (mkG D I c h) h o) H) (at6 : ∀ o, o < 18 → va_at (gD (mkG D I c h)) vwCl (h + 269 + o, gX6 (mkG D I c h) (h + 269) o) H) (i : Nat) (hi : i < dom 0) : va_at (gD (mkG D I c h)) vwCl (gA (mkG D I c h) 0 i, gcell (mkG D I c h) sg0 0 i) H := by
  obtain rfl : i = 0 := by have q : i < 1 := hi; omega
  exact at5 0 (by decide)
theorem wd_1 (at5 : ∀ o, o < 269 → va_at (gD (mkG D I c h)) vwCl (h + o, gX5 (mkG D I c h) h o) H) (at6 : ∀ o, o < 18 → va_at (gD (mkG D I c h)) vwCl (h + 269 + o, gX6 (mkG D I c h) (h + 269) o) H) (i : Nat) (hi : i < dom 1) : va_at (gD (mkG D I c h)) vwCl (gA (mkG D I c h) 1 i, gcell (mkG D I c h) sg0 1 i) H := by
  obtain rfl : i = 0 := by have q : i < 1 := hi; omega
  exact at5 4 (by decide)
theorem wd_2 (at5 : ∀ o, o < 269 → va_at (gD (mkG D I c h)) vwCl (h + o, gX5 (mkG D I c h) h o) H) (at6 : ∀ o, o < 18 → va_at (gD (mkG D I c h)) vwCl (h + 269 + o, gX6 (mkG D I c h) (h + 269) o) H) (i : Nat) (hi : i < dom 2) : va_at (gD (mkG D I c h)) vwCl (gA (mkG D I c h) 2 i, gcell (mkG D I c h) sg0 2 i) H := by
  obtain rfl : i = 0 := by have q : i < 1 := hi; omega
  exact at5 66 (by decide)
theorem wd_3 (at5 : ∀ o, o < 269 → va_at (gD (mkG D I c h)) vwCl (h + o, gX5 (mkG D I c h) h o) H) (at6 : ∀ o, o < 18 → va_at (gD (mkG D I c h)) vwCl (h + 269 + o, gX6 (mkG D I c h) (h + 269) o) H) (i : Nat) (hi : i < dom 3) : va_at (gD (mkG D I c h)) vwCl (gA (mkG D I c h) 3 i, gcell (mkG D I c h) sg0 3 i) H := by
  obtain rfl : i = 0 := by have q : i < 1 := hi; omega
  exact at5 67 (by decide)
theorem wd_4 (at5 : ∀ o, o < 269 → va_at (gD (mkG D I c h)) vwCl (h + o, gX5 (mkG D I c h) h o) H) (at6 : ∀ o, o < 18 → va_at (gD (mkG D I c h)) vwCl (h + 269 + o, gX6 (mkG D I c h) (h + 269) o) H) (i : Nat) (hi : i < dom 4) : va_at (gD (mkG D I c h)) vwCl (gA (mkG D I c h) 4 i, gcell (mkG D I c h) sg0 4 i) H := by
  obtain rfl : i = 0 := by have q : i < 1 := hi; omega
  exact at5 5 (by decide)
theorem wd_5 (at5 : ∀ o, o < 269 → va_at (gD (mkG D I c h)) vwCl (h + o, gX5 (mkG D I c h) h o) H) (at6 : ∀ o, o < 18 → va_at (gD (mkG D I c h)) vwCl (h + 269 + o, gX6 (mkG D I c h) (h + 269) o) H) (i : Nat) (hi : i < dom 5) : va_at (gD (mkG D I c h)) vwCl (gA (mkG D I c h) 5 i, gcell (mkG D I c h) sg0 5 i) H := by
  obtain rfl : i = 0 := by have q : i < 1 := hi; omega
  refine at_q (n := 14) (c := c 3) (A := fun j => if j < 14 then some (h + 5 + (1 + 15 * 0) + 1 + j) else none) (at5 6 (by decide)) rfl (fun j hj => ?_)
  show (if j < 14 then some (h + 5 + (1 + 15 * 0) + 1 + j) else none) = some (h + (7 + j))
  rw [if_pos hj]
  congr 1
  omega
theorem wd_6 (at5 : ∀ o, o < 269 → va_at (gD (mkG D I c h)) vwCl (h + o, gX5 (mkG D I c h) h o) H) (at6 : ∀ o, o < 18 → va_at (gD (mkG D I c h)) vwCl (h + 269 + o, gX6 (mkG D I c h) (h + 269) o) H) (i : Nat) (hi : i < dom 6) : va_at (gD (mkG D I c h)) vwCl (gA (mkG D I c h) 6 i, gcell (mkG D I c h) sg0 6 i) H := by
  obtain rfl : i = 0 := by have q : i < 1 := hi; omega
  refine at_q (n := 14) (c := c 3) (A := fun j => if j < 14 then some (h + 5 + (1 + 15 * 1) + 1 + j) else none) (at5 21 (by decide)) rfl (fun j hj => ?_)
  show (if j < 14 then some (h + 5 + (1 + 15 * 1) + 1 + j) else none) = some (h + (22 + j))
  rw [if_pos hj]
  congr 1
  omega
theorem wd_7 (at5 : ∀ o, o < 269 → va_at (gD (mkG D I c h)) vwCl (h + o, gX5 (mkG D I c h) h o) H) (at6 : ∀ o, o < 18 → va_at (gD (mkG D I c h)) vwCl (h + 269 + o, gX6 (mkG D I c h) (h + 269) o) H) (i : Nat) (hi : i < dom 7) : va_at (gD (mkG D I c h)) vwCl (gA (mkG D I c h) 7 i, gcell (mkG D I c h) sg0 7 i) H := by
  obtain rfl : i = 0 := by have q : i < 1 := hi; omega
  refine at_q (n := 14) (c := c 3) (A := fun j => if j < 14 then some (h + 5 + (1 + 15 * 2) + 1 + j) else none) (at5 36 (by decide)) rfl (fun j hj => ?_)
  show (if j < 14 then some (h + 5 + (1 + 15 * 2) + 1 + j) else none) = some (h + (37 + j))
  rw [if_pos hj]
  congr 1
  omega
theorem wd_8 (at5 : ∀ o, o < 269 → va_at (gD (mkG D I c h)) vwCl (h + o, gX5 (mkG D I c h) h o) H) (at6 : ∀ o, o < 18 → va_at (gD (mkG D I c h)) vwCl (h + 269 + o, gX6 (mkG D I c h) (h + 269) o) H) (i : Nat) (hi : i < dom 8) : va_at (gD (mkG D I c h)) vwCl (gA (mkG D I c h) 8 i, gcell (mkG D I c h) sg0 8 i) H := by
  obtain rfl : i = 0 := by have q : i < 1 := hi; omega
  refine at_q (n := 14) (c := c 3) (A := fun j => if j < 14 then some (h + 5 + (1 + 15 * 3) + 1 + j) else none) (at5 51 (by decide)) rfl (fun j hj => ?_)
  show (if j < 14 then some (h + 5 + (1 + 15 * 3) + 1 + j) else none) = some (h + (52 + j))
  rw [if_pos hj]
  congr 1
  omega
theorem wd_9 (at5 : ∀ o, o < 269 → va_at (gD (mkG D I c h)) vwCl (h + o, gX5 (mkG D I c h) h o) H) (at6 : ∀ o, o < 18 → va_at (gD (mkG D I c h)) vwCl (h + 269 + o, gX6 (mkG D I c h) (h + 269) o) H) (i : Nat) (hi : i < dom 9) : va_at (gD (mkG D I c h)) vwCl (gA (mkG D I c h) 9 i, gcell (mkG D I c h) sg0 9 i) H := by
  have q : i < 14 := hi
  rw [gc_0 rfl (by decide) (by decide)]
  refine at_eq (at5 (5 + (1 + 15 * 0 + (1 + i))) (by omega)) (by show h + (5 + (1 + 15 * 0 + (1 + i))) = h + (7 + i); omega) ((bX5_5 rfl (1 + 15 * 0 + (1 + i)) (by omega)).trans (gX2_row 0 i q))
theorem wd_10 (at5 : ∀ o, o < 269 → va_at (gD (mkG D I c h)) vwCl (h + o, gX5 (mkG D I c h) h o) H) (at6 : ∀ o, o < 18 → va_at (gD (mkG D I c h)) vwCl (h + 269 + o, gX6 (mkG D I c h) (h + 269) o) H) (i : Nat) (hi : i < dom 10) : va_at (gD (mkG D I c h)) vwCl (gA (mkG D I c h) 10 i, gcell (mkG D I c h) sg0 10 i) H := by
  have q : i < 14 := hi
  rw [gc_0 rfl (by decide) (by decide)]
  refine at_eq (at5 (5 + (1 + 15 * 1 + (1 + i))) (by omega)) (by show h + (5 + (1 + 15 * 1 + (1 + i))) = h + (22 + i); omega) ((bX5_5 rfl (1 + 15 * 1 + (1 + i)) (by omega)).trans (gX2_row 1 i q))
theorem wd_11 (at5 : ∀ o, o < 269 → va_at (gD (mkG D I c h)) vwCl (h + o, gX5 (mkG D I c h) h o) H) (at6 : ∀ o, o < 18 → va_at (gD (mkG D I c h)) vwCl (h + 269 + o, gX6 (mkG D I c h) (h + 269) o) H) (i : Nat) (hi : i < dom 11) : va_at (gD (mkG D I c h)) vwCl (gA (mkG D I c h) 11 i, gcell (mkG D I c h) sg0 11 i) H := by
  have q : i < 14 := hi
  rw [gc_0 rfl (by decide) (by decide)]
  refine at_eq (at5 (5 + (1 + 15 * 2 + (1 + i))) (by omega)) (by show h + (5 + (1 + 15 * 2 + (1 + i))) = h + (37 + i); omega) ((bX5_5 rfl (1 + 15 * 2 + (1 + i)) (by omega)).trans (gX2_row 2 i q))
theorem wd_12 (at5 : ∀ o, o < 269 → va_at (gD (mkG D I c h)) vwCl (h + o, gX5 (mkG D I c h) h o) H) (at6 : ∀ o, o < 18 → va_at (gD (mkG D I c h)) vwCl (h + 269 + o, gX6 (mkG D I c h) (h + 269) o) H) (i : Nat) (hi : i < dom 12) : va_at (gD (mkG D I c h)) vwCl (gA (mkG D I c h) 12 i, gcell (mkG D I c h) sg0 12 i) H := by
  have q : i < 14 := hi
  rw [gc_0 rfl (by decide) (by decide)]
  refine at_eq (at5 (5 + (1 + 15 * 3 + (1 + i))) (by omega)) (by show h + (5 + (1 + 15 * 3 + (1 + i))) = h + (52 + i); omega) ((bX5_5 rfl (1 + 15 * 3 + (1 + i)) (by omega)).trans (gX2_row 3 i q))
theorem wd_13 (at5 : ∀ o, o < 269 → va_at (gD (mkG D I c h)) vwCl (h + o, gX5 (mkG D I c h) h o) H) (at6 : ∀ o, o < 18 → va_at (gD (mkG D I c h)) vwCl (h + 269 + o, gX6 (mkG D I c h) (h + 269) o) H) (i : Nat) (hi : i < dom 13) : va_at (gD (mkG D I c h)) vwCl (gA (mkG D I c h) 13 i, gcell (mkG D I c h) sg0 13 i) H := by
  obtain rfl : i = 0 := by have q : i < 1 := hi; omega
  refine at_q (n := 8) (c := c 2) (A := Ap h 8) (at5 68 (by decide)) rfl (fun j hj => ?_)
  exact if_pos hj
theorem wd_14 (at5 : ∀ o, o < 269 → va_at (gD (mkG D I c h)) vwCl (h + o, gX5 (mkG D I c h) h o) H) (at6 : ∀ o, o < 18 → va_at (gD (mkG D I c h)) vwCl (h + 269 + o, gX6 (mkG D I c h) (h + 269) o) H) (i : Nat) (hi : i < dom 14) : va_at (gD (mkG D I c h)) vwCl (gA (mkG D I c h) 14 i, gcell (mkG D I c h) sg0 14 i) H := by
  have q : i < 9 := hi
  match i, q with
  | 0, _ => exact at5 1 (by decide)
  | j + 1, q => exact at_eq (at5 (69 + 25 * j + 1) (by omega)) rfl ((bX5_s j rfl 1 (by decide)).trans rfl)
theorem wd_15 (at5 : ∀ o, o < 269 → va_at (gD (mkG D I c h)) vwCl (h + o, gX5 (mkG D I c h) h o) H) (at6 : ∀ o, o < 18 → va_at (gD (mkG D I c h)) vwCl (h + 269 + o, gX6 (mkG D I c h) (h + 269) o) H) (i : Nat) (hi : i < dom 15) : va_at (gD (mkG D I c h)) vwCl (gA (mkG D I c h) 15 i, gcell (mkG D I c h) sg0 15 i) H := by
  have q : i < 9 := hi
  match i, q with
  | 0, _ => exact at5 2 (by decide)
  | j + 1, q => exact at_eq (at5 (69 + 25 * j + 2) (by omega)) rfl ((bX5_s j rfl 2 (by decide)).trans rfl)
theorem wd_16 (at5 : ∀ o, o < 269 → va_at (gD (mkG D I c h)) vwCl (h + o, gX5 (mkG D I c h) h o) H) (at6 : ∀ o, o < 18 → va_at (gD (mkG D I c h)) vwCl (h + 269 + o, gX6 (mkG D I c h) (h + 269) o) H) (i : Nat) (hi : i < dom 16) : va_at (gD (mkG D I c h)) vwCl (gA (mkG D I c h) 16 i, gcell (mkG D I c h) sg0 16 i) H := by
  have q : i < 9 := hi
  match i, q with
  | 0, _ => exact at5 3 (by decide)
  | j + 1, q => exact at_eq (at5 (69 + 25 * j + 3) (by omega)) rfl ((bX5_s j rfl 3 (by decide)).trans rfl)
theorem wd_17 (at5 : ∀ o, o < 269 → va_at (gD (mkG D I c h)) vwCl (h + o, gX5 (mkG D I c h) h o) H) (at6 : ∀ o, o < 18 → va_at (gD (mkG D I c h)) vwCl (h + 269 + o, gX6 (mkG D I c h) (h + 269) o) H) (i : Nat) (hi : i < dom 17) : va_at (gD (mkG D I c h)) vwCl (gA (mkG D I c h) 17 i, gcell (mkG D I c h) sg0 17 i) H := by
  have q : i < 8 := hi
  exact at_eq (at5 (69 + 25 * i) (by omega)) rfl ((bX5_s i rfl 0 (by decide)).trans rfl)
theorem wd_18 (at5 : ∀ o, o < 269 → va_at (gD (mkG D I c h)) vwCl (h + o, gX5 (mkG D I c h) h o) H) (at6 : ∀ o, o < 18 → va_at (gD (mkG D I c h)) vwCl (h + 269 + o, gX6 (mkG D I c h) (h + 269) o) H) (i : Nat) (hi : i < dom 18) : va_at (gD (mkG D I c h)) vwCl (gA (mkG D I c h) 18 i, gcell (mkG D I c h) sg0 18 i) H := by
  have q : i < 8 := hi
  have e : gX5 (mkG D I c h) h (69 + 25 * i + 4) = .inl (c 3, 14, .inr (.inr (.inr (.inr (fun j => if j < 14 then some (h + (69 + 25 * i) + 4 + 1 + j) else none))))) := (bX5_s i rfl 4 (by decide)).trans rfl
  refine at_q (n := 14) (c := c 3) (at_eq (at5 (69 + 25 * i + 4) (by omega)) rfl e) rfl (fun j hj => ?_)
  show (if j < 14 then some (h + (69 + 25 * i) + 4 + 1 + j) else none) = some (h + (69 + 25 * ((14 * i + j) / 14) + (5 + (14 * i + j) % 14)))
  rw [if_pos hj]
  congr 1
  omega
theorem wd_19 (at5 : ∀ o, o < 269 → va_at (gD (mkG D I c h)) vwCl (h + o, gX5 (mkG D I c h) h o) H) (at6 : ∀ o, o < 18 → va_at (gD (mkG D I c h)) vwCl (h + 269 + o, gX6 (mkG D I c h) (h + 269) o) H) (i : Nat) (hi : i < dom 19) : va_at (gD (mkG D I c h)) vwCl (gA (mkG D I c h) 19 i, gcell (mkG D I c h) sg0 19 i) H := by
  have q : i < 112 := hi
  rw [gc_0 rfl (by decide) (by decide)]
  exact at_eq (at5 (69 + 25 * (i / 14) + (5 + i % 14)) (by omega)) rfl ((bX5_s (i / 14) rfl (5 + i % 14) (by omega)).trans (gX3_row (i % 14) (by omega)))
theorem wd_20 (at5 : ∀ o, o < 269 → va_at (gD (mkG D I c h)) vwCl (h + o, gX5 (mkG D I c h) h o) H) (at6 : ∀ o, o < 18 → va_at (gD (mkG D I c h)) vwCl (h + 269 + o, gX6 (mkG D I c h) (h + 269) o) H) (i : Nat) (hi : i < dom 20) : va_at (gD (mkG D I c h)) vwCl (gA (mkG D I c h) 20 i, gcell (mkG D I c h) sg0 20 i) H := by
  have q : i < 8 := hi
  rw [gc_0 rfl (by decide) (by decide)]
  exact at_eq (at5 (69 + 25 * i + 19) (by omega)) rfl ((bX5_s i rfl 19 (by decide)).trans rfl)
theorem wd_21 (at5 : ∀ o, o < 269 → va_at (gD (mkG D I c h)) vwCl (h + o, gX5 (mkG D I c h) h o) H) (at6 : ∀ o, o < 18 → va_at (gD (mkG D I c h)) vwCl (h + 269 + o, gX6 (mkG D I c h) (h + 269) o) H) (i : Nat) (hi : i < dom 21) : va_at (gD (mkG D I c h)) vwCl (gA (mkG D I c h) 21 i, gcell (mkG D I c h) sg0 21 i) H := by
  have q : i < 8 := hi
  rw [gc_0 rfl (by decide) (by decide)]
  exact at_eq (at5 (69 + 25 * i + 20) (by omega)) rfl ((bX5_s i rfl 20 (by decide)).trans rfl)
theorem wd_22 (at5 : ∀ o, o < 269 → va_at (gD (mkG D I c h)) vwCl (h + o, gX5 (mkG D I c h) h o) H) (at6 : ∀ o, o < 18 → va_at (gD (mkG D I c h)) vwCl (h + 269 + o, gX6 (mkG D I c h) (h + 269) o) H) (i : Nat) (hi : i < dom 22) : va_at (gD (mkG D I c h)) vwCl (gA (mkG D I c h) 22 i, gcell (mkG D I c h) sg0 22 i) H := by
  have q : i < 8 := hi
  rw [gc_0 rfl (by decide) (by decide)]
  exact at_eq (at5 (69 + 25 * i + 21) (by omega)) rfl ((bX5_s i rfl 21 (by decide)).trans rfl)
theorem wd_23 (at5 : ∀ o, o < 269 → va_at (gD (mkG D I c h)) vwCl (h + o, gX5 (mkG D I c h) h o) H) (at6 : ∀ o, o < 18 → va_at (gD (mkG D I c h)) vwCl (h + 269 + o, gX6 (mkG D I c h) (h + 269) o) H) (i : Nat) (hi : i < dom 23) : va_at (gD (mkG D I c h)) vwCl (gA (mkG D I c h) 23 i, gcell (mkG D I c h) sg0 23 i) H := by
  have q : i < 8 := hi
  rw [gc_0 rfl (by decide) (by decide)]
  exact at_eq (at5 (69 + 25 * i + 22) (by omega)) rfl ((bX5_s i rfl 22 (by decide)).trans rfl)
theorem wd_24 (at5 : ∀ o, o < 269 → va_at (gD (mkG D I c h)) vwCl (h + o, gX5 (mkG D I c h) h o) H) (at6 : ∀ o, o < 18 → va_at (gD (mkG D I c h)) vwCl (h + 269 + o, gX6 (mkG D I c h) (h + 269) o) H) (i : Nat) (hi : i < dom 24) : va_at (gD (mkG D I c h)) vwCl (gA (mkG D I c h) 24 i, gcell (mkG D I c h) sg0 24 i) H := by
  have q : i < 8 := hi
  rw [gc_0 rfl (by decide) (by decide)]
  exact at_eq (at5 (69 + 25 * i + 23) (by omega)) rfl ((bX5_s i rfl 23 (by decide)).trans rfl)
theorem wd_25 (at5 : ∀ o, o < 269 → va_at (gD (mkG D I c h)) vwCl (h + o, gX5 (mkG D I c h) h o) H) (at6 : ∀ o, o < 18 → va_at (gD (mkG D I c h)) vwCl (h + 269 + o, gX6 (mkG D I c h) (h + 269) o) H) (i : Nat) (hi : i < dom 25) : va_at (gD (mkG D I c h)) vwCl (gA (mkG D I c h) 25 i, gcell (mkG D I c h) sg0 25 i) H := by
  have q : i < 8 := hi
  rw [gc_0 rfl (by decide) (by decide)]
  exact at_eq (at5 (69 + 25 * i + 24) (by omega)) rfl ((bX5_s i rfl 24 (by decide)).trans rfl)
theorem wd_30 (at5 : ∀ o, o < 269 → va_at (gD (mkG D I c h)) vwCl (h + o, gX5 (mkG D I c h) h o) H) (at6 : ∀ o, o < 18 → va_at (gD (mkG D I c h)) vwCl (h + 269 + o, gX6 (mkG D I c h) (h + 269) o) H) (i : Nat) (hi : i < dom 30) : va_at (gD (mkG D I c h)) vwCl (gA (mkG D I c h) 30 i, gcell (mkG D I c h) sg0 30 i) H := by
  obtain rfl : i = 0 := by have q : i < 1 := hi; omega
  exact at6 0 (by decide)
theorem wd_31 (at5 : ∀ o, o < 269 → va_at (gD (mkG D I c h)) vwCl (h + o, gX5 (mkG D I c h) h o) H) (at6 : ∀ o, o < 18 → va_at (gD (mkG D I c h)) vwCl (h + 269 + o, gX6 (mkG D I c h) (h + 269) o) H) (i : Nat) (hi : i < dom 31) : va_at (gD (mkG D I c h)) vwCl (gA (mkG D I c h) 31 i, gcell (mkG D I c h) sg0 31 i) H := by
  obtain rfl : i = 0 := by have q : i < 1 := hi; omega
  exact at6 1 (by decide)
theorem wd_32 (at5 : ∀ o, o < 269 → va_at (gD (mkG D I c h)) vwCl (h + o, gX5 (mkG D I c h) h o) H) (at6 : ∀ o, o < 18 → va_at (gD (mkG D I c h)) vwCl (h + 269 + o, gX6 (mkG D I c h) (h + 269) o) H) (i : Nat) (hi : i < dom 32) : va_at (gD (mkG D I c h)) vwCl (gA (mkG D I c h) 32 i, gcell (mkG D I c h) sg0 32 i) H := by
  obtain rfl : i = 0 := by have q : i < 1 := hi; omega
  exact at6 2 (by decide)
theorem wd_33 (at5 : ∀ o, o < 269 → va_at (gD (mkG D I c h)) vwCl (h + o, gX5 (mkG D I c h) h o) H) (at6 : ∀ o, o < 18 → va_at (gD (mkG D I c h)) vwCl (h + 269 + o, gX6 (mkG D I c h) (h + 269) o) H) (i : Nat) (hi : i < dom 33) : va_at (gD (mkG D I c h)) vwCl (gA (mkG D I c h) 33 i, gcell (mkG D I c h) sg0 33 i) H := by
  obtain rfl : i = 0 := by have q : i < 1 := hi; omega
  exact at6 3 (by decide)
theorem wd_34 (at5 : ∀ o, o < 269 → va_at (gD (mkG D I c h)) vwCl (h + o, gX5 (mkG D I c h) h o) H) (at6 : ∀ o, o < 18 → va_at (gD (mkG D I c h)) vwCl (h + 269 + o, gX6 (mkG D I c h) (h + 269) o) H) (i : Nat) (hi : i < dom 34) : va_at (gD (mkG D I c h)) vwCl (gA (mkG D I c h) 34 i, gcell (mkG D I c h) sg0 34 i) H := by
  obtain rfl : i = 0 := by have q : i < 1 := hi; omega
  exact at6 4 (by decide)
theorem wd_35 (at5 : ∀ o, o < 269 → va_at (gD (mkG D I c h)) vwCl (h + o, gX5 (mkG D I c h) h o) H) (at6 : ∀ o, o < 18 → va_at (gD (mkG D I c h)) vwCl (h + 269 + o, gX6 (mkG D I c h) (h + 269) o) H) (i : Nat) (hi : i < dom 35) : va_at (gD (mkG D I c h)) vwCl (gA (mkG D I c h) 35 i, gcell (mkG D I c h) sg0 35 i) H := by
  obtain rfl : i = 0 := by have q : i < 1 := hi; omega
  exact at6 5 (by decide)
theorem wd_36 (at5 : ∀ o, o < 269 → va_at (gD (mkG D I c h)) vwCl (h + o, gX5 (mkG D I c h) h o) H) (at6 : ∀ o, o < 18 → va_at (gD (mkG D I c h)) vwCl (h + 269 + o, gX6 (mkG D I c h) (h + 269) o) H) (i : Nat) (hi : i < dom 36) : va_at (gD (mkG D I c h)) vwCl (gA (mkG D I c h) 36 i, gcell (mkG D I c h) sg0 36 i) H := by
  obtain rfl : i = 0 := by have q : i < 1 := hi; omega
  exact at6 6 (by decide)
theorem wd_37 (at5 : ∀ o, o < 269 → va_at (gD (mkG D I c h)) vwCl (h + o, gX5 (mkG D I c h) h o) H) (at6 : ∀ o, o < 18 → va_at (gD (mkG D I c h)) vwCl (h + 269 + o, gX6 (mkG D I c h) (h + 269) o) H) (i : Nat) (hi : i < dom 37) : va_at (gD (mkG D I c h)) vwCl (gA (mkG D I c h) 37 i, gcell (mkG D I c h) sg0 37 i) H := by
  obtain rfl : i = 0 := by have q : i < 1 := hi; omega
  exact at6 7 (by decide)
theorem wd_38 (at5 : ∀ o, o < 269 → va_at (gD (mkG D I c h)) vwCl (h + o, gX5 (mkG D I c h) h o) H) (at6 : ∀ o, o < 18 → va_at (gD (mkG D I c h)) vwCl (h + 269 + o, gX6 (mkG D I c h) (h + 269) o) H) (i : Nat) (hi : i < dom 38) : va_at (gD (mkG D I c h)) vwCl (gA (mkG D I c h) 38 i, gcell (mkG D I c h) sg0 38 i) H := by
  obtain rfl : i = 0 := by have q : i < 1 := hi; omega
  exact at6 8 (by decide)
theorem wd_39 (at5 : ∀ o, o < 269 → va_at (gD (mkG D I c h)) vwCl (h + o, gX5 (mkG D I c h) h o) H) (at6 : ∀ o, o < 18 → va_at (gD (mkG D I c h)) vwCl (h + 269 + o, gX6 (mkG D I c h) (h + 269) o) H) (i : Nat) (hi : i < dom 39) : va_at (gD (mkG D I c h)) vwCl (gA (mkG D I c h) 39 i, gcell (mkG D I c h) sg0 39 i) H := by
  obtain rfl : i = 0 := by have q : i < 1 := hi; omega
  exact at6 9 (by decide)
theorem wd_40 (at5 : ∀ o, o < 269 → va_at (gD (mkG D I c h)) vwCl (h + o, gX5 (mkG D I c h) h o) H) (at6 : ∀ o, o < 18 → va_at (gD (mkG D I c h)) vwCl (h + 269 + o, gX6 (mkG D I c h) (h + 269) o) H) (i : Nat) (hi : i < dom 40) : va_at (gD (mkG D I c h)) vwCl (gA (mkG D I c h) 40 i, gcell (mkG D I c h) sg0 40 i) H := by
  obtain rfl : i = 0 := by have q : i < 1 := hi; omega
  exact at6 10 (by decide)
theorem wd_41 (at5 : ∀ o, o < 269 → va_at (gD (mkG D I c h)) vwCl (h + o, gX5 (mkG D I c h) h o) H) (at6 : ∀ o, o < 18 → va_at (gD (mkG D I c h)) vwCl (h + 269 + o, gX6 (mkG D I c h) (h + 269) o) H) (i : Nat) (hi : i < dom 41) : va_at (gD (mkG D I c h)) vwCl (gA (mkG D I c h) 41 i, gcell (mkG D I c h) sg0 41 i) H := by
  obtain rfl : i = 0 := by have q : i < 1 := hi; omega
  exact at6 11 (by decide)
theorem wd_42 (at5 : ∀ o, o < 269 → va_at (gD (mkG D I c h)) vwCl (h + o, gX5 (mkG D I c h) h o) H) (at6 : ∀ o, o < 18 → va_at (gD (mkG D I c h)) vwCl (h + 269 + o, gX6 (mkG D I c h) (h + 269) o) H) (i : Nat) (hi : i < dom 42) : va_at (gD (mkG D I c h)) vwCl (gA (mkG D I c h) 42 i, gcell (mkG D I c h) sg0 42 i) H := by
  obtain rfl : i = 0 := by have q : i < 1 := hi; omega
  exact at6 12 (by decide)
theorem wd_43 (at5 : ∀ o, o < 269 → va_at (gD (mkG D I c h)) vwCl (h + o, gX5 (mkG D I c h) h o) H) (at6 : ∀ o, o < 18 → va_at (gD (mkG D I c h)) vwCl (h + 269 + o, gX6 (mkG D I c h) (h + 269) o) H) (i : Nat) (hi : i < dom 43) : va_at (gD (mkG D I c h)) vwCl (gA (mkG D I c h) 43 i, gcell (mkG D I c h) sg0 43 i) H := by
  obtain rfl : i = 0 := by have q : i < 1 := hi; omega
  exact at6 13 (by decide)
theorem wd_44 (at5 : ∀ o, o < 269 → va_at (gD (mkG D I c h)) vwCl (h + o, gX5 (mkG D I c h) h o) H) (at6 : ∀ o, o < 18 → va_at (gD (mkG D I c h)) vwCl (h + 269 + o, gX6 (mkG D I c h) (h + 269) o) H) (i : Nat) (hi : i < dom 44) : va_at (gD (mkG D I c h)) vwCl (gA (mkG D I c h) 44 i, gcell (mkG D I c h) sg0 44 i) H := by
  obtain rfl : i = 0 := by have q : i < 1 := hi; omega
  exact at6 14 (by decide)
theorem wd_45 (at5 : ∀ o, o < 269 → va_at (gD (mkG D I c h)) vwCl (h + o, gX5 (mkG D I c h) h o) H) (at6 : ∀ o, o < 18 → va_at (gD (mkG D I c h)) vwCl (h + 269 + o, gX6 (mkG D I c h) (h + 269) o) H) (i : Nat) (hi : i < dom 45) : va_at (gD (mkG D I c h)) vwCl (gA (mkG D I c h) 45 i, gcell (mkG D I c h) sg0 45 i) H := by
  obtain rfl : i = 0 := by have q : i < 1 := hi; omega
  exact at6 15 (by decide)
theorem wd_46 (at5 : ∀ o, o < 269 → va_at (gD (mkG D I c h)) vwCl (h + o, gX5 (mkG D I c h) h o) H) (at6 : ∀ o, o < 18 → va_at (gD (mkG D I c h)) vwCl (h + 269 + o, gX6 (mkG D I c h) (h + 269) o) H) (i : Nat) (hi : i < dom 46) : va_at (gD (mkG D I c h)) vwCl (gA (mkG D I c h) 46 i, gcell (mkG D I c h) sg0 46 i) H := by
  obtain rfl : i = 0 := by have q : i < 1 := hi; omega
  exact at6 16 (by decide)
theorem wd_47 (at5 : ∀ o, o < 269 → va_at (gD (mkG D I c h)) vwCl (h + o, gX5 (mkG D I c h) h o) H) (at6 : ∀ o, o < 18 → va_at (gD (mkG D I c h)) vwCl (h + 269 + o, gX6 (mkG D I c h) (h + 269) o) H) (i : Nat) (hi : i < dom 47) : va_at (gD (mkG D I c h)) vwCl (gA (mkG D I c h) 47 i, gcell (mkG D I c h) sg0 47 i) H := by
  obtain rfl : i = 0 := by have q : i < 1 := hi; omega
  exact at6 17 (by decide)
theorem wd_0all (at5 : ∀ o, o < 269 → va_at (gD (mkG D I c h)) vwCl (h + o, gX5 (mkG D I c h) h o) H) (at6 : ∀ o, o < 18 → va_at (gD (mkG D I c h)) vwCl (h + 269 + o, gX6 (mkG D I c h) (h + 269) o) H) : wd (mkG D I c h) sg0 H := fun k i hi => by
  have hk := dom_lt hi
  match k, hk, hi with
  | 0, _, hi => exact wd_0 at5 at6 i hi
  | 1, _, hi => exact wd_1 at5 at6 i hi
  | 2, _, hi => exact wd_2 at5 at6 i hi
  | 3, _, hi => exact wd_3 at5 at6 i hi
  | 4, _, hi => exact wd_4 at5 at6 i hi
  | 5, _, hi => exact wd_5 at5 at6 i hi
  | 6, _, hi => exact wd_6 at5 at6 i hi
  | 7, _, hi => exact wd_7 at5 at6 i hi
  | 8, _, hi => exact wd_8 at5 at6 i hi
  | 9, _, hi => exact wd_9 at5 at6 i hi
  | 10, _, hi => exact wd_10 at5 at6 i hi
  | 11, _, hi => exact wd_11 at5 at6 i hi
  | 12, _, hi => exact wd_12 at5 at6 i hi
  | 13, _, hi => exact wd_13 at5 at6 i hi
  | 14, _, hi => exact wd_14 at5 at6 i hi
  | 15, _, hi => exact wd_15 at5 at6 i hi
  | 16, _, hi => exact wd_16 at5 at6 i hi
  | 17, _, hi => exact wd_17 at5 at6 i hi
  | 18, _, hi => exact wd_18 at5 at6 i hi
  | 19, _, hi => exact wd_19 at5 at6 i hi
  | 20, _, hi => exact wd_20 at5 at6 i hi
  | 21, _, hi => exact wd_21 at5 at6 i hi
  | 22, _, hi => exact wd_22 at5 at6 i hi
  | 23, _, hi => exact wd_23 at5 at6 i hi
  | 24, _, hi => exact wd_24 at5 at6 i hi
  | 25, _, hi => exact wd_25 at5 at6 i hi
  | 26, _, hi => exact absurd hi (Nat.not_lt_zero _)
  | 27, _, hi => exact absurd hi (Nat.not_lt_zero _)
  | 28, _, hi => exact absurd hi (Nat.not_lt_zero _)
  | 29, _, hi => exact absurd hi (Nat.not_lt_zero _)
  | 30, _, hi => exact wd_30 at5 at6 i hi
  | 31, _, hi => exact wd_31 at5 at6 i hi
  | 32, _, hi => exact wd_32 at5 at6 i hi
  | 33, _, hi => exact wd_33 at5 at6 i hi
  | 34, _, hi => exact wd_34 at5 at6 i hi
  | 35, _, hi => exact wd_35 at5 at6 i hi
  | 36, _, hi => exact wd_36 at5 at6 i hi
  | 37, _, hi => exact wd_37 at5 at6 i hi
  | 38, _, hi => exact wd_38 at5 at6 i hi
  | 39, _, hi => exact wd_39 at5 at6 i hi
  | 40, _, hi => exact wd_40 at5 at6 i hi
  | 41, _, hi => exact wd_41 at5 at6 i hi
  | 42, _, hi => exact wd_42 at5 at6 i hi
  | 43, _, hi => exact wd_43 at5 at6 i hi
  | 44, _, hi => exact wd_44 at5 at6 i hi
  | 45, _, hi => exact wd_45 at5 at6 i hi
  | 46, _, hi => exact wd_46 at5 at6 i hi
  | 47, _, hi => exact wd_47 at5 at6 i hi
  | k + 48, hk, _ => exact absurd hk (by omega)
end WDB
