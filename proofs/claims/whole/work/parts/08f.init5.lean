def bX5 (G : Gx) (h : Nat) (A : Nat → Option Nat) : Nat → va_E := fun o => if o < 4 then gX1 G (h + 1) (o - 1) else if o < 5 then gX0 0 (o - 4) else if o < 66 then gX2 G (h + 5) (o - 5) else if o < 68 then gX4 G (h + 66) (o - 66) else if o < 69 then .inl (gC G 2, 8, .inr (.inr (.inr (.inr A)))) else gX3 G (h + (69 + 25 * ((o - 69) / 25))) ((o - 69) % 25)
def Ap (h p : Nat) : Nat → Option Nat := fun j => if j < p then some (h + (69 + 25 * j)) else none
def gX5 (G : Gx) (h : Nat) : Nat → va_E := ob 5 [.ref (h + 1), .ref (h + 4), .ref (h + 5), .ref (h + 66), .ref (h + 68), .int 0] (bX5 G h (Ap h 8))
theorem Ap_0 {h : Nat} : Ap h 0 = fun _ => none := funext fun j => if_neg (Nat.not_lt_zero j)
theorem Ap_s {h p : Nat} (q : Nat) : Ap h (p + 1) q = if q = p then some (h + (69 + 25 * p)) else Ap h p q := by
  unfold Ap
  by_cases e : q = p
  · rw [if_pos e, if_pos (by omega), e]
  · rw [if_neg e]
    by_cases e2 : q < p
    · rw [if_pos e2, if_pos (by omega)]
    · rw [if_neg e2, if_neg (by omega)]
section B5
variable {G : Gx} {h m : Nat} {fs : List Value} {A A' : Nat → Option Nat}
theorem bX5_1 : ∀ o, o < 3 → ob 5 fs (bX5 G h A) (1 + o) = gX1 G (h + 1) o := fun o ho => by
  rw [ob_s (by omega)]
  unfold bX5
  rw [if_pos (by omega), show 1 + o - 1 = o by omega]
theorem bX5_4 (hm : m = 4) : ∀ o, o < 1 → ob 5 fs (bX5 G h A) (m + o) = gX0 (h + m) o := fun o ho => by
  subst hm
  rw [ob_s (by omega)]
  unfold bX5
  rw [if_neg (by omega), if_pos (by omega), show 4 + o - 4 = o by omega]
  rfl
theorem bX5_5 (hm : m = 5) : ∀ o, o < 61 → ob 5 fs (bX5 G h A) (m + o) = gX2 G (h + m) o := fun o ho => by
  subst hm
  rw [ob_s (by omega)]
  unfold bX5
  rw [if_neg (by omega), if_neg (by omega), if_pos (by omega), show 5 + o - 5 = o by omega]
theorem bX5_66 (hm : m = 66) : ∀ o, o < 2 → ob 5 fs (bX5 G h A) (m + o) = gX4 G (h + m) o := fun o ho => by
  subst hm
  rw [ob_s (by omega)]
  unfold bX5
  rw [if_neg (by omega), if_neg (by omega), if_neg (by omega), if_pos (by omega), show 66 + o - 66 = o by omega]
theorem bX5_68 (hm : m = 68) : ob 5 fs (bX5 G h A) m = .inl (gC G 2, 8, .inr (.inr (.inr (.inr A)))) := by
  subst hm
  rw [ob_s (by omega)]
  unfold bX5
  rw [if_neg (by omega), if_neg (by omega), if_neg (by omega), if_neg (by omega), if_pos (by omega)]
theorem bX5_s (p : Nat) (hm : m = 69 + 25 * p) : ∀ o, o < 25 → ob 5 fs (bX5 G h A) (m + o) = gX3 G (h + m) o := fun o ho => by
  subst hm
  rw [ob_s (by omega)]
  unfold bX5
  rw [if_neg (by omega), if_neg (by omega), if_neg (by omega), if_neg (by omega), if_neg (by omega), show (69 + 25 * p + o - 69) / 25 = p by omega, show (69 + 25 * p + o - 69) % 25 = o by omega]
theorem bX5_up (q : Nat) : ob 5 fs (bX5 G h A') q = if q = 68 then .inl (gC G 2, 8, .inr (.inr (.inr (.inr A')))) else ob 5 fs (bX5 G h A) q := by
  by_cases e : q = 68
  · rw [if_pos e, bX5_68 e]
  · rw [if_neg e]
    by_cases z : q = 0
    · rw [z, ob_0, ob_0]
    · rw [ob_s z, ob_s z]
      unfold bX5
      by_cases e2 : q < 68
      · rw [if_pos e2, if_pos e2]
      · rw [if_neg (show ¬ q < 69 by omega), if_neg (show ¬ q < 69 by omega)]
end B5
theorem mk_X5_ob : Cond.methodLink RX5 1 objectInit ∈ wsX5_init := by decide +kernel
theorem mk_X5_oi : Cond.instanceMethod objectInit ∈ wsX5_init := by decide +kernel
theorem mk_X5_oc : Cond.code objectInit ⟨#[0xb1]⟩ 1 none ∈ wsX5_init := by decide +kernel
theorem mk_X5_cl7 : Cond.classLink RX5 7 RX1 ∈ wsX5_init := by decide +kernel
theorem mk_X5_iaX1 : Cond.instantiable RX1 3 ∈ wsX5_init := by decide +kernel
theorem mk_X5_izX1 : Cond.initialized RX1 ∈ wsX5_init := by decide +kernel
theorem mk_X5_iyX1 : Cond.initialized yX1_init.cls ∈ wsX5_init := by decide +kernel
theorem mk_X5_imX1 : Cond.instanceMethod yX1_init ∈ wsX5_init := by decide +kernel
theorem mk_X5_in_X1 : ∀ w ∈ wsX10, w ∈ wsX5_init := by decide +kernel
theorem mk_X5_f10 : Cond.fieldLink RX5 10 "PolyCuts" "row" "LPolyCuts$Corners;" ∈ wsX5_init := by decide +kernel
theorem mk_X5_in_X5 : ∀ w ∈ wsX50, w ∈ wsX5_init := by decide +kernel
theorem mk_X5_cl16 : Cond.classLink RX5 16 RX0 ∈ wsX5_init := by decide +kernel
theorem mk_X5_iaX0 : Cond.instantiable RX0 3 ∈ wsX5_init := by decide +kernel
theorem mk_X5_izX0 : Cond.initialized RX0 ∈ wsX5_init := by decide +kernel
theorem mk_X5_iyX0 : Cond.initialized yX0_init.cls ∈ wsX5_init := by decide +kernel
theorem mk_X5_imX0 : Cond.instanceMethod yX0_init ∈ wsX5_init := by decide +kernel
theorem mk_X5_in_X0 : ∀ w ∈ wsX00, w ∈ wsX5_init := by decide +kernel
theorem mk_X5_f19 : Cond.fieldLink RX5 19 "PolyCuts" "check" "LPolyCuts$Check;" ∈ wsX5_init := by decide +kernel
theorem mk_X5_cl23 : Cond.classLink RX5 23 RX2 ∈ wsX5_init := by decide +kernel
theorem mk_X5_iaX2 : Cond.instantiable RX2 4 ∈ wsX5_init := by decide +kernel
theorem mk_X5_izX2 : Cond.initialized RX2 ∈ wsX5_init := by decide +kernel
theorem mk_X5_iyX2 : Cond.initialized yX2_init.cls ∈ wsX5_init := by decide +kernel
theorem mk_X5_imX2 : Cond.instanceMethod yX2_init ∈ wsX5_init := by decide +kernel
theorem mk_X5_in_X2 : ∀ w ∈ wsX20, w ∈ wsX5_init := by decide +kernel
theorem mk_X5_f26 : Cond.fieldLink RX5 26 "PolyCuts" "cutter" "LPolyCuts$Cutter;" ∈ wsX5_init := by decide +kernel
theorem mk_X5_cl30 : Cond.classLink RX5 30 RX4 ∈ wsX5_init := by decide +kernel
theorem mk_X5_iaX4 : Cond.instantiable RX4 1 ∈ wsX5_init := by decide +kernel
theorem mk_X5_izX4 : Cond.initialized RX4 ∈ wsX5_init := by decide +kernel
theorem mk_X5_iyX4 : Cond.initialized yX4_init.cls ∈ wsX5_init := by decide +kernel
theorem mk_X5_imX4 : Cond.instanceMethod yX4_init ∈ wsX5_init := by decide +kernel
theorem mk_X5_in_X4 : ∀ w ∈ wsX40, w ∈ wsX5_init := by decide +kernel
theorem mk_X5_f33 : Cond.fieldLink RX5 33 "PolyCuts" "walk" "LPolyCuts$Walk;" ∈ wsX5_init := by decide +kernel
theorem mk_X5_cl37 : Cond.classLink RX5 37 RX3 ∈ wsX5_init := by decide +kernel
theorem mk_X5_f39 : Cond.fieldLink RX5 39 "PolyCuts" "shapes" "[LPolyCuts$Shape;" ∈ wsX5_init := by decide +kernel
theorem mk_X5_iaX3 : Cond.instantiable RX3 12 ∈ wsX5_init := by decide +kernel
theorem mk_X5_izX3 : Cond.initialized RX3 ∈ wsX5_init := by decide +kernel
theorem mk_X5_iyX3 : Cond.initialized yX3_init.cls ∈ wsX5_init := by decide +kernel
theorem mk_X5_imX3 : Cond.instanceMethod yX3_init ∈ wsX5_init := by decide +kernel
theorem mk_X5_in_X3 : ∀ w ∈ wsX30, w ∈ wsX5_init := by decide +kernel
theorem mk_X5_f44 : Cond.fieldLink RX5 44 "PolyCuts" "shapeCount" "I" ∈ wsX5_init := by decide +kernel
set_option maxHeartbeats 4000000 in
set_option maxRecDepth 100000 in
theorem x5_loop {K : Kx} {G : Gx} {h : Nat} (C : CB K G cX5_init 2 yX5_init.cls wsX5_init (rmc 3 268 3597)) (I : CI K) : ∀ (n p : Nat), p + n = 8 → WC K G h 2 (QC K G h 269 (gX5 G h) 268 3597) (69 + 25 * p) (ob 5 [.ref (h + 1), .ref (h + 4), .ref (h + 5), .ref (h + 66), .ref (h + 68), .int 0] (bX5 G h (Ap h p))) (68 + 25 * p) (901 + 337 * p) [(1, .int (nI p)), (0, .ref h)] 59 []
  | 0, p, hp => by
    have h8 : p = 8 := by omega
    subst h8
    refine wc_iload_n C dX5_init_59 rfl 0 rfl ?_
    refine wc_bipush (v := 8) C dX5_init_60 (by decide) ?_
    refine wc_icmp_ge 84 C dX5_init_62 (by decide) (fun _ => ?_) (fun q => absurd (by decide) q)
    refine wc_aload_n C dX5_init_84 rfl 1 rfl ?_
    refine wc_iconst (v := 0) C dX5_init_85 (by decide) ?_
    refine wc_putI (ci := 5) (k := 5) C (by decide) rfl mk_X5_in_X5 tyX5_ok nmX5 (by decide) mk_X5_f44 rfl rfl rfl rfl (Nat.le_of_ble_eq_true rfl) dX5_init_86 ?_
    exact wc_vret C I (by decide) (by decide) dX5_init_89 rfl (fun o _ => rfl)
  | n + 1, p, hp => by
    have h8 : p < 8 := by omega
    refine wc_iload_n C dX5_init_59 rfl 0 rfl ?_
    refine wc_bipush (v := 8) C dX5_init_60 (by decide) ?_
    refine wc_icmp_ge 84 C dX5_init_62 (by decide) (fun q => ?_) (fun _ => ?_)
    · exfalso
      revert q
      rcases (show p = 0 ∨ p = 1 ∨ p = 2 ∨ p = 3 ∨ p = 4 ∨ p = 5 ∨ p = 6 ∨ p = 7 by omega) with rfl | rfl | rfl | rfl | rfl | rfl | rfl | rfl <;> decide
    refine wc_aload_n C dX5_init_65 rfl 1 rfl ?_
    refine wc_get (ci := 5) (k := 4) (v := .ref (h + 68)) C (by omega) rfl mk_X5_in_X5 (by decide) mk_X5_f39 rfl dX5_init_66 ?_
    refine wc_iload_n C dX5_init_69 rfl 0 rfl ?_
    refine wc_make (ci := 3) (d := 2) (mc := 24) (ms := 325) (n := 25) (fs := [.null, .null, .int 0, .int 0, .int 0, .int 0, .null, .null, .null, .null, .null, .null]) C (c_X3_init _ G _) rfl mk_X5_in_X3 tyX3_ok mk_X5_cl37 mk_X5_iaX3 mk_X5_izX3 dvX3 (by show _ ≤ 268; omega) (by show _ ≤ 3597; omega) dX5_init_70 dX5_init_73 dX5_init_74 gX5_init_X3_init_n43 rfl C.2.1.2.2.2.2.2.2.2.1 mk_X5_iyX3 rfl (by decide +kernel) mk_X5_imX3 ⟨by decide, by decide⟩ (Nat.le_of_ble_eq_true rfl) (bX5_s p rfl) ?_
    refine wc_aast (o := 68) (ov := 69 + 25 * p) (j := p) (A := Ap h p) (A' := Ap h (p + 1)) (f' := ob 5 [.ref (h + 1), .ref (h + 4), .ref (h + 5), .ref (h + 66), .ref (h + 68), .int 0] (bX5 G h (Ap h (p + 1)))) C (by omega) (by omega) (bX5_68 rfl) ((bX5_s p rfl 0 (by decide)).trans ob_0) rfl h8 Ap_s (fun q _ => bX5_up q) dX5_init_77 ?_
    refine wc_iinc (v := nI (p + 1)) (q := 0) (L' := [(1, .int (nI (p + 1))), (0, .ref h)]) C dX5_init_78 rfl (nI_1 p) (by decide) rfl ?_
    refine wc_goto 59 C dX5_init_81 (by decide) ?_
    have ih := x5_loop (h := h) C I n (p + 1) (by omega)
    rw [show 69 + 25 * (p + 1) = 69 + 25 * p + 25 by omega, show 68 + 25 * (p + 1) = 68 + 25 * p + 1 + 24 by omega, show 901 + 337 * (p + 1) = 901 + 337 * p + 12 + 325 by omega] at ih
    exact ih
set_option maxHeartbeats 4000000 in
set_option maxRecDepth 100000 in
theorem c_X5_init (l : Launch) (G : Gx) (h : Nat) : CtC l yX5_init wsX5_init 3 268 3597 G h 5 [.null, .null, .null, .null, .null, .int 0] 269 (gX5 G h) := by
  refine ct_c (cc := cX5_init) (maxL := 2) (b := bX5 G h (Ap h 0)) (by decide) rfl rfl (by decide) (fun K hl C I => ?_)
  subst hl
  refine wc_aload_n C dX5_init_0 rfl 0 rfl ?_
  refine wc_obj C mk_X5_ob mk_X5_oi mk_X5_oc (by decide) (by decide) dX5_init_1 ?_
  refine wc_aload_n C dX5_init_4 rfl 0 rfl ?_
  refine wc_make (ci := 1) (d := 1) (mc := 2) (ms := 28) (n := 3) (fs := [.null, .null, .int 0]) C (c_X1_init _ G _) rfl mk_X5_in_X1 tyX1_ok mk_X5_cl7 mk_X5_iaX1 mk_X5_izX1 dvX1 (Nat.le_of_ble_eq_true rfl) (Nat.le_of_ble_eq_true rfl) dX5_init_5 dX5_init_8 dX5_init_9 gX5_init_X1_init_n9 rfl C.2.1.2.2.2.1 mk_X5_iyX1 rfl (by decide +kernel) mk_X5_imX1 ⟨by decide, by decide⟩ (Nat.le_of_ble_eq_true rfl) bX5_1 ?_
  refine wc_putF (ci := 5) (k := 0) C I (Nat.le_of_ble_eq_true rfl) rfl mk_X5_in_X5 tyX5_ok nmX5 (by decide) mk_X5_f10 rfl rfl rfl rfl rfl (Nat.le_of_ble_eq_true rfl) dX5_init_12 ?_
  refine wc_aload_n C dX5_init_15 rfl 0 rfl ?_
  refine wc_make (ci := 0) (d := 1) (mc := 0) (ms := 0) (n := 1) (fs := [.int 0, .int 0, .int 0]) C (c_X0_init _ G _) rfl mk_X5_in_X0 tyX0_ok mk_X5_cl16 mk_X5_iaX0 mk_X5_izX0 dvX0 (Nat.le_of_ble_eq_true rfl) (Nat.le_of_ble_eq_true rfl) dX5_init_16 dX5_init_19 dX5_init_20 gX5_init_X0_init_n18 rfl C.2.1.2.2.2.2.1 mk_X5_iyX0 rfl (by decide +kernel) mk_X5_imX0 ⟨by decide, by decide⟩ (Nat.le_of_ble_eq_true rfl) (bX5_4 rfl) ?_
  refine wc_putF (ci := 5) (k := 1) C I (Nat.le_of_ble_eq_true rfl) rfl mk_X5_in_X5 tyX5_ok nmX5 (by decide) mk_X5_f19 rfl rfl rfl rfl rfl (Nat.le_of_ble_eq_true rfl) dX5_init_23 ?_
  refine wc_aload_n C dX5_init_26 rfl 0 rfl ?_
  refine wc_make (ci := 2) (d := 1) (mc := 60) (ms := 840) (n := 61) (fs := [.null, .null, .null, .null]) C (c_X2_init _ G _) rfl mk_X5_in_X2 tyX2_ok mk_X5_cl23 mk_X5_iaX2 mk_X5_izX2 dvX2 (Nat.le_of_ble_eq_true rfl) (Nat.le_of_ble_eq_true rfl) dX5_init_27 dX5_init_30 dX5_init_31 gX5_init_X2_init_n25 rfl C.2.1.2.2.2.2.2.1 mk_X5_iyX2 rfl (by decide +kernel) mk_X5_imX2 ⟨by decide, by decide⟩ (Nat.le_of_ble_eq_true rfl) (bX5_5 rfl) ?_
  refine wc_putF (ci := 5) (k := 2) C I (Nat.le_of_ble_eq_true rfl) rfl mk_X5_in_X5 tyX5_ok nmX5 (by decide) mk_X5_f26 rfl rfl rfl rfl rfl (Nat.le_of_ble_eq_true rfl) dX5_init_34 ?_
  refine wc_aload_n C dX5_init_37 rfl 0 rfl ?_
  refine wc_make (ci := 4) (d := 1) (mc := 1) (ms := 14) (n := 2) (fs := [.null]) C (c_X4_init _ G _) rfl mk_X5_in_X4 tyX4_ok mk_X5_cl30 mk_X5_iaX4 mk_X5_izX4 dvX4 (Nat.le_of_ble_eq_true rfl) (Nat.le_of_ble_eq_true rfl) dX5_init_38 dX5_init_41 dX5_init_42 gX5_init_X4_init_n32 rfl C.2.1.2.2.2.2.2.2.1 mk_X5_iyX4 rfl (by decide +kernel) mk_X5_imX4 ⟨by decide, by decide⟩ (Nat.le_of_ble_eq_true rfl) (bX5_66 rfl) ?_
  refine wc_putF (ci := 5) (k := 3) C I (Nat.le_of_ble_eq_true rfl) rfl mk_X5_in_X5 tyX5_ok nmX5 (by decide) mk_X5_f33 rfl rfl rfl rfl rfl (Nat.le_of_ble_eq_true rfl) dX5_init_45 ?_
  refine wc_aload_n C dX5_init_48 rfl 0 rfl ?_
  refine wc_bipush (v := 8) C dX5_init_49 (by decide) ?_
  refine wc_anew9 (N := 8) C mk_X5_cl37 (by decide) (by decide) (by decide) (Nat.le_of_ble_eq_true rfl) (Nat.le_of_ble_eq_true rfl) dX5_init_51 ((bX5_68 rfl).trans (by rw [Ap_0])) ?_
  refine wc_putF (ci := 5) (k := 4) C I (Nat.le_of_ble_eq_true rfl) rfl mk_X5_in_X5 tyX5_ok nmX5 (by decide) mk_X5_f39 rfl rfl rfl rfl rfl (Nat.le_of_ble_eq_true rfl) dX5_init_54 ?_
  refine wc_iconst (v := nI 0) C dX5_init_57 (by decide) ?_
  refine wc_istore_n (L' := [(1, .int (nI 0)), (0, .ref h)]) C dX5_init_58 rfl (by decide) rfl ?_
  exact x5_loop C I 8 0 rfl
