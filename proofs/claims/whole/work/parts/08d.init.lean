theorem dvX0 : ∀ j, j < 3 → defaultValue (tyX0 j) = vp_V [.int 0, .int 0, .int 0] j := by decide +kernel
theorem dvX1 : ∀ j, j < 3 → defaultValue (tyX1 j) = vp_V [.null, .null, .int 0] j := by decide +kernel
theorem dvX2 : ∀ j, j < 4 → defaultValue (tyX2 j) = vp_V [.null, .null, .null, .null] j := by decide +kernel
theorem dvX3 : ∀ j, j < 12 → defaultValue (tyX3 j) = vp_V [.null, .null, .int 0, .int 0, .int 0, .int 0, .null, .null, .null, .null, .null, .null] j := by decide +kernel
theorem dvX4 : ∀ j, j < 1 → defaultValue (tyX4 j) = vp_V [.null] j := by decide +kernel
theorem dvX5 : ∀ j, j < 6 → defaultValue (tyX5 j) = vp_V [.null, .null, .null, .null, .null, .int 0] j := by decide +kernel
theorem dvX6 : ∀ j, j < 24 → defaultValue (tyX6 j) = vp_V [.int 0, .null, .null, .int 0, .null, .null, .null, .int 0, .int 0, .null, .null, .null, .null, .int 0, .null, .null, .null, .null, .int 0, .null, .null, .null, .null, .int 0] j := by decide +kernel
def gX0 (_ : Nat) : Nat → va_E := ob 0 [.int 0, .int (-1), .int (-1)] (fun _ => .inr (0, []))
def gX1 (G : Gx) (h : Nat) : Nat → va_E := ob 1 [.ref (h + 1), .ref (h + 2), .int 0] (fun _ => .inl (gC G 0, 14, .inl (fun _ => 0)))
def bX2 (G : Gx) (h : Nat) : Nat → va_E := fun o => gmul G (h + (1 + 15 * ((o - 1) / 15))) ((o - 1) % 15)
def gX2 (G : Gx) (h : Nat) : Nat → va_E := ob 2 [.ref (h + 1), .ref (h + 16), .ref (h + 31), .ref (h + 46)] (bX2 G h)
def gX4 (G : Gx) (h : Nat) : Nat → va_E := ob 4 [.ref (h + 1)] (fun _ => .inl (gC G 0, 14, .inl (fun _ => 0)))
def bX3 (G : Gx) (h : Nat) : Nat → va_E := fun o => if o < 4 then gX1 G (h + 1) (o - 1) else if o < 19 then gmul G (h + 4) (o - 4) else .inl (gC G 0, 14, .inl (fun _ => 0))
def gX3 (G : Gx) (h : Nat) : Nat → va_E := ob 3 [.ref (h + 1), .ref (h + 4), .int 0, .int 0, .int 0, .int 0, .ref (h + 19), .ref (h + 20), .ref (h + 21), .ref (h + 22), .ref (h + 23), .ref (h + 24)] (bX3 G h)
def len6 (o : Nat) : Nat := match o with | 3 => 8 | 4 => 112 | 5 => 112 | 7 => 196 | 8 => 196 | 9 => 196 | 10 => 12 | 11 => 12 | 12 => 12 | 13 => 60 | 14 => 11 | 15 => 11 | 16 => 11 | 17 => 196 | _ => 14
def bX6 (G : Gx) : Nat → va_E := fun o => .inl (gC G (if o < 16 then 0 else 1), len6 o, .inl (fun _ => 0))
def gX6 (G : Gx) (h : Nat) : Nat → va_E := ob 6 [.int 0, .ref (h + 1), .ref (h + 2), .int 0, .ref (h + 3), .ref (h + 4), .ref (h + 5), .int (-1), .int (-1), .ref (h + 6), .ref (h + 7), .ref (h + 8), .ref (h + 9), .int 0, .ref (h + 10), .ref (h + 11), .ref (h + 12), .ref (h + 13), .int 0, .ref (h + 14), .ref (h + 15), .ref (h + 16), .ref (h + 17), .int 0] (bX6 G)
theorem bX2_f {G : Gx} {h m : Nat} {fs : List Value} (q : Nat) (hm : m = 1 + 15 * q) : ∀ o, o < 15 → ob 2 fs (bX2 G h) (m + o) = gmul G (h + m) o := fun o ho => by
  subst hm
  rw [ob_s (by omega)]
  unfold bX2
  rw [show (1 + 15 * q + o - 1) / 15 = q by omega, show (1 + 15 * q + o - 1) % 15 = o by omega]
theorem bX3_1 {G : Gx} {h : Nat} {fs : List Value} : ∀ o, o < 3 → ob 3 fs (bX3 G h) (1 + o) = gX1 G (h + 1) o := fun o ho => by
  rw [ob_s (by omega)]
  unfold bX3
  rw [if_pos (by omega), show 1 + o - 1 = o by omega]
theorem bX3_4 {G : Gx} {h m : Nat} {fs : List Value} (hm : m = 4) : ∀ o, o < 15 → ob 3 fs (bX3 G h) (m + o) = gmul G (h + m) o := fun o ho => by
  subst hm
  rw [ob_s (by omega)]
  unfold bX3
  rw [if_neg (by omega), if_pos (by omega), show 4 + o - 4 = o by omega]
theorem mk_X0_ob : Cond.methodLink RX0 3 objectInit ∈ wsX0_init := by decide +kernel
theorem mk_X0_oi : Cond.instanceMethod objectInit ∈ wsX0_init := by decide +kernel
theorem mk_X0_oc : Cond.code objectInit ⟨#[0xb1]⟩ 1 none ∈ wsX0_init := by decide +kernel
theorem mk_X0_f9 : Cond.fieldLink RX0 9 "PolyCuts$Check" "kind" "I" ∈ wsX0_init := by decide +kernel
theorem mk_X0_in_X0 : ∀ w ∈ wsX00, w ∈ wsX0_init := by decide +kernel
theorem mk_X0_f15 : Cond.fieldLink RX0 15 "PolyCuts$Check" "first" "I" ∈ wsX0_init := by decide +kernel
theorem mk_X0_f18 : Cond.fieldLink RX0 18 "PolyCuts$Check" "second" "I" ∈ wsX0_init := by decide +kernel
theorem mk_X1_ob : Cond.methodLink RX1 3 objectInit ∈ wsX1_init := by decide +kernel
theorem mk_X1_oi : Cond.instanceMethod objectInit ∈ wsX1_init := by decide +kernel
theorem mk_X1_oc : Cond.code objectInit ⟨#[0xb1]⟩ 1 none ∈ wsX1_init := by decide +kernel
theorem mk_X1_acint : Cond.arrayClass .int ∈ wsX1_init := by decide +kernel
theorem mk_X1_f9 : Cond.fieldLink RX1 9 "PolyCuts$Corners" "x" "[I" ∈ wsX1_init := by decide +kernel
theorem mk_X1_in_X1 : ∀ w ∈ wsX10, w ∈ wsX1_init := by decide +kernel
theorem mk_X1_f15 : Cond.fieldLink RX1 15 "PolyCuts$Corners" "y" "[I" ∈ wsX1_init := by decide +kernel
theorem mk_X1_f18 : Cond.fieldLink RX1 18 "PolyCuts$Corners" "size" "I" ∈ wsX1_init := by decide +kernel
theorem mk_X2_ob : Cond.methodLink RX2 3 objectInit ∈ wsX2_init := by decide +kernel
theorem mk_X2_oi : Cond.instanceMethod objectInit ∈ wsX2_init := by decide +kernel
theorem mk_X2_oc : Cond.code objectInit ⟨#[0xb1]⟩ 1 none ∈ wsX2_init := by decide +kernel
theorem mk_X2_mu9 : Cond.classLink RX2 9 ("[" ++ (FieldType.array .int).toString) ∈ wsX2_init := by decide +kernel
theorem mk_X2_acint : Cond.arrayClass .int ∈ wsX2_init := by decide +kernel
theorem mk_X2_f11 : Cond.fieldLink RX2 11 "PolyCuts$Cutter" "ways" "[[I" ∈ wsX2_init := by decide +kernel
theorem mk_X2_in_X2 : ∀ w ∈ wsX20, w ∈ wsX2_init := by decide +kernel
theorem mk_X2_f16 : Cond.fieldLink RX2 16 "PolyCuts$Cutter" "sum" "[[I" ∈ wsX2_init := by decide +kernel
theorem mk_X2_f19 : Cond.fieldLink RX2 19 "PolyCuts$Cutter" "third" "[[I" ∈ wsX2_init := by decide +kernel
theorem mk_X2_f22 : Cond.fieldLink RX2 22 "PolyCuts$Cutter" "joined" "[[I" ∈ wsX2_init := by decide +kernel
theorem mk_X3_ob : Cond.methodLink RX3 3 objectInit ∈ wsX3_init := by decide +kernel
theorem mk_X3_oi : Cond.instanceMethod objectInit ∈ wsX3_init := by decide +kernel
theorem mk_X3_oc : Cond.code objectInit ⟨#[0xb1]⟩ 1 none ∈ wsX3_init := by decide +kernel
theorem mk_X3_cl9 : Cond.classLink RX3 9 RX1 ∈ wsX3_init := by decide +kernel
theorem mk_X3_iaX1 : Cond.instantiable RX1 3 ∈ wsX3_init := by decide +kernel
theorem mk_X3_izX1 : Cond.initialized RX1 ∈ wsX3_init := by decide +kernel
theorem mk_X3_iyX1 : Cond.initialized yX1_init.cls ∈ wsX3_init := by decide +kernel
theorem mk_X3_imX1 : Cond.instanceMethod yX1_init ∈ wsX3_init := by decide +kernel
theorem mk_X3_in_X1 : ∀ w ∈ wsX10, w ∈ wsX3_init := by decide +kernel
theorem mk_X3_f12 : Cond.fieldLink RX3 12 "PolyCuts$Shape" "corners" "LPolyCuts$Corners;" ∈ wsX3_init := by decide +kernel
theorem mk_X3_in_X3 : ∀ w ∈ wsX30, w ∈ wsX3_init := by decide +kernel
theorem mk_X3_mu18 : Cond.classLink RX3 18 ("[" ++ (FieldType.array .int).toString) ∈ wsX3_init := by decide +kernel
theorem mk_X3_acint : Cond.arrayClass .int ∈ wsX3_init := by decide +kernel
theorem mk_X3_f20 : Cond.fieldLink RX3 20 "PolyCuts$Shape" "sight" "[[I" ∈ wsX3_init := by decide +kernel
theorem mk_X3_f23 : Cond.fieldLink RX3 23 "PolyCuts$Shape" "doubleArea" "I" ∈ wsX3_init := by decide +kernel
theorem mk_X3_f27 : Cond.fieldLink RX3 27 "PolyCuts$Shape" "triangulationCount" "I" ∈ wsX3_init := by decide +kernel
theorem mk_X3_f30 : Cond.fieldLink RX3 30 "PolyCuts$Shape" "leastSum" "I" ∈ wsX3_init := by decide +kernel
theorem mk_X3_f33 : Cond.fieldLink RX3 33 "PolyCuts$Shape" "partCount" "I" ∈ wsX3_init := by decide +kernel
theorem mk_X3_f36 : Cond.fieldLink RX3 36 "PolyCuts$Shape" "triangleFrom" "[I" ∈ wsX3_init := by decide +kernel
theorem mk_X3_f40 : Cond.fieldLink RX3 40 "PolyCuts$Shape" "triangleThird" "[I" ∈ wsX3_init := by decide +kernel
theorem mk_X3_f43 : Cond.fieldLink RX3 43 "PolyCuts$Shape" "triangleTo" "[I" ∈ wsX3_init := by decide +kernel
theorem mk_X3_f46 : Cond.fieldLink RX3 46 "PolyCuts$Shape" "diagonalLesser" "[I" ∈ wsX3_init := by decide +kernel
theorem mk_X3_f49 : Cond.fieldLink RX3 49 "PolyCuts$Shape" "diagonalGreater" "[I" ∈ wsX3_init := by decide +kernel
theorem mk_X3_f52 : Cond.fieldLink RX3 52 "PolyCuts$Shape" "diagonalStays" "[I" ∈ wsX3_init := by decide +kernel
theorem mk_X4_ob : Cond.methodLink RX4 3 objectInit ∈ wsX4_init := by decide +kernel
theorem mk_X4_oi : Cond.instanceMethod objectInit ∈ wsX4_init := by decide +kernel
theorem mk_X4_oc : Cond.code objectInit ⟨#[0xb1]⟩ 1 none ∈ wsX4_init := by decide +kernel
theorem mk_X4_acint : Cond.arrayClass .int ∈ wsX4_init := by decide +kernel
theorem mk_X4_f9 : Cond.fieldLink RX4 9 "PolyCuts$Walk" "stepsLeft" "[I" ∈ wsX4_init := by decide +kernel
theorem mk_X4_in_X4 : ∀ w ∈ wsX40, w ∈ wsX4_init := by decide +kernel
set_option maxHeartbeats 4000000 in
set_option maxRecDepth 100000 in
theorem c_X0_init (l : Launch) (G : Gx) (h : Nat) : CtC l yX0_init wsX0_init 1 0 0 G h 0 [.int 0, .int 0, .int 0] 1 (gX0 h) := by
  refine ct_c (cc := cX0_init) (maxL := 1) (b := fun _ => .inr (0, [])) (by decide) rfl rfl (by decide) (fun K hl C I => ?_)
  subst hl
  refine wc_aload_n C dX0_init_0 rfl 0 rfl ?_
  refine wc_obj C mk_X0_ob mk_X0_oi mk_X0_oc (by decide) (by decide) dX0_init_1 ?_
  refine wc_aload_n C dX0_init_4 rfl 0 rfl ?_
  refine wc_iconst (v := 0) C dX0_init_5 (by decide) ?_
  refine wc_putI (ci := 0) (k := 0) C (Nat.le_of_ble_eq_true rfl) rfl mk_X0_in_X0 tyX0_ok nmX0 (by decide) mk_X0_f9 rfl rfl rfl rfl (Nat.le_of_ble_eq_true rfl) dX0_init_6 ?_
  refine wc_aload_n C dX0_init_9 rfl 0 rfl ?_
  refine wc_iconst (v := (-1)) C dX0_init_10 (by decide) ?_
  refine wc_putI (ci := 0) (k := 1) C (Nat.le_of_ble_eq_true rfl) rfl mk_X0_in_X0 tyX0_ok nmX0 (by decide) mk_X0_f15 rfl rfl rfl rfl (Nat.le_of_ble_eq_true rfl) dX0_init_11 ?_
  refine wc_aload_n C dX0_init_14 rfl 0 rfl ?_
  refine wc_iconst (v := (-1)) C dX0_init_15 (by decide) ?_
  refine wc_putI (ci := 0) (k := 2) C (Nat.le_of_ble_eq_true rfl) rfl mk_X0_in_X0 tyX0_ok nmX0 (by decide) mk_X0_f18 rfl rfl rfl rfl (Nat.le_of_ble_eq_true rfl) dX0_init_16 ?_
  exact wc_vret C I (Nat.le_of_ble_eq_true rfl) (Nat.le_of_ble_eq_true rfl) dX0_init_19 rfl (fun o _ => rfl)
set_option maxHeartbeats 4000000 in
set_option maxRecDepth 100000 in
theorem c_X1_init (l : Launch) (G : Gx) (h : Nat) : CtC l yX1_init wsX1_init 1 2 28 G h 1 [.null, .null, .int 0] 3 (gX1 G h) := by
  refine ct_c (cc := cX1_init) (maxL := 1) (b := fun _ => .inl (gC G 0, 14, .inl (fun _ => 0))) (by decide) rfl rfl (by decide) (fun K hl C I => ?_)
  subst hl
  refine wc_aload_n C dX1_init_0 rfl 0 rfl ?_
  refine wc_obj C mk_X1_ob mk_X1_oi mk_X1_oc (by decide) (by decide) dX1_init_1 ?_
  refine wc_aload_n C dX1_init_4 rfl 0 rfl ?_
  refine wc_bipush (v := 14) C dX1_init_5 (by decide) ?_
  refine wc_newi9 (N := 14) C mk_X1_acint (by decide) (by decide) (by decide) (Nat.le_of_ble_eq_true rfl) (Nat.le_of_ble_eq_true rfl) dX1_init_7 rfl ?_
  refine wc_putF (ci := 1) (k := 0) C I (Nat.le_of_ble_eq_true rfl) rfl mk_X1_in_X1 tyX1_ok nmX1 (by decide) mk_X1_f9 rfl rfl rfl rfl rfl (Nat.le_of_ble_eq_true rfl) dX1_init_9 ?_
  refine wc_aload_n C dX1_init_12 rfl 0 rfl ?_
  refine wc_bipush (v := 14) C dX1_init_13 (by decide) ?_
  refine wc_newi9 (N := 14) C mk_X1_acint (by decide) (by decide) (by decide) (Nat.le_of_ble_eq_true rfl) (Nat.le_of_ble_eq_true rfl) dX1_init_15 rfl ?_
  refine wc_putF (ci := 1) (k := 1) C I (Nat.le_of_ble_eq_true rfl) rfl mk_X1_in_X1 tyX1_ok nmX1 (by decide) mk_X1_f15 rfl rfl rfl rfl rfl (Nat.le_of_ble_eq_true rfl) dX1_init_17 ?_
  refine wc_aload_n C dX1_init_20 rfl 0 rfl ?_
  refine wc_iconst (v := 0) C dX1_init_21 (by decide) ?_
  refine wc_putI (ci := 1) (k := 2) C (Nat.le_of_ble_eq_true rfl) rfl mk_X1_in_X1 tyX1_ok nmX1 (by decide) mk_X1_f18 rfl rfl rfl rfl (Nat.le_of_ble_eq_true rfl) dX1_init_22 ?_
  exact wc_vret C I (Nat.le_of_ble_eq_true rfl) (Nat.le_of_ble_eq_true rfl) dX1_init_25 rfl (fun o _ => rfl)
set_option maxHeartbeats 4000000 in
set_option maxRecDepth 100000 in
theorem c_X2_init (l : Launch) (G : Gx) (h : Nat) : CtC l yX2_init wsX2_init 1 60 840 G h 2 [.null, .null, .null, .null] 61 (gX2 G h) := by
  refine ct_c (cc := cX2_init) (maxL := 1) (b := bX2 G h) (by decide) rfl rfl (by decide) (fun K hl C I => ?_)
  subst hl
  refine wc_aload_n C dX2_init_0 rfl 0 rfl ?_
  refine wc_obj C mk_X2_ob mk_X2_oi mk_X2_oc (by decide) (by decide) dX2_init_1 ?_
  refine wc_aload_n C dX2_init_4 rfl 0 rfl ?_
  refine wc_bipush (v := 14) C dX2_init_5 (by decide) ?_
  refine wc_bipush (v := 14) C dX2_init_7 (by decide) ?_
  refine wc_multi C mk_X2_mu9 mk_X2_acint (Nat.le_of_ble_eq_true rfl) (Nat.le_of_ble_eq_true rfl) dX2_init_9 (bX2_f 0 rfl) ?_
  refine wc_putF (ci := 2) (k := 0) C I (Nat.le_of_ble_eq_true rfl) rfl mk_X2_in_X2 tyX2_ok nmX2 (by decide) mk_X2_f11 rfl rfl rfl rfl rfl (Nat.le_of_ble_eq_true rfl) dX2_init_13 ?_
  refine wc_aload_n C dX2_init_16 rfl 0 rfl ?_
  refine wc_bipush (v := 14) C dX2_init_17 (by decide) ?_
  refine wc_bipush (v := 14) C dX2_init_19 (by decide) ?_
  refine wc_multi C mk_X2_mu9 mk_X2_acint (Nat.le_of_ble_eq_true rfl) (Nat.le_of_ble_eq_true rfl) dX2_init_21 (bX2_f 1 rfl) ?_
  refine wc_putF (ci := 2) (k := 1) C I (Nat.le_of_ble_eq_true rfl) rfl mk_X2_in_X2 tyX2_ok nmX2 (by decide) mk_X2_f16 rfl rfl rfl rfl rfl (Nat.le_of_ble_eq_true rfl) dX2_init_25 ?_
  refine wc_aload_n C dX2_init_28 rfl 0 rfl ?_
  refine wc_bipush (v := 14) C dX2_init_29 (by decide) ?_
  refine wc_bipush (v := 14) C dX2_init_31 (by decide) ?_
  refine wc_multi C mk_X2_mu9 mk_X2_acint (Nat.le_of_ble_eq_true rfl) (Nat.le_of_ble_eq_true rfl) dX2_init_33 (bX2_f 2 rfl) ?_
  refine wc_putF (ci := 2) (k := 2) C I (Nat.le_of_ble_eq_true rfl) rfl mk_X2_in_X2 tyX2_ok nmX2 (by decide) mk_X2_f19 rfl rfl rfl rfl rfl (Nat.le_of_ble_eq_true rfl) dX2_init_37 ?_
  refine wc_aload_n C dX2_init_40 rfl 0 rfl ?_
  refine wc_bipush (v := 14) C dX2_init_41 (by decide) ?_
  refine wc_bipush (v := 14) C dX2_init_43 (by decide) ?_
  refine wc_multi C mk_X2_mu9 mk_X2_acint (Nat.le_of_ble_eq_true rfl) (Nat.le_of_ble_eq_true rfl) dX2_init_45 (bX2_f 3 rfl) ?_
  refine wc_putF (ci := 2) (k := 3) C I (Nat.le_of_ble_eq_true rfl) rfl mk_X2_in_X2 tyX2_ok nmX2 (by decide) mk_X2_f22 rfl rfl rfl rfl rfl (Nat.le_of_ble_eq_true rfl) dX2_init_49 ?_
  exact wc_vret C I (Nat.le_of_ble_eq_true rfl) (Nat.le_of_ble_eq_true rfl) dX2_init_52 rfl (fun o _ => rfl)
set_option maxHeartbeats 4000000 in
set_option maxRecDepth 100000 in
theorem c_X4_init (l : Launch) (G : Gx) (h : Nat) : CtC l yX4_init wsX4_init 1 1 14 G h 4 [.null] 2 (gX4 G h) := by
  refine ct_c (cc := cX4_init) (maxL := 1) (b := fun _ => .inl (gC G 0, 14, .inl (fun _ => 0))) (by decide) rfl rfl (by decide) (fun K hl C I => ?_)
  subst hl
  refine wc_aload_n C dX4_init_0 rfl 0 rfl ?_
  refine wc_obj C mk_X4_ob mk_X4_oi mk_X4_oc (by decide) (by decide) dX4_init_1 ?_
  refine wc_aload_n C dX4_init_4 rfl 0 rfl ?_
  refine wc_bipush (v := 14) C dX4_init_5 (by decide) ?_
  refine wc_newi9 (N := 14) C mk_X4_acint (by decide) (by decide) (by decide) (Nat.le_of_ble_eq_true rfl) (Nat.le_of_ble_eq_true rfl) dX4_init_7 rfl ?_
  refine wc_putF (ci := 4) (k := 0) C I (Nat.le_of_ble_eq_true rfl) rfl mk_X4_in_X4 tyX4_ok nmX4 (by decide) mk_X4_f9 rfl rfl rfl rfl rfl (Nat.le_of_ble_eq_true rfl) dX4_init_9 ?_
  exact wc_vret C I (Nat.le_of_ble_eq_true rfl) (Nat.le_of_ble_eq_true rfl) dX4_init_12 rfl (fun o _ => rfl)
set_option maxHeartbeats 4000000 in
set_option maxRecDepth 100000 in
theorem c_X3_init (l : Launch) (G : Gx) (h : Nat) : CtC l yX3_init wsX3_init 2 24 325 G h 3 [.null, .null, .int 0, .int 0, .int 0, .int 0, .null, .null, .null, .null, .null, .null] 25 (gX3 G h) := by
  refine ct_c (cc := cX3_init) (maxL := 1) (b := bX3 G h) (by decide) rfl rfl (by decide) (fun K hl C I => ?_)
  subst hl
  refine wc_aload_n C dX3_init_0 rfl 0 rfl ?_
  refine wc_obj C mk_X3_ob mk_X3_oi mk_X3_oc (by decide) (by decide) dX3_init_1 ?_
  refine wc_aload_n C dX3_init_4 rfl 0 rfl ?_
  refine wc_make (ci := 1) (d := 1) (mc := 2) (ms := 28) (n := 3) (fs := [.null, .null, .int 0]) C (c_X1_init _ G _) rfl mk_X3_in_X1 tyX1_ok mk_X3_cl9 mk_X3_iaX1 mk_X3_izX1 dvX1 (Nat.le_of_ble_eq_true rfl) (Nat.le_of_ble_eq_true rfl) dX3_init_5 dX3_init_8 dX3_init_9 gX3_init_X1_init_n11 rfl C.2.1.2.2.2.2.2.2.2.2 mk_X3_iyX1 rfl (by decide +kernel) mk_X3_imX1 ⟨by decide, by decide⟩ (Nat.le_of_ble_eq_true rfl) bX3_1 ?_
  refine wc_putF (ci := 3) (k := 0) C I (Nat.le_of_ble_eq_true rfl) rfl mk_X3_in_X3 tyX3_ok nmX3 (by decide) mk_X3_f12 rfl rfl rfl rfl rfl (Nat.le_of_ble_eq_true rfl) dX3_init_12 ?_
  refine wc_aload_n C dX3_init_15 rfl 0 rfl ?_
  refine wc_bipush (v := 14) C dX3_init_16 (by decide) ?_
  refine wc_bipush (v := 14) C dX3_init_18 (by decide) ?_
  refine wc_multi C mk_X3_mu18 mk_X3_acint (Nat.le_of_ble_eq_true rfl) (Nat.le_of_ble_eq_true rfl) dX3_init_20 (bX3_4 rfl) ?_
  refine wc_putF (ci := 3) (k := 1) C I (Nat.le_of_ble_eq_true rfl) rfl mk_X3_in_X3 tyX3_ok nmX3 (by decide) mk_X3_f20 rfl rfl rfl rfl rfl (Nat.le_of_ble_eq_true rfl) dX3_init_24 ?_
  refine wc_aload_n C dX3_init_27 rfl 0 rfl ?_
  refine wc_iconst (v := 0) C dX3_init_28 (by decide) ?_
  refine wc_putI (ci := 3) (k := 2) C (Nat.le_of_ble_eq_true rfl) rfl mk_X3_in_X3 tyX3_ok nmX3 (by decide) mk_X3_f23 rfl rfl rfl rfl (Nat.le_of_ble_eq_true rfl) dX3_init_29 ?_
  refine wc_aload_n C dX3_init_32 rfl 0 rfl ?_
  refine wc_iconst (v := 0) C dX3_init_33 (by decide) ?_
  refine wc_putI (ci := 3) (k := 3) C (Nat.le_of_ble_eq_true rfl) rfl mk_X3_in_X3 tyX3_ok nmX3 (by decide) mk_X3_f27 rfl rfl rfl rfl (Nat.le_of_ble_eq_true rfl) dX3_init_34 ?_
  refine wc_aload_n C dX3_init_37 rfl 0 rfl ?_
  refine wc_iconst (v := 0) C dX3_init_38 (by decide) ?_
  refine wc_putI (ci := 3) (k := 4) C (Nat.le_of_ble_eq_true rfl) rfl mk_X3_in_X3 tyX3_ok nmX3 (by decide) mk_X3_f30 rfl rfl rfl rfl (Nat.le_of_ble_eq_true rfl) dX3_init_39 ?_
  refine wc_aload_n C dX3_init_42 rfl 0 rfl ?_
  refine wc_iconst (v := 0) C dX3_init_43 (by decide) ?_
  refine wc_putI (ci := 3) (k := 5) C (Nat.le_of_ble_eq_true rfl) rfl mk_X3_in_X3 tyX3_ok nmX3 (by decide) mk_X3_f33 rfl rfl rfl rfl (Nat.le_of_ble_eq_true rfl) dX3_init_44 ?_
  refine wc_aload_n C dX3_init_47 rfl 0 rfl ?_
  refine wc_bipush (v := 14) C dX3_init_48 (by decide) ?_
  refine wc_newi9 (N := 14) C mk_X3_acint (by decide) (by decide) (by decide) (Nat.le_of_ble_eq_true rfl) (Nat.le_of_ble_eq_true rfl) dX3_init_50 rfl ?_
  refine wc_putF (ci := 3) (k := 6) C I (Nat.le_of_ble_eq_true rfl) rfl mk_X3_in_X3 tyX3_ok nmX3 (by decide) mk_X3_f36 rfl rfl rfl rfl rfl (Nat.le_of_ble_eq_true rfl) dX3_init_52 ?_
  refine wc_aload_n C dX3_init_55 rfl 0 rfl ?_
  refine wc_bipush (v := 14) C dX3_init_56 (by decide) ?_
  refine wc_newi9 (N := 14) C mk_X3_acint (by decide) (by decide) (by decide) (Nat.le_of_ble_eq_true rfl) (Nat.le_of_ble_eq_true rfl) dX3_init_58 rfl ?_
  refine wc_putF (ci := 3) (k := 7) C I (Nat.le_of_ble_eq_true rfl) rfl mk_X3_in_X3 tyX3_ok nmX3 (by decide) mk_X3_f40 rfl rfl rfl rfl rfl (Nat.le_of_ble_eq_true rfl) dX3_init_60 ?_
  refine wc_aload_n C dX3_init_63 rfl 0 rfl ?_
  refine wc_bipush (v := 14) C dX3_init_64 (by decide) ?_
  refine wc_newi9 (N := 14) C mk_X3_acint (by decide) (by decide) (by decide) (Nat.le_of_ble_eq_true rfl) (Nat.le_of_ble_eq_true rfl) dX3_init_66 rfl ?_
  refine wc_putF (ci := 3) (k := 8) C I (Nat.le_of_ble_eq_true rfl) rfl mk_X3_in_X3 tyX3_ok nmX3 (by decide) mk_X3_f43 rfl rfl rfl rfl rfl (Nat.le_of_ble_eq_true rfl) dX3_init_68 ?_
  refine wc_aload_n C dX3_init_71 rfl 0 rfl ?_
  refine wc_bipush (v := 14) C dX3_init_72 (by decide) ?_
  refine wc_newi9 (N := 14) C mk_X3_acint (by decide) (by decide) (by decide) (Nat.le_of_ble_eq_true rfl) (Nat.le_of_ble_eq_true rfl) dX3_init_74 rfl ?_
  refine wc_putF (ci := 3) (k := 9) C I (Nat.le_of_ble_eq_true rfl) rfl mk_X3_in_X3 tyX3_ok nmX3 (by decide) mk_X3_f46 rfl rfl rfl rfl rfl (Nat.le_of_ble_eq_true rfl) dX3_init_76 ?_
  refine wc_aload_n C dX3_init_79 rfl 0 rfl ?_
  refine wc_bipush (v := 14) C dX3_init_80 (by decide) ?_
  refine wc_newi9 (N := 14) C mk_X3_acint (by decide) (by decide) (by decide) (Nat.le_of_ble_eq_true rfl) (Nat.le_of_ble_eq_true rfl) dX3_init_82 rfl ?_
  refine wc_putF (ci := 3) (k := 10) C I (Nat.le_of_ble_eq_true rfl) rfl mk_X3_in_X3 tyX3_ok nmX3 (by decide) mk_X3_f49 rfl rfl rfl rfl rfl (Nat.le_of_ble_eq_true rfl) dX3_init_84 ?_
  refine wc_aload_n C dX3_init_87 rfl 0 rfl ?_
  refine wc_bipush (v := 14) C dX3_init_88 (by decide) ?_
  refine wc_newi9 (N := 14) C mk_X3_acint (by decide) (by decide) (by decide) (Nat.le_of_ble_eq_true rfl) (Nat.le_of_ble_eq_true rfl) dX3_init_90 rfl ?_
  refine wc_putF (ci := 3) (k := 11) C I (Nat.le_of_ble_eq_true rfl) rfl mk_X3_in_X3 tyX3_ok nmX3 (by decide) mk_X3_f52 rfl rfl rfl rfl rfl (Nat.le_of_ble_eq_true rfl) dX3_init_92 ?_
  exact wc_vret C I (Nat.le_of_ble_eq_true rfl) (Nat.le_of_ble_eq_true rfl) dX3_init_95 rfl (fun o _ => rfl)
