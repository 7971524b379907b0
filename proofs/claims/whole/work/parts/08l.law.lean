/-! THE LAW: its rows, over both memories -/
/-- what holds in the law's body -/
def CL (K : Kx) (G : Gx) (b n : Nat) (xs : Nat → Int32) : Prop := CallFix (kP K) (kM K) (kC K) cL_law 4 (kS K) (kA K) wsL_law RL ∧ kn G (kS K) ∧ wa G ∧ kR K = room_1 ∧ va_X b n xs (kS K) (kS K).heap ∧ b < (kS K).heap.size ∧ ¬ wo G b
def WL (K : Kx) (G : Gx) (Q : State → Prop) (cn sn : Nat) (σ : Sg) (L : List (Nat × Value)) (pc : Nat) (st : List Value) : Prop :=
  ∀ (ls : Array Slot) (H : Heap) (locs : List Loc), lv_has ls 4 L → wd G σ H → va_S (wo G) (kS K).heap H locs →
    W (kP K) (kL K) (kE K) (kR K) (kS K) (kM K) (kA K) (kB K) (kT K) (kC K) H locs cn sn Q (F0 (kM K) pc ls st)
abbrev LL (G : Gx) (b i : Nat) : List (Nat × Value) := [(3, .int (nI i)), (2, .ref (gA G 30 0)), (1, .ref (gA G 0 0)), (0, .ref b)]
def PrGI (Nx : Sg → Prop) (l : Launch) (G : Gx) (yC : MethodName) (wsC : List Cond) (rC : Nat) (yM : MethodName) (wsM : List Cond) (rM : Nat) (av : List Value) (σ : Sg) : Prop := ∃ post1, CtI l yC wsC (rmd rC) G (.ref (gA G 0 0) :: av) σ post1 ∧ ∀ r1 σ1, post1 r1 σ1 → ∃ post2, CtI l yM wsM (rmd rM) G (.ref (gA G 30 0) :: av) σ1 post2 ∧ ∀ r2 σ2, post2 r2 σ2 → r1 = r2 ∧ Nx σ2
def PrGL (Nx : Sg → Prop) (l : Launch) (G : Gx) (yC : MethodName) (wsC : List Cond) (rC : Nat) (yM : MethodName) (wsM : List Cond) (rM : Nat) (av : List Value) (σ : Sg) : Prop := ∃ post1, CtL l yC wsC (rmd rC) G (.ref (gA G 0 0) :: av) σ post1 ∧ ∀ r1 σ1, post1 r1 σ1 → ∃ post2, CtL l yM wsM (rmd rM) G (.ref (gA G 30 0) :: av) σ1 post2 ∧ ∀ r2 σ2, post2 r2 σ2 → r1 = r2 ∧ Nx σ2
section LW
variable {K : Kx} {G : Gx} {b n : Nat} {xs : Nat → Int32} {Q : State → Prop} {cn sn : Nat} {σ : Sg} {L : List (Nat × Value)} {pc : Nat} {st : List Value}
theorem CL.hx (C : CL K G b n xs) : (kP K).tables.exec = Jvm.exec := C.1.1
theorem CL.hb (C : CL K G b n xs) : (kC K).code = cL_law := C.1.2.1
theorem CL.ht (C : CL K G b n xs) : ∀ w ∈ wsL_law, w.before (kA K) (kS K) = true := C.1.2.2.2.2
theorem wl_iconst {z : Int} {v : Int32} (C : CL K G b n xs) (hd : decode cL_law pc = .ok (.iconst z, 1)) (hv : Int32.ofInt z = v) (k : WL K G Q cn sn σ L (pc + 1) (.int v :: st)) : WL K G Q cn sn σ L pc st := fun ls H locs h1 h2 h3 => lv_iconst C.hx C.hb hd hv (k ls H locs h1 h2 h3)
theorem wl_bipush {z : Int} {v : Int32} (C : CL K G b n xs) (hd : decode cL_law pc = .ok (.bipush z, 2)) (hv : (Int8.ofInt z).toInt32 = v) (k : WL K G Q cn sn σ L (pc + 2) (.int v :: st)) : WL K G Q cn sn σ L pc st := fun ls H locs h1 h2 h3 => lv_bipush C.hx C.hb hd hv (k ls H locs h1 h2 h3)
theorem wl_iload_n {j : Fin 4} {i : Nat} {x : Int32} (C : CL K G b n xs) (hd : decode cL_law pc = .ok (.iload_n j, 1)) (hi : (j : Nat) = i) (q : Nat) (hq : L[q]? = some (i, .int x)) (k : WL K G Q cn sn σ L (pc + 1) (.int x :: st)) : WL K G Q cn sn σ L pc st := fun ls H locs h1 h2 h3 => lv_iload_n C.hx C.hb hd hi (lv_at h1 q hq) (k ls H locs h1 h2 h3)
theorem wl_aload_n {j : Fin 4} {i x : Nat} (C : CL K G b n xs) (hd : decode cL_law pc = .ok (.aload_n j, 1)) (hi : (j : Nat) = i) (q : Nat) (hq : L[q]? = some (i, .ref x)) (k : WL K G Q cn sn σ L (pc + 1) (.ref x :: st)) : WL K G Q cn sn σ L pc st := fun ls H locs h1 h2 h3 => lv_aload_n C.hx C.hb hd hi (lv_at h1 q hq) (k ls H locs h1 h2 h3)
theorem wl_iadd {x y : Int32} (C : CL K G b n xs) (hd : decode cL_law pc = .ok (.iadd, 1)) (k : WL K G Q cn sn σ L (pc + 1) (.int (x + y) :: st)) : WL K G Q cn sn σ L pc (.int y :: .int x :: st) := fun ls H locs h1 h2 h3 => lv_iadd C.hx C.hb hd (k ls H locs h1 h2 h3)
theorem wl_isub {x y : Int32} (C : CL K G b n xs) (hd : decode cL_law pc = .ok (.isub, 1)) (k : WL K G Q cn sn σ L (pc + 1) (.int (x - y) :: st)) : WL K G Q cn sn σ L pc (.int y :: .int x :: st) := fun ls H locs h1 h2 h3 => lv_isub C.hx C.hb hd (k ls H locs h1 h2 h3)
theorem wl_iand {x y : Int32} (C : CL K G b n xs) (hd : decode cL_law pc = .ok (.iand, 1)) (k : WL K G Q cn sn σ L (pc + 1) (.int (x &&& y) :: st)) : WL K G Q cn sn σ L pc (.int y :: .int x :: st) := fun ls H locs h1 h2 h3 => lv_iand C.hx C.hb hd (k ls H locs h1 h2 h3)
theorem wl_lcmp {x y : Int64} (C : CL K G b n xs) (hd : decode cL_law pc = .ok (.lcmp, 1)) (k : WL K G Q cn sn σ L (pc + 1) (.int (lg_cmp x y) :: st)) : WL K G Q cn sn σ L pc (.long y :: .long x :: st) := fun ls H locs h1 h2 h3 => W.lcmp C.hx C.hb hd (k ls H locs h1 h2 h3)
theorem wl_goto {off : Int} (tgt : Nat) (C : CL K G b n xs) (hd : decode cL_law pc = .ok (.goto off, 3)) (ht : (pc : Int) + off = (tgt : Int)) (k : WL K G Q cn sn σ L tgt st) : WL K G Q cn sn σ L pc st := fun ls H locs h1 h2 h3 => lv_goto C.hx C.hb hd ht (k ls H locs h1 h2 h3)
theorem wl_icmp_gt {x y : Int32} {off : Int} (tgt : Nat) (C : CL K G b n xs) (hd : decode cL_law pc = .ok (.if_icmp .gt off, 3)) (ht : (pc : Int) + off = (tgt : Int)) (kt : y < x → WL K G Q cn sn σ L tgt st) (kf : ¬ y < x → WL K G Q cn sn σ L (pc + 3) st) : WL K G Q cn sn σ L pc (.int y :: .int x :: st) := fun ls H locs h1 h2 h3 => lv_icmp_gt C.hx C.hb hd ht (fun q => kt q ls H locs h1 h2 h3) (fun q => kf q ls H locs h1 h2 h3)
theorem wl_icmp_eq {x y : Int32} {off : Int} (tgt : Nat) (C : CL K G b n xs) (hd : decode cL_law pc = .ok (.if_icmp .eq off, 3)) (ht : (pc : Int) + off = (tgt : Int)) (kt : x = y → WL K G Q cn sn σ L tgt st) (kf : ¬ x = y → WL K G Q cn sn σ L (pc + 3) st) : WL K G Q cn sn σ L pc (.int y :: .int x :: st) := fun ls H locs h1 h2 h3 => lv_icmp_eq C.hx C.hb hd ht (fun q => kt q ls H locs h1 h2 h3) (fun q => kf q ls H locs h1 h2 h3)
theorem wl_if_eq {x : Int32} {off : Int} (tgt : Nat) (C : CL K G b n xs) (hd : decode cL_law pc = .ok (.ifCond .eq off, 3)) (ht : (pc : Int) + off = (tgt : Int)) (kt : x = 0 → WL K G Q cn sn σ L tgt st) (kf : ¬ x = 0 → WL K G Q cn sn σ L (pc + 3) st) : WL K G Q cn sn σ L pc (.int x :: st) := fun ls H locs h1 h2 h3 => lv_if_eq C.hx C.hb hd ht (fun q => kt q ls H locs h1 h2 h3) (fun q => kf q ls H locs h1 h2 h3)
theorem wl_iinc {i q : Nat} {z : Int} {x v : Int32} {L' : List (Nat × Value)} (C : CL K G b n xs) (hd : decode cL_law pc = .ok (.iinc i z, 3)) (hq : L[q]? = some (i, .int x)) (hv : x + Int32.ofInt z = v) (hn : i < 4) (hl : (i, Value.int v) :: lv1 L i = L') (k : WL K G Q cn sn σ L' (pc + 3) st) : WL K G Q cn sn σ L pc st := fun _ H locs h1 h2 h3 => lv_iinc C.hx C.hb hd h1 hq hv hn hl (fun ls hh => k ls H locs hh h2 h3)
theorem wl_slen (C : CL K G b n xs) (hd : decode cL_law pc = .ok (.arraylength, 1)) (k : WL K G Q cn sn σ L (pc + 1) (.int (nI n) :: st)) : WL K G Q cn sn σ L pc (.ref b :: st) := fun ls H locs h1 h2 h3 => va_slen C.hx C.hb C.2.2.2.2.1 C.2.2.2.2.2.1 C.2.2.2.2.2.2 h3 hd (k ls H locs h1 h2 h3)
theorem wl_sld {i : Nat} {x : Int32} (C : CL K G b n xs) (hx : x = nI i) (hi : i < n) (hn : n ≤ 320) (hd : decode cL_law pc = .ok (.iaload, 1)) (k : WL K G Q cn sn σ L (pc + 1) (.int (xs i) :: st)) : WL K G Q cn sn σ L pc (.int x :: .ref b :: st) := fun ls H locs h1 h2 h3 => va_sld C.hx C.hb C.2.2.2.2.1 C.2.2.2.2.2.1 C.2.2.2.2.2.2 h3 (nI_in9 hx hi (by omega)) hd (by rw [nI_cl9 hx hi (by omega)]; exact k ls H locs h1 h2 h3)
/-- script[i + j] -/
theorem wl_arg {i j : Nat} {z : Int} (C : CL K G b n xs) (hn : n ≤ 320) (hij : i + j < n) (d0 : decode cL_law pc = .ok (.aload_n 0, 1)) (d1 : decode cL_law (pc + 1) = .ok (.iload_n 3, 1)) (d2 : decode cL_law (pc + 2) = .ok (.iconst z, 1)) (hz : Int32.ofInt z = nI j) (d3 : decode cL_law (pc + 3) = .ok (.iadd, 1)) (d4 : decode cL_law (pc + 4) = .ok (.iaload, 1)) (k : WL K G Q cn sn σ (LL G b i) (pc + 5) (.int (xs (i + j)) :: st)) : WL K G Q cn sn σ (LL G b i) pc st := by
  refine wl_aload_n C d0 rfl 3 rfl ?_
  refine wl_iload_n C d1 rfl 0 rfl ?_
  refine wl_iconst C d2 hz ?_
  refine wl_iadd C d3 ?_
  exact wl_sld C (nI_add i j) hij hn d4 k
theorem wl_run {y : MethodName} {ws ws' : List Cond} {bytes : ByteArray} {maxL index na kd ci N d : Nat} {rt : Option FieldType} {Cn : String} {T : u_T} {fl : List Fd9} {As rest : List Value} {Qc : Array Value → State → Outcome → State → Prop}
    (C : CL K G b n xs) (hM : Met (kL K) y ws (rmd d) (va_Pc (.ref (gA G kd 0) :: As) (wu G σ)) Qc 0 0 (wo G)) (hG : GoodIn wsL_law (wsV RL index Cn y ws)) (hw : ws = Cond.code y bytes maxL rt :: ws')
    (hd4 : y.cls = Cn ∧ y.cls ≠ "java/lang/invoke/MethodHandle" ∧ y.cls ≠ "java/lang/invoke/VarHandle" ∧ (parseMethodDescriptor y.desc).map (fun d => d.parameters.length) = some na) (hR : d + 1 ≤ 11 ∧ 8 + (maxL + 11) + 40 * d ≤ 466) (hcn : cn ≤ 600000) (hsn : sn ≤ 7302250)
    (hl : lay kd = .inl (ci, fl)) (hi : 0 < dom kd) (hc : vwCl[ci]? = some (Cn, T, N)) (hn : As.length = na) (hst : st = As.reverse ++ .ref (gA G kd 0) :: rest) (hcat : (rest.map fun v => v.category).sum ≤ 8) (hd : decode cL_law pc = .ok (.invokevirtual index, 3)) (ls : Array Slot) (H : Heap) (locs : List Loc) (h1 : lv_has ls 4 L) (h2 : wd G σ H) :
    va_Run (kP K) (kL K) (kE K) (kR K) (kS K) (kM K) (kA K) (kB K) (kT K) (kC K) H locs cn sn 0 0 (F0 (kM K) pc ls st) rest (Qc (Value.ref (gA G kd 0) :: As).toArray) (wo G) :=
  va_runV (C := Cn) (n := na) (As := As) (rest := rest) C.1 hM (cwV na C.ht hG hw rfl rfl hd4 (by rw [C.2.2.2.1]; exact hR)) ⟨wu_blind, va_recv C.2.1.1 (wd_one h2 hi (gc_o hl)) (q0 := 0) hc rfl, fun U hU hW => ⟨rfl, by rw [hU]; exact h2, kn_moved hW C.2.1⟩⟩ rfl hn h1.1 hst (by show 2 * 0 + _ ≤ 8; omega) hd (by rw [C.2.2.2.1]; exact ⟨hcn, hsn⟩)
theorem wl_calli {y : MethodName} {ws ws' : List Cond} {bytes : ByteArray} {maxL index na kd ci N d : Nat} {rt : Option FieldType} {Cn : String} {T : u_T} {fl : List Fd9} {As rest : List Value} {post : Int32 → Sg → Prop}
    (C : CL K G b n xs) (hM : CtI (kL K) y ws (rmd d) G (.ref (gA G kd 0) :: As) σ post) (hG : GoodIn wsL_law (wsV RL index Cn y ws)) (hw : ws = Cond.code y bytes maxL rt :: ws')
    (hd4 : y.cls = Cn ∧ y.cls ≠ "java/lang/invoke/MethodHandle" ∧ y.cls ≠ "java/lang/invoke/VarHandle" ∧ (parseMethodDescriptor y.desc).map (fun d => d.parameters.length) = some na) (hR : d + 1 ≤ 11 ∧ 8 + (maxL + 11) + 40 * d ≤ 466) (hcn : cn ≤ 600000) (hsn : sn ≤ 7302250)
    (hl : lay kd = .inl (ci, fl)) (hi : 0 < dom kd) (hc : vwCl[ci]? = some (Cn, T, N)) (hn : As.length = na) (hst : st = As.reverse ++ .ref (gA G kd 0) :: rest) (hcat : (rest.map fun v => v.category).sum ≤ 8) (hd : decode cL_law pc = .ok (.invokevirtual index, 3)) (kk : ∀ (r : Int32) (σ' : Sg), post r σ' → WL K G Q cn sn σ' L (pc + 3) (.int r :: rest)) : WL K G Q cn sn σ L pc st := fun ls H locs h1 h2 h3 =>
  va_calli (wl_run C hM hG hw hd4 hR hcn hsn hl hi hc hn hst hcat hd ls H locs h1 h2) h3 (fun _ _ q => q) (fun _ q => q) (fun r σ' t H1 locs1 ht _ hp hB _ _ hS => kk r σ' hp ls H1 locs1 h1 (by rw [← ht]; exact hB) hS)
theorem wl_calll {y : MethodName} {ws ws' : List Cond} {bytes : ByteArray} {maxL index na kd ci N d : Nat} {rt : Option FieldType} {Cn : String} {T : u_T} {fl : List Fd9} {As rest : List Value} {post : Int64 → Sg → Prop}
    (C : CL K G b n xs) (hM : CtL (kL K) y ws (rmd d) G (.ref (gA G kd 0) :: As) σ post) (hG : GoodIn wsL_law (wsV RL index Cn y ws)) (hw : ws = Cond.code y bytes maxL rt :: ws')
    (hd4 : y.cls = Cn ∧ y.cls ≠ "java/lang/invoke/MethodHandle" ∧ y.cls ≠ "java/lang/invoke/VarHandle" ∧ (parseMethodDescriptor y.desc).map (fun d => d.parameters.length) = some na) (hR : d + 1 ≤ 11 ∧ 8 + (maxL + 11) + 40 * d ≤ 466) (hcn : cn ≤ 600000) (hsn : sn ≤ 7302250)
    (hl : lay kd = .inl (ci, fl)) (hi : 0 < dom kd) (hc : vwCl[ci]? = some (Cn, T, N)) (hn : As.length = na) (hst : st = As.reverse ++ .ref (gA G kd 0) :: rest) (hcat : (rest.map fun v => v.category).sum ≤ 8) (hd : decode cL_law pc = .ok (.invokevirtual index, 3)) (kk : ∀ (r : Int64) (σ' : Sg), post r σ' → WL K G Q cn sn σ' L (pc + 3) (.long r :: rest)) : WL K G Q cn sn σ L pc st := fun ls H locs h1 h2 h3 =>
  va_calll (wl_run C hM hG hw hd4 hR hcn hsn hl hi hc hn hst hcat hd ls H locs h1 h2) h3 (fun _ _ q => q) (fun _ q => q) (fun r σ' t H1 locs1 ht _ hp hB _ _ hS => kk r σ' hp ls H1 locs1 h1 (by rw [← ht]; exact hB) hS)
theorem wl_in {dflt lo hi : Int} {offs : Array Int} {len : Nat} {x : Int32} {off : Int} (tgt : Nat) (C : CL K G b n xs) (hd : decode cL_law pc = .ok (.tableswitch dflt lo hi offs, len)) (z : Int) (hz : x.toInt = z) (h1 : ¬ z < lo) (h2 : ¬ hi < z) (ho : offs[(z - lo).toNat]? = some off) (ht : (pc : Int) + off = (tgt : Int)) (k : WL K G Q cn sn σ L tgt st) : WL K G Q cn sn σ L pc (.int x :: st) := fun ls H locs q1 q2 q3 => lv_tableIn C.hx C.hb hd (by rw [hz]; exact h1) (by rw [hz]; exact h2) (by rw [hz]; exact ho) ht (k ls H locs q1 q2 q3)
theorem wl_out {dflt lo hi : Int} {offs : Array Int} {len : Nat} {x : Int32} (tgt : Nat) (C : CL K G b n xs) (hd : decode cL_law pc = .ok (.tableswitch dflt lo hi offs, len)) (h : x.toInt < lo ∨ hi < x.toInt) (ht : (pc : Int) + dflt = (tgt : Int)) (k : WL K G Q cn sn σ L tgt st) : WL K G Q cn sn σ L pc (.int x :: st) := fun ls H locs q1 q2 q3 => lv_tableOut C.hx C.hb hd h ht (k ls H locs q1 q2 q3)
end LW
theorem lgc_self (x : Int64) : lg_cmp x x = 0 := by
  unfold lg_cmp
  simp
theorem le5 {i n : Nat} (hn : n ≤ 320) (hi : i ≤ 330) (h : ¬ (nI n - 5 < nI i)) : i + 5 ≤ n := by
  rcases Nat.lt_or_ge n (i + 5) with q | q
  · exfalso
    apply h
    by_cases h5 : 5 ≤ n
    · obtain ⟨m, rfl⟩ : ∃ m, n = m + 5 := ⟨n - 5, by omega⟩
      have e : nI (m + 5) - 5 = nI m := by
        rw [← nI_add m 5]
        show nI m + 5 - 5 = nI m
        exact Int32.add_sub_cancel _ _
      rw [e]
      exact nI_lt (by omega) (by omega)
    · have e : nI n - 5 < 0 := by
        rcases (show n = 0 ∨ n = 1 ∨ n = 2 ∨ n = 3 ∨ n = 4 by omega) with rfl | rfl | rfl | rfl | rfl <;> decide
      have e2 : (0 : Int32) ≤ nI i := by
        have := nI_le (Nat.zero_le i) (show i < 2 ^ 31 by omega)
        rw [nI_0] at this
        exact this
      exact Int32.lt_of_lt_of_le e e2
  · exact q
