def mx9 (x y : Int32) : Int32 := if x < y then y else x
def mn9 (x y : Int32) : Int32 := if y < x then y else x
theorem ninc {x y : Int32} {j : Nat} (hx : x = nI j) (e : y = x + Int32.ofInt 1) : y = nI (j + 1) := by
  rw [e, hx]
  exact nI_1 j
theorem dm19 {p i : Nat} (hp : p < 8) (hi : i < 14) : 14 * p + i < dom 19 := by
  show _ < 112
  omega
section LF
variable {K : Kx} {G : Gx} {cc : ByteArray} {nL : Nat} {own : String} {Ts : List Cond} {rm : Room} {ret : Option FieldType} {Q : State → Prop} {σ : Sg} {L : List (Nat × Value)} {pc : Nat} {st : List Value}
theorem ww_calliF {f : Int32} {g : Sg} {a : Array Value} {rest : List Value} (hr : CallX K G nL σ L pc st rest (va_Qi (fun r σ' => r = f ∧ σ' = g) (fun σ' t => wd G σ' t.heap) (wo G) a)) (kk : WW K G nL Q g L (pc + 3) (.int f :: rest)) : WW K G nL Q σ L pc st := ww_calli hr (fun r σ' h => by rw [h.1, h.2]; exact kk)
theorem ww_calllF {f : Int64} {g : Sg} {a : Array Value} {rest : List Value} (hr : CallX K G nL σ L pc st rest (va_Ql (fun r σ' => r = f ∧ σ' = g) (fun σ' t => wd G σ' t.heap) (wo G) a)) (kk : WW K G nL Q g L (pc + 3) (.long f :: rest)) : WW K G nL Q σ L pc st := ww_calll hr (fun r σ' h => by rw [h.1, h.2]; exact kk)
theorem ww_callvF {g : Sg} {a : Array Value} {rest : List Value} (hr : CallX K G nL σ L pc st rest (va_Qv (fun σ' => σ' = g) (fun σ' t => wd G σ' t.heap) (wo G) a)) (kk : WW K G nL Q g L (pc + 3) rest) : WW K G nL Q σ L pc st := ww_callv hr (fun σ' h => by rw [h]; exact kk)
theorem ww_callqF {f : Option Nat} {g : Sg} {a : Array Value} {rest : List Value} (hr : CallX K G nL σ L pc st rest (va_Qq (fun r σ' => r = f ∧ σ' = g) (fun σ' t => wd G σ' t.heap) (wo G) a)) (kk : WW K G nL Q g L (pc + 3) (va_rf f :: rest)) : WW K G nL Q σ L pc st := ww_callq hr (fun r σ' h => by rw [h.1, h.2]; exact kk)
theorem cx_N {y : MethodName} {ws ws' : List Cond} {bytes : ByteArray} {maxL n : Nat} {rt : Option FieldType} {rmc : Room} {As rest : List Value} {Qc : Array Value → State → Outcome → State → Prop}
    (C : CX K G cc nL RX3 Ts rm ret) (hM : Met (kL K) y ws rmc (va_Pc As (wu G σ)) Qc 0 0 (wo G)) (hG : GoodIn Ts ws) (hw : ws = Cond.code y bytes maxL rt :: ws') (hrc : rmc.cells = 0 ∧ rmc.slots = 0)
    (hd4 : y.cls ≠ "java/lang/invoke/MethodHandle" ∧ y.cls ≠ "java/lang/invoke/VarHandle" ∧ (parseMethodDescriptor y.desc).map (fun d => d.parameters.length) = some n) (hR : rmc.frames + 1 ≤ rm.frames ∧ 8 + (maxL + 11) + rmc.locals ≤ rm.locals)
    (hn : As.length = n) (hst : st = As.reverse ++ rest) (hcat : (rest.map fun v => v.category).sum ≤ 8) (hd : decode cc pc = .ok (.invokestatic 83, 3)) (hy : y = yX5_greatestDivisor) (hini : Cond.initialized y.cls ∈ Ts) (hs : Cond.static y ∈ Ts) :
    CallX K G nL σ L pc st rest (Qc As.toArray) := fun ls H locs h1 h2 h3 =>
  va_runSN (host := "PolyCuts") (n := n) (As := As) (rest := rest) C.1 hM ⟨va_cnB n C.ht hG hw hrc.1 hrc.2 (by rw [hy]; exact C.2.1.2) (C.ht _ hini) hd4 (by rw [C.2.2.2.1]; exact hR), C.ht _ hs, trivial⟩ ⟨wu_blind, fun U hU hW => ⟨rfl, by rw [hU]; exact h2, kn_moved hW C.2.1⟩⟩ rfl hn h1.1 hst (by show 2 * 0 + _ ≤ 8; omega) hd ⟨Nat.zero_le _, Nat.zero_le _⟩
theorem ww_mmax {x y : Int32} {index : Nat} (C : CX K G cc nL own Ts rm ret) (h1 : Cond.methodLink own index Lib.Math.max.name ∈ Ts) (h2 : Cond.static Lib.Math.max.name ∈ Ts) (h3 : Cond.initialized "java/lang/Math" ∈ Ts) (h4 : Cond.code Lib.Math.max.name Lib.Math.max.code 2 (some .int) ∈ Ts) (hf : 1 ≤ rm.frames) (hlo : (st.map fun v => v.category).sum + 13 ≤ rm.locals) (hd : decode cc pc = .ok (.invokestatic index, 3)) (kk : WW K G nL Q σ L (pc + 3) (.int (mx9 x y) :: st)) : WW K G nL Q σ L pc (.int y :: .int x :: st) := fun ls H locs q1 q2 q3 =>
  va_mmax C.hx C.hb (by rw [q1.1]; exact C.1.2.2.1) C.ho (C.ht _ h1) (C.ht _ h2) (C.ht _ h3) (C.ht _ h4) (by rw [C.2.2.2.1]; exact hf) (by rw [C.2.2.2.1]; exact hlo) (Nat.zero_le _) (Nat.zero_le _) hd (kk ls H locs q1 q2 q3)
theorem ww_mmin {x y : Int32} {index : Nat} (C : CX K G cc nL own Ts rm ret) (h1 : Cond.methodLink own index Lib.Math.min.name ∈ Ts) (h2 : Cond.static Lib.Math.min.name ∈ Ts) (h3 : Cond.initialized "java/lang/Math" ∈ Ts) (h4 : Cond.code Lib.Math.min.name Lib.Math.min.code 2 (some .int) ∈ Ts) (hf : 1 ≤ rm.frames) (hlo : (st.map fun v => v.category).sum + 13 ≤ rm.locals) (hd : decode cc pc = .ok (.invokestatic index, 3)) (kk : WW K G nL Q σ L (pc + 3) (.int (mn9 x y) :: st)) : WW K G nL Q σ L pc (.int y :: .int x :: st) := fun ls H locs q1 q2 q3 =>
  va_mmin C.hx C.hb (by rw [q1.1]; exact C.1.2.2.1) C.ho (C.ht _ h1) (C.ht _ h2) (C.ht _ h3) (C.ht _ h4) (by rw [C.2.2.2.1]; exact hf) (by rw [C.2.2.2.1]; exact hlo) (Nat.zero_le _) (Nat.zero_le _) hd (kk ls H locs q1 q2 q3)
theorem ww_mabs {x : Int32} {index : Nat} (C : CX K G cc nL own Ts rm ret) (h1 : Cond.methodLink own index Lib.Math.abs.name ∈ Ts) (h2 : Cond.static Lib.Math.abs.name ∈ Ts) (h3 : Cond.initialized "java/lang/Math" ∈ Ts) (h4 : Cond.code Lib.Math.abs.name Lib.Math.abs.code 1 (some .int) ∈ Ts) (hf : 1 ≤ rm.frames) (hlo : (st.map fun v => v.category).sum + 13 ≤ rm.locals) (hd : decode cc pc = .ok (.invokestatic index, 3)) (kk : WW K G nL Q σ L (pc + 3) (.int (if 0 ≤ x then x else 0 - x) :: st)) : WW K G nL Q σ L pc (.int x :: st) := fun ls H locs q1 q2 q3 =>
  va_mabs C.hx C.hb (by rw [q1.1]; exact C.1.2.2.1) C.ho (C.ht _ h1) (C.ht _ h2) (C.ht _ h3) (C.ht _ h4) (by rw [C.2.2.2.1]; exact hf) (by rw [C.2.2.2.1]; exact hlo) (Nat.zero_le _) (Nat.zero_le _) hd (kk ls H locs q1 q2 q3)
theorem ww_mabsl {x : Int64} {index : Nat} (C : CX K G cc nL own Ts rm ret) (h1 : Cond.methodLink own index Lib.MathLoose.abs_long.x ∈ Ts) (h2 : Cond.static Lib.MathLoose.abs_long.x ∈ Ts) (h3 : Cond.initialized "java/lang/Math" ∈ Ts) (h4 : Cond.code Lib.MathLoose.abs_long.x Lib.MathLoose.abs_long.code 2 (some .long) ∈ Ts) (hf : 1 ≤ rm.frames) (hlo : (st.map fun v => v.category).sum + 13 ≤ rm.locals) (hd : decode cc pc = .ok (.invokestatic index, 3)) (kk : WW K G nL Q σ L (pc + 3) (.long (if 0 < x then x else -x) :: st)) : WW K G nL Q σ L pc (.long x :: st) := fun ls H locs q1 q2 q3 =>
  va_mabs_long C.hx C.hb (by rw [q1.1]; exact C.1.2.2.1) C.ho (C.ht _ h1) (C.ht _ h2) (C.ht _ h3) (C.ht _ h4) (by rw [C.2.2.2.1]; exact hf) (by rw [C.2.2.2.1]; exact hlo) (Nat.zero_le _) (Nat.zero_le _) hd (kk ls H locs q1 q2 q3)
/-- the whole memory as one list of cells -/
def keys9 : List (Nat × Nat) := (List.range 48).flatMap (fun k => (List.range (dom k)).map (fun i => (k, i)))
theorem keys9_nd : keys9.Nodup := by decide +kernel
def allw (G : Gx) (σ : Sg) : va_W := keys9.map (fun q => (gA G q.1 q.2, gcell G σ q.1 q.2))
theorem dom_lt {k i : Nat} (h : i < dom k) : k < 48 := by
  rcases Nat.lt_or_ge k 48 with q | q
  · exact q
  · exfalso
    have e : dom k = 0 := by
      obtain ⟨z, rfl⟩ : ∃ z, k = z + 48 := ⟨k - 48, by omega⟩
      rfl
    rw [e] at h
    omega
theorem keys9_in {k i : Nat} (h : i < dom k) : (k, i) ∈ keys9 := List.mem_flatMap.mpr ⟨k, List.mem_range.mpr (dom_lt h), List.mem_map.mpr ⟨i, List.mem_range.mpr h, rfl⟩⟩
theorem keys9_of {x : Nat × Nat} (h : x ∈ keys9) : x.2 < dom x.1 := by
  obtain ⟨k, -, h2⟩ := List.mem_flatMap.mp h
  obtain ⟨i, h3, h4⟩ := List.mem_map.mp h2
  rw [← h4]
  exact List.mem_range.mp h3
theorem allw_at {k i : Nat} (h : i < dom k) : ∃ q : Nat, keys9[q]? = some (k, i) ∧ (allw G σ)[q]? = some (gA G k i, gcell G σ k i) := by
  obtain ⟨q, hq⟩ := List.getElem?_of_mem (keys9_in h)
  exact ⟨q, hq, by rw [allw, List.getElem?_map, hq]; rfl⟩
theorem allw_of {q : Nat} {x : Nat × va_E} (h : (allw G σ)[q]? = some x) : ∃ k i, keys9[q]? = some (k, i) ∧ i < dom k ∧ x = (gA G k i, gcell G σ k i) := by
  rw [allw, List.getElem?_map] at h
  cases hk : keys9[q]? with
  | none => rw [hk] at h; cases h
  | some y =>
    rw [hk] at h
    exact ⟨y.1, y.2, rfl, keys9_of (List.mem_of_getElem? hk), (Option.some.inj h).symm⟩
theorem allw_P {H : Heap} (h : wd G σ H) : va_P (gD G) vwCl (allw G σ) H := by
  intro q x hx
  obtain ⟨k, i, -, hi, rfl⟩ := allw_of hx
  exact h k i hi
theorem keys9_inj {i j : Nat} {x : Nat × Nat} (h1 : keys9[i]? = some x) (h2 : keys9[j]? = some x) : i = j := (List.getElem?_inj (List.getElem?_eq_some_iff.mp h1).1 keys9_nd).mp (h1.trans h2.symm)
theorem allw_D (ha : wa G) : va_D (wo G) (allw G σ) := by
  refine ⟨fun i j x y hx hy hxy => ?_, fun q x hx => ?_⟩
  · obtain ⟨k1, i1, e1, d1, rfl⟩ := allw_of hx
    obtain ⟨k2, i2, e2, d2, rfl⟩ := allw_of hy
    obtain ⟨rfl, rfl⟩ := ha k1 i1 k2 i2 d1 d2 hxy
    exact keys9_inj e1 e2
  · obtain ⟨k1, i1, -, d1, rfl⟩ := allw_of hx
    exact ⟨k1, i1, d1, rfl⟩
def sgc (σ : Sg) (k i0 i1 n : Nat) : Sg := fun k' i' f => if k' = k ∧ i' = i1 ∧ f < n then σ k i0 f else σ k' i' f
/-- System.arraycopy of the first n ints of one row of a kind to another -/
theorem ww_copy {k i0 i1 n N index : Nat} {z : Int32} (C : CX K G cc nL own Ts rm ret) (hl : lay k = .inr (0, N, none)) (hi0 : i0 < dom k) (hi1 : i1 < dom k) (hz : z = nI n) (hn : n ≤ N) (hN : N < 2 ^ 31) (h1 : Cond.methodLink own index arraycopyName ∈ Ts) (h2 : Cond.native arraycopyName ∈ Ts) (h3 : Cond.static arraycopyName ∈ Ts) (h4 : Cond.initialized "java/lang/System" ∈ Ts) (hf : 1 ≤ rm.frames) (hlo : (st.map fun v => v.category).sum + (nativeFrameWords "java/lang/System" "arraycopy" 5 + 11) ≤ rm.locals) (hd : decode cc pc = .ok (.invokestatic index, 3)) (kk : WW K G nL Q (sgc σ k i0 i1 n) L (pc + 3) st) : WW K G nL Q σ L pc (.int z :: .int 0 :: .ref (gA G k i1) :: .int 0 :: .ref (gA G k i0) :: st) := by
  intro ls H locs q1 q2 q3
  subst hz
  have hcl : (nI n).toNatClampNeg = n := nI_clamp (by omega)
  have h00 : (0 : Int32).toNatClampNeg = 0 := rfl
  obtain ⟨p0, k0, e0⟩ := allw_at (G := G) (σ := σ) hi0
  obtain ⟨p1, k1, e1⟩ := allw_at (G := G) (σ := σ) hi1
  rw [gc_a hl] at e0 e1
  refine va_copyi C.hx C.hb (by rw [q1.1]; exact C.1.2.2.1) C.ho (C.ht _ h1) (C.ht _ h2) (C.ht _ h3) (C.ht _ h4) C.2.1.1 (allw_P q2) (allw_D C.2.2.1) q3 p0 p1 0 0 e0 e1 rfl rfl rfl (by decide) (by decide) (nI_pos (by omega)) (by rw [h00, hcl]; omega) (by rw [h00, hcl]; omega) (fun i _ => rfl) (by rw [C.2.2.2.1]; exact hf) (by rw [C.2.2.2.1]; exact hlo) hd (fun H1 locs1 hP _ hS => ?_)
  refine kk ls H1 locs1 q1 ?_ hS
  intro k' i' hi'
  obtain ⟨p2, k2, e2⟩ := allw_at (G := G) (σ := σ) hi'
  by_cases hq : p2 = p1
  · subst hq
    have e9 := k1.symm.trans k2
    injection e9 with e9
    injection e9 with e8 e9
    subst e8
    subst e9
    have hx := hP p2 _ (by rw [List.getElem?_set_self (List.getElem?_eq_some_iff.mp e1).1])
    rw [gc_a hl]
    have ef : sgc σ k i0 i1 n k i1 = va_cpy (σ k i0) (σ k i1) (0 : Int32).toNatClampNeg (0 : Int32).toNatClampNeg (nI n).toNatClampNeg := by
      funext f
      rw [h00, hcl]
      by_cases hf9 : f < n
      · simp [sgc, va_cpy, hf9]
      · simp [sgc, va_cpy, hf9]
    rw [ef]
    exact hx
  · have hx := hP p2 (gA G k' i', gcell G σ k' i') (by rw [List.getElem?_set_ne (Ne.symm hq)]; exact e2)
    rw [gcell_other (σ := σ) (fun f => ?_)]
    · exact hx
    · refine if_neg (fun h9 => hq ?_)
      obtain ⟨rfl, rfl, -⟩ := h9
      exact keys9_inj k2 k1
end LF
section LS
variable {K : Kx} {G : Gx} {nL : Nat} {Q : State → Prop} {σ : Sg} {L L' : List (Nat × Value)} {pc : Nat} {st : List Value}
theorem ww_sub (ps : List Nat) (h : lv_pick L ps = L') (k : WW K G nL Q σ L' pc st) : WW K G nL Q σ L pc st := fun ls H locs h1 h2 h3 => k ls H locs (lv_sub h1 ps h) h2 h3
end LS
