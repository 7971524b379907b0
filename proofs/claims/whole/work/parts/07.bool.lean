section LB
variable {K : Kx} {G : Gx} {cc : ByteArray} {nL : Nat} {own : String} {Ts : List Cond} {rm : Room} {ret : Option FieldType} {Q : State → Prop} {σ : Sg} {L : List (Nat × Value)} {pc : Nat} {st : List Value}
theorem ww_b_eq {x : Int32} (C : CX K G cc nL own Ts rm ret) (hd : decode cc pc = .ok (.ifCond .eq 7, 3)) (h1 : decode cc (pc + 3) = .ok (.iconst 1, 1)) (h2 : decode cc (pc + 4) = .ok (.goto 4, 3)) (h3 : decode cc (pc + 7) = .ok (.iconst 0, 1)) (k : WW K G nL Q σ L (pc + 8) (.int (bI (decide (¬ x = 0))) :: st)) : WW K G nL Q σ L pc (.int x :: st) := by
  refine ww_if_eq (pc + 7) C hd (by omega) (fun h => ?_) (fun h => ?_)
  · refine ww_iconst (v := 0) C h3 rfl ?_
    rw [decide_eq_false (p := ¬ x = 0) (fun q => q h)] at k
    exact k
  · refine ww_iconst (v := 1) C h1 rfl ?_
    refine ww_goto (pc + 8) C h2 (by omega) ?_
    rw [decide_eq_true (p := ¬ x = 0) h] at k
    exact k
theorem ww_b_ne {x : Int32} (C : CX K G cc nL own Ts rm ret) (hd : decode cc pc = .ok (.ifCond .ne 7, 3)) (h1 : decode cc (pc + 3) = .ok (.iconst 1, 1)) (h2 : decode cc (pc + 4) = .ok (.goto 4, 3)) (h3 : decode cc (pc + 7) = .ok (.iconst 0, 1)) (k : WW K G nL Q σ L (pc + 8) (.int (bI (decide (x = 0))) :: st)) : WW K G nL Q σ L pc (.int x :: st) := by
  refine ww_if_ne (pc + 7) C hd (by omega) (fun h => ?_) (fun h => ?_)
  · refine ww_iconst (v := 0) C h3 rfl ?_
    rw [decide_eq_false (p := x = 0) h] at k
    exact k
  · refine ww_iconst (v := 1) C h1 rfl ?_
    refine ww_goto (pc + 8) C h2 (by omega) ?_
    rw [decide_eq_true (p := x = 0) h] at k
    exact k
theorem ww_b_lt {x : Int32} (C : CX K G cc nL own Ts rm ret) (hd : decode cc pc = .ok (.ifCond .lt 7, 3)) (h1 : decode cc (pc + 3) = .ok (.iconst 1, 1)) (h2 : decode cc (pc + 4) = .ok (.goto 4, 3)) (h3 : decode cc (pc + 7) = .ok (.iconst 0, 1)) (k : WW K G nL Q σ L (pc + 8) (.int (bI (decide (0 ≤ x))) :: st)) : WW K G nL Q σ L pc (.int x :: st) := by
  refine ww_if_lt (pc + 7) C hd (by omega) (fun h => ?_) (fun h => ?_)
  · refine ww_iconst (v := 0) C h3 rfl ?_
    rw [decide_eq_false (p := 0 ≤ x) (i32_nle.mpr h)] at k
    exact k
  · refine ww_iconst (v := 1) C h1 rfl ?_
    refine ww_goto (pc + 8) C h2 (by omega) ?_
    rw [decide_eq_true (p := 0 ≤ x) (i32_nlt.mp h)] at k
    exact k
theorem ww_b_ge {x : Int32} (C : CX K G cc nL own Ts rm ret) (hd : decode cc pc = .ok (.ifCond .ge 7, 3)) (h1 : decode cc (pc + 3) = .ok (.iconst 1, 1)) (h2 : decode cc (pc + 4) = .ok (.goto 4, 3)) (h3 : decode cc (pc + 7) = .ok (.iconst 0, 1)) (k : WW K G nL Q σ L (pc + 8) (.int (bI (decide (x < 0))) :: st)) : WW K G nL Q σ L pc (.int x :: st) := by
  refine ww_if_ge (pc + 7) C hd (by omega) (fun h => ?_) (fun h => ?_)
  · refine ww_iconst (v := 0) C h3 rfl ?_
    rw [decide_eq_false (p := x < 0) (i32_nlt.mpr h)] at k
    exact k
  · refine ww_iconst (v := 1) C h1 rfl ?_
    refine ww_goto (pc + 8) C h2 (by omega) ?_
    rw [decide_eq_true (p := x < 0) (i32_nle.mp h)] at k
    exact k
theorem ww_b_gt {x : Int32} (C : CX K G cc nL own Ts rm ret) (hd : decode cc pc = .ok (.ifCond .gt 7, 3)) (h1 : decode cc (pc + 3) = .ok (.iconst 1, 1)) (h2 : decode cc (pc + 4) = .ok (.goto 4, 3)) (h3 : decode cc (pc + 7) = .ok (.iconst 0, 1)) (k : WW K G nL Q σ L (pc + 8) (.int (bI (decide (x ≤ 0))) :: st)) : WW K G nL Q σ L pc (.int x :: st) := by
  refine ww_if_gt (pc + 7) C hd (by omega) (fun h => ?_) (fun h => ?_)
  · refine ww_iconst (v := 0) C h3 rfl ?_
    rw [decide_eq_false (p := x ≤ 0) (i32_nle.mpr h)] at k
    exact k
  · refine ww_iconst (v := 1) C h1 rfl ?_
    refine ww_goto (pc + 8) C h2 (by omega) ?_
    rw [decide_eq_true (p := x ≤ 0) (i32_nlt.mp h)] at k
    exact k
theorem ww_b_le {x : Int32} (C : CX K G cc nL own Ts rm ret) (hd : decode cc pc = .ok (.ifCond .le 7, 3)) (h1 : decode cc (pc + 3) = .ok (.iconst 1, 1)) (h2 : decode cc (pc + 4) = .ok (.goto 4, 3)) (h3 : decode cc (pc + 7) = .ok (.iconst 0, 1)) (k : WW K G nL Q σ L (pc + 8) (.int (bI (decide (0 < x))) :: st)) : WW K G nL Q σ L pc (.int x :: st) := by
  refine ww_if_le (pc + 7) C hd (by omega) (fun h => ?_) (fun h => ?_)
  · refine ww_iconst (v := 0) C h3 rfl ?_
    rw [decide_eq_false (p := 0 < x) (i32_nlt.mpr h)] at k
    exact k
  · refine ww_iconst (v := 1) C h1 rfl ?_
    refine ww_goto (pc + 8) C h2 (by omega) ?_
    rw [decide_eq_true (p := 0 < x) (i32_nle.mp h)] at k
    exact k
theorem ww_bc_eq {x y : Int32} (C : CX K G cc nL own Ts rm ret) (hd : decode cc pc = .ok (.if_icmp .eq 7, 3)) (h1 : decode cc (pc + 3) = .ok (.iconst 1, 1)) (h2 : decode cc (pc + 4) = .ok (.goto 4, 3)) (h3 : decode cc (pc + 7) = .ok (.iconst 0, 1)) (k : WW K G nL Q σ L (pc + 8) (.int (bI (decide (¬ x = y))) :: st)) : WW K G nL Q σ L pc (.int y :: .int x :: st) := by
  refine ww_icmp_eq (pc + 7) C hd (by omega) (fun h => ?_) (fun h => ?_)
  · refine ww_iconst (v := 0) C h3 rfl ?_
    rw [decide_eq_false (p := ¬ x = y) (fun q => q h)] at k
    exact k
  · refine ww_iconst (v := 1) C h1 rfl ?_
    refine ww_goto (pc + 8) C h2 (by omega) ?_
    rw [decide_eq_true (p := ¬ x = y) h] at k
    exact k
theorem ww_bc_ne {x y : Int32} (C : CX K G cc nL own Ts rm ret) (hd : decode cc pc = .ok (.if_icmp .ne 7, 3)) (h1 : decode cc (pc + 3) = .ok (.iconst 1, 1)) (h2 : decode cc (pc + 4) = .ok (.goto 4, 3)) (h3 : decode cc (pc + 7) = .ok (.iconst 0, 1)) (k : WW K G nL Q σ L (pc + 8) (.int (bI (decide (x = y))) :: st)) : WW K G nL Q σ L pc (.int y :: .int x :: st) := by
  refine ww_icmp_ne (pc + 7) C hd (by omega) (fun h => ?_) (fun h => ?_)
  · refine ww_iconst (v := 0) C h3 rfl ?_
    rw [decide_eq_false (p := x = y) h] at k
    exact k
  · refine ww_iconst (v := 1) C h1 rfl ?_
    refine ww_goto (pc + 8) C h2 (by omega) ?_
    rw [decide_eq_true (p := x = y) h] at k
    exact k
theorem ww_bc_lt {x y : Int32} (C : CX K G cc nL own Ts rm ret) (hd : decode cc pc = .ok (.if_icmp .lt 7, 3)) (h1 : decode cc (pc + 3) = .ok (.iconst 1, 1)) (h2 : decode cc (pc + 4) = .ok (.goto 4, 3)) (h3 : decode cc (pc + 7) = .ok (.iconst 0, 1)) (k : WW K G nL Q σ L (pc + 8) (.int (bI (decide (y ≤ x))) :: st)) : WW K G nL Q σ L pc (.int y :: .int x :: st) := by
  refine ww_icmp_lt (pc + 7) C hd (by omega) (fun h => ?_) (fun h => ?_)
  · refine ww_iconst (v := 0) C h3 rfl ?_
    rw [decide_eq_false (p := y ≤ x) (i32_nle.mpr h)] at k
    exact k
  · refine ww_iconst (v := 1) C h1 rfl ?_
    refine ww_goto (pc + 8) C h2 (by omega) ?_
    rw [decide_eq_true (p := y ≤ x) (i32_nlt.mp h)] at k
    exact k
theorem ww_bc_ge {x y : Int32} (C : CX K G cc nL own Ts rm ret) (hd : decode cc pc = .ok (.if_icmp .ge 7, 3)) (h1 : decode cc (pc + 3) = .ok (.iconst 1, 1)) (h2 : decode cc (pc + 4) = .ok (.goto 4, 3)) (h3 : decode cc (pc + 7) = .ok (.iconst 0, 1)) (k : WW K G nL Q σ L (pc + 8) (.int (bI (decide (x < y))) :: st)) : WW K G nL Q σ L pc (.int y :: .int x :: st) := by
  refine ww_icmp_ge (pc + 7) C hd (by omega) (fun h => ?_) (fun h => ?_)
  · refine ww_iconst (v := 0) C h3 rfl ?_
    rw [decide_eq_false (p := x < y) (i32_nlt.mpr h)] at k
    exact k
  · refine ww_iconst (v := 1) C h1 rfl ?_
    refine ww_goto (pc + 8) C h2 (by omega) ?_
    rw [decide_eq_true (p := x < y) (i32_nle.mp h)] at k
    exact k
theorem ww_bc_gt {x y : Int32} (C : CX K G cc nL own Ts rm ret) (hd : decode cc pc = .ok (.if_icmp .gt 7, 3)) (h1 : decode cc (pc + 3) = .ok (.iconst 1, 1)) (h2 : decode cc (pc + 4) = .ok (.goto 4, 3)) (h3 : decode cc (pc + 7) = .ok (.iconst 0, 1)) (k : WW K G nL Q σ L (pc + 8) (.int (bI (decide (x ≤ y))) :: st)) : WW K G nL Q σ L pc (.int y :: .int x :: st) := by
  refine ww_icmp_gt (pc + 7) C hd (by omega) (fun h => ?_) (fun h => ?_)
  · refine ww_iconst (v := 0) C h3 rfl ?_
    rw [decide_eq_false (p := x ≤ y) (i32_nle.mpr h)] at k
    exact k
  · refine ww_iconst (v := 1) C h1 rfl ?_
    refine ww_goto (pc + 8) C h2 (by omega) ?_
    rw [decide_eq_true (p := x ≤ y) (i32_nlt.mp h)] at k
    exact k
theorem ww_bc_le {x y : Int32} (C : CX K G cc nL own Ts rm ret) (hd : decode cc pc = .ok (.if_icmp .le 7, 3)) (h1 : decode cc (pc + 3) = .ok (.iconst 1, 1)) (h2 : decode cc (pc + 4) = .ok (.goto 4, 3)) (h3 : decode cc (pc + 7) = .ok (.iconst 0, 1)) (k : WW K G nL Q σ L (pc + 8) (.int (bI (decide (y < x))) :: st)) : WW K G nL Q σ L pc (.int y :: .int x :: st) := by
  refine ww_icmp_le (pc + 7) C hd (by omega) (fun h => ?_) (fun h => ?_)
  · refine ww_iconst (v := 0) C h3 rfl ?_
    rw [decide_eq_false (p := y < x) (i32_nlt.mpr h)] at k
    exact k
  · refine ww_iconst (v := 1) C h1 rfl ?_
    refine ww_goto (pc + 8) C h2 (by omega) ?_
    rw [decide_eq_true (p := y < x) (i32_nle.mp h)] at k
    exact k
end LB
