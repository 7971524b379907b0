section LM
variable {K : Kx} {G : Gx} {nL : Nat} {Q : State → Prop} {σ : Sg} {L : List (Nat × Value)} {pc : Nat} {st : List Value}
theorem ww_callqR {x : Nat} {g : Sg} {a : Array Value} {rest : List Value} (hr : CallX K G nL σ L pc st rest (va_Qq (fun r σ' => r = some x ∧ σ' = g) (fun σ' t => wd G σ' t.heap) (wo G) a)) (kk : WW K G nL Q g L (pc + 3) (.ref x :: rest)) : WW K G nL Q σ L pc st := ww_callqF hr kk
theorem ww_callqN {g : Sg} {a : Array Value} {rest : List Value} (hr : CallX K G nL σ L pc st rest (va_Qq (fun r σ' => r = none ∧ σ' = g) (fun σ' t => wd G σ' t.heap) (wo G) a)) (kk : WW K G nL Q g L (pc + 3) (.null :: rest)) : WW K G nL Q σ L pc st := ww_callqF hr kk
end LM
theorem c_X1_along_0 (l : Launch) (G : Gx) (hA : wa G) (σ : Sg) (o : Nat) (ho : o < 9) : CtQ l yX1_along wsX1_along (rmd 1) G [.ref (gA G 14 o), .int 0] σ (fun r σ' => r = some (gA G 15 o) ∧ σ' = σ) := by
  have h := c_X1_along l G hA σ o ho 0
  rw [if_pos rfl] at h
  exact h
theorem c_X1_along_1 (l : Launch) (G : Gx) (hA : wa G) (σ : Sg) (o : Nat) (ho : o < 9) : CtQ l yX1_along wsX1_along (rmd 1) G [.ref (gA G 14 o), .int 1] σ (fun r σ' => r = some (gA G 16 o) ∧ σ' = σ) := by
  have h := c_X1_along l G hA σ o ho 1
  rw [if_neg (by decide)] at h
  exact h
