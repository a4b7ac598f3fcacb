/-! places that are known: a pin is a value at a place -/
def pv (f : Nat → Nat → Option Value) (ρ : ty_R) : ty_R := fun b j v => ρ b j v ∧ ∀ x, f b j = some x → v = x
def fu (f : Nat → Nat → Option Value) (b j : Nat) (x : Value) : Nat → Nat → Option Value := fun a i => if a = b ∧ i = j then some x else f a i
section PV
variable {τ : ty_T} {ρ : ty_R} {M : md_T} {S : List Nat} {f f' : Nat → Nat → Option Value} {a b i j : Nat} {x v : Value}
theorem fu_at : fu f b j x b j = some x := if_pos ⟨rfl, rfl⟩
theorem fu_ne (h : ¬ (a = b ∧ i = j)) : fu f b j x a i = f a i := if_neg h
theorem fu_j (h : i ≠ j) : fu f b j x a i = f a i := if_neg (fun z => h z.2)
theorem fu_b (h : a ≠ b) : fu f b j x a i = f a i := if_neg (fun z => h z.1)
theorem fu_fu {y : Value} : fu (fu f b j x) b j y = fu f b j y := by
  funext a i
  unfold fu
  by_cases h : a = b ∧ i = j
  · rw [if_pos h, if_pos h]
  · rw [if_neg h, if_neg h, if_neg h]
theorem fu_id (h : f b j = some x) : fu f b j x = f := by
  funext a i
  unfold fu
  by_cases e : a = b ∧ i = j
  · rw [if_pos e, e.1, e.2, h]
  · rw [if_neg e]
theorem pv_N (h : ty_N τ ρ) : ty_N τ (pv f ρ) := fun b t j hb z => h b t j hb z.1
theorem pv_R (h : ty_Rg M τ ρ) : ty_Rg M τ (pv f ρ) := fun b t j x hb z => h b t j x hb z.1
theorem pv_F (h : ty_Wf M τ ρ S) (hf : ∀ a t j, τ a = some t → ty_cd t j ∈ S → f a j = none) : ty_Wf M τ (pv f ρ) S := fun a t j x ha hc hr => ⟨h a t j x ha hc hr, fun y hy => by rw [hf a t j ha hc] at hy; cases hy⟩
theorem pv_off : ∀ a i v, a ≠ b → pv f ρ a i v → pv (fu f b j x) ρ a i v := fun a i v h z => ⟨z.1, fun y hy => z.2 y (by rw [fu_b h] at hy; exact hy)⟩
theorem pv_oth : ∀ i v, i ≠ j → pv f ρ b i v → pv (fu f b j x) ρ b i v := fun i v h z => ⟨z.1, fun y hy => z.2 y (by rw [fu_j h] at hy; exact hy)⟩
theorem pv_new (h : ρ b j x) : pv (fu f b j x) ρ b j x := ⟨h, fun y hy => by rw [fu_at] at hy; cases hy; rfl⟩
theorem pv_rd (h : pv f ρ a j v) (hf : f a j = some x) : v = x := h.2 x hf
theorem pv_i {y z : Int32} (h : pv f ρ a j (.int y)) (hf : f a j = some (.int z)) : y = z := by have := h.2 _ hf; cases this; rfl
theorem pv_w (h : ∀ a j x, f' a j = some x → f a j = some x) : ∀ a t j v, τ a = some t → pv f ρ a j v → pv f' ρ a j v := fun a t j v _ z => ⟨z.1, fun y hy => z.2 y (h a j y hy)⟩
end PV
/-- the class's text: its letters, its row of numbers, how many, and where the reading is -/
def TE (f : Nat → Nat → Option Value) (tx la nu c : Nat) (T : Nat → Int32) : Prop := f tx 0 = some (.ref la) ∧ f tx 1 = some (.ref nu) ∧ f tx 2 = some (.int (nI c)) ∧ ∀ j, j < c → f la j = some (.int (T j))
section TEL
variable {f : Nat → Nat → Option Value} {tx la nu c b j : Nat} {T : Nat → Int32} {x : Value}
theorem te_fu (h : TE f tx la nu c T) (h1 : ¬ (tx = b ∧ (j = 0 ∨ j = 1 ∨ j = 2))) (h2 : la ≠ b) : TE (fu f b j x) tx la nu c T := by
  refine ⟨?_, ?_, ?_, fun k hk => ?_⟩
  · rw [fu_ne (fun z => h1 ⟨z.1, Or.inl z.2.symm⟩)]; exact h.1
  · rw [fu_ne (fun z => h1 ⟨z.1, Or.inr (Or.inl z.2.symm)⟩)]; exact h.2.1
  · rw [fu_ne (fun z => h1 ⟨z.1, Or.inr (Or.inr z.2.symm)⟩)]; exact h.2.2.1
  · rw [fu_b h2]; exact h.2.2.2 k hk
end TEL
def bI (b : Bool) : Int32 := if b then 1 else 0
theorem bI_t {b : Bool} : (bI b).toInt = if b then 1 else 0 := by cases b <;> rfl
