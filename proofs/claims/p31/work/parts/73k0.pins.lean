/-! the class's line, the two faults: by the law's pins -/
def Mx : md_T := fun _ _ => none
/-- the codes that the law pins -/
def PC : List Nat := [900, 902, 907, 600, 601, 602, 6008, 700, 300, 301, 906, 6004, 202, 901, 903, 400, 6003, 401, 402, 200, 807, 302, 303, 908, 201]
def SUP (τ : ty_T) (F : Nat → Nat → Option Value) : Prop := (∀ a j, τ a = none → F a j = none) ∧ ∀ a t j, τ a = some t → ty_cd t j ∉ PC → F a j = none
def PF (τ : ty_T) (F : Nat → Nat → Option Value) (xa tx la nu tr dr wi ga c : Nat) (T : Nat → Int32) : Prop := τ xa = some (0, 9) ∧ τ tx = some (0, 6) ∧ τ la = some (8, 240) ∧ τ nu = some (9, 3) ∧ τ tr = some (0, 7) ∧ τ dr = some (0, 3) ∧ τ wi = some (0, 8) ∧ τ ga = some (0, 1) ∧ F xa 0 = some (.ref tx) ∧ F xa 2 = some (.ref tr) ∧ F tr 0 = some (.ref dr) ∧ F dr 0 = some (.ref wi) ∧ F dr 1 = some (.ref ga) ∧ TE F tx la nu c T
section PL
variable {τ : ty_T} {F g : Nat → Nat → Option Value} {ρ : ty_R} {S : List Nat} {b j : Nat} {x : Value}
theorem sup_F (h : SUP τ F) (hd : ∀ n ∈ S, n ∉ PC) : ty_Wf Mx τ (pv F (cn Mx τ)) S := pv_F cn_F (fun a t j ha hc => h.2 a t j ha (hd _ hc))
theorem sup_N (h : SUP τ F) : FN τ F := fun a t j ha hc => h.2 a t j ha ((by decide : ∀ n ∈ SU, n ∉ PC) _ hc)
theorem sup_fu {t0 : ty_C} (h : SUP τ F) (hb : τ b = some t0) (hc : ty_cd t0 j ∈ PC) : SUP τ (fu F b j x) := by
  refine ⟨fun a i ha => ?_, fun a t i ha hn => ?_⟩
  · rw [fu_b (fun e => by rw [e, hb] at ha; cases ha)]
    exact h.1 a i ha
  · by_cases e : a = b ∧ i = j
    · obtain ⟨rfl, rfl⟩ := e
      rw [hb] at ha
      cases ha
      exact absurd hc hn
    · rw [fu_ne e]
      exact h.2 a t i ha hn
theorem pvv_off : ∀ a i v, a ≠ b → pv g (pv F ρ) a i v → pv (fu g b j x) (pv (fu F b j x) ρ) a i v := fun a i v h z => ⟨pv_off a i v h z.1, fun y hy => z.2 y (by rw [fu_b h] at hy; exact hy)⟩
theorem pvv_oth : ∀ i v, i ≠ j → pv g (pv F ρ) b i v → pv (fu g b j x) (pv (fu F b j x) ρ) b i v := fun i v h z => ⟨pv_oth i v h z.1, fun y hy => z.2 y (by rw [fu_j h] at hy; exact hy)⟩
theorem pvv_new (h : ρ b j x) : pv (fu g b j x) (pv (fu F b j x) ρ) b j x := pv_new (pv_new h)
end PL
/-- the pins while line's loop takes the images back -/
def lnG (F : Nat → Nat → Option Value) (i0 i1 : Nat) (k : Int) : Nat → Nat → Option Value := if k = 0 then F else if k = 1 then fu F i0 2 (.int (bI false)) else fu (fu F i0 2 (.int (bI false))) i1 2 (.int (bI false))
def lnI (i0 i1 : Nat) (k : Int) : Nat := if k = 0 then i0 else i1
section LN
variable {τ : ty_T} {F : Nat → Nat → Option Value} {i0 i1 a im : Nat} {k : Int}
theorem lnG_s (h : 0 ≤ k ∧ k < 2) : lnG F i0 i1 (k + 1) = fu (lnG F i0 i1 k) (lnI i0 i1 k) 2 (.int (bI false)) := by
  rcases (show k = 0 ∨ k = 1 by omega) with rfl | rfl <;> rfl
theorem lnG_b {j : Nat} (h0 : a ≠ i0) (h1 : a ≠ i1) : lnG F i0 i1 k a j = F a j := by
  unfold lnG
  split
  · rfl
  · split
    · rw [fu_b h0]
    · rw [fu_b h1, fu_b h0]
theorem lnG_i {x : Int32} (hx : x.toInt = k) (h : 0 ≤ k ∧ k < 2) (m0 : im ≠ i0) (m1 : im ≠ i1) (f0 : F im 0 = some (.ref i0)) (f1 : F im 1 = some (.ref i1)) : lnG F i0 i1 k im x.toNatClampNeg = some (.ref (lnI i0 i1 k)) := by
  rw [lnG_b m0 m1]
  have := cI_clamp (x := x) (by omega)
  rcases (show k = 0 ∨ k = 1 by omega) with rfl | rfl
  · rw [show x.toNatClampNeg = 0 by omega]; exact f0
  · rw [show x.toNatClampNeg = 1 by omega]; exact f1
theorem lnI_t (h0 : τ i0 = some (0, 2)) (h1 : τ i1 = some (0, 2)) : τ (lnI i0 i1 k) = some (0, 2) := by
  unfold lnI
  split
  · exact h0
  · exact h1
theorem lnG_S (hs : SUP τ F) (h0 : τ i0 = some (0, 2)) (h1 : τ i1 = some (0, 2)) : SUP τ (lnG F i0 i1 k) := by
  unfold lnG
  split
  · exact hs
  · split
    · exact sup_fu hs h0 (by decide)
    · exact sup_fu (sup_fu hs h0 (by decide)) h1 (by decide)
end LN
