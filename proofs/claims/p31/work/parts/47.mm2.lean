def GS (K : KT) (τ : ty_T) (P N : Nat) (k0 k1 : Bool) (w : ty_R) : Prop := ∃ v, OKG K P N v ∧ w = cn (MM K P N v k0 k1) τ
theorem OKG.up {K : KT} {P N u : Nat} (ok : OKG K P N u) : OKG K P N (upN u) := ⟨ok.1, ok.2.1, ok.2.2.1, upN_le ok.2.2.2⟩
theorem OKG.to {K : KT} {P N u v : Nat} (ok : OKG K P N u) (h : v ≤ 12) : OKG K P N v := ⟨ok.1, ok.2.1, ok.2.2.1, h⟩
theorem mm_no {K : KT} {P N u : Nat} {k0 k1 : Bool} (ok : OKG K P N u) {i : Int32} (h : (0 ≤ i.toInt ∧ i.toInt < 235) ∨ i.toInt = 244) (w : Nat) : ty_rgd (MM K P N w k0 k1) (10, 4261) i.toNatClampNeg = none := by
  have c := cI_clamp (x := i) (by omega)
  show rwM (gK K) (tK K) (bK K) P N w k0 k1 _ = none
  rw [rw_lo (by omega)]
  exact ln_no ok.2.1 (by omega)
theorem mm_oh {K : KT} {P N u : Nat} {k0 k1 : Bool} (ok : OKG K P N u) {i : Int32} (h : 236 ≤ i.toInt ∧ i.toInt < 236 + (P : Int)) (w : Nat) : ty_rgd (MM K P N w k0 k1) (10, 4261) i.toNatClampNeg = some (1, 99) := by
  have c := cI_clamp (x := i) (by omega)
  have hP := ok.2.1
  show rwM (gK K) (tK K) (bK K) P N w k0 k1 _ = _
  rw [rw_lo (by omega)]
  unfold lnM
  rw [if_pos (by omega)]
theorem mm_dr {K : KT} {P N u : Nat} {k0 k1 : Bool} (ok : OKG K P N u) {i : Int32} (h : i.toInt = 245 ∨ i.toInt = 246) (w : Nat) : ty_rgd (MM K P N w k0 k1) (10, 4261) i.toNatClampNeg = some (0, 99) := by
  have c := cI_clamp (x := i) (by omega)
  have hP := ok.2.1
  show rwM (gK K) (tK K) (bK K) P N w k0 k1 _ = _
  rw [rw_lo (by omega)]
  unfold lnM
  rw [if_neg (by omega), if_pos (by omega)]
theorem mm_u {K : KT} {P N u : Nat} {k0 k1 : Bool} : MM K P N u k0 k1 0 2 = some (((u : Nat) : Int), ((u : Nat) : Int)) := rfl
theorem mm_len {K : KT} {P N u : Nat} {k0 k1 : Bool} : MM K P N u k0 k1 0 7 = some ((K.1 : Int), (K.1 : Int)) := rfl
def GSk (K : KT) (τ : ty_T) (P N : Nat) (w : ty_R) : Prop := ∃ v k0 k1, OKG K P N v ∧ w = cn (MM K P N v k0 k1) τ
