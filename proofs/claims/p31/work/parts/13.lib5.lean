/-! floorMod by 12 -/
theorem fm_all : ∀ k : Fin 24, (let x : Int32 := Int32.ofInt ((k.val : Int) - 12); ((0 ≤ x.toInt → (x - x / 12 * 12).toInt = x.toInt) ∧ (x.toInt < 0 → ((x - x / 12 * 12).toInt = x.toInt ∨ (x.toInt = -12 ∧ (x - x / 12 * 12).toInt = 0)) ∧ -12 < (x - x / 12 * 12).toInt ∧ (x - x / 12 * 12).toInt ≤ 0)) ∧ ((x ^^^ 12).toInt < 0 ↔ x.toInt < 0)) := by decide +kernel
theorem fm_at {x : Int32} (h : -12 ≤ x.toInt ∧ x.toInt ≤ 11) : ((0 ≤ x.toInt → (x - x / 12 * 12).toInt = x.toInt) ∧ (x.toInt < 0 → ((x - x / 12 * 12).toInt = x.toInt ∨ (x.toInt = -12 ∧ (x - x / 12 * 12).toInt = 0)) ∧ -12 < (x - x / 12 * 12).toInt ∧ (x - x / 12 * 12).toInt ≤ 0)) ∧ ((x ^^^ 12).toInt < 0 ↔ x.toInt < 0) := by
  have h1 := fm_all ⟨(x.toInt + 12).toNat, by omega⟩
  have h2 : (((x.toInt + 12).toNat : Nat) : Int) - 12 = x.toInt := by omega
  have h3 : Int32.ofInt x.toInt = x := by apply cI_inj; exact cI_of (cI_rng x).1 (cI_rng x).2
  simp only [h2, h3] at h1
  exact h1
theorem fm_12 {y : Int32} (h : y.toInt = 12) : y = 12 := cI_inj (by rw [h]; decide +kernel)
section FM
variable {p : Program} {l : Launch} {e : Env} {R : Room} {s : State} {m : MethodId} {args : Array Value} {below : List Frame} {meth : Method} {c : Code} {H : Heap} {locs : List Loc} {cells slots : Nat} {Q : State → Prop} {cc : ByteArray} {pc : Nat} {ls : Array Slot} {rest : List Value} {D : va_G} {cy : Nat → ClassId} {own : String} {nL : Nat}
theorem fm_rem (X : ty_X p c s m args cc own nL D cy) {x y : Int32} (hdg : decode cc pc = .ok (.irem, 1)) (h1 : -12 ≤ x.toInt ∧ x.toInt ≤ 11) (h2 : y.toInt = 12) (kk : ∀ z : Int32, (0 ≤ x.toInt → z.toInt = x.toInt) ∧ (x.toInt < 0 → (z.toInt = x.toInt ∨ (x.toInt = -12 ∧ z.toInt = 0)) ∧ -12 < z.toInt ∧ z.toInt ≤ 0) → W p l e R s m args below meth c H locs cells slots Q (F0 m (pc + 1) ls (.int z :: rest))) : W p l e R s m args below meth c H locs cells slots Q (F0 m pc ls (.int y :: .int x :: rest)) :=
  lv_irem X.1 X.2.1 hdg (n_nz (by omega)) (kk _ (by rw [fm_12 h2]; exact (fm_at h1).1))
theorem fm_xor (X : ty_X p c s m args cc own nL D cy) {x y : Int32} (hdg : decode cc pc = .ok (.ixor, 1)) (h1 : -12 ≤ x.toInt ∧ x.toInt ≤ 11) (h2 : y.toInt = 12) (kk : ∀ z : Int32, (z.toInt < 0 ↔ x.toInt < 0) → W p l e R s m args below meth c H locs cells slots Q (F0 m (pc + 1) ls (.int z :: rest))) : W p l e R s m args below meth c H locs cells slots Q (F0 m pc ls (.int y :: .int x :: rest)) :=
  lv_ixor X.1 X.2.1 hdg (kk _ (by rw [fm_12 h2]; exact (fm_at h1).2))
end FM
