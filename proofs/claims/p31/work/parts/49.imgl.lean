/-! undone, kept, gone back to: what becomes of the bounds -/
set_option maxRecDepth 100000 in
theorem rw_cut {g t B P N u v : Nat} {k0 k1 k0' k1' : Bool} {j : Nat} {r : Int × Int} (hj : 247 ≤ j) (h : rwM g t B P N v k0' k1' j = some r) (h1 : 278 ≤ j ∧ j < 278 + 247 * v → 278 ≤ j ∧ j < 278 + 247 * u) (h2 : 3242 ≤ j ∧ j < 3489 → k0' = true → k0 = true) (h3 : 3489 ≤ j ∧ j < 3736 → k1' = true → k1 = true) (hv : v ≤ 12) (hu : u ≤ 12) : rwM g t B P N u k0 k1 j = some r := by
  unfold rwM at h ⊢
  rw [if_neg (show ¬ j < 247 by omega)] at h ⊢
  by_cases q2 : j = 249 ∨ j = 247
  · rw [if_pos q2] at h ⊢; exact h
  · rw [if_neg q2] at h ⊢
    by_cases q3 : j = 258
    · rw [if_pos q3] at h ⊢; exact h
    · rw [if_neg q3] at h ⊢
      by_cases q4 : j = 259
      · rw [if_pos q4] at h ⊢; exact h
      · rw [if_neg q4] at h ⊢
        by_cases q5 : 250 ≤ j ∧ j < 258
        · rw [if_pos q5] at h ⊢; exact h
        · rw [if_neg q5] at h ⊢
          by_cases q6 : 278 ≤ j ∧ j < 278 + 247 * v
          · rw [if_pos q6] at h
            rw [if_pos (h1 q6)]
            exact h
          · rw [if_neg q6] at h
            by_cases q7 : 3242 ≤ j ∧ j < 3489 ∧ k0' = true
            · rw [if_pos q7] at h
              rw [if_neg (show ¬ (278 ≤ j ∧ j < 278 + 247 * u) by omega), if_pos (show 3242 ≤ j ∧ j < 3489 ∧ k0 = true from ⟨q7.1, q7.2.1, h2 ⟨q7.1, q7.2.1⟩ q7.2.2⟩)]
              exact h
            · rw [if_neg q7] at h
              by_cases q8 : 3489 ≤ j ∧ j < 3736 ∧ k1' = true
              · rw [if_pos q8] at h
                rw [if_neg (show ¬ (278 ≤ j ∧ j < 278 + 247 * u) by omega), if_neg (show ¬ (3242 ≤ j ∧ j < 3489 ∧ k0 = true) by omega), if_pos (show 3489 ≤ j ∧ j < 3736 ∧ k1 = true from ⟨q8.1, q8.2.1, h3 ⟨q8.1, q8.2.1⟩ q8.2.2⟩)]
                exact h
              · rw [if_neg q8] at h
                cases h
theorem MM_el2 {K : KT} {P N u v : Nat} {k0 k1 k0' k1' : Bool} {n j : Nat} (h0 : n ≠ 0) (h : n ≠ 10) (h4 : n ≠ 14) (h15 : n ≠ 15) : MM K P N u k0 k1 n j = MM K P N v k0' k1' n j := by
  unfold MM
  rw [if_neg h0, if_neg h, if_neg h0, if_neg h]
  by_cases q : n = 11
  · rw [if_pos q, if_pos q]
  · rw [if_neg q, if_neg h4, if_neg h15, if_neg q, if_neg h4, if_neg h15]
def bsM (M : md_T) (j : Nat) (r : Int × Int) : md_T := fun a i => if a = 14 ∧ i = j then some r else M a i
theorem bsM_at {M : md_T} {j : Nat} {r : Int × Int} : bsM M j r 14 j = some r := if_pos ⟨rfl, rfl⟩
theorem bsM_ne {M : md_T} {j : Nat} {r : Int × Int} : ∀ n i, n ≠ 14 ∨ i ≠ j → bsM M j r n i = M n i := fun n i h => if_neg (by omega)
set_option maxRecDepth 100000 in
theorem ud_a {K : KT} {P N u v : Nat} {k0 k1 : Bool} (hv : v < u) (hu : u ≤ 12) : ∀ n j r, MM K P N v k0 k1 n j = some r → cpM (fsM (MM K P N u k0 k1) 2 ((v : Int), (v : Int))) (278 + 247 * v) 0 247 n j = some r := by
  intro n j r h
  by_cases h1 : n = 10
  · subst h1
    by_cases q : j < 247
    · rw [cpM_in (by omega) (by omega), fsM_ne _ _ (Or.inl (by decide)), MM_10, show 278 + 247 * v + (j - 0) = 278 + 247 * v + j by omega, rw_past hv q]
      rw [MM_10, rw_lo q] at h
      exact h
    · rw [cpM_out (by omega), fsM_ne _ _ (Or.inl (by decide)), MM_10]
      rw [MM_10] at h
      exact rw_cut (by omega) h (by omega) (fun _ q => q) (fun _ q => q) (by omega) hu
  · rw [cpM_ne h1]
    by_cases h0 : n = 0
    · subst h0
      by_cases hj : j = 2
      · subst hj
        exact h
      · rw [fsM_ne _ _ (Or.inr hj), MM_0, fl_sub (v := v) hj]
        exact h
    · rw [fsM_ne _ _ (Or.inl h0), MM_el (v := v) h0 h1]
      exact h
