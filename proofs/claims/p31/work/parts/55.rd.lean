/-! the whole text: rows at nought, clause by clause; then the line -/
theorem rd0 {o : Nat} {lo hi : Int} (h : rdM 0 0 (fun _ => 0) o = some (lo, hi)) : lo ≤ 0 ∧ 0 ≤ hi := by
  unfold rdM at h
  rw [if_neg (show ¬ (236 ≤ o ∧ o < 236 + 0) by omega)] at h
  by_cases h2 : o = 245 ∨ o = 246
  · rw [if_pos h2] at h; cases h; omega
  rw [if_neg h2] at h
  by_cases h3 : o = 249
  · rw [if_pos h3] at h; cases h; omega
  rw [if_neg h3, if_neg (show ¬ (250 ≤ o ∧ o < 250 + 0) by omega)] at h
  by_cases h4 : 250 ≤ o ∧ o < 258
  · rw [if_pos h4] at h; cases h; omega
  rw [if_neg h4] at h
  by_cases h5 : o = 258
  · rw [if_pos h5] at h; cases h; show ((0 : Nat) : Int) ≤ 0 ∧ (0 : Int) ≤ ((0 : Nat) : Int); omega
  rw [if_neg h5] at h
  by_cases h6 : o = 259
  · rw [if_pos h6] at h; cases h; omega
  rw [if_neg h6] at h
  by_cases h7 : o = 235
  · rw [if_pos h7] at h; cases h; omega
  rw [if_neg h7] at h
  by_cases h8 : o = 247
  · rw [if_pos h8] at h; cases h; show ((0 : Nat) : Int) ≤ 0 ∧ (0 : Int) ≤ ((0 : Nat) : Int); omega
  rw [if_neg h8] at h
  cases h
