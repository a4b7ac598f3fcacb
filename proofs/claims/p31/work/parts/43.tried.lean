/-! what is tried lies at 3736: the bounds of the line go there -/
def MT (M : md_T) : md_T := fun a j => if a = 10 ∧ j = 3971 then none else cpM M 0 3736 247 a j
theorem MT_c {M : md_T} : ∀ n j r, MT M n j = some r → cpM M 0 3736 247 n j = some r := by
  intro n j r h
  unfold MT at h
  by_cases q : n = 10 ∧ j = 3971
  · rw [if_pos q] at h; cases h
  · rw [if_neg q] at h; exact h
theorem MT_71 {M : md_T} : MT M 10 3971 = none := if_pos ⟨rfl, rfl⟩
theorem MT_nq {M : md_T} {a j : Nat} (h : ¬ (a = 10 ∧ j = 3971)) : MT M a j = cpM M 0 3736 247 a j := if_neg h
theorem MT_in {M : md_T} {j : Nat} (h1 : 3736 ≤ j) (h2 : j < 3983) (h3 : j ≠ 3971 := by omega) : MT M 10 j = M 10 (j - 3736) := by
  rw [MT_nq (fun z => h3 z.2), cpM_in h1 (by omega), Nat.zero_add]
theorem MT_out {M : md_T} {j : Nat} (h : j < 3736 ∨ 3983 ≤ j) : MT M 10 j = M 10 j := by
  rw [MT_nq (by omega)]
  exact cpM_out (by omega)
theorem MT_ne {M : md_T} {a j : Nat} (h : a ≠ 10) : MT M a j = M a j := by
  rw [MT_nq (fun z => h z.1)]
  exact cpM_ne h
theorem HB.cp {M : md_T} {P N : Nat} (h : HB M P N) : HB (MT M) P N := by
  obtain ⟨⟨⟨n9, m9, n9p⟩, ⟨n13, m13, n13p⟩, ⟨n3, m3, n3p⟩, m8⟩, ⟨mN, mP, ⟨gG, mG, lG⟩, mL, mF⟩, mO, ⟨mK, mS, mQ, mZ⟩, h1, h2, h3⟩ := h
  refine ⟨⟨⟨n9, by rw [MT_ne (by decide)]; exact m9, n9p⟩, ⟨n13, by rw [MT_ne (by decide)]; exact m13, n13p⟩, ⟨n3, by rw [MT_ne (by decide)]; exact m3, n3p⟩, trivial⟩, ⟨by rw [MT_out (by omega)]; exact mN, by rw [MT_out (by omega)]; exact mP, ⟨gG, by rw [MT_out (by omega)]; exact mG, lG⟩, fun j hj => by rw [MT_out (by omega)]; exact mL j hj, fun j hj => ?_⟩, fun j hj => by rw [MT_ne (by decide)]; exact mO j hj, ⟨fun j => by rw [MT_ne (by decide)]; exact mK j, trivial, fun j => by rw [MT_ne (by decide)]; exact mQ j, fun n hn j => ?_⟩, h1, h2, h3⟩
  · rcases hj with hj | hj
    · rw [MT_out (by omega)]
      exact mF j (Or.inl hj)
    · by_cases q : j = 3971
      · rw [q]; exact MT_71
      · rw [MT_in (by omega) (by omega)]
        exact mF _ (Or.inl (by omega))
  · rw [MT_ne (by intro e; subst e; revert hn; decide)]
    exact mZ n hn j
theorem LV.cp0 {M : md_T} {P N : Nat} (h : LV M P 0) (hB : HB M P N) : LV (MT M) P 0 := by
  have hP := hB.2.2.2.2.2.1
  exact ⟨fun p hp => by rw [MT_out (by omega)]; exact h.1 p hp, by rw [MT_out (by omega)]; exact h.2.1, by rw [MT_out (by omega)]; exact h.2.2⟩
theorem LV.cpT {M : md_T} {P N : Nat} (h : LV M P 0) (hB : HB M P N) : LV (MT M) P 3736 := by
  have hP := hB.2.2.2.2.2.1
  refine ⟨fun p hp => ?_, ?_, ?_⟩
  · rw [MT_in (by omega) (by omega), show 3736 + 236 + p - 3736 = 0 + 236 + p by omega]
    exact h.1 p hp
  · rw [MT_in (by omega) (by omega)]
    exact h.2.1
  · rw [MT_in (by omega) (by omega)]
    exact h.2.2
theorem MT_back {M : md_T} (hT : HT M) : ∀ n j r, M n j = some r → MT M n j = some r := by
  intro n j r h
  by_cases q : n = 10 ∧ 3736 ≤ j ∧ j < 3736 + 247
  · obtain ⟨rfl, q1, q2⟩ := q
    rw [hT j q1 (by omega)] at h
    cases h
  · rw [MT_nq (by omega)]
    unfold cpM
    rw [if_neg q]
    exact h
theorem MT_MT {M : md_T} : ∀ n j r, MT M n j = some r → MT (MT M) n j = some r := by
  intro n j r h
  by_cases q3 : n = 10 ∧ j = 3971
  · obtain ⟨rfl, rfl⟩ := q3
    rw [MT_71] at h
    cases h
  · by_cases q : n = 10 ∧ 3736 ≤ j ∧ j < 3736 + 247
    · obtain ⟨rfl, q1, q2⟩ := q
      rw [MT_in q1 (by omega)] at h
      rw [MT_in q1 (by omega), MT_out (by omega)]
      exact h
    · have e : MT (MT M) n j = MT M n j := by
        rw [MT_nq q3]
        exact if_neg q
      rw [e]
      exact h
