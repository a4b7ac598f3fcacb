/-! the reference between two calls: P pieces, N cells, u lines to go back to, which images are kept -/
def lnM (B P o : Nat) : Option (Int × Int) := if 236 ≤ o ∧ o < 236 + P then some (1, 99) else if o = 245 ∨ o = 246 then some (0, 99) else if o = 235 then some (0, (B : Int)) else none
def rwM (g t B P N u : Nat) (k0 k1 : Bool) (j : Nat) : Option (Int × Int) :=
  if j < 247 then lnM B P j else if j = 249 ∨ j = 247 then (if j = 249 then some ((P : Int), (P : Int)) else some ((t : Int), (t : Int))) else if j = 258 then some ((N : Int), (N : Int)) else if j = 259 then some ((g : Int), (g : Int)) else if 250 ≤ j ∧ j < 258 then some (0, 9)
  else if 278 ≤ j ∧ j < 278 + 247 * u then lnM B P ((j - 278) % 247) else if 3242 ≤ j ∧ j < 3489 ∧ k0 = true then lnM B P (j - 3242) else if 3489 ≤ j ∧ j < 3736 ∧ k1 = true then lnM B P (j - 3489) else none
/-- the reference's own counts: letters fed, the fault, what is seen, what is written, the letters -/
abbrev KT : Type := Nat × Int × Nat × Nat × (Nat → Int32)
def OKK (K : KT) : Prop := K.1 ≤ 240 ∧ K.2.2.1 ≤ 6 ∧ K.2.2.2.1 ≤ 20
/-- kept behind the letters: told, the seed, the images' seeds, a bound of the ticks -/
def sdK (K : KT) : Nat := (K.2.2.2.2 1002).toNatClampNeg
def siK (K : KT) (i : Nat) : Nat := (K.2.2.2.2 (1003 + i)).toNatClampNeg
def tK (K : KT) : Nat := min 1 (K.2.2.2.2 1001).toNatClampNeg
def bK (K : KT) : Nat := (K.2.2.2.2 1005).toNatClampNeg
def siO (k : Bool) (v : Nat) : Option (Int × Int) := if k then some ((v : Int), (v : Int)) else some (0, 2147483647)
theorem cl_lt {x : Int32} : x.toNatClampNeg < 2147483648 := by
  by_cases h : 0 ≤ x.toInt
  · have h1 := cI_clamp h
    have h2 := cI_rng x
    omega
  · have h1 : x.toNatClampNeg = x.toInt.toNat := rfl
    omega
def flM (K : KT) (u : Nat) (j : Nat) : Option (Int × Int) := if j = 2 then some ((u : Int), (u : Int)) else if j = 3 then some ((sdK K : Int), (sdK K : Int)) else if j = 7 then some ((K.1 : Int), (K.1 : Int)) else if j = 8 then some (K.2.1, K.2.1) else if j = 9 then some ((K.2.2.1 : Int), (K.2.2.1 : Int)) else if j = 13 then some ((K.2.2.2.1 : Int), (K.2.2.2.1 : Int)) else none
def txM (K : KT) (j : Nat) : Option (Int × Int) := if j < K.1 then some ((K.2.2.2.2 j).toInt, (K.2.2.2.2 j).toInt) else none
/-- the gates of the line: kept behind the letters -/
def gK (K : KT) : Nat := min 6 (K.2.2.2.2 1000).toNatClampNeg
theorem gK_le {K : KT} : gK K ≤ 6 := Nat.min_le_left _ _
def gs (f : Nat → Int32) (g : Nat) : Nat → Int32 := fun j => if j = 1000 then nI g else f j
def biM (k : Bool) : Int := if k then 1 else 0
def MM (K : KT) (P N u : Nat) (k0 k1 : Bool) : md_T := fun a j =>
  if a = 0 then flM K u j else if a = 10 then rwM (gK K) (tK K) (bK K) P N u k0 k1 j else if a = 11 then (if j < 72 then some (0, if j < N then (P : Int) - 1 else 7) else none) else if a = 14 then (if j = 0 then some (biM k0, biM k0) else if j = 1 then some (biM k1, biM k1) else none) else if a = 15 then (if j = 0 then siO k0 (siK K 0) else if j = 1 then siO k1 (siK K 1) else none) else if a = 16 then txM K j else if a = 20 then some (0, 150) else if a = 24 then some (0, 5) else none
def OKG (K : KT) (P N u : Nat) : Prop := (N ≤ 72 ∧ OKK K) ∧ P ≤ 8 ∧ (0 < N → 0 < P) ∧ u ≤ 12
theorem MM_0 {K : KT} {P N u : Nat} {k0 k1 : Bool} {j : Nat} : MM K P N u k0 k1 0 j = flM K u j := rfl
theorem MM_10 {K : KT} {P N u : Nat} {k0 k1 : Bool} {j : Nat} : MM K P N u k0 k1 10 j = rwM (gK K) (tK K) (bK K) P N u k0 k1 j := rfl
theorem rw_lo {g t B P N u : Nat} {k0 k1 : Bool} {j : Nat} (h : j < 247) : rwM g t B P N u k0 k1 j = lnM B P j := if_pos h
theorem rw_past {g t B P N u : Nat} {k0 k1 : Bool} {k o : Nat} (hk : k < u) (ho : o < 247) : rwM g t B P N u k0 k1 (278 + 247 * k + o) = lnM B P o := by
  unfold rwM
  rw [if_neg (by omega), if_neg (by omega), if_neg (by omega), if_neg (by omega), if_neg (by omega), if_pos (by omega)]
  rw [show (278 + 247 * k + o - 278) % 247 = o by omega]
theorem rw_im0 {g t B P N u : Nat} {k1 : Bool} {o : Nat} (hu : u ≤ 12) (ho : o < 247) : rwM g t B P N u true k1 (3242 + o) = lnM B P o := by
  unfold rwM
  rw [if_neg (by omega), if_neg (by omega), if_neg (by omega), if_neg (by omega), if_neg (by omega), if_neg (by omega), if_pos ⟨by omega, by omega, rfl⟩]
  rw [show 3242 + o - 3242 = o by omega]
theorem rw_im1 {g t B P N u : Nat} {k0 : Bool} {o : Nat} (hu : u ≤ 12) (ho : o < 247) : rwM g t B P N u k0 true (3489 + o) = lnM B P o := by
  unfold rwM
  rw [if_neg (by omega), if_neg (by omega), if_neg (by omega), if_neg (by omega), if_neg (by omega), if_neg (by omega), if_neg (by omega), if_pos ⟨by omega, by omega, rfl⟩]
  rw [show 3489 + o - 3489 = o by omega]
theorem ln_no {B P o : Nat} (hP : P ≤ 8) (h : o < 235 ∨ o = 244) : lnM B P o = none := by
  unfold lnM
  rw [if_neg (by omega), if_neg (by omega), if_neg (by omega)]
theorem MM_HB {K : KT} {P N u : Nat} {k0 k1 : Bool} (ok : OKG K P N u) : HB (MM K P N u k0 k1) P N := by
  obtain ⟨⟨h1, hk⟩, h2, h3, h4⟩ := ok
  refine ⟨⟨⟨K.2.2.1, rfl, hk.2.1⟩, ⟨K.2.2.2.1, rfl, hk.2.2⟩, ⟨sdK K, rfl, cl_lt⟩, trivial⟩, ⟨rfl, rfl, ⟨gK K, rfl, gK_le⟩, fun j hj => ?_, fun j hj => ?_⟩, fun j hj => ?_, ⟨fun _ => rfl, trivial, fun _ => rfl, fun n hn j => ?_⟩, h1, h2, h3⟩
  · rw [MM_10]
    unfold rwM
    rw [if_neg (by omega), if_neg (by omega), if_neg (by omega), if_neg (by omega), if_pos (by omega)]
  · rw [MM_10]
    rcases hj with hj | hj
    · rw [rw_lo (by omega)]
      exact ln_no h2 (Or.inl hj)
    · unfold rwM
      rw [if_neg (by omega), if_neg (by omega), if_neg (by omega), if_neg (by omega), if_neg (by omega), if_neg (by omega), if_neg (by omega), if_neg (by omega)]
  · show (if j < 72 then _ else _) = _
    rw [if_pos hj]
  · revert hn
    simp only [List.mem_cons, List.not_mem_nil, or_false]
    intro hn
    rcases hn with rfl | rfl | rfl | rfl | rfl | rfl | rfl <;> rfl
theorem MM_LV {K : KT} {P N u : Nat} {k0 k1 : Bool} (ok : OKG K P N u) : LV (MM K P N u k0 k1) P 0 := by
  obtain ⟨h1, h2, h3, h4⟩ := ok
  refine ⟨fun p hp => ?_, ?_, ?_⟩
  · rw [MM_10, rw_lo (by omega)]
    unfold lnM
    rw [if_pos (by omega)]
  · rw [MM_10, rw_lo (by omega)]
    unfold lnM
    rw [if_neg (by omega), if_pos (by omega)]
  · rw [MM_10, rw_lo (by omega)]
    unfold lnM
    rw [if_neg (by omega), if_pos (by omega)]
theorem MM_HT {K : KT} {P N u : Nat} {k0 k1 : Bool} (hu : u ≤ 12) : HT (MM K P N u k0 k1) := fun j h1 h2 => by
  rw [MM_10]
  unfold rwM
  rw [if_neg (by omega), if_neg (by omega), if_neg (by omega), if_neg (by omega), if_neg (by omega), if_neg (by omega), if_neg (by omega), if_neg (by omega)]
def fsM (M : md_T) (j : Nat) (r : Int × Int) : md_T := fun a i => if a = 0 ∧ i = j then some r else M a i
theorem fsM_at {M : md_T} {j : Nat} {r : Int × Int} : fsM M j r 0 j = some r := if_pos ⟨rfl, rfl⟩
theorem fsM_ne {M : md_T} {j : Nat} {r : Int × Int} : ∀ n i, n ≠ 0 ∨ i ≠ j → fsM M j r n i = M n i := fun n i h => if_neg (by omega)
/-- another count of lines to go back to -/
theorem fl_sub {K : KT} {u v : Nat} {j : Nat} (h : j ≠ 2) : flM K u j = flM K v j := by
  unfold flM
  rw [if_neg h, if_neg h]
theorem MM_el {K : KT} {P N u v : Nat} {k0 k1 : Bool} {n j : Nat} (h0 : n ≠ 0) (h : n ≠ 10) : MM K P N u k0 k1 n j = MM K P N v k0 k1 n j := by
  unfold MM
  rw [if_neg h0, if_neg h, if_neg h0, if_neg h]
def upN (u : Nat) : Nat := if u = 12 then 12 else u + 1
theorem upN_le {u : Nat} (h : u ≤ 12) : upN u ≤ 12 := by unfold upN; split <;> omega
set_option maxRecDepth 100000 in
/-- rows 1 .. 11 of what is kept go one down -/
theorem kp_a {K : KT} {P N : Nat} {k0 k1 : Bool} : ∀ n j r, MM K P N 11 k0 k1 n j = some r → fsM (cpM (MM K P N 12 k0 k1) 525 278 2717) 2 (11, 11) n j = some r := by
  intro n j r h
  by_cases h0 : n = 0
  · subst h0
    by_cases hj : j = 2
    · subst hj
      exact h
    · rw [fsM_ne 0 j (Or.inr hj), cpM_ne (by decide), MM_0, fl_sub (v := 11) hj]
      exact h
  · rw [fsM_ne n j (Or.inl h0)]
    by_cases h1 : n = 10
    · subst h1
      rw [MM_10] at h
      by_cases q : 278 ≤ j ∧ j < 278 + 2717
      · rw [cpM_in q.1 q.2, MM_10]
        have e1 : j = 278 + 247 * ((j - 278) / 247) + (j - 278) % 247 := by omega
        rw [e1, rw_past (by omega) (by omega)] at h
        rw [show 525 + (j - 278) = 278 + 247 * ((j - 278) / 247 + 1) + (j - 278) % 247 by omega, rw_past (by omega) (by omega)]
        exact h
      · rw [cpM_out (by omega), MM_10]
        unfold rwM at h ⊢
        split at h
        · next q1 => rw [if_pos q1]; exact h
        · next q1 =>
          rw [if_neg q1]
          split at h
          · next q2 => rw [if_pos q2]; exact h
          · next q2 =>
            rw [if_neg q2]
            split at h
            · next q3 => rw [if_pos q3]; exact h
            · next q3 =>
              rw [if_neg q3]
              split at h
              · next q4 => rw [if_pos q4]; exact h
              · next q4 =>
                rw [if_neg q4]
                split at h
                · next q5 => rw [if_pos q5]; exact h
                · next q5 =>
                  rw [if_neg q5]
                  try rw [if_neg (show ¬ (278 ≤ j ∧ j < 278 + 247 * 11) by omega)] at h
                  by_cases q6 : 278 ≤ j ∧ j < 278 + 247 * 12
                  · rw [if_neg (show ¬ (3242 ≤ j ∧ j < 3489 ∧ k0 = true) by omega), if_neg (show ¬ (3489 ≤ j ∧ j < 3736 ∧ k1 = true) by omega)] at h
                    cases h
                  · rw [if_neg q6]
                    exact h
    · rw [cpM_ne h1, MM_el (v := 11) h0 h1]
      exact h
set_option maxRecDepth 100000 in
/-- the line goes behind what is kept -/
theorem kp_b {K : KT} {P N v : Nat} {k0 k1 : Bool} (hv : v < 12) : ∀ n j r, MM K P N (v + 1) k0 k1 n j = some r → fsM (cpM (MM K P N v k0 k1) 0 (278 + 247 * v) 247) 2 (((v + 1 : Nat) : Int), ((v + 1 : Nat) : Int)) n j = some r := by
  intro n j r h
  by_cases h0 : n = 0
  · subst h0
    by_cases hj : j = 2
    · subst hj
      exact h
    · rw [fsM_ne 0 j (Or.inr hj), cpM_ne (by decide), MM_0, fl_sub (v := v + 1) hj]
      exact h
  · rw [fsM_ne n j (Or.inl h0)]
    by_cases h1 : n = 10
    · subst h1
      rw [MM_10] at h
      by_cases q : 278 + 247 * v ≤ j ∧ j < 278 + 247 * v + 247
      · rw [cpM_in q.1 q.2, MM_10, Nat.zero_add, rw_lo (by omega)]
        rw [show j = 278 + 247 * v + (j - (278 + 247 * v)) by omega, rw_past (by omega) (by omega)] at h
        exact h
      · rw [cpM_out (by omega), MM_10]
        unfold rwM at h ⊢
        split at h
        · next q1 => rw [if_pos q1]; exact h
        · next q1 =>
          rw [if_neg q1]
          split at h
          · next q2 => rw [if_pos q2]; exact h
          · next q2 =>
            rw [if_neg q2]
            split at h
            · next q3 => rw [if_pos q3]; exact h
            · next q3 =>
              rw [if_neg q3]
              split at h
              · next q4 => rw [if_pos q4]; exact h
              · next q4 =>
                rw [if_neg q4]
                split at h
                · next q5 => rw [if_pos q5]; exact h
                · next q5 =>
                  rw [if_neg q5]
                  by_cases q6 : 278 ≤ j ∧ j < 278 + 247 * (v + 1)
                  · rw [if_pos q6] at h
                    rw [if_pos (by omega)]
                    exact h
                  · rw [if_neg q6] at h
                    rw [if_neg (by omega)]
                    exact h
    · rw [cpM_ne h1, MM_el (v := v + 1) h0 h1]
      exact h
