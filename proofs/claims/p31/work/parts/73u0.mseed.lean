/-! the reference's seed to the number -/
/-- another number behind the letters -/
def KU (K : KT) (i : Nat) (v : Int32) : KT := (K.1, K.2.1, K.2.2.1, K.2.2.2.1, fun j => if j = i then v else K.2.2.2.2 j)
section KUS
variable {K : KT} {P N u i : Nat} {k0 k1 : Bool} {v : Int32}
theorem KU_at : (KU K i v).2.2.2.2 i = v := if_pos rfl
theorem KU_ne {j : Nat} (h : j ≠ i) : (KU K i v).2.2.2.2 j = K.2.2.2.2 j := if_neg h
theorem KU_ok (ok : OKG K P N u) : OKG (KU K i v) P N u := ok
theorem KU_g (hi : 1002 ≤ i) : gK (KU K i v) = gK K := by unfold gK; rw [KU_ne (by omega)]
theorem KU_t (hi : 1002 ≤ i) : tK (KU K i v) = tK K := by unfold tK; rw [KU_ne (by omega)]
theorem KU_b (hi : i ≠ 1005) : bK (KU K i v) = bK K := by unfold bK; rw [KU_ne (by omega)]
theorem KU_b5 : bK (KU K 1005 v) = v.toNatClampNeg := by unfold bK; rw [KU_at]
theorem KU_s (hi : i ≠ 1002) : sdK (KU K i v) = sdK K := by unfold sdK; rw [KU_ne (by omega)]
theorem KU_s2 : sdK (KU K 1002 v) = v.toNatClampNeg := by unfold sdK; rw [KU_at]
theorem KU_i {q : Nat} (hi : i ≠ 1003 + q) : siK (KU K i v) q = siK K q := by unfold siK; rw [KU_ne (by omega)]
theorem KU_i3 {q : Nat} : siK (KU K (1003 + q) v) q = v.toNatClampNeg := by unfold siK; rw [KU_at]
theorem sd_eq (h : 0 ≤ (K.2.2.2.2 1002).toInt) : (sdK K : Int) = (K.2.2.2.2 1002).toInt := cI_clamp h
/-- what KU leaves -/
theorem MM_KU (hk : K.1 ≤ 240) (hi : 1002 ≤ i) {n j : Nat} (h10 : n ≠ 10) (h15 : n ≠ 15) (h3 : ¬ (n = 0 ∧ j = 3)) : MM (KU K i v) P N u k0 k1 n j = MM K P N u k0 k1 n j := by
  by_cases a0 : n = 0
  · subst a0
    show flM (KU K i v) u j = flM K u j
    unfold flM
    by_cases a : j = 2
    · rw [if_pos a, if_pos a]
    · rw [if_neg a, if_neg a, if_neg (fun z => h3 ⟨rfl, z⟩), if_neg (fun z => h3 ⟨rfl, z⟩)]
      rfl
  · by_cases a16 : n = 16
    · subst a16
      show txM (KU K i v) j = txM K j
      unfold txM
      by_cases a : j < K.1
      · rw [if_pos (show j < (KU K i v).1 from a), if_pos a, KU_ne (by omega)]
      · rw [if_neg (show ¬ j < (KU K i v).1 from a), if_neg a]
    · simp only [MM, if_neg a0, if_neg h10, if_neg h15, if_neg a16]
theorem MM_15 {j : Nat} : MM K P N u k0 k1 15 j = (if j = 0 then siO k0 (siK K 0) else if j = 1 then siO k1 (siK K 1) else none) := rfl
theorem MM_3 : MM K P N u k0 k1 0 3 = some ((sdK K : Int), (sdK K : Int)) := rfl
theorem MM_KU3 (h : i ≠ 1002) : MM (KU K i v) P N u k0 k1 0 3 = MM K P N u k0 k1 0 3 := by rw [MM_3, MM_3, KU_s h]
theorem MM_KU15 {j : Nat} (h : i ≠ 1003) (h2 : i ≠ 1004) : MM (KU K i v) P N u k0 k1 15 j = MM K P N u k0 k1 15 j := by rw [MM_15, MM_15, KU_i (q := 0) (by omega), KU_i (q := 1) (by omega)]
theorem MM_235 : MM K P N u k0 k1 10 235 = some (0, (bK K : Int)) := rfl
theorem MM_247 : MM K P N u k0 k1 10 247 = some ((tK K : Int), (tK K : Int)) := rfl
theorem le_rf {r : Int × Int} {x : Option (Int × Int)} (h : x = some r) : ∃ q, x = some q ∧ r.1 ≤ q.1 ∧ q.2 ≤ r.2 := ⟨r, h, Int.le_refl _, Int.le_refl _⟩
theorem ln_le {B B' P o : Nat} {r : Int × Int} (hB : B ≤ B') (h : lnM B' P o = some r) : ∃ q, lnM B P o = some q ∧ r.1 ≤ q.1 ∧ q.2 ≤ r.2 := by
  unfold lnM at h ⊢
  by_cases a : 236 ≤ o ∧ o < 236 + P
  · rw [if_pos a] at h ⊢; exact le_rf h
  rw [if_neg a] at h ⊢
  by_cases a : o = 245 ∨ o = 246
  · rw [if_pos a] at h ⊢; exact le_rf h
  rw [if_neg a] at h ⊢
  by_cases a : o = 235
  · rw [if_pos a] at h ⊢
    cases h
    exact ⟨_, rfl, Int.le_refl _, by show (B : Int) ≤ (B' : Int); omega⟩
  · rw [if_neg a] at h
    cases h
theorem rw_le {g t B B' P N u : Nat} {k0 k1 : Bool} {j : Nat} {r : Int × Int} (hB : B ≤ B') (h : rwM g t B' P N u k0 k1 j = some r) : ∃ q, rwM g t B P N u k0 k1 j = some q ∧ r.1 ≤ q.1 ∧ q.2 ≤ r.2 := by
  unfold rwM at h ⊢
  by_cases a : j < 247
  · rw [if_pos a] at h ⊢; exact ln_le hB h
  rw [if_neg a] at h ⊢
  by_cases a : j = 249 ∨ j = 247
  · rw [if_pos a] at h ⊢; exact le_rf h
  rw [if_neg a] at h ⊢
  by_cases a : j = 258
  · rw [if_pos a] at h ⊢; exact le_rf h
  rw [if_neg a] at h ⊢
  by_cases a : j = 259
  · rw [if_pos a] at h ⊢; exact le_rf h
  rw [if_neg a] at h ⊢
  by_cases a : 250 ≤ j ∧ j < 258
  · rw [if_pos a] at h ⊢; exact le_rf h
  rw [if_neg a] at h ⊢
  by_cases a : 278 ≤ j ∧ j < 278 + 247 * u
  · rw [if_pos a] at h ⊢; exact ln_le hB h
  rw [if_neg a] at h ⊢
  by_cases a : 3242 ≤ j ∧ j < 3489 ∧ k0 = true
  · rw [if_pos a] at h ⊢; exact ln_le hB h
  rw [if_neg a] at h ⊢
  by_cases a : 3489 ≤ j ∧ j < 3736 ∧ k1 = true
  · rw [if_pos a] at h ⊢; exact ln_le hB h
  rw [if_neg a] at h
  cases h
/-- a wider bound of the ticks -/
theorem MM_B (hk : K.1 ≤ 240) (hv : bK K ≤ v.toNatClampNeg) : ∀ n j r, MM (KU K 1005 v) P N u k0 k1 n j = some r → ∃ q, MM K P N u k0 k1 n j = some q ∧ r.1 ≤ q.1 ∧ q.2 ≤ r.2 := by
  intro n j r h
  by_cases a10 : n = 10
  · subst a10
    rw [MM_10, KU_g (by decide), KU_t (by decide), KU_b5] at h
    rw [MM_10]
    exact rw_le hv h
  · by_cases a15 : n = 15
    · subst a15
      rw [MM_KU15 (by decide) (by decide)] at h
      exact le_rf h
    · by_cases a3 : n = 0 ∧ j = 3
      · obtain ⟨rfl, rfl⟩ := a3
        rw [MM_KU3 (by decide)] at h
        exact le_rf h
      · rw [MM_KU hk (by decide) a10 a15 a3] at h
        exact le_rf h
/-- while it ticks: the seed, a bound of the ticks -/
def SDM (M : md_T) (v : Int32) (B : Nat) : md_T := fun a i => if a = 0 ∧ i = 3 then some (v.toInt, v.toInt) else if a = 10 ∧ i = 235 then some (0, (B : Int)) else M a i
theorem SD_3 {M : md_T} {v : Int32} {B : Nat} : SDM M v B 0 3 = some (v.toInt, v.toInt) := rfl
theorem SD_235 {M : md_T} {v : Int32} {B : Nat} : SDM M v B 10 235 = some (0, (B : Int)) := rfl
theorem SD_o {M : md_T} {v : Int32} {B n j : Nat} (h1 : ¬ (n = 0 ∧ j = 3)) (h2 : ¬ (n = 10 ∧ j = 235)) : SDM M v B n j = M n j := by
  unfold SDM
  rw [if_neg h1, if_neg h2]
theorem SD_v {M : md_T} {v w : Int32} {B : Nat} : ∀ n j, n ≠ 0 ∨ j ≠ 3 → SDM M w B n j = SDM M v B n j := fun n j h => by
  unfold SDM
  rw [if_neg (show ¬ (n = 0 ∧ j = 3) by omega), if_neg (show ¬ (n = 0 ∧ j = 3) by omega)]
theorem SD_b {M : md_T} {v : Int32} {B C : Nat} : ∀ n j, n ≠ 10 ∨ j ≠ 235 → SDM M v C n j = SDM M v B n j := fun n j h => by
  unfold SDM
  rw [if_neg (show ¬ (n = 10 ∧ j = 235) by omega), if_neg (show ¬ (n = 10 ∧ j = 235) by omega)]
theorem SD_HB {M : md_T} {v : Int32} {B P N : Nat} (hB : HB M P N) (hv : 0 ≤ v.toInt) : HB (SDM M v B) P N := by
  obtain ⟨⟨⟨n9, m9, n9p⟩, ⟨n13, m13, n13p⟩, ⟨n3, m3, n3p⟩, m8⟩, ⟨mN, mP, ⟨gG, mG, lG⟩, mL, mF⟩, mO, ⟨mK, mS, mQ, mZ⟩, hN72, hP8, hNP⟩ := id hB
  have c := cI_clamp hv
  have g := cI_rng v
  refine ⟨⟨⟨n9, ?_, n9p⟩, ⟨n13, ?_, n13p⟩, ⟨v.toNatClampNeg, ?_, by omega⟩, m8⟩, ⟨?_, ?_, ⟨gG, ?_, lG⟩, fun j hj => ?_, fun j hj => ?_⟩, fun j hj => ?_, ⟨fun j => ?_, mS, fun j => ?_, fun n hn j => ?_⟩, hN72, hP8, hNP⟩
  · rw [SD_o (by omega) (by omega)]; exact m9
  · rw [SD_o (by omega) (by omega)]; exact m13
  · rw [SD_3, c]
  · rw [SD_o (by omega) (by omega)]; exact mN
  · rw [SD_o (by omega) (by omega)]; exact mP
  · rw [SD_o (by omega) (by omega)]; exact mG
  · rw [SD_o (by omega) (by omega)]; exact mL j hj
  · rw [SD_o (by omega) (by omega)]; exact mF j hj
  · rw [SD_o (by omega) (by omega)]; exact mO j hj
  · rw [SD_o (by omega) (by omega)]; exact mK j
  · rw [SD_o (by omega) (by omega)]; exact mQ j
  · have h0 : n ≠ 0 ∧ n ≠ 10 := (by decide : ∀ n ∈ [21, 22, 25, 31, 32, 33, 34], n ≠ 0 ∧ n ≠ 10) n hn
    rw [SD_o (by omega) (by omega)]; exact mZ n hn j
theorem SD_LV {M : md_T} {v : Int32} {B P : Nat} (hL : LV M P 0) : LV (SDM M v B) P 0 := by
  obtain ⟨h1, h2, h3⟩ := hL
  refine ⟨fun p hp => ?_, ?_, ?_⟩
  · rw [SD_o (by omega) (by omega)]; exact h1 p hp
  · rw [SD_o (by omega) (by omega)]; exact h2
  · rw [SD_o (by omega) (by omega)]; exact h3
/-- into ticking and out of it -/
theorem SD_in (h0 : 0 ≤ (K.2.2.2.2 1002).toInt) : ∀ n j r, SDM (MM K P N u k0 k1) (K.2.2.2.2 1002) (bK K) n j = some r → MM K P N u k0 k1 n j = some r := by
  intro n j r h
  by_cases a3 : n = 0 ∧ j = 3
  · obtain ⟨rfl, rfl⟩ := a3
    rw [SD_3, ← sd_eq h0] at h
    exact h
  · by_cases a5 : n = 10 ∧ j = 235
    · obtain ⟨rfl, rfl⟩ := a5
      rw [SD_235] at h
      rw [MM_235]
      exact h
    · rw [SD_o a3 a5] at h
      exact h
theorem SD_out {w : Int32} {B : Nat} (hk : K.1 ≤ 240) (hw : 0 ≤ w.toInt) (hb : bK K ≤ v.toNatClampNeg) (hB : B ≤ v.toNatClampNeg) : ∀ n j r, MM (KU (KU K 1005 v) 1002 w) P N u k0 k1 n j = some r → ∃ q, SDM (MM K P N u k0 k1) w B n j = some q ∧ r.1 ≤ q.1 ∧ q.2 ≤ r.2 := by
  intro n j r h
  by_cases a3 : n = 0 ∧ j = 3
  · obtain ⟨rfl, rfl⟩ := a3
    rw [MM_3, KU_s2, cI_clamp hw] at h
    rw [SD_3]
    exact le_rf h
  · have h : MM (KU K 1005 v) P N u k0 k1 n j = some r := by
      by_cases a10 : n = 10
      · subst a10
        rw [MM_10, KU_g (by decide), KU_t (by decide), KU_b (by decide)] at h
        exact h
      · by_cases a15 : n = 15
        · subst a15
          rw [MM_KU15 (by decide) (by decide)] at h
          exact h
        · rw [MM_KU (K := KU K 1005 v) hk (by decide) a10 a15 a3] at h
          exact h
    by_cases a5 : n = 10 ∧ j = 235
    · obtain ⟨rfl, rfl⟩ := a5
      rw [MM_235, KU_b5] at h
      cases h
      exact ⟨_, SD_235, Int.le_refl _, by show (B : Int) ≤ (v.toNatClampNeg : Int); omega⟩
    · rw [SD_o a3 a5]
      exact MM_B hk hb n j r h
theorem SD_out0 {B : Nat} (hk : K.1 ≤ 240) (h0 : 0 ≤ (K.2.2.2.2 1002).toInt) (hb : bK K ≤ v.toNatClampNeg) (hB : B ≤ v.toNatClampNeg) : ∀ n j r, MM (KU K 1005 v) P N u k0 k1 n j = some r → ∃ q, SDM (MM K P N u k0 k1) (K.2.2.2.2 1002) B n j = some q ∧ r.1 ≤ q.1 ∧ q.2 ≤ r.2 := by
  intro n j r h
  by_cases a3 : n = 0 ∧ j = 3
  · obtain ⟨rfl, rfl⟩ := a3
    rw [MM_3, KU_s (by decide), sd_eq h0] at h
    rw [SD_3]
    exact le_rf h
  · by_cases a5 : n = 10 ∧ j = 235
    · obtain ⟨rfl, rfl⟩ := a5
      rw [MM_235, KU_b5] at h
      cases h
      exact ⟨_, SD_235, Int.le_refl _, by show (B : Int) ≤ (v.toNatClampNeg : Int); omega⟩
    · rw [SD_o a3 a5]
      exact MM_B hk hb n j r h
end KUS
