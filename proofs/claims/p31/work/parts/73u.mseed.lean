/-! the reference's seed to the number -/
/-- another number behind the letters -/
def KU (K : KT) (i : Nat) (v : Int32) : KT := (K.1, K.2.1, K.2.2.1, K.2.2.2.1, fun j => if j = i then v else K.2.2.2.2 j)
section KUS
variable {K : KT} {P N u i : Nat} {k0 k1 : Bool} {v : Int32}
theorem KU_at : (KU K i v).2.2.2.2 i = v := if_pos rfl
theorem KU_ne {j : Nat} (h : j ≠ i) : (KU K i v).2.2.2.2 j = K.2.2.2.2 j := if_neg h
theorem KU_ok (ok : OKG K P N u) : OKG (KU K i v) P N u := ok
theorem KU_g (hi : 1002 ≤ i) : gK (KU K i v) = gK K := by unfold gK; rw [KU_ne (by omega)]
theorem KU_t (hi : 1002 ≤ i) : tK (KU K i v) = tK K := by unfold tK; rw [KU_ne (by omega)]
theorem KU_b (hi : i ≠ 1005) : bK (KU K i v) = bK K := by unfold bK; rw [KU_ne (by omega)]
theorem KU_b5 : bK (KU K 1005 v) = v.toNatClampNeg := by unfold bK; rw [KU_at]
theorem KU_s (hi : i ≠ 1002) : sdK (KU K i v) = sdK K := by unfold sdK; rw [KU_ne (by omega)]
theorem KU_s2 : sdK (KU K 1002 v) = v.toNatClampNeg := by unfold sdK; rw [KU_at]
theorem KU_i {q : Nat} (hi : i ≠ 1003 + q) : siK (KU K i v) q = siK K q := by unfold siK; rw [KU_ne (by omega)]
theorem KU_i3 {q : Nat} : siK (KU K (1003 + q) v) q = v.toNatClampNeg := by unfold siK; rw [KU_at]
theorem sd_eq (h : 0 ≤ (K.2.2.2.2 1002).toInt) : (sdK K : Int) = (K.2.2.2.2 1002).toInt := cI_clamp h
/-- what KU leaves -/
theorem MM_KU (hk : K.1 ≤ 240) (hi : 1002 ≤ i) {n j : Nat} (h10 : n ≠ 10) (h15 : n ≠ 15) (h3 : ¬ (n = 0 ∧ j = 3)) : MM (KU K i v) P N u k0 k1 n j = MM K P N u k0 k1 n j := by
  by_cases a0 : n = 0
  · subst a0
    show flM (KU K i v) u j = flM K u j
    unfold flM
    by_cases a : j = 2
    · rw [if_pos a, if_pos a]
    · rw [if_neg a, if_neg a, if_neg (fun z => h3 ⟨rfl, z⟩), if_neg (fun z => h3 ⟨rfl, z⟩)]
      rfl
  · by_cases a16 : n = 16
    · subst a16
      show txM (KU K i v) j = txM K j
      unfold txM
      by_cases a : j < K.1
      · rw [if_pos (show j < (KU K i v).1 from a), if_pos a, KU_ne (by omega)]
      · rw [if_neg (show ¬ j < (KU K i v).1 from a), if_neg a]
    · simp only [MM, if_neg a0, if_neg h10, if_neg h15, if_neg a16]
theorem MM_3 : MM K P N u k0 k1 0 3 = some ((sdK K : Int), (sdK K : Int)) := rfl
theorem MM_235 : MM K P N u k0 k1 10 235 = some (0, (bK K : Int)) := rfl
theorem MM_247 : MM K P N u k0 k1 10 247 = some ((tK K : Int), (tK K : Int)) := rfl
theorem le_rf {r : Int × Int} {x : Option (Int × Int)} (h : x = some r) : ∃ q, x = some q ∧ r.1 ≤ q.1 ∧ q.2 ≤ r.2 := ⟨r, h, Int.le_refl _, Int.le_refl _⟩
theorem ln_le {B B' P o : Nat} {r : Int × Int} (hB : B ≤ B') (h : lnM B' P o = some r) : ∃ q, lnM B P o = some q ∧ r.1 ≤ q.1 ∧ q.2 ≤ r.2 := by
  unfold lnM at h ⊢
  by_cases a : 236 ≤ o ∧ o < 236 + P
  · rw [if_pos a] at h ⊢; exact le_rf h
  rw [if_neg a] at h ⊢
  by_cases a : o = 245 ∨ o = 246
  · rw [if_pos a] at h ⊢; exact le_rf h
  rw [if_neg a] at h ⊢
  by_cases a : o = 235
  · rw [if_pos a] at h ⊢
    cases h
    exact ⟨_, rfl, Int.le_refl _, by show (B : Int) ≤ (B' : Int); omega⟩
  · rw [if_neg a] at h
    cases h
theorem rw_le {g t B B' P N u : Nat} {k0 k1 : Bool} {j : Nat} {r : Int × Int} (hB : B ≤ B') (h : rwM g t B' P N u k0 k1 j = some r) : ∃ q, rwM g t B P N u k0 k1 j = some q ∧ r.1 ≤ q.1 ∧ q.2 ≤ r.2 := by
  unfold rwM at h ⊢
  by_cases a : j < 247
  · rw [if_pos a] at h ⊢; exact ln_le hB h
  rw [if_neg a] at h ⊢
  by_cases a : j = 249 ∨ j = 247
  · rw [if_pos a] at h ⊢; exact le_rf h
  rw [if_neg a] at h ⊢
  by_cases a : j = 258
  · rw [if_pos a] at h ⊢; exact le_rf h
  rw [if_neg a] at h ⊢
  by_cases a : j = 259
  · rw [if_pos a] at h ⊢; exact le_rf h
  rw [if_neg a] at h ⊢
  by_cases a : 250 ≤ j ∧ j < 258
  · rw [if_pos a] at h ⊢; exact le_rf h
  rw [if_neg a] at h ⊢
  by_cases a : 278 ≤ j ∧ j < 278 + 247 * u
  · rw [if_pos a] at h ⊢; exact ln_le hB h
  rw [if_neg a] at h ⊢
  by_cases a : 3242 ≤ j ∧ j < 3489 ∧ k0 = true
  · rw [if_pos a] at h ⊢; exact ln_le hB h
  rw [if_neg a] at h ⊢
  by_cases a : 3489 ≤ j ∧ j < 3736 ∧ k1 = true
  · rw [if_pos a] at h ⊢; exact ln_le hB h
  rw [if_neg a] at h
  cases h
/-- a wider bound of the ticks -/
theorem MM_B (hk : K.1 ≤ 240) (hv : bK K ≤ v.toNatClampNeg) : ∀ n j r, MM (KU K 1005 v) P N u k0 k1 n j = some r → ∃ q, MM K P N u k0 k1 n j = some q ∧ r.1 ≤ q.1 ∧ q.2 ≤ r.2 := by
  intro n j r h
  by_cases a10 : n = 10
  · subst a10
    rw [MM_10, KU_g (by decide), KU_t (by decide), KU_b5] at h
    rw [MM_10]
    exact rw_le hv h
  · by_cases a15 : n = 15
    · subst a15
      exact le_rf h
    · by_cases a3 : n = 0 ∧ j = 3
      · obtain ⟨rfl, rfl⟩ := a3
        exact le_rf h
      · rw [MM_KU hk (by decide) a10 a15 a3] at h
        exact le_rf h
/-- while it ticks: the seed, a bound of the ticks -/
def SDM (M : md_T) (v : Int32) (B : Nat) : md_T := fun a i => if a = 0 ∧ i = 3 then some (v.toInt, v.toInt) else if a = 10 ∧ i = 235 then some (0, (B : Int)) else M a i
theorem SD_3 {M : md_T} {v : Int32} {B : Nat} : SDM M v B 0 3 = some (v.toInt, v.toInt) := rfl
theorem SD_235 {M : md_T} {v : Int32} {B : Nat} : SDM M v B 10 235 = some (0, (B : Int)) := rfl
theorem SD_o {M : md_T} {v : Int32} {B n j : Nat} (h1 : ¬ (n = 0 ∧ j = 3)) (h2 : ¬ (n = 10 ∧ j = 235)) : SDM M v B n j = M n j := by
  unfold SDM
  rw [if_neg h1, if_neg h2]
theorem SD_v {M : md_T} {v w : Int32} {B : Nat} : ∀ n j, n ≠ 0 ∨ j ≠ 3 → SDM M w B n j = SDM M v B n j := fun n j h => by
  unfold SDM
  rw [if_neg (by omega), if_neg (by omega)]
theorem SD_b {M : md_T} {v : Int32} {B C : Nat} : ∀ n j, n ≠ 10 ∨ j ≠ 235 → SDM M v C n j = SDM M v B n j := fun n j h => by
  unfold SDM
  rw [if_neg (show ¬ (n = 10 ∧ j = 235) by omega), if_neg (show ¬ (n = 10 ∧ j = 235) by omega)]
theorem SD_HB {M : md_T} {v : Int32} {B P N : Nat} (hB : HB M P N) (hv : 0 ≤ v.toInt) : HB (SDM M v B) P N := by
  obtain ⟨⟨⟨n9, m9, n9p⟩, ⟨n13, m13, n13p⟩, ⟨n3, m3, n3p⟩, m8⟩, ⟨mN, mP, ⟨gG, mG, lG⟩, mL, mF⟩, mO, ⟨mK, mS, mQ, mZ⟩, hN72, hP8, hNP⟩ := id hB
  have c := cI_clamp hv
  have g := cI_rng v
  refine ⟨⟨⟨n9, ?_, n9p⟩, ⟨n13, ?_, n13p⟩, ⟨v.toNatClampNeg, ?_, by omega⟩, m8⟩, ⟨?_, ?_, ⟨gG, ?_, lG⟩, fun j hj => ?_, fun j hj => ?_⟩, fun j hj => ?_, ⟨fun j => ?_, mS, fun j => ?_, fun n hn j => ?_⟩, hN72, hP8, hNP⟩
  · rw [SD_o (by omega) (by omega)]; exact m9
  · rw [SD_o (by omega) (by omega)]; exact m13
  · rw [SD_3, c]
  · rw [SD_o (by omega) (by omega)]; exact mN
  · rw [SD_o (by omega) (by omega)]; exact mP
  · rw [SD_o (by omega) (by omega)]; exact mG
  · rw [SD_o (by omega) (by omega)]; exact mL j hj
  · rw [SD_o (by omega) (by omega)]; exact mF j hj
  · rw [SD_o (by omega) (by omega)]; exact mO j hj
  · rw [SD_o (by omega) (by omega)]; exact mK j
  · rw [SD_o (by omega) (by omega)]; exact mQ j
  · have h0 : n ≠ 0 ∧ n ≠ 10 := (by decide : ∀ n ∈ [21, 22, 25, 31, 32, 33, 34], n ≠ 0 ∧ n ≠ 10) n hn
    rw [SD_o (by omega) (by omega)]; exact mZ n hn j
theorem SD_LV {M : md_T} {v : Int32} {B P : Nat} (hL : LV M P 0) : LV (SDM M v B) P 0 := by
  obtain ⟨h1, h2, h3⟩ := hL
  refine ⟨fun p hp => ?_, ?_, ?_⟩
  · rw [SD_o (by omega) (by omega)]; exact h1 p hp
  · rw [SD_o (by omega) (by omega)]; exact h2
  · rw [SD_o (by omega) (by omega)]; exact h3
/-- into ticking and out of it -/
theorem SD_in (h0 : 0 ≤ (K.2.2.2.2 1002).toInt) : ∀ n j r, SDM (MM K P N u k0 k1) (K.2.2.2.2 1002) (bK K) n j = some r → MM K P N u k0 k1 n j = some r := by
  intro n j r h
  by_cases a3 : n = 0 ∧ j = 3
  · obtain ⟨rfl, rfl⟩ := a3
    rw [SD_3, ← sd_eq h0] at h
    exact h
  · by_cases a5 : n = 10 ∧ j = 235
    · obtain ⟨rfl, rfl⟩ := a5
      exact h
    · rw [SD_o a3 a5] at h
      exact h
theorem SD_out {w : Int32} {B : Nat} (hk : K.1 ≤ 240) (hw : 0 ≤ w.toInt) (hb : bK K ≤ v.toNatClampNeg) (hB : B ≤ v.toNatClampNeg) : ∀ n j r, MM (KU (KU K 1005 v) 1002 w) P N u k0 k1 n j = some r → ∃ q, SDM (MM K P N u k0 k1) w B n j = some q ∧ r.1 ≤ q.1 ∧ q.2 ≤ r.2 := by
  intro n j r h
  by_cases a3 : n = 0 ∧ j = 3
  · obtain ⟨rfl, rfl⟩ := a3
    rw [MM_3, KU_s2, cI_clamp hw] at h
    rw [SD_3]
    exact le_rf h
  · have h : MM (KU K 1005 v) P N u k0 k1 n j = some r := by
      by_cases a10 : n = 10
      · subst a10
        rw [MM_10, KU_g (by decide), KU_t (by decide), KU_b (by decide)] at h
        exact h
      · by_cases a15 : n = 15
        · subst a15
          exact h
        · rw [MM_KU (K := KU K 1005 v) hk (by decide) a10 a15 a3] at h
          exact h
    by_cases a5 : n = 10 ∧ j = 235
    · obtain ⟨rfl, rfl⟩ := a5
      rw [MM_235, KU_b5] at h
      cases h
      exact ⟨_, SD_235, Int.le_refl _, by show (B : Int) ≤ (v.toNatClampNeg : Int); omega⟩
    · rw [SD_o a3 a5]
      exact MM_B hk hb n j r h
theorem SD_out0 {B : Nat} (hk : K.1 ≤ 240) (h0 : 0 ≤ (K.2.2.2.2 1002).toInt) (hb : bK K ≤ v.toNatClampNeg) (hB : B ≤ v.toNatClampNeg) : ∀ n j r, MM (KU K 1005 v) P N u k0 k1 n j = some r → ∃ q, SDM (MM K P N u k0 k1) (K.2.2.2.2 1002) B n j = some q ∧ r.1 ≤ q.1 ∧ q.2 ≤ r.2 := by
  intro n j r h
  by_cases a3 : n = 0 ∧ j = 3
  · obtain ⟨rfl, rfl⟩ := a3
    rw [MM_3, KU_s (by decide), sd_eq h0] at h
    rw [SD_3]
    exact le_rf h
  · by_cases a5 : n = 10 ∧ j = 235
    · obtain ⟨rfl, rfl⟩ := a5
      rw [MM_235, KU_b5] at h
      cases h
      exact ⟨_, SD_235, Int.le_refl _, by show (B : Int) ≤ (v.toNatClampNeg : Int); omega⟩
    · rw [SD_o a3 a5]
      exact MM_B hk hb n j r h
end KUS
set_option maxHeartbeats 4000000 in
set_option maxRecDepth 100000 in
theorem e_X10_isLine (l : Launch) (D : va_G) (cy : Nat → ClassId) (τ : ty_T) (ρ : ty_R) {M : md_T} (hN : ty_N τ ρ) (hR : ty_Rg M τ ρ) (hF : ty_Wf M τ ρ []) {a900 : Nat} (h900 : τ a900 = some (0, 10)) {P N : Nat} (hB : HB M P N) {tt : Nat} (h247 : M 10 247 = some ((tt : Int), (tt : Int))) : KI l D cy yX10_isLine cX10_isLine 1 .boolean (rL 0) τ ρ [.ref a900] (fun r u => u = ρ ∧ (r.toInt = 0 ∨ r.toInt = 1) ∧ (r.toInt = 0 ↔ ¬ tt = 1)) := by
  refine k_metI "EdgeEchoesModel" rfl (by decide +kernel) (Nat.le_of_ble_eq_true rfl) (fun r u h => (cI_nar (cI_01 h.2.1)).1) ?_
  intro p e s m args below meth c Q ls X hG hl ret
  have hl : lv_has ls 1 [(0, .ref a900)] := hl
  obtain ⟨⟨⟨n9, m9, n9p⟩, ⟨n13, m13, n13p⟩, ⟨n3, m3, n3p⟩, m8⟩, ⟨mN, mP, ⟨gG, mG, lG⟩, mL, mF⟩, mO, ⟨mK, mS, mQ, mZ⟩, hN72, hP8, hNP⟩ := id hB
  refine lv_aload_n X.1 X.2.1 dX10_isLine_0 rfl (lv_at hl 0 rfl) ?_
  refine gf_10_0 X hG h900 q_876 dX10_isLine_1 (hN _ _ _ h900) (fun a1 h1 r1 => ?_)
  refine n_sp X dX10_isLine_4 (by decide) (by decide) (fun x2 t2 => ?_)
  refine tg_iald X hG h1 rfl (cI_in (n := 4261) (by omega)) dX10_isLine_7 (fun x3 r3 => ?_)
  have b3 := rdR (hR _ _ _ _ h1 r3) (n := 247) (by omega) h247
  refine n_ic X dX10_isLine_8 (by decide) (by decide) (fun x4 t4 => ?_)
  refine n_icmp_ne (tgt := 16) X dX10_isLine_9 (by decide) (fun c5 => ?_) (fun c5 => ?_)
  · refine n_ic X dX10_isLine_16 (by decide) (by decide) (fun x6 t6 => ?_)
    exact ret _ _ _ _ x6 _ hG ⟨rfl, by omega, by omega⟩ dX10_isLine_17
  · refine n_ic X dX10_isLine_12 (by decide) (by decide) (fun x7 t7 => ?_)
    refine lv_goto (tgt := 17) X.1 X.2.1 dX10_isLine_13 (by decide) ?_
    exact ret _ _ _ _ x7 _ hG ⟨rfl, by omega, by omega⟩ dX10_isLine_17
set_option maxHeartbeats 4000000 in
set_option maxRecDepth 100000 in
theorem e_X10_draw (l : Launch) (D : va_G) (cy : Nat → ClassId) (τ : ty_T) (hU : UQ τ) {M : md_T} {P N : Nat} (hB0 : HB M P N) {v : Int32} (hv : 0 ≤ v.toInt) {B : Nat} {a900 : Nat} (h900 : τ a900 = some (0, 10)) (x901 : Int32) (zx901 : 1 ≤ x901.toInt ∧ x901.toInt ≤ 2147483647) : KI l D cy yX10_draw cX10_draw 2 .int (rL 0) τ (cn (SDM M v B) τ) [.ref a900, .int x901] (fun r u => u = cn (SDM M (lcg v) B) τ ∧ r.toInt = (lcg v).toInt / 65536 % x901.toInt) := by
  refine k_metI "EdgeEchoesModel" rfl (by decide +kernel) (Nat.le_of_ble_eq_true rfl) (fun _ _ _ => rfl) ?_
  intro p e s m args below meth c Q ls X hG hl ret
  have hl : lv_has ls 2 [(0, .ref a900), (1, .int x901)] := hl
  have lg := lcg_0 (v := v)
  refine lv_aload_n X.1 X.2.1 dX10_draw_0 rfl (lv_at hl 0 rfl) ?_
  refine lv_aload_n X.1 X.2.1 dX10_draw_1 rfl (lv_at hl 0 rfl) ?_
  refine gf_10_3 X hG h900 q_879 dX10_draw_2 (fun x1 r1 => ?_)
  have b1 := (cn_R _ _ _ _ h900 r1) _ _ SD_3
  have ev : x1 = v := cI_inj (by omega)
  rw [ev]
  refine lv_i2l X.1 X.2.1 dX10_draw_5 rfl ?_
  refine lv_topl (fun w2 e2 => ?_)
  refine n_ldl X q_1195 (n := 1103515245) (by decide +kernel) dX10_draw_6 (fun w3 e3 t3 => ?_)
  refine lv_lmul X.1 X.2.1 dX10_draw_9 ?_
  refine lv_topl (fun w4 e4 => ?_)
  refine n_ldl X q_1196 (n := 12345) (by decide +kernel) dX10_draw_10 (fun w5 e5 t5 => ?_)
  refine lv_ladd X.1 X.2.1 dX10_draw_13 ?_
  refine lv_topl (fun w6 e6 => ?_)
  refine n_ldl X q_1197 (n := 2147483647) (by decide +kernel) dX10_draw_14 (fun w7 e7 t7 => ?_)
  refine lv_land X.1 X.2.1 dX10_draw_17 ?_
  refine lv_topl (fun w8 e8 => ?_)
  refine lv_l2i X.1 X.2.1 dX10_draw_18 rfl ?_
  refine lv_topi (fun x9 e9 => ?_)
  have ex : x9 = lcg v := by rw [e9, e8, e7, e6, e5, e4, e3, e2]; rfl
  rw [ex]
  refine pg_10_3 X hG h900 q_879 dX10_draw_19 (cn (SDM M (lcg v) B) τ) (cf_off hU h900 SD_v) (cf_oth SD_v) (cw_new h900 (ty_ryes SD_3 (by omega))) (fun H locs hG => ?_)
  refine lv_aload_n X.1 X.2.1 dX10_draw_22 rfl (lv_at hl 0 rfl) ?_
  refine gf_10_3 X hG h900 q_879 dX10_draw_23 (fun x19 r19 => ?_)
  have b19 := (cn_R _ _ _ _ h900 r19) _ _ SD_3
  refine n_ldc X q_1198 (n := 65536) (by decide +kernel) dX10_draw_26 (fun x10 t10 => ?_)
  refine n_div X dX10_draw_28 (by omega) (by omega) (fun x11 t11 => ?_)
  rw [t10, show x19.toInt = (lcg v).toInt by omega] at t11
  refine lv_iload_n X.1 X.2.1 dX10_draw_29 rfl (lv_at hl 1 rfl) ?_
  refine n_rem X dX10_draw_30 (by omega) (by omega) (fun x12 t12 => ?_)
  exact ret _ _ _ _ x12 _ hG ⟨rfl, by rw [t12.2.2, t11]⟩ dX10_draw_31
set_option maxHeartbeats 4000000 in
set_option maxRecDepth 100000 in
theorem e_X10_ticks0 (l : Launch) (D : va_G) (cy : Nat → ClassId) (τ : ty_T) (hU : UQ τ) {M : md_T} {P N : Nat} (hB0 : HB M P N) (hL0 : LV M P 0) {v : Int32} (hv : 0 ≤ v.toInt) {B : Nat} (hBB : B ≤ 1000000) {a900 : Nat} (h900 : τ a900 = some (0, 10)) (x901 : Int32) (eb : x901.toInt = 0) (x902 : Int32) (z902 : 0 ≤ x902.toInt ∧ x902.toInt ≤ 50) : KV l D cy yX10_ticks cX10_ticks 5 (rL 4) τ (cn (SDM M v B) τ) [.ref a900, .int x901, .int x902] (fun w => w = cn (SDM M v (B + x902.toInt.toNat)) τ) := by
  refine k_metV "EdgeEchoesModel" rfl (by decide +kernel) (Nat.le_of_ble_eq_true rfl) ?_
  intro p e s m args below meth c Q ls X hG hl ret
  have hl : lv_has ls 5 [(0, .ref a900), (1, .int x901), (2, .int x902)] := hl
  have g902 := cI_rng x902
  refine n_ic X dX10_ticks_0 (by decide) (by decide) (fun x1 t1 => ?_)
  refine lv_istore_n (lv' := [(3, .int x1), (0, .ref a900), (1, .int x901), (2, .int x902)]) X.1 X.2.1 dX10_ticks_1 rfl hl (by decide) rfl (fun ls hl => ?_)
  have J2 : ∀ (n : Nat) (H : Heap) (locs : List Loc) (ls : Array Slot) (x2 : Int32), (0 ≤ x2.toInt ∧ x2.toInt ≤ x902.toInt) → (2147483647 - x2.toInt).toNat < n → TG D cy τ (cn (SDM M v (B + x2.toInt.toNat)) τ) (ty_d τ) s.heap H locs → lv_has ls 5 [(0, .ref a900), (1, .int x901), (2, .int x902), (3, .int x2)] → W p l e (rL 4) s m args below meth c H locs 0 0 Q (F0 m 2 ls []) := by
    intro n
    induction n with
    | zero => intro H locs ls x2 bx2 hm2 hG hl; exact absurd hm2 (Nat.not_lt_zero _)
    | succ n ih2 =>
      intro H locs ls x2 bx2 hm2 hG hl
      have gx2 := cI_rng x2
      have hN := cn_N (M := SDM M v (B + x2.toInt.toNat)) (τ := τ)
      have hR := cn_R (M := SDM M v (B + x2.toInt.toNat)) (τ := τ)
      have hF : ty_Wf (SDM M v (B + x2.toInt.toNat)) τ (cn (SDM M v (B + x2.toInt.toNat)) τ) [6010, 6031, 6032] := cn_F
      have hB := SD_HB (B := B + x2.toInt.toNat) hB0 hv
      have hL := SD_LV (v := v) (B := B + x2.toInt.toNat) hL0
      obtain ⟨⟨⟨n9, m9, n9p⟩, ⟨n13, m13, n13p⟩, ⟨n3, m3, n3p⟩, m8⟩, ⟨mN, mP, ⟨gG, mG, lG⟩, mL, mF⟩, mO, ⟨mK, mS, mQ, mZ⟩, hN72, hP8, hNP⟩ := id hB
      refine lv_iload_n X.1 X.2.1 dX10_ticks_2 rfl (lv_at hl 3 rfl) ?_
      refine lv_iload_n X.1 X.2.1 dX10_ticks_3 rfl (lv_at hl 2 rfl) ?_
      refine n_icmp_ge (tgt := 166) X dX10_ticks_4 (by decide) (fun c3 => ?_) (fun c3 => ?_)
      · exact ret _ _ _ _ _ hG (by rw [show x2.toInt.toNat = x902.toInt.toNat by omega]) dX10_ticks_166
      · refine lv_aload_n X.1 X.2.1 dX10_ticks_7 rfl (lv_at hl 0 rfl) ?_
        refine gf_10_0 X hG h900 q_876 dX10_ticks_8 (hN _ _ _ h900) (fun a4 h4 r4 => ?_)
        refine n_sp X dX10_ticks_11 (by decide) (by decide) (fun x5 t5 => ?_)
        refine tg_iald X hG h4 rfl (cI_in (n := 4261) (by omega)) dX10_ticks_14 (fun x6 r6 => ?_)
        have b6 := rdR (hR _ _ _ _ h4 r6) (n := 258) (by omega) mN
        have J117 : ∀ (H : Heap) (locs : List Loc) (ls : Array Slot), TG D cy τ (cn (SDM M v (B + x2.toInt.toNat)) τ) (ty_d τ) s.heap H locs → lv_has ls 5 [(0, .ref a900), (1, .int x901), (2, .int x902), (3, .int x2)] → W p l e (rL 4) s m args below meth c H locs 0 0 Q (F0 m 117 ls []) := by
          intro H locs ls hG hl
          refine n_ic X dX10_ticks_117 (by decide) (by decide) (fun x7 t7 => ?_)
          refine lv_istore (lv' := [(4, .int x7), (0, .ref a900), (1, .int x901), (2, .int x902), (3, .int x2)]) X.1 X.2.1 dX10_ticks_118 hl (by decide) rfl (fun ls hl => ?_)
          have J120 : ∀ (n : Nat) (H : Heap) (locs : List Loc) (ls : Array Slot) (x8 : Int32), (0 ≤ x8.toInt ∧ x8.toInt ≤ 6) → (6 - x8.toInt).toNat < n → TG D cy τ (cn (SDM M v (B + x2.toInt.toNat)) τ) (ty_d τ) s.heap H locs → lv_has ls 5 [(0, .ref a900), (1, .int x901), (2, .int x902), (3, .int x2), (4, .int x8)] → W p l e (rL 4) s m args below meth c H locs 0 0 Q (F0 m 120 ls []) := by
            intro n
            induction n with
            | zero => intro H locs ls x8 bx8 hm120 hG hl; exact absurd hm120 (Nat.not_lt_zero _)
            | succ n ih120 =>
              intro H locs ls x8 bx8 hm120 hG hl
              refine lv_iload X.1 X.2.1 dX10_ticks_120 (lv_at hl 4 rfl) ?_
              refine lv_aload_n X.1 X.2.1 dX10_ticks_122 rfl (lv_at hl 0 rfl) ?_
              refine gf_10_0 X hG h900 q_876 dX10_ticks_123 (hN _ _ _ h900) (fun a9 h9 r9 => ?_)
              refine n_sp X dX10_ticks_126 (by decide) (by decide) (fun x10 t10 => ?_)
              refine tg_iald X hG h9 rfl (cI_in (n := 4261) (by omega)) dX10_ticks_129 (fun x11 r11 => ?_)
              have b11 := rdR (hR _ _ _ _ h9 r11) (n := 259) (by omega) mG
              refine n_icmp_ge (tgt := 146) X dX10_ticks_130 (by decide) (fun c12 => ?_) (fun c12 => ?_)
              · refine lv_aload_n X.1 X.2.1 dX10_ticks_146 rfl (lv_at hl 0 rfl) ?_
                refine gf_10_0 X hG h900 q_876 dX10_ticks_147 (hN _ _ _ h900) (fun a13 h13 r13 => ?_)
                refine lv_iload_n X.1 X.2.1 dX10_ticks_150 rfl (lv_at hl 1 rfl) ?_
                refine n_sp X dX10_ticks_151 (by decide) (by decide) (fun x14 t14 => ?_)
                refine n_add X dX10_ticks_154 (by omega) (by omega) (fun x15 t15 => ?_)
                refine lv_dup2_11 X.1 X.2.1 dX10_ticks_155 rfl rfl ?_
                refine tg_iald X hG h13 rfl (cI_in (n := 4261) (by omega)) dX10_ticks_156 (fun x16 r16 => ?_)
                have b16 := rdR (hR _ _ _ _ h13 r16) (n := 235) (by omega) SD_235
                refine n_ic X dX10_ticks_157 (by decide) (by decide) (fun x17 t17 => ?_)
                refine n_add X dX10_ticks_158 (by omega) (by omega) (fun x18 t18 => ?_)
                have i35 : x15.toNatClampNeg = 235 := by have := cI_clamp (x := x15) (by omega); omega
                refine tg_iast X hG h13 rfl (cI_in (n := 4261) (by omega)) dX10_ticks_159 (cn (SDM M v (B + x2.toInt.toNat + 1)) τ) (cw_off hU h13 (by decide) (j0 := 235) SD_b) (by rw [i35]; exact cw_oth h13 SD_b) (by rw [i35]; exact cw_new h13 (ty_ryes SD_235 (by omega))) (fun H locs hG => ?_)
                refine n_inc X (fun z20 => [(3, .int z20), (0, .ref a900), (1, .int x901), (2, .int x902), (4, .int x8)]) dX10_ticks_160 hl (k := 3) rfl (by decide) (by decide) (by omega) (by omega) (by decide) (fun _ => rfl) (fun x19 ls t19 hl => ?_)
                have hl : lv_has ls 5 [(3, .int x19), (0, .ref a900), (1, .int x901), (2, .int x902), (4, .int x8)] := hl
                refine lv_goto (tgt := 2) X.1 X.2.1 dX10_ticks_163 (by decide) ?_
                have ee : B + x2.toInt.toNat + 1 = B + x19.toInt.toNat := by omega
                rw [ee] at hG
                exact ih2 _ _ _ x19 (by omega) (by omega) hG (lv_sub hl [1, 2, 3, 0] rfl)
              · refine lv_aload_n X.1 X.2.1 dX10_ticks_133 rfl (lv_at hl 0 rfl) ?_
                refine lv_iload_n X.1 X.2.1 dX10_ticks_134 rfl (lv_at hl 1 rfl) ?_
                refine lv_iload X.1 X.2.1 dX10_ticks_135 (lv_at hl 4 rfl) ?_
                refine k_cVv X hG (c_X10_looks l D cy τ _ hN hR (ty_Wf.sub (S' := [6010]) hF (by decide)) h900 x901 (by omega) x8 (by omega) hB (b := 0) (by omega) (Or.inl rfl)) h900 rfl yv_X10_looks q_1071 ⟨rfl, rfl⟩ ⟨Nat.le_of_ble_eq_true rfl, Nat.le_of_ble_eq_true rfl⟩ rfl hl.1 rfl (Nat.le_of_ble_eq_true rfl) ⟨Nat.zero_le _, Nat.zero_le _⟩ dX10_ticks_137 (fun u23 H locs hG po21 => ?_)
                rw [po21] at hG
                refine n_inc X (fun z25 => [(4, .int z25), (0, .ref a900), (1, .int x901), (2, .int x902), (3, .int x2)]) dX10_ticks_140 hl (k := 4) rfl (by decide) (by decide) (by omega) (by omega) (by decide) (fun _ => rfl) (fun x24 ls t24 hl => ?_)
                have hl : lv_has ls 5 [(4, .int x24), (0, .ref a900), (1, .int x901), (2, .int x902), (3, .int x2)] := hl
                refine lv_goto (tgt := 120) X.1 X.2.1 dX10_ticks_143 (by decide) ?_
                exact ih120 _ _ _ x24 (by omega) (by omega) hG (lv_sub hl [1, 2, 3, 4, 0] rfl)
          exact J120 _ _ _ _ x7 (by omega) (Nat.lt_succ_self _) hG (lv_sub hl [1, 2, 3, 4, 0] rfl)
        refine n_if_le (tgt := 117) X dX10_ticks_15 (by decide) (fun c26 => ?_) (fun c26 => ?_)
        · exact J117 _ _ _  hG (lv_sub hl [0, 1, 2, 3] rfl)
        · refine n_ic X dX10_ticks_18 (by decide) (by decide) (fun x27 t27 => ?_)
          refine lv_istore (lv' := [(4, .int x27), (0, .ref a900), (1, .int x901), (2, .int x902), (3, .int x2)]) X.1 X.2.1 dX10_ticks_19 hl (by decide) rfl (fun ls hl => ?_)
          have J21 : ∀ (n : Nat) (H : Heap) (locs : List Loc) (ls : Array Slot) (x28 : Int32), (1 ≤ x28.toInt ∧ x28.toInt ≤ 72) → (72 - x28.toInt).toNat < n → TG D cy τ (cn (SDM M v (B + x2.toInt.toNat)) τ) (ty_d τ) s.heap H locs → lv_has ls 5 [(0, .ref a900), (1, .int x901), (2, .int x902), (3, .int x2), (4, .int x28)] → W p l e (rL 4) s m args below meth c H locs 0 0 Q (F0 m 21 ls []) := by
            intro n
            induction n with
            | zero => intro H locs ls x28 bx28 hm21 hG hl; exact absurd hm21 (Nat.not_lt_zero _)
            | succ n ih21 =>
              intro H locs ls x28 bx28 hm21 hG hl
              refine lv_iload X.1 X.2.1 dX10_ticks_21 (lv_at hl 4 rfl) ?_
              refine lv_aload_n X.1 X.2.1 dX10_ticks_23 rfl (lv_at hl 0 rfl) ?_
              refine gf_10_0 X hG h900 q_876 dX10_ticks_24 (hN _ _ _ h900) (fun a29 h29 r29 => ?_)
              refine n_sp X dX10_ticks_27 (by decide) (by decide) (fun x30 t30 => ?_)
              refine tg_iald X hG h29 rfl (cI_in (n := 4261) (by omega)) dX10_ticks_30 (fun x31 r31 => ?_)
              have b31 := rdR (hR _ _ _ _ h29 r31) (n := 258) (by omega) mN
              refine n_icmp_ge (tgt := 47) X dX10_ticks_31 (by decide) (fun c32 => ?_) (fun c32 => ?_)
              · refine lv_aload_n X.1 X.2.1 dX10_ticks_47 rfl (lv_at hl 0 rfl) ?_
                refine lv_iload_n X.1 X.2.1 dX10_ticks_48 rfl (lv_at hl 1 rfl) ?_
                refine k_cVv X hG (c_X10_ends l D cy τ _ hN hR (ty_Wf.sub (S' := [6031, 6032]) hF (by decide)) h900 x901 (by omega) hB (b := 0) (by omega) (Or.inl rfl) hL (by omega)) h900 rfl yv_X10_ends q_1058 ⟨rfl, rfl⟩ ⟨Nat.le_of_ble_eq_true rfl, Nat.le_of_ble_eq_true rfl⟩ rfl hl.1 rfl (Nat.le_of_ble_eq_true rfl) ⟨Nat.zero_le _, Nat.zero_le _⟩ dX10_ticks_49 (fun u35 H locs hG po33 => ?_)
                rw [po33] at hG
                refine n_ic X dX10_ticks_52 (by decide) (by decide) (fun x36 t36 => ?_)
                refine lv_istore (lv' := [(4, .int x36), (0, .ref a900), (1, .int x901), (2, .int x902), (3, .int x2)]) X.1 X.2.1 dX10_ticks_53 hl (by decide) rfl (fun ls hl => ?_)
                have J55 : ∀ (n : Nat) (H : Heap) (locs : List Loc) (ls : Array Slot) (x37 : Int32), (0 ≤ x37.toInt ∧ x37.toInt ≤ 72) → (72 - x37.toInt).toNat < n → TG D cy τ (cn (SDM M v (B + x2.toInt.toNat)) τ) (ty_d τ) s.heap H locs → lv_has ls 5 [(0, .ref a900), (1, .int x901), (2, .int x902), (3, .int x2), (4, .int x37)] → W p l e (rL 4) s m args below meth c H locs 0 0 Q (F0 m 55 ls []) := by
                  intro n
                  induction n with
                  | zero => intro H locs ls x37 bx37 hm55 hG hl; exact absurd hm55 (Nat.not_lt_zero _)
                  | succ n ih55 =>
                    intro H locs ls x37 bx37 hm55 hG hl
                    refine lv_iload X.1 X.2.1 dX10_ticks_55 (lv_at hl 4 rfl) ?_
                    refine lv_aload_n X.1 X.2.1 dX10_ticks_57 rfl (lv_at hl 0 rfl) ?_
                    refine gf_10_0 X hG h900 q_876 dX10_ticks_58 (hN _ _ _ h900) (fun a38 h38 r38 => ?_)
                    refine n_sp X dX10_ticks_61 (by decide) (by decide) (fun x39 t39 => ?_)
                    refine tg_iald X hG h38 rfl (cI_in (n := 4261) (by omega)) dX10_ticks_64 (fun x40 r40 => ?_)
                    have b40 := rdR (hR _ _ _ _ h38 r40) (n := 258) (by omega) mN
                    refine n_icmp_ge (tgt := 117) X dX10_ticks_65 (by decide) (fun c41 => ?_) (fun c41 => ?_)
                    · exact J117 _ _ _  hG (lv_sub hl [0, 1, 2, 3] rfl)
                    · refine lv_aload_n X.1 X.2.1 dX10_ticks_68 rfl (lv_at hl 0 rfl) ?_
                      refine gf_10_0 X hG h900 q_876 dX10_ticks_69 (hN _ _ _ h900) (fun a42 h42 r42 => ?_)
                      refine lv_iload_n X.1 X.2.1 dX10_ticks_72 rfl (lv_at hl 1 rfl) ?_
                      refine n_ic X dX10_ticks_73 (by decide) (by decide) (fun x43 t43 => ?_)
                      refine n_add X dX10_ticks_74 (by omega) (by omega) (fun x44 t44 => ?_)
                      refine lv_iload X.1 X.2.1 dX10_ticks_75 (lv_at hl 4 rfl) ?_
                      refine n_add X dX10_ticks_77 (by omega) (by omega) (fun x45 t45 => ?_)
                      refine lv_aload_n X.1 X.2.1 dX10_ticks_78 rfl (lv_at hl 0 rfl) ?_
                      refine gf_10_21 X hG h900 q_897 dX10_ticks_79 (hN _ _ _ h900) (fun a46 h46 r46 => ?_)
                      refine lv_iload X.1 X.2.1 dX10_ticks_82 (lv_at hl 4 rfl) ?_
                      refine tg_iald X hG h46 rfl (cI_in (n := 72) (by omega)) dX10_ticks_84 (fun x47 r47 => ?_)
                      refine k_cSi X hG (c_X10_bound l D cy τ _ hN hR (ty_Wf.sub (S' := []) hF (by decide)) x47 ) ys_X10_bound q_1066 ⟨rfl, rfl⟩ ⟨Nat.le_of_ble_eq_true rfl, Nat.le_of_ble_eq_true rfl⟩ rfl hl.1 rfl (Nat.le_of_ble_eq_true rfl) ⟨Nat.zero_le _, Nat.zero_le _⟩ dX10_ticks_85 (fun x49 u50 H locs hG po48 => ?_)
                      obtain ⟨eu50, po48⟩ := po48
                      rw [eu50] at hG
                      have g49 := cI_rng x49
                      refine tg_iasf X hG h42 rfl (cI_in (n := 4261) (by omega)) dX10_ticks_88 (hF _ _ _ _ h42 (ty_in (n := 6010) rfl) (ty_rno (wFr hB (by omega)))) (fun H locs hG => ?_)
                      refine lv_aload_n X.1 X.2.1 dX10_ticks_89 rfl (lv_at hl 0 rfl) ?_
                      refine gf_10_0 X hG h900 q_876 dX10_ticks_90 (hN _ _ _ h900) (fun a51 h51 r51 => ?_)
                      refine lv_iload_n X.1 X.2.1 dX10_ticks_93 rfl (lv_at hl 1 rfl) ?_
                      refine n_bp X dX10_ticks_94 (by decide) (by decide) (fun x52 t52 => ?_)
                      refine n_add X dX10_ticks_96 (by omega) (by omega) (fun x53 t53 => ?_)
                      refine lv_iload X.1 X.2.1 dX10_ticks_97 (lv_at hl 4 rfl) ?_
                      refine n_add X dX10_ticks_99 (by omega) (by omega) (fun x54 t54 => ?_)
                      refine lv_aload_n X.1 X.2.1 dX10_ticks_100 rfl (lv_at hl 0 rfl) ?_
                      refine gf_10_22 X hG h900 q_898 dX10_ticks_101 (hN _ _ _ h900) (fun a55 h55 r55 => ?_)
                      refine lv_iload X.1 X.2.1 dX10_ticks_104 (lv_at hl 4 rfl) ?_
                      refine tg_iald X hG h55 rfl (cI_in (n := 72) (by omega)) dX10_ticks_106 (fun x56 r56 => ?_)
                      refine k_cSi X hG (c_X10_bound l D cy τ _ hN hR (ty_Wf.sub (S' := []) hF (by decide)) x56 ) ys_X10_bound q_1066 ⟨rfl, rfl⟩ ⟨Nat.le_of_ble_eq_true rfl, Nat.le_of_ble_eq_true rfl⟩ rfl hl.1 rfl (Nat.le_of_ble_eq_true rfl) ⟨Nat.zero_le _, Nat.zero_le _⟩ dX10_ticks_107 (fun x58 u59 H locs hG po57 => ?_)
                      obtain ⟨eu59, po57⟩ := po57
                      rw [eu59] at hG
                      have g58 := cI_rng x58
                      refine tg_iasf X hG h51 rfl (cI_in (n := 4261) (by omega)) dX10_ticks_110 (hF _ _ _ _ h51 (ty_in (n := 6010) rfl) (ty_rno (wFr hB (by omega)))) (fun H locs hG => ?_)
                      refine n_inc X (fun z61 => [(4, .int z61), (0, .ref a900), (1, .int x901), (2, .int x902), (3, .int x2)]) dX10_ticks_111 hl (k := 4) rfl (by decide) (by decide) (by omega) (by omega) (by decide) (fun _ => rfl) (fun x60 ls t60 hl => ?_)
                      have hl : lv_has ls 5 [(4, .int x60), (0, .ref a900), (1, .int x901), (2, .int x902), (3, .int x2)] := hl
                      refine lv_goto (tgt := 55) X.1 X.2.1 dX10_ticks_114 (by decide) ?_
                      exact ih55 _ _ _ x60 (by omega) (by omega) hG (lv_sub hl [1, 2, 3, 4, 0] rfl)
                exact J55 _ _ _ _ x36 (by omega) (Nat.lt_succ_self _) hG (lv_sub hl [1, 2, 3, 4, 0] rfl)
              · refine lv_aload_n X.1 X.2.1 dX10_ticks_34 rfl (lv_at hl 0 rfl) ?_
                refine lv_iload_n X.1 X.2.1 dX10_ticks_35 rfl (lv_at hl 1 rfl) ?_
                refine lv_iload X.1 X.2.1 dX10_ticks_36 (lv_at hl 4 rfl) ?_
                refine k_cVv X hG (c_X10_meets l D cy τ _ hN hR (ty_Wf.sub (S' := [6031, 6032]) hF (by decide)) h900 x901 (by omega) x28 (by omega) hB (b := 0) (by omega) (Or.inl rfl) hL (by omega)) h900 rfl yv_X10_meets q_1050 ⟨rfl, rfl⟩ ⟨Nat.le_of_ble_eq_true rfl, Nat.le_of_ble_eq_true rfl⟩ rfl hl.1 rfl (Nat.le_of_ble_eq_true rfl) ⟨Nat.zero_le _, Nat.zero_le _⟩ dX10_ticks_38 (fun u64 H locs hG po62 => ?_)
                rw [po62] at hG
                refine n_inc X (fun z66 => [(4, .int z66), (0, .ref a900), (1, .int x901), (2, .int x902), (3, .int x2)]) dX10_ticks_41 hl (k := 4) rfl (by decide) (by decide) (by omega) (by omega) (by decide) (fun _ => rfl) (fun x65 ls t65 hl => ?_)
                have hl : lv_has ls 5 [(4, .int x65), (0, .ref a900), (1, .int x901), (2, .int x902), (3, .int x2)] := hl
                refine lv_goto (tgt := 21) X.1 X.2.1 dX10_ticks_44 (by decide) ?_
                exact ih21 _ _ _ x65 (by omega) (by omega) hG (lv_sub hl [1, 2, 3, 4, 0] rfl)
          exact J21 _ _ _ _ x27 (by omega) (Nat.lt_succ_self _) hG (lv_sub hl [1, 2, 3, 4, 0] rfl)
  rw [show B = B + x1.toInt.toNat by omega] at hG
  exact J2 _ _ _ _ x1 (by omega) (Nat.lt_succ_self _) hG (lv_sub hl [1, 2, 3, 0] rfl)
set_option maxHeartbeats 4000000 in
set_option maxRecDepth 100000 in
theorem e_X10_drifts (l : Launch) (D : va_G) (cy : Nat → ClassId) (τ : ty_T) (hU : UQ τ) {M : md_T} {P N : Nat} (hB0 : HB M P N) (hL0 : LV M P 0) {v : Int32} (hv : 0 ≤ v.toInt) {B : Nat} (hBB : B ≤ 1000000) {a900 : Nat} (h900 : τ a900 = some (0, 10)) : KV l D cy yX10_drifts cX10_drifts 3 (rL 5) τ (cn (SDM M v B) τ) [.ref a900] (fun w => w = cn (SDM M (dr1 N v) (B + 1)) τ) := by
  refine k_metV "EdgeEchoesModel" rfl (by decide +kernel) (Nat.le_of_ble_eq_true rfl) ?_
  intro p e s m args below meth c Q ls X hG hl ret
  have hl : lv_has ls 3 [(0, .ref a900)] := hl
  have lg := lcg_0 (v := v)
  have lg2 := lcg_0 (v := lcg v)
  have hB := SD_HB (B := B) hB0 lg
  obtain ⟨⟨⟨n9, m9, n9p⟩, ⟨n13, m13, n13p⟩, ⟨n3, m3, n3p⟩, m8⟩, ⟨mN, mP, ⟨gG, mG, lG⟩, mL, mF⟩, mO, ⟨mK, mS, mQ, mZ⟩, hN72, hP8, hNP⟩ := id hB
  refine lv_aload_n X.1 X.2.1 dX10_drifts_0 rfl (lv_at hl 0 rfl) ?_
  refine n_bp X dX10_drifts_1 (by decide) (by decide) (fun x1 t1 => ?_)
  refine k_cVi X hG (e_X10_draw l D cy τ hU hB0 hv h900 x1 (by omega)) h900 rfl yv_X10_draw q_1191 ⟨rfl, rfl⟩ ⟨Nat.le_of_ble_eq_true rfl, Nat.le_of_ble_eq_true rfl⟩ rfl hl.1 rfl (Nat.le_of_ble_eq_true rfl) ⟨Nat.zero_le _, Nat.zero_le _⟩ dX10_drifts_3 (fun x3 u4 H locs hG po2 => ?_)
  obtain ⟨eu4, po2⟩ := po2
  have po2 : x3.toInt = (lcg v).toInt / 65536 % 8 := by rw [po2, t1]
  rw [eu4] at hG
  refine lv_istore_n (lv' := [(1, .int x3), (0, .ref a900)]) X.1 X.2.1 dX10_drifts_6 rfl hl (by decide) rfl (fun ls hl => ?_)
  refine lv_aload_n X.1 X.2.1 dX10_drifts_7 rfl (lv_at hl 1 rfl) ?_
  refine gf_10_0 X hG h900 q_876 dX10_drifts_8 (cn_N _ _ _ h900) (fun a5 h5 r5 => ?_)
  refine n_sp X dX10_drifts_11 (by decide) (by decide) (fun x6 t6 => ?_)
  refine lv_iload_n X.1 X.2.1 dX10_drifts_14 rfl (lv_at hl 0 rfl) ?_
  refine n_ic X dX10_drifts_15 (by decide) (by decide) (fun x7 t7 => ?_)
  have J40 : ∀ (H : Heap) (locs : List Loc) (ls : Array Slot) (x8 : Int32), TG D cy τ (cn (SDM M (lcg v) B) τ) (ty_d τ) s.heap H locs → lv_has ls 3 [(0, .ref a900), (1, .int x3)] → W p l e (rL 5) s m args below meth c H locs 0 0 Q (F0 m 40 ls [.int x8, .int x6, .ref a5]) := by
    intro H locs ls x8 hG hl
    have gx8 := cI_rng x8
    refine tg_iasf X hG h5 rfl (cI_in (n := 4261) (by omega)) dX10_drifts_40 (cn_F (S := [6010]) _ _ _ _ h5 (ty_in (n := 6010) rfl) (ty_rno (wFr hB (by omega)))) (fun H locs hG => ?_)
    refine lv_iload_n X.1 X.2.1 dX10_drifts_41 rfl (lv_at hl 1 rfl) ?_
    refine n_ic X dX10_drifts_42 (by decide) (by decide) (fun x9 t9 => ?_)
    have dg : 0 ≤ (dr1 N v).toInt := by unfold dr1; split; exact lg2; exact lg
    have J103 : ∀ (H : Heap) (locs : List Loc) (ls : Array Slot), TG D cy τ (cn (SDM M (dr1 N v) B) τ) (ty_d τ) s.heap H locs → lv_has ls 3 [(0, .ref a900), (1, .int x3)] → W p l e (rL 5) s m args below meth c H locs 0 0 Q (F0 m 103 ls []) := by
      intro H locs ls hG hl
      refine lv_aload_n X.1 X.2.1 dX10_drifts_103 rfl (lv_at hl 0 rfl) ?_
      refine n_ic X dX10_drifts_104 (by decide) (by decide) (fun x10 t10 => ?_)
      refine n_ic X dX10_drifts_105 (by decide) (by decide) (fun x11 t11 => ?_)
      refine k_cVv X hG (e_X10_ticks0 l D cy τ hU hB0 hL0 dg hBB h900 x10 (by omega) x11 (by omega)) h900 rfl yv_X10_ticks q_1046 ⟨rfl, rfl⟩ ⟨Nat.le_of_ble_eq_true rfl, Nat.le_of_ble_eq_true rfl⟩ rfl hl.1 rfl (Nat.le_of_ble_eq_true rfl) ⟨Nat.zero_le _, Nat.zero_le _⟩ dX10_drifts_106 (fun u14 H locs hG po12 => ?_)
      rw [po12, show x11.toInt.toNat = 1 by omega] at hG
      exact ret _ _ _ _ _ hG rfl dX10_drifts_109
    refine n_icmp_ne (tgt := 103) X dX10_drifts_43 (by decide) (fun c15 => ?_) (fun c15 => ?_)
    · have ed : dr1 N v = lcg v := by unfold dr1; rw [if_neg (fun z => c15 (by omega))]
      rw [← ed] at hG
      exact J103 _ _ _  hG (lv_sub hl [0, 1] rfl)
    · refine lv_aload_n X.1 X.2.1 dX10_drifts_46 rfl (lv_at hl 0 rfl) ?_
      refine gf_10_0 X hG h900 q_876 dX10_drifts_47 (cn_N _ _ _ h900) (fun a16 h16 r16 => ?_)
      refine n_sp X dX10_drifts_50 (by decide) (by decide) (fun x17 t17 => ?_)
      refine tg_iald X hG h16 rfl (cI_in (n := 4261) (by omega)) dX10_drifts_53 (fun x18 r18 => ?_)
      have b18 := rdR (cn_R _ _ _ _ h16 r18) (n := 258) (by omega) mN
      refine n_ic X dX10_drifts_54 (by decide) (by decide) (fun x19 t19 => ?_)
      refine n_icmp_le (tgt := 103) X dX10_drifts_55 (by decide) (fun c20 => ?_) (fun c20 => ?_)
      · have ed : dr1 N v = lcg v := by unfold dr1; rw [if_neg (fun z => by omega)]
        rw [← ed] at hG
        exact J103 _ _ _  hG (lv_sub hl [0, 1] rfl)
      · have ed : dr1 N v = lcg (lcg v) := by unfold dr1; rw [if_pos ⟨by omega, by omega⟩]
        have hB2 := SD_HB (B := B) hB0 lg2
        refine n_ic X dX10_drifts_58 (by decide) (by decide) (fun x21 t21 => ?_)
        refine lv_aload_n X.1 X.2.1 dX10_drifts_59 rfl (lv_at hl 0 rfl) ?_
        refine lv_aload_n X.1 X.2.1 dX10_drifts_60 rfl (lv_at hl 0 rfl) ?_
        refine gf_10_0 X hG h900 q_876 dX10_drifts_61 (cn_N _ _ _ h900) (fun a22 h22 r22 => ?_)
        refine n_sp X dX10_drifts_64 (by decide) (by decide) (fun x23 t23 => ?_)
        refine tg_iald X hG h22 rfl (cI_in (n := 4261) (by omega)) dX10_drifts_67 (fun x24 r24 => ?_)
        have b24 := rdR (cn_R _ _ _ _ h22 r24) (n := 258) (by omega) mN
        refine n_ic X dX10_drifts_68 (by decide) (by decide) (fun x25 t25 => ?_)
        refine n_sub X dX10_drifts_69 (by omega) (by omega) (fun x26 t26 => ?_)
        refine k_cVi X hG (e_X10_draw l D cy τ hU hB0 lg h900 x26 (by omega)) h900 rfl yv_X10_draw q_1191 ⟨rfl, rfl⟩ ⟨Nat.le_of_ble_eq_true rfl, Nat.le_of_ble_eq_true rfl⟩ rfl hl.1 rfl (Nat.le_of_ble_eq_true rfl) ⟨Nat.zero_le _, Nat.zero_le _⟩ dX10_drifts_70 (fun x28 u29 H locs hG po27 => ?_)
        obtain ⟨eu29, po27⟩ := po27
        have p27a := Int.emod_nonneg ((lcg (lcg v)).toInt / 65536) (show x26.toInt ≠ 0 by omega)
        have p27b := Int.emod_lt_of_pos ((lcg (lcg v)).toInt / 65536) (show 0 < x26.toInt by omega)
        rw [← po27] at p27a p27b
        clear po27
        rw [eu29] at hG
        refine n_add X dX10_drifts_73 (by omega) (by omega) (fun x30 t30 => ?_)
        refine lv_istore_n (lv' := [(2, .int x30), (0, .ref a900), (1, .int x3)]) X.1 X.2.1 dX10_drifts_74 rfl hl (by decide) rfl (fun ls hl => ?_)
        refine lv_aload_n X.1 X.2.1 dX10_drifts_75 rfl (lv_at hl 1 rfl) ?_
        refine gf_10_0 X hG h900 q_876 dX10_drifts_76 (cn_N _ _ _ h900) (fun a31 h31 r31 => ?_)
        refine n_sp X dX10_drifts_79 (by decide) (by decide) (fun x32 t32 => ?_)
        refine lv_iload_n X.1 X.2.1 dX10_drifts_82 rfl (lv_at hl 0 rfl) ?_
        refine n_add X dX10_drifts_83 (by omega) (by omega) (fun x33 t33 => ?_)
        refine lv_aload_n X.1 X.2.1 dX10_drifts_84 rfl (lv_at hl 1 rfl) ?_
        refine gf_10_0 X hG h900 q_876 dX10_drifts_85 (cn_N _ _ _ h900) (fun a34 h34 r34 => ?_)
        refine n_sp X dX10_drifts_88 (by decide) (by decide) (fun x35 t35 => ?_)
        refine lv_iload_n X.1 X.2.1 dX10_drifts_91 rfl (lv_at hl 0 rfl) ?_
        refine n_add X dX10_drifts_92 (by omega) (by omega) (fun x36 t36 => ?_)
        refine tg_iald X hG h34 rfl (cI_in (n := 4261) (by omega)) dX10_drifts_93 (fun x37 r37 => ?_)
        have J102 : ∀ (H : Heap) (locs : List Loc) (ls : Array Slot) (x38 : Int32), (0 ≤ x38.toInt ∧ x38.toInt ≤ 1) → TG D cy τ (cn (SDM M (lcg (lcg v)) B) τ) (ty_d τ) s.heap H locs → lv_has ls 3 [(0, .ref a900), (1, .int x3), (2, .int x30)] → W p l e (rL 5) s m args below meth c H locs 0 0 Q (F0 m 102 ls [.int x38, .int x33, .ref a31]) := by
          intro H locs ls x38 bx38 hG hl
          refine tg_iasf X hG h31 rfl (cI_in (n := 4261) (by omega)) dX10_drifts_102 (cn_F (S := [6010]) _ _ _ _ h31 (ty_in (n := 6010) rfl) (ty_rno (wFr hB2 (by omega)))) (fun H locs hG => ?_)
          rw [← ed] at hG
          exact J103 _ _ _  hG (lv_sub hl [0, 1] rfl)
        refine n_if_ne (tgt := 101) X dX10_drifts_94 (by decide) (fun c39 => ?_) (fun c39 => ?_)
        · refine n_ic X dX10_drifts_101 (by decide) (by decide) (fun x40 t40 => ?_)
          exact J102 _ _ _ x40 (by omega) hG (lv_sub hl [1, 2, 0] rfl)
        · refine n_ic X dX10_drifts_97 (by decide) (by decide) (fun x41 t41 => ?_)
          refine lv_goto (tgt := 102) X.1 X.2.1 dX10_drifts_98 (by decide) ?_
          exact J102 _ _ _ x41 (by omega) hG (lv_sub hl [1, 2, 0] rfl)
  refine n_icmp_ge (tgt := 23) X dX10_drifts_16 (by decide) (fun c42 => ?_) (fun c42 => ?_)
  · refine lv_iload_n X.1 X.2.1 dX10_drifts_23 rfl (lv_at hl 0 rfl) ?_
    refine n_ic X dX10_drifts_24 (by decide) (by decide) (fun x43 t43 => ?_)
    refine n_icmp_ne (tgt := 32) X dX10_drifts_25 (by decide) (fun c44 => ?_) (fun c44 => ?_)
    · refine lv_aload_n X.1 X.2.1 dX10_drifts_32 rfl (lv_at hl 1 rfl) ?_
      refine gf_10_0 X hG h900 q_876 dX10_drifts_33 (cn_N _ _ _ h900) (fun a45 h45 r45 => ?_)
      refine n_sp X dX10_drifts_36 (by decide) (by decide) (fun x46 t46 => ?_)
      refine tg_iald X hG h45 rfl (cI_in (n := 4261) (by omega)) dX10_drifts_39 (fun x47 r47 => ?_)
      exact J40 _ _ _ x47 hG (lv_sub hl [1, 0] rfl)
    · refine n_ic X dX10_drifts_28 (by decide) (by decide) (fun x48 t48 => ?_)
      refine lv_goto (tgt := 40) X.1 X.2.1 dX10_drifts_29 (by decide) ?_
      exact J40 _ _ _ x48 hG (lv_sub hl [1, 0] rfl)
  · refine n_ic X dX10_drifts_19 (by decide) (by decide) (fun x49 t49 => ?_)
    refine lv_goto (tgt := 40) X.1 X.2.1 dX10_drifts_20 (by decide) ?_
    exact J40 _ _ _ x49 hG (lv_sub hl [1, 0] rfl)
set_option maxHeartbeats 4000000 in
set_option maxRecDepth 100000 in
theorem e_X10_tick (l : Launch) (D : va_G) (cy : Nat → ClassId) (τ : ty_T) (hU : UQ τ) {K : KT} {P N u : Nat} {k0 k1 : Bool} (ok : OKG K P N u) {a900 : Nat} (h900 : τ a900 = some (0, 10)) (x901 : Int32) (hs0 : 0 ≤ (K.2.2.2.2 1002).toInt) (hbb : bK K ≤ 80000) : KI l D cy yX10_tick cX10_tick 2 .int (rL 5) τ (cn (MM K P N u k0 k1) τ) [.ref a900, .int x901] (fun r w => GS (KU K 1005 (nI (bK K + 50))) τ P N k0 k1 w ∧ True) := by
  refine k_metI "EdgeEchoesModel" rfl (by decide +kernel) (Nat.le_of_ble_eq_true rfl) (fun _ _ _ => rfl) ?_
  intro p e s m args below meth c Q ls X hG hl ret
  have hl : lv_has ls 2 [(0, .ref a900), (1, .int x901)] := hl
  obtain ⟨⟨⟨n9, m9, n9p⟩, ⟨n13, m13, n13p⟩, ⟨n3, m3, n3p⟩, m8⟩, ⟨mN, mP, ⟨gG, mG, lG⟩, mL, mF⟩, mO, ⟨mK, mS, mQ, mZ⟩, hN72, hP8, hNP⟩ := id (MM_HB (k0 := k0) (k1 := k1) ok)
  have hu12 := ok.2.2.2
  have hk7 := ok.1.2.1
  have hcl : (nI (bK K + 50)).toNatClampNeg = bK K + 50 := nI_clamp (by omega)
  have g901 := cI_rng x901
  refine lv_iload_n X.1 X.2.1 dX10_tick_0 rfl (lv_at hl 1 rfl) ?_
  refine n_i2l X dX10_tick_1 (fun w1 t1 => ?_)
  refine n_lc X dX10_tick_2 (fun w2 t2 => ?_)
  have t2 : w2.toInt = 1 := t2
  refine n_ldl X q_1131 (n := 50) (by decide +kernel) dX10_tick_3 (fun w3 e3 t3 => ?_)
  refine k_cSi X hG (c_X10_in l D cy τ _ cn_N cn_R (cn_F (S := [])) w1 w2 w3 ) ys_X10_in q_957 ⟨rfl, rfl⟩ ⟨Nat.le_of_ble_eq_true rfl, Nat.le_of_ble_eq_true rfl⟩ rfl hl.1 rfl (Nat.le_of_ble_eq_true rfl) ⟨Nat.zero_le _, Nat.zero_le _⟩ dX10_tick_6 (fun x5 u6 H locs hG po4 => ?_)
  obtain ⟨eu6, po4⟩ := po4
  rw [eu6] at hG
  refine n_if_ne (tgt := 15) X dX10_tick_9 (by decide) (fun c7 => ?_) (fun c7 => ?_)
  · refine lv_aload_n X.1 X.2.1 dX10_tick_15 rfl (lv_at hl 0 rfl) ?_
    refine k_cVi X hG (c_X10_isLine l D cy τ _ cn_N cn_R (cn_F (S := [])) h900 (MM_HB (k0 := k0) (k1 := k1) ok)) h900 rfl yv_X10_isLine q_1028 ⟨rfl, rfl⟩ ⟨Nat.le_of_ble_eq_true rfl, Nat.le_of_ble_eq_true rfl⟩ rfl hl.1 rfl (Nat.le_of_ble_eq_true rfl) ⟨Nat.zero_le _, Nat.zero_le _⟩ dX10_tick_16 (fun x9 u10 H locs hG po8 => ?_)
    obtain ⟨eu10, po8⟩ := po8
    rw [eu10] at hG
    refine n_if_ne (tgt := 25) X dX10_tick_19 (by decide) (fun c11 => ?_) (fun c11 => ?_)
    · refine lv_aload_n X.1 X.2.1 dX10_tick_25 rfl (lv_at hl 0 rfl) ?_
      refine gf_10_0 X hG h900 q_876 dX10_tick_26 (cn_N _ _ _ h900) (fun a12 h12 r12 => ?_)
      refine n_sp X dX10_tick_29 (by decide) (by decide) (fun x13 t13 => ?_)
      refine tg_iald X hG h12 rfl (cI_in (n := 4261) (by omega)) dX10_tick_32 (fun x14 r14 => ?_)
      refine n_ldc X q_1133 (n := 90000) (by decide +kernel) dX10_tick_33 (fun x15 t15 => ?_)
      refine n_icmp_le (tgt := 41) X dX10_tick_35 (by decide) (fun c16 => ?_) (fun c16 => ?_)
      · refine lv_aload_n X.1 X.2.1 dX10_tick_41 rfl (lv_at hl 0 rfl) ?_
        refine k_cVv X hG (c_X10_keepPast l D cy τ hU ok h900 ) h900 rfl yv_X10_keepPast q_1134 ⟨rfl, rfl⟩ ⟨Nat.le_of_ble_eq_true rfl, Nat.le_of_ble_eq_true rfl⟩ rfl hl.1 rfl (Nat.le_of_ble_eq_true rfl) ⟨Nat.zero_le _, Nat.zero_le _⟩ dX10_tick_42 (fun u19 H locs hG po17 => ?_)
        rw [po17] at hG
        obtain ⟨⟨⟨n9, m9, n9p⟩, ⟨n13, m13, n13p⟩, ⟨n3, m3, n3p⟩, m8⟩, ⟨mN, mP, ⟨gG, mG, lG⟩, mL, mF⟩, mO, ⟨mK, mS, mQ, mZ⟩, hN72, hP8, hNP⟩ := id (MM_HB (k0 := k0) (k1 := k1) (OKG.up ok))
        refine lv_aload_n X.1 X.2.1 dX10_tick_45 rfl (lv_at hl 0 rfl) ?_
        refine n_ic X dX10_tick_46 (by decide) (by decide) (fun x20 t20 => ?_)
        refine lv_iload_n X.1 X.2.1 dX10_tick_47 rfl (lv_at hl 1 rfl) ?_
        have hG := TG.sub hG (SD_in (u := upN u) (k0 := k0) (k1 := k1) hs0)
        refine k_cVv X hG (e_X10_ticks0 l D cy τ hU (MM_HB (k0 := k0) (k1 := k1) (OKG.up ok)) (MM_LV (k0 := k0) (k1 := k1) (OKG.up ok)) hs0 (by omega) h900 x20 (by omega) x901 (by omega)) h900 rfl yv_X10_ticks q_1046 ⟨rfl, rfl⟩ ⟨Nat.le_of_ble_eq_true rfl, Nat.le_of_ble_eq_true rfl⟩ rfl hl.1 rfl (Nat.le_of_ble_eq_true rfl) ⟨Nat.zero_le _, Nat.zero_le _⟩ dX10_tick_48 (fun u23 H locs hG po21 => ?_)
        rw [po21] at hG
        refine lv_aload_n X.1 X.2.1 dX10_tick_51 rfl (lv_at hl 0 rfl) ?_
        refine gf_10_0 X hG h900 q_876 dX10_tick_52 (cn_N _ _ _ h900) (fun a24 h24 r24 => ?_)
        refine n_sp X dX10_tick_55 (by decide) (by decide) (fun x25 t25 => ?_)
        refine tg_iald X hG h24 rfl (cI_in (n := 4261) (by omega)) dX10_tick_58 (fun x26 r26 => ?_)
        have hG := TG.le hG (SD_out0 (v := nI (bK K + 50)) hk7 hs0 (by omega) (by omega))
        exact ret _ _ _ _ x26 _ hG ⟨⟨_, KU_ok (OKG.up ok), rfl⟩, trivial⟩ dX10_tick_59
      · refine n_ldc X q_961 (n := -1000000004) (by decide +kernel) dX10_tick_38 (fun x27 t27 => ?_)
        have hG := TG.le hG (MM_B (v := nI (bK K + 50)) hk7 (by omega))
        exact ret _ _ _ _ x27 _ hG ⟨⟨_, KU_ok ok, rfl⟩, trivial⟩ dX10_tick_40
    · refine n_ldc X q_1132 (n := -1000000003) (by decide +kernel) dX10_tick_22 (fun x28 t28 => ?_)
      have hG := TG.le hG (MM_B (v := nI (bK K + 50)) hk7 (by omega))
      exact ret _ _ _ _ x28 _ hG ⟨⟨_, KU_ok ok, rfl⟩, trivial⟩ dX10_tick_24
  · refine n_ldc X q_960 (n := -1000000002) (by decide +kernel) dX10_tick_12 (fun x29 t29 => ?_)
    have hG := TG.le hG (MM_B (v := nI (bK K + 50)) hk7 (by omega))
    exact ret _ _ _ _ x29 _ hG ⟨⟨_, KU_ok ok, rfl⟩, trivial⟩ dX10_tick_14
theorem dr1_0 {N : Nat} {v : Int32} : 0 ≤ (dr1 N v).toInt := by unfold dr1; split; exact lcg_0; exact lcg_0
theorem drN_0 {N : Nat} {v : Int32} (hv : 0 ≤ v.toInt) {n : Nat} : 0 ≤ (drN N n v).toInt := by
  cases n with
  | zero => exact hv
  | succ n => exact dr1_0
set_option maxHeartbeats 4000000 in
set_option maxRecDepth 100000 in
theorem e_X10_drift (l : Launch) (D : va_G) (cy : Nat → ClassId) (τ : ty_T) (hU : UQ τ) {K : KT} {P N u : Nat} {k0 k1 : Bool} (ok : OKG K P N u) {a900 : Nat} (h900 : τ a900 = some (0, 10)) (x901 : Int32) (hs0 : 0 ≤ (K.2.2.2.2 1002).toInt) (hbb : bK K ≤ 80000) {bb : Bool} (htk : tK K = bN bb) : KI l D cy yX10_drift cX10_drift 3 .int (rL 6) τ (cn (MM K P N u k0 k1) τ) [.ref a900, .int x901] (fun r w => (okN bb x901 → GS (KU (KU K 1005 (nI (bK K + 50))) 1002 (drN N x901.toInt.toNat (K.2.2.2.2 1002))) τ P N k0 k1 w) ∧ (¬ okN bb x901 → GS (KU K 1005 (nI (bK K + 50))) τ P N k0 k1 w)) := by
  refine k_metI "EdgeEchoesModel" rfl (by decide +kernel) (Nat.le_of_ble_eq_true rfl) (fun _ _ _ => rfl) ?_
  intro p e s m args below meth c Q ls X hG hl ret
  have hl : lv_has ls 3 [(0, .ref a900), (1, .int x901)] := hl
  obtain ⟨⟨⟨n9, m9, n9p⟩, ⟨n13, m13, n13p⟩, ⟨n3, m3, n3p⟩, m8⟩, ⟨mN, mP, ⟨gG, mG, lG⟩, mL, mF⟩, mO, ⟨mK, mS, mQ, mZ⟩, hN72, hP8, hNP⟩ := id (MM_HB (k0 := k0) (k1 := k1) ok)
  have hu12 := ok.2.2.2
  have hk7 := ok.1.2.1
  have hcl : (nI (bK K + 50)).toNatClampNeg = bK K + 50 := nI_clamp (by omega)
  have hb1 : bN bb = 1 ↔ bb = true := by cases bb <;> decide
  have g901 := cI_rng x901
  refine lv_iload_n X.1 X.2.1 dX10_drift_0 rfl (lv_at hl 1 rfl) ?_
  refine n_i2l X dX10_drift_1 (fun w1 t1 => ?_)
  refine n_lc X dX10_drift_2 (fun w2 t2 => ?_)
  have t2 : w2.toInt = 1 := t2
  refine n_ldl X q_1131 (n := 50) (by decide +kernel) dX10_drift_3 (fun w3 e3 t3 => ?_)
  refine k_cSi X hG (c_X10_in l D cy τ _ cn_N cn_R (cn_F (S := [])) w1 w2 w3 ) ys_X10_in q_957 ⟨rfl, rfl⟩ ⟨Nat.le_of_ble_eq_true rfl, Nat.le_of_ble_eq_true rfl⟩ rfl hl.1 rfl (Nat.le_of_ble_eq_true rfl) ⟨Nat.zero_le _, Nat.zero_le _⟩ dX10_drift_6 (fun x5 u6 H locs hG po4 => ?_)
  obtain ⟨eu6, po4⟩ := po4
  rw [eu6] at hG
  refine n_if_ne (tgt := 15) X dX10_drift_9 (by decide) (fun c7 => ?_) (fun c7 => ?_)
  · refine lv_aload_n X.1 X.2.1 dX10_drift_15 rfl (lv_at hl 0 rfl) ?_
    refine k_cVi X hG (e_X10_isLine l D cy τ _ cn_N cn_R (cn_F (S := [])) h900 (MM_HB (k0 := k0) (k1 := k1) ok) (tt := tK K) rfl) h900 rfl yv_X10_isLine q_1028 ⟨rfl, rfl⟩ ⟨Nat.le_of_ble_eq_true rfl, Nat.le_of_ble_eq_true rfl⟩ rfl hl.1 rfl (Nat.le_of_ble_eq_true rfl) ⟨Nat.zero_le _, Nat.zero_le _⟩ dX10_drift_16 (fun x9 u10 H locs hG po8 => ?_)
    obtain ⟨eu10, po8⟩ := po8
    rw [eu10] at hG
    refine n_if_ne (tgt := 25) X dX10_drift_19 (by decide) (fun c11 => ?_) (fun c11 => ?_)
    · refine lv_aload_n X.1 X.2.1 dX10_drift_25 rfl (lv_at hl 0 rfl) ?_
      refine gf_10_0 X hG h900 q_876 dX10_drift_26 (cn_N _ _ _ h900) (fun a12 h12 r12 => ?_)
      refine n_sp X dX10_drift_29 (by decide) (by decide) (fun x13 t13 => ?_)
      refine tg_iald X hG h12 rfl (cI_in (n := 4261) (by omega)) dX10_drift_32 (fun x14 r14 => ?_)
      have b14 := rdR (cn_R _ _ _ _ h12 r14) (n := 235) (by omega) MM_235
      refine n_ldc X q_1133 (n := 90000) (by decide +kernel) dX10_drift_33 (fun x15 t15 => ?_)
      refine n_icmp_le (tgt := 41) X dX10_drift_35 (by decide) (fun c16 => ?_) (fun c16 => ?_)
      · refine lv_aload_n X.1 X.2.1 dX10_drift_41 rfl (lv_at hl 0 rfl) ?_
        refine k_cVv X hG (c_X10_keepPast l D cy τ hU ok h900 ) h900 rfl yv_X10_keepPast q_1134 ⟨rfl, rfl⟩ ⟨Nat.le_of_ble_eq_true rfl, Nat.le_of_ble_eq_true rfl⟩ rfl hl.1 rfl (Nat.le_of_ble_eq_true rfl) ⟨Nat.zero_le _, Nat.zero_le _⟩ dX10_drift_42 (fun u19 H locs hG po17 => ?_)
        rw [po17] at hG
        obtain ⟨⟨⟨n9, m9, n9p⟩, ⟨n13, m13, n13p⟩, ⟨n3, m3, n3p⟩, m8⟩, ⟨mN, mP, ⟨gG, mG, lG⟩, mL, mF⟩, mO, ⟨mK, mS, mQ, mZ⟩, hN72, hP8, hNP⟩ := id (MM_HB (k0 := k0) (k1 := k1) (OKG.up ok))
        refine n_ic X dX10_drift_45 (by decide) (by decide) (fun x20 t20 => ?_)
        refine lv_istore_n (lv' := [(2, .int x20), (0, .ref a900), (1, .int x901)]) X.1 X.2.1 dX10_drift_46 rfl hl (by decide) rfl (fun ls hl => ?_)
        have okq : okN bb x901 := ⟨by omega, hb1.mp (by omega)⟩
        have J47 : ∀ (n : Nat) (H : Heap) (locs : List Loc) (ls : Array Slot) (x21 : Int32), (0 ≤ x21.toInt ∧ x21.toInt ≤ x901.toInt) → (50 - x21.toInt).toNat < n → TG D cy τ (cn (SDM (MM K P N (upN u) k0 k1) (drN N x21.toInt.toNat (K.2.2.2.2 1002)) (bK K + x21.toInt.toNat)) τ) (ty_d τ) s.heap H locs → lv_has ls 3 [(0, .ref a900), (1, .int x901), (2, .int x21)] → W p l e (rL 6) s m args below meth c H locs 0 0 Q (F0 m 47 ls []) := by
          intro n
          induction n with
          | zero => intro H locs ls x21 bx21 hm47 hG hl; exact absurd hm47 (Nat.not_lt_zero _)
          | succ n ih47 =>
            intro H locs ls x21 bx21 hm47 hG hl
            refine lv_iload_n X.1 X.2.1 dX10_drift_47 rfl (lv_at hl 2 rfl) ?_
            refine lv_iload_n X.1 X.2.1 dX10_drift_48 rfl (lv_at hl 1 rfl) ?_
            refine n_icmp_ge (tgt := 62) X dX10_drift_49 (by decide) (fun c22 => ?_) (fun c22 => ?_)
            · refine lv_aload_n X.1 X.2.1 dX10_drift_62 rfl (lv_at hl 0 rfl) ?_
              refine gf_10_0 X hG h900 q_876 dX10_drift_63 (cn_N _ _ _ h900) (fun a23 h23 r23 => ?_)
              refine n_sp X dX10_drift_66 (by decide) (by decide) (fun x24 t24 => ?_)
              refine tg_iald X hG h23 rfl (cI_in (n := 4261) (by omega)) dX10_drift_69 (fun x25 r25 => ?_)
              rw [show x21.toInt.toNat = x901.toInt.toNat by omega] at hG
              have hG := TG.le hG (SD_out (v := nI (bK K + 50)) hk7 (drN_0 hs0) (by omega) (by omega))
              exact ret _ _ _ _ x25 _ hG ⟨fun _ => ⟨_, KU_ok (KU_ok (OKG.up ok)), rfl⟩, fun q => absurd okq q⟩ dX10_drift_70
            · refine lv_aload_n X.1 X.2.1 dX10_drift_52 rfl (lv_at hl 0 rfl) ?_
              refine k_cVv X hG (e_X10_drifts l D cy τ hU (MM_HB (k0 := k0) (k1 := k1) (OKG.up ok)) (MM_LV (k0 := k0) (k1 := k1) (OKG.up ok)) (drN_0 hs0) (by omega) h900) h900 rfl yv_X10_drifts q_1187 ⟨rfl, rfl⟩ ⟨Nat.le_of_ble_eq_true rfl, Nat.le_of_ble_eq_true rfl⟩ rfl hl.1 rfl (Nat.le_of_ble_eq_true rfl) ⟨Nat.zero_le _, Nat.zero_le _⟩ dX10_drift_53 (fun u28 H locs hG po26 => ?_)
              rw [po26] at hG
              refine n_inc X (fun z30 => [(2, .int z30), (0, .ref a900), (1, .int x901)]) dX10_drift_56 hl (k := 2) rfl (by decide) (by decide) (by omega) (by omega) (by decide) (fun _ => rfl) (fun x29 ls t29 hl => ?_)
              have hl : lv_has ls 3 [(2, .int x29), (0, .ref a900), (1, .int x901)] := hl
              refine lv_goto (tgt := 47) X.1 X.2.1 dX10_drift_59 (by decide) ?_
              have hG : TG D cy τ (cn (SDM (MM K P N (upN u) k0 k1) (drN N x29.toInt.toNat (K.2.2.2.2 1002)) (bK K + x29.toInt.toNat)) τ) (ty_d τ) s.heap H locs := by
                rw [show x29.toInt.toNat = x21.toInt.toNat + 1 by omega]
                exact hG
              exact ih47 _ _ _ x29 (by omega) (by omega) hG (lv_sub hl [1, 2, 0] rfl)
        have hG := TG.sub hG (SD_in (u := upN u) (k0 := k0) (k1 := k1) hs0)
        have hG : TG D cy τ (cn (SDM (MM K P N (upN u) k0 k1) (drN N x20.toInt.toNat (K.2.2.2.2 1002)) (bK K + x20.toInt.toNat)) τ) (ty_d τ) s.heap H locs := by
          rw [show x20.toInt.toNat = 0 by omega]
          exact hG
        exact J47 _ _ _ _ x20 (by omega) (Nat.lt_succ_self _) hG (lv_sub hl [1, 2, 0] rfl)
      · exact absurd c16 (by omega)
    · refine n_ldc X q_1132 (n := -1000000003) (by decide +kernel) dX10_drift_22 (fun x32 t32 => ?_)
      have hG := TG.le hG (MM_B (v := nI (bK K + 50)) hk7 (by omega))
      exact ret _ _ _ _ x32 _ hG ⟨fun q => absurd (hb1.mpr q.2) (by omega), fun _ => ⟨_, KU_ok ok, rfl⟩⟩ dX10_drift_24
  · refine n_ldc X q_960 (n := -1000000002) (by decide +kernel) dX10_drift_12 (fun x33 t33 => ?_)
    have hG := TG.le hG (MM_B (v := nI (bK K + 50)) hk7 (by omega))
    exact ret _ _ _ _ x33 _ hG ⟨fun q => absurd q.1 (by omega), fun _ => ⟨_, KU_ok ok, rfl⟩⟩ dX10_drift_14
theorem fs_3 {K : KT} {P N u : Nat} {k0 k1 : Bool} {v : Int32} (hk : K.1 ≤ 240) (hv : 0 ≤ v.toInt) : ∀ n j r, MM (KU K 1002 v) P N u k0 k1 n j = some r → fsM (MM K P N u k0 k1) 3 (v.toInt, v.toInt) n j = some r := by
  intro n j r h
  by_cases a3 : n = 0 ∧ j = 3
  · obtain ⟨rfl, rfl⟩ := a3
    rw [MM_3, KU_s2, cI_clamp hv] at h
    rw [fsM_at]
    exact h
  · rw [fsM_ne n j (by omega)]
    by_cases a10 : n = 10
    · subst a10
      rw [MM_10, KU_g (by decide), KU_t (by decide), KU_b (by decide)] at h
      exact h
    · by_cases a15 : n = 15
      · subst a15
        exact h
      · rw [MM_KU hk (by decide) a10 a15 a3] at h
        exact h
set_option maxHeartbeats 4000000 in
set_option maxRecDepth 100000 in
theorem e_X10_seed (l : Launch) (D : va_G) (cy : Nat → ClassId) (τ : ty_T) (hU : UQ τ) {K : KT} {P N u : Nat} {k0 k1 : Bool} (ok : OKG K P N u) {a900 : Nat} (h900 : τ a900 = some (0, 10)) (x901 : Int32) (hs0 : 0 ≤ (K.2.2.2.2 1002).toInt) : KI l D cy yX10_seed cX10_seed 3 .int (rL 0) τ (cn (MM K P N u k0 k1) τ) [.ref a900, .int x901] (fun r w => (0 ≤ x901.toInt → r = K.2.2.2.2 1002 ∧ w = cn (MM (KU K 1002 x901) P N u k0 k1) τ) ∧ (x901.toInt < 0 → r.toInt = -1000000002 ∧ w = cn (MM K P N u k0 k1) τ)) := by
  refine k_metI "EdgeEchoesModel" rfl (by decide +kernel) (Nat.le_of_ble_eq_true rfl) (fun _ _ _ => rfl) ?_
  intro p e s m args below meth c Q ls X hG hl ret
  have hl : lv_has ls 3 [(0, .ref a900), (1, .int x901)] := hl
  have hk7 := ok.1.2.1
  have g901 := cI_rng x901
  refine lv_iload_n X.1 X.2.1 dX10_seed_0 rfl (lv_at hl 1 rfl) ?_
  refine n_if_ge (tgt := 7) X dX10_seed_1 (by decide) (fun c1 => ?_) (fun c1 => ?_)
  · refine lv_aload_n X.1 X.2.1 dX10_seed_7 rfl (lv_at hl 0 rfl) ?_
    refine gf_10_3 X hG h900 q_879 dX10_seed_8 (fun x2 r2 => ?_)
    have b2 := (cn_R _ _ _ _ h900 r2) _ _ MM_3
    rw [sd_eq hs0] at b2
    have e2 : x2 = K.2.2.2.2 1002 := cI_inj (by omega)
    refine lv_istore_n (lv' := [(2, .int x2), (0, .ref a900), (1, .int x901)]) X.1 X.2.1 dX10_seed_11 rfl hl (by decide) rfl (fun ls hl => ?_)
    refine lv_aload_n X.1 X.2.1 dX10_seed_12 rfl (lv_at hl 1 rfl) ?_
    refine lv_iload_n X.1 X.2.1 dX10_seed_13 rfl (lv_at hl 2 rfl) ?_
    refine pg_10_3 X hG h900 q_879 dX10_seed_14 (cn (fsM (MM K P N u k0 k1) 3 (x901.toInt, x901.toInt)) τ) (cf_off hU h900 fsM_ne) (cf_oth fsM_ne) (cw_new h900 (ty_ryes fsM_at (by omega))) (fun H locs hG => ?_)
    have hG := TG.sub hG (fs_3 hk7 (by omega))
    refine lv_iload_n X.1 X.2.1 dX10_seed_17 rfl (lv_at hl 0 rfl) ?_
    exact ret _ _ _ _ x2 _ hG ⟨fun _ => ⟨e2, rfl⟩, fun q => absurd q (by omega)⟩ dX10_seed_18
  · refine n_ldc X q_960 (n := -1000000002) (by decide +kernel) dX10_seed_4 (fun x3 t3 => ?_)
    exact ret _ _ _ _ x3 _ hG ⟨fun q => absurd q (by omega), fun _ => ⟨by omega, rfl⟩⟩ dX10_seed_6
def s5M (M : md_T) (j : Nat) (r : Int × Int) : md_T := fun a i => if a = 15 ∧ i = j then some r else M a i
theorem s5_at {M : md_T} {j : Nat} {r : Int × Int} : s5M M j r 15 j = some r := if_pos ⟨rfl, rfl⟩
theorem s5_ne {M : md_T} {j : Nat} {r : Int × Int} : ∀ n i, n ≠ 15 ∨ i ≠ j → s5M M j r n i = M n i := fun n i h => if_neg (by omega)
theorem MM_15 {K : KT} {P N u : Nat} {k0 k1 : Bool} {j : Nat} : MM K P N u k0 k1 15 j = (if j = 0 then siO k0 (siK K 0) else if j = 1 then siO k1 (siK K 1) else none) := rfl
theorem siO_t {v : Nat} : siO true v = some ((v : Int), (v : Int)) := rfl
set_option maxRecDepth 100000 in
theorem im_k {K : KT} {P N u : Nat} {k0 k1 k0' k1' : Bool} {b i : Nat} (hk : K.1 ≤ 240) (h0 : 0 ≤ (K.2.2.2.2 1002).toInt) (hu : u ≤ 12) (hb : (b = 3242 ∧ i = 0 ∧ k0' = true ∧ k1' = k1) ∨ (b = 3489 ∧ i = 1 ∧ k0' = k0 ∧ k1' = true)) : ∀ n j r, MM (KU K (1003 + i) (K.2.2.2.2 1002)) P N 0 k0' k1' n j = some r → fsM (bsM (s5M (cpM (MM K P N u k0 k1) 0 b 247) i ((K.2.2.2.2 1002).toInt, (K.2.2.2.2 1002).toInt)) i (1, 1)) 2 (0, 0) n j = some r := by
  intro n j r h
  have hi1 : i ≤ 1 := by omega
  by_cases h15 : n = 15
  · subst h15
    rw [fsM_ne _ _ (Or.inl (by decide)), bsM_ne _ _ (Or.inl (by decide))]
    rw [MM_15] at h
    rcases hb with ⟨rfl, rfl, rfl, rfl⟩ | ⟨rfl, rfl, rfl, rfl⟩
    · by_cases e : j = 0
      · subst e
        rw [if_pos rfl, siO_t, KU_i3, cI_clamp h0] at h
        rw [s5_at]
        exact h
      · rw [if_neg e, KU_i (by decide)] at h
        rw [s5_ne _ _ (Or.inr e), cpM_ne (by decide), MM_15, if_neg e]
        exact h
    · by_cases e : j = 1
      · subst e
        rw [if_neg (by decide), if_pos rfl, siO_t, KU_i3, cI_clamp h0] at h
        rw [s5_at]
        exact h
      · rw [KU_i (q := 0) (by decide), if_neg e] at h
        rw [s5_ne _ _ (Or.inr e), cpM_ne (by decide), MM_15, if_neg e]
        exact h
  have h : MM K P N 0 k0' k1' n j = some r := by
    by_cases a10 : n = 10
    · subst a10
      rw [MM_10, KU_g (by omega), KU_t (by omega), KU_b (by omega)] at h
      exact h
    · by_cases a3 : n = 0 ∧ j = 3
      · obtain ⟨rfl, rfl⟩ := a3
        rw [MM_3, KU_s (by omega)] at h
        exact h
      · rw [MM_KU hk (by omega) a10 h15 a3] at h
        exact h
  have e5 : ∀ n2 j2, n2 ≠ 15 → s5M (cpM (MM K P N u k0 k1) 0 b 247) i ((K.2.2.2.2 1002).toInt, (K.2.2.2.2 1002).toInt) n2 j2 = cpM (MM K P N u k0 k1) 0 b 247 n2 j2 := fun n2 j2 q => s5_ne n2 j2 (Or.inl q)
  by_cases hz0 : n = 0
  · subst hz0
    by_cases hj : j = 2
    · subst hj
      exact h
    · rw [fsM_ne _ _ (Or.inr hj), bsM_ne _ _ (Or.inl (by decide)), e5 _ _ (by decide), cpM_ne (by decide), MM_0, fl_sub (v := 0) hj]
      exact h
  · rw [fsM_ne _ _ (Or.inl hz0)]
    by_cases h4 : n = 14
    · subst h4
      by_cases hj : 2 ≤ j
      · have e2 : MM K P N 0 k0' k1' 14 j = none := by
          show (if j = 0 then _ else if j = 1 then _ else _) = _
          rw [if_neg (show ¬ j = 0 by omega), if_neg (show ¬ j = 1 by omega)]
        rw [e2] at h
        cases h
      · by_cases e : j = i
        · subst e
          rw [bsM_at]
          rcases hb with ⟨rfl, rfl, rfl, rfl⟩ | ⟨rfl, rfl, rfl, rfl⟩
          · exact h
          · exact h
        · rw [bsM_ne _ _ (Or.inr e), e5 _ _ (by decide), cpM_ne (by decide)]
          rcases hb with ⟨rfl, rfl, rfl, rfl⟩ | ⟨rfl, rfl, rfl, rfl⟩
          · have : j = 1 := by omega
            subst this
            exact h
          · have : j = 0 := by omega
            subst this
            exact h
    · rw [bsM_ne _ _ (Or.inl h4), e5 _ _ h15]
      by_cases h1 : n = 10
      · subst h1
        rw [MM_10] at h
        by_cases q : b ≤ j ∧ j < b + 247
        · rw [cpM_in q.1 q.2, MM_10, rw_lo (by omega), Nat.zero_add]
          rcases hb with ⟨rfl, rfl, rfl, rfl⟩ | ⟨rfl, rfl, rfl, rfl⟩
          · rw [show j = 3242 + (j - 3242) by omega, rw_im0 (by omega) (by omega)] at h
            exact h
          · rw [show j = 3489 + (j - 3489) by omega, rw_im1 (by omega) (by omega)] at h
            exact h
        · rw [cpM_out (by omega), MM_10]
          by_cases q2 : j < 247
          · rw [rw_lo q2] at h ⊢
            exact h
          · refine rw_cut (by omega) h (by omega) ?_ ?_ (by omega) hu
            · intro q3 q4
              rcases hb with ⟨rfl, rfl, rfl, rfl⟩ | ⟨rfl, rfl, rfl, rfl⟩
              · omega
              · exact q4
            · intro q3 q4
              rcases hb with ⟨rfl, rfl, rfl, rfl⟩ | ⟨rfl, rfl, rfl, rfl⟩
              · exact q4
              · omega
      · rw [cpM_ne h1, MM_el2 (v := 0) (k0' := k0') (k1' := k1') hz0 h1 h4 h15]
        exact h
set_option maxRecDepth 100000 in
theorem gb_k {K : KT} {P N u : Nat} {k0 k1 : Bool} {b : Nat} {v : Int32} (hk : K.1 ≤ 240) (hv : 0 ≤ v.toInt) (hu : u ≤ 12) (hb : (b = 3242 ∧ k0 = true) ∨ (b = 3489 ∧ k1 = true)) : ∀ n j r, MM (KU K 1002 v) P N 0 k0 k1 n j = some r → fsM (fsM (cpM (MM K P N u k0 k1) b 0 247) 3 (v.toInt, v.toInt)) 2 (0, 0) n j = some r := by
  intro n j r h
  by_cases a3 : n = 0 ∧ j = 3
  · obtain ⟨rfl, rfl⟩ := a3
    rw [MM_3, KU_s2, cI_clamp hv] at h
    rw [fsM_ne _ _ (Or.inr (by decide)), fsM_at]
    exact h
  have h : MM K P N 0 k0 k1 n j = some r := by
    by_cases a10 : n = 10
    · subst a10
      rw [MM_10, KU_g (by decide), KU_t (by decide), KU_b (by decide)] at h
      exact h
    · by_cases a15 : n = 15
      · subst a15
        exact h
      · rw [MM_KU hk (by decide) a10 a15 a3] at h
        exact h
  by_cases h0 : n = 0
  · subst h0
    by_cases hj : j = 2
    · subst hj
      exact h
    · rw [fsM_ne _ _ (Or.inr hj), fsM_ne _ _ (by omega), cpM_ne (by decide), MM_0, fl_sub (v := 0) hj]
      exact h
  · rw [fsM_ne _ _ (Or.inl h0), fsM_ne _ _ (Or.inl h0)]
    by_cases h1 : n = 10
    · subst h1
      rw [MM_10] at h
      by_cases q : j < 247
      · rw [cpM_in (by omega) (by omega), MM_10, show b + (j - 0) = b + j by omega]
        rw [rw_lo q] at h
        rcases hb with ⟨rfl, rfl⟩ | ⟨rfl, rfl⟩
        · rw [rw_im0 hu q]; exact h
        · rw [rw_im1 hu q]; exact h
      · rw [cpM_out (by omega), MM_10]
        exact rw_cut (by omega) h (by omega) (fun _ q => q) (fun _ q => q) (by omega) hu
    · rw [cpM_ne h1, MM_el (v := 0) h0 h1]
      exact h
set_option maxHeartbeats 4000000 in
set_option maxRecDepth 100000 in
theorem e_X10_keep (l : Launch) (D : va_G) (cy : Nat → ClassId) (τ : ty_T) (hU : UQ τ) {K : KT} {P N u : Nat} {k0 k1 : Bool} (ok : OKG K P N u) {a900 : Nat} (h900 : τ a900 = some (0, 10)) (x901 : Int32) (hs0 : 0 ≤ (K.2.2.2.2 1002).toInt) : KI l D cy yX10_keep cX10_keep 2 .int (rL 1) τ (cn (MM K P N u k0 k1) τ) [.ref a900, .int x901] (fun r w => (x901.toInt = 0 → r.toInt = 1 ∧ GS (KU K (1003 + 0) (K.2.2.2.2 1002)) τ P N true k1 w) ∧ (x901.toInt = 1 → r.toInt = 1 ∧ GS (KU K (1003 + 1) (K.2.2.2.2 1002)) τ P N k0 true w) ∧ (x901.toInt < 0 ∨ 1 < x901.toInt → r.toInt = -1000000001 ∧ GS K τ P N k0 k1 w)) := by
  refine k_metI "EdgeEchoesModel" rfl (by decide +kernel) (Nat.le_of_ble_eq_true rfl) (fun _ _ _ => rfl) ?_
  intro p e s m args below meth c Q ls X hG hl ret
  have hl : lv_has ls 2 [(0, .ref a900), (1, .int x901)] := hl
  obtain ⟨⟨⟨n9, m9, n9p⟩, ⟨n13, m13, n13p⟩, m3, m8⟩, ⟨mN, mP, mG, mL, mF⟩, mO, ⟨mK, mS, mQ, mZ⟩, hN72, hP8, hNP⟩ := id (MM_HB (k0 := k0) (k1 := k1) ok)
  have hu12 := ok.2.2.2
  have hk7 := ok.1.2.1
  have g901 := cI_rng x901
  refine lv_iload_n X.1 X.2.1 dX10_keep_0 rfl (lv_at hl 1 rfl) ?_
  refine n_i2l X dX10_keep_1 (fun w1 t1 => ?_)
  refine n_lc X dX10_keep_2 (fun w2 t2 => ?_)
  have t2 : w2.toInt = 0 := t2
  refine n_lc X dX10_keep_3 (fun w3 t3 => ?_)
  have t3 : w3.toInt = 1 := t3
  refine k_cSi X hG (c_X10_in l D cy τ _ cn_N cn_R (cn_F (S := [])) w1 w2 w3 ) ys_X10_in q_957 ⟨rfl, rfl⟩ ⟨Nat.le_of_ble_eq_true rfl, Nat.le_of_ble_eq_true rfl⟩ rfl hl.1 rfl (Nat.le_of_ble_eq_true rfl) ⟨Nat.zero_le _, Nat.zero_le _⟩ dX10_keep_4 (fun x5 u6 H locs hG po4 => ?_)
  obtain ⟨eu6, po4⟩ := po4
  rw [eu6] at hG
  refine n_if_ne (tgt := 13) X dX10_keep_7 (by decide) (fun c7 => ?_) (fun c7 => ?_)
  · rcases (show x901.toInt = 0 ∨ x901.toInt = 1 by omega) with ci | ci
    · refine lv_aload_n X.1 X.2.1 dX10_keep_13 rfl (lv_at hl 0 rfl) ?_
      refine n_ic X dX10_keep_14 (by decide) (by decide) (fun x8 t8 => ?_)
      refine n_sp X dX10_keep_15 (by decide) (by decide) (fun x9 t9 => ?_)
      refine n_sp X dX10_keep_18 (by decide) (by decide) (fun x10 t10 => ?_)
      refine lv_iload_n X.1 X.2.1 dX10_keep_21 rfl (lv_at hl 1 rfl) ?_
      refine n_mul X dX10_keep_22 (by rw [t10]; omega) (by rw [t10]; omega) (fun x11 t11 => ?_)
      rw [t10] at t11
      refine n_add X dX10_keep_23 (by omega) (by omega) (fun x12 t12 => ?_)
      refine n_sp X dX10_keep_24 (by decide) (by decide) (fun x13 t13 => ?_)
      refine k_cVv X hG (c_X10_copyRow l D cy τ _ hU h900 x8 x12 x13 (0) (3242) (247) (by omega) (by omega) (by omega) (by omega) (by omega) (by omega)) h900 rfl yv_X10_copyRow q_1012 ⟨rfl, rfl⟩ ⟨Nat.le_of_ble_eq_true rfl, Nat.le_of_ble_eq_true rfl⟩ rfl hl.1 rfl (Nat.le_of_ble_eq_true rfl) ⟨Nat.zero_le _, Nat.zero_le _⟩ dX10_keep_27 (fun u15 H locs hG po14 => ?_)
      rw [po14] at hG
      have m15 : True := trivial
      have m3c : (cpM (MM K P N u k0 k1) 0 3242 247) 0 3 = some ((K.2.2.2.2 1002).toInt, (K.2.2.2.2 1002).toInt) := by rw [cpM_ne (by decide), MM_3, sd_eq hs0]
      refine lv_aload_n X.1 X.2.1 dX10_keep_30 rfl (lv_at hl 0 rfl) ?_
      refine gf_10_5 X hG h900 q_881 dX10_keep_31 (cn_N _ _ _ h900) (fun a16 h16 r16 => ?_)
      refine lv_iload_n X.1 X.2.1 dX10_keep_34 rfl (lv_at hl 1 rfl) ?_
      refine lv_aload_n X.1 X.2.1 dX10_keep_35 rfl (lv_at hl 0 rfl) ?_
      refine gf_10_3 X hG h900 q_879 dX10_keep_36 (fun x17 r17 => ?_)
      have b17 := (cn_R _ _ _ _ h900 r17) _ _ m3c
      have i15 : x901.toNatClampNeg = 0 := by have := cI_clamp (x := x901) (by omega); omega
      refine tg_iast X hG h16 rfl (cI_in (n := 2) (by omega)) dX10_keep_39 (cn (s5M (cpM (MM K P N u k0 k1) 0 3242 247) 0 ((K.2.2.2.2 1002).toInt, (K.2.2.2.2 1002).toInt)) τ) (cw_off hU h16 (by decide) (j0 := 0) s5_ne) (by rw [i15]; exact cw_oth h16 s5_ne) (by rw [i15]; exact cw_new h16 (ty_ryes s5_at (by omega))) (fun H locs hG => ?_)
      refine lv_aload_n X.1 X.2.1 dX10_keep_40 rfl (lv_at hl 0 rfl) ?_
      refine gf_10_4 X hG h900 q_880 dX10_keep_41 (cn_N _ _ _ h900) (fun a18 h18 r18 => ?_)
      refine lv_iload_n X.1 X.2.1 dX10_keep_44 rfl (lv_at hl 1 rfl) ?_
      refine n_ic X dX10_keep_45 (by decide) (by decide) (fun x19 t19 => ?_)
      have i14 : x901.toNatClampNeg = 0 := by have := cI_clamp (x := x901) (by omega); omega
      refine tg_zast X hG h18 rfl (cI_in (n := 2) (by omega)) (by omega) dX10_keep_46 (cn (bsM (s5M (cpM (MM K P N u k0 k1) 0 3242 247) 0 ((K.2.2.2.2 1002).toInt, (K.2.2.2.2 1002).toInt)) 0 (1, 1)) τ) (cw_off hU h18 (by decide) (j0 := 0) bsM_ne) (by rw [i14]; exact cw_oth h18 bsM_ne) (by rw [i14]; exact cw_new h18 (ty_ryes bsM_at (by omega))) (fun H locs hG => ?_)
      refine lv_aload_n X.1 X.2.1 dX10_keep_47 rfl (lv_at hl 0 rfl) ?_
      refine n_ic X dX10_keep_48 (by decide) (by decide) (fun x20 t20 => ?_)
      refine pg_10_2 X hG h900 q_878 dX10_keep_49 (cn (fsM (bsM (s5M (cpM (MM K P N u k0 k1) 0 3242 247) 0 ((K.2.2.2.2 1002).toInt, (K.2.2.2.2 1002).toInt)) 0 (1, 1)) 2 (0, 0)) τ) (cf_off hU h900 fsM_ne) (cf_oth fsM_ne) (cw_new h900 (ty_ryes fsM_at (by omega))) (fun H locs hG => ?_)
      have hG := TG.sub hG (im_k (K := K) (P := P) (N := N) (u := u) (k0 := k0) (k1 := k1) (k0' := true) (k1' := k1) (b := 3242) (i := 0) hk7 hs0 ok.2.2.2 (Or.inl ⟨rfl, rfl, rfl, rfl⟩))
      refine n_ic X dX10_keep_52 (by decide) (by decide) (fun x21 t21 => ?_)
      exact ret _ _ _ _ x21 _ hG ⟨fun _ => ⟨by omega, 0, KU_ok (OKG.to ok (by omega)), rfl⟩, fun q => absurd q (by omega), fun q => absurd q (by omega)⟩ dX10_keep_53
    · refine lv_aload_n X.1 X.2.1 dX10_keep_13 rfl (lv_at hl 0 rfl) ?_
      refine n_ic X dX10_keep_14 (by decide) (by decide) (fun x22 t22 => ?_)
      refine n_sp X dX10_keep_15 (by decide) (by decide) (fun x23 t23 => ?_)
      refine n_sp X dX10_keep_18 (by decide) (by decide) (fun x24 t24 => ?_)
      refine lv_iload_n X.1 X.2.1 dX10_keep_21 rfl (lv_at hl 1 rfl) ?_
      refine n_mul X dX10_keep_22 (by rw [t24]; omega) (by rw [t24]; omega) (fun x25 t25 => ?_)
      rw [t24] at t25
      refine n_add X dX10_keep_23 (by omega) (by omega) (fun x26 t26 => ?_)
      refine n_sp X dX10_keep_24 (by decide) (by decide) (fun x27 t27 => ?_)
      refine k_cVv X hG (c_X10_copyRow l D cy τ _ hU h900 x22 x26 x27 (0) (3489) (247) (by omega) (by omega) (by omega) (by omega) (by omega) (by omega)) h900 rfl yv_X10_copyRow q_1012 ⟨rfl, rfl⟩ ⟨Nat.le_of_ble_eq_true rfl, Nat.le_of_ble_eq_true rfl⟩ rfl hl.1 rfl (Nat.le_of_ble_eq_true rfl) ⟨Nat.zero_le _, Nat.zero_le _⟩ dX10_keep_27 (fun u29 H locs hG po28 => ?_)
      rw [po28] at hG
      have m15 : True := trivial
      have m3c : (cpM (MM K P N u k0 k1) 0 3489 247) 0 3 = some ((K.2.2.2.2 1002).toInt, (K.2.2.2.2 1002).toInt) := by rw [cpM_ne (by decide), MM_3, sd_eq hs0]
      refine lv_aload_n X.1 X.2.1 dX10_keep_30 rfl (lv_at hl 0 rfl) ?_
      refine gf_10_5 X hG h900 q_881 dX10_keep_31 (cn_N _ _ _ h900) (fun a30 h30 r30 => ?_)
      refine lv_iload_n X.1 X.2.1 dX10_keep_34 rfl (lv_at hl 1 rfl) ?_
      refine lv_aload_n X.1 X.2.1 dX10_keep_35 rfl (lv_at hl 0 rfl) ?_
      refine gf_10_3 X hG h900 q_879 dX10_keep_36 (fun x31 r31 => ?_)
      have b31 := (cn_R _ _ _ _ h900 r31) _ _ m3c
      have i15 : x901.toNatClampNeg = 1 := by have := cI_clamp (x := x901) (by omega); omega
      refine tg_iast X hG h30 rfl (cI_in (n := 2) (by omega)) dX10_keep_39 (cn (s5M (cpM (MM K P N u k0 k1) 0 3489 247) 1 ((K.2.2.2.2 1002).toInt, (K.2.2.2.2 1002).toInt)) τ) (cw_off hU h30 (by decide) (j0 := 1) s5_ne) (by rw [i15]; exact cw_oth h30 s5_ne) (by rw [i15]; exact cw_new h30 (ty_ryes s5_at (by omega))) (fun H locs hG => ?_)
      refine lv_aload_n X.1 X.2.1 dX10_keep_40 rfl (lv_at hl 0 rfl) ?_
      refine gf_10_4 X hG h900 q_880 dX10_keep_41 (cn_N _ _ _ h900) (fun a32 h32 r32 => ?_)
      refine lv_iload_n X.1 X.2.1 dX10_keep_44 rfl (lv_at hl 1 rfl) ?_
      refine n_ic X dX10_keep_45 (by decide) (by decide) (fun x33 t33 => ?_)
      have i14 : x901.toNatClampNeg = 1 := by have := cI_clamp (x := x901) (by omega); omega
      refine tg_zast X hG h32 rfl (cI_in (n := 2) (by omega)) (by omega) dX10_keep_46 (cn (bsM (s5M (cpM (MM K P N u k0 k1) 0 3489 247) 1 ((K.2.2.2.2 1002).toInt, (K.2.2.2.2 1002).toInt)) 1 (1, 1)) τ) (cw_off hU h32 (by decide) (j0 := 1) bsM_ne) (by rw [i14]; exact cw_oth h32 bsM_ne) (by rw [i14]; exact cw_new h32 (ty_ryes bsM_at (by omega))) (fun H locs hG => ?_)
      refine lv_aload_n X.1 X.2.1 dX10_keep_47 rfl (lv_at hl 0 rfl) ?_
      refine n_ic X dX10_keep_48 (by decide) (by decide) (fun x34 t34 => ?_)
      refine pg_10_2 X hG h900 q_878 dX10_keep_49 (cn (fsM (bsM (s5M (cpM (MM K P N u k0 k1) 0 3489 247) 1 ((K.2.2.2.2 1002).toInt, (K.2.2.2.2 1002).toInt)) 1 (1, 1)) 2 (0, 0)) τ) (cf_off hU h900 fsM_ne) (cf_oth fsM_ne) (cw_new h900 (ty_ryes fsM_at (by omega))) (fun H locs hG => ?_)
      have hG := TG.sub hG (im_k (K := K) (P := P) (N := N) (u := u) (k0 := k0) (k1 := k1) (k0' := k0) (k1' := true) (b := 3489) (i := 1) hk7 hs0 ok.2.2.2 (Or.inr ⟨rfl, rfl, rfl, rfl⟩))
      refine n_ic X dX10_keep_52 (by decide) (by decide) (fun x35 t35 => ?_)
      exact ret _ _ _ _ x35 _ hG ⟨fun q => absurd q (by omega), fun _ => ⟨by omega, 0, KU_ok (OKG.to ok (by omega)), rfl⟩, fun q => absurd q (by omega)⟩ dX10_keep_53
  · refine n_ldc X q_1099 (n := -1000000001) (by decide +kernel) dX10_keep_10 (fun x36 t36 => ?_)
    exact ret _ _ _ _ x36 _ hG ⟨fun q => absurd q (by omega), fun q => absurd q (by omega), fun _ => ⟨by omega, u, ok, rfl⟩⟩ dX10_keep_12
set_option maxHeartbeats 4000000 in
set_option maxRecDepth 100000 in
theorem e_X10_goBack (l : Launch) (D : va_G) (cy : Nat → ClassId) (τ : ty_T) (hU : UQ τ) {K : KT} {P N u : Nat} {k0 k1 : Bool} (ok : OKG K P N u) {a900 : Nat} (h900 : τ a900 = some (0, 10)) (x901 : Int32) (hs1 : 0 ≤ (K.2.2.2.2 1003).toInt) (hs2 : 0 ≤ (K.2.2.2.2 1004).toInt) : KI l D cy yX10_goBack cX10_goBack 2 .int (rL 1) τ (cn (MM K P N u k0 k1) τ) [.ref a900, .int x901] (fun r w => (x901.toInt = 0 → r.toInt = gbA k0 ∧ (k0 = true → GS (KU K 1002 (K.2.2.2.2 1003)) τ P N k0 k1 w) ∧ (k0 = false → GS K τ P N k0 k1 w)) ∧ (x901.toInt = 1 → r.toInt = gbA k1 ∧ (k1 = true → GS (KU K 1002 (K.2.2.2.2 1004)) τ P N k0 k1 w) ∧ (k1 = false → GS K τ P N k0 k1 w)) ∧ (x901.toInt < 0 ∨ 1 < x901.toInt → r.toInt = -1000000001 ∧ GS K τ P N k0 k1 w)) := by
  refine k_metI "EdgeEchoesModel" rfl (by decide +kernel) (Nat.le_of_ble_eq_true rfl) (fun _ _ _ => rfl) ?_
  intro p e s m args below meth c Q ls X hG hl ret
  have hl : lv_has ls 2 [(0, .ref a900), (1, .int x901)] := hl
  obtain ⟨⟨⟨n9, m9, n9p⟩, ⟨n13, m13, n13p⟩, m3, m8⟩, ⟨mN, mP, mG, mL, mF⟩, mO, ⟨mK, mS, mQ, mZ⟩, hN72, hP8, hNP⟩ := id (MM_HB (k0 := k0) (k1 := k1) ok)
  have hu12 := ok.2.2.2
  have hk7 := ok.1.2.1
  have g901 := cI_rng x901
  refine lv_iload_n X.1 X.2.1 dX10_goBack_0 rfl (lv_at hl 1 rfl) ?_
  refine n_i2l X dX10_goBack_1 (fun w1 t1 => ?_)
  refine n_lc X dX10_goBack_2 (fun w2 t2 => ?_)
  have t2 : w2.toInt = 0 := t2
  refine n_lc X dX10_goBack_3 (fun w3 t3 => ?_)
  have t3 : w3.toInt = 1 := t3
  refine k_cSi X hG (c_X10_in l D cy τ _ cn_N cn_R (cn_F (S := [])) w1 w2 w3 ) ys_X10_in q_957 ⟨rfl, rfl⟩ ⟨Nat.le_of_ble_eq_true rfl, Nat.le_of_ble_eq_true rfl⟩ rfl hl.1 rfl (Nat.le_of_ble_eq_true rfl) ⟨Nat.zero_le _, Nat.zero_le _⟩ dX10_goBack_4 (fun x5 u6 H locs hG po4 => ?_)
  obtain ⟨eu6, po4⟩ := po4
  rw [eu6] at hG
  refine n_if_ne (tgt := 13) X dX10_goBack_7 (by decide) (fun c7 => ?_) (fun c7 => ?_)
  · rcases (show x901.toInt = 0 ∨ x901.toInt = 1 by omega) with ci | ci
    · refine lv_aload_n X.1 X.2.1 dX10_goBack_13 rfl (lv_at hl 0 rfl) ?_
      refine gf_10_4 X hG h900 q_880 dX10_goBack_14 (cn_N _ _ _ h900) (fun a8 h8 r8 => ?_)
      refine lv_iload_n X.1 X.2.1 dX10_goBack_17 rfl (lv_at hl 1 rfl) ?_
      refine tg_zald X hG h8 rfl (cI_in (n := 2) (by omega)) dX10_goBack_18 (fun x9 b9 r9 => ?_)
      have b9 := cI_10 b9
      have i14 : x901.toNatClampNeg = 0 := by have := cI_clamp (x := x901) (by omega); omega
      rw [i14] at r9
      have f9 := (cn_R _ _ _ _ h8 r9) (biM k0) (biM k0) rfl
      refine n_if_ne (tgt := 25) X dX10_goBack_19 (by decide) (fun c10 => ?_) (fun c10 => ?_)
      · have hk : k0 = true := by cases hq : k0 with | true => rfl | false => (rw [hq] at f9; exact absurd (show x9.toInt = 0 by have : biM false = 0 := rfl; omega) c10)
        refine lv_aload_n X.1 X.2.1 dX10_goBack_25 rfl (lv_at hl 0 rfl) ?_
        refine n_sp X dX10_goBack_26 (by decide) (by decide) (fun x11 t11 => ?_)
        refine n_sp X dX10_goBack_29 (by decide) (by decide) (fun x12 t12 => ?_)
        refine lv_iload_n X.1 X.2.1 dX10_goBack_32 rfl (lv_at hl 1 rfl) ?_
        refine n_mul X dX10_goBack_33 (by rw [t12]; omega) (by rw [t12]; omega) (fun x13 t13 => ?_)
        rw [t12] at t13
        refine n_add X dX10_goBack_34 (by omega) (by omega) (fun x14 t14 => ?_)
        refine n_ic X dX10_goBack_35 (by decide) (by decide) (fun x15 t15 => ?_)
        refine n_sp X dX10_goBack_36 (by decide) (by decide) (fun x16 t16 => ?_)
        refine k_cVv X hG (c_X10_copyRow l D cy τ _ hU h900 x14 x15 x16 (3242) (0) (247) (by omega) (by omega) (by omega) (by omega) (by omega) (by omega)) h900 rfl yv_X10_copyRow q_1012 ⟨rfl, rfl⟩ ⟨Nat.le_of_ble_eq_true rfl, Nat.le_of_ble_eq_true rfl⟩ rfl hl.1 rfl (Nat.le_of_ble_eq_true rfl) ⟨Nat.zero_le _, Nat.zero_le _⟩ dX10_goBack_39 (fun u18 H locs hG po17 => ?_)
        rw [po17] at hG
        have m15 : (cpM (MM K P N u k0 k1) 3242 0 247) 15 0 = some ((K.2.2.2.2 1003).toInt, (K.2.2.2.2 1003).toInt) := by
          have c15 : (siK K 0 : Int) = (K.2.2.2.2 1003).toInt := cI_clamp hs1
          rw [cpM_ne (by decide), MM_15, hk]
          show some ((siK K 0 : Int), (siK K 0 : Int)) = _
          rw [c15]
        have m3c : True := trivial
        refine lv_aload_n X.1 X.2.1 dX10_goBack_42 rfl (lv_at hl 0 rfl) ?_
        refine lv_aload_n X.1 X.2.1 dX10_goBack_43 rfl (lv_at hl 0 rfl) ?_
        refine gf_10_5 X hG h900 q_881 dX10_goBack_44 (cn_N _ _ _ h900) (fun a19 h19 r19 => ?_)
        refine lv_iload_n X.1 X.2.1 dX10_goBack_47 rfl (lv_at hl 1 rfl) ?_
        refine tg_iald X hG h19 rfl (cI_in (n := 2) (by omega)) dX10_goBack_48 (fun x20 r20 => ?_)
        have i15 : x901.toNatClampNeg = 0 := by have := cI_clamp (x := x901) (by omega); omega
        rw [i15] at r20
        have b20 := (cn_R _ _ _ _ h19 r20) _ _ m15
        refine pg_10_3 X hG h900 q_879 dX10_goBack_49 (cn (fsM (cpM (MM K P N u k0 k1) 3242 0 247) 3 ((K.2.2.2.2 1003).toInt, (K.2.2.2.2 1003).toInt)) τ) (cf_off hU h900 fsM_ne) (cf_oth fsM_ne) (cw_new h900 (ty_ryes fsM_at (by omega))) (fun H locs hG => ?_)
        refine lv_aload_n X.1 X.2.1 dX10_goBack_52 rfl (lv_at hl 0 rfl) ?_
        refine n_ic X dX10_goBack_53 (by decide) (by decide) (fun x21 t21 => ?_)
        refine pg_10_2 X hG h900 q_878 dX10_goBack_54 (cn (fsM (fsM (cpM (MM K P N u k0 k1) 3242 0 247) 3 ((K.2.2.2.2 1003).toInt, (K.2.2.2.2 1003).toInt)) 2 (0, 0)) τ) (cf_off hU h900 fsM_ne) (cf_oth fsM_ne) (cw_new h900 (ty_ryes fsM_at (by omega))) (fun H locs hG => ?_)
        have hG := TG.sub hG (gb_k (v := K.2.2.2.2 1003) hk7 hs1 ok.2.2.2 (Or.inl ⟨rfl, hk⟩))
        refine n_ic X dX10_goBack_57 (by decide) (by decide) (fun x22 t22 => ?_)
        exact ret _ _ _ _ x22 _ hG ⟨fun _ => ⟨by rw [hk]; exact (show x22.toInt = 1 by omega), fun _ => ⟨0, KU_ok (OKG.to ok (by omega)), rfl⟩, fun q => by rw [hk] at q; cases q⟩, fun q => absurd q (by omega), fun q => absurd q (by omega)⟩ dX10_goBack_58
      · refine n_ldc X q_1132 (n := -1000000003) (by decide +kernel) dX10_goBack_22 (fun x23 t23 => ?_)
        have hk : k0 = false := by cases hq : k0 with | false => rfl | true => (rw [hq] at f9; exact absurd (show x9.toInt = 1 by have : biM true = 1 := rfl; omega) (by omega))
        exact ret _ _ _ _ x23 _ hG ⟨fun _ => ⟨by rw [hk]; exact (show x23.toInt = -1000000003 by omega), fun q => (by rw [hk] at q; cases q), fun _ => ⟨u, ok, rfl⟩⟩, fun q => absurd q (by omega), fun q => absurd q (by omega)⟩ dX10_goBack_24
    · refine lv_aload_n X.1 X.2.1 dX10_goBack_13 rfl (lv_at hl 0 rfl) ?_
      refine gf_10_4 X hG h900 q_880 dX10_goBack_14 (cn_N _ _ _ h900) (fun a24 h24 r24 => ?_)
      refine lv_iload_n X.1 X.2.1 dX10_goBack_17 rfl (lv_at hl 1 rfl) ?_
      refine tg_zald X hG h24 rfl (cI_in (n := 2) (by omega)) dX10_goBack_18 (fun x25 b25 r25 => ?_)
      have b25 := cI_10 b25
      have i14 : x901.toNatClampNeg = 1 := by have := cI_clamp (x := x901) (by omega); omega
      rw [i14] at r25
      have f25 := (cn_R _ _ _ _ h24 r25) (biM k1) (biM k1) rfl
      refine n_if_ne (tgt := 25) X dX10_goBack_19 (by decide) (fun c26 => ?_) (fun c26 => ?_)
      · have hk : k1 = true := by cases hq : k1 with | true => rfl | false => (rw [hq] at f25; exact absurd (show x25.toInt = 0 by have : biM false = 0 := rfl; omega) c26)
        refine lv_aload_n X.1 X.2.1 dX10_goBack_25 rfl (lv_at hl 0 rfl) ?_
        refine n_sp X dX10_goBack_26 (by decide) (by decide) (fun x27 t27 => ?_)
        refine n_sp X dX10_goBack_29 (by decide) (by decide) (fun x28 t28 => ?_)
        refine lv_iload_n X.1 X.2.1 dX10_goBack_32 rfl (lv_at hl 1 rfl) ?_
        refine n_mul X dX10_goBack_33 (by rw [t28]; omega) (by rw [t28]; omega) (fun x29 t29 => ?_)
        rw [t28] at t29
        refine n_add X dX10_goBack_34 (by omega) (by omega) (fun x30 t30 => ?_)
        refine n_ic X dX10_goBack_35 (by decide) (by decide) (fun x31 t31 => ?_)
        refine n_sp X dX10_goBack_36 (by decide) (by decide) (fun x32 t32 => ?_)
        refine k_cVv X hG (c_X10_copyRow l D cy τ _ hU h900 x30 x31 x32 (3489) (0) (247) (by omega) (by omega) (by omega) (by omega) (by omega) (by omega)) h900 rfl yv_X10_copyRow q_1012 ⟨rfl, rfl⟩ ⟨Nat.le_of_ble_eq_true rfl, Nat.le_of_ble_eq_true rfl⟩ rfl hl.1 rfl (Nat.le_of_ble_eq_true rfl) ⟨Nat.zero_le _, Nat.zero_le _⟩ dX10_goBack_39 (fun u34 H locs hG po33 => ?_)
        rw [po33] at hG
        have m15 : (cpM (MM K P N u k0 k1) 3489 0 247) 15 1 = some ((K.2.2.2.2 1004).toInt, (K.2.2.2.2 1004).toInt) := by
          have c15 : (siK K 1 : Int) = (K.2.2.2.2 1004).toInt := cI_clamp hs2
          rw [cpM_ne (by decide), MM_15, hk]
          show some ((siK K 1 : Int), (siK K 1 : Int)) = _
          rw [c15]
        have m3c : True := trivial
        refine lv_aload_n X.1 X.2.1 dX10_goBack_42 rfl (lv_at hl 0 rfl) ?_
        refine lv_aload_n X.1 X.2.1 dX10_goBack_43 rfl (lv_at hl 0 rfl) ?_
        refine gf_10_5 X hG h900 q_881 dX10_goBack_44 (cn_N _ _ _ h900) (fun a35 h35 r35 => ?_)
        refine lv_iload_n X.1 X.2.1 dX10_goBack_47 rfl (lv_at hl 1 rfl) ?_
        refine tg_iald X hG h35 rfl (cI_in (n := 2) (by omega)) dX10_goBack_48 (fun x36 r36 => ?_)
        have i15 : x901.toNatClampNeg = 1 := by have := cI_clamp (x := x901) (by omega); omega
        rw [i15] at r36
        have b36 := (cn_R _ _ _ _ h35 r36) _ _ m15
        refine pg_10_3 X hG h900 q_879 dX10_goBack_49 (cn (fsM (cpM (MM K P N u k0 k1) 3489 0 247) 3 ((K.2.2.2.2 1004).toInt, (K.2.2.2.2 1004).toInt)) τ) (cf_off hU h900 fsM_ne) (cf_oth fsM_ne) (cw_new h900 (ty_ryes fsM_at (by omega))) (fun H locs hG => ?_)
        refine lv_aload_n X.1 X.2.1 dX10_goBack_52 rfl (lv_at hl 0 rfl) ?_
        refine n_ic X dX10_goBack_53 (by decide) (by decide) (fun x37 t37 => ?_)
        refine pg_10_2 X hG h900 q_878 dX10_goBack_54 (cn (fsM (fsM (cpM (MM K P N u k0 k1) 3489 0 247) 3 ((K.2.2.2.2 1004).toInt, (K.2.2.2.2 1004).toInt)) 2 (0, 0)) τ) (cf_off hU h900 fsM_ne) (cf_oth fsM_ne) (cw_new h900 (ty_ryes fsM_at (by omega))) (fun H locs hG => ?_)
        have hG := TG.sub hG (gb_k (v := K.2.2.2.2 1004) hk7 hs2 ok.2.2.2 (Or.inr ⟨rfl, hk⟩))
        refine n_ic X dX10_goBack_57 (by decide) (by decide) (fun x38 t38 => ?_)
        exact ret _ _ _ _ x38 _ hG ⟨fun q => absurd q (by omega), fun _ => ⟨by rw [hk]; exact (show x38.toInt = 1 by omega), fun _ => ⟨0, KU_ok (OKG.to ok (by omega)), rfl⟩, fun q => by rw [hk] at q; cases q⟩, fun q => absurd q (by omega)⟩ dX10_goBack_58
      · refine n_ldc X q_1132 (n := -1000000003) (by decide +kernel) dX10_goBack_22 (fun x39 t39 => ?_)
        have hk : k1 = false := by cases hq : k1 with | false => rfl | true => (rw [hq] at f25; exact absurd (show x25.toInt = 1 by have : biM true = 1 := rfl; omega) (by omega))
        exact ret _ _ _ _ x39 _ hG ⟨fun q => absurd q (by omega), fun _ => ⟨by rw [hk]; exact (show x39.toInt = -1000000003 by omega), fun q => (by rw [hk] at q; cases q), fun _ => ⟨u, ok, rfl⟩⟩, fun q => absurd q (by omega)⟩ dX10_goBack_24
  · refine n_ldc X q_1099 (n := -1000000001) (by decide +kernel) dX10_goBack_10 (fun x40 t40 => ?_)
    exact ret _ _ _ _ x40 _ hG ⟨fun q => absurd q (by omega), fun q => absurd q (by omega), fun _ => ⟨by omega, u, ok, rfl⟩⟩ dX10_goBack_12
