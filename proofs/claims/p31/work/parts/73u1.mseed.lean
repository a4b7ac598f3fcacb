set_option maxHeartbeats 4000000 in
set_option maxRecDepth 100000 in
theorem e_X10_isLine (l : Launch) (D : va_G) (cy : Nat → ClassId) (τ : ty_T) (ρ : ty_R) {M : md_T} (hN : ty_N τ ρ) (hR : ty_Rg M τ ρ) (hF : ty_Wf M τ ρ []) {a900 : Nat} (h900 : τ a900 = some (0, 10)) {P N : Nat} (hB : HB M P N) {tt : Nat} (h247 : M 10 247 = some ((tt : Int), (tt : Int))) : KI l D cy yX10_isLine cX10_isLine 1 .boolean (rL 0) τ ρ [.ref a900] (fun r u => u = ρ ∧ (r.toInt = 0 ∨ r.toInt = 1) ∧ (r.toInt = 0 ↔ ¬ tt = 1)) := by
  refine k_metI "EdgeEchoesModel" rfl (by decide +kernel) (Nat.le_of_ble_eq_true rfl) (fun r u h => (cI_nar (cI_01 h.2.1)).1) ?_
  intro p e s m args below meth c Q ls X hG hl ret
  have hl : lv_has ls 1 [(0, .ref a900)] := hl
  obtain ⟨⟨⟨n9, m9, n9p⟩, ⟨n13, m13, n13p⟩, ⟨n3, m3, n3p⟩, m8⟩, ⟨mN, mP, ⟨gG, mG, lG⟩, mL, mF⟩, mO, ⟨mK, mS, mQ, mZ⟩, hN72, hP8, hNP⟩ := id hB
  refine lv_aload_n X.1 X.2.1 dX10_isLine_0 rfl (lv_at hl 0 rfl) ?_
  refine gf_10_0 X hG h900 q_876 dX10_isLine_1 (hN _ _ _ h900) (fun a1 h1 r1 => ?_)
  refine n_sp X dX10_isLine_4 (by decide) (by decide) (fun x2 t2 => ?_)
  refine tg_iald X hG h1 rfl (cI_in (n := 4261) (by omega)) dX10_isLine_7 (fun x3 r3 => ?_)
  have b3 := rdR (hR _ _ _ _ h1 r3) (n := 247) (by omega) h247
  refine n_ic X dX10_isLine_8 (by decide) (by decide) (fun x4 t4 => ?_)
  refine n_icmp_ne (tgt := 16) X dX10_isLine_9 (by decide) (fun c5 => ?_) (fun c5 => ?_)
  · refine n_ic X dX10_isLine_16 (by decide) (by decide) (fun x6 t6 => ?_)
    exact ret _ _ _ _ x6 _ hG ⟨rfl, by omega, by omega⟩ dX10_isLine_17
  · refine n_ic X dX10_isLine_12 (by decide) (by decide) (fun x7 t7 => ?_)
    refine lv_goto (tgt := 17) X.1 X.2.1 dX10_isLine_13 (by decide) ?_
    exact ret _ _ _ _ x7 _ hG ⟨rfl, by omega, by omega⟩ dX10_isLine_17
