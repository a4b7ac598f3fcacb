set_option maxHeartbeats 4000000 in
set_option maxRecDepth 100000 in
theorem e_X10_tick (l : Launch) (D : va_G) (cy : Nat → ClassId) (τ : ty_T) (hU : UQ τ) {K : KT} {P N u : Nat} {k0 k1 : Bool} (ok : OKG K P N u) {a900 : Nat} (h900 : τ a900 = some (0, 10)) (x901 : Int32) (hs0 : 0 ≤ (K.2.2.2.2 1002).toInt) (hbb : bK K ≤ 80000) : KI l D cy yX10_tick cX10_tick 2 .int (rL 5) τ (cn (MM K P N u k0 k1) τ) [.ref a900, .int x901] (fun r w => GS (KU K 1005 (nI (bK K + 50))) τ P N k0 k1 w ∧ True) := by
  refine k_metI "EdgeEchoesModel" rfl (by decide +kernel) (Nat.le_of_ble_eq_true rfl) (fun _ _ _ => rfl) ?_
  intro p e s m args below meth c Q ls X hG hl ret
  have hl : lv_has ls 2 [(0, .ref a900), (1, .int x901)] := hl
  obtain ⟨⟨⟨n9, m9, n9p⟩, ⟨n13, m13, n13p⟩, ⟨n3, m3, n3p⟩, m8⟩, ⟨mN, mP, ⟨gG, mG, lG⟩, mL, mF⟩, mO, ⟨mK, mS, mQ, mZ⟩, hN72, hP8, hNP⟩ := id (MM_HB (k0 := k0) (k1 := k1) ok)
  have hu12 := ok.2.2.2
  have hk7 := ok.1.2.1
  have hcl : (nI (bK K + 50)).toNatClampNeg = bK K + 50 := nI_clamp (by omega)
  have g901 := cI_rng x901
  refine lv_iload_n X.1 X.2.1 dX10_tick_0 rfl (lv_at hl 1 rfl) ?_
  refine n_i2l X dX10_tick_1 (fun w1 t1 => ?_)
  refine n_lc X dX10_tick_2 (fun w2 t2 => ?_)
  have t2 : w2.toInt = 1 := t2
  refine n_ldl X q_1131 (n := 50) (by decide +kernel) dX10_tick_3 (fun w3 e3 t3 => ?_)
  refine k_cSi X hG (c_X10_in l D cy τ _ cn_N cn_R (cn_F (S := [])) w1 w2 w3 ) ys_X10_in q_957 ⟨rfl, rfl⟩ ⟨Nat.le_of_ble_eq_true rfl, Nat.le_of_ble_eq_true rfl⟩ rfl hl.1 rfl (Nat.le_of_ble_eq_true rfl) ⟨Nat.zero_le _, Nat.zero_le _⟩ dX10_tick_6 (fun x5 u6 H locs hG po4 => ?_)
  obtain ⟨eu6, po4⟩ := po4
  rw [eu6] at hG
  refine n_if_ne (tgt := 15) X dX10_tick_9 (by decide) (fun c7 => ?_) (fun c7 => ?_)
  · refine lv_aload_n X.1 X.2.1 dX10_tick_15 rfl (lv_at hl 0 rfl) ?_
    refine k_cVi X hG (c_X10_isLine l D cy τ _ cn_N cn_R (cn_F (S := [])) h900 (MM_HB (k0 := k0) (k1 := k1) ok)) h900 rfl yv_X10_isLine q_1028 ⟨rfl, rfl⟩ ⟨Nat.le_of_ble_eq_true rfl, Nat.le_of_ble_eq_true rfl⟩ rfl hl.1 rfl (Nat.le_of_ble_eq_true rfl) ⟨Nat.zero_le _, Nat.zero_le _⟩ dX10_tick_16 (fun x9 u10 H locs hG po8 => ?_)
    obtain ⟨eu10, po8⟩ := po8
    rw [eu10] at hG
    refine n_if_ne (tgt := 25) X dX10_tick_19 (by decide) (fun c11 => ?_) (fun c11 => ?_)
    · refine lv_aload_n X.1 X.2.1 dX10_tick_25 rfl (lv_at hl 0 rfl) ?_
      refine gf_10_0 X hG h900 q_876 dX10_tick_26 (cn_N _ _ _ h900) (fun a12 h12 r12 => ?_)
      refine n_sp X dX10_tick_29 (by decide) (by decide) (fun x13 t13 => ?_)
      refine tg_iald X hG h12 rfl (cI_in (n := 4261) (by omega)) dX10_tick_32 (fun x14 r14 => ?_)
      refine n_ldc X q_1133 (n := 90000) (by decide +kernel) dX10_tick_33 (fun x15 t15 => ?_)
      refine n_icmp_le (tgt := 41) X dX10_tick_35 (by decide) (fun c16 => ?_) (fun c16 => ?_)
      · refine lv_aload_n X.1 X.2.1 dX10_tick_41 rfl (lv_at hl 0 rfl) ?_
        refine k_cVv X hG (c_X10_keepPast l D cy τ hU ok h900 ) h900 rfl yv_X10_keepPast q_1134 ⟨rfl, rfl⟩ ⟨Nat.le_of_ble_eq_true rfl, Nat.le_of_ble_eq_true rfl⟩ rfl hl.1 rfl (Nat.le_of_ble_eq_true rfl) ⟨Nat.zero_le _, Nat.zero_le _⟩ dX10_tick_42 (fun u19 H locs hG po17 => ?_)
        rw [po17] at hG
        obtain ⟨⟨⟨n9, m9, n9p⟩, ⟨n13, m13, n13p⟩, ⟨n3, m3, n3p⟩, m8⟩, ⟨mN, mP, ⟨gG, mG, lG⟩, mL, mF⟩, mO, ⟨mK, mS, mQ, mZ⟩, hN72, hP8, hNP⟩ := id (MM_HB (k0 := k0) (k1 := k1) (OKG.up ok))
        refine lv_aload_n X.1 X.2.1 dX10_tick_45 rfl (lv_at hl 0 rfl) ?_
        refine n_ic X dX10_tick_46 (by decide) (by decide) (fun x20 t20 => ?_)
        refine lv_iload_n X.1 X.2.1 dX10_tick_47 rfl (lv_at hl 1 rfl) ?_
        have hG := TG.sub hG (SD_in (u := upN u) (k0 := k0) (k1 := k1) hs0)
        refine k_cVv X hG (e_X10_ticks0 l D cy τ hU (MM_HB (k0 := k0) (k1 := k1) (OKG.up ok)) (MM_LV (k0 := k0) (k1 := k1) (OKG.up ok)) hs0 (by omega) h900 x20 (by omega) x901 (by omega)) h900 rfl yv_X10_ticks q_1046 ⟨rfl, rfl⟩ ⟨Nat.le_of_ble_eq_true rfl, Nat.le_of_ble_eq_true rfl⟩ rfl hl.1 rfl (Nat.le_of_ble_eq_true rfl) ⟨Nat.zero_le _, Nat.zero_le _⟩ dX10_tick_48 (fun u23 H locs hG po21 => ?_)
        rw [po21] at hG
        refine lv_aload_n X.1 X.2.1 dX10_tick_51 rfl (lv_at hl 0 rfl) ?_
        refine gf_10_0 X hG h900 q_876 dX10_tick_52 (cn_N _ _ _ h900) (fun a24 h24 r24 => ?_)
        refine n_sp X dX10_tick_55 (by decide) (by decide) (fun x25 t25 => ?_)
        refine tg_iald X hG h24 rfl (cI_in (n := 4261) (by omega)) dX10_tick_58 (fun x26 r26 => ?_)
        have hG := TG.le hG (SD_out0 (v := nI (bK K + 50)) hk7 hs0 (by omega) (by omega))
        exact ret _ _ _ _ x26 _ hG ⟨⟨_, KU_ok (OKG.up ok), rfl⟩, trivial⟩ dX10_tick_59
      · refine n_ldc X q_961 (n := -1000000004) (by decide +kernel) dX10_tick_38 (fun x27 t27 => ?_)
        have hG := TG.le hG (MM_B (v := nI (bK K + 50)) hk7 (by omega))
        exact ret _ _ _ _ x27 _ hG ⟨⟨_, KU_ok ok, rfl⟩, trivial⟩ dX10_tick_40
    · refine n_ldc X q_1132 (n := -1000000003) (by decide +kernel) dX10_tick_22 (fun x28 t28 => ?_)
      have hG := TG.le hG (MM_B (v := nI (bK K + 50)) hk7 (by omega))
      exact ret _ _ _ _ x28 _ hG ⟨⟨_, KU_ok ok, rfl⟩, trivial⟩ dX10_tick_24
  · refine n_ldc X q_960 (n := -1000000002) (by decide +kernel) dX10_tick_12 (fun x29 t29 => ?_)
    have hG := TG.le hG (MM_B (v := nI (bK K + 50)) hk7 (by omega))
    exact ret _ _ _ _ x29 _ hG ⟨⟨_, KU_ok ok, rfl⟩, trivial⟩ dX10_tick_14
