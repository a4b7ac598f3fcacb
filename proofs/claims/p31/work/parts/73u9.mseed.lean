def gbA (k : Bool) : Int := if k then 1 else -1000000003
set_option maxHeartbeats 4000000 in
set_option maxRecDepth 100000 in
theorem e_X10_goBack (l : Launch) (D : va_G) (cy : Nat → ClassId) (τ : ty_T) (hU : UQ τ) {K : KT} {P N u : Nat} {k0 k1 : Bool} (ok : OKG K P N u) {a900 : Nat} (h900 : τ a900 = some (0, 10)) (x901 : Int32) (hs1 : 0 ≤ (K.2.2.2.2 1003).toInt) (hs2 : 0 ≤ (K.2.2.2.2 1004).toInt) : KI l D cy yX10_goBack cX10_goBack 2 .int (rL 1) τ (cn (MM K P N u k0 k1) τ) [.ref a900, .int x901] (fun r w => (x901.toInt = 0 → r.toInt = gbA k0 ∧ (k0 = true → GS (KU K 1002 (K.2.2.2.2 1003)) τ P N k0 k1 w) ∧ (k0 = false → GS K τ P N k0 k1 w)) ∧ (x901.toInt = 1 → r.toInt = gbA k1 ∧ (k1 = true → GS (KU K 1002 (K.2.2.2.2 1004)) τ P N k0 k1 w) ∧ (k1 = false → GS K τ P N k0 k1 w)) ∧ (x901.toInt < 0 ∨ 1 < x901.toInt → r.toInt = -1000000001 ∧ GS K τ P N k0 k1 w)) := by
  refine k_metI "EdgeEchoesModel" rfl (by decide +kernel) (Nat.le_of_ble_eq_true rfl) (fun _ _ _ => rfl) ?_
  intro p e s m args below meth c Q ls X hG hl ret
  have hl : lv_has ls 2 [(0, .ref a900), (1, .int x901)] := hl
  obtain ⟨⟨⟨n9, m9, n9p⟩, ⟨n13, m13, n13p⟩, m3, m8⟩, ⟨mN, mP, mG, mL, mF⟩, mO, ⟨mK, mS, mQ, mZ⟩, hN72, hP8, hNP⟩ := id (MM_HB (k0 := k0) (k1 := k1) ok)
  have hu12 := ok.2.2.2
  have hk7 := ok.1.2.1
  have g901 := cI_rng x901
  refine lv_iload_n X.1 X.2.1 dX10_goBack_0 rfl (lv_at hl 1 rfl) ?_
  refine n_i2l X dX10_goBack_1 (fun w1 t1 => ?_)
  refine n_lc X dX10_goBack_2 (fun w2 t2 => ?_)
  have t2 : w2.toInt = 0 := t2
  refine n_lc X dX10_goBack_3 (fun w3 t3 => ?_)
  have t3 : w3.toInt = 1 := t3
  refine k_cSi X hG (c_X10_in l D cy τ _ cn_N cn_R (cn_F (S := [])) w1 w2 w3 ) ys_X10_in q_957 ⟨rfl, rfl⟩ ⟨Nat.le_of_ble_eq_true rfl, Nat.le_of_ble_eq_true rfl⟩ rfl hl.1 rfl (Nat.le_of_ble_eq_true rfl) ⟨Nat.zero_le _, Nat.zero_le _⟩ dX10_goBack_4 (fun x5 u6 H locs hG po4 => ?_)
  obtain ⟨eu6, po4⟩ := po4
  rw [eu6] at hG
  refine n_if_ne (tgt := 13) X dX10_goBack_7 (by decide) (fun c7 => ?_) (fun c7 => ?_)
  · rcases (show x901.toInt = 0 ∨ x901.toInt = 1 by omega) with ci | ci
    · refine lv_aload_n X.1 X.2.1 dX10_goBack_13 rfl (lv_at hl 0 rfl) ?_
      refine gf_10_4 X hG h900 q_880 dX10_goBack_14 (cn_N _ _ _ h900) (fun a8 h8 r8 => ?_)
      refine lv_iload_n X.1 X.2.1 dX10_goBack_17 rfl (lv_at hl 1 rfl) ?_
      refine tg_zald X hG h8 rfl (cI_in (n := 2) (by omega)) dX10_goBack_18 (fun x9 b9 r9 => ?_)
      have b9 := cI_10 b9
      have i14 : x901.toNatClampNeg = 0 := by have := cI_clamp (x := x901) (by omega); omega
      rw [i14] at r9
      have f9 := (cn_R _ _ _ _ h8 r9) (biM k0) (biM k0) rfl
      refine n_if_ne (tgt := 25) X dX10_goBack_19 (by decide) (fun c10 => ?_) (fun c10 => ?_)
      · have hk : k0 = true := by cases hq : k0 with | true => rfl | false => (rw [hq] at f9; exact absurd (show x9.toInt = 0 by have : biM false = 0 := rfl; omega) c10)
        refine lv_aload_n X.1 X.2.1 dX10_goBack_25 rfl (lv_at hl 0 rfl) ?_
        refine n_sp X dX10_goBack_26 (by decide) (by decide) (fun x11 t11 => ?_)
        refine n_sp X dX10_goBack_29 (by decide) (by decide) (fun x12 t12 => ?_)
        refine lv_iload_n X.1 X.2.1 dX10_goBack_32 rfl (lv_at hl 1 rfl) ?_
        refine n_mul X dX10_goBack_33 (by rw [t12]; omega) (by rw [t12]; omega) (fun x13 t13 => ?_)
        rw [t12] at t13
        refine n_add X dX10_goBack_34 (by omega) (by omega) (fun x14 t14 => ?_)
        refine n_ic X dX10_goBack_35 (by decide) (by decide) (fun x15 t15 => ?_)
        refine n_sp X dX10_goBack_36 (by decide) (by decide) (fun x16 t16 => ?_)
        refine k_cVv X hG (c_X10_copyRow l D cy τ _ hU h900 x14 x15 x16 (3242) (0) (247) (by omega) (by omega) (by omega) (by omega) (by omega) (by omega)) h900 rfl yv_X10_copyRow q_1012 ⟨rfl, rfl⟩ ⟨Nat.le_of_ble_eq_true rfl, Nat.le_of_ble_eq_true rfl⟩ rfl hl.1 rfl (Nat.le_of_ble_eq_true rfl) ⟨Nat.zero_le _, Nat.zero_le _⟩ dX10_goBack_39 (fun u18 H locs hG po17 => ?_)
        rw [po17] at hG
        have m15 : (cpM (MM K P N u k0 k1) 3242 0 247) 15 0 = some ((K.2.2.2.2 1003).toInt, (K.2.2.2.2 1003).toInt) := by
          have c15 : (siK K 0 : Int) = (K.2.2.2.2 1003).toInt := cI_clamp hs1
          rw [cpM_ne (by decide), MM_15, hk]
          show some ((siK K 0 : Int), (siK K 0 : Int)) = _
          rw [c15]
        have m3c : True := trivial
        refine lv_aload_n X.1 X.2.1 dX10_goBack_42 rfl (lv_at hl 0 rfl) ?_
        refine lv_aload_n X.1 X.2.1 dX10_goBack_43 rfl (lv_at hl 0 rfl) ?_
        refine gf_10_5 X hG h900 q_881 dX10_goBack_44 (cn_N _ _ _ h900) (fun a19 h19 r19 => ?_)
        refine lv_iload_n X.1 X.2.1 dX10_goBack_47 rfl (lv_at hl 1 rfl) ?_
        refine tg_iald X hG h19 rfl (cI_in (n := 2) (by omega)) dX10_goBack_48 (fun x20 r20 => ?_)
        have i15 : x901.toNatClampNeg = 0 := by have := cI_clamp (x := x901) (by omega); omega
        rw [i15] at r20
        have b20 := (cn_R _ _ _ _ h19 r20) _ _ m15
        refine pg_10_3 X hG h900 q_879 dX10_goBack_49 (cn (fsM (cpM (MM K P N u k0 k1) 3242 0 247) 3 ((K.2.2.2.2 1003).toInt, (K.2.2.2.2 1003).toInt)) τ) (cf_off hU h900 fsM_ne) (cf_oth fsM_ne) (cw_new h900 (ty_ryes fsM_at (by omega))) (fun H locs hG => ?_)
        refine lv_aload_n X.1 X.2.1 dX10_goBack_52 rfl (lv_at hl 0 rfl) ?_
        refine n_ic X dX10_goBack_53 (by decide) (by decide) (fun x21 t21 => ?_)
        refine pg_10_2 X hG h900 q_878 dX10_goBack_54 (cn (fsM (fsM (cpM (MM K P N u k0 k1) 3242 0 247) 3 ((K.2.2.2.2 1003).toInt, (K.2.2.2.2 1003).toInt)) 2 (0, 0)) τ) (cf_off hU h900 fsM_ne) (cf_oth fsM_ne) (cw_new h900 (ty_ryes fsM_at (by omega))) (fun H locs hG => ?_)
        have hG := TG.sub hG (gb_k (v := K.2.2.2.2 1003) hk7 hs1 ok.2.2.2 (Or.inl ⟨rfl, hk⟩))
        refine n_ic X dX10_goBack_57 (by decide) (by decide) (fun x22 t22 => ?_)
        exact ret _ _ _ _ x22 _ hG ⟨fun _ => ⟨by rw [hk]; exact (show x22.toInt = 1 by omega), fun _ => ⟨0, KU_ok (OKG.to ok (by omega)), rfl⟩, fun q => by rw [hk] at q; cases q⟩, fun q => absurd q (by omega), fun q => absurd q (by omega)⟩ dX10_goBack_58
      · refine n_ldc X q_1132 (n := -1000000003) (by decide +kernel) dX10_goBack_22 (fun x23 t23 => ?_)
        have hk : k0 = false := by cases hq : k0 with | false => rfl | true => (rw [hq] at f9; exact absurd (show x9.toInt = 1 by have : biM true = 1 := rfl; omega) (by omega))
        exact ret _ _ _ _ x23 _ hG ⟨fun _ => ⟨by rw [hk]; exact (show x23.toInt = -1000000003 by omega), fun q => (by rw [hk] at q; cases q), fun _ => ⟨u, ok, rfl⟩⟩, fun q => absurd q (by omega), fun q => absurd q (by omega)⟩ dX10_goBack_24
    · refine lv_aload_n X.1 X.2.1 dX10_goBack_13 rfl (lv_at hl 0 rfl) ?_
      refine gf_10_4 X hG h900 q_880 dX10_goBack_14 (cn_N _ _ _ h900) (fun a24 h24 r24 => ?_)
      refine lv_iload_n X.1 X.2.1 dX10_goBack_17 rfl (lv_at hl 1 rfl) ?_
      refine tg_zald X hG h24 rfl (cI_in (n := 2) (by omega)) dX10_goBack_18 (fun x25 b25 r25 => ?_)
      have b25 := cI_10 b25
      have i14 : x901.toNatClampNeg = 1 := by have := cI_clamp (x := x901) (by omega); omega
      rw [i14] at r25
      have f25 := (cn_R _ _ _ _ h24 r25) (biM k1) (biM k1) rfl
      refine n_if_ne (tgt := 25) X dX10_goBack_19 (by decide) (fun c26 => ?_) (fun c26 => ?_)
      · have hk : k1 = true := by cases hq : k1 with | true => rfl | false => (rw [hq] at f25; exact absurd (show x25.toInt = 0 by have : biM false = 0 := rfl; omega) c26)
        refine lv_aload_n X.1 X.2.1 dX10_goBack_25 rfl (lv_at hl 0 rfl) ?_
        refine n_sp X dX10_goBack_26 (by decide) (by decide) (fun x27 t27 => ?_)
        refine n_sp X dX10_goBack_29 (by decide) (by decide) (fun x28 t28 => ?_)
        refine lv_iload_n X.1 X.2.1 dX10_goBack_32 rfl (lv_at hl 1 rfl) ?_
        refine n_mul X dX10_goBack_33 (by rw [t28]; omega) (by rw [t28]; omega) (fun x29 t29 => ?_)
        rw [t28] at t29
        refine n_add X dX10_goBack_34 (by omega) (by omega) (fun x30 t30 => ?_)
        refine n_ic X dX10_goBack_35 (by decide) (by decide) (fun x31 t31 => ?_)
        refine n_sp X dX10_goBack_36 (by decide) (by decide) (fun x32 t32 => ?_)
        refine k_cVv X hG (c_X10_copyRow l D cy τ _ hU h900 x30 x31 x32 (3489) (0) (247) (by omega) (by omega) (by omega) (by omega) (by omega) (by omega)) h900 rfl yv_X10_copyRow q_1012 ⟨rfl, rfl⟩ ⟨Nat.le_of_ble_eq_true rfl, Nat.le_of_ble_eq_true rfl⟩ rfl hl.1 rfl (Nat.le_of_ble_eq_true rfl) ⟨Nat.zero_le _, Nat.zero_le _⟩ dX10_goBack_39 (fun u34 H locs hG po33 => ?_)
        rw [po33] at hG
        have m15 : (cpM (MM K P N u k0 k1) 3489 0 247) 15 1 = some ((K.2.2.2.2 1004).toInt, (K.2.2.2.2 1004).toInt) := by
          have c15 : (siK K 1 : Int) = (K.2.2.2.2 1004).toInt := cI_clamp hs2
          rw [cpM_ne (by decide), MM_15, hk]
          show some ((siK K 1 : Int), (siK K 1 : Int)) = _
          rw [c15]
        have m3c : True := trivial
        refine lv_aload_n X.1 X.2.1 dX10_goBack_42 rfl (lv_at hl 0 rfl) ?_
        refine lv_aload_n X.1 X.2.1 dX10_goBack_43 rfl (lv_at hl 0 rfl) ?_
        refine gf_10_5 X hG h900 q_881 dX10_goBack_44 (cn_N _ _ _ h900) (fun a35 h35 r35 => ?_)
        refine lv_iload_n X.1 X.2.1 dX10_goBack_47 rfl (lv_at hl 1 rfl) ?_
        refine tg_iald X hG h35 rfl (cI_in (n := 2) (by omega)) dX10_goBack_48 (fun x36 r36 => ?_)
        have i15 : x901.toNatClampNeg = 1 := by have := cI_clamp (x := x901) (by omega); omega
        rw [i15] at r36
        have b36 := (cn_R _ _ _ _ h35 r36) _ _ m15
        refine pg_10_3 X hG h900 q_879 dX10_goBack_49 (cn (fsM (cpM (MM K P N u k0 k1) 3489 0 247) 3 ((K.2.2.2.2 1004).toInt, (K.2.2.2.2 1004).toInt)) τ) (cf_off hU h900 fsM_ne) (cf_oth fsM_ne) (cw_new h900 (ty_ryes fsM_at (by omega))) (fun H locs hG => ?_)
        refine lv_aload_n X.1 X.2.1 dX10_goBack_52 rfl (lv_at hl 0 rfl) ?_
        refine n_ic X dX10_goBack_53 (by decide) (by decide) (fun x37 t37 => ?_)
        refine pg_10_2 X hG h900 q_878 dX10_goBack_54 (cn (fsM (fsM (cpM (MM K P N u k0 k1) 3489 0 247) 3 ((K.2.2.2.2 1004).toInt, (K.2.2.2.2 1004).toInt)) 2 (0, 0)) τ) (cf_off hU h900 fsM_ne) (cf_oth fsM_ne) (cw_new h900 (ty_ryes fsM_at (by omega))) (fun H locs hG => ?_)
        have hG := TG.sub hG (gb_k (v := K.2.2.2.2 1004) hk7 hs2 ok.2.2.2 (Or.inr ⟨rfl, hk⟩))
        refine n_ic X dX10_goBack_57 (by decide) (by decide) (fun x38 t38 => ?_)
        exact ret _ _ _ _ x38 _ hG ⟨fun q => absurd q (by omega), fun _ => ⟨by rw [hk]; exact (show x38.toInt = 1 by omega), fun _ => ⟨0, KU_ok (OKG.to ok (by omega)), rfl⟩, fun q => by rw [hk] at q; cases q⟩, fun q => absurd q (by omega)⟩ dX10_goBack_58
      · refine n_ldc X q_1132 (n := -1000000003) (by decide +kernel) dX10_goBack_22 (fun x39 t39 => ?_)
        have hk : k1 = false := by cases hq : k1 with | false => rfl | true => (rw [hq] at f25; exact absurd (show x25.toInt = 1 by have : biM true = 1 := rfl; omega) (by omega))
        exact ret _ _ _ _ x39 _ hG ⟨fun q => absurd q (by omega), fun _ => ⟨by rw [hk]; exact (show x39.toInt = -1000000003 by omega), fun q => (by rw [hk] at q; cases q), fun _ => ⟨u, ok, rfl⟩⟩, fun q => absurd q (by omega)⟩ dX10_goBack_24
  · refine n_ldc X q_1099 (n := -1000000001) (by decide +kernel) dX10_goBack_10 (fun x40 t40 => ?_)
    exact ret _ _ _ _ x40 _ hG ⟨fun q => absurd q (by omega), fun q => absurd q (by omega), fun _ => ⟨by omega, u, ok, rfl⟩⟩ dX10_goBack_12
