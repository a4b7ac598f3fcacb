set_option maxHeartbeats 4000000 in
set_option maxRecDepth 100000 in
theorem c_X1_has (l : Launch) (D : va_G) (cy : Nat → ClassId) (τ : ty_T) (ρ : ty_R) {M : md_T} (hN : ty_N τ ρ) (hR : ty_Rg M τ ρ) (hF : ty_Wf M τ ρ []) {a900 : Nat} (h900 : τ a900 = some (0, 1)) (x901 : Int32) : KI l D cy yX1_has cX1_has 2 .boolean (rL 0) τ ρ [.ref a900, .int x901] (fun r u => u = ρ ∧ (r.toInt = 0 ∨ r.toInt = 1) ∧ (r.toInt ≠ 0 → 0 ≤ x901.toInt ∧ x901.toInt ≤ 5)) := by
  refine k_metI "EdgeEchoes$Gates" rfl (by decide +kernel) (Nat.le_of_ble_eq_true rfl) (fun r u h => (cI_nar (cI_01 h.2.1)).1) ?_
  intro p e s m args below meth c Q ls X hG hl ret
  have hl : lv_has ls 2 [(0, .ref a900), (1, .int x901)] := hl
  have g901 := cI_rng x901
  refine lv_iload_n X.1 X.2.1 dX1_has_0 rfl (lv_at hl 1 rfl) ?_
  refine n_if_lt (tgt := 22) X dX1_has_1 (by decide) (fun c1 => ?_) (fun c1 => ?_)
  · refine n_ic X dX1_has_22 (by decide) (by decide) (fun x2 t2 => ?_)
    exact ret _ _ _ _ x2 _ hG ⟨rfl, by omega⟩ dX1_has_23
  · refine lv_iload_n X.1 X.2.1 dX1_has_4 rfl (lv_at hl 1 rfl) ?_
    refine lv_aload_n X.1 X.2.1 dX1_has_5 rfl (lv_at hl 0 rfl) ?_
    refine gf_1_6 X hG h900 q_144 dX1_has_6 (fun x3 r3 => ?_)
    have b3 := (hR _ _ _ _ h900 r3) _ _ rfl
    refine n_icmp_ge (tgt := 22) X dX1_has_9 (by decide) (fun c4 => ?_) (fun c4 => ?_)
    · refine n_ic X dX1_has_22 (by decide) (by decide) (fun x5 t5 => ?_)
      exact ret _ _ _ _ x5 _ hG ⟨rfl, by omega⟩ dX1_has_23
    · refine lv_iload_n X.1 X.2.1 dX1_has_12 rfl (lv_at hl 1 rfl) ?_
      refine n_bp X dX1_has_13 (by decide) (by decide) (fun x6 t6 => ?_)
      refine n_icmp_ge (tgt := 22) X dX1_has_15 (by decide) (fun c7 => ?_) (fun c7 => ?_)
      · exact absurd c7 (by omega)
      · refine n_ic X dX1_has_18 (by decide) (by decide) (fun x8 t8 => ?_)
        refine lv_goto (tgt := 23) X.1 X.2.1 dX1_has_19 (by decide) ?_
        exact ret _ _ _ _ x8 _ hG ⟨rfl, by omega⟩ dX1_has_23
set_option maxHeartbeats 4000000 in
set_option maxRecDepth 100000 in
theorem c_X1_calmSights (l : Launch) (D : va_G) (cy : Nat → ClassId) (τ : ty_T) (ρ : ty_R) {M : md_T} (hN : ty_N τ ρ) (hR : ty_Rg M τ ρ) (hF : ty_Wf M τ ρ [5000]) {a900 : Nat} (h900 : τ a900 = some (0, 1)) : KV l D cy yX1_calmSights cX1_calmSights 1 (rL 1) τ ρ [.ref a900] (fun w => w = ρ) := by
  refine k_metV "EdgeEchoes$Gates" rfl (by decide +kernel) (Nat.le_of_ble_eq_true rfl) ?_
  intro p e s m args below meth c Q ls X hG hl ret
  have hl : lv_has ls 1 [(0, .ref a900)] := hl
  refine lv_aload_n X.1 X.2.1 dX1_calmSights_0 rfl (lv_at hl 0 rfl) ?_
  refine gf_1_3 X hG h900 q_137 dX1_calmSights_1 (hN _ _ _ h900) (fun a1 h1 r1 => ?_)
  refine n_ic X dX1_calmSights_4 (by decide) (by decide) (fun x2 t2 => ?_)
  refine k_cSv X hG (c_J7_fill_53178 l D cy τ _ hN hR (by decide) rfl h1 x2 (fun j => hF _ _ _ _ h1 (ty_in (n := 5000) rfl) (ty_rno rfl))) ys_J7_fill_53178 q_360 ⟨rfl, rfl⟩ ⟨Nat.le_of_ble_eq_true rfl, Nat.le_of_ble_eq_true rfl⟩ rfl hl.1 rfl (Nat.le_of_ble_eq_true rfl) ⟨Nat.zero_le _, Nat.zero_le _⟩ dX1_calmSights_5 (fun u5 H locs hG po3 => ?_)
  rw [po3] at hG
  refine lv_aload_n X.1 X.2.1 dX1_calmSights_8 rfl (lv_at hl 0 rfl) ?_
  refine gf_1_4 X hG h900 q_140 dX1_calmSights_9 (hN _ _ _ h900) (fun a6 h6 r6 => ?_)
  refine n_ic X dX1_calmSights_12 (by decide) (by decide) (fun x7 t7 => ?_)
  refine k_cSv X hG (c_J7_fill_53178 l D cy τ _ hN hR (by decide) rfl h6 x7 (fun j => hF _ _ _ _ h6 (ty_in (n := 5000) rfl) (ty_rno rfl))) ys_J7_fill_53178 q_360 ⟨rfl, rfl⟩ ⟨Nat.le_of_ble_eq_true rfl, Nat.le_of_ble_eq_true rfl⟩ rfl hl.1 rfl (Nat.le_of_ble_eq_true rfl) ⟨Nat.zero_le _, Nat.zero_le _⟩ dX1_calmSights_13 (fun u10 H locs hG po8 => ?_)
  rw [po8] at hG
  refine lv_aload_n X.1 X.2.1 dX1_calmSights_16 rfl (lv_at hl 0 rfl) ?_
  refine gf_1_5 X hG h900 q_143 dX1_calmSights_17 (hN _ _ _ h900) (fun a11 h11 r11 => ?_)
  refine n_ic X dX1_calmSights_20 (by decide) (by decide) (fun x12 t12 => ?_)
  refine k_cSv X hG (c_J7_fill_53178 l D cy τ _ hN hR (by decide) rfl h11 x12 (fun j => hF _ _ _ _ h11 (ty_in (n := 5000) rfl) (ty_rno rfl))) ys_J7_fill_53178 q_360 ⟨rfl, rfl⟩ ⟨Nat.le_of_ble_eq_true rfl, Nat.le_of_ble_eq_true rfl⟩ rfl hl.1 rfl (Nat.le_of_ble_eq_true rfl) ⟨Nat.zero_le _, Nat.zero_le _⟩ dX1_calmSights_21 (fun u15 H locs hG po13 => ?_)
  rw [po13] at hG
  exact ret _ _ _ _ _ hG rfl dX1_calmSights_24
set_option maxHeartbeats 4000000 in
set_option maxRecDepth 100000 in
theorem c_X1_clear (l : Launch) (D : va_G) (cy : Nat → ClassId) (τ : ty_T) (ρ : ty_R) {M : md_T} (hN : ty_N τ ρ) (hR : ty_Rg M τ ρ) (hF : ty_Wf M τ ρ [106, 5000]) {a900 : Nat} (h900 : τ a900 = some (0, 1)) : KV l D cy yX1_clear cX1_clear 1 (rL 2) τ ρ [.ref a900] (fun w => w = ρ) := by
  refine k_metV "EdgeEchoes$Gates" rfl (by decide +kernel) (Nat.le_of_ble_eq_true rfl) ?_
  intro p e s m args below meth c Q ls X hG hl ret
  have hl : lv_has ls 1 [(0, .ref a900)] := hl
  refine lv_aload_n X.1 X.2.1 dX1_clear_0 rfl (lv_at hl 0 rfl) ?_
  refine gf_1_0 X hG h900 q_131 dX1_clear_1 (hN _ _ _ h900) (fun a1 h1 r1 => ?_)
  refine n_ic X dX1_clear_4 (by decide) (by decide) (fun x2 t2 => ?_)
  refine k_cSv X hG (c_J7_fill_53178 l D cy τ _ hN hR (by decide) rfl h1 x2 (fun j => hF _ _ _ _ h1 (ty_in (n := 5000) rfl) (ty_rno rfl))) ys_J7_fill_53178 q_360 ⟨rfl, rfl⟩ ⟨Nat.le_of_ble_eq_true rfl, Nat.le_of_ble_eq_true rfl⟩ rfl hl.1 rfl (Nat.le_of_ble_eq_true rfl) ⟨Nat.zero_le _, Nat.zero_le _⟩ dX1_clear_5 (fun u5 H locs hG po3 => ?_)
  rw [po3] at hG
  refine lv_aload_n X.1 X.2.1 dX1_clear_8 rfl (lv_at hl 0 rfl) ?_
  refine gf_1_1 X hG h900 q_133 dX1_clear_9 (hN _ _ _ h900) (fun a6 h6 r6 => ?_)
  refine n_ic X dX1_clear_12 (by decide) (by decide) (fun x7 t7 => ?_)
  refine k_cSv X hG (c_J7_fill_53178 l D cy τ _ hN hR (by decide) rfl h6 x7 (fun j => hF _ _ _ _ h6 (ty_in (n := 5000) rfl) (ty_rno rfl))) ys_J7_fill_53178 q_360 ⟨rfl, rfl⟩ ⟨Nat.le_of_ble_eq_true rfl, Nat.le_of_ble_eq_true rfl⟩ rfl hl.1 rfl (Nat.le_of_ble_eq_true rfl) ⟨Nat.zero_le _, Nat.zero_le _⟩ dX1_clear_13 (fun u10 H locs hG po8 => ?_)
  rw [po8] at hG
  refine lv_aload_n X.1 X.2.1 dX1_clear_16 rfl (lv_at hl 0 rfl) ?_
  refine gf_1_2 X hG h900 q_135 dX1_clear_17 (hN _ _ _ h900) (fun a11 h11 r11 => ?_)
  refine n_ic X dX1_clear_20 (by decide) (by decide) (fun x12 t12 => ?_)
  refine k_cSv X hG (c_J7_fill_53178 l D cy τ _ hN hR (by decide) rfl h11 x12 (fun j => hF _ _ _ _ h11 (ty_in (n := 5000) rfl) (ty_rno rfl))) ys_J7_fill_53178 q_360 ⟨rfl, rfl⟩ ⟨Nat.le_of_ble_eq_true rfl, Nat.le_of_ble_eq_true rfl⟩ rfl hl.1 rfl (Nat.le_of_ble_eq_true rfl) ⟨Nat.zero_le _, Nat.zero_le _⟩ dX1_clear_21 (fun u15 H locs hG po13 => ?_)
  rw [po13] at hG
  refine lv_aload_n X.1 X.2.1 dX1_clear_24 rfl (lv_at hl 0 rfl) ?_
  refine k_cVv X hG (c_X1_calmSights l D cy τ _ hN hR (ty_Wf.sub (S' := [5000]) hF (by decide)) h900) h900 rfl yv_X1_calmSights q_361 ⟨rfl, rfl⟩ ⟨Nat.le_of_ble_eq_true rfl, Nat.le_of_ble_eq_true rfl⟩ rfl hl.1 rfl (Nat.le_of_ble_eq_true rfl) ⟨Nat.zero_le _, Nat.zero_le _⟩ dX1_clear_25 (fun u18 H locs hG po16 => ?_)
  rw [po16] at hG
  refine lv_aload_n X.1 X.2.1 dX1_clear_28 rfl (lv_at hl 0 rfl) ?_
  refine n_ic X dX1_clear_29 (by decide) (by decide) (fun x19 t19 => ?_)
  refine pf_1_6 X hG h900 q_144 dX1_clear_30 (hF _ _ _ _ h900 (ty_in (n := 106) rfl) (ty_ryes rfl (by omega))) (fun H locs hG => ?_)
  exact ret _ _ _ _ _ hG rfl dX1_clear_33
set_option maxHeartbeats 4000000 in
set_option maxRecDepth 100000 in
theorem c_X1_copyFrom (l : Launch) (D : va_G) (cy : Nat → ClassId) (τ : ty_T) (ρ : ty_R) {M : md_T} (hN : ty_N τ ρ) (hR : ty_Rg M τ ρ) (hF : ty_Wf M τ ρ [106, 5000]) {a900 : Nat} (h900 : τ a900 = some (0, 1)) {a901 : Nat} (h901 : τ a901 = some (0, 1)) : KV l D cy yX1_copyFrom cX1_copyFrom 2 (rL 1) τ ρ [.ref a900, .ref a901] (fun w => w = ρ) := by
  refine k_metV "EdgeEchoes$Gates" rfl (by decide +kernel) (Nat.le_of_ble_eq_true rfl) ?_
  intro p e s m args below meth c Q ls X hG hl ret
  have hl : lv_has ls 2 [(0, .ref a900), (1, .ref a901)] := hl
  refine lv_aload_n X.1 X.2.1 dX1_copyFrom_0 rfl (lv_at hl 1 rfl) ?_
  refine gf_1_0 X hG h901 q_131 dX1_copyFrom_1 (hN _ _ _ h901) (fun a1 h1 r1 => ?_)
  refine n_ic X dX1_copyFrom_4 (by decide) (by decide) (fun x2 t2 => ?_)
  refine lv_aload_n X.1 X.2.1 dX1_copyFrom_5 rfl (lv_at hl 0 rfl) ?_
  refine gf_1_0 X hG h900 q_131 dX1_copyFrom_6 (hN _ _ _ h900) (fun a3 h3 r3 => ?_)
  refine n_ic X dX1_copyFrom_9 (by decide) (by decide) (fun x4 t4 => ?_)
  refine n_bp X dX1_copyFrom_10 (by decide) (by decide) (fun x5 t5 => ?_)
  refine tg_copy X hG hl.1 h1 h3 rfl rfl (by omega) (by omega) (by omega) (by show _ ≤ ((6 : Nat) : Int); omega) (by show _ ≤ ((6 : Nat) : Int); omega) q_531 q_526 q_525 q_19 (Nat.le_of_ble_eq_true rfl) (Nat.le_of_ble_eq_true rfl) dX1_copyFrom_12 (fun j j2 x hx => hF _ _ _ _ h3 (ty_in (n := 5000) rfl) (ty_rno rfl)) (fun H locs hG => ?_)
  refine lv_aload_n X.1 X.2.1 dX1_copyFrom_15 rfl (lv_at hl 1 rfl) ?_
  refine gf_1_1 X hG h901 q_133 dX1_copyFrom_16 (hN _ _ _ h901) (fun a6 h6 r6 => ?_)
  refine n_ic X dX1_copyFrom_19 (by decide) (by decide) (fun x7 t7 => ?_)
  refine lv_aload_n X.1 X.2.1 dX1_copyFrom_20 rfl (lv_at hl 0 rfl) ?_
  refine gf_1_1 X hG h900 q_133 dX1_copyFrom_21 (hN _ _ _ h900) (fun a8 h8 r8 => ?_)
  refine n_ic X dX1_copyFrom_24 (by decide) (by decide) (fun x9 t9 => ?_)
  refine n_bp X dX1_copyFrom_25 (by decide) (by decide) (fun x10 t10 => ?_)
  refine tg_copy X hG hl.1 h6 h8 rfl rfl (by omega) (by omega) (by omega) (by show _ ≤ ((6 : Nat) : Int); omega) (by show _ ≤ ((6 : Nat) : Int); omega) q_531 q_526 q_525 q_19 (Nat.le_of_ble_eq_true rfl) (Nat.le_of_ble_eq_true rfl) dX1_copyFrom_27 (fun j j2 x hx => hF _ _ _ _ h8 (ty_in (n := 5000) rfl) (ty_rno rfl)) (fun H locs hG => ?_)
  refine lv_aload_n X.1 X.2.1 dX1_copyFrom_30 rfl (lv_at hl 1 rfl) ?_
  refine gf_1_2 X hG h901 q_135 dX1_copyFrom_31 (hN _ _ _ h901) (fun a11 h11 r11 => ?_)
  refine n_ic X dX1_copyFrom_34 (by decide) (by decide) (fun x12 t12 => ?_)
  refine lv_aload_n X.1 X.2.1 dX1_copyFrom_35 rfl (lv_at hl 0 rfl) ?_
  refine gf_1_2 X hG h900 q_135 dX1_copyFrom_36 (hN _ _ _ h900) (fun a13 h13 r13 => ?_)
  refine n_ic X dX1_copyFrom_39 (by decide) (by decide) (fun x14 t14 => ?_)
  refine n_bp X dX1_copyFrom_40 (by decide) (by decide) (fun x15 t15 => ?_)
  refine tg_copy X hG hl.1 h11 h13 rfl rfl (by omega) (by omega) (by omega) (by show _ ≤ ((6 : Nat) : Int); omega) (by show _ ≤ ((6 : Nat) : Int); omega) q_531 q_526 q_525 q_19 (Nat.le_of_ble_eq_true rfl) (Nat.le_of_ble_eq_true rfl) dX1_copyFrom_42 (fun j j2 x hx => hF _ _ _ _ h13 (ty_in (n := 5000) rfl) (ty_rno rfl)) (fun H locs hG => ?_)
  refine lv_aload_n X.1 X.2.1 dX1_copyFrom_45 rfl (lv_at hl 1 rfl) ?_
  refine gf_1_3 X hG h901 q_137 dX1_copyFrom_46 (hN _ _ _ h901) (fun a16 h16 r16 => ?_)
  refine n_ic X dX1_copyFrom_49 (by decide) (by decide) (fun x17 t17 => ?_)
  refine lv_aload_n X.1 X.2.1 dX1_copyFrom_50 rfl (lv_at hl 0 rfl) ?_
  refine gf_1_3 X hG h900 q_137 dX1_copyFrom_51 (hN _ _ _ h900) (fun a18 h18 r18 => ?_)
  refine n_ic X dX1_copyFrom_54 (by decide) (by decide) (fun x19 t19 => ?_)
  refine n_bp X dX1_copyFrom_55 (by decide) (by decide) (fun x20 t20 => ?_)
  refine tg_copy X hG hl.1 h16 h18 rfl rfl (by omega) (by omega) (by omega) (by show _ ≤ ((6 : Nat) : Int); omega) (by show _ ≤ ((6 : Nat) : Int); omega) q_531 q_526 q_525 q_19 (Nat.le_of_ble_eq_true rfl) (Nat.le_of_ble_eq_true rfl) dX1_copyFrom_57 (fun j j2 x hx => hF _ _ _ _ h18 (ty_in (n := 5000) rfl) (ty_rno rfl)) (fun H locs hG => ?_)
  refine lv_aload_n X.1 X.2.1 dX1_copyFrom_60 rfl (lv_at hl 1 rfl) ?_
  refine gf_1_4 X hG h901 q_140 dX1_copyFrom_61 (hN _ _ _ h901) (fun a21 h21 r21 => ?_)
  refine n_ic X dX1_copyFrom_64 (by decide) (by decide) (fun x22 t22 => ?_)
  refine lv_aload_n X.1 X.2.1 dX1_copyFrom_65 rfl (lv_at hl 0 rfl) ?_
  refine gf_1_4 X hG h900 q_140 dX1_copyFrom_66 (hN _ _ _ h900) (fun a23 h23 r23 => ?_)
  refine n_ic X dX1_copyFrom_69 (by decide) (by decide) (fun x24 t24 => ?_)
  refine n_bp X dX1_copyFrom_70 (by decide) (by decide) (fun x25 t25 => ?_)
  refine tg_copy X hG hl.1 h21 h23 rfl rfl (by omega) (by omega) (by omega) (by show _ ≤ ((6 : Nat) : Int); omega) (by show _ ≤ ((6 : Nat) : Int); omega) q_531 q_526 q_525 q_19 (Nat.le_of_ble_eq_true rfl) (Nat.le_of_ble_eq_true rfl) dX1_copyFrom_72 (fun j j2 x hx => hF _ _ _ _ h23 (ty_in (n := 5000) rfl) (ty_rno rfl)) (fun H locs hG => ?_)
  refine lv_aload_n X.1 X.2.1 dX1_copyFrom_75 rfl (lv_at hl 1 rfl) ?_
  refine gf_1_5 X hG h901 q_143 dX1_copyFrom_76 (hN _ _ _ h901) (fun a26 h26 r26 => ?_)
  refine n_ic X dX1_copyFrom_79 (by decide) (by decide) (fun x27 t27 => ?_)
  refine lv_aload_n X.1 X.2.1 dX1_copyFrom_80 rfl (lv_at hl 0 rfl) ?_
  refine gf_1_5 X hG h900 q_143 dX1_copyFrom_81 (hN _ _ _ h900) (fun a28 h28 r28 => ?_)
  refine n_ic X dX1_copyFrom_84 (by decide) (by decide) (fun x29 t29 => ?_)
  refine n_bp X dX1_copyFrom_85 (by decide) (by decide) (fun x30 t30 => ?_)
  refine tg_copy X hG hl.1 h26 h28 rfl rfl (by omega) (by omega) (by omega) (by show _ ≤ ((6 : Nat) : Int); omega) (by show _ ≤ ((6 : Nat) : Int); omega) q_531 q_526 q_525 q_19 (Nat.le_of_ble_eq_true rfl) (Nat.le_of_ble_eq_true rfl) dX1_copyFrom_87 (fun j j2 x hx => hF _ _ _ _ h28 (ty_in (n := 5000) rfl) (ty_rno rfl)) (fun H locs hG => ?_)
  refine lv_aload_n X.1 X.2.1 dX1_copyFrom_90 rfl (lv_at hl 0 rfl) ?_
  refine lv_aload_n X.1 X.2.1 dX1_copyFrom_91 rfl (lv_at hl 1 rfl) ?_
  refine gf_1_6 X hG h901 q_144 dX1_copyFrom_92 (fun x31 r31 => ?_)
  have b31 := (hR _ _ _ _ h901 r31) _ _ rfl
  refine pf_1_6 X hG h900 q_144 dX1_copyFrom_95 (hF _ _ _ _ h900 (ty_in (n := 106) rfl) (ty_ryes rfl (by omega))) (fun H locs hG => ?_)
  exact ret _ _ _ _ _ hG rfl dX1_copyFrom_98
set_option maxHeartbeats 4000000 in
set_option maxRecDepth 100000 in
theorem c_X1_add (l : Launch) (D : va_G) (cy : Nat → ClassId) (τ : ty_T) (ρ : ty_R) {M : md_T} (hN : ty_N τ ρ) (hR : ty_Rg M τ ρ) (hF : ty_Wf M τ ρ [106, 5000]) {a900 : Nat} (h900 : τ a900 = some (0, 1)) (x901 : Int32) (x902 : Int32) (x903 : Int32) : KV l D cy yX1_add cX1_add 4 (rL 0) τ ρ [.ref a900, .int x901, .int x902, .int x903] (fun w => w = ρ) := by
  refine k_metV "EdgeEchoes$Gates" rfl (by decide +kernel) (Nat.le_of_ble_eq_true rfl) ?_
  intro p e s m args below meth c Q ls X hG hl ret
  have hl : lv_has ls 4 [(0, .ref a900), (1, .int x901), (2, .int x902), (3, .int x903)] := hl
  have g901 := cI_rng x901
  have g902 := cI_rng x902
  have g903 := cI_rng x903
  obtain ⟨x1, r1, hG⟩ := tg_pin hG h900 6 rfl
  have b1 := (hR _ _ _ _ h900 r1) _ _ rfl
  refine lv_aload_n X.1 X.2.1 dX1_add_0 rfl (lv_at hl 0 rfl) ?_
  refine gf_1_6 X hG h900 q_144 dX1_add_1 (fun x2 r2 => ?_)
  have e2 := exs_rd r2 (y := x1) rfl
  subst e2
  refine n_bp X dX1_add_4 (by decide) (by decide) (fun x3 t3 => ?_)
  refine n_icmp_lt (tgt := 10) X dX1_add_6 (by decide) (fun c4 => ?_) (fun c4 => ?_)
  · refine lv_aload_n X.1 X.2.1 dX1_add_10 rfl (lv_at hl 0 rfl) ?_
    refine gf_1_0 X hG h900 q_131 dX1_add_11 ((exs_N hN) _ _ _ h900) (fun a5 h5 r5 => ?_)
    refine lv_aload_n X.1 X.2.1 dX1_add_14 rfl (lv_at hl 0 rfl) ?_
    refine gf_1_6 X hG h900 q_144 dX1_add_15 (fun x6 r6 => ?_)
    have e6 := exs_rd r6 (y := x1) rfl
    subst e6
    refine lv_iload_n X.1 X.2.1 dX1_add_18 rfl (lv_at hl 1 rfl) ?_
    refine tg_iasf X hG h5 rfl (cI_in (n := 6) (by omega)) dX1_add_19 ((exs_F1 (ty_Wf.sub (S' := [5000]) hF (by decide)) h900 (by decide)) _ _ _ _ h5 (ty_in (n := 5000) rfl) (ty_rno rfl)) (fun H locs hG => ?_)
    refine lv_aload_n X.1 X.2.1 dX1_add_20 rfl (lv_at hl 0 rfl) ?_
    refine gf_1_1 X hG h900 q_133 dX1_add_21 ((exs_N hN) _ _ _ h900) (fun a7 h7 r7 => ?_)
    refine lv_aload_n X.1 X.2.1 dX1_add_24 rfl (lv_at hl 0 rfl) ?_
    refine gf_1_6 X hG h900 q_144 dX1_add_25 (fun x8 r8 => ?_)
    have e8 := exs_rd r8 (y := x1) rfl
    subst e8
    refine lv_iload_n X.1 X.2.1 dX1_add_28 rfl (lv_at hl 2 rfl) ?_
    refine tg_iasf X hG h7 rfl (cI_in (n := 6) (by omega)) dX1_add_29 ((exs_F1 (ty_Wf.sub (S' := [5000]) hF (by decide)) h900 (by decide)) _ _ _ _ h7 (ty_in (n := 5000) rfl) (ty_rno rfl)) (fun H locs hG => ?_)
    refine lv_aload_n X.1 X.2.1 dX1_add_30 rfl (lv_at hl 0 rfl) ?_
    refine gf_1_2 X hG h900 q_135 dX1_add_31 ((exs_N hN) _ _ _ h900) (fun a9 h9 r9 => ?_)
    refine lv_aload_n X.1 X.2.1 dX1_add_34 rfl (lv_at hl 0 rfl) ?_
    refine gf_1_6 X hG h900 q_144 dX1_add_35 (fun x10 r10 => ?_)
    have e10 := exs_rd r10 (y := x1) rfl
    subst e10
    refine lv_iload_n X.1 X.2.1 dX1_add_38 rfl (lv_at hl 3 rfl) ?_
    refine tg_iasf X hG h9 rfl (cI_in (n := 6) (by omega)) dX1_add_39 ((exs_F1 (ty_Wf.sub (S' := [5000]) hF (by decide)) h900 (by decide)) _ _ _ _ h9 (ty_in (n := 5000) rfl) (ty_rno rfl)) (fun H locs hG => ?_)
    refine lv_aload_n X.1 X.2.1 dX1_add_40 rfl (lv_at hl 0 rfl) ?_
    refine lv_dup X.1 X.2.1 dX1_add_41 rfl ?_
    refine gf_1_6 X hG h900 q_144 dX1_add_42 (fun x11 r11 => ?_)
    have e11 := exs_rd r11 (y := x1) rfl
    subst e11
    refine n_ic X dX1_add_45 (by decide) (by decide) (fun x12 t12 => ?_)
    refine n_add X dX1_add_46 (by omega) (by omega) (fun x13 t13 => ?_)
    refine pg_1_6 X hG h900 q_144 dX1_add_47 (exs ρ a900 (P1 6 x13)) exs_off (exs_oth exs_P1) (exs_new (hF _ _ _ _ h900 (ty_in (n := 106) rfl) (ty_ryes rfl (by omega))) rfl) (fun H locs hG => ?_)
    exact ret _ _ _ _ _ (exs_cl hG) rfl dX1_add_50
  · exact ret _ _ _ _ _ (exs_cl hG) rfl dX1_add_9
set_option maxHeartbeats 4000000 in
set_option maxRecDepth 100000 in
theorem c_X1_sightSet (l : Launch) (D : va_G) (cy : Nat → ClassId) (τ : ty_T) (ρ : ty_R) {M : md_T} (hN : ty_N τ ρ) (hR : ty_Rg M τ ρ) (hF : ty_Wf M τ ρ []) {a900 : Nat} (h900 : τ a900 = some (0, 1)) : KI l D cy yX1_sightSet cX1_sightSet 3 .int (rL 0) τ ρ [.ref a900] (fun r u => u = ρ ∧ True) := by
  refine k_metI "EdgeEchoes$Gates" rfl (by decide +kernel) (Nat.le_of_ble_eq_true rfl) (fun _ _ _ => rfl) ?_
  intro p e s m args below meth c Q ls X hG hl ret
  have hl : lv_has ls 3 [(0, .ref a900)] := hl
  refine n_ic X dX1_sightSet_0 (by decide) (by decide) (fun x1 t1 => ?_)
  refine lv_istore_n (lv' := [(1, .int x1), (0, .ref a900)]) X.1 X.2.1 dX1_sightSet_1 rfl hl (by decide) rfl (fun ls hl => ?_)
  refine n_ic X dX1_sightSet_2 (by decide) (by decide) (fun x2 t2 => ?_)
  refine lv_istore_n (lv' := [(2, .int x2), (1, .int x1), (0, .ref a900)]) X.1 X.2.1 dX1_sightSet_3 rfl hl (by decide) rfl (fun ls hl => ?_)
  have J4 : ∀ (n : Nat) (H : Heap) (locs : List Loc) (ls : Array Slot) (x3 : Int32) (x4 : Int32), (0 ≤ x4.toInt ∧ x4.toInt ≤ 6) → (6 - x4.toInt).toNat < n → TG D cy τ ρ (ty_d τ) s.heap H locs → lv_has ls 3 [(0, .ref a900), (1, .int x3), (2, .int x4)] → W p l e (rL 0) s m args below meth c H locs 0 0 Q (F0 m 4 ls []) := by
    intro n
    induction n with
    | zero => intro H locs ls x3 x4 bx4 hm4 hG hl; exact absurd hm4 (Nat.not_lt_zero _)
    | succ n ih4 =>
      intro H locs ls x3 x4 bx4 hm4 hG hl
      have gx3 := cI_rng x3
      refine lv_iload_n X.1 X.2.1 dX1_sightSet_4 rfl (lv_at hl 2 rfl) ?_
      refine lv_aload_n X.1 X.2.1 dX1_sightSet_5 rfl (lv_at hl 0 rfl) ?_
      refine gf_1_6 X hG h900 q_144 dX1_sightSet_6 (fun x5 r5 => ?_)
      have b5 := (hR _ _ _ _ h900 r5) _ _ rfl
      refine n_icmp_ge (tgt := 35) X dX1_sightSet_9 (by decide) (fun c6 => ?_) (fun c6 => ?_)
      · refine lv_iload_n X.1 X.2.1 dX1_sightSet_35 rfl (lv_at hl 1 rfl) ?_
        exact ret _ _ _ _ x3 _ hG ⟨rfl, trivial⟩ dX1_sightSet_36
      · refine lv_iload_n X.1 X.2.1 dX1_sightSet_12 rfl (lv_at hl 2 rfl) ?_
        refine n_bp X dX1_sightSet_13 (by decide) (by decide) (fun x7 t7 => ?_)
        refine n_icmp_ge (tgt := 35) X dX1_sightSet_15 (by decide) (fun c8 => ?_) (fun c8 => ?_)
        · exact absurd c8 (by omega)
        · refine lv_iload_n X.1 X.2.1 dX1_sightSet_18 rfl (lv_at hl 1 rfl) ?_
          refine lv_aload_n X.1 X.2.1 dX1_sightSet_19 rfl (lv_at hl 0 rfl) ?_
          refine gf_1_3 X hG h900 q_137 dX1_sightSet_20 (hN _ _ _ h900) (fun a9 h9 r9 => ?_)
          refine lv_iload_n X.1 X.2.1 dX1_sightSet_23 rfl (lv_at hl 2 rfl) ?_
          refine tg_iald X hG h9 rfl (cI_in (n := 6) (by omega)) dX1_sightSet_24 (fun x10 r10 => ?_)
          refine lv_iload_n X.1 X.2.1 dX1_sightSet_25 rfl (lv_at hl 2 rfl) ?_
          refine lv_ishl X.1 X.2.1 dX1_sightSet_26 ?_
          refine n_any (fun x11 => ?_)
          refine lv_ior X.1 X.2.1 dX1_sightSet_27 ?_
          refine n_any (fun x12 => ?_)
          refine lv_istore_n (lv' := [(1, .int x12), (0, .ref a900), (2, .int x4)]) X.1 X.2.1 dX1_sightSet_28 rfl hl (by decide) rfl (fun ls hl => ?_)
          refine n_inc X (fun z14 => [(2, .int z14), (1, .int x12), (0, .ref a900)]) dX1_sightSet_29 hl (k := 2) rfl (by decide) (by decide) (by omega) (by omega) (by decide) (fun _ => rfl) (fun x13 ls t13 hl => ?_)
          have hl : lv_has ls 3 [(2, .int x13), (1, .int x12), (0, .ref a900)] := hl
          refine lv_goto (tgt := 4) X.1 X.2.1 dX1_sightSet_32 (by decide) ?_
          exact ih4 _ _ _ x12 x13 (by omega) (by omega) hG (lv_sub hl [2, 1, 0] rfl)
  exact J4 _ _ _ _ x1 x2 (by omega) (Nat.lt_succ_self _) hG (lv_sub hl [2, 1, 0] rfl)
set_option maxHeartbeats 4000000 in
set_option maxRecDepth 100000 in
theorem c_X1_allEdges (l : Launch) (D : va_G) (cy : Nat → ClassId) (τ : ty_T) (ρ : ty_R) {M : md_T} (hN : ty_N τ ρ) (hR : ty_Rg M τ ρ) (hF : ty_Wf M τ ρ []) {a900 : Nat} (h900 : τ a900 = some (0, 1)) : KI l D cy yX1_allEdges cX1_allEdges 3 .int (rL 0) τ ρ [.ref a900] (fun r u => u = ρ ∧ True) := by
  refine k_metI "EdgeEchoes$Gates" rfl (by decide +kernel) (Nat.le_of_ble_eq_true rfl) (fun _ _ _ => rfl) ?_
  intro p e s m args below meth c Q ls X hG hl ret
  have hl : lv_has ls 3 [(0, .ref a900)] := hl
  refine n_ic X dX1_allEdges_0 (by decide) (by decide) (fun x1 t1 => ?_)
  refine lv_istore_n (lv' := [(1, .int x1), (0, .ref a900)]) X.1 X.2.1 dX1_allEdges_1 rfl hl (by decide) rfl (fun ls hl => ?_)
  refine n_ic X dX1_allEdges_2 (by decide) (by decide) (fun x2 t2 => ?_)
  refine lv_istore_n (lv' := [(2, .int x2), (1, .int x1), (0, .ref a900)]) X.1 X.2.1 dX1_allEdges_3 rfl hl (by decide) rfl (fun ls hl => ?_)
  have J4 : ∀ (n : Nat) (H : Heap) (locs : List Loc) (ls : Array Slot) (x3 : Int32) (x4 : Int32), (0 ≤ x4.toInt ∧ x4.toInt ≤ 6) → (6 - x4.toInt).toNat < n → TG D cy τ ρ (ty_d τ) s.heap H locs → lv_has ls 3 [(0, .ref a900), (1, .int x3), (2, .int x4)] → W p l e (rL 0) s m args below meth c H locs 0 0 Q (F0 m 4 ls []) := by
    intro n
    induction n with
    | zero => intro H locs ls x3 x4 bx4 hm4 hG hl; exact absurd hm4 (Nat.not_lt_zero _)
    | succ n ih4 =>
      intro H locs ls x3 x4 bx4 hm4 hG hl
      have gx3 := cI_rng x3
      refine lv_iload_n X.1 X.2.1 dX1_allEdges_4 rfl (lv_at hl 2 rfl) ?_
      refine lv_aload_n X.1 X.2.1 dX1_allEdges_5 rfl (lv_at hl 0 rfl) ?_
      refine gf_1_6 X hG h900 q_144 dX1_allEdges_6 (fun x5 r5 => ?_)
      have b5 := (hR _ _ _ _ h900 r5) _ _ rfl
      refine n_icmp_ge (tgt := 33) X dX1_allEdges_9 (by decide) (fun c6 => ?_) (fun c6 => ?_)
      · refine lv_iload_n X.1 X.2.1 dX1_allEdges_33 rfl (lv_at hl 1 rfl) ?_
        exact ret _ _ _ _ x3 _ hG ⟨rfl, trivial⟩ dX1_allEdges_34
      · refine lv_iload_n X.1 X.2.1 dX1_allEdges_12 rfl (lv_at hl 2 rfl) ?_
        refine n_bp X dX1_allEdges_13 (by decide) (by decide) (fun x7 t7 => ?_)
        refine n_icmp_ge (tgt := 33) X dX1_allEdges_15 (by decide) (fun c8 => ?_) (fun c8 => ?_)
        · exact absurd c8 (by omega)
        · refine lv_iload_n X.1 X.2.1 dX1_allEdges_18 rfl (lv_at hl 1 rfl) ?_
          refine lv_aload_n X.1 X.2.1 dX1_allEdges_19 rfl (lv_at hl 0 rfl) ?_
          refine gf_1_4 X hG h900 q_140 dX1_allEdges_20 (hN _ _ _ h900) (fun a9 h9 r9 => ?_)
          refine lv_iload_n X.1 X.2.1 dX1_allEdges_23 rfl (lv_at hl 2 rfl) ?_
          refine tg_iald X hG h9 rfl (cI_in (n := 6) (by omega)) dX1_allEdges_24 (fun x10 r10 => ?_)
          refine lv_iadd X.1 X.2.1 dX1_allEdges_25 ?_
          refine n_any (fun x11 => ?_)
          refine lv_istore_n (lv' := [(1, .int x11), (0, .ref a900), (2, .int x4)]) X.1 X.2.1 dX1_allEdges_26 rfl hl (by decide) rfl (fun ls hl => ?_)
          refine n_inc X (fun z13 => [(2, .int z13), (1, .int x11), (0, .ref a900)]) dX1_allEdges_27 hl (k := 2) rfl (by decide) (by decide) (by omega) (by omega) (by decide) (fun _ => rfl) (fun x12 ls t12 hl => ?_)
          have hl : lv_has ls 3 [(2, .int x12), (1, .int x11), (0, .ref a900)] := hl
          refine lv_goto (tgt := 4) X.1 X.2.1 dX1_allEdges_30 (by decide) ?_
          exact ih4 _ _ _ x11 x12 (by omega) (by omega) hG (lv_sub hl [2, 1, 0] rfl)
  exact J4 _ _ _ _ x1 x2 (by omega) (Nat.lt_succ_self _) hG (lv_sub hl [2, 1, 0] rfl)
set_option maxHeartbeats 4000000 in
set_option maxRecDepth 100000 in
theorem c_X1_slowSight (l : Launch) (D : va_G) (cy : Nat → ClassId) (τ : ty_T) (ρ : ty_R) {M : md_T} (hN : ty_N τ ρ) (hR : ty_Rg M τ ρ) (hF : ty_Wf M τ ρ [5000]) {a900 : Nat} (h900 : τ a900 = some (0, 1)) (x901 : Int32) (x902 : Int32) : KI l D cy yX1_slowSight cX1_slowSight 3 .int (rL 1) τ ρ [.ref a900, .int x901, .int x902] (fun r u => u = ρ ∧ True) := by
  refine k_metI "EdgeEchoes$Gates" rfl (by decide +kernel) (Nat.le_of_ble_eq_true rfl) (fun _ _ _ => rfl) ?_
  intro p e s m args below meth c Q ls X hG hl ret
  have hl : lv_has ls 3 [(0, .ref a900), (1, .int x901), (2, .int x902)] := hl
  have g901 := cI_rng x901
  have g902 := cI_rng x902
  refine lv_aload_n X.1 X.2.1 dX1_slowSight_0 rfl (lv_at hl 0 rfl) ?_
  refine lv_iload_n X.1 X.2.1 dX1_slowSight_1 rfl (lv_at hl 1 rfl) ?_
  refine k_cVi X hG (c_X1_has l D cy τ _ hN hR (ty_Wf.sub (S' := []) hF (by decide)) h900 x901) h900 rfl yv_X1_has q_652 ⟨rfl, rfl⟩ ⟨Nat.le_of_ble_eq_true rfl, Nat.le_of_ble_eq_true rfl⟩ rfl hl.1 rfl (Nat.le_of_ble_eq_true rfl) ⟨Nat.zero_le _, Nat.zero_le _⟩ dX1_slowSight_2 (fun x2 u3 H locs hG po1 => ?_)
  obtain ⟨eu3, po1⟩ := po1
  rw [eu3] at hG
  refine n_if_ne (tgt := 10) X dX1_slowSight_5 (by decide) (fun c4 => ?_) (fun c4 => ?_)
  · refine lv_aload_n X.1 X.2.1 dX1_slowSight_10 rfl (lv_at hl 0 rfl) ?_
    refine gf_1_5 X hG h900 q_143 dX1_slowSight_11 (hN _ _ _ h900) (fun a5 h5 r5 => ?_)
    refine lv_iload_n X.1 X.2.1 dX1_slowSight_14 rfl (lv_at hl 1 rfl) ?_
    refine lv_iload_n X.1 X.2.1 dX1_slowSight_15 rfl (lv_at hl 2 rfl) ?_
    refine lv_aload_n X.1 X.2.1 dX1_slowSight_16 rfl (lv_at hl 0 rfl) ?_
    refine gf_1_3 X hG h900 q_137 dX1_slowSight_17 (hN _ _ _ h900) (fun a6 h6 r6 => ?_)
    refine lv_iload_n X.1 X.2.1 dX1_slowSight_20 rfl (lv_at hl 1 rfl) ?_
    refine tg_iald X hG h6 rfl (cI_in (n := 6) (by omega)) dX1_slowSight_21 (fun x7 r7 => ?_)
    have J37 : ∀ (H : Heap) (locs : List Loc) (ls : Array Slot) (x8 : Int32), TG D cy τ ρ (ty_d τ) s.heap H locs → lv_has ls 3 [(0, .ref a900), (1, .int x901), (2, .int x902)] → W p l e (rL 1) s m args below meth c H locs 0 0 Q (F0 m 37 ls [.int x8, .int x901, .ref a5]) := by
      intro H locs ls x8 hG hl
      have gx8 := cI_rng x8
      refine tg_iasf X hG h5 rfl (cI_in (n := 6) (by omega)) dX1_slowSight_37 (hF _ _ _ _ h5 (ty_in (n := 5000) rfl) (ty_rno rfl)) (fun H locs hG => ?_)
      refine lv_aload_n X.1 X.2.1 dX1_slowSight_38 rfl (lv_at hl 0 rfl) ?_
      refine gf_1_5 X hG h900 q_143 dX1_slowSight_39 (hN _ _ _ h900) (fun a9 h9 r9 => ?_)
      refine lv_iload_n X.1 X.2.1 dX1_slowSight_42 rfl (lv_at hl 1 rfl) ?_
      refine tg_iald X hG h9 rfl (cI_in (n := 6) (by omega)) dX1_slowSight_43 (fun x10 r10 => ?_)
      refine n_ic X dX1_slowSight_44 (by decide) (by decide) (fun x11 t11 => ?_)
      refine n_icmp_ge (tgt := 55) X dX1_slowSight_45 (by decide) (fun c12 => ?_) (fun c12 => ?_)
      · refine lv_aload_n X.1 X.2.1 dX1_slowSight_55 rfl (lv_at hl 0 rfl) ?_
        refine gf_1_5 X hG h900 q_143 dX1_slowSight_56 (hN _ _ _ h900) (fun a13 h13 r13 => ?_)
        refine lv_iload_n X.1 X.2.1 dX1_slowSight_59 rfl (lv_at hl 1 rfl) ?_
        refine n_ic X dX1_slowSight_60 (by decide) (by decide) (fun x14 t14 => ?_)
        refine tg_iasf X hG h13 rfl (cI_in (n := 6) (by omega)) dX1_slowSight_61 (hF _ _ _ _ h13 (ty_in (n := 5000) rfl) (ty_rno rfl)) (fun H locs hG => ?_)
        refine lv_iload_n X.1 X.2.1 dX1_slowSight_62 rfl (lv_at hl 2 rfl) ?_
        exact ret _ _ _ _ x902 _ hG ⟨rfl, trivial⟩ dX1_slowSight_63
      · refine lv_aload_n X.1 X.2.1 dX1_slowSight_48 rfl (lv_at hl 0 rfl) ?_
        refine gf_1_3 X hG h900 q_137 dX1_slowSight_49 (hN _ _ _ h900) (fun a15 h15 r15 => ?_)
        refine lv_iload_n X.1 X.2.1 dX1_slowSight_52 rfl (lv_at hl 1 rfl) ?_
        refine tg_iald X hG h15 rfl (cI_in (n := 6) (by omega)) dX1_slowSight_53 (fun x16 r16 => ?_)
        exact ret _ _ _ _ x16 _ hG ⟨rfl, trivial⟩ dX1_slowSight_54
    refine n_icmp_ne (tgt := 29) X dX1_slowSight_22 (by decide) (fun c17 => ?_) (fun c17 => ?_)
    · refine lv_aload_n X.1 X.2.1 dX1_slowSight_29 rfl (lv_at hl 0 rfl) ?_
      refine gf_1_5 X hG h900 q_143 dX1_slowSight_30 (hN _ _ _ h900) (fun a18 h18 r18 => ?_)
      refine lv_iload_n X.1 X.2.1 dX1_slowSight_33 rfl (lv_at hl 1 rfl) ?_
      refine tg_iald X hG h18 rfl (cI_in (n := 6) (by omega)) dX1_slowSight_34 (fun x19 r19 => ?_)
      refine n_ic X dX1_slowSight_35 (by decide) (by decide) (fun x20 t20 => ?_)
      refine lv_iadd X.1 X.2.1 dX1_slowSight_36 ?_
      refine n_any (fun x21 => ?_)
      exact J37 _ _ _ x21 hG (lv_sub hl [0, 1, 2] rfl)
    · refine n_ic X dX1_slowSight_25 (by decide) (by decide) (fun x22 t22 => ?_)
      refine lv_goto (tgt := 37) X.1 X.2.1 dX1_slowSight_26 (by decide) ?_
      exact J37 _ _ _ x22 hG (lv_sub hl [0, 1, 2] rfl)
  · refine n_ic X dX1_slowSight_8 (by decide) (by decide) (fun x23 t23 => ?_)
    exact ret _ _ _ _ x23 _ hG ⟨rfl, trivial⟩ dX1_slowSight_9
set_option maxHeartbeats 4000000 in
set_option maxRecDepth 100000 in
theorem c_X1_nextSight (l : Launch) (D : va_G) (cy : Nat → ClassId) (τ : ty_T) (ρ : ty_R) {M : md_T} (hN : ty_N τ ρ) (hR : ty_Rg M τ ρ) (hF : ty_Wf M τ ρ [5000]) {a900 : Nat} (h900 : τ a900 = some (0, 1)) (x901 : Int32) (x902 : Int32) : KI l D cy yX1_nextSight cX1_nextSight 4 .int (rL 2) τ ρ [.ref a900, .int x901, .int x902] (fun r u => u = ρ ∧ True) := by
  refine k_metI "EdgeEchoes$Gates" rfl (by decide +kernel) (Nat.le_of_ble_eq_true rfl) (fun _ _ _ => rfl) ?_
  intro p e s m args below meth c Q ls X hG hl ret
  have hl : lv_has ls 4 [(0, .ref a900), (1, .int x901), (2, .int x902)] := hl
  have g901 := cI_rng x901
  have g902 := cI_rng x902
  refine lv_aload_n X.1 X.2.1 dX1_nextSight_0 rfl (lv_at hl 0 rfl) ?_
  refine lv_iload_n X.1 X.2.1 dX1_nextSight_1 rfl (lv_at hl 1 rfl) ?_
  refine k_cVi X hG (c_X1_has l D cy τ _ hN hR (ty_Wf.sub (S' := []) hF (by decide)) h900 x901) h900 rfl yv_X1_has q_652 ⟨rfl, rfl⟩ ⟨Nat.le_of_ble_eq_true rfl, Nat.le_of_ble_eq_true rfl⟩ rfl hl.1 rfl (Nat.le_of_ble_eq_true rfl) ⟨Nat.zero_le _, Nat.zero_le _⟩ dX1_nextSight_2 (fun x2 u3 H locs hG po1 => ?_)
  obtain ⟨eu3, po1⟩ := po1
  rw [eu3] at hG
  refine n_if_ne (tgt := 10) X dX1_nextSight_5 (by decide) (fun c4 => ?_) (fun c4 => ?_)
  · refine lv_iload_n X.1 X.2.1 dX1_nextSight_10 rfl (lv_at hl 2 rfl) ?_
    refine lv_aload_n X.1 X.2.1 dX1_nextSight_11 rfl (lv_at hl 0 rfl) ?_
    refine gf_1_2 X hG h900 q_135 dX1_nextSight_12 (hN _ _ _ h900) (fun a5 h5 r5 => ?_)
    refine lv_iload_n X.1 X.2.1 dX1_nextSight_15 rfl (lv_at hl 1 rfl) ?_
    refine tg_iald X hG h5 rfl (cI_in (n := 6) (by omega)) dX1_nextSight_16 (fun x6 r6 => ?_)
    refine n_sp X dX1_nextSight_17 (by decide) (by decide) (fun x7 t7 => ?_)
    refine lv_imul X.1 X.2.1 dX1_nextSight_20 ?_
    refine n_any (fun x8 => ?_)
    have J29 : ∀ (H : Heap) (locs : List Loc) (ls : Array Slot) (x9 : Int32), (0 ≤ x9.toInt ∧ x9.toInt ≤ 1) → TG D cy τ ρ (ty_d τ) s.heap H locs → lv_has ls 4 [(0, .ref a900), (1, .int x901), (2, .int x902)] → W p l e (rL 2) s m args below meth c H locs 0 0 Q (F0 m 29 ls [.int x9]) := by
      intro H locs ls x9 bx9 hG hl
      refine lv_istore_n (lv' := [(3, .int x9), (0, .ref a900), (1, .int x901), (2, .int x902)]) X.1 X.2.1 dX1_nextSight_29 rfl hl (by decide) rfl (fun ls hl => ?_)
      refine lv_aload_n X.1 X.2.1 dX1_nextSight_30 rfl (lv_at hl 1 rfl) ?_
      refine gf_1_0 X hG h900 q_131 dX1_nextSight_31 (hN _ _ _ h900) (fun a10 h10 r10 => ?_)
      refine lv_iload_n X.1 X.2.1 dX1_nextSight_34 rfl (lv_at hl 2 rfl) ?_
      refine tg_iald X hG h10 rfl (cI_in (n := 6) (by omega)) dX1_nextSight_35 (fun x11 r11 => ?_)
      rcases (show x11.toInt = 0 ∨ x11.toInt = 1 ∨ x11.toInt = 2 ∨ (x11.toInt < 0 ∨ 2 < x11.toInt) by omega) with c12 | c12 | c12 | c12
      · refine lv_tableIn (tgt := 64) (off := 28) X.1 X.2.1 dX1_nextSight_36 (by omega) (by omega) (by rw [c12]; rfl) (by decide) ?_
        refine lv_iload_n X.1 X.2.1 dX1_nextSight_64 rfl (lv_at hl 0 rfl) ?_
        exact ret _ _ _ _ x9 _ hG ⟨rfl, trivial⟩ dX1_nextSight_65
      · refine lv_tableIn (tgt := 66) (off := 30) X.1 X.2.1 dX1_nextSight_36 (by omega) (by omega) (by rw [c12]; rfl) (by decide) ?_
        refine lv_iload_n X.1 X.2.1 dX1_nextSight_66 rfl (lv_at hl 0 rfl) ?_
        refine n_ic X dX1_nextSight_67 (by decide) (by decide) (fun x13 t13 => ?_)
        refine n_icmp_eq (tgt := 87) X dX1_nextSight_68 (by decide) (fun c14 => ?_) (fun c14 => ?_)
        · refine lv_iload_n X.1 X.2.1 dX1_nextSight_87 rfl (lv_at hl 0 rfl) ?_
          refine lv_goto (tgt := 97) X.1 X.2.1 dX1_nextSight_88 (by decide) ?_
          exact ret _ _ _ _ x9 _ hG ⟨rfl, trivial⟩ dX1_nextSight_97
        · refine lv_iload_n X.1 X.2.1 dX1_nextSight_71 rfl (lv_at hl 3 rfl) ?_
          refine lv_aload_n X.1 X.2.1 dX1_nextSight_72 rfl (lv_at hl 1 rfl) ?_
          refine gf_1_2 X hG h900 q_135 dX1_nextSight_73 (hN _ _ _ h900) (fun a15 h15 r15 => ?_)
          refine lv_iload_n X.1 X.2.1 dX1_nextSight_76 rfl (lv_at hl 2 rfl) ?_
          refine tg_iald X hG h15 rfl (cI_in (n := 6) (by omega)) dX1_nextSight_77 (fun x16 r16 => ?_)
          refine n_sp X dX1_nextSight_78 (by decide) (by decide) (fun x17 t17 => ?_)
          refine lv_imul X.1 X.2.1 dX1_nextSight_81 ?_
          refine n_any (fun x18 => ?_)
          refine n_ic X dX1_nextSight_82 (by decide) (by decide) (fun x19 t19 => ?_)
          refine lv_idiv X.1 X.2.1 dX1_nextSight_83 (n_nz (by omega)) ?_
          refine n_any (fun x20 => ?_)
          refine n_icmp_ge (tgt := 91) X dX1_nextSight_84 (by decide) (fun c21 => ?_) (fun c21 => ?_)
          · refine lv_aload_n X.1 X.2.1 dX1_nextSight_91 rfl (lv_at hl 1 rfl) ?_
            refine gf_1_3 X hG h900 q_137 dX1_nextSight_92 (hN _ _ _ h900) (fun a22 h22 r22 => ?_)
            refine lv_iload_n X.1 X.2.1 dX1_nextSight_95 rfl (lv_at hl 2 rfl) ?_
            refine tg_iald X hG h22 rfl (cI_in (n := 6) (by omega)) dX1_nextSight_96 (fun x23 r23 => ?_)
            exact ret _ _ _ _ x23 _ hG ⟨rfl, trivial⟩ dX1_nextSight_97
          · refine lv_iload_n X.1 X.2.1 dX1_nextSight_87 rfl (lv_at hl 0 rfl) ?_
            refine lv_goto (tgt := 97) X.1 X.2.1 dX1_nextSight_88 (by decide) ?_
            exact ret _ _ _ _ x9 _ hG ⟨rfl, trivial⟩ dX1_nextSight_97
      · refine lv_tableIn (tgt := 98) (off := 62) X.1 X.2.1 dX1_nextSight_36 (by omega) (by omega) (by rw [c12]; rfl) (by decide) ?_
        refine lv_aload_n X.1 X.2.1 dX1_nextSight_98 rfl (lv_at hl 1 rfl) ?_
        refine lv_iload_n X.1 X.2.1 dX1_nextSight_99 rfl (lv_at hl 2 rfl) ?_
        refine lv_iload_n X.1 X.2.1 dX1_nextSight_100 rfl (lv_at hl 0 rfl) ?_
        refine k_cVi X hG (c_X1_slowSight l D cy τ _ hN hR (ty_Wf.sub (S' := [5000]) hF (by decide)) h900 x901 x9) h900 rfl yv_X1_slowSight q_653 ⟨rfl, rfl⟩ ⟨Nat.le_of_ble_eq_true rfl, Nat.le_of_ble_eq_true rfl⟩ rfl hl.1 rfl (Nat.le_of_ble_eq_true rfl) ⟨Nat.zero_le _, Nat.zero_le _⟩ dX1_nextSight_101 (fun x25 u26 H locs hG po24 => ?_)
        obtain ⟨eu26, po24⟩ := po24
        rw [eu26] at hG
        have g25 := cI_rng x25
        exact ret _ _ _ _ x25 _ hG ⟨rfl, trivial⟩ dX1_nextSight_104
      · refine lv_tableOut (tgt := 105) X.1 X.2.1 dX1_nextSight_36 c12 (by decide) ?_
        refine n_ic X dX1_nextSight_105 (by decide) (by decide) (fun x27 t27 => ?_)
        refine lv_iload_n X.1 X.2.1 dX1_nextSight_106 rfl (lv_at hl 0 rfl) ?_
        refine n_sub X dX1_nextSight_107 (by omega) (by omega) (fun x28 t28 => ?_)
        exact ret _ _ _ _ x28 _ hG ⟨rfl, trivial⟩ dX1_nextSight_108
    refine n_icmp_lt (tgt := 28) X dX1_nextSight_21 (by decide) (fun c29 => ?_) (fun c29 => ?_)
    · refine n_ic X dX1_nextSight_28 (by decide) (by decide) (fun x30 t30 => ?_)
      exact J29 _ _ _ x30 (by omega) hG (lv_sub hl [0, 1, 2] rfl)
    · refine n_ic X dX1_nextSight_24 (by decide) (by decide) (fun x31 t31 => ?_)
      refine lv_goto (tgt := 29) X.1 X.2.1 dX1_nextSight_25 (by decide) ?_
      exact J29 _ _ _ x31 (by omega) hG (lv_sub hl [0, 1, 2] rfl)
  · refine n_ic X dX1_nextSight_8 (by decide) (by decide) (fun x32 t32 => ?_)
    exact ret _ _ _ _ x32 _ hG ⟨rfl, trivial⟩ dX1_nextSight_9
set_option maxHeartbeats 4000000 in
set_option maxRecDepth 100000 in
theorem c_X1_watch (l : Launch) (D : va_G) (cy : Nat → ClassId) (τ : ty_T) (ρ : ty_R) {M : md_T} (hN : ty_N τ ρ) (hR : ty_Rg M τ ρ) (hF : ty_Wf M τ ρ [5000]) {a900 : Nat} (h900 : τ a900 = some (0, 1)) {a901 : Nat} (h901 : τ a901 = some (0, 8)) : KV l D cy yX1_watch cX1_watch 4 (rL 3) τ ρ [.ref a900, .ref a901] (fun w => w = ρ) := by
  refine k_metV "EdgeEchoes$Gates" rfl (by decide +kernel) (Nat.le_of_ble_eq_true rfl) ?_
  intro p e s m args below meth c Q ls X hG hl ret
  have hl : lv_has ls 4 [(0, .ref a900), (1, .ref a901)] := hl
  refine n_ic X dX1_watch_0 (by decide) (by decide) (fun x1 t1 => ?_)
  refine lv_istore_n (lv' := [(2, .int x1), (0, .ref a900), (1, .ref a901)]) X.1 X.2.1 dX1_watch_1 rfl hl (by decide) rfl (fun ls hl => ?_)
  have J2 : ∀ (n : Nat) (H : Heap) (locs : List Loc) (ls : Array Slot) (x2 : Int32), (0 ≤ x2.toInt ∧ x2.toInt ≤ 6) → (6 - x2.toInt).toNat < n → TG D cy τ ρ (ty_d τ) s.heap H locs → lv_has ls 4 [(0, .ref a900), (1, .ref a901), (2, .int x2)] → W p l e (rL 3) s m args below meth c H locs 0 0 Q (F0 m 2 ls []) := by
    intro n
    induction n with
    | zero => intro H locs ls x2 bx2 hm2 hG hl; exact absurd hm2 (Nat.not_lt_zero _)
    | succ n ih2 =>
      intro H locs ls x2 bx2 hm2 hG hl
      refine lv_iload_n X.1 X.2.1 dX1_watch_2 rfl (lv_at hl 2 rfl) ?_
      refine lv_aload_n X.1 X.2.1 dX1_watch_3 rfl (lv_at hl 0 rfl) ?_
      refine gf_1_6 X hG h900 q_144 dX1_watch_4 (fun x3 r3 => ?_)
      have b3 := (hR _ _ _ _ h900 r3) _ _ rfl
      refine n_icmp_ge (tgt := 75) X dX1_watch_7 (by decide) (fun c4 => ?_) (fun c4 => ?_)
      · exact ret _ _ _ _ _ hG rfl dX1_watch_75
      · refine lv_iload_n X.1 X.2.1 dX1_watch_10 rfl (lv_at hl 2 rfl) ?_
        refine n_bp X dX1_watch_11 (by decide) (by decide) (fun x5 t5 => ?_)
        refine n_icmp_ge (tgt := 75) X dX1_watch_13 (by decide) (fun c6 => ?_) (fun c6 => ?_)
        · exact absurd c6 (by omega)
        · refine lv_aload_n X.1 X.2.1 dX1_watch_16 rfl (lv_at hl 0 rfl) ?_
          refine lv_iload_n X.1 X.2.1 dX1_watch_17 rfl (lv_at hl 2 rfl) ?_
          refine lv_aload_n X.1 X.2.1 dX1_watch_18 rfl (lv_at hl 1 rfl) ?_
          refine lv_aload_n X.1 X.2.1 dX1_watch_19 rfl (lv_at hl 0 rfl) ?_
          refine gf_1_1 X hG h900 q_133 dX1_watch_20 (hN _ _ _ h900) (fun a7 h7 r7 => ?_)
          refine lv_iload_n X.1 X.2.1 dX1_watch_23 rfl (lv_at hl 2 rfl) ?_
          refine tg_iald X hG h7 rfl (cI_in (n := 6) (by omega)) dX1_watch_24 (fun x8 r8 => ?_)
          refine k_cVi X hG (c_X8_voltsAt l D cy τ _ hN hR (ty_Wf.sub (S' := []) hF (by decide)) h901 x8) h901 rfl yv_X8_voltsAt q_647 ⟨rfl, rfl⟩ ⟨Nat.le_of_ble_eq_true rfl, Nat.le_of_ble_eq_true rfl⟩ rfl hl.1 rfl (Nat.le_of_ble_eq_true rfl) ⟨Nat.zero_le _, Nat.zero_le _⟩ dX1_watch_25 (fun x10 u11 H locs hG po9 => ?_)
          obtain ⟨eu11, po9⟩ := po9
          rw [eu11] at hG
          have g10 := cI_rng x10
          refine k_cVi X hG (c_X1_nextSight l D cy τ _ hN hR (ty_Wf.sub (S' := [5000]) hF (by decide)) h900 x2 x10) h900 rfl yv_X1_nextSight q_648 ⟨rfl, rfl⟩ ⟨Nat.le_of_ble_eq_true rfl, Nat.le_of_ble_eq_true rfl⟩ rfl hl.1 rfl (Nat.le_of_ble_eq_true rfl) ⟨Nat.zero_le _, Nat.zero_le _⟩ dX1_watch_28 (fun x13 u14 H locs hG po12 => ?_)
          obtain ⟨eu14, po12⟩ := po12
          rw [eu14] at hG
          have g13 := cI_rng x13
          refine lv_istore_n (lv' := [(3, .int x13), (0, .ref a900), (1, .ref a901), (2, .int x2)]) X.1 X.2.1 dX1_watch_31 rfl hl (by decide) rfl (fun ls hl => ?_)
          refine lv_iload_n X.1 X.2.1 dX1_watch_32 rfl (lv_at hl 0 rfl) ?_
          refine lv_aload_n X.1 X.2.1 dX1_watch_33 rfl (lv_at hl 1 rfl) ?_
          refine gf_1_3 X hG h900 q_137 dX1_watch_34 (hN _ _ _ h900) (fun a15 h15 r15 => ?_)
          refine lv_iload_n X.1 X.2.1 dX1_watch_37 rfl (lv_at hl 3 rfl) ?_
          refine tg_iald X hG h15 rfl (cI_in (n := 6) (by omega)) dX1_watch_38 (fun x16 r16 => ?_)
          have J69 : ∀ (H : Heap) (locs : List Loc) (ls : Array Slot), TG D cy τ ρ (ty_d τ) s.heap H locs → lv_has ls 4 [(0, .ref a900), (1, .ref a901), (2, .int x2), (3, .int x13)] → W p l e (rL 3) s m args below meth c H locs 0 0 Q (F0 m 69 ls []) := by
            intro H locs ls hG hl
            refine n_inc X (fun z18 => [(2, .int z18), (0, .ref a900), (1, .ref a901), (3, .int x13)]) dX1_watch_69 hl (k := 2) rfl (by decide) (by decide) (by omega) (by omega) (by decide) (fun _ => rfl) (fun x17 ls t17 hl => ?_)
            have hl : lv_has ls 4 [(2, .int x17), (0, .ref a900), (1, .ref a901), (3, .int x13)] := hl
            refine lv_goto (tgt := 2) X.1 X.2.1 dX1_watch_72 (by decide) ?_
            exact ih2 _ _ _ x17 (by omega) (by omega) hG (lv_sub hl [1, 2, 0] rfl)
          refine n_icmp_eq (tgt := 69) X dX1_watch_39 (by decide) (fun c19 => ?_) (fun c19 => ?_)
          · exact J69 _ _ _  hG (lv_sub hl [1, 2, 3, 0] rfl)
          · refine lv_aload_n X.1 X.2.1 dX1_watch_42 rfl (lv_at hl 1 rfl) ?_
            refine gf_1_3 X hG h900 q_137 dX1_watch_43 (hN _ _ _ h900) (fun a20 h20 r20 => ?_)
            refine lv_iload_n X.1 X.2.1 dX1_watch_46 rfl (lv_at hl 3 rfl) ?_
            refine lv_iload_n X.1 X.2.1 dX1_watch_47 rfl (lv_at hl 0 rfl) ?_
            refine tg_iasf X hG h20 rfl (cI_in (n := 6) (by omega)) dX1_watch_48 (hF _ _ _ _ h20 (ty_in (n := 5000) rfl) (ty_rno rfl)) (fun H locs hG => ?_)
            refine lv_aload_n X.1 X.2.1 dX1_watch_49 rfl (lv_at hl 1 rfl) ?_
            refine gf_1_4 X hG h900 q_140 dX1_watch_50 (hN _ _ _ h900) (fun a21 h21 r21 => ?_)
            refine lv_iload_n X.1 X.2.1 dX1_watch_53 rfl (lv_at hl 3 rfl) ?_
            refine n_sp X dX1_watch_54 (by decide) (by decide) (fun x22 t22 => ?_)
            refine lv_aload_n X.1 X.2.1 dX1_watch_57 rfl (lv_at hl 1 rfl) ?_
            refine gf_1_4 X hG h900 q_140 dX1_watch_58 (hN _ _ _ h900) (fun a23 h23 r23 => ?_)
            refine lv_iload_n X.1 X.2.1 dX1_watch_61 rfl (lv_at hl 3 rfl) ?_
            refine tg_iald X hG h23 rfl (cI_in (n := 6) (by omega)) dX1_watch_62 (fun x24 r24 => ?_)
            refine n_ic X dX1_watch_63 (by decide) (by decide) (fun x25 t25 => ?_)
            refine lv_iadd X.1 X.2.1 dX1_watch_64 ?_
            refine n_any (fun x26 => ?_)
            refine n_min X hl.1 q_657 q_414 q_15 q_415 (Nat.le_of_ble_eq_true rfl) (Nat.le_of_ble_eq_true rfl) ⟨Nat.zero_le _, Nat.zero_le _⟩ dX1_watch_65 (fun x27 t27 => ?_)
            refine tg_iasf X hG h21 rfl (cI_in (n := 6) (by omega)) dX1_watch_68 (hF _ _ _ _ h21 (ty_in (n := 5000) rfl) (ty_rno rfl)) (fun H locs hG => ?_)
            exact J69 _ _ _  hG (lv_sub hl [1, 2, 3, 0] rfl)
  exact J2 _ _ _ _ x1 (by omega) (Nat.lt_succ_self _) hG (lv_sub hl [1, 2, 0] rfl)
