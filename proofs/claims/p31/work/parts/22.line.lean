set_option maxHeartbeats 4000000 in
set_option maxRecDepth 100000 in
theorem c_X3_clear (l : Launch) (D : va_G) (cy : Nat → ClassId) (τ : ty_T) (ρ : ty_R) {M : md_T} (hN : ty_N τ ρ) (hR : ty_Rg M τ ρ) (hF : ty_Wf M τ ρ [106, 302, 303, 806, 807, 808, 809, 810, 811, 812, 5000, 6005]) {a900 : Nat} (h900 : τ a900 = some (0, 3)) : KV l D cy yX3_clear cX3_clear 1 (rL 3) τ ρ [.ref a900] (fun w => w = ρ) := by
  refine k_metV "EdgeEchoes$Line" rfl (by decide +kernel) (Nat.le_of_ble_eq_true rfl) ?_
  intro p e s m args below meth c Q ls X hG hl ret
  have hl : lv_has ls 1 [(0, .ref a900)] := hl
  refine lv_aload_n X.1 X.2.1 dX3_clear_0 rfl (lv_at hl 0 rfl) ?_
  refine gf_3_0 X hG h900 q_162 dX3_clear_1 (hN _ _ _ h900) (fun a1 h1 r1 => ?_)
  refine k_cVv X hG (c_X8_clear l D cy τ _ hN hR (ty_Wf.sub (S' := [806, 807, 808, 809, 810, 811, 812, 5000, 6005]) hF (by decide)) h1) h1 rfl yv_X8_clear q_345 ⟨rfl, rfl⟩ ⟨Nat.le_of_ble_eq_true rfl, Nat.le_of_ble_eq_true rfl⟩ rfl hl.1 rfl (Nat.le_of_ble_eq_true rfl) ⟨Nat.zero_le _, Nat.zero_le _⟩ dX3_clear_4 (fun u4 H locs hG po2 => ?_)
  rw [po2] at hG
  refine lv_aload_n X.1 X.2.1 dX3_clear_7 rfl (lv_at hl 0 rfl) ?_
  refine gf_3_1 X hG h900 q_167 dX3_clear_8 (hN _ _ _ h900) (fun a5 h5 r5 => ?_)
  refine k_cVv X hG (c_X1_clear l D cy τ _ hN hR (ty_Wf.sub (S' := [106, 5000]) hF (by decide)) h5) h5 rfl yv_X1_clear q_356 ⟨rfl, rfl⟩ ⟨Nat.le_of_ble_eq_true rfl, Nat.le_of_ble_eq_true rfl⟩ rfl hl.1 rfl (Nat.le_of_ble_eq_true rfl) ⟨Nat.zero_le _, Nat.zero_le _⟩ dX3_clear_11 (fun u8 H locs hG po6 => ?_)
  rw [po6] at hG
  refine lv_aload_n X.1 X.2.1 dX3_clear_14 rfl (lv_at hl 0 rfl) ?_
  refine n_ic X dX3_clear_15 (by decide) (by decide) (fun x9 t9 => ?_)
  refine pf_3_2 X hG h900 q_171 (by omega) dX3_clear_16 (hF _ _ _ _ h900 (ty_in (n := 302) rfl) (ty_rno rfl)) (fun H locs hG => ?_)
  refine lv_aload_n X.1 X.2.1 dX3_clear_19 rfl (lv_at hl 0 rfl) ?_
  refine n_ic X dX3_clear_20 (by decide) (by decide) (fun x10 t10 => ?_)
  refine pf_3_3 X hG h900 q_174 dX3_clear_21 (hF _ _ _ _ h900 (ty_in (n := 303) rfl) (ty_rno rfl)) (fun H locs hG => ?_)
  exact ret _ _ _ _ _ hG rfl dX3_clear_24
set_option maxHeartbeats 4000000 in
set_option maxRecDepth 100000 in
theorem c_X3_copyFrom (l : Launch) (D : va_G) (cy : Nat → ClassId) (τ : ty_T) (ρ : ty_R) {M : md_T} (hN : ty_N τ ρ) (hR : ty_Rg M τ ρ) (hF : ty_Wf M τ ρ [106, 302, 303, 806, 807, 808, 809, 810, 811, 812, 5000, 6005]) {a900 : Nat} (h900 : τ a900 = some (0, 3)) {a901 : Nat} (h901 : τ a901 = some (0, 3)) : KV l D cy yX3_copyFrom cX3_copyFrom 2 (rL 2) τ ρ [.ref a900, .ref a901] (fun w => w = ρ) := by
  refine k_metV "EdgeEchoes$Line" rfl (by decide +kernel) (Nat.le_of_ble_eq_true rfl) ?_
  intro p e s m args below meth c Q ls X hG hl ret
  have hl : lv_has ls 2 [(0, .ref a900), (1, .ref a901)] := hl
  refine lv_aload_n X.1 X.2.1 dX3_copyFrom_0 rfl (lv_at hl 0 rfl) ?_
  refine gf_3_0 X hG h900 q_162 dX3_copyFrom_1 (hN _ _ _ h900) (fun a1 h1 r1 => ?_)
  refine lv_aload_n X.1 X.2.1 dX3_copyFrom_4 rfl (lv_at hl 1 rfl) ?_
  refine gf_3_0 X hG h901 q_162 dX3_copyFrom_5 (hN _ _ _ h901) (fun a2 h2 r2 => ?_)
  refine k_cVv X hG (c_X8_copyFrom l D cy τ _ hN hR (ty_Wf.sub (S' := [806, 807, 808, 809, 810, 811, 812, 5000, 6005]) hF (by decide)) h1 h2) h1 rfl yv_X8_copyFrom q_520 ⟨rfl, rfl⟩ ⟨Nat.le_of_ble_eq_true rfl, Nat.le_of_ble_eq_true rfl⟩ rfl hl.1 rfl (Nat.le_of_ble_eq_true rfl) ⟨Nat.zero_le _, Nat.zero_le _⟩ dX3_copyFrom_8 (fun u5 H locs hG po3 => ?_)
  rw [po3] at hG
  refine lv_aload_n X.1 X.2.1 dX3_copyFrom_11 rfl (lv_at hl 0 rfl) ?_
  refine gf_3_1 X hG h900 q_167 dX3_copyFrom_12 (hN _ _ _ h900) (fun a6 h6 r6 => ?_)
  refine lv_aload_n X.1 X.2.1 dX3_copyFrom_15 rfl (lv_at hl 1 rfl) ?_
  refine gf_3_1 X hG h901 q_167 dX3_copyFrom_16 (hN _ _ _ h901) (fun a7 h7 r7 => ?_)
  refine k_cVv X hG (c_X1_copyFrom l D cy τ _ hN hR (ty_Wf.sub (S' := [106, 5000]) hF (by decide)) h6 h7) h6 rfl yv_X1_copyFrom q_527 ⟨rfl, rfl⟩ ⟨Nat.le_of_ble_eq_true rfl, Nat.le_of_ble_eq_true rfl⟩ rfl hl.1 rfl (Nat.le_of_ble_eq_true rfl) ⟨Nat.zero_le _, Nat.zero_le _⟩ dX3_copyFrom_19 (fun u10 H locs hG po8 => ?_)
  rw [po8] at hG
  refine lv_aload_n X.1 X.2.1 dX3_copyFrom_22 rfl (lv_at hl 0 rfl) ?_
  refine lv_aload_n X.1 X.2.1 dX3_copyFrom_23 rfl (lv_at hl 1 rfl) ?_
  refine gf_3_2 X hG h901 q_171 dX3_copyFrom_24 (fun x11 b11 r11 => ?_)
  refine pf_3_2 X hG h900 q_171 (by omega) dX3_copyFrom_27 (hF _ _ _ _ h900 (ty_in (n := 302) rfl) (ty_rno rfl)) (fun H locs hG => ?_)
  refine lv_aload_n X.1 X.2.1 dX3_copyFrom_30 rfl (lv_at hl 0 rfl) ?_
  refine lv_aload_n X.1 X.2.1 dX3_copyFrom_31 rfl (lv_at hl 1 rfl) ?_
  refine gf_3_3 X hG h901 q_174 dX3_copyFrom_32 (fun x12 r12 => ?_)
  have g12 := cI_rng x12
  refine pf_3_3 X hG h900 q_174 dX3_copyFrom_35 (hF _ _ _ _ h900 (ty_in (n := 303) rfl) (ty_rno rfl)) (fun H locs hG => ?_)
  exact ret _ _ _ _ _ hG rfl dX3_copyFrom_38
set_option maxHeartbeats 4000000 in
set_option maxRecDepth 100000 in
theorem c_X3_calm (l : Launch) (D : va_G) (cy : Nat → ClassId) (τ : ty_T) (ρ : ty_R) {M : md_T} (hN : ty_N τ ρ) (hR : ty_Rg M τ ρ) (hF : ty_Wf M τ ρ [5000]) {a900 : Nat} (h900 : τ a900 = some (0, 3)) : KV l D cy yX3_calm cX3_calm 1 (rL 2) τ ρ [.ref a900] (fun w => w = ρ) := by
  refine k_metV "EdgeEchoes$Line" rfl (by decide +kernel) (Nat.le_of_ble_eq_true rfl) ?_
  intro p e s m args below meth c Q ls X hG hl ret
  have hl : lv_has ls 1 [(0, .ref a900)] := hl
  refine lv_aload_n X.1 X.2.1 dX3_calm_0 rfl (lv_at hl 0 rfl) ?_
  refine gf_3_0 X hG h900 q_162 dX3_calm_1 (hN _ _ _ h900) (fun a1 h1 r1 => ?_)
  refine k_cVv X hG (c_X8_calmWaves l D cy τ _ hN hR (ty_Wf.sub (S' := [5000]) hF (by decide)) h1) h1 rfl yv_X8_calmWaves q_559 ⟨rfl, rfl⟩ ⟨Nat.le_of_ble_eq_true rfl, Nat.le_of_ble_eq_true rfl⟩ rfl hl.1 rfl (Nat.le_of_ble_eq_true rfl) ⟨Nat.zero_le _, Nat.zero_le _⟩ dX3_calm_4 (fun u4 H locs hG po2 => ?_)
  rw [po2] at hG
  refine lv_aload_n X.1 X.2.1 dX3_calm_7 rfl (lv_at hl 0 rfl) ?_
  refine gf_3_1 X hG h900 q_167 dX3_calm_8 (hN _ _ _ h900) (fun a5 h5 r5 => ?_)
  refine k_cVv X hG (c_X1_calmSights l D cy τ _ hN hR (ty_Wf.sub (S' := [5000]) hF (by decide)) h5) h5 rfl yv_X1_calmSights q_560 ⟨rfl, rfl⟩ ⟨Nat.le_of_ble_eq_true rfl, Nat.le_of_ble_eq_true rfl⟩ rfl hl.1 rfl (Nat.le_of_ble_eq_true rfl) ⟨Nat.zero_le _, Nat.zero_le _⟩ dX3_calm_11 (fun u8 H locs hG po6 => ?_)
  rw [po6] at hG
  exact ret _ _ _ _ _ hG rfl dX3_calm_14
set_option maxHeartbeats 4000000 in
set_option maxRecDepth 100000 in
theorem c_X3_pass (l : Launch) (D : va_G) (cy : Nat → ClassId) (τ : ty_T) (ρ : ty_R) {M : md_T} (hN : ty_N τ ρ) (hR : ty_Rg M τ ρ) (hF : ty_Wf M τ ρ [303, 5000]) {a900 : Nat} (h900 : τ a900 = some (0, 3)) : KV l D cy yX3_pass cX3_pass 1 (rL 4) τ ρ [.ref a900] (fun w => w = ρ) := by
  refine k_metV "EdgeEchoes$Line" rfl (by decide +kernel) (Nat.le_of_ble_eq_true rfl) ?_
  intro p e s m args below meth c Q ls X hG hl ret
  have hl : lv_has ls 1 [(0, .ref a900)] := hl
  refine lv_aload_n X.1 X.2.1 dX3_pass_0 rfl (lv_at hl 0 rfl) ?_
  refine gf_3_0 X hG h900 q_162 dX3_pass_1 (hN _ _ _ h900) (fun a1 h1 r1 => ?_)
  refine k_cVv X hG (c_X8_step l D cy τ _ hN hR (ty_Wf.sub (S' := [5000]) hF (by decide)) h1) h1 rfl yv_X8_step q_642 ⟨rfl, rfl⟩ ⟨Nat.le_of_ble_eq_true rfl, Nat.le_of_ble_eq_true rfl⟩ rfl hl.1 rfl (Nat.le_of_ble_eq_true rfl) ⟨Nat.zero_le _, Nat.zero_le _⟩ dX3_pass_4 (fun u4 H locs hG po2 => ?_)
  rw [po2] at hG
  refine lv_aload_n X.1 X.2.1 dX3_pass_7 rfl (lv_at hl 0 rfl) ?_
  refine gf_3_1 X hG h900 q_167 dX3_pass_8 (hN _ _ _ h900) (fun a5 h5 r5 => ?_)
  refine lv_aload_n X.1 X.2.1 dX3_pass_11 rfl (lv_at hl 0 rfl) ?_
  refine gf_3_0 X hG h900 q_162 dX3_pass_12 (hN _ _ _ h900) (fun a6 h6 r6 => ?_)
  refine k_cVv X hG (c_X1_watch l D cy τ _ hN hR (ty_Wf.sub (S' := [5000]) hF (by decide)) h5 h6) h5 rfl yv_X1_watch q_643 ⟨rfl, rfl⟩ ⟨Nat.le_of_ble_eq_true rfl, Nat.le_of_ble_eq_true rfl⟩ rfl hl.1 rfl (Nat.le_of_ble_eq_true rfl) ⟨Nat.zero_le _, Nat.zero_le _⟩ dX3_pass_15 (fun u9 H locs hG po7 => ?_)
  rw [po7] at hG
  refine lv_aload_n X.1 X.2.1 dX3_pass_18 rfl (lv_at hl 0 rfl) ?_
  refine lv_dup X.1 X.2.1 dX3_pass_19 rfl ?_
  refine gf_3_3 X hG h900 q_174 dX3_pass_20 (fun x10 r10 => ?_)
  have g10 := cI_rng x10
  refine n_ic X dX3_pass_23 (by decide) (by decide) (fun x11 t11 => ?_)
  refine lv_iadd X.1 X.2.1 dX3_pass_24 ?_
  refine n_any (fun x12 => ?_)
  refine pf_3_3 X hG h900 q_174 dX3_pass_25 (hF _ _ _ _ h900 (ty_in (n := 303) rfl) (ty_rno rfl)) (fun H locs hG => ?_)
  exact ret _ _ _ _ _ hG rfl dX3_pass_28
