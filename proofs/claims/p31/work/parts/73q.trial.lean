/-! methods that run the trial's line: other lines stay -/
/-- a line whose cells, ticks and whether it is told may be any -/
def LF (M : md_T) (τ : ty_T) (ρ : ty_R) (l : Nat) : Prop := (∀ x, ρ l 2 (.int x)) ∧ (∀ x, ρ l 3 (.int x)) ∧ ∀ w x, ρ l 0 (.ref w) → τ w = some (0, 8) → ty_rng M (0, 8) 7 x → ρ w 7 (.int x)
def TF (M : md_T) (τ : ty_T) (ρ : ty_R) (a : Nat) : Prop := ∀ l, ρ a 0 (.ref l) → τ l = some (0, 3) → LF M τ ρ l
set_option maxHeartbeats 4000000 in
set_option maxRecDepth 100000 in
theorem n_X8_copyFrom (l : Launch) (D : va_G) (cy : Nat → ClassId) (τ : ty_T) (ρ : ty_R) {M : md_T} (hN : ty_N τ ρ) (hR : ty_Rg M τ ρ) (hF : ty_Wf M τ ρ [806, 808, 809, 810, 811, 812, 5000, 6005]) {a900 : Nat} (h900 : τ a900 = some (0, 8)) {a901 : Nat} (h901 : τ a901 = some (0, 8)) (hW : ∀ x, ty_rng M (0, 8) 7 x → ρ a900 7 (.int x)) : KV l D cy yX8_copyFrom cX8_copyFrom 2 (rL 1) τ ρ [.ref a900, .ref a901] (fun w => w = ρ) := by
  refine k_metV "EdgeEchoes$Wire" rfl (by decide +kernel) (Nat.le_of_ble_eq_true rfl) ?_
  intro p e s m args below meth c Q ls X hG hl ret
  have hl : lv_has ls 2 [(0, .ref a900), (1, .ref a901)] := hl
  refine lv_aload_n X.1 X.2.1 dX8_copyFrom_0 rfl (lv_at hl 1 rfl) ?_
  refine gf_8_0 X hG h901 q_65 dX8_copyFrom_1 (hN _ _ _ h901) (fun a1 h1 r1 => ?_)
  refine n_ic X dX8_copyFrom_4 (by decide) (by decide) (fun x2 t2 => ?_)
  refine lv_aload_n X.1 X.2.1 dX8_copyFrom_5 rfl (lv_at hl 0 rfl) ?_
  refine gf_8_0 X hG h900 q_65 dX8_copyFrom_6 (hN _ _ _ h900) (fun a3 h3 r3 => ?_)
  refine n_ic X dX8_copyFrom_9 (by decide) (by decide) (fun x4 t4 => ?_)
  refine n_bp X dX8_copyFrom_10 (by decide) (by decide) (fun x5 t5 => ?_)
  refine tg_copy X hG hl.1 h1 h3 rfl rfl (by omega) (by omega) (by omega) (by show _ ≤ ((8 : Nat) : Int); omega) (by show _ ≤ ((8 : Nat) : Int); omega) q_524 q_526 q_525 q_19 (Nat.le_of_ble_eq_true rfl) (Nat.le_of_ble_eq_true rfl) dX8_copyFrom_12 (fun j j2 x hx => hF _ _ _ _ h3 (ty_in (n := 5000) rfl) (ty_rno rfl)) (fun H locs hG => ?_)
  refine lv_aload_n X.1 X.2.1 dX8_copyFrom_15 rfl (lv_at hl 1 rfl) ?_
  refine gf_8_1 X hG h901 q_67 dX8_copyFrom_16 (hN _ _ _ h901) (fun a6 h6 r6 => ?_)
  refine n_ic X dX8_copyFrom_19 (by decide) (by decide) (fun x7 t7 => ?_)
  refine lv_aload_n X.1 X.2.1 dX8_copyFrom_20 rfl (lv_at hl 0 rfl) ?_
  refine gf_8_1 X hG h900 q_67 dX8_copyFrom_21 (hN _ _ _ h900) (fun a8 h8 r8 => ?_)
  refine n_ic X dX8_copyFrom_24 (by decide) (by decide) (fun x9 t9 => ?_)
  refine n_bp X dX8_copyFrom_25 (by decide) (by decide) (fun x10 t10 => ?_)
  refine tg_copy X hG hl.1 h6 h8 rfl rfl (by omega) (by omega) (by omega) (by show _ ≤ ((8 : Nat) : Int); omega) (by show _ ≤ ((8 : Nat) : Int); omega) q_524 q_526 q_525 q_19 (Nat.le_of_ble_eq_true rfl) (Nat.le_of_ble_eq_true rfl) dX8_copyFrom_27 (fun j j2 x hx => hF _ _ _ _ h8 (ty_in (n := 6005) rfl) (fun lo hi q => hR _ _ j _ h6 hx lo hi q)) (fun H locs hG => ?_)
  refine lv_aload_n X.1 X.2.1 dX8_copyFrom_30 rfl (lv_at hl 1 rfl) ?_
  refine gf_8_2 X hG h901 q_69 dX8_copyFrom_31 (hN _ _ _ h901) (fun a11 h11 r11 => ?_)
  refine n_ic X dX8_copyFrom_34 (by decide) (by decide) (fun x12 t12 => ?_)
  refine lv_aload_n X.1 X.2.1 dX8_copyFrom_35 rfl (lv_at hl 0 rfl) ?_
  refine gf_8_2 X hG h900 q_69 dX8_copyFrom_36 (hN _ _ _ h900) (fun a13 h13 r13 => ?_)
  refine n_ic X dX8_copyFrom_39 (by decide) (by decide) (fun x14 t14 => ?_)
  refine n_bp X dX8_copyFrom_40 (by decide) (by decide) (fun x15 t15 => ?_)
  refine tg_copy X hG hl.1 h11 h13 rfl rfl (by omega) (by omega) (by omega) (by show _ ≤ ((72 : Nat) : Int); omega) (by show _ ≤ ((72 : Nat) : Int); omega) q_524 q_526 q_525 q_19 (Nat.le_of_ble_eq_true rfl) (Nat.le_of_ble_eq_true rfl) dX8_copyFrom_42 (fun j j2 x hx => hF _ _ _ _ h13 (ty_in (n := 5000) rfl) (ty_rno rfl)) (fun H locs hG => ?_)
  refine lv_aload_n X.1 X.2.1 dX8_copyFrom_45 rfl (lv_at hl 1 rfl) ?_
  refine gf_8_3 X hG h901 q_70 dX8_copyFrom_46 (hN _ _ _ h901) (fun a16 h16 r16 => ?_)
  refine n_ic X dX8_copyFrom_49 (by decide) (by decide) (fun x17 t17 => ?_)
  refine lv_aload_n X.1 X.2.1 dX8_copyFrom_50 rfl (lv_at hl 0 rfl) ?_
  refine gf_8_3 X hG h900 q_70 dX8_copyFrom_51 (hN _ _ _ h900) (fun a18 h18 r18 => ?_)
  refine n_ic X dX8_copyFrom_54 (by decide) (by decide) (fun x19 t19 => ?_)
  refine n_bp X dX8_copyFrom_55 (by decide) (by decide) (fun x20 t20 => ?_)
  refine tg_copy X hG hl.1 h16 h18 rfl rfl (by omega) (by omega) (by omega) (by show _ ≤ ((72 : Nat) : Int); omega) (by show _ ≤ ((72 : Nat) : Int); omega) q_524 q_526 q_525 q_19 (Nat.le_of_ble_eq_true rfl) (Nat.le_of_ble_eq_true rfl) dX8_copyFrom_57 (fun j j2 x hx => hF _ _ _ _ h18 (ty_in (n := 5000) rfl) (ty_rno rfl)) (fun H locs hG => ?_)
  refine lv_aload_n X.1 X.2.1 dX8_copyFrom_60 rfl (lv_at hl 1 rfl) ?_
  refine gf_8_4 X hG h901 q_72 dX8_copyFrom_61 (hN _ _ _ h901) (fun a21 h21 r21 => ?_)
  refine n_ic X dX8_copyFrom_64 (by decide) (by decide) (fun x22 t22 => ?_)
  refine lv_aload_n X.1 X.2.1 dX8_copyFrom_65 rfl (lv_at hl 0 rfl) ?_
  refine gf_8_4 X hG h900 q_72 dX8_copyFrom_66 (hN _ _ _ h900) (fun a23 h23 r23 => ?_)
  refine n_ic X dX8_copyFrom_69 (by decide) (by decide) (fun x24 t24 => ?_)
  refine n_bp X dX8_copyFrom_70 (by decide) (by decide) (fun x25 t25 => ?_)
  refine tg_copy X hG hl.1 h21 h23 rfl rfl (by omega) (by omega) (by omega) (by show _ ≤ ((72 : Nat) : Int); omega) (by show _ ≤ ((72 : Nat) : Int); omega) q_524 q_526 q_525 q_19 (Nat.le_of_ble_eq_true rfl) (Nat.le_of_ble_eq_true rfl) dX8_copyFrom_72 (fun j j2 x hx => hF _ _ _ _ h23 (ty_in (n := 5000) rfl) (ty_rno rfl)) (fun H locs hG => ?_)
  refine lv_aload_n X.1 X.2.1 dX8_copyFrom_75 rfl (lv_at hl 1 rfl) ?_
  refine gf_8_5 X hG h901 q_75 dX8_copyFrom_76 (hN _ _ _ h901) (fun a26 h26 r26 => ?_)
  refine n_ic X dX8_copyFrom_79 (by decide) (by decide) (fun x27 t27 => ?_)
  refine lv_aload_n X.1 X.2.1 dX8_copyFrom_80 rfl (lv_at hl 0 rfl) ?_
  refine gf_8_5 X hG h900 q_75 dX8_copyFrom_81 (hN _ _ _ h900) (fun a28 h28 r28 => ?_)
  refine n_ic X dX8_copyFrom_84 (by decide) (by decide) (fun x29 t29 => ?_)
  refine n_bp X dX8_copyFrom_85 (by decide) (by decide) (fun x30 t30 => ?_)
  refine tg_copy X hG hl.1 h26 h28 rfl rfl (by omega) (by omega) (by omega) (by show _ ≤ ((72 : Nat) : Int); omega) (by show _ ≤ ((72 : Nat) : Int); omega) q_524 q_526 q_525 q_19 (Nat.le_of_ble_eq_true rfl) (Nat.le_of_ble_eq_true rfl) dX8_copyFrom_87 (fun j j2 x hx => hF _ _ _ _ h28 (ty_in (n := 5000) rfl) (ty_rno rfl)) (fun H locs hG => ?_)
  refine lv_aload_n X.1 X.2.1 dX8_copyFrom_90 rfl (lv_at hl 0 rfl) ?_
  refine lv_aload_n X.1 X.2.1 dX8_copyFrom_91 rfl (lv_at hl 1 rfl) ?_
  refine gf_8_6 X hG h901 q_78 dX8_copyFrom_92 (fun x31 r31 => ?_)
  have b31 := (hR _ _ _ _ h901 r31) _ _ rfl
  refine pf_8_6 X hG h900 q_78 dX8_copyFrom_95 (hF _ _ _ _ h900 (ty_in (n := 806) rfl) (ty_ryes rfl (by omega))) (fun H locs hG => ?_)
  refine lv_aload_n X.1 X.2.1 dX8_copyFrom_98 rfl (lv_at hl 0 rfl) ?_
  refine lv_aload_n X.1 X.2.1 dX8_copyFrom_99 rfl (lv_at hl 1 rfl) ?_
  refine gf_8_7 X hG h901 q_81 dX8_copyFrom_100 (fun x32 r32 => ?_)
  have b32 := (hR _ _ _ _ h901 r32) _ _ rfl
  refine pf_8_7 X hG h900 q_81 dX8_copyFrom_103 (hW _ (ty_ryes rfl (by omega))) (fun H locs hG => ?_)
  refine lv_aload_n X.1 X.2.1 dX8_copyFrom_106 rfl (lv_at hl 0 rfl) ?_
  refine lv_aload_n X.1 X.2.1 dX8_copyFrom_107 rfl (lv_at hl 1 rfl) ?_
  refine gf_8_8 X hG h901 q_84 dX8_copyFrom_108 (fun x33 r33 => ?_)
  have g33 := cI_rng x33
  refine pf_8_8 X hG h900 q_84 dX8_copyFrom_111 (hF _ _ _ _ h900 (ty_in (n := 808) rfl) (ty_rno rfl)) (fun H locs hG => ?_)
  refine lv_aload_n X.1 X.2.1 dX8_copyFrom_114 rfl (lv_at hl 0 rfl) ?_
  refine lv_aload_n X.1 X.2.1 dX8_copyFrom_115 rfl (lv_at hl 1 rfl) ?_
  refine gf_8_9 X hG h901 q_88 dX8_copyFrom_116 (fun x34 r34 => ?_)
  have g34 := cI_rng x34
  refine pf_8_9 X hG h900 q_88 dX8_copyFrom_119 (hF _ _ _ _ h900 (ty_in (n := 809) rfl) (ty_rno rfl)) (fun H locs hG => ?_)
  refine lv_aload_n X.1 X.2.1 dX8_copyFrom_122 rfl (lv_at hl 0 rfl) ?_
  refine lv_aload_n X.1 X.2.1 dX8_copyFrom_123 rfl (lv_at hl 1 rfl) ?_
  refine gf_8_10 X hG h901 q_91 dX8_copyFrom_124 (fun x35 r35 => ?_)
  have g35 := cI_rng x35
  refine pf_8_10 X hG h900 q_91 dX8_copyFrom_127 (hF _ _ _ _ h900 (ty_in (n := 810) rfl) (ty_rno rfl)) (fun H locs hG => ?_)
  refine lv_aload_n X.1 X.2.1 dX8_copyFrom_130 rfl (lv_at hl 0 rfl) ?_
  refine lv_aload_n X.1 X.2.1 dX8_copyFrom_131 rfl (lv_at hl 1 rfl) ?_
  refine gf_8_11 X hG h901 q_93 dX8_copyFrom_132 (fun x36 r36 => ?_)
  have g36 := cI_rng x36
  refine pf_8_11 X hG h900 q_93 dX8_copyFrom_135 (hF _ _ _ _ h900 (ty_in (n := 811) rfl) (ty_rno rfl)) (fun H locs hG => ?_)
  refine lv_aload_n X.1 X.2.1 dX8_copyFrom_138 rfl (lv_at hl 0 rfl) ?_
  refine lv_aload_n X.1 X.2.1 dX8_copyFrom_139 rfl (lv_at hl 1 rfl) ?_
  refine gf_8_12 X hG h901 q_95 dX8_copyFrom_140 (fun x37 b37 r37 => ?_)
  refine pf_8_12 X hG h900 q_95 (by omega) dX8_copyFrom_143 (hF _ _ _ _ h900 (ty_in (n := 812) rfl) (ty_rno rfl)) (fun H locs hG => ?_)
  exact ret _ _ _ _ _ hG rfl dX8_copyFrom_146
set_option maxHeartbeats 4000000 in
set_option maxRecDepth 100000 in
theorem n_X3_copyFrom (l : Launch) (D : va_G) (cy : Nat → ClassId) (τ : ty_T) (ρ : ty_R) {M : md_T} (hN : ty_N τ ρ) (hR : ty_Rg M τ ρ) (hF : ty_Wf M τ ρ [106, 806, 808, 809, 810, 811, 812, 5000, 6005]) {a900 : Nat} (h900 : τ a900 = some (0, 3)) {a901 : Nat} (h901 : τ a901 = some (0, 3)) (hW : LF M τ ρ a900) : KV l D cy yX3_copyFrom cX3_copyFrom 2 (rL 2) τ ρ [.ref a900, .ref a901] (fun w => w = ρ) := by
  refine k_metV "EdgeEchoes$Line" rfl (by decide +kernel) (Nat.le_of_ble_eq_true rfl) ?_
  intro p e s m args below meth c Q ls X hG hl ret
  have hl : lv_has ls 2 [(0, .ref a900), (1, .ref a901)] := hl
  refine lv_aload_n X.1 X.2.1 dX3_copyFrom_0 rfl (lv_at hl 0 rfl) ?_
  refine gf_3_0 X hG h900 q_162 dX3_copyFrom_1 (hN _ _ _ h900) (fun a1 h1 r1 => ?_)
  refine lv_aload_n X.1 X.2.1 dX3_copyFrom_4 rfl (lv_at hl 1 rfl) ?_
  refine gf_3_0 X hG h901 q_162 dX3_copyFrom_5 (hN _ _ _ h901) (fun a2 h2 r2 => ?_)
  refine k_cVv X hG (n_X8_copyFrom l D cy τ _ hN hR (ty_Wf.sub (S' := [806, 808, 809, 810, 811, 812, 5000, 6005]) hF (by decide)) h1 h2 (fun x hx => hW.2.2 _ x r1 h1 hx)) h1 rfl yv_X8_copyFrom q_520 ⟨rfl, rfl⟩ ⟨Nat.le_of_ble_eq_true rfl, Nat.le_of_ble_eq_true rfl⟩ rfl hl.1 rfl (Nat.le_of_ble_eq_true rfl) ⟨Nat.zero_le _, Nat.zero_le _⟩ dX3_copyFrom_8 (fun u5 H locs hG po3 => ?_)
  rw [po3] at hG
  refine lv_aload_n X.1 X.2.1 dX3_copyFrom_11 rfl (lv_at hl 0 rfl) ?_
  refine gf_3_1 X hG h900 q_167 dX3_copyFrom_12 (hN _ _ _ h900) (fun a6 h6 r6 => ?_)
  refine lv_aload_n X.1 X.2.1 dX3_copyFrom_15 rfl (lv_at hl 1 rfl) ?_
  refine gf_3_1 X hG h901 q_167 dX3_copyFrom_16 (hN _ _ _ h901) (fun a7 h7 r7 => ?_)
  refine k_cVv X hG (c_X1_copyFrom l D cy τ _ hN hR (ty_Wf.sub (S' := [106, 5000]) hF (by decide)) h6 h7) h6 rfl yv_X1_copyFrom q_527 ⟨rfl, rfl⟩ ⟨Nat.le_of_ble_eq_true rfl, Nat.le_of_ble_eq_true rfl⟩ rfl hl.1 rfl (Nat.le_of_ble_eq_true rfl) ⟨Nat.zero_le _, Nat.zero_le _⟩ dX3_copyFrom_19 (fun u10 H locs hG po8 => ?_)
  rw [po8] at hG
  refine lv_aload_n X.1 X.2.1 dX3_copyFrom_22 rfl (lv_at hl 0 rfl) ?_
  refine lv_aload_n X.1 X.2.1 dX3_copyFrom_23 rfl (lv_at hl 1 rfl) ?_
  refine gf_3_2 X hG h901 q_171 dX3_copyFrom_24 (fun x11 b11 r11 => ?_)
  refine pf_3_2 X hG h900 q_171 (by omega) dX3_copyFrom_27 (hW.1 _) (fun H locs hG => ?_)
  refine lv_aload_n X.1 X.2.1 dX3_copyFrom_30 rfl (lv_at hl 0 rfl) ?_
  refine lv_aload_n X.1 X.2.1 dX3_copyFrom_31 rfl (lv_at hl 1 rfl) ?_
  refine gf_3_3 X hG h901 q_174 dX3_copyFrom_32 (fun x12 r12 => ?_)
  have g12 := cI_rng x12
  refine pf_3_3 X hG h900 q_174 dX3_copyFrom_35 (hW.2.1 _) (fun H locs hG => ?_)
  exact ret _ _ _ _ _ hG rfl dX3_copyFrom_38
set_option maxHeartbeats 4000000 in
set_option maxRecDepth 100000 in
theorem n_X3_pass (l : Launch) (D : va_G) (cy : Nat → ClassId) (τ : ty_T) (ρ : ty_R) {M : md_T} (hN : ty_N τ ρ) (hR : ty_Rg M τ ρ) (hF : ty_Wf M τ ρ [5000]) {a900 : Nat} (h900 : τ a900 = some (0, 3)) (hW : ∀ x, ρ a900 3 (.int x)) : KV l D cy yX3_pass cX3_pass 1 (rL 4) τ ρ [.ref a900] (fun w => w = ρ) := by
  refine k_metV "EdgeEchoes$Line" rfl (by decide +kernel) (Nat.le_of_ble_eq_true rfl) ?_
  intro p e s m args below meth c Q ls X hG hl ret
  have hl : lv_has ls 1 [(0, .ref a900)] := hl
  refine lv_aload_n X.1 X.2.1 dX3_pass_0 rfl (lv_at hl 0 rfl) ?_
  refine gf_3_0 X hG h900 q_162 dX3_pass_1 (hN _ _ _ h900) (fun a1 h1 r1 => ?_)
  refine k_cVv X hG (c_X8_step l D cy τ _ hN hR (ty_Wf.sub (S' := [5000]) hF (by decide)) h1) h1 rfl yv_X8_step q_642 ⟨rfl, rfl⟩ ⟨Nat.le_of_ble_eq_true rfl, Nat.le_of_ble_eq_true rfl⟩ rfl hl.1 rfl (Nat.le_of_ble_eq_true rfl) ⟨Nat.zero_le _, Nat.zero_le _⟩ dX3_pass_4 (fun u4 H locs hG po2 => ?_)
  rw [po2] at hG
  refine lv_aload_n X.1 X.2.1 dX3_pass_7 rfl (lv_at hl 0 rfl) ?_
  refine gf_3_1 X hG h900 q_167 dX3_pass_8 (hN _ _ _ h900) (fun a5 h5 r5 => ?_)
  refine lv_aload_n X.1 X.2.1 dX3_pass_11 rfl (lv_at hl 0 rfl) ?_
  refine gf_3_0 X hG h900 q_162 dX3_pass_12 (hN _ _ _ h900) (fun a6 h6 r6 => ?_)
  refine k_cVv X hG (c_X1_watch l D cy τ _ hN hR (ty_Wf.sub (S' := [5000]) hF (by decide)) h5 h6) h5 rfl yv_X1_watch q_643 ⟨rfl, rfl⟩ ⟨Nat.le_of_ble_eq_true rfl, Nat.le_of_ble_eq_true rfl⟩ rfl hl.1 rfl (Nat.le_of_ble_eq_true rfl) ⟨Nat.zero_le _, Nat.zero_le _⟩ dX3_pass_15 (fun u9 H locs hG po7 => ?_)
  rw [po7] at hG
  refine lv_aload_n X.1 X.2.1 dX3_pass_18 rfl (lv_at hl 0 rfl) ?_
  refine lv_dup X.1 X.2.1 dX3_pass_19 rfl ?_
  refine gf_3_3 X hG h900 q_174 dX3_pass_20 (fun x10 r10 => ?_)
  have g10 := cI_rng x10
  refine n_ic X dX3_pass_23 (by decide) (by decide) (fun x11 t11 => ?_)
  refine lv_iadd X.1 X.2.1 dX3_pass_24 ?_
  refine n_any (fun x12 => ?_)
  refine pf_3_3 X hG h900 q_174 dX3_pass_25 (hW _) (fun H locs hG => ?_)
  exact ret _ _ _ _ _ hG rfl dX3_pass_28
set_option maxHeartbeats 4000000 in
set_option maxRecDepth 100000 in
theorem n_X7_goOn (l : Launch) (D : va_G) (cy : Nat → ClassId) (τ : ty_T) (ρ : ty_R) {M : md_T} (hN : ty_N τ ρ) (hR : ty_Rg M τ ρ) (hF : ty_Wf M τ ρ [106, 806, 808, 809, 810, 811, 812, 5000, 6005]) {a900 : Nat} (h900 : τ a900 = some (0, 7)) {a901 : Nat} (h901 : τ a901 = some (0, 3)) (x902 : Int32) (hW : TF M τ ρ a900) : KV l D cy yX7_goOn cX7_goOn 4 (rL 5) τ ρ [.ref a900, .ref a901, .int x902] (fun w => w = ρ) := by
  refine k_metV "EdgeEchoes$Trial" rfl (by decide +kernel) (Nat.le_of_ble_eq_true rfl) ?_
  intro p e s m args below meth c Q ls X hG hl ret
  have hl : lv_has ls 4 [(0, .ref a900), (1, .ref a901), (2, .int x902)] := hl
  have g902 := cI_rng x902
  refine lv_aload_n X.1 X.2.1 dX7_goOn_0 rfl (lv_at hl 0 rfl) ?_
  refine gf_7_0 X hG h900 q_193 dX7_goOn_1 (hN _ _ _ h900) (fun a1 h1 r1 => ?_)
  refine lv_aload_n X.1 X.2.1 dX7_goOn_4 rfl (lv_at hl 1 rfl) ?_
  refine k_cVv X hG (n_X3_copyFrom l D cy τ _ hN hR (ty_Wf.sub (S' := [106, 806, 808, 809, 810, 811, 812, 5000, 6005]) hF (by decide)) h1 h901 (hW _ r1 h1)) h1 rfl yv_X3_copyFrom q_554 ⟨rfl, rfl⟩ ⟨Nat.le_of_ble_eq_true rfl, Nat.le_of_ble_eq_true rfl⟩ rfl hl.1 rfl (Nat.le_of_ble_eq_true rfl) ⟨Nat.zero_le _, Nat.zero_le _⟩ dX7_goOn_5 (fun u4 H locs hG po2 => ?_)
  rw [po2] at hG
  refine n_ic X dX7_goOn_8 (by decide) (by decide) (fun x5 t5 => ?_)
  refine lv_istore_n (lv' := [(3, .int x5), (0, .ref a900), (1, .ref a901), (2, .int x902)]) X.1 X.2.1 dX7_goOn_9 rfl hl (by decide) rfl (fun ls hl => ?_)
  have J10 : ∀ (n : Nat) (H : Heap) (locs : List Loc) (ls : Array Slot) (x6 : Int32), (0 ≤ x6.toInt) → (2147483647 - x6.toInt).toNat < n → TG D cy τ ρ (ty_d τ) s.heap H locs → lv_has ls 4 [(0, .ref a900), (1, .ref a901), (2, .int x902), (3, .int x6)] → W p l e (rL 5) s m args below meth c H locs 0 0 Q (F0 m 10 ls []) := by
    intro n
    induction n with
    | zero => intro H locs ls x6 bx6 hm10 hG hl; exact absurd hm10 (Nat.not_lt_zero _)
    | succ n ih10 =>
      intro H locs ls x6 bx6 hm10 hG hl
      have gx6 := cI_rng x6
      refine lv_iload_n X.1 X.2.1 dX7_goOn_10 rfl (lv_at hl 3 rfl) ?_
      refine lv_iload_n X.1 X.2.1 dX7_goOn_11 rfl (lv_at hl 2 rfl) ?_
      refine n_icmp_ge (tgt := 28) X dX7_goOn_12 (by decide) (fun c7 => ?_) (fun c7 => ?_)
      · exact ret _ _ _ _ _ hG rfl dX7_goOn_28
      · refine lv_aload_n X.1 X.2.1 dX7_goOn_15 rfl (lv_at hl 0 rfl) ?_
        refine gf_7_0 X hG h900 q_193 dX7_goOn_16 (hN _ _ _ h900) (fun a8 h8 r8 => ?_)
        refine k_cVv X hG (n_X3_pass l D cy τ _ hN hR (ty_Wf.sub (S' := [5000]) hF (by decide)) h8 (hW _ r8 h8).2.1) h8 rfl yv_X3_pass q_638 ⟨rfl, rfl⟩ ⟨Nat.le_of_ble_eq_true rfl, Nat.le_of_ble_eq_true rfl⟩ rfl hl.1 rfl (Nat.le_of_ble_eq_true rfl) ⟨Nat.zero_le _, Nat.zero_le _⟩ dX7_goOn_19 (fun u11 H locs hG po9 => ?_)
        rw [po9] at hG
        refine n_inc X (fun z13 => [(3, .int z13), (0, .ref a900), (1, .ref a901), (2, .int x902)]) dX7_goOn_22 hl (k := 3) rfl (by decide) (by decide) (by omega) (by omega) (by decide) (fun _ => rfl) (fun x12 ls t12 hl => ?_)
        have hl : lv_has ls 4 [(3, .int x12), (0, .ref a900), (1, .ref a901), (2, .int x902)] := hl
        refine lv_goto (tgt := 10) X.1 X.2.1 dX7_goOn_25 (by decide) ?_
        exact ih10 _ _ _ x12 (by omega) (by omega) hG (lv_sub hl [1, 2, 3, 0] rfl)
  exact J10 _ _ _ _ x5 (by omega) (Nat.lt_succ_self _) hG (lv_sub hl [1, 2, 3, 0] rfl)
set_option maxHeartbeats 4000000 in
set_option maxRecDepth 100000 in
theorem n_X7_startQuiet (l : Launch) (D : va_G) (cy : Nat → ClassId) (τ : ty_T) (ρ : ty_R) {M : md_T} (hN : ty_N τ ρ) (hR : ty_Rg M τ ρ) (hF : ty_Wf M τ ρ [106, 806, 808, 809, 810, 811, 812, 5000, 6005]) {a900 : Nat} (h900 : τ a900 = some (0, 7)) {a901 : Nat} (h901 : τ a901 = some (0, 3)) (hW : TF M τ ρ a900) : KV l D cy yX7_startQuiet cX7_startQuiet 2 (rL 3) τ ρ [.ref a900, .ref a901] (fun w => w = ρ) := by
  refine k_metV "EdgeEchoes$Trial" rfl (by decide +kernel) (Nat.le_of_ble_eq_true rfl) ?_
  intro p e s m args below meth c Q ls X hG hl ret
  have hl : lv_has ls 2 [(0, .ref a900), (1, .ref a901)] := hl
  refine lv_aload_n X.1 X.2.1 dX7_startQuiet_0 rfl (lv_at hl 0 rfl) ?_
  refine gf_7_0 X hG h900 q_193 dX7_startQuiet_1 (hN _ _ _ h900) (fun a1 h1 r1 => ?_)
  refine lv_aload_n X.1 X.2.1 dX7_startQuiet_4 rfl (lv_at hl 1 rfl) ?_
  refine k_cVv X hG (n_X3_copyFrom l D cy τ _ hN hR (ty_Wf.sub (S' := [106, 806, 808, 809, 810, 811, 812, 5000, 6005]) hF (by decide)) h1 h901 (hW _ r1 h1)) h1 rfl yv_X3_copyFrom q_554 ⟨rfl, rfl⟩ ⟨Nat.le_of_ble_eq_true rfl, Nat.le_of_ble_eq_true rfl⟩ rfl hl.1 rfl (Nat.le_of_ble_eq_true rfl) ⟨Nat.zero_le _, Nat.zero_le _⟩ dX7_startQuiet_5 (fun u4 H locs hG po2 => ?_)
  rw [po2] at hG
  refine lv_aload_n X.1 X.2.1 dX7_startQuiet_8 rfl (lv_at hl 0 rfl) ?_
  refine gf_7_0 X hG h900 q_193 dX7_startQuiet_9 (hN _ _ _ h900) (fun a5 h5 r5 => ?_)
  refine k_cVv X hG (c_X3_calm l D cy τ _ hN hR (ty_Wf.sub (S' := [5000]) hF (by decide)) h5) h5 rfl yv_X3_calm q_555 ⟨rfl, rfl⟩ ⟨Nat.le_of_ble_eq_true rfl, Nat.le_of_ble_eq_true rfl⟩ rfl hl.1 rfl (Nat.le_of_ble_eq_true rfl) ⟨Nat.zero_le _, Nat.zero_le _⟩ dX7_startQuiet_12 (fun u8 H locs hG po6 => ?_)
  rw [po6] at hG
  refine lv_aload_n X.1 X.2.1 dX7_startQuiet_15 rfl (lv_at hl 0 rfl) ?_
  refine gf_7_0 X hG h900 q_193 dX7_startQuiet_16 (hN _ _ _ h900) (fun a9 h9 r9 => ?_)
  refine gf_3_0 X hG h9 q_163 dX7_startQuiet_19 (hN _ _ _ h9) (fun a10 h10 r10 => ?_)
  refine n_ic X dX7_startQuiet_22 (by decide) (by decide) (fun x11 t11 => ?_)
  refine pf_8_12 X hG h10 q_96 (by omega) dX7_startQuiet_23 (hF _ _ _ _ h10 (ty_in (n := 812) rfl) (ty_rno rfl)) (fun H locs hG => ?_)
  exact ret _ _ _ _ _ hG rfl dX7_startQuiet_26
set_option maxHeartbeats 4000000 in
set_option maxRecDepth 100000 in
theorem n_X7_voltsBehind (l : Launch) (D : va_G) (cy : Nat → ClassId) (τ : ty_T) (ρ : ty_R) {M : md_T} (hN : ty_N τ ρ) (hR : ty_Rg M τ ρ) (hF : ty_Wf M τ ρ [106, 806, 808, 809, 810, 811, 812, 5000, 6005]) {a900 : Nat} (h900 : τ a900 = some (0, 7)) {a901 : Nat} (h901 : τ a901 = some (0, 3)) (x902 : Int32) (x903 : Int32) (hW : TF M τ ρ a900) : KI l D cy yX7_voltsBehind cX7_voltsBehind 5 .int (rL 4) τ ρ [.ref a900, .ref a901, .int x902, .int x903] (fun r u => u = ρ ∧ True) := by
  refine k_metI "EdgeEchoes$Trial" rfl (by decide +kernel) (Nat.le_of_ble_eq_true rfl) (fun _ _ _ => rfl) ?_
  intro p e s m args below meth c Q ls X hG hl ret
  have hl : lv_has ls 5 [(0, .ref a900), (1, .ref a901), (2, .int x902), (3, .int x903)] := hl
  have g902 := cI_rng x902
  have g903 := cI_rng x903
  refine lv_aload_n X.1 X.2.1 dX7_voltsBehind_0 rfl (lv_at hl 0 rfl) ?_
  refine gf_7_0 X hG h900 q_193 dX7_voltsBehind_1 (hN _ _ _ h900) (fun a1 h1 r1 => ?_)
  refine lv_aload_n X.1 X.2.1 dX7_voltsBehind_4 rfl (lv_at hl 1 rfl) ?_
  refine k_cVv X hG (n_X3_copyFrom l D cy τ _ hN hR (ty_Wf.sub (S' := [106, 806, 808, 809, 810, 811, 812, 5000, 6005]) hF (by decide)) h1 h901 (hW _ r1 h1)) h1 rfl yv_X3_copyFrom q_554 ⟨rfl, rfl⟩ ⟨Nat.le_of_ble_eq_true rfl, Nat.le_of_ble_eq_true rfl⟩ rfl hl.1 rfl (Nat.le_of_ble_eq_true rfl) ⟨Nat.zero_le _, Nat.zero_le _⟩ dX7_voltsBehind_5 (fun u4 H locs hG po2 => ?_)
  rw [po2] at hG
  refine n_ic X dX7_voltsBehind_8 (by decide) (by decide) (fun x5 t5 => ?_)
  refine lv_istore (lv' := [(4, .int x5), (0, .ref a900), (1, .ref a901), (2, .int x902), (3, .int x903)]) X.1 X.2.1 dX7_voltsBehind_9 hl (by decide) rfl (fun ls hl => ?_)
  have J11 : ∀ (n : Nat) (H : Heap) (locs : List Loc) (ls : Array Slot) (x6 : Int32), (0 ≤ x6.toInt) → (2147483647 - x6.toInt).toNat < n → TG D cy τ ρ (ty_d τ) s.heap H locs → lv_has ls 5 [(0, .ref a900), (1, .ref a901), (2, .int x902), (3, .int x903), (4, .int x6)] → W p l e (rL 4) s m args below meth c H locs 0 0 Q (F0 m 11 ls []) := by
    intro n
    induction n with
    | zero => intro H locs ls x6 bx6 hm11 hG hl; exact absurd hm11 (Nat.not_lt_zero _)
    | succ n ih11 =>
      intro H locs ls x6 bx6 hm11 hG hl
      have gx6 := cI_rng x6
      refine lv_iload X.1 X.2.1 dX7_voltsBehind_11 (lv_at hl 4 rfl) ?_
      refine lv_iload_n X.1 X.2.1 dX7_voltsBehind_13 rfl (lv_at hl 3 rfl) ?_
      refine n_icmp_ge (tgt := 33) X dX7_voltsBehind_14 (by decide) (fun c7 => ?_) (fun c7 => ?_)
      · refine lv_aload_n X.1 X.2.1 dX7_voltsBehind_33 rfl (lv_at hl 0 rfl) ?_
        refine gf_7_0 X hG h900 q_193 dX7_voltsBehind_34 (hN _ _ _ h900) (fun a8 h8 r8 => ?_)
        refine gf_3_0 X hG h8 q_163 dX7_voltsBehind_37 (hN _ _ _ h8) (fun a9 h9 r9 => ?_)
        refine lv_iload_n X.1 X.2.1 dX7_voltsBehind_40 rfl (lv_at hl 2 rfl) ?_
        refine k_cVi X hG (c_X8_voltsAt l D cy τ _ hN hR (ty_Wf.sub (S' := []) hF (by decide)) h9 x902) h9 rfl yv_X8_voltsAt q_588 ⟨rfl, rfl⟩ ⟨Nat.le_of_ble_eq_true rfl, Nat.le_of_ble_eq_true rfl⟩ rfl hl.1 rfl (Nat.le_of_ble_eq_true rfl) ⟨Nat.zero_le _, Nat.zero_le _⟩ dX7_voltsBehind_41 (fun x11 u12 H locs hG po10 => ?_)
        obtain ⟨eu12, po10⟩ := po10
        rw [eu12] at hG
        have g11 := cI_rng x11
        exact ret _ _ _ _ x11 _ hG ⟨rfl, trivial⟩ dX7_voltsBehind_44
      · refine lv_aload_n X.1 X.2.1 dX7_voltsBehind_17 rfl (lv_at hl 0 rfl) ?_
        refine gf_7_0 X hG h900 q_193 dX7_voltsBehind_18 (hN _ _ _ h900) (fun a13 h13 r13 => ?_)
        refine gf_3_0 X hG h13 q_163 dX7_voltsBehind_21 (hN _ _ _ h13) (fun a14 h14 r14 => ?_)
        refine k_cVv X hG (c_X8_step l D cy τ _ hN hR (ty_Wf.sub (S' := [5000]) hF (by decide)) h14) h14 rfl yv_X8_step q_561 ⟨rfl, rfl⟩ ⟨Nat.le_of_ble_eq_true rfl, Nat.le_of_ble_eq_true rfl⟩ rfl hl.1 rfl (Nat.le_of_ble_eq_true rfl) ⟨Nat.zero_le _, Nat.zero_le _⟩ dX7_voltsBehind_24 (fun u17 H locs hG po15 => ?_)
        rw [po15] at hG
        refine n_inc X (fun z19 => [(4, .int z19), (0, .ref a900), (1, .ref a901), (2, .int x902), (3, .int x903)]) dX7_voltsBehind_27 hl (k := 4) rfl (by decide) (by decide) (by omega) (by omega) (by decide) (fun _ => rfl) (fun x18 ls t18 hl => ?_)
        have hl : lv_has ls 5 [(4, .int x18), (0, .ref a900), (1, .ref a901), (2, .int x902), (3, .int x903)] := hl
        refine lv_goto (tgt := 11) X.1 X.2.1 dX7_voltsBehind_30 (by decide) ?_
        exact ih11 _ _ _ x18 (by omega) (by omega) hG (lv_sub hl [1, 2, 3, 4, 0] rfl)
  exact J11 _ _ _ _ x5 (by omega) (Nat.lt_succ_self _) hG (lv_sub hl [1, 2, 3, 4, 0] rfl)
set_option maxHeartbeats 4000000 in
set_option maxRecDepth 100000 in
theorem n_X7_peakUpTo (l : Launch) (D : va_G) (cy : Nat → ClassId) (τ : ty_T) (ρ : ty_R) {M : md_T} (hN : ty_N τ ρ) (hR : ty_Rg M τ ρ) (hF : ty_Wf M τ ρ [106, 806, 808, 809, 810, 811, 812, 5000, 6005]) {a900 : Nat} (h900 : τ a900 = some (0, 7)) {a901 : Nat} (h901 : τ a901 = some (0, 3)) (x902 : Int32) (x903 : Int32) (hW : TF M τ ρ a900) : KI l D cy yX7_peakUpTo cX7_peakUpTo 6 .int (rL 4) τ ρ [.ref a900, .ref a901, .int x902, .int x903] (fun r u => u = ρ ∧ True) := by
  refine k_metI "EdgeEchoes$Trial" rfl (by decide +kernel) (Nat.le_of_ble_eq_true rfl) (fun _ _ _ => rfl) ?_
  intro p e s m args below meth c Q ls X hG hl ret
  have hl : lv_has ls 6 [(0, .ref a900), (1, .ref a901), (2, .int x902), (3, .int x903)] := hl
  have g902 := cI_rng x902
  have g903 := cI_rng x903
  refine lv_aload_n X.1 X.2.1 dX7_peakUpTo_0 rfl (lv_at hl 0 rfl) ?_
  refine gf_7_0 X hG h900 q_193 dX7_peakUpTo_1 (hN _ _ _ h900) (fun a1 h1 r1 => ?_)
  refine lv_aload_n X.1 X.2.1 dX7_peakUpTo_4 rfl (lv_at hl 1 rfl) ?_
  refine k_cVv X hG (n_X3_copyFrom l D cy τ _ hN hR (ty_Wf.sub (S' := [106, 806, 808, 809, 810, 811, 812, 5000, 6005]) hF (by decide)) h1 h901 (hW _ r1 h1)) h1 rfl yv_X3_copyFrom q_554 ⟨rfl, rfl⟩ ⟨Nat.le_of_ble_eq_true rfl, Nat.le_of_ble_eq_true rfl⟩ rfl hl.1 rfl (Nat.le_of_ble_eq_true rfl) ⟨Nat.zero_le _, Nat.zero_le _⟩ dX7_peakUpTo_5 (fun u4 H locs hG po2 => ?_)
  rw [po2] at hG
  refine lv_aload_n X.1 X.2.1 dX7_peakUpTo_8 rfl (lv_at hl 0 rfl) ?_
  refine gf_7_0 X hG h900 q_193 dX7_peakUpTo_9 (hN _ _ _ h900) (fun a5 h5 r5 => ?_)
  refine gf_3_0 X hG h5 q_163 dX7_peakUpTo_12 (hN _ _ _ h5) (fun a6 h6 r6 => ?_)
  refine lv_iload_n X.1 X.2.1 dX7_peakUpTo_15 rfl (lv_at hl 2 rfl) ?_
  refine k_cVi X hG (c_X8_voltsAt l D cy τ _ hN hR (ty_Wf.sub (S' := []) hF (by decide)) h6 x902) h6 rfl yv_X8_voltsAt q_588 ⟨rfl, rfl⟩ ⟨Nat.le_of_ble_eq_true rfl, Nat.le_of_ble_eq_true rfl⟩ rfl hl.1 rfl (Nat.le_of_ble_eq_true rfl) ⟨Nat.zero_le _, Nat.zero_le _⟩ dX7_peakUpTo_16 (fun x8 u9 H locs hG po7 => ?_)
  obtain ⟨eu9, po7⟩ := po7
  rw [eu9] at hG
  have g8 := cI_rng x8
  refine lv_istore (lv' := [(4, .int x8), (0, .ref a900), (1, .ref a901), (2, .int x902), (3, .int x903)]) X.1 X.2.1 dX7_peakUpTo_19 hl (by decide) rfl (fun ls hl => ?_)
  refine n_ic X dX7_peakUpTo_21 (by decide) (by decide) (fun x10 t10 => ?_)
  refine lv_istore (lv' := [(5, .int x10), (4, .int x8), (0, .ref a900), (1, .ref a901), (2, .int x902), (3, .int x903)]) X.1 X.2.1 dX7_peakUpTo_22 hl (by decide) rfl (fun ls hl => ?_)
  have J24 : ∀ (n : Nat) (H : Heap) (locs : List Loc) (ls : Array Slot) (x11 : Int32) (x12 : Int32), (0 ≤ x12.toInt) → (2147483647 - x12.toInt).toNat < n → TG D cy τ ρ (ty_d τ) s.heap H locs → lv_has ls 6 [(0, .ref a900), (1, .ref a901), (2, .int x902), (3, .int x903), (4, .int x11), (5, .int x12)] → W p l e (rL 4) s m args below meth c H locs 0 0 Q (F0 m 24 ls []) := by
    intro n
    induction n with
    | zero => intro H locs ls x11 x12 bx12 hm24 hG hl; exact absurd hm24 (Nat.not_lt_zero _)
    | succ n ih24 =>
      intro H locs ls x11 x12 bx12 hm24 hG hl
      have gx11 := cI_rng x11
      have gx12 := cI_rng x12
      refine lv_iload X.1 X.2.1 dX7_peakUpTo_24 (lv_at hl 5 rfl) ?_
      refine lv_iload_n X.1 X.2.1 dX7_peakUpTo_26 rfl (lv_at hl 3 rfl) ?_
      refine n_icmp_ge (tgt := 64) X dX7_peakUpTo_27 (by decide) (fun c13 => ?_) (fun c13 => ?_)
      · refine lv_iload X.1 X.2.1 dX7_peakUpTo_64 (lv_at hl 4 rfl) ?_
        exact ret _ _ _ _ x11 _ hG ⟨rfl, trivial⟩ dX7_peakUpTo_66
      · refine lv_aload_n X.1 X.2.1 dX7_peakUpTo_30 rfl (lv_at hl 0 rfl) ?_
        refine gf_7_0 X hG h900 q_193 dX7_peakUpTo_31 (hN _ _ _ h900) (fun a14 h14 r14 => ?_)
        refine gf_3_0 X hG h14 q_163 dX7_peakUpTo_34 (hN _ _ _ h14) (fun a15 h15 r15 => ?_)
        refine k_cVv X hG (c_X8_step l D cy τ _ hN hR (ty_Wf.sub (S' := [5000]) hF (by decide)) h15) h15 rfl yv_X8_step q_561 ⟨rfl, rfl⟩ ⟨Nat.le_of_ble_eq_true rfl, Nat.le_of_ble_eq_true rfl⟩ rfl hl.1 rfl (Nat.le_of_ble_eq_true rfl) ⟨Nat.zero_le _, Nat.zero_le _⟩ dX7_peakUpTo_37 (fun u18 H locs hG po16 => ?_)
        rw [po16] at hG
        refine lv_iload X.1 X.2.1 dX7_peakUpTo_40 (lv_at hl 4 rfl) ?_
        refine lv_aload_n X.1 X.2.1 dX7_peakUpTo_42 rfl (lv_at hl 0 rfl) ?_
        refine gf_7_0 X hG h900 q_193 dX7_peakUpTo_43 (hN _ _ _ h900) (fun a19 h19 r19 => ?_)
        refine gf_3_0 X hG h19 q_163 dX7_peakUpTo_46 (hN _ _ _ h19) (fun a20 h20 r20 => ?_)
        refine lv_iload_n X.1 X.2.1 dX7_peakUpTo_49 rfl (lv_at hl 2 rfl) ?_
        refine k_cVi X hG (c_X8_voltsAt l D cy τ _ hN hR (ty_Wf.sub (S' := []) hF (by decide)) h20 x902) h20 rfl yv_X8_voltsAt q_588 ⟨rfl, rfl⟩ ⟨Nat.le_of_ble_eq_true rfl, Nat.le_of_ble_eq_true rfl⟩ rfl hl.1 rfl (Nat.le_of_ble_eq_true rfl) ⟨Nat.zero_le _, Nat.zero_le _⟩ dX7_peakUpTo_50 (fun x22 u23 H locs hG po21 => ?_)
        obtain ⟨eu23, po21⟩ := po21
        rw [eu23] at hG
        have g22 := cI_rng x22
        refine n_max X hl.1 q_593 q_411 q_15 q_412 (Nat.le_of_ble_eq_true rfl) (Nat.le_of_ble_eq_true rfl) ⟨Nat.zero_le _, Nat.zero_le _⟩ dX7_peakUpTo_53 (fun x24 t24 => ?_)
        refine lv_istore (lv' := [(4, .int x24), (0, .ref a900), (1, .ref a901), (2, .int x902), (3, .int x903), (5, .int x12)]) X.1 X.2.1 dX7_peakUpTo_56 hl (by decide) rfl (fun ls hl => ?_)
        refine n_inc X (fun z26 => [(5, .int z26), (4, .int x24), (0, .ref a900), (1, .ref a901), (2, .int x902), (3, .int x903)]) dX7_peakUpTo_58 hl (k := 5) rfl (by decide) (by decide) (by omega) (by omega) (by decide) (fun _ => rfl) (fun x25 ls t25 hl => ?_)
        have hl : lv_has ls 6 [(5, .int x25), (4, .int x24), (0, .ref a900), (1, .ref a901), (2, .int x902), (3, .int x903)] := hl
        refine lv_goto (tgt := 24) X.1 X.2.1 dX7_peakUpTo_61 (by decide) ?_
        exact ih24 _ _ _ x24 x25 (by omega) (by omega) hG (lv_sub hl [2, 3, 4, 5, 1, 0] rfl)
  exact J24 _ _ _ _ x8 x10 (by omega) (Nat.lt_succ_self _) hG (lv_sub hl [2, 3, 4, 5, 1, 0] rfl)
set_option maxHeartbeats 4000000 in
set_option maxRecDepth 100000 in
theorem n_X7_leastUpTo (l : Launch) (D : va_G) (cy : Nat → ClassId) (τ : ty_T) (ρ : ty_R) {M : md_T} (hN : ty_N τ ρ) (hR : ty_Rg M τ ρ) (hF : ty_Wf M τ ρ [106, 806, 808, 809, 810, 811, 812, 5000, 6005]) {a900 : Nat} (h900 : τ a900 = some (0, 7)) {a901 : Nat} (h901 : τ a901 = some (0, 3)) (x902 : Int32) (x903 : Int32) (hW : TF M τ ρ a900) : KI l D cy yX7_leastUpTo cX7_leastUpTo 6 .int (rL 4) τ ρ [.ref a900, .ref a901, .int x902, .int x903] (fun r u => u = ρ ∧ True) := by
  refine k_metI "EdgeEchoes$Trial" rfl (by decide +kernel) (Nat.le_of_ble_eq_true rfl) (fun _ _ _ => rfl) ?_
  intro p e s m args below meth c Q ls X hG hl ret
  have hl : lv_has ls 6 [(0, .ref a900), (1, .ref a901), (2, .int x902), (3, .int x903)] := hl
  have g902 := cI_rng x902
  have g903 := cI_rng x903
  refine lv_aload_n X.1 X.2.1 dX7_leastUpTo_0 rfl (lv_at hl 0 rfl) ?_
  refine gf_7_0 X hG h900 q_193 dX7_leastUpTo_1 (hN _ _ _ h900) (fun a1 h1 r1 => ?_)
  refine lv_aload_n X.1 X.2.1 dX7_leastUpTo_4 rfl (lv_at hl 1 rfl) ?_
  refine k_cVv X hG (n_X3_copyFrom l D cy τ _ hN hR (ty_Wf.sub (S' := [106, 806, 808, 809, 810, 811, 812, 5000, 6005]) hF (by decide)) h1 h901 (hW _ r1 h1)) h1 rfl yv_X3_copyFrom q_554 ⟨rfl, rfl⟩ ⟨Nat.le_of_ble_eq_true rfl, Nat.le_of_ble_eq_true rfl⟩ rfl hl.1 rfl (Nat.le_of_ble_eq_true rfl) ⟨Nat.zero_le _, Nat.zero_le _⟩ dX7_leastUpTo_5 (fun u4 H locs hG po2 => ?_)
  rw [po2] at hG
  refine lv_aload_n X.1 X.2.1 dX7_leastUpTo_8 rfl (lv_at hl 0 rfl) ?_
  refine gf_7_0 X hG h900 q_193 dX7_leastUpTo_9 (hN _ _ _ h900) (fun a5 h5 r5 => ?_)
  refine gf_3_0 X hG h5 q_163 dX7_leastUpTo_12 (hN _ _ _ h5) (fun a6 h6 r6 => ?_)
  refine lv_iload_n X.1 X.2.1 dX7_leastUpTo_15 rfl (lv_at hl 2 rfl) ?_
  refine k_cVi X hG (c_X8_voltsAt l D cy τ _ hN hR (ty_Wf.sub (S' := []) hF (by decide)) h6 x902) h6 rfl yv_X8_voltsAt q_588 ⟨rfl, rfl⟩ ⟨Nat.le_of_ble_eq_true rfl, Nat.le_of_ble_eq_true rfl⟩ rfl hl.1 rfl (Nat.le_of_ble_eq_true rfl) ⟨Nat.zero_le _, Nat.zero_le _⟩ dX7_leastUpTo_16 (fun x8 u9 H locs hG po7 => ?_)
  obtain ⟨eu9, po7⟩ := po7
  rw [eu9] at hG
  have g8 := cI_rng x8
  refine lv_istore (lv' := [(4, .int x8), (0, .ref a900), (1, .ref a901), (2, .int x902), (3, .int x903)]) X.1 X.2.1 dX7_leastUpTo_19 hl (by decide) rfl (fun ls hl => ?_)
  refine n_ic X dX7_leastUpTo_21 (by decide) (by decide) (fun x10 t10 => ?_)
  refine lv_istore (lv' := [(5, .int x10), (4, .int x8), (0, .ref a900), (1, .ref a901), (2, .int x902), (3, .int x903)]) X.1 X.2.1 dX7_leastUpTo_22 hl (by decide) rfl (fun ls hl => ?_)
  have J24 : ∀ (n : Nat) (H : Heap) (locs : List Loc) (ls : Array Slot) (x11 : Int32) (x12 : Int32), (0 ≤ x12.toInt) → (2147483647 - x12.toInt).toNat < n → TG D cy τ ρ (ty_d τ) s.heap H locs → lv_has ls 6 [(0, .ref a900), (1, .ref a901), (2, .int x902), (3, .int x903), (4, .int x11), (5, .int x12)] → W p l e (rL 4) s m args below meth c H locs 0 0 Q (F0 m 24 ls []) := by
    intro n
    induction n with
    | zero => intro H locs ls x11 x12 bx12 hm24 hG hl; exact absurd hm24 (Nat.not_lt_zero _)
    | succ n ih24 =>
      intro H locs ls x11 x12 bx12 hm24 hG hl
      have gx11 := cI_rng x11
      have gx12 := cI_rng x12
      refine lv_iload X.1 X.2.1 dX7_leastUpTo_24 (lv_at hl 5 rfl) ?_
      refine lv_iload_n X.1 X.2.1 dX7_leastUpTo_26 rfl (lv_at hl 3 rfl) ?_
      refine n_icmp_ge (tgt := 64) X dX7_leastUpTo_27 (by decide) (fun c13 => ?_) (fun c13 => ?_)
      · refine lv_iload X.1 X.2.1 dX7_leastUpTo_64 (lv_at hl 4 rfl) ?_
        exact ret _ _ _ _ x11 _ hG ⟨rfl, trivial⟩ dX7_leastUpTo_66
      · refine lv_aload_n X.1 X.2.1 dX7_leastUpTo_30 rfl (lv_at hl 0 rfl) ?_
        refine gf_7_0 X hG h900 q_193 dX7_leastUpTo_31 (hN _ _ _ h900) (fun a14 h14 r14 => ?_)
        refine gf_3_0 X hG h14 q_163 dX7_leastUpTo_34 (hN _ _ _ h14) (fun a15 h15 r15 => ?_)
        refine k_cVv X hG (c_X8_step l D cy τ _ hN hR (ty_Wf.sub (S' := [5000]) hF (by decide)) h15) h15 rfl yv_X8_step q_561 ⟨rfl, rfl⟩ ⟨Nat.le_of_ble_eq_true rfl, Nat.le_of_ble_eq_true rfl⟩ rfl hl.1 rfl (Nat.le_of_ble_eq_true rfl) ⟨Nat.zero_le _, Nat.zero_le _⟩ dX7_leastUpTo_37 (fun u18 H locs hG po16 => ?_)
        rw [po16] at hG
        refine lv_iload X.1 X.2.1 dX7_leastUpTo_40 (lv_at hl 4 rfl) ?_
        refine lv_aload_n X.1 X.2.1 dX7_leastUpTo_42 rfl (lv_at hl 0 rfl) ?_
        refine gf_7_0 X hG h900 q_193 dX7_leastUpTo_43 (hN _ _ _ h900) (fun a19 h19 r19 => ?_)
        refine gf_3_0 X hG h19 q_163 dX7_leastUpTo_46 (hN _ _ _ h19) (fun a20 h20 r20 => ?_)
        refine lv_iload_n X.1 X.2.1 dX7_leastUpTo_49 rfl (lv_at hl 2 rfl) ?_
        refine k_cVi X hG (c_X8_voltsAt l D cy τ _ hN hR (ty_Wf.sub (S' := []) hF (by decide)) h20 x902) h20 rfl yv_X8_voltsAt q_588 ⟨rfl, rfl⟩ ⟨Nat.le_of_ble_eq_true rfl, Nat.le_of_ble_eq_true rfl⟩ rfl hl.1 rfl (Nat.le_of_ble_eq_true rfl) ⟨Nat.zero_le _, Nat.zero_le _⟩ dX7_leastUpTo_50 (fun x22 u23 H locs hG po21 => ?_)
        obtain ⟨eu23, po21⟩ := po21
        rw [eu23] at hG
        have g22 := cI_rng x22
        refine n_min X hl.1 q_761 q_414 q_15 q_415 (Nat.le_of_ble_eq_true rfl) (Nat.le_of_ble_eq_true rfl) ⟨Nat.zero_le _, Nat.zero_le _⟩ dX7_leastUpTo_53 (fun x24 t24 => ?_)
        refine lv_istore (lv' := [(4, .int x24), (0, .ref a900), (1, .ref a901), (2, .int x902), (3, .int x903), (5, .int x12)]) X.1 X.2.1 dX7_leastUpTo_56 hl (by decide) rfl (fun ls hl => ?_)
        refine n_inc X (fun z26 => [(5, .int z26), (4, .int x24), (0, .ref a900), (1, .ref a901), (2, .int x902), (3, .int x903)]) dX7_leastUpTo_58 hl (k := 5) rfl (by decide) (by decide) (by omega) (by omega) (by decide) (fun _ => rfl) (fun x25 ls t25 hl => ?_)
        have hl : lv_has ls 6 [(5, .int x25), (4, .int x24), (0, .ref a900), (1, .ref a901), (2, .int x902), (3, .int x903)] := hl
        refine lv_goto (tgt := 24) X.1 X.2.1 dX7_leastUpTo_61 (by decide) ?_
        exact ih24 _ _ _ x24 x25 (by omega) (by omega) hG (lv_sub hl [2, 3, 4, 5, 1, 0] rfl)
  exact J24 _ _ _ _ x8 x10 (by omega) (Nat.lt_succ_self _) hG (lv_sub hl [2, 3, 4, 5, 1, 0] rfl)
set_option maxHeartbeats 4000000 in
set_option maxRecDepth 100000 in
theorem n_X7_restOf (l : Launch) (D : va_G) (cy : Nat → ClassId) (τ : ty_T) (ρ : ty_R) {M : md_T} (hN : ty_N τ ρ) (hR : ty_Rg M τ ρ) (hF : ty_Wf M τ ρ [106, 806, 808, 809, 810, 811, 812, 5000, 6005]) {a900 : Nat} (h900 : τ a900 = some (0, 7)) {a901 : Nat} (h901 : τ a901 = some (0, 3)) (x902 : Int32) (hW : TF M τ ρ a900) : KI l D cy yX7_restOf cX7_restOf 5 .int (rL 4) τ ρ [.ref a900, .ref a901, .int x902] (fun r u => u = ρ ∧ True) := by
  refine k_metI "EdgeEchoes$Trial" rfl (by decide +kernel) (Nat.le_of_ble_eq_true rfl) (fun _ _ _ => rfl) ?_
  intro p e s m args below meth c Q ls X hG hl ret
  have hl : lv_has ls 5 [(0, .ref a900), (1, .ref a901), (2, .int x902)] := hl
  have g902 := cI_rng x902
  refine lv_aload_n X.1 X.2.1 dX7_restOf_0 rfl (lv_at hl 0 rfl) ?_
  refine gf_7_0 X hG h900 q_193 dX7_restOf_1 (hN _ _ _ h900) (fun a1 h1 r1 => ?_)
  refine lv_aload_n X.1 X.2.1 dX7_restOf_4 rfl (lv_at hl 1 rfl) ?_
  refine k_cVv X hG (n_X3_copyFrom l D cy τ _ hN hR (ty_Wf.sub (S' := [106, 806, 808, 809, 810, 811, 812, 5000, 6005]) hF (by decide)) h1 h901 (hW _ r1 h1)) h1 rfl yv_X3_copyFrom q_554 ⟨rfl, rfl⟩ ⟨Nat.le_of_ble_eq_true rfl, Nat.le_of_ble_eq_true rfl⟩ rfl hl.1 rfl (Nat.le_of_ble_eq_true rfl) ⟨Nat.zero_le _, Nat.zero_le _⟩ dX7_restOf_5 (fun u4 H locs hG po2 => ?_)
  rw [po2] at hG
  refine lv_aload_n X.1 X.2.1 dX7_restOf_8 rfl (lv_at hl 0 rfl) ?_
  refine gf_7_1 X hG h900 q_196 dX7_restOf_9 (hN _ _ _ h900) (fun a5 h5 r5 => ?_)
  refine n_ic X dX7_restOf_12 (by decide) (by decide) (fun x6 t6 => ?_)
  refine lv_aload_n X.1 X.2.1 dX7_restOf_13 rfl (lv_at hl 0 rfl) ?_
  refine gf_7_0 X hG h900 q_193 dX7_restOf_14 (hN _ _ _ h900) (fun a7 h7 r7 => ?_)
  refine gf_3_0 X hG h7 q_163 dX7_restOf_17 (hN _ _ _ h7) (fun a8 h8 r8 => ?_)
  refine lv_iload_n X.1 X.2.1 dX7_restOf_20 rfl (lv_at hl 2 rfl) ?_
  refine k_cVi X hG (c_X8_voltsAt l D cy τ _ hN hR (ty_Wf.sub (S' := []) hF (by decide)) h8 x902) h8 rfl yv_X8_voltsAt q_588 ⟨rfl, rfl⟩ ⟨Nat.le_of_ble_eq_true rfl, Nat.le_of_ble_eq_true rfl⟩ rfl hl.1 rfl (Nat.le_of_ble_eq_true rfl) ⟨Nat.zero_le _, Nat.zero_le _⟩ dX7_restOf_21 (fun x10 u11 H locs hG po9 => ?_)
  obtain ⟨eu11, po9⟩ := po9
  rw [eu11] at hG
  have g10 := cI_rng x10
  refine tg_iasf X hG h5 rfl (cI_in (n := 201) (by omega)) dX7_restOf_24 (hF _ _ _ _ h5 (ty_in (n := 5000) rfl) (ty_rno rfl)) (fun H locs hG => ?_)
  refine n_ic X dX7_restOf_25 (by decide) (by decide) (fun x12 t12 => ?_)
  refine lv_istore_n (lv' := [(3, .int x12), (0, .ref a900), (1, .ref a901), (2, .int x902)]) X.1 X.2.1 dX7_restOf_26 rfl hl (by decide) rfl (fun ls hl => ?_)
  have J27 : ∀ (n : Nat) (H : Heap) (locs : List Loc) (ls : Array Slot) (x13 : Int32), (1 ≤ x13.toInt ∧ x13.toInt ≤ 201) → (201 - x13.toInt).toNat < n → TG D cy τ ρ (ty_d τ) s.heap H locs → lv_has ls 5 [(0, .ref a900), (1, .ref a901), (2, .int x902), (3, .int x13)] → W p l e (rL 4) s m args below meth c H locs 0 0 Q (F0 m 27 ls []) := by
    intro n
    induction n with
    | zero => intro H locs ls x13 bx13 hm27 hG hl; exact absurd hm27 (Nat.not_lt_zero _)
    | succ n ih27 =>
      intro H locs ls x13 bx13 hm27 hG hl
      refine lv_iload_n X.1 X.2.1 dX7_restOf_27 rfl (lv_at hl 3 rfl) ?_
      refine n_sp X dX7_restOf_28 (by decide) (by decide) (fun x14 t14 => ?_)
      refine n_icmp_gt (tgt := 67) X dX7_restOf_31 (by decide) (fun c15 => ?_) (fun c15 => ?_)
      · refine n_sp X dX7_restOf_67 (by decide) (by decide) (fun x16 t16 => ?_)
        refine lv_istore_n (lv' := [(3, .int x16), (0, .ref a900), (1, .ref a901), (2, .int x902)]) X.1 X.2.1 dX7_restOf_70 rfl hl (by decide) rfl (fun ls hl => ?_)
        refine n_sp X dX7_restOf_71 (by decide) (by decide) (fun x17 t17 => ?_)
        refine lv_istore (lv' := [(4, .int x17), (3, .int x16), (0, .ref a900), (1, .ref a901), (2, .int x902)]) X.1 X.2.1 dX7_restOf_74 hl (by decide) rfl (fun ls hl => ?_)
        have J76 : ∀ (n : Nat) (H : Heap) (locs : List Loc) (ls : Array Slot) (x18 : Int32) (x19 : Int32), (0 ≤ x18.toInt ∧ x18.toInt ≤ 200) → (-1 ≤ x19.toInt ∧ x19.toInt ≤ 200) → (x19.toInt - -1).toNat < n → TG D cy τ ρ (ty_d τ) s.heap H locs → lv_has ls 5 [(0, .ref a900), (1, .ref a901), (2, .int x902), (3, .int x18), (4, .int x19)] → W p l e (rL 4) s m args below meth c H locs 0 0 Q (F0 m 76 ls []) := by
          intro n
          induction n with
          | zero => intro H locs ls x18 x19 bx18 bx19 hm76 hG hl; exact absurd hm76 (Nat.not_lt_zero _)
          | succ n ih76 =>
            intro H locs ls x18 x19 bx18 bx19 hm76 hG hl
            refine lv_iload X.1 X.2.1 dX7_restOf_76 (lv_at hl 4 rfl) ?_
            refine n_if_lt (tgt := 117) X dX7_restOf_78 (by decide) (fun c20 => ?_) (fun c20 => ?_)
            · refine lv_iload_n X.1 X.2.1 dX7_restOf_117 rfl (lv_at hl 3 rfl) ?_
              exact ret _ _ _ _ x18 _ hG ⟨rfl, trivial⟩ dX7_restOf_118
            · refine lv_aload_n X.1 X.2.1 dX7_restOf_81 rfl (lv_at hl 0 rfl) ?_
              refine gf_7_1 X hG h900 q_196 dX7_restOf_82 (hN _ _ _ h900) (fun a21 h21 r21 => ?_)
              refine lv_iload X.1 X.2.1 dX7_restOf_85 (lv_at hl 4 rfl) ?_
              refine tg_iald X hG h21 rfl (cI_in (n := 201) (by omega)) dX7_restOf_87 (fun x22 r22 => ?_)
              refine lv_aload_n X.1 X.2.1 dX7_restOf_88 rfl (lv_at hl 0 rfl) ?_
              refine gf_7_1 X hG h900 q_196 dX7_restOf_89 (hN _ _ _ h900) (fun a23 h23 r23 => ?_)
              refine n_sp X dX7_restOf_92 (by decide) (by decide) (fun x24 t24 => ?_)
              refine tg_iald X hG h23 rfl (cI_in (n := 201) (by omega)) dX7_restOf_95 (fun x25 r25 => ?_)
              refine lv_isub X.1 X.2.1 dX7_restOf_96 ?_
              refine n_any (fun x26 => ?_)
              refine n_abs X hl.1 q_770 q_771 q_15 q_772 (Nat.le_of_ble_eq_true rfl) (Nat.le_of_ble_eq_true rfl) ⟨Nat.zero_le _, Nat.zero_le _⟩ dX7_restOf_97 (fun x27 => ?_)
              refine n_bp X dX7_restOf_100 (by decide) (by decide) (fun x28 t28 => ?_)
              refine n_icmp_le (tgt := 108) X dX7_restOf_102 (by decide) (fun c29 => ?_) (fun c29 => ?_)
              · refine lv_iload X.1 X.2.1 dX7_restOf_108 (lv_at hl 4 rfl) ?_
                refine lv_istore_n (lv' := [(3, .int x19), (0, .ref a900), (1, .ref a901), (2, .int x902), (4, .int x19)]) X.1 X.2.1 dX7_restOf_110 rfl hl (by decide) rfl (fun ls hl => ?_)
                refine n_inc X (fun z31 => [(4, .int z31), (3, .int x19), (0, .ref a900), (1, .ref a901), (2, .int x902)]) dX7_restOf_111 hl (k := 4) rfl (by decide) (by decide) (by omega) (by omega) (by decide) (fun _ => rfl) (fun x30 ls t30 hl => ?_)
                have hl : lv_has ls 5 [(4, .int x30), (3, .int x19), (0, .ref a900), (1, .ref a901), (2, .int x902)] := hl
                refine lv_goto (tgt := 76) X.1 X.2.1 dX7_restOf_114 (by decide) ?_
                exact ih76 _ _ _ x19 x30 (by omega) (by omega) (by omega) hG (lv_sub hl [2, 3, 4, 1, 0] rfl)
              · refine lv_goto (tgt := 117) X.1 X.2.1 dX7_restOf_105 (by decide) ?_
                refine lv_iload_n X.1 X.2.1 dX7_restOf_117 rfl (lv_at hl 3 rfl) ?_
                exact ret _ _ _ _ x18 _ hG ⟨rfl, trivial⟩ dX7_restOf_118
        exact J76 _ _ _ _ x16 x17 (by omega) (by omega) (Nat.lt_succ_self _) hG (lv_sub hl [2, 3, 4, 1, 0] rfl)
      · refine lv_aload_n X.1 X.2.1 dX7_restOf_34 rfl (lv_at hl 0 rfl) ?_
        refine gf_7_0 X hG h900 q_193 dX7_restOf_35 (hN _ _ _ h900) (fun a32 h32 r32 => ?_)
        refine gf_3_0 X hG h32 q_163 dX7_restOf_38 (hN _ _ _ h32) (fun a33 h33 r33 => ?_)
        refine k_cVv X hG (c_X8_step l D cy τ _ hN hR (ty_Wf.sub (S' := [5000]) hF (by decide)) h33) h33 rfl yv_X8_step q_561 ⟨rfl, rfl⟩ ⟨Nat.le_of_ble_eq_true rfl, Nat.le_of_ble_eq_true rfl⟩ rfl hl.1 rfl (Nat.le_of_ble_eq_true rfl) ⟨Nat.zero_le _, Nat.zero_le _⟩ dX7_restOf_41 (fun u36 H locs hG po34 => ?_)
        rw [po34] at hG
        refine lv_aload_n X.1 X.2.1 dX7_restOf_44 rfl (lv_at hl 0 rfl) ?_
        refine gf_7_1 X hG h900 q_196 dX7_restOf_45 (hN _ _ _ h900) (fun a37 h37 r37 => ?_)
        refine lv_iload_n X.1 X.2.1 dX7_restOf_48 rfl (lv_at hl 3 rfl) ?_
        refine lv_aload_n X.1 X.2.1 dX7_restOf_49 rfl (lv_at hl 0 rfl) ?_
        refine gf_7_0 X hG h900 q_193 dX7_restOf_50 (hN _ _ _ h900) (fun a38 h38 r38 => ?_)
        refine gf_3_0 X hG h38 q_163 dX7_restOf_53 (hN _ _ _ h38) (fun a39 h39 r39 => ?_)
        refine lv_iload_n X.1 X.2.1 dX7_restOf_56 rfl (lv_at hl 2 rfl) ?_
        refine k_cVi X hG (c_X8_voltsAt l D cy τ _ hN hR (ty_Wf.sub (S' := []) hF (by decide)) h39 x902) h39 rfl yv_X8_voltsAt q_588 ⟨rfl, rfl⟩ ⟨Nat.le_of_ble_eq_true rfl, Nat.le_of_ble_eq_true rfl⟩ rfl hl.1 rfl (Nat.le_of_ble_eq_true rfl) ⟨Nat.zero_le _, Nat.zero_le _⟩ dX7_restOf_57 (fun x41 u42 H locs hG po40 => ?_)
        obtain ⟨eu42, po40⟩ := po40
        rw [eu42] at hG
        have g41 := cI_rng x41
        refine tg_iasf X hG h37 rfl (cI_in (n := 201) (by omega)) dX7_restOf_60 (hF _ _ _ _ h37 (ty_in (n := 5000) rfl) (ty_rno rfl)) (fun H locs hG => ?_)
        refine n_inc X (fun z44 => [(3, .int z44), (0, .ref a900), (1, .ref a901), (2, .int x902)]) dX7_restOf_61 hl (k := 3) rfl (by decide) (by decide) (by omega) (by omega) (by decide) (fun _ => rfl) (fun x43 ls t43 hl => ?_)
        have hl : lv_has ls 5 [(3, .int x43), (0, .ref a900), (1, .ref a901), (2, .int x902)] := hl
        refine lv_goto (tgt := 27) X.1 X.2.1 dX7_restOf_64 (by decide) ?_
        exact ih27 _ _ _ x43 (by omega) (by omega) hG (lv_sub hl [1, 2, 3, 0] rfl)
  exact J27 _ _ _ _ x12 (by omega) (Nat.lt_succ_self _) hG (lv_sub hl [1, 2, 3, 0] rfl)
set_option maxHeartbeats 4000000 in
set_option maxRecDepth 100000 in
theorem n_X7_firstOneOf (l : Launch) (D : va_G) (cy : Nat → ClassId) (τ : ty_T) (ρ : ty_R) {M : md_T} (hN : ty_N τ ρ) (hR : ty_Rg M τ ρ) (hF : ty_Wf M τ ρ [106, 806, 808, 809, 810, 811, 812, 5000, 6005]) {a900 : Nat} (h900 : τ a900 = some (0, 7)) {a901 : Nat} (h901 : τ a901 = some (0, 3)) (x902 : Int32) (hW : TF M τ ρ a900) : KI l D cy yX7_firstOneOf cX7_firstOneOf 4 .int (rL 5) τ ρ [.ref a900, .ref a901, .int x902] (fun r u => u = ρ ∧ True) := by
  refine k_metI "EdgeEchoes$Trial" rfl (by decide +kernel) (Nat.le_of_ble_eq_true rfl) (fun _ _ _ => rfl) ?_
  intro p e s m args below meth c Q ls X hG hl ret
  have hl : lv_has ls 4 [(0, .ref a900), (1, .ref a901), (2, .int x902)] := hl
  have g902 := cI_rng x902
  refine lv_aload_n X.1 X.2.1 dX7_firstOneOf_0 rfl (lv_at hl 1 rfl) ?_
  refine gf_3_1 X hG h901 q_170 dX7_firstOneOf_1 (hN _ _ _ h901) (fun a1 h1 r1 => ?_)
  refine lv_iload_n X.1 X.2.1 dX7_firstOneOf_4 rfl (lv_at hl 2 rfl) ?_
  refine k_cVi X hG (c_X1_has l D cy τ _ hN hR (ty_Wf.sub (S' := []) hF (by decide)) h1 x902) h1 rfl yv_X1_has q_637 ⟨rfl, rfl⟩ ⟨Nat.le_of_ble_eq_true rfl, Nat.le_of_ble_eq_true rfl⟩ rfl hl.1 rfl (Nat.le_of_ble_eq_true rfl) ⟨Nat.zero_le _, Nat.zero_le _⟩ dX7_firstOneOf_5 (fun x3 u4 H locs hG po2 => ?_)
  obtain ⟨eu4, po2⟩ := po2
  rw [eu4] at hG
  refine n_if_ne (tgt := 13) X dX7_firstOneOf_8 (by decide) (fun c5 => ?_) (fun c5 => ?_)
  · refine lv_aload_n X.1 X.2.1 dX7_firstOneOf_13 rfl (lv_at hl 0 rfl) ?_
    refine gf_7_0 X hG h900 q_193 dX7_firstOneOf_14 (hN _ _ _ h900) (fun a6 h6 r6 => ?_)
    refine lv_aload_n X.1 X.2.1 dX7_firstOneOf_17 rfl (lv_at hl 1 rfl) ?_
    refine k_cVv X hG (n_X3_copyFrom l D cy τ _ hN hR (ty_Wf.sub (S' := [106, 806, 808, 809, 810, 811, 812, 5000, 6005]) hF (by decide)) h6 h901 (hW _ r6 h6)) h6 rfl yv_X3_copyFrom q_554 ⟨rfl, rfl⟩ ⟨Nat.le_of_ble_eq_true rfl, Nat.le_of_ble_eq_true rfl⟩ rfl hl.1 rfl (Nat.le_of_ble_eq_true rfl) ⟨Nat.zero_le _, Nat.zero_le _⟩ dX7_firstOneOf_18 (fun u9 H locs hG po7 => ?_)
    rw [po7] at hG
    refine n_ic X dX7_firstOneOf_21 (by decide) (by decide) (fun x10 t10 => ?_)
    refine lv_istore_n (lv' := [(3, .int x10), (0, .ref a900), (1, .ref a901), (2, .int x902)]) X.1 X.2.1 dX7_firstOneOf_22 rfl hl (by decide) rfl (fun ls hl => ?_)
    have J23 : ∀ (n : Nat) (H : Heap) (locs : List Loc) (ls : Array Slot) (x11 : Int32), (0 ≤ x11.toInt ∧ x11.toInt ≤ 201) → (201 - x11.toInt).toNat < n → TG D cy τ ρ (ty_d τ) s.heap H locs → lv_has ls 4 [(0, .ref a900), (1, .ref a901), (2, .int x902), (3, .int x11)] → W p l e (rL 5) s m args below meth c H locs 0 0 Q (F0 m 23 ls []) := by
      intro n
      induction n with
      | zero => intro H locs ls x11 bx11 hm23 hG hl; exact absurd hm23 (Nat.not_lt_zero _)
      | succ n ih23 =>
        intro H locs ls x11 bx11 hm23 hG hl
        refine lv_iload_n X.1 X.2.1 dX7_firstOneOf_23 rfl (lv_at hl 3 rfl) ?_
        refine n_sp X dX7_firstOneOf_24 (by decide) (by decide) (fun x12 t12 => ?_)
        refine n_icmp_gt (tgt := 61) X dX7_firstOneOf_27 (by decide) (fun c13 => ?_) (fun c13 => ?_)
        · refine n_ic X dX7_firstOneOf_61 (by decide) (by decide) (fun x14 t14 => ?_)
          exact ret _ _ _ _ x14 _ hG ⟨rfl, trivial⟩ dX7_firstOneOf_62
        · refine lv_aload_n X.1 X.2.1 dX7_firstOneOf_30 rfl (lv_at hl 0 rfl) ?_
          refine gf_7_0 X hG h900 q_193 dX7_firstOneOf_31 (hN _ _ _ h900) (fun a15 h15 r15 => ?_)
          refine gf_3_1 X hG h15 q_170 dX7_firstOneOf_34 (hN _ _ _ h15) (fun a16 h16 r16 => ?_)
          refine gf_1_3 X hG h16 q_138 dX7_firstOneOf_37 (hN _ _ _ h16) (fun a17 h17 r17 => ?_)
          refine lv_iload_n X.1 X.2.1 dX7_firstOneOf_40 rfl (lv_at hl 2 rfl) ?_
          refine tg_iald X hG h17 rfl (cI_in (n := 6) (by omega)) dX7_firstOneOf_41 (fun x18 r18 => ?_)
          refine n_ic X dX7_firstOneOf_42 (by decide) (by decide) (fun x19 t19 => ?_)
          refine n_icmp_ne (tgt := 48) X dX7_firstOneOf_43 (by decide) (fun c20 => ?_) (fun c20 => ?_)
          · refine lv_aload_n X.1 X.2.1 dX7_firstOneOf_48 rfl (lv_at hl 0 rfl) ?_
            refine gf_7_0 X hG h900 q_193 dX7_firstOneOf_49 (hN _ _ _ h900) (fun a21 h21 r21 => ?_)
            refine k_cVv X hG (n_X3_pass l D cy τ _ hN hR (ty_Wf.sub (S' := [5000]) hF (by decide)) h21 (hW _ r21 h21).2.1) h21 rfl yv_X3_pass q_638 ⟨rfl, rfl⟩ ⟨Nat.le_of_ble_eq_true rfl, Nat.le_of_ble_eq_true rfl⟩ rfl hl.1 rfl (Nat.le_of_ble_eq_true rfl) ⟨Nat.zero_le _, Nat.zero_le _⟩ dX7_firstOneOf_52 (fun u24 H locs hG po22 => ?_)
            rw [po22] at hG
            refine n_inc X (fun z26 => [(3, .int z26), (0, .ref a900), (1, .ref a901), (2, .int x902)]) dX7_firstOneOf_55 hl (k := 3) rfl (by decide) (by decide) (by omega) (by omega) (by decide) (fun _ => rfl) (fun x25 ls t25 hl => ?_)
            have hl : lv_has ls 4 [(3, .int x25), (0, .ref a900), (1, .ref a901), (2, .int x902)] := hl
            refine lv_goto (tgt := 23) X.1 X.2.1 dX7_firstOneOf_58 (by decide) ?_
            exact ih23 _ _ _ x25 (by omega) (by omega) hG (lv_sub hl [1, 2, 3, 0] rfl)
          · refine lv_iload_n X.1 X.2.1 dX7_firstOneOf_46 rfl (lv_at hl 3 rfl) ?_
            exact ret _ _ _ _ x11 _ hG ⟨rfl, trivial⟩ dX7_firstOneOf_47
    exact J23 _ _ _ _ x10 (by omega) (Nat.lt_succ_self _) hG (lv_sub hl [1, 2, 3, 0] rfl)
  · refine n_ic X dX7_firstOneOf_11 (by decide) (by decide) (fun x27 t27 => ?_)
    exact ret _ _ _ _ x27 _ hG ⟨rfl, trivial⟩ dX7_firstOneOf_12
set_option maxHeartbeats 4000000 in
set_option maxRecDepth 100000 in
theorem n_X7_overOf (l : Launch) (D : va_G) (cy : Nat → ClassId) (τ : ty_T) (ρ : ty_R) {M : md_T} (hN : ty_N τ ρ) (hR : ty_Rg M τ ρ) (hF : ty_Wf M τ ρ [106, 806, 808, 809, 810, 811, 812, 5000, 6005]) {a900 : Nat} (h900 : τ a900 = some (0, 7)) {a901 : Nat} (h901 : τ a901 = some (0, 3)) (x902 : Int32) (x903 : Int32) (hW : TF M τ ρ a900) : KI l D cy yX7_overOf cX7_overOf 7 .int (rL 4) τ ρ [.ref a900, .ref a901, .int x902, .int x903] (fun r u => u = ρ ∧ True) := by
  refine k_metI "EdgeEchoes$Trial" rfl (by decide +kernel) (Nat.le_of_ble_eq_true rfl) (fun _ _ _ => rfl) ?_
  intro p e s m args below meth c Q ls X hG hl ret
  have hl : lv_has ls 7 [(0, .ref a900), (1, .ref a901), (2, .int x902), (3, .int x903)] := hl
  have g902 := cI_rng x902
  have g903 := cI_rng x903
  refine lv_aload_n X.1 X.2.1 dX7_overOf_0 rfl (lv_at hl 0 rfl) ?_
  refine lv_aload_n X.1 X.2.1 dX7_overOf_1 rfl (lv_at hl 1 rfl) ?_
  refine k_cVv X hG (n_X7_startQuiet l D cy τ _ hN hR (ty_Wf.sub (S' := [106, 806, 808, 809, 810, 811, 812, 5000, 6005]) hF (by decide)) h900 h901 hW) h900 rfl yv_X7_startQuiet q_550 ⟨rfl, rfl⟩ ⟨Nat.le_of_ble_eq_true rfl, Nat.le_of_ble_eq_true rfl⟩ rfl hl.1 rfl (Nat.le_of_ble_eq_true rfl) ⟨Nat.zero_le _, Nat.zero_le _⟩ dX7_overOf_2 (fun u3 H locs hG po1 => ?_)
  rw [po1] at hG
  refine lv_aload_n X.1 X.2.1 dX7_overOf_5 rfl (lv_at hl 0 rfl) ?_
  refine gf_7_0 X hG h900 q_193 dX7_overOf_6 (hN _ _ _ h900) (fun a4 h4 r4 => ?_)
  refine gf_3_0 X hG h4 q_163 dX7_overOf_9 (hN _ _ _ h4) (fun a5 h5 r5 => ?_)
  refine lv_iload_n X.1 X.2.1 dX7_overOf_12 rfl (lv_at hl 2 rfl) ?_
  refine pf_8_8 X hG h5 q_86 dX7_overOf_13 (hF _ _ _ _ h5 (ty_in (n := 808) rfl) (ty_rno rfl)) (fun H locs hG => ?_)
  refine lv_aload_n X.1 X.2.1 dX7_overOf_16 rfl (lv_at hl 0 rfl) ?_
  refine gf_7_0 X hG h900 q_193 dX7_overOf_17 (hN _ _ _ h900) (fun a6 h6 r6 => ?_)
  refine gf_3_0 X hG h6 q_163 dX7_overOf_20 (hN _ _ _ h6) (fun a7 h7 r7 => ?_)
  refine gf_8_7 X hG h7 q_83 dX7_overOf_23 (fun x8 r8 => ?_)
  have b8 := (hR _ _ _ _ h7 r8) _ _ rfl
  refine n_ic X dX7_overOf_26 (by decide) (by decide) (fun x9 t9 => ?_)
  refine n_sub X dX7_overOf_27 (by omega) (by omega) (fun x10 t10 => ?_)
  refine lv_istore (lv' := [(4, .int x10), (0, .ref a900), (1, .ref a901), (2, .int x902), (3, .int x903)]) X.1 X.2.1 dX7_overOf_28 hl (by decide) rfl (fun ls hl => ?_)
  refine n_ic X dX7_overOf_30 (by decide) (by decide) (fun x11 t11 => ?_)
  refine lv_istore (lv' := [(5, .int x11), (4, .int x10), (0, .ref a900), (1, .ref a901), (2, .int x902), (3, .int x903)]) X.1 X.2.1 dX7_overOf_31 hl (by decide) rfl (fun ls hl => ?_)
  refine lv_iload X.1 X.2.1 dX7_overOf_33 (lv_at hl 1 rfl) ?_
  refine n_if_ge (tgt := 41) X dX7_overOf_35 (by decide) (fun c12 => ?_) (fun c12 => ?_)
  · refine n_ic X dX7_overOf_41 (by decide) (by decide) (fun x13 t13 => ?_)
    refine lv_istore (lv' := [(6, .int x13), (5, .int x11), (4, .int x10), (0, .ref a900), (1, .ref a901), (2, .int x902), (3, .int x903)]) X.1 X.2.1 dX7_overOf_42 hl (by decide) rfl (fun ls hl => ?_)
    have J44 : ∀ (n : Nat) (H : Heap) (locs : List Loc) (ls : Array Slot) (x14 : Int32) (x15 : Int32), (0 ≤ x14.toInt) → (0 ≤ x15.toInt ∧ x15.toInt ≤ 200) → (200 - x15.toInt).toNat < n → TG D cy τ ρ (ty_d τ) s.heap H locs → lv_has ls 7 [(0, .ref a900), (1, .ref a901), (2, .int x902), (3, .int x903), (4, .int x10), (5, .int x14), (6, .int x15)] → W p l e (rL 4) s m args below meth c H locs 0 0 Q (F0 m 44 ls []) := by
      intro n
      induction n with
      | zero => intro H locs ls x14 x15 bx14 bx15 hm44 hG hl; exact absurd hm44 (Nat.not_lt_zero _)
      | succ n ih44 =>
        intro H locs ls x14 x15 bx14 bx15 hm44 hG hl
        have gx14 := cI_rng x14
        refine lv_iload X.1 X.2.1 dX7_overOf_44 (lv_at hl 6 rfl) ?_
        refine n_sp X dX7_overOf_46 (by decide) (by decide) (fun x16 t16 => ?_)
        refine n_icmp_ge (tgt := 104) X dX7_overOf_49 (by decide) (fun c17 => ?_) (fun c17 => ?_)
        · refine lv_iload X.1 X.2.1 dX7_overOf_104 (lv_at hl 5 rfl) ?_
          exact ret _ _ _ _ x14 _ hG ⟨rfl, trivial⟩ dX7_overOf_106
        · refine lv_iload X.1 X.2.1 dX7_overOf_52 (lv_at hl 5 rfl) ?_
          refine lv_iload_n X.1 X.2.1 dX7_overOf_54 rfl (lv_at hl 3 rfl) ?_
          refine n_icmp_ge (tgt := 104) X dX7_overOf_55 (by decide) (fun c18 => ?_) (fun c18 => ?_)
          · refine lv_iload X.1 X.2.1 dX7_overOf_104 (lv_at hl 5 rfl) ?_
            exact ret _ _ _ _ x14 _ hG ⟨rfl, trivial⟩ dX7_overOf_106
          · refine lv_aload_n X.1 X.2.1 dX7_overOf_58 rfl (lv_at hl 0 rfl) ?_
            refine gf_7_0 X hG h900 q_193 dX7_overOf_59 (hN _ _ _ h900) (fun a19 h19 r19 => ?_)
            refine gf_3_0 X hG h19 q_163 dX7_overOf_62 (hN _ _ _ h19) (fun a20 h20 r20 => ?_)
            refine k_cVv X hG (c_X8_step l D cy τ _ hN hR (ty_Wf.sub (S' := [5000]) hF (by decide)) h20) h20 rfl yv_X8_step q_561 ⟨rfl, rfl⟩ ⟨Nat.le_of_ble_eq_true rfl, Nat.le_of_ble_eq_true rfl⟩ rfl hl.1 rfl (Nat.le_of_ble_eq_true rfl) ⟨Nat.zero_le _, Nat.zero_le _⟩ dX7_overOf_65 (fun u23 H locs hG po21 => ?_)
            rw [po21] at hG
            refine lv_iload X.1 X.2.1 dX7_overOf_68 (lv_at hl 5 rfl) ?_
            refine lv_aload_n X.1 X.2.1 dX7_overOf_70 rfl (lv_at hl 0 rfl) ?_
            refine gf_7_0 X hG h900 q_193 dX7_overOf_71 (hN _ _ _ h900) (fun a24 h24 r24 => ?_)
            refine gf_3_0 X hG h24 q_163 dX7_overOf_74 (hN _ _ _ h24) (fun a25 h25 r25 => ?_)
            refine lv_iload X.1 X.2.1 dX7_overOf_77 (lv_at hl 4 rfl) ?_
            refine k_cVi X hG (c_X8_voltsAt l D cy τ _ hN hR (ty_Wf.sub (S' := []) hF (by decide)) h25 x10) h25 rfl yv_X8_voltsAt q_588 ⟨rfl, rfl⟩ ⟨Nat.le_of_ble_eq_true rfl, Nat.le_of_ble_eq_true rfl⟩ rfl hl.1 rfl (Nat.le_of_ble_eq_true rfl) ⟨Nat.zero_le _, Nat.zero_le _⟩ dX7_overOf_79 (fun x27 u28 H locs hG po26 => ?_)
            obtain ⟨eu28, po26⟩ := po26
            rw [eu28] at hG
            have g27 := cI_rng x27
            refine lv_aload_n X.1 X.2.1 dX7_overOf_82 rfl (lv_at hl 0 rfl) ?_
            refine gf_7_0 X hG h900 q_193 dX7_overOf_83 (hN _ _ _ h900) (fun a29 h29 r29 => ?_)
            refine gf_3_0 X hG h29 q_163 dX7_overOf_86 (hN _ _ _ h29) (fun a30 h30 r30 => ?_)
            refine k_cVi X hG (c_X8_sourceVolts l D cy τ _ hN hR (ty_Wf.sub (S' := []) hF (by decide)) h30) h30 rfl yv_X8_sourceVolts q_592 ⟨rfl, rfl⟩ ⟨Nat.le_of_ble_eq_true rfl, Nat.le_of_ble_eq_true rfl⟩ rfl hl.1 rfl (Nat.le_of_ble_eq_true rfl) ⟨Nat.zero_le _, Nat.zero_le _⟩ dX7_overOf_89 (fun x32 u33 H locs hG po31 => ?_)
            obtain ⟨eu33, po31⟩ := po31
            rw [eu33] at hG
            have g32 := cI_rng x32
            refine lv_isub X.1 X.2.1 dX7_overOf_92 ?_
            refine n_any (fun x34 => ?_)
            refine n_max X hl.1 q_593 q_411 q_15 q_412 (Nat.le_of_ble_eq_true rfl) (Nat.le_of_ble_eq_true rfl) ⟨Nat.zero_le _, Nat.zero_le _⟩ dX7_overOf_93 (fun x35 t35 => ?_)
            refine lv_istore (lv' := [(5, .int x35), (0, .ref a900), (1, .ref a901), (2, .int x902), (3, .int x903), (4, .int x10), (6, .int x15)]) X.1 X.2.1 dX7_overOf_96 hl (by decide) rfl (fun ls hl => ?_)
            refine n_inc X (fun z37 => [(6, .int z37), (5, .int x35), (0, .ref a900), (1, .ref a901), (2, .int x902), (3, .int x903), (4, .int x10)]) dX7_overOf_98 hl (k := 6) rfl (by decide) (by decide) (by omega) (by omega) (by decide) (fun _ => rfl) (fun x36 ls t36 hl => ?_)
            have hl : lv_has ls 7 [(6, .int x36), (5, .int x35), (0, .ref a900), (1, .ref a901), (2, .int x902), (3, .int x903), (4, .int x10)] := hl
            refine lv_goto (tgt := 44) X.1 X.2.1 dX7_overOf_101 (by decide) ?_
            exact ih44 _ _ _ x35 x36 (by omega) (by omega) (by omega) hG (lv_sub hl [2, 3, 4, 5, 6, 1, 0] rfl)
    exact J44 _ _ _ _ x11 x13 (by omega) (by omega) (Nat.lt_succ_self _) hG (lv_sub hl [3, 4, 5, 6, 2, 1, 0] rfl)
  · refine lv_iload X.1 X.2.1 dX7_overOf_38 (lv_at hl 0 rfl) ?_
    exact ret _ _ _ _ x11 _ hG ⟨rfl, trivial⟩ dX7_overOf_40
set_option maxHeartbeats 4000000 in
set_option maxRecDepth 100000 in
theorem n_X7_bestDriverOf (l : Launch) (D : va_G) (cy : Nat → ClassId) (τ : ty_T) (ρ : ty_R) {M : md_T} (hN : ty_N τ ρ) (hR : ty_Rg M τ ρ) (hF : ty_Wf M τ ρ [106, 806, 808, 809, 810, 811, 812, 5000, 6005]) {a900 : Nat} (h900 : τ a900 = some (0, 7)) {a901 : Nat} (h901 : τ a901 = some (0, 3)) (hW : TF M τ ρ a900) : KI l D cy yX7_bestDriverOf cX7_bestDriverOf 6 .int (rL 5) τ ρ [.ref a900, .ref a901] (fun r u => u = ρ ∧ True) := by
  refine k_metI "EdgeEchoes$Trial" rfl (by decide +kernel) (Nat.le_of_ble_eq_true rfl) (fun _ _ _ => rfl) ?_
  intro p e s m args below meth c Q ls X hG hl ret
  have hl : lv_has ls 6 [(0, .ref a900), (1, .ref a901)] := hl
  refine n_ic X dX7_bestDriverOf_0 (by decide) (by decide) (fun x1 t1 => ?_)
  refine lv_istore_n (lv' := [(2, .int x1), (0, .ref a900), (1, .ref a901)]) X.1 X.2.1 dX7_bestDriverOf_1 rfl hl (by decide) rfl (fun ls hl => ?_)
  refine n_ldc X q_598 (n := 2147483647) (by decide +kernel) dX7_bestDriverOf_2 (fun x2 t2 => ?_)
  refine lv_istore_n (lv' := [(3, .int x2), (2, .int x1), (0, .ref a900), (1, .ref a901)]) X.1 X.2.1 dX7_bestDriverOf_4 rfl hl (by decide) rfl (fun ls hl => ?_)
  refine n_ic X dX7_bestDriverOf_5 (by decide) (by decide) (fun x3 t3 => ?_)
  refine lv_istore (lv' := [(4, .int x3), (3, .int x2), (2, .int x1), (0, .ref a900), (1, .ref a901)]) X.1 X.2.1 dX7_bestDriverOf_6 hl (by decide) rfl (fun ls hl => ?_)
  have J8 : ∀ (n : Nat) (H : Heap) (locs : List Loc) (ls : Array Slot) (x4 : Int32) (x5 : Int32) (x6 : Int32), (0 ≤ x4.toInt ∧ x4.toInt ≤ 99) → (0 ≤ x6.toInt ∧ x6.toInt ≤ 100) → (100 - x6.toInt).toNat < n → TG D cy τ ρ (ty_d τ) s.heap H locs → lv_has ls 6 [(0, .ref a900), (1, .ref a901), (2, .int x4), (3, .int x5), (4, .int x6)] → W p l e (rL 5) s m args below meth c H locs 0 0 Q (F0 m 8 ls []) := by
    intro n
    induction n with
    | zero => intro H locs ls x4 x5 x6 bx4 bx6 hm8 hG hl; exact absurd hm8 (Nat.not_lt_zero _)
    | succ n ih8 =>
      intro H locs ls x4 x5 x6 bx4 bx6 hm8 hG hl
      have gx5 := cI_rng x5
      refine lv_iload X.1 X.2.1 dX7_bestDriverOf_8 (lv_at hl 4 rfl) ?_
      refine n_bp X dX7_bestDriverOf_10 (by decide) (by decide) (fun x7 t7 => ?_)
      refine n_icmp_gt (tgt := 47) X dX7_bestDriverOf_12 (by decide) (fun c8 => ?_) (fun c8 => ?_)
      · refine lv_iload_n X.1 X.2.1 dX7_bestDriverOf_47 rfl (lv_at hl 2 rfl) ?_
        exact ret _ _ _ _ x4 _ hG ⟨rfl, trivial⟩ dX7_bestDriverOf_48
      · refine lv_iload_n X.1 X.2.1 dX7_bestDriverOf_15 rfl (lv_at hl 3 rfl) ?_
        refine n_if_le (tgt := 47) X dX7_bestDriverOf_16 (by decide) (fun c9 => ?_) (fun c9 => ?_)
        · refine lv_iload_n X.1 X.2.1 dX7_bestDriverOf_47 rfl (lv_at hl 2 rfl) ?_
          exact ret _ _ _ _ x4 _ hG ⟨rfl, trivial⟩ dX7_bestDriverOf_48
        · refine lv_aload_n X.1 X.2.1 dX7_bestDriverOf_19 rfl (lv_at hl 0 rfl) ?_
          refine lv_aload_n X.1 X.2.1 dX7_bestDriverOf_20 rfl (lv_at hl 1 rfl) ?_
          refine lv_iload X.1 X.2.1 dX7_bestDriverOf_21 (lv_at hl 4 rfl) ?_
          refine lv_iload_n X.1 X.2.1 dX7_bestDriverOf_23 rfl (lv_at hl 3 rfl) ?_
          refine k_cVi X hG (n_X7_overOf l D cy τ _ hN hR (ty_Wf.sub (S' := [106, 806, 808, 809, 810, 811, 812, 5000, 6005]) hF (by decide)) h900 h901 x6 x5 hW) h900 rfl yv_X7_overOf q_599 ⟨rfl, rfl⟩ ⟨Nat.le_of_ble_eq_true rfl, Nat.le_of_ble_eq_true rfl⟩ rfl hl.1 rfl (Nat.le_of_ble_eq_true rfl) ⟨Nat.zero_le _, Nat.zero_le _⟩ dX7_bestDriverOf_24 (fun x11 u12 H locs hG po10 => ?_)
          obtain ⟨eu12, po10⟩ := po10
          rw [eu12] at hG
          have g11 := cI_rng x11
          refine lv_istore (lv' := [(5, .int x11), (0, .ref a900), (1, .ref a901), (2, .int x4), (3, .int x5), (4, .int x6)]) X.1 X.2.1 dX7_bestDriverOf_27 hl (by decide) rfl (fun ls hl => ?_)
          refine lv_iload X.1 X.2.1 dX7_bestDriverOf_29 (lv_at hl 0 rfl) ?_
          refine lv_iload_n X.1 X.2.1 dX7_bestDriverOf_31 rfl (lv_at hl 4 rfl) ?_
          have J41 : ∀ (H : Heap) (locs : List Loc) (ls : Array Slot) (x13 : Int32) (x14 : Int32), (0 ≤ x13.toInt ∧ x13.toInt ≤ 99) → TG D cy τ ρ (ty_d τ) s.heap H locs → lv_has ls 6 [(0, .ref a900), (1, .ref a901), (2, .int x13), (3, .int x14), (4, .int x6), (5, .int x11)] → W p l e (rL 5) s m args below meth c H locs 0 0 Q (F0 m 41 ls []) := by
            intro H locs ls x13 x14 bx13 hG hl
            have gx14 := cI_rng x14
            refine n_inc X (fun z16 => [(4, .int z16), (0, .ref a900), (1, .ref a901), (2, .int x13), (3, .int x14), (5, .int x11)]) dX7_bestDriverOf_41 hl (k := 4) rfl (by decide) (by decide) (by omega) (by omega) (by decide) (fun _ => rfl) (fun x15 ls t15 hl => ?_)
            have hl : lv_has ls 6 [(4, .int x15), (0, .ref a900), (1, .ref a901), (2, .int x13), (3, .int x14), (5, .int x11)] := hl
            refine lv_goto (tgt := 8) X.1 X.2.1 dX7_bestDriverOf_44 (by decide) ?_
            exact ih8 _ _ _ x13 x14 x15 (by omega) (by omega) (by omega) hG (lv_sub hl [1, 2, 3, 4, 0] rfl)
          refine n_icmp_ge (tgt := 41) X dX7_bestDriverOf_32 (by decide) (fun c17 => ?_) (fun c17 => ?_)
          · exact J41 _ _ _ x4 x5 (by omega) hG (lv_sub hl [1, 2, 3, 4, 5, 0] rfl)
          · refine lv_iload X.1 X.2.1 dX7_bestDriverOf_35 (lv_at hl 0 rfl) ?_
            refine lv_istore_n (lv' := [(3, .int x11), (5, .int x11), (0, .ref a900), (1, .ref a901), (2, .int x4), (4, .int x6)]) X.1 X.2.1 dX7_bestDriverOf_37 rfl hl (by decide) rfl (fun ls hl => ?_)
            refine lv_iload X.1 X.2.1 dX7_bestDriverOf_38 (lv_at hl 5 rfl) ?_
            refine lv_istore_n (lv' := [(2, .int x6), (3, .int x11), (5, .int x11), (0, .ref a900), (1, .ref a901), (4, .int x6)]) X.1 X.2.1 dX7_bestDriverOf_40 rfl hl (by decide) rfl (fun ls hl => ?_)
            exact J41 _ _ _ x6 x11 (by omega) hG (lv_sub hl [3, 4, 0, 1, 5, 2] rfl)
  exact J8 _ _ _ _ x1 x2 x3 (by omega) (by omega) (Nat.lt_succ_self _) hG (lv_sub hl [3, 4, 2, 1, 0] rfl)
set_option maxHeartbeats 4000000 in
set_option maxRecDepth 100000 in
theorem n_X7_firstBackOf (l : Launch) (D : va_G) (cy : Nat → ClassId) (τ : ty_T) (ρ : ty_R) {M : md_T} (hN : ty_N τ ρ) (hR : ty_Rg M τ ρ) (hF : ty_Wf M τ ρ [106, 806, 808, 809, 810, 811, 812, 5000, 6005]) {a900 : Nat} (h900 : τ a900 = some (0, 7)) {a901 : Nat} (h901 : τ a901 = some (0, 3)) (hW : TF M τ ρ a900) : KI l D cy yX7_firstBackOf cX7_firstBackOf 3 .int (rL 4) τ ρ [.ref a900, .ref a901] (fun r u => u = ρ ∧ True) := by
  refine k_metI "EdgeEchoes$Trial" rfl (by decide +kernel) (Nat.le_of_ble_eq_true rfl) (fun _ _ _ => rfl) ?_
  intro p e s m args below meth c Q ls X hG hl ret
  have hl : lv_has ls 3 [(0, .ref a900), (1, .ref a901)] := hl
  refine lv_aload_n X.1 X.2.1 dX7_firstBackOf_0 rfl (lv_at hl 0 rfl) ?_
  refine lv_aload_n X.1 X.2.1 dX7_firstBackOf_1 rfl (lv_at hl 1 rfl) ?_
  refine k_cVv X hG (n_X7_startQuiet l D cy τ _ hN hR (ty_Wf.sub (S' := [106, 806, 808, 809, 810, 811, 812, 5000, 6005]) hF (by decide)) h900 h901 hW) h900 rfl yv_X7_startQuiet q_550 ⟨rfl, rfl⟩ ⟨Nat.le_of_ble_eq_true rfl, Nat.le_of_ble_eq_true rfl⟩ rfl hl.1 rfl (Nat.le_of_ble_eq_true rfl) ⟨Nat.zero_le _, Nat.zero_le _⟩ dX7_firstBackOf_2 (fun u3 H locs hG po1 => ?_)
  rw [po1] at hG
  refine n_ic X dX7_firstBackOf_5 (by decide) (by decide) (fun x4 t4 => ?_)
  refine lv_istore_n (lv' := [(2, .int x4), (0, .ref a900), (1, .ref a901)]) X.1 X.2.1 dX7_firstBackOf_6 rfl hl (by decide) rfl (fun ls hl => ?_)
  have J7 : ∀ (n : Nat) (H : Heap) (locs : List Loc) (ls : Array Slot) (x5 : Int32), (1 ≤ x5.toInt ∧ x5.toInt ≤ 201) → (201 - x5.toInt).toNat < n → TG D cy τ ρ (ty_d τ) s.heap H locs → lv_has ls 3 [(0, .ref a900), (1, .ref a901), (2, .int x5)] → W p l e (rL 4) s m args below meth c H locs 0 0 Q (F0 m 7 ls []) := by
    intro n
    induction n with
    | zero => intro H locs ls x5 bx5 hm7 hG hl; exact absurd hm7 (Nat.not_lt_zero _)
    | succ n ih7 =>
      intro H locs ls x5 bx5 hm7 hG hl
      refine lv_iload_n X.1 X.2.1 dX7_firstBackOf_7 rfl (lv_at hl 2 rfl) ?_
      refine n_sp X dX7_firstBackOf_8 (by decide) (by decide) (fun x6 t6 => ?_)
      refine n_icmp_gt (tgt := 47) X dX7_firstBackOf_11 (by decide) (fun c7 => ?_) (fun c7 => ?_)
      · refine n_ic X dX7_firstBackOf_47 (by decide) (by decide) (fun x8 t8 => ?_)
        exact ret _ _ _ _ x8 _ hG ⟨rfl, trivial⟩ dX7_firstBackOf_48
      · refine lv_aload_n X.1 X.2.1 dX7_firstBackOf_14 rfl (lv_at hl 0 rfl) ?_
        refine gf_7_0 X hG h900 q_193 dX7_firstBackOf_15 (hN _ _ _ h900) (fun a9 h9 r9 => ?_)
        refine gf_3_0 X hG h9 q_163 dX7_firstBackOf_18 (hN _ _ _ h9) (fun a10 h10 r10 => ?_)
        refine k_cVv X hG (c_X8_step l D cy τ _ hN hR (ty_Wf.sub (S' := [5000]) hF (by decide)) h10) h10 rfl yv_X8_step q_561 ⟨rfl, rfl⟩ ⟨Nat.le_of_ble_eq_true rfl, Nat.le_of_ble_eq_true rfl⟩ rfl hl.1 rfl (Nat.le_of_ble_eq_true rfl) ⟨Nat.zero_le _, Nat.zero_le _⟩ dX7_firstBackOf_21 (fun u13 H locs hG po11 => ?_)
        rw [po11] at hG
        refine lv_aload_n X.1 X.2.1 dX7_firstBackOf_24 rfl (lv_at hl 0 rfl) ?_
        refine gf_7_0 X hG h900 q_193 dX7_firstBackOf_25 (hN _ _ _ h900) (fun a14 h14 r14 => ?_)
        refine gf_3_0 X hG h14 q_163 dX7_firstBackOf_28 (hN _ _ _ h14) (fun a15 h15 r15 => ?_)
        refine gf_8_4 X hG h15 q_74 dX7_firstBackOf_31 (hN _ _ _ h15) (fun a16 h16 r16 => ?_)
        refine n_ic X dX7_firstBackOf_34 (by decide) (by decide) (fun x17 t17 => ?_)
        refine tg_iald X hG h16 rfl (cI_in (n := 72) (by omega)) dX7_firstBackOf_35 (fun x18 r18 => ?_)
        refine n_if_eq (tgt := 41) X dX7_firstBackOf_36 (by decide) (fun c19 => ?_) (fun c19 => ?_)
        · refine n_inc X (fun z21 => [(2, .int z21), (0, .ref a900), (1, .ref a901)]) dX7_firstBackOf_41 hl (k := 2) rfl (by decide) (by decide) (by omega) (by omega) (by decide) (fun _ => rfl) (fun x20 ls t20 hl => ?_)
          have hl : lv_has ls 3 [(2, .int x20), (0, .ref a900), (1, .ref a901)] := hl
          refine lv_goto (tgt := 7) X.1 X.2.1 dX7_firstBackOf_44 (by decide) ?_
          exact ih7 _ _ _ x20 (by omega) (by omega) hG (lv_sub hl [1, 2, 0] rfl)
        · refine lv_iload_n X.1 X.2.1 dX7_firstBackOf_39 rfl (lv_at hl 2 rfl) ?_
          exact ret _ _ _ _ x5 _ hG ⟨rfl, trivial⟩ dX7_firstBackOf_40
  exact J7 _ _ _ _ x4 (by omega) (Nat.lt_succ_self _) hG (lv_sub hl [1, 2, 0] rfl)
set_option maxHeartbeats 4000000 in
set_option maxRecDepth 100000 in
theorem n_X5_trySuspect (l : Launch) (D : va_G) (cy : Nat → ClassId) (τ : ty_T) (ρ : ty_R) {M : md_T} (hN : ty_N τ ρ) (hR : ty_Rg M τ ρ) (hF : ty_Wf M τ ρ [106, 505, 506, 507, 806, 808, 809, 810, 811, 812, 5000, 6005]) {a900 : Nat} (h900 : τ a900 = some (0, 5)) {a901 : Nat} (h901 : τ a901 = some (0, 3)) {a902 : Nat} (h902 : τ a902 = some (0, 7)) (x903 : Int32) (zx903 : 1 ≤ x903.toInt ∧ x903.toInt ≤ 71) (x904 : Int32) (zx904 : 1 ≤ x904.toInt ∧ x904.toInt ≤ 2) (x905 : Int32) (zx905 : x905.toInt = 0 ∨ x905.toInt = 1) {aT nT : Nat} (hT : ∀ v, ρ a900 3 v → v = .ref aT) (kT : τ aT = some (1, nT)) (lT : nT < 2147483648) (hW : TF M τ ρ a902) : KV l D cy yX5_trySuspect cX5_trySuspect 9 (rL 4) τ ρ [.ref a900, .ref a901, .ref a902, .int x903, .int x904, .int x905] (fun w => w = ρ) := by
  refine k_metV "EdgeEchoes$Suspects" rfl (by decide +kernel) (Nat.le_of_ble_eq_true rfl) ?_
  intro p e s m args below meth c Q ls X hG hl ret
  have hl : lv_has ls 9 [(0, .ref a900), (1, .ref a901), (2, .ref a902), (3, .int x903), (4, .int x904), (5, .int x905)] := hl
  refine lv_aload_n X.1 X.2.1 dX5_trySuspect_0 rfl (lv_at hl 2 rfl) ?_
  refine lv_aload_n X.1 X.2.1 dX5_trySuspect_1 rfl (lv_at hl 1 rfl) ?_
  refine k_cVv X hG (n_X7_startQuiet l D cy τ _ hN hR (ty_Wf.sub (S' := [106, 806, 808, 809, 810, 811, 812, 5000, 6005]) hF (by decide)) h902 h901 hW) h902 rfl yv_X7_startQuiet q_809 ⟨rfl, rfl⟩ ⟨Nat.le_of_ble_eq_true rfl, Nat.le_of_ble_eq_true rfl⟩ rfl hl.1 rfl (Nat.le_of_ble_eq_true rfl) ⟨Nat.zero_le _, Nat.zero_le _⟩ dX5_trySuspect_2 (fun u3 H locs hG po1 => ?_)
  rw [po1] at hG
  refine lv_aload_n X.1 X.2.1 dX5_trySuspect_5 rfl (lv_at hl 2 rfl) ?_
  refine gf_7_0 X hG h902 q_195 dX5_trySuspect_6 (hN _ _ _ h902) (fun a4 h4 r4 => ?_)
  refine gf_3_0 X hG h4 q_164 dX5_trySuspect_9 (hN _ _ _ h4) (fun a5 h5 r5 => ?_)
  refine lv_iload_n X.1 X.2.1 dX5_trySuspect_12 rfl (lv_at hl 3 rfl) ?_
  refine k_cVi X hG (c_X8_hasPlace l D cy τ _ hN hR (ty_Wf.sub (S' := []) hF (by decide)) h5 x903) h5 rfl yv_X8_hasPlace q_804 ⟨rfl, rfl⟩ ⟨Nat.le_of_ble_eq_true rfl, Nat.le_of_ble_eq_true rfl⟩ rfl hl.1 rfl (Nat.le_of_ble_eq_true rfl) ⟨Nat.zero_le _, Nat.zero_le _⟩ dX5_trySuspect_13 (fun x7 u8 H locs hG po6 => ?_)
  obtain ⟨eu8, po6⟩ := po6
  rw [eu8] at hG
  refine n_if_ne (tgt := 20) X dX5_trySuspect_16 (by decide) (fun c9 => ?_) (fun c9 => ?_)
  · refine lv_aload_n X.1 X.2.1 dX5_trySuspect_20 rfl (lv_at hl 2 rfl) ?_
    refine gf_7_0 X hG h902 q_195 dX5_trySuspect_21 (hN _ _ _ h902) (fun a10 h10 r10 => ?_)
    refine gf_3_0 X hG h10 q_164 dX5_trySuspect_24 (hN _ _ _ h10) (fun a11 h11 r11 => ?_)
    refine gf_8_5 X hG h11 q_76 dX5_trySuspect_27 (hN _ _ _ h11) (fun a12 h12 r12 => ?_)
    refine lv_iload_n X.1 X.2.1 dX5_trySuspect_30 rfl (lv_at hl 3 rfl) ?_
    refine lv_iload X.1 X.2.1 dX5_trySuspect_31 (lv_at hl 4 rfl) ?_
    refine tg_iasf X hG h12 rfl (cI_in (n := 72) (by omega)) dX5_trySuspect_33 (hF _ _ _ _ h12 (ty_in (n := 5000) rfl) (ty_rno rfl)) (fun H locs hG => ?_)
    refine lv_iload X.1 X.2.1 dX5_trySuspect_34 (lv_at hl 5 rfl) ?_
    have J45 : ∀ (H : Heap) (locs : List Loc) (ls : Array Slot) (x13 : Int32), (0 ≤ x13.toInt ∧ x13.toInt ≤ 60) → TG D cy τ ρ (ty_d τ) s.heap H locs → lv_has ls 9 [(0, .ref a900), (1, .ref a901), (2, .ref a902), (3, .int x903), (4, .int x904), (5, .int x905)] → W p l e (rL 4) s m args below meth c H locs 0 0 Q (F0 m 45 ls [.int x13]) := by
      intro H locs ls x13 bx13 hG hl
      refine lv_aload_n X.1 X.2.1 dX5_trySuspect_45 rfl (lv_at hl 0 rfl) ?_
      refine k_cVi X hG (c_X5_lastSeenTick l D cy τ _ hN hR (ty_Wf.sub (S' := []) hF (by decide)) h900) h900 rfl yv_X5_lastSeenTick q_810 ⟨rfl, rfl⟩ ⟨Nat.le_of_ble_eq_true rfl, Nat.le_of_ble_eq_true rfl⟩ rfl hl.1 rfl (Nat.le_of_ble_eq_true rfl) ⟨Nat.zero_le _, Nat.zero_le _⟩ dX5_trySuspect_46 (fun x15 u16 H locs hG po14 => ?_)
      obtain ⟨eu16, po14⟩ := po14
      rw [eu16] at hG
      refine n_max X hl.1 q_814 q_411 q_15 q_412 (Nat.le_of_ble_eq_true rfl) (Nat.le_of_ble_eq_true rfl) ⟨Nat.zero_le _, Nat.zero_le _⟩ dX5_trySuspect_49 (fun x17 t17 => ?_)
      refine lv_istore (lv' := [(6, .int x17), (0, .ref a900), (1, .ref a901), (2, .ref a902), (3, .int x903), (4, .int x904), (5, .int x905)]) X.1 X.2.1 dX5_trySuspect_52 hl (by decide) rfl (fun ls hl => ?_)
      refine n_ic X dX5_trySuspect_54 (by decide) (by decide) (fun x18 t18 => ?_)
      refine lv_istore (lv' := [(7, .int x18), (6, .int x17), (0, .ref a900), (1, .ref a901), (2, .ref a902), (3, .int x903), (4, .int x904), (5, .int x905)]) X.1 X.2.1 dX5_trySuspect_55 hl (by decide) rfl (fun ls hl => ?_)
      have J57 : ∀ (n : Nat) (H : Heap) (locs : List Loc) (ls : Array Slot) (x19 : Int32), (1 ≤ x19.toInt ∧ x19.toInt ≤ 151) → (151 - x19.toInt).toNat < n → TG D cy τ ρ (ty_d τ) s.heap H locs → lv_has ls 9 [(0, .ref a900), (1, .ref a901), (2, .ref a902), (3, .int x903), (4, .int x904), (5, .int x905), (6, .int x17), (7, .int x19)] → W p l e (rL 4) s m args below meth c H locs 0 0 Q (F0 m 57 ls []) := by
        intro n
        induction n with
        | zero => intro H locs ls x19 bx19 hm57 hG hl; exact absurd hm57 (Nat.not_lt_zero _)
        | succ n ih57 =>
          intro H locs ls x19 bx19 hm57 hG hl
          refine lv_iload X.1 X.2.1 dX5_trySuspect_57 (lv_at hl 7 rfl) ?_
          refine lv_iload X.1 X.2.1 dX5_trySuspect_59 (lv_at hl 6 rfl) ?_
          refine n_icmp_gt (tgt := 118) X dX5_trySuspect_61 (by decide) (fun c20 => ?_) (fun c20 => ?_)
          · refine n_ic X dX5_trySuspect_118 (by decide) (by decide) (fun x21 t21 => ?_)
            refine lv_iload_n X.1 X.2.1 dX5_trySuspect_119 rfl (lv_at hl 3 rfl) ?_
            refine n_mul X dX5_trySuspect_120 (by rw [t21]; omega) (by rw [t21]; omega) (fun x22 t22 => ?_)
            rw [t21] at t22
            refine lv_iload X.1 X.2.1 dX5_trySuspect_121 (lv_at hl 4 rfl) ?_
            refine n_ic X dX5_trySuspect_123 (by decide) (by decide) (fun x23 t23 => ?_)
            have J132 : ∀ (H : Heap) (locs : List Loc) (ls : Array Slot) (x24 : Int32), (0 ≤ x24.toInt ∧ x24.toInt ≤ 1) → TG D cy τ ρ (ty_d τ) s.heap H locs → lv_has ls 9 [(0, .ref a900), (1, .ref a901), (2, .ref a902), (3, .int x903), (4, .int x904), (5, .int x905), (6, .int x17), (7, .int x19)] → W p l e (rL 4) s m args below meth c H locs 0 0 Q (F0 m 132 ls [.int x24, .int x22]) := by
              intro H locs ls x24 bx24 hG hl
              refine n_add X dX5_trySuspect_132 (by omega) (by omega) (fun x25 t25 => ?_)
              refine lv_istore (lv' := [(7, .int x25), (0, .ref a900), (1, .ref a901), (2, .ref a902), (3, .int x903), (4, .int x904), (5, .int x905), (6, .int x17)]) X.1 X.2.1 dX5_trySuspect_133 hl (by decide) rfl (fun ls hl => ?_)
              refine lv_aload_n X.1 X.2.1 dX5_trySuspect_135 rfl (lv_at hl 1 rfl) ?_
              refine lv_aload_n X.1 X.2.1 dX5_trySuspect_136 rfl (lv_at hl 1 rfl) ?_
              refine gf_5_5 X hG h900 q_234 dX5_trySuspect_137 (fun x26 r26 => ?_)
              have g26 := cI_rng x26
              have J152 : ∀ (H : Heap) (locs : List Loc) (ls : Array Slot) (x27 : Int32), TG D cy τ ρ (ty_d τ) s.heap H locs → lv_has ls 9 [(0, .ref a900), (1, .ref a901), (2, .ref a902), (3, .int x903), (4, .int x904), (5, .int x905), (6, .int x17), (7, .int x25)] → W p l e (rL 4) s m args below meth c H locs 0 0 Q (F0 m 152 ls [.int x27, .ref a900]) := by
                intro H locs ls x27 hG hl
                have gx27 := cI_rng x27
                refine pf_5_6 X hG h900 q_236 dX5_trySuspect_152 (hF _ _ _ _ h900 (ty_in (n := 506) rfl) (ty_rno rfl)) (fun H locs hG => ?_)
                refine lv_aload_n X.1 X.2.1 dX5_trySuspect_155 rfl (lv_at hl 0 rfl) ?_
                refine lv_iload X.1 X.2.1 dX5_trySuspect_156 (lv_at hl 7 rfl) ?_
                refine pf_5_7 X hG h900 q_238 dX5_trySuspect_158 (hF _ _ _ _ h900 (ty_in (n := 507) rfl) (ty_rno rfl)) (fun H locs hG => ?_)
                refine lv_aload_n X.1 X.2.1 dX5_trySuspect_161 rfl (lv_at hl 0 rfl) ?_
                refine lv_dup X.1 X.2.1 dX5_trySuspect_162 rfl ?_
                refine gf_5_5 X hG h900 q_234 dX5_trySuspect_163 (fun x28 r28 => ?_)
                have g28 := cI_rng x28
                refine n_ic X dX5_trySuspect_166 (by decide) (by decide) (fun x29 t29 => ?_)
                refine lv_iadd X.1 X.2.1 dX5_trySuspect_167 ?_
                refine n_any (fun x30 => ?_)
                refine pf_5_5 X hG h900 q_234 dX5_trySuspect_168 (hF _ _ _ _ h900 (ty_in (n := 505) rfl) (ty_rno rfl)) (fun H locs hG => ?_)
                exact ret _ _ _ _ _ hG rfl dX5_trySuspect_171
              refine n_if_ne (tgt := 148) X dX5_trySuspect_140 (by decide) (fun c31 => ?_) (fun c31 => ?_)
              · refine lv_aload_n X.1 X.2.1 dX5_trySuspect_148 rfl (lv_at hl 1 rfl) ?_
                refine gf_5_6 X hG h900 q_236 dX5_trySuspect_149 (fun x32 r32 => ?_)
                have g32 := cI_rng x32
                exact J152 _ _ _ x32 hG (lv_sub hl [1, 2, 3, 4, 5, 6, 7, 0] rfl)
              · refine lv_iload X.1 X.2.1 dX5_trySuspect_143 (lv_at hl 0 rfl) ?_
                refine lv_goto (tgt := 152) X.1 X.2.1 dX5_trySuspect_145 (by decide) ?_
                exact J152 _ _ _ x25 hG (lv_sub hl [1, 2, 3, 4, 5, 6, 7, 0] rfl)
            refine n_icmp_ne (tgt := 131) X dX5_trySuspect_124 (by decide) (fun c33 => ?_) (fun c33 => ?_)
            · refine n_ic X dX5_trySuspect_131 (by decide) (by decide) (fun x34 t34 => ?_)
              exact J132 _ _ _ x34 (by omega) hG (lv_sub hl [0, 1, 2, 3, 4, 5, 6, 7] rfl)
            · refine n_ic X dX5_trySuspect_127 (by decide) (by decide) (fun x35 t35 => ?_)
              refine lv_goto (tgt := 132) X.1 X.2.1 dX5_trySuspect_128 (by decide) ?_
              exact J132 _ _ _ x35 (by omega) hG (lv_sub hl [0, 1, 2, 3, 4, 5, 6, 7] rfl)
          · refine lv_aload_n X.1 X.2.1 dX5_trySuspect_64 rfl (lv_at hl 2 rfl) ?_
            refine gf_7_0 X hG h902 q_195 dX5_trySuspect_65 (hN _ _ _ h902) (fun a36 h36 r36 => ?_)
            refine gf_3_0 X hG h36 q_164 dX5_trySuspect_68 (hN _ _ _ h36) (fun a37 h37 r37 => ?_)
            refine k_cVv X hG (c_X8_step l D cy τ _ hN hR (ty_Wf.sub (S' := [5000]) hF (by decide)) h37) h37 rfl yv_X8_step q_815 ⟨rfl, rfl⟩ ⟨Nat.le_of_ble_eq_true rfl, Nat.le_of_ble_eq_true rfl⟩ rfl hl.1 rfl (Nat.le_of_ble_eq_true rfl) ⟨Nat.zero_le _, Nat.zero_le _⟩ dX5_trySuspect_71 (fun u40 H locs hG po38 => ?_)
            rw [po38] at hG
            refine lv_aload_n X.1 X.2.1 dX5_trySuspect_74 rfl (lv_at hl 2 rfl) ?_
            refine gf_7_0 X hG h902 q_195 dX5_trySuspect_75 (hN _ _ _ h902) (fun a41 h41 r41 => ?_)
            refine gf_3_0 X hG h41 q_164 dX5_trySuspect_78 (hN _ _ _ h41) (fun a42 h42 r42 => ?_)
            refine n_ic X dX5_trySuspect_81 (by decide) (by decide) (fun x43 t43 => ?_)
            refine k_cVi X hG (c_X8_voltsAt l D cy τ _ hN hR (ty_Wf.sub (S' := []) hF (by decide)) h42 x43) h42 rfl yv_X8_voltsAt q_816 ⟨rfl, rfl⟩ ⟨Nat.le_of_ble_eq_true rfl, Nat.le_of_ble_eq_true rfl⟩ rfl hl.1 rfl (Nat.le_of_ble_eq_true rfl) ⟨Nat.zero_le _, Nat.zero_le _⟩ dX5_trySuspect_82 (fun x45 u46 H locs hG po44 => ?_)
            obtain ⟨eu46, po44⟩ := po44
            rw [eu46] at hG
            have g45 := cI_rng x45
            refine lv_istore (lv' := [(8, .int x45), (0, .ref a900), (1, .ref a901), (2, .ref a902), (3, .int x903), (4, .int x904), (5, .int x905), (6, .int x17), (7, .int x19)]) X.1 X.2.1 dX5_trySuspect_85 hl (by decide) rfl (fun ls hl => ?_)
            refine lv_aload_n X.1 X.2.1 dX5_trySuspect_87 rfl (lv_at hl 1 rfl) ?_
            refine lv_iload X.1 X.2.1 dX5_trySuspect_88 (lv_at hl 8 rfl) ?_
            refine lv_iload X.1 X.2.1 dX5_trySuspect_90 (lv_at hl 0 rfl) ?_
            refine k_cVi X hG (c_X5_isAgainst l D cy τ _ hN hR (ty_Wf.sub (S' := []) hF (by decide)) h900 x19 x45) h900 rfl yv_X5_isAgainst q_817 ⟨rfl, rfl⟩ ⟨Nat.le_of_ble_eq_true rfl, Nat.le_of_ble_eq_true rfl⟩ rfl hl.1 rfl (Nat.le_of_ble_eq_true rfl) ⟨Nat.zero_le _, Nat.zero_le _⟩ dX5_trySuspect_92 (fun x48 u49 H locs hG po47 => ?_)
            obtain ⟨eu49, po47⟩ := po47
            rw [eu49] at hG
            refine n_if_eq (tgt := 99) X dX5_trySuspect_95 (by decide) (fun c50 => ?_) (fun c50 => ?_)
            · refine lv_iload X.1 X.2.1 dX5_trySuspect_99 (lv_at hl 6 rfl) ?_
              have J112 : ∀ (H : Heap) (locs : List Loc) (ls : Array Slot), TG D cy τ ρ (ty_d τ) s.heap H locs → lv_has ls 9 [(0, .ref a900), (1, .ref a901), (2, .ref a902), (3, .int x903), (4, .int x904), (5, .int x905), (6, .int x17), (7, .int x19), (8, .int x45)] → W p l e (rL 4) s m args below meth c H locs 0 0 Q (F0 m 112 ls []) := by
                intro H locs ls hG hl
                refine n_inc X (fun z52 => [(7, .int z52), (0, .ref a900), (1, .ref a901), (2, .ref a902), (3, .int x903), (4, .int x904), (5, .int x905), (6, .int x17), (8, .int x45)]) dX5_trySuspect_112 hl (k := 7) rfl (by decide) (by decide) (by omega) (by omega) (by decide) (fun _ => rfl) (fun x51 ls t51 hl => ?_)
                have hl : lv_has ls 9 [(7, .int x51), (0, .ref a900), (1, .ref a901), (2, .ref a902), (3, .int x903), (4, .int x904), (5, .int x905), (6, .int x17), (8, .int x45)] := hl
                refine lv_goto (tgt := 57) X.1 X.2.1 dX5_trySuspect_115 (by decide) ?_
                exact ih57 _ _ _ x51 (by omega) (by omega) hG (lv_sub hl [1, 2, 3, 4, 5, 6, 7, 0] rfl)
              refine n_if_eq (tgt := 112) X dX5_trySuspect_101 (by decide) (fun c53 => ?_) (fun c53 => ?_)
              · exact J112 _ _ _  hG (lv_sub hl [1, 2, 3, 4, 5, 6, 7, 8, 0] rfl)
              · refine lv_aload_n X.1 X.2.1 dX5_trySuspect_104 rfl (lv_at hl 1 rfl) ?_
                refine lv_iload X.1 X.2.1 dX5_trySuspect_105 (lv_at hl 8 rfl) ?_
                refine lv_iload X.1 X.2.1 dX5_trySuspect_107 (lv_at hl 0 rfl) ?_
                refine k_cVv X hG (c_X5_trace l D cy τ _ hN hR (ty_Wf.sub (S' := [5000]) hF (by decide)) h900 x19 x45 hT kT lT) h900 rfl yv_X5_trace q_821 ⟨rfl, rfl⟩ ⟨Nat.le_of_ble_eq_true rfl, Nat.le_of_ble_eq_true rfl⟩ rfl hl.1 rfl (Nat.le_of_ble_eq_true rfl) ⟨Nat.zero_le _, Nat.zero_le _⟩ dX5_trySuspect_109 (fun u56 H locs hG po54 => ?_)
                rw [po54] at hG
                exact J112 _ _ _  hG (lv_sub hl [1, 2, 3, 4, 5, 6, 7, 8, 0] rfl)
            · exact ret _ _ _ _ _ hG rfl dX5_trySuspect_98
      exact J57 _ _ _ _ x18 (by omega) (Nat.lt_succ_self _) hG (lv_sub hl [2, 3, 4, 5, 6, 7, 1, 0] rfl)
    refine n_if_eq (tgt := 44) X dX5_trySuspect_36 (by decide) (fun c57 => ?_) (fun c57 => ?_)
    · refine n_ic X dX5_trySuspect_44 (by decide) (by decide) (fun x58 t58 => ?_)
      exact J45 _ _ _ x58 (by omega) hG (lv_sub hl [0, 1, 2, 3, 4, 5] rfl)
    · refine n_bp X dX5_trySuspect_39 (by decide) (by decide) (fun x59 t59 => ?_)
      refine lv_goto (tgt := 45) X.1 X.2.1 dX5_trySuspect_41 (by decide) ?_
      exact J45 _ _ _ x59 (by omega) hG (lv_sub hl [0, 1, 2, 3, 4, 5] rfl)
  · exact ret _ _ _ _ _ hG rfl dX5_trySuspect_19
set_option maxHeartbeats 4000000 in
set_option maxRecDepth 100000 in
theorem n_X9_told (l : Launch) (D : va_G) (cy : Nat → ClassId) (τ : ty_T) (ρ : ty_R) {M : md_T} (hN : ty_N τ ρ) (hR : ty_Rg M τ ρ) (hF : ty_Wf M τ ρ [106, 806, 808, 809, 810, 811, 812, 5000, 6005]) {a900 : Nat} (h900 : τ a900 = some (0, 9)) (x901 : Int32) (hW : ∀ t, ρ a900 2 (.ref t) → TF M τ ρ t) : KI l D cy yX9_told cX9_told 2 .int (rL 6) τ ρ [.ref a900, .int x901] (fun r u => u = ρ ∧ True) := by
  refine k_metI "EdgeEchoes" rfl (by decide +kernel) (Nat.le_of_ble_eq_true rfl) (fun _ _ _ => rfl) ?_
  intro p e s m args below meth c Q ls X hG hl ret
  have hl : lv_has ls 2 [(0, .ref a900), (1, .int x901)] := hl
  have g901 := cI_rng x901
  refine lv_iload_n X.1 X.2.1 dX9_told_0 rfl (lv_at hl 1 rfl) ?_
  rcases (show x901.toInt = 0 ∨ x901.toInt = 1 ∨ x901.toInt = 2 ∨ x901.toInt = 3 ∨ x901.toInt = 4 ∨ x901.toInt = 5 ∨ x901.toInt = 6 ∨ x901.toInt = 7 ∨ x901.toInt = 8 ∨ x901.toInt = 9 ∨ x901.toInt = 10 ∨ x901.toInt = 11 ∨ x901.toInt = 12 ∨ x901.toInt = 13 ∨ x901.toInt = 14 ∨ x901.toInt = 15 ∨ x901.toInt = 16 ∨ x901.toInt = 17 ∨ (x901.toInt < 0 ∨ 17 < x901.toInt) by omega) with c1 | c1 | c1 | c1 | c1 | c1 | c1 | c1 | c1 | c1 | c1 | c1 | c1 | c1 | c1 | c1 | c1 | c1 | c1
  · refine lv_tableIn (tgt := 88) (off := 87) X.1 X.2.1 dX9_told_1 (by omega) (by omega) (by rw [c1]; rfl) (by decide) ?_
    refine lv_aload_n X.1 X.2.1 dX9_told_88 rfl (lv_at hl 0 rfl) ?_
    refine gf_9_1 X hG h900 q_296 dX9_told_89 (hN _ _ _ h900) (fun a2 h2 r2 => ?_)
    refine gf_3_2 X hG h2 q_173 dX9_told_92 (fun x3 b3 r3 => ?_)
    refine n_if_eq (tgt := 102) X dX9_told_95 (by decide) (fun c4 => ?_) (fun c4 => ?_)
    · refine n_ic X dX9_told_102 (by decide) (by decide) (fun x5 t5 => ?_)
      exact ret _ _ _ _ x5 _ hG ⟨rfl, trivial⟩ dX9_told_103
    · refine n_ic X dX9_told_98 (by decide) (by decide) (fun x6 t6 => ?_)
      refine lv_goto (tgt := 103) X.1 X.2.1 dX9_told_99 (by decide) ?_
      exact ret _ _ _ _ x6 _ hG ⟨rfl, trivial⟩ dX9_told_103
  · refine lv_tableIn (tgt := 104) (off := 103) X.1 X.2.1 dX9_told_1 (by omega) (by omega) (by rw [c1]; rfl) (by decide) ?_
    refine lv_aload_n X.1 X.2.1 dX9_told_104 rfl (lv_at hl 0 rfl) ?_
    refine gf_9_1 X hG h900 q_296 dX9_told_105 (hN _ _ _ h900) (fun a7 h7 r7 => ?_)
    refine gf_3_0 X hG h7 q_165 dX9_told_108 (hN _ _ _ h7) (fun a8 h8 r8 => ?_)
    refine gf_8_6 X hG h8 q_79 dX9_told_111 (fun x9 r9 => ?_)
    have b9 := (hR _ _ _ _ h8 r9) _ _ rfl
    exact ret _ _ _ _ x9 _ hG ⟨rfl, trivial⟩ dX9_told_114
  · refine lv_tableIn (tgt := 115) (off := 114) X.1 X.2.1 dX9_told_1 (by omega) (by omega) (by rw [c1]; rfl) (by decide) ?_
    refine lv_aload_n X.1 X.2.1 dX9_told_115 rfl (lv_at hl 0 rfl) ?_
    refine gf_9_1 X hG h900 q_296 dX9_told_116 (hN _ _ _ h900) (fun a10 h10 r10 => ?_)
    refine gf_3_0 X hG h10 q_165 dX9_told_119 (hN _ _ _ h10) (fun a11 h11 r11 => ?_)
    refine gf_8_7 X hG h11 q_82 dX9_told_122 (fun x12 r12 => ?_)
    have b12 := (hR _ _ _ _ h11 r12) _ _ rfl
    exact ret _ _ _ _ x12 _ hG ⟨rfl, trivial⟩ dX9_told_125
  · refine lv_tableIn (tgt := 126) (off := 125) X.1 X.2.1 dX9_told_1 (by omega) (by omega) (by rw [c1]; rfl) (by decide) ?_
    refine lv_aload_n X.1 X.2.1 dX9_told_126 rfl (lv_at hl 0 rfl) ?_
    refine gf_9_1 X hG h900 q_296 dX9_told_127 (hN _ _ _ h900) (fun a13 h13 r13 => ?_)
    refine gf_3_1 X hG h13 q_168 dX9_told_130 (hN _ _ _ h13) (fun a14 h14 r14 => ?_)
    refine gf_1_6 X hG h14 q_145 dX9_told_133 (fun x15 r15 => ?_)
    have b15 := (hR _ _ _ _ h14 r15) _ _ rfl
    exact ret _ _ _ _ x15 _ hG ⟨rfl, trivial⟩ dX9_told_136
  · refine lv_tableIn (tgt := 137) (off := 136) X.1 X.2.1 dX9_told_1 (by omega) (by omega) (by rw [c1]; rfl) (by decide) ?_
    refine lv_aload_n X.1 X.2.1 dX9_told_137 rfl (lv_at hl 0 rfl) ?_
    refine gf_9_0 X hG h900 q_295 dX9_told_138 (hN _ _ _ h900) (fun a16 h16 r16 => ?_)
    refine gf_6_2 X hG h16 q_37 dX9_told_141 (fun x17 r17 => ?_)
    have g17 := cI_rng x17
    exact ret _ _ _ _ x17 _ hG ⟨rfl, trivial⟩ dX9_told_144
  · refine lv_tableIn (tgt := 145) (off := 144) X.1 X.2.1 dX9_told_1 (by omega) (by omega) (by rw [c1]; rfl) (by decide) ?_
    refine lv_aload_n X.1 X.2.1 dX9_told_145 rfl (lv_at hl 0 rfl) ?_
    refine gf_9_1 X hG h900 q_296 dX9_told_146 (hN _ _ _ h900) (fun a18 h18 r18 => ?_)
    refine gf_3_0 X hG h18 q_165 dX9_told_149 (hN _ _ _ h18) (fun a19 h19 r19 => ?_)
    refine gf_8_8 X hG h19 q_85 dX9_told_152 (fun x20 r20 => ?_)
    have g20 := cI_rng x20
    exact ret _ _ _ _ x20 _ hG ⟨rfl, trivial⟩ dX9_told_155
  · refine lv_tableIn (tgt := 156) (off := 155) X.1 X.2.1 dX9_told_1 (by omega) (by omega) (by rw [c1]; rfl) (by decide) ?_
    refine lv_aload_n X.1 X.2.1 dX9_told_156 rfl (lv_at hl 0 rfl) ?_
    refine gf_9_1 X hG h900 q_296 dX9_told_157 (hN _ _ _ h900) (fun a21 h21 r21 => ?_)
    refine gf_3_0 X hG h21 q_165 dX9_told_160 (hN _ _ _ h21) (fun a22 h22 r22 => ?_)
    refine gf_8_9 X hG h22 q_89 dX9_told_163 (fun x23 r23 => ?_)
    have g23 := cI_rng x23
    exact ret _ _ _ _ x23 _ hG ⟨rfl, trivial⟩ dX9_told_166
  · refine lv_tableIn (tgt := 167) (off := 166) X.1 X.2.1 dX9_told_1 (by omega) (by omega) (by rw [c1]; rfl) (by decide) ?_
    refine lv_aload_n X.1 X.2.1 dX9_told_167 rfl (lv_at hl 0 rfl) ?_
    refine gf_9_1 X hG h900 q_296 dX9_told_168 (hN _ _ _ h900) (fun a24 h24 r24 => ?_)
    refine gf_3_0 X hG h24 q_165 dX9_told_171 (hN _ _ _ h24) (fun a25 h25 r25 => ?_)
    refine gf_8_12 X hG h25 q_97 dX9_told_174 (fun x26 b26 r26 => ?_)
    refine n_if_eq (tgt := 184) X dX9_told_177 (by decide) (fun c27 => ?_) (fun c27 => ?_)
    · refine n_ic X dX9_told_184 (by decide) (by decide) (fun x28 t28 => ?_)
      exact ret _ _ _ _ x28 _ hG ⟨rfl, trivial⟩ dX9_told_185
    · refine n_ic X dX9_told_180 (by decide) (by decide) (fun x29 t29 => ?_)
      refine lv_goto (tgt := 185) X.1 X.2.1 dX9_told_181 (by decide) ?_
      exact ret _ _ _ _ x29 _ hG ⟨rfl, trivial⟩ dX9_told_185
  · refine lv_tableIn (tgt := 186) (off := 185) X.1 X.2.1 dX9_told_1 (by omega) (by omega) (by rw [c1]; rfl) (by decide) ?_
    refine lv_aload_n X.1 X.2.1 dX9_told_186 rfl (lv_at hl 0 rfl) ?_
    refine gf_9_1 X hG h900 q_296 dX9_told_187 (hN _ _ _ h900) (fun a30 h30 r30 => ?_)
    refine gf_3_0 X hG h30 q_165 dX9_told_190 (hN _ _ _ h30) (fun a31 h31 r31 => ?_)
    refine gf_8_10 X hG h31 q_92 dX9_told_193 (fun x32 r32 => ?_)
    have g32 := cI_rng x32
    exact ret _ _ _ _ x32 _ hG ⟨rfl, trivial⟩ dX9_told_196
  · refine lv_tableIn (tgt := 197) (off := 196) X.1 X.2.1 dX9_told_1 (by omega) (by omega) (by rw [c1]; rfl) (by decide) ?_
    refine lv_aload_n X.1 X.2.1 dX9_told_197 rfl (lv_at hl 0 rfl) ?_
    refine gf_9_1 X hG h900 q_296 dX9_told_198 (hN _ _ _ h900) (fun a33 h33 r33 => ?_)
    refine gf_3_0 X hG h33 q_165 dX9_told_201 (hN _ _ _ h33) (fun a34 h34 r34 => ?_)
    refine gf_8_11 X hG h34 q_94 dX9_told_204 (fun x35 r35 => ?_)
    have g35 := cI_rng x35
    exact ret _ _ _ _ x35 _ hG ⟨rfl, trivial⟩ dX9_told_207
  · refine lv_tableIn (tgt := 208) (off := 207) X.1 X.2.1 dX9_told_1 (by omega) (by omega) (by rw [c1]; rfl) (by decide) ?_
    refine lv_aload_n X.1 X.2.1 dX9_told_208 rfl (lv_at hl 0 rfl) ?_
    refine gf_9_1 X hG h900 q_296 dX9_told_209 (hN _ _ _ h900) (fun a36 h36 r36 => ?_)
    refine gf_3_3 X hG h36 q_175 dX9_told_212 (fun x37 r37 => ?_)
    have g37 := cI_rng x37
    exact ret _ _ _ _ x37 _ hG ⟨rfl, trivial⟩ dX9_told_215
  · refine lv_tableIn (tgt := 216) (off := 215) X.1 X.2.1 dX9_told_1 (by omega) (by omega) (by rw [c1]; rfl) (by decide) ?_
    refine lv_aload_n X.1 X.2.1 dX9_told_216 rfl (lv_at hl 0 rfl) ?_
    refine gf_9_1 X hG h900 q_296 dX9_told_217 (hN _ _ _ h900) (fun a38 h38 r38 => ?_)
    refine gf_3_1 X hG h38 q_168 dX9_told_220 (hN _ _ _ h38) (fun a39 h39 r39 => ?_)
    refine k_cVi X hG (c_X1_sightSet l D cy τ _ hN hR (ty_Wf.sub (S' := []) hF (by decide)) h39) h39 rfl yv_X1_sightSet q_541 ⟨rfl, rfl⟩ ⟨Nat.le_of_ble_eq_true rfl, Nat.le_of_ble_eq_true rfl⟩ rfl hl.1 rfl (Nat.le_of_ble_eq_true rfl) ⟨Nat.zero_le _, Nat.zero_le _⟩ dX9_told_223 (fun x41 u42 H locs hG po40 => ?_)
    obtain ⟨eu42, po40⟩ := po40
    rw [eu42] at hG
    have g41 := cI_rng x41
    exact ret _ _ _ _ x41 _ hG ⟨rfl, trivial⟩ dX9_told_226
  · refine lv_tableIn (tgt := 227) (off := 226) X.1 X.2.1 dX9_told_1 (by omega) (by omega) (by rw [c1]; rfl) (by decide) ?_
    refine lv_aload_n X.1 X.2.1 dX9_told_227 rfl (lv_at hl 0 rfl) ?_
    refine gf_9_2 X hG h900 q_297 dX9_told_228 (hN _ _ _ h900) (fun a43 h43 r43 => ?_)
    refine lv_aload_n X.1 X.2.1 dX9_told_231 rfl (lv_at hl 0 rfl) ?_
    refine gf_9_1 X hG h900 q_296 dX9_told_232 (hN _ _ _ h900) (fun a44 h44 r44 => ?_)
    refine lv_aload_n X.1 X.2.1 dX9_told_235 rfl (lv_at hl 0 rfl) ?_
    refine gf_9_1 X hG h900 q_296 dX9_told_236 (hN _ _ _ h900) (fun a45 h45 r45 => ?_)
    refine gf_3_0 X hG h45 q_165 dX9_told_239 (hN _ _ _ h45) (fun a46 h46 r46 => ?_)
    refine gf_8_8 X hG h46 q_85 dX9_told_242 (fun x47 r47 => ?_)
    have g47 := cI_rng x47
    refine n_ldc X q_545 (n := 2147483647) (by decide +kernel) dX9_told_245 (fun x48 t48 => ?_)
    refine k_cVi X hG (n_X7_overOf l D cy τ _ hN hR (ty_Wf.sub (S' := [106, 806, 808, 809, 810, 811, 812, 5000, 6005]) hF (by decide)) h43 h44 x47 x48 (hW _ r43)) h43 rfl yv_X7_overOf q_546 ⟨rfl, rfl⟩ ⟨Nat.le_of_ble_eq_true rfl, Nat.le_of_ble_eq_true rfl⟩ rfl hl.1 rfl (Nat.le_of_ble_eq_true rfl) ⟨Nat.zero_le _, Nat.zero_le _⟩ dX9_told_247 (fun x50 u51 H locs hG po49 => ?_)
    obtain ⟨eu51, po49⟩ := po49
    rw [eu51] at hG
    have g50 := cI_rng x50
    exact ret _ _ _ _ x50 _ hG ⟨rfl, trivial⟩ dX9_told_250
  · refine lv_tableIn (tgt := 251) (off := 250) X.1 X.2.1 dX9_told_1 (by omega) (by omega) (by rw [c1]; rfl) (by decide) ?_
    refine lv_aload_n X.1 X.2.1 dX9_told_251 rfl (lv_at hl 0 rfl) ?_
    refine gf_9_2 X hG h900 q_297 dX9_told_252 (hN _ _ _ h900) (fun a52 h52 r52 => ?_)
    refine lv_aload_n X.1 X.2.1 dX9_told_255 rfl (lv_at hl 0 rfl) ?_
    refine gf_9_1 X hG h900 q_296 dX9_told_256 (hN _ _ _ h900) (fun a53 h53 r53 => ?_)
    refine k_cVi X hG (n_X7_bestDriverOf l D cy τ _ hN hR (ty_Wf.sub (S' := [106, 806, 808, 809, 810, 811, 812, 5000, 6005]) hF (by decide)) h52 h53 (hW _ r52)) h52 rfl yv_X7_bestDriverOf q_594 ⟨rfl, rfl⟩ ⟨Nat.le_of_ble_eq_true rfl, Nat.le_of_ble_eq_true rfl⟩ rfl hl.1 rfl (Nat.le_of_ble_eq_true rfl) ⟨Nat.zero_le _, Nat.zero_le _⟩ dX9_told_259 (fun x55 u56 H locs hG po54 => ?_)
    obtain ⟨eu56, po54⟩ := po54
    rw [eu56] at hG
    have g55 := cI_rng x55
    exact ret _ _ _ _ x55 _ hG ⟨rfl, trivial⟩ dX9_told_262
  · refine lv_tableIn (tgt := 263) (off := 262) X.1 X.2.1 dX9_told_1 (by omega) (by omega) (by rw [c1]; rfl) (by decide) ?_
    refine lv_aload_n X.1 X.2.1 dX9_told_263 rfl (lv_at hl 0 rfl) ?_
    refine gf_9_2 X hG h900 q_297 dX9_told_264 (hN _ _ _ h900) (fun a57 h57 r57 => ?_)
    refine lv_aload_n X.1 X.2.1 dX9_told_267 rfl (lv_at hl 0 rfl) ?_
    refine gf_9_1 X hG h900 q_296 dX9_told_268 (hN _ _ _ h900) (fun a58 h58 r58 => ?_)
    refine k_cVi X hG (n_X7_firstBackOf l D cy τ _ hN hR (ty_Wf.sub (S' := [106, 806, 808, 809, 810, 811, 812, 5000, 6005]) hF (by decide)) h57 h58 (hW _ r57)) h57 rfl yv_X7_firstBackOf q_600 ⟨rfl, rfl⟩ ⟨Nat.le_of_ble_eq_true rfl, Nat.le_of_ble_eq_true rfl⟩ rfl hl.1 rfl (Nat.le_of_ble_eq_true rfl) ⟨Nat.zero_le _, Nat.zero_le _⟩ dX9_told_271 (fun x60 u61 H locs hG po59 => ?_)
    obtain ⟨eu61, po59⟩ := po59
    rw [eu61] at hG
    have g60 := cI_rng x60
    exact ret _ _ _ _ x60 _ hG ⟨rfl, trivial⟩ dX9_told_274
  · refine lv_tableIn (tgt := 275) (off := 274) X.1 X.2.1 dX9_told_1 (by omega) (by omega) (by rw [c1]; rfl) (by decide) ?_
    refine lv_aload_n X.1 X.2.1 dX9_told_275 rfl (lv_at hl 0 rfl) ?_
    refine gf_9_4 X hG h900 q_299 dX9_told_276 (hN _ _ _ h900) (fun a62 h62 r62 => ?_)
    refine gf_5_4 X hG h62 q_233 dX9_told_279 (fun x63 r63 => ?_)
    have g63 := cI_rng x63
    exact ret _ _ _ _ x63 _ hG ⟨rfl, trivial⟩ dX9_told_282
  · refine lv_tableIn (tgt := 283) (off := 282) X.1 X.2.1 dX9_told_1 (by omega) (by omega) (by rw [c1]; rfl) (by decide) ?_
    refine lv_aload_n X.1 X.2.1 dX9_told_283 rfl (lv_at hl 0 rfl) ?_
    refine gf_9_5 X hG h900 q_300 dX9_told_284 (hN _ _ _ h900) (fun a64 h64 r64 => ?_)
    refine gf_0_2 X hG h64 q_267 dX9_told_287 (fun x65 r65 => ?_)
    have g65 := cI_rng x65
    exact ret _ _ _ _ x65 _ hG ⟨rfl, trivial⟩ dX9_told_290
  · refine lv_tableIn (tgt := 291) (off := 290) X.1 X.2.1 dX9_told_1 (by omega) (by omega) (by rw [c1]; rfl) (by decide) ?_
    refine lv_aload_n X.1 X.2.1 dX9_told_291 rfl (lv_at hl 0 rfl) ?_
    refine gf_9_3 X hG h900 q_298 dX9_told_292 (hN _ _ _ h900) (fun a66 h66 r66 => ?_)
    refine gf_4_1 X hG h66 q_213 dX9_told_295 (fun x67 r67 => ?_)
    have g67 := cI_rng x67
    exact ret _ _ _ _ x67 _ hG ⟨rfl, trivial⟩ dX9_told_298
  · refine lv_tableOut (tgt := 299) X.1 X.2.1 dX9_told_1 c1 (by decide) ?_
    refine n_ldc X q_327 (n := -1000000002) (by decide +kernel) dX9_told_299 (fun x68 t68 => ?_)
    exact ret _ _ _ _ x68 _ hG ⟨rfl, trivial⟩ dX9_told_301
set_option maxHeartbeats 4000000 in
set_option maxRecDepth 100000 in
theorem n_X9_gate (l : Launch) (D : va_G) (cy : Nat → ClassId) (τ : ty_T) (ρ : ty_R) {M : md_T} (hN : ty_N τ ρ) (hR : ty_Rg M τ ρ) (hF : ty_Wf M τ ρ [106, 806, 808, 809, 810, 811, 812, 5000, 6005]) {a900 : Nat} (h900 : τ a900 = some (0, 9)) (x901 : Int32) (x902 : Int32) (hW : ∀ t, ρ a900 2 (.ref t) → TF M τ ρ t) : KI l D cy yX9_gate cX9_gate 3 .int (rL 6) τ ρ [.ref a900, .int x901, .int x902] (fun r u => u = ρ ∧ True) := by
  refine k_metI "EdgeEchoes" rfl (by decide +kernel) (Nat.le_of_ble_eq_true rfl) (fun _ _ _ => rfl) ?_
  intro p e s m args below meth c Q ls X hG hl ret
  have hl : lv_has ls 3 [(0, .ref a900), (1, .int x901), (2, .int x902)] := hl
  have g901 := cI_rng x901
  have g902 := cI_rng x902
  refine lv_aload_n X.1 X.2.1 dX9_gate_0 rfl (lv_at hl 0 rfl) ?_
  refine gf_9_1 X hG h900 q_296 dX9_gate_1 (hN _ _ _ h900) (fun a1 h1 r1 => ?_)
  refine gf_3_1 X hG h1 q_168 dX9_gate_4 (hN _ _ _ h1) (fun a2 h2 r2 => ?_)
  refine lv_iload_n X.1 X.2.1 dX9_gate_7 rfl (lv_at hl 1 rfl) ?_
  refine k_cVi X hG (c_X1_has l D cy τ _ hN hR (ty_Wf.sub (S' := []) hF (by decide)) h2 x901) h2 rfl yv_X1_has q_629 ⟨rfl, rfl⟩ ⟨Nat.le_of_ble_eq_true rfl, Nat.le_of_ble_eq_true rfl⟩ rfl hl.1 rfl (Nat.le_of_ble_eq_true rfl) ⟨Nat.zero_le _, Nat.zero_le _⟩ dX9_gate_8 (fun x4 u5 H locs hG po3 => ?_)
  obtain ⟨eu5, po3⟩ := po3
  rw [eu5] at hG
  refine n_if_ne (tgt := 17) X dX9_gate_11 (by decide) (fun c6 => ?_) (fun c6 => ?_)
  · refine lv_iload_n X.1 X.2.1 dX9_gate_17 rfl (lv_at hl 2 rfl) ?_
    rcases (show x902.toInt = 0 ∨ x902.toInt = 1 ∨ x902.toInt = 2 ∨ x902.toInt = 3 ∨ x902.toInt = 4 ∨ x902.toInt = 5 ∨ (x902.toInt < 0 ∨ 5 < x902.toInt) by omega) with c7 | c7 | c7 | c7 | c7 | c7 | c7
    · refine lv_tableIn (tgt := 56) (off := 38) X.1 X.2.1 dX9_gate_18 (by omega) (by omega) (by rw [c7]; rfl) (by decide) ?_
      refine lv_aload_n X.1 X.2.1 dX9_gate_56 rfl (lv_at hl 0 rfl) ?_
      refine gf_9_1 X hG h900 q_296 dX9_gate_57 (hN _ _ _ h900) (fun a8 h8 r8 => ?_)
      refine gf_3_1 X hG h8 q_168 dX9_gate_60 (hN _ _ _ h8) (fun a9 h9 r9 => ?_)
      refine gf_1_0 X hG h9 q_132 dX9_gate_63 (hN _ _ _ h9) (fun a10 h10 r10 => ?_)
      refine lv_iload_n X.1 X.2.1 dX9_gate_66 rfl (lv_at hl 1 rfl) ?_
      refine tg_iald X hG h10 rfl (cI_in (n := 6) (by omega)) dX9_gate_67 (fun x11 r11 => ?_)
      exact ret _ _ _ _ x11 _ hG ⟨rfl, trivial⟩ dX9_gate_68
    · refine lv_tableIn (tgt := 69) (off := 51) X.1 X.2.1 dX9_gate_18 (by omega) (by omega) (by rw [c7]; rfl) (by decide) ?_
      refine lv_aload_n X.1 X.2.1 dX9_gate_69 rfl (lv_at hl 0 rfl) ?_
      refine gf_9_1 X hG h900 q_296 dX9_gate_70 (hN _ _ _ h900) (fun a12 h12 r12 => ?_)
      refine gf_3_1 X hG h12 q_168 dX9_gate_73 (hN _ _ _ h12) (fun a13 h13 r13 => ?_)
      refine gf_1_1 X hG h13 q_134 dX9_gate_76 (hN _ _ _ h13) (fun a14 h14 r14 => ?_)
      refine lv_iload_n X.1 X.2.1 dX9_gate_79 rfl (lv_at hl 1 rfl) ?_
      refine tg_iald X hG h14 rfl (cI_in (n := 6) (by omega)) dX9_gate_80 (fun x15 r15 => ?_)
      exact ret _ _ _ _ x15 _ hG ⟨rfl, trivial⟩ dX9_gate_81
    · refine lv_tableIn (tgt := 82) (off := 64) X.1 X.2.1 dX9_gate_18 (by omega) (by omega) (by rw [c7]; rfl) (by decide) ?_
      refine lv_aload_n X.1 X.2.1 dX9_gate_82 rfl (lv_at hl 0 rfl) ?_
      refine gf_9_1 X hG h900 q_296 dX9_gate_83 (hN _ _ _ h900) (fun a16 h16 r16 => ?_)
      refine gf_3_1 X hG h16 q_168 dX9_gate_86 (hN _ _ _ h16) (fun a17 h17 r17 => ?_)
      refine gf_1_2 X hG h17 q_136 dX9_gate_89 (hN _ _ _ h17) (fun a18 h18 r18 => ?_)
      refine lv_iload_n X.1 X.2.1 dX9_gate_92 rfl (lv_at hl 1 rfl) ?_
      refine tg_iald X hG h18 rfl (cI_in (n := 6) (by omega)) dX9_gate_93 (fun x19 r19 => ?_)
      exact ret _ _ _ _ x19 _ hG ⟨rfl, trivial⟩ dX9_gate_94
    · refine lv_tableIn (tgt := 95) (off := 77) X.1 X.2.1 dX9_gate_18 (by omega) (by omega) (by rw [c7]; rfl) (by decide) ?_
      refine lv_aload_n X.1 X.2.1 dX9_gate_95 rfl (lv_at hl 0 rfl) ?_
      refine gf_9_1 X hG h900 q_296 dX9_gate_96 (hN _ _ _ h900) (fun a20 h20 r20 => ?_)
      refine gf_3_1 X hG h20 q_168 dX9_gate_99 (hN _ _ _ h20) (fun a21 h21 r21 => ?_)
      refine gf_1_3 X hG h21 q_139 dX9_gate_102 (hN _ _ _ h21) (fun a22 h22 r22 => ?_)
      refine lv_iload_n X.1 X.2.1 dX9_gate_105 rfl (lv_at hl 1 rfl) ?_
      refine tg_iald X hG h22 rfl (cI_in (n := 6) (by omega)) dX9_gate_106 (fun x23 r23 => ?_)
      exact ret _ _ _ _ x23 _ hG ⟨rfl, trivial⟩ dX9_gate_107
    · refine lv_tableIn (tgt := 108) (off := 90) X.1 X.2.1 dX9_gate_18 (by omega) (by omega) (by rw [c7]; rfl) (by decide) ?_
      refine lv_aload_n X.1 X.2.1 dX9_gate_108 rfl (lv_at hl 0 rfl) ?_
      refine gf_9_1 X hG h900 q_296 dX9_gate_109 (hN _ _ _ h900) (fun a24 h24 r24 => ?_)
      refine gf_3_1 X hG h24 q_168 dX9_gate_112 (hN _ _ _ h24) (fun a25 h25 r25 => ?_)
      refine gf_1_4 X hG h25 q_142 dX9_gate_115 (hN _ _ _ h25) (fun a26 h26 r26 => ?_)
      refine lv_iload_n X.1 X.2.1 dX9_gate_118 rfl (lv_at hl 1 rfl) ?_
      refine tg_iald X hG h26 rfl (cI_in (n := 6) (by omega)) dX9_gate_119 (fun x27 r27 => ?_)
      exact ret _ _ _ _ x27 _ hG ⟨rfl, trivial⟩ dX9_gate_120
    · refine lv_tableIn (tgt := 121) (off := 103) X.1 X.2.1 dX9_gate_18 (by omega) (by omega) (by rw [c7]; rfl) (by decide) ?_
      refine lv_aload_n X.1 X.2.1 dX9_gate_121 rfl (lv_at hl 0 rfl) ?_
      refine gf_9_2 X hG h900 q_297 dX9_gate_122 (hN _ _ _ h900) (fun a28 h28 r28 => ?_)
      refine lv_aload_n X.1 X.2.1 dX9_gate_125 rfl (lv_at hl 0 rfl) ?_
      refine gf_9_1 X hG h900 q_296 dX9_gate_126 (hN _ _ _ h900) (fun a29 h29 r29 => ?_)
      refine lv_iload_n X.1 X.2.1 dX9_gate_129 rfl (lv_at hl 1 rfl) ?_
      refine k_cVi X hG (n_X7_firstOneOf l D cy τ _ hN hR (ty_Wf.sub (S' := [106, 806, 808, 809, 810, 811, 812, 5000, 6005]) hF (by decide)) h28 h29 x901 (hW _ r28)) h28 rfl yv_X7_firstOneOf q_633 ⟨rfl, rfl⟩ ⟨Nat.le_of_ble_eq_true rfl, Nat.le_of_ble_eq_true rfl⟩ rfl hl.1 rfl (Nat.le_of_ble_eq_true rfl) ⟨Nat.zero_le _, Nat.zero_le _⟩ dX9_gate_130 (fun x31 u32 H locs hG po30 => ?_)
      obtain ⟨eu32, po30⟩ := po30
      rw [eu32] at hG
      have g31 := cI_rng x31
      exact ret _ _ _ _ x31 _ hG ⟨rfl, trivial⟩ dX9_gate_133
    · refine lv_tableOut (tgt := 134) X.1 X.2.1 dX9_gate_18 c7 (by decide) ?_
      refine n_ldc X q_327 (n := -1000000002) (by decide +kernel) dX9_gate_134 (fun x33 t33 => ?_)
      exact ret _ _ _ _ x33 _ hG ⟨rfl, trivial⟩ dX9_gate_136
  · refine n_ldc X q_609 (n := -1000000001) (by decide +kernel) dX9_gate_14 (fun x34 t34 => ?_)
    exact ret _ _ _ _ x34 _ hG ⟨rfl, trivial⟩ dX9_gate_16
set_option maxHeartbeats 4000000 in
set_option maxRecDepth 100000 in
theorem n_X9_volts (l : Launch) (D : va_G) (cy : Nat → ClassId) (τ : ty_T) (ρ : ty_R) {M : md_T} (hN : ty_N τ ρ) (hR : ty_Rg M τ ρ) (hF : ty_Wf M τ ρ [106, 806, 808, 809, 810, 811, 812, 5000, 6005]) {a900 : Nat} (h900 : τ a900 = some (0, 9)) (x901 : Int32) (x902 : Int32) (x903 : Int32) (hW : ∀ t, ρ a900 2 (.ref t) → TF M τ ρ t) : KI l D cy yX9_volts cX9_volts 4 .int (rL 5) τ ρ [.ref a900, .int x901, .int x902, .int x903] (fun r u => u = ρ ∧ True) := by
  refine k_metI "EdgeEchoes" rfl (by decide +kernel) (Nat.le_of_ble_eq_true rfl) (fun _ _ _ => rfl) ?_
  intro p e s m args below meth c Q ls X hG hl ret
  have hl : lv_has ls 4 [(0, .ref a900), (1, .int x901), (2, .int x902), (3, .int x903)] := hl
  have g901 := cI_rng x901
  have g902 := cI_rng x902
  have g903 := cI_rng x903
  refine lv_iload_n X.1 X.2.1 dX9_volts_0 rfl (lv_at hl 1 rfl) ?_
  refine n_if_lt (tgt := 21) X dX9_volts_1 (by decide) (fun c1 => ?_) (fun c1 => ?_)
  · refine n_ldc X q_327 (n := -1000000002) (by decide +kernel) dX9_volts_21 (fun x2 t2 => ?_)
    exact ret _ _ _ _ x2 _ hG ⟨rfl, trivial⟩ dX9_volts_23
  · refine lv_iload_n X.1 X.2.1 dX9_volts_4 rfl (lv_at hl 1 rfl) ?_
    refine n_bp X dX9_volts_5 (by decide) (by decide) (fun x3 t3 => ?_)
    refine n_icmp_ge (tgt := 21) X dX9_volts_7 (by decide) (fun c4 => ?_) (fun c4 => ?_)
    · refine n_ldc X q_327 (n := -1000000002) (by decide +kernel) dX9_volts_21 (fun x5 t5 => ?_)
      exact ret _ _ _ _ x5 _ hG ⟨rfl, trivial⟩ dX9_volts_23
    · refine lv_iload_n X.1 X.2.1 dX9_volts_10 rfl (lv_at hl 2 rfl) ?_
      refine n_if_lt (tgt := 21) X dX9_volts_11 (by decide) (fun c6 => ?_) (fun c6 => ?_)
      · refine n_ldc X q_327 (n := -1000000002) (by decide +kernel) dX9_volts_21 (fun x7 t7 => ?_)
        exact ret _ _ _ _ x7 _ hG ⟨rfl, trivial⟩ dX9_volts_23
      · refine lv_iload_n X.1 X.2.1 dX9_volts_14 rfl (lv_at hl 2 rfl) ?_
        refine n_sp X dX9_volts_15 (by decide) (by decide) (fun x8 t8 => ?_)
        refine n_icmp_le (tgt := 24) X dX9_volts_18 (by decide) (fun c9 => ?_) (fun c9 => ?_)
        · refine lv_iload_n X.1 X.2.1 dX9_volts_24 rfl (lv_at hl 3 rfl) ?_
          rcases (show x903.toInt = 0 ∨ x903.toInt = 1 ∨ x903.toInt = 2 ∨ (x903.toInt < 0 ∨ 2 < x903.toInt) by omega) with c10 | c10 | c10 | c10
          · refine lv_tableIn (tgt := 52) (off := 27) X.1 X.2.1 dX9_volts_25 (by omega) (by omega) (by rw [c10]; rfl) (by decide) ?_
            refine n_ldc X q_615 (n := 1000000) (by decide +kernel) dX9_volts_52 (fun x11 t11 => ?_)
            refine lv_aload_n X.1 X.2.1 dX9_volts_54 rfl (lv_at hl 0 rfl) ?_
            refine gf_9_2 X hG h900 q_297 dX9_volts_55 (hN _ _ _ h900) (fun a12 h12 r12 => ?_)
            refine lv_aload_n X.1 X.2.1 dX9_volts_58 rfl (lv_at hl 0 rfl) ?_
            refine gf_9_1 X hG h900 q_296 dX9_volts_59 (hN _ _ _ h900) (fun a13 h13 r13 => ?_)
            refine lv_iload_n X.1 X.2.1 dX9_volts_62 rfl (lv_at hl 1 rfl) ?_
            refine lv_iload_n X.1 X.2.1 dX9_volts_63 rfl (lv_at hl 2 rfl) ?_
            refine k_cVi X hG (n_X7_voltsBehind l D cy τ _ hN hR (ty_Wf.sub (S' := [106, 806, 808, 809, 810, 811, 812, 5000, 6005]) hF (by decide)) h12 h13 x901 x902 (hW _ r12)) h12 rfl yv_X7_voltsBehind q_749 ⟨rfl, rfl⟩ ⟨Nat.le_of_ble_eq_true rfl, Nat.le_of_ble_eq_true rfl⟩ rfl hl.1 rfl (Nat.le_of_ble_eq_true rfl) ⟨Nat.zero_le _, Nat.zero_le _⟩ dX9_volts_64 (fun x15 u16 H locs hG po14 => ?_)
            obtain ⟨eu16, po14⟩ := po14
            rw [eu16] at hG
            have g15 := cI_rng x15
            refine lv_iadd X.1 X.2.1 dX9_volts_67 ?_
            refine n_any (fun x17 => ?_)
            exact ret _ _ _ _ x17 _ hG ⟨rfl, trivial⟩ dX9_volts_68
          · refine lv_tableIn (tgt := 69) (off := 44) X.1 X.2.1 dX9_volts_25 (by omega) (by omega) (by rw [c10]; rfl) (by decide) ?_
            refine n_ldc X q_615 (n := 1000000) (by decide +kernel) dX9_volts_69 (fun x18 t18 => ?_)
            refine lv_aload_n X.1 X.2.1 dX9_volts_71 rfl (lv_at hl 0 rfl) ?_
            refine gf_9_2 X hG h900 q_297 dX9_volts_72 (hN _ _ _ h900) (fun a19 h19 r19 => ?_)
            refine lv_aload_n X.1 X.2.1 dX9_volts_75 rfl (lv_at hl 0 rfl) ?_
            refine gf_9_1 X hG h900 q_296 dX9_volts_76 (hN _ _ _ h900) (fun a20 h20 r20 => ?_)
            refine lv_iload_n X.1 X.2.1 dX9_volts_79 rfl (lv_at hl 1 rfl) ?_
            refine lv_iload_n X.1 X.2.1 dX9_volts_80 rfl (lv_at hl 2 rfl) ?_
            refine k_cVi X hG (n_X7_peakUpTo l D cy τ _ hN hR (ty_Wf.sub (S' := [106, 806, 808, 809, 810, 811, 812, 5000, 6005]) hF (by decide)) h19 h20 x901 x902 (hW _ r19)) h19 rfl yv_X7_peakUpTo q_753 ⟨rfl, rfl⟩ ⟨Nat.le_of_ble_eq_true rfl, Nat.le_of_ble_eq_true rfl⟩ rfl hl.1 rfl (Nat.le_of_ble_eq_true rfl) ⟨Nat.zero_le _, Nat.zero_le _⟩ dX9_volts_81 (fun x22 u23 H locs hG po21 => ?_)
            obtain ⟨eu23, po21⟩ := po21
            rw [eu23] at hG
            have g22 := cI_rng x22
            refine lv_iadd X.1 X.2.1 dX9_volts_84 ?_
            refine n_any (fun x24 => ?_)
            exact ret _ _ _ _ x24 _ hG ⟨rfl, trivial⟩ dX9_volts_85
          · refine lv_tableIn (tgt := 86) (off := 61) X.1 X.2.1 dX9_volts_25 (by omega) (by omega) (by rw [c10]; rfl) (by decide) ?_
            refine n_ldc X q_615 (n := 1000000) (by decide +kernel) dX9_volts_86 (fun x25 t25 => ?_)
            refine lv_aload_n X.1 X.2.1 dX9_volts_88 rfl (lv_at hl 0 rfl) ?_
            refine gf_9_2 X hG h900 q_297 dX9_volts_89 (hN _ _ _ h900) (fun a26 h26 r26 => ?_)
            refine lv_aload_n X.1 X.2.1 dX9_volts_92 rfl (lv_at hl 0 rfl) ?_
            refine gf_9_1 X hG h900 q_296 dX9_volts_93 (hN _ _ _ h900) (fun a27 h27 r27 => ?_)
            refine lv_iload_n X.1 X.2.1 dX9_volts_96 rfl (lv_at hl 1 rfl) ?_
            refine lv_iload_n X.1 X.2.1 dX9_volts_97 rfl (lv_at hl 2 rfl) ?_
            refine k_cVi X hG (n_X7_leastUpTo l D cy τ _ hN hR (ty_Wf.sub (S' := [106, 806, 808, 809, 810, 811, 812, 5000, 6005]) hF (by decide)) h26 h27 x901 x902 (hW _ r26)) h26 rfl yv_X7_leastUpTo q_757 ⟨rfl, rfl⟩ ⟨Nat.le_of_ble_eq_true rfl, Nat.le_of_ble_eq_true rfl⟩ rfl hl.1 rfl (Nat.le_of_ble_eq_true rfl) ⟨Nat.zero_le _, Nat.zero_le _⟩ dX9_volts_98 (fun x29 u30 H locs hG po28 => ?_)
            obtain ⟨eu30, po28⟩ := po28
            rw [eu30] at hG
            have g29 := cI_rng x29
            refine lv_iadd X.1 X.2.1 dX9_volts_101 ?_
            refine n_any (fun x31 => ?_)
            exact ret _ _ _ _ x31 _ hG ⟨rfl, trivial⟩ dX9_volts_102
          · refine lv_tableOut (tgt := 103) X.1 X.2.1 dX9_volts_25 c10 (by decide) ?_
            refine n_ldc X q_327 (n := -1000000002) (by decide +kernel) dX9_volts_103 (fun x32 t32 => ?_)
            exact ret _ _ _ _ x32 _ hG ⟨rfl, trivial⟩ dX9_volts_105
        · refine n_ldc X q_327 (n := -1000000002) (by decide +kernel) dX9_volts_21 (fun x33 t33 => ?_)
          exact ret _ _ _ _ x33 _ hG ⟨rfl, trivial⟩ dX9_volts_23
set_option maxHeartbeats 4000000 in
set_option maxRecDepth 100000 in
theorem n_X9_rest (l : Launch) (D : va_G) (cy : Nat → ClassId) (τ : ty_T) (ρ : ty_R) {M : md_T} (hN : ty_N τ ρ) (hR : ty_Rg M τ ρ) (hF : ty_Wf M τ ρ [106, 806, 808, 809, 810, 811, 812, 5000, 6005]) {a900 : Nat} (h900 : τ a900 = some (0, 9)) (x901 : Int32) (hW : ∀ t, ρ a900 2 (.ref t) → TF M τ ρ t) : KI l D cy yX9_rest cX9_rest 2 .int (rL 5) τ ρ [.ref a900, .int x901] (fun r u => u = ρ ∧ True) := by
  refine k_metI "EdgeEchoes" rfl (by decide +kernel) (Nat.le_of_ble_eq_true rfl) (fun _ _ _ => rfl) ?_
  intro p e s m args below meth c Q ls X hG hl ret
  have hl : lv_has ls 2 [(0, .ref a900), (1, .int x901)] := hl
  have g901 := cI_rng x901
  refine lv_iload_n X.1 X.2.1 dX9_rest_0 rfl (lv_at hl 1 rfl) ?_
  refine n_if_lt (tgt := 10) X dX9_rest_1 (by decide) (fun c1 => ?_) (fun c1 => ?_)
  · refine n_ldc X q_327 (n := -1000000002) (by decide +kernel) dX9_rest_10 (fun x2 t2 => ?_)
    exact ret _ _ _ _ x2 _ hG ⟨rfl, trivial⟩ dX9_rest_12
  · refine lv_iload_n X.1 X.2.1 dX9_rest_4 rfl (lv_at hl 1 rfl) ?_
    refine n_bp X dX9_rest_5 (by decide) (by decide) (fun x3 t3 => ?_)
    refine n_icmp_lt (tgt := 13) X dX9_rest_7 (by decide) (fun c4 => ?_) (fun c4 => ?_)
    · refine lv_aload_n X.1 X.2.1 dX9_rest_13 rfl (lv_at hl 0 rfl) ?_
      refine gf_9_2 X hG h900 q_297 dX9_rest_14 (hN _ _ _ h900) (fun a5 h5 r5 => ?_)
      refine lv_aload_n X.1 X.2.1 dX9_rest_17 rfl (lv_at hl 0 rfl) ?_
      refine gf_9_1 X hG h900 q_296 dX9_rest_18 (hN _ _ _ h900) (fun a6 h6 r6 => ?_)
      refine lv_iload_n X.1 X.2.1 dX9_rest_21 rfl (lv_at hl 1 rfl) ?_
      refine k_cVi X hG (n_X7_restOf l D cy τ _ hN hR (ty_Wf.sub (S' := [106, 806, 808, 809, 810, 811, 812, 5000, 6005]) hF (by decide)) h5 h6 x901 (hW _ r5)) h5 rfl yv_X7_restOf q_766 ⟨rfl, rfl⟩ ⟨Nat.le_of_ble_eq_true rfl, Nat.le_of_ble_eq_true rfl⟩ rfl hl.1 rfl (Nat.le_of_ble_eq_true rfl) ⟨Nat.zero_le _, Nat.zero_le _⟩ dX9_rest_22 (fun x8 u9 H locs hG po7 => ?_)
      obtain ⟨eu9, po7⟩ := po7
      rw [eu9] at hG
      have g8 := cI_rng x8
      exact ret _ _ _ _ x8 _ hG ⟨rfl, trivial⟩ dX9_rest_25
    · refine n_ldc X q_327 (n := -1000000002) (by decide +kernel) dX9_rest_10 (fun x10 t10 => ?_)
      exact ret _ _ _ _ x10 _ hG ⟨rfl, trivial⟩ dX9_rest_12
set_option maxHeartbeats 4000000 in
set_option maxRecDepth 100000 in
theorem n_X9_sees (l : Launch) (D : va_G) (cy : Nat → ClassId) (τ : ty_T) (ρ : ty_R) {M : md_T} (hN : ty_N τ ρ) (hR : ty_Rg M τ ρ) (hF : ty_Wf M τ ρ [106, 806, 808, 809, 810, 811, 812, 5000, 6005]) {a900 : Nat} (h900 : τ a900 = some (0, 9)) (x901 : Int32) (x902 : Int32) (x903 : Int32) (hW : ∀ t, ρ a900 2 (.ref t) → TF M τ ρ t) : KI l D cy yX9_sees cX9_sees 4 .int (rL 6) τ ρ [.ref a900, .int x901, .int x902, .int x903] (fun r u => u = ρ ∧ True) := by
  refine k_metI "EdgeEchoes" rfl (by decide +kernel) (Nat.le_of_ble_eq_true rfl) (fun _ _ _ => rfl) ?_
  intro p e s m args below meth c Q ls X hG hl ret
  have hl : lv_has ls 4 [(0, .ref a900), (1, .int x901), (2, .int x902), (3, .int x903)] := hl
  have g901 := cI_rng x901
  have g902 := cI_rng x902
  have g903 := cI_rng x903
  refine lv_aload_n X.1 X.2.1 dX9_sees_0 rfl (lv_at hl 0 rfl) ?_
  refine gf_9_1 X hG h900 q_296 dX9_sees_1 (hN _ _ _ h900) (fun a1 h1 r1 => ?_)
  refine gf_3_1 X hG h1 q_168 dX9_sees_4 (hN _ _ _ h1) (fun a2 h2 r2 => ?_)
  refine lv_iload_n X.1 X.2.1 dX9_sees_7 rfl (lv_at hl 1 rfl) ?_
  refine k_cVi X hG (c_X1_has l D cy τ _ hN hR (ty_Wf.sub (S' := []) hF (by decide)) h2 x901) h2 rfl yv_X1_has q_629 ⟨rfl, rfl⟩ ⟨Nat.le_of_ble_eq_true rfl, Nat.le_of_ble_eq_true rfl⟩ rfl hl.1 rfl (Nat.le_of_ble_eq_true rfl) ⟨Nat.zero_le _, Nat.zero_le _⟩ dX9_sees_8 (fun x4 u5 H locs hG po3 => ?_)
  obtain ⟨eu5, po3⟩ := po3
  rw [eu5] at hG
  refine n_if_ne (tgt := 17) X dX9_sees_11 (by decide) (fun c6 => ?_) (fun c6 => ?_)
  · refine lv_iload_n X.1 X.2.1 dX9_sees_17 rfl (lv_at hl 2 rfl) ?_
    refine n_if_lt (tgt := 37) X dX9_sees_18 (by decide) (fun c7 => ?_) (fun c7 => ?_)
    · refine n_ldc X q_327 (n := -1000000002) (by decide +kernel) dX9_sees_37 (fun x8 t8 => ?_)
      exact ret _ _ _ _ x8 _ hG ⟨rfl, trivial⟩ dX9_sees_39
    · refine lv_iload_n X.1 X.2.1 dX9_sees_21 rfl (lv_at hl 2 rfl) ?_
      refine n_sp X dX9_sees_22 (by decide) (by decide) (fun x9 t9 => ?_)
      refine n_icmp_gt (tgt := 37) X dX9_sees_25 (by decide) (fun c10 => ?_) (fun c10 => ?_)
      · refine n_ldc X q_327 (n := -1000000002) (by decide +kernel) dX9_sees_37 (fun x11 t11 => ?_)
        exact ret _ _ _ _ x11 _ hG ⟨rfl, trivial⟩ dX9_sees_39
      · refine lv_iload_n X.1 X.2.1 dX9_sees_28 rfl (lv_at hl 3 rfl) ?_
        refine n_if_lt (tgt := 37) X dX9_sees_29 (by decide) (fun c12 => ?_) (fun c12 => ?_)
        · refine n_ldc X q_327 (n := -1000000002) (by decide +kernel) dX9_sees_37 (fun x13 t13 => ?_)
          exact ret _ _ _ _ x13 _ hG ⟨rfl, trivial⟩ dX9_sees_39
        · refine lv_iload_n X.1 X.2.1 dX9_sees_32 rfl (lv_at hl 3 rfl) ?_
          refine n_ic X dX9_sees_33 (by decide) (by decide) (fun x14 t14 => ?_)
          refine n_icmp_le (tgt := 40) X dX9_sees_34 (by decide) (fun c15 => ?_) (fun c15 => ?_)
          · refine lv_aload_n X.1 X.2.1 dX9_sees_40 rfl (lv_at hl 0 rfl) ?_
            refine gf_9_2 X hG h900 q_297 dX9_sees_41 (hN _ _ _ h900) (fun a16 h16 r16 => ?_)
            refine lv_aload_n X.1 X.2.1 dX9_sees_44 rfl (lv_at hl 0 rfl) ?_
            refine gf_9_1 X hG h900 q_296 dX9_sees_45 (hN _ _ _ h900) (fun a17 h17 r17 => ?_)
            refine lv_iload_n X.1 X.2.1 dX9_sees_48 rfl (lv_at hl 2 rfl) ?_
            refine k_cVv X hG (n_X7_goOn l D cy τ _ hN hR (ty_Wf.sub (S' := [106, 806, 808, 809, 810, 811, 812, 5000, 6005]) hF (by decide)) h16 h17 x902 (hW _ r16)) h16 rfl yv_X7_goOn q_777 ⟨rfl, rfl⟩ ⟨Nat.le_of_ble_eq_true rfl, Nat.le_of_ble_eq_true rfl⟩ rfl hl.1 rfl (Nat.le_of_ble_eq_true rfl) ⟨Nat.zero_le _, Nat.zero_le _⟩ dX9_sees_49 (fun u20 H locs hG po18 => ?_)
            rw [po18] at hG
            refine lv_iload_n X.1 X.2.1 dX9_sees_52 rfl (lv_at hl 3 rfl) ?_
            refine n_if_ne (tgt := 72) X dX9_sees_53 (by decide) (fun c21 => ?_) (fun c21 => ?_)
            · refine lv_aload_n X.1 X.2.1 dX9_sees_72 rfl (lv_at hl 0 rfl) ?_
              refine gf_9_2 X hG h900 q_297 dX9_sees_73 (hN _ _ _ h900) (fun a22 h22 r22 => ?_)
              refine gf_7_0 X hG h22 q_194 dX9_sees_76 (hN _ _ _ h22) (fun a23 h23 r23 => ?_)
              refine gf_3_1 X hG h23 q_168 dX9_sees_79 (hN _ _ _ h23) (fun a24 h24 r24 => ?_)
              refine gf_1_4 X hG h24 q_142 dX9_sees_82 (hN _ _ _ h24) (fun a25 h25 r25 => ?_)
              refine lv_iload_n X.1 X.2.1 dX9_sees_85 rfl (lv_at hl 1 rfl) ?_
              refine tg_iald X hG h25 rfl (cI_in (n := 6) (by omega)) dX9_sees_86 (fun x26 r26 => ?_)
              refine lv_aload_n X.1 X.2.1 dX9_sees_87 rfl (lv_at hl 0 rfl) ?_
              refine gf_9_1 X hG h900 q_296 dX9_sees_88 (hN _ _ _ h900) (fun a27 h27 r27 => ?_)
              refine gf_3_1 X hG h27 q_168 dX9_sees_91 (hN _ _ _ h27) (fun a28 h28 r28 => ?_)
              refine gf_1_4 X hG h28 q_142 dX9_sees_94 (hN _ _ _ h28) (fun a29 h29 r29 => ?_)
              refine lv_iload_n X.1 X.2.1 dX9_sees_97 rfl (lv_at hl 1 rfl) ?_
              refine tg_iald X hG h29 rfl (cI_in (n := 6) (by omega)) dX9_sees_98 (fun x30 r30 => ?_)
              refine lv_isub X.1 X.2.1 dX9_sees_99 ?_
              refine n_any (fun x31 => ?_)
              exact ret _ _ _ _ x31 _ hG ⟨rfl, trivial⟩ dX9_sees_100
            · refine lv_aload_n X.1 X.2.1 dX9_sees_56 rfl (lv_at hl 0 rfl) ?_
              refine gf_9_2 X hG h900 q_297 dX9_sees_57 (hN _ _ _ h900) (fun a32 h32 r32 => ?_)
              refine gf_7_0 X hG h32 q_194 dX9_sees_60 (hN _ _ _ h32) (fun a33 h33 r33 => ?_)
              refine gf_3_1 X hG h33 q_168 dX9_sees_63 (hN _ _ _ h33) (fun a34 h34 r34 => ?_)
              refine gf_1_3 X hG h34 q_139 dX9_sees_66 (hN _ _ _ h34) (fun a35 h35 r35 => ?_)
              refine lv_iload_n X.1 X.2.1 dX9_sees_69 rfl (lv_at hl 1 rfl) ?_
              refine tg_iald X hG h35 rfl (cI_in (n := 6) (by omega)) dX9_sees_70 (fun x36 r36 => ?_)
              exact ret _ _ _ _ x36 _ hG ⟨rfl, trivial⟩ dX9_sees_71
          · refine n_ldc X q_327 (n := -1000000002) (by decide +kernel) dX9_sees_37 (fun x37 t37 => ?_)
            exact ret _ _ _ _ x37 _ hG ⟨rfl, trivial⟩ dX9_sees_39
  · refine n_ldc X q_609 (n := -1000000001) (by decide +kernel) dX9_sees_14 (fun x38 t38 => ?_)
    exact ret _ _ _ _ x38 _ hG ⟨rfl, trivial⟩ dX9_sees_16
/-- the same by what is known besides -/
def PT (π : ty_R) (a : Nat) : Prop := ∀ l, π a 0 (.ref l) → (∀ x, π l 2 (.int x)) ∧ (∀ x, π l 3 (.int x)) ∧ ∀ w x, π l 0 (.ref w) → π w 7 (.int x)
theorem PT.tf {M : md_T} {τ : ty_T} {π : ty_R} {a q b : Nat} (ha : τ a = some (0, 5)) (h : PT π b) : TF M τ (pr (pn π (cn M τ)) a q) b := fun l h1 hl => by
  have na : l ≠ a := fun z => by rw [z, ha] at hl; cases hl
  have z := h l h1.1.2
  exact ⟨fun x => ⟨⟨cn_F (S := [302]) l (0, 3) 2 x hl (by decide) (ty_rno rfl), z.1 x⟩, fun e _ => absurd e na⟩, fun x => ⟨⟨cn_F (S := [303]) l (0, 3) 3 x hl (by decide) (ty_rno rfl), z.2.1 x⟩, fun e _ => absurd e na⟩, fun w x hw tw hx => ⟨⟨cn_F (S := [807]) w (0, 8) 7 x tw (by decide) hx, z.2.2 w x hw.1.2⟩, fun _ e => absurd e (by decide)⟩⟩
set_option maxHeartbeats 4000000 in
set_option maxRecDepth 100000 in
theorem nat_rest {l : Launch} {D : va_G} {cy : Nat → ClassId} {p : Program} {e : Env} {s : State} {m : MethodId} {args : Array Value} {below : List Frame} {meth : Method} {c : Code} {Q : State → Prop} {A : Nat → Prop} (X : ty_X p c s m args cX5_gather "EdgeEchoes$Suspects" 5 D cy) {t : ty_T} {ρ : ty_R} {M : md_T} (hN : ty_N t ρ) (hR : ty_Rg M t ρ) (hF : ty_Wf M t ρ [106, 505, 506, 507, 806, 808, 809, 810, 811, 812, 5000, 6005]) {a900 a901 a902 : Nat} (h900 : t a900 = some (0, 5)) (h901 : t a901 = some (0, 3)) (h902 : t a902 = some (0, 7)) (x903 : Int32) (zx903 : x903.toInt = 0 ∨ x903.toInt = 1) (hW : TF M t ρ a902) {aT nT : Nat} (hT : ∀ v, ρ a900 3 v → v = .ref aT) (kT : t aT = some (1, nT)) (lT : nT < 2147483648) (ret : ∀ (H : Heap) (locs : List Loc) (pc : Nat) (ls : Array Slot), TG D cy t ρ A s.heap H locs → decode cX5_gather pc = .ok (.return_, 1) → W p l e (rC 5 1 8520) s m args below meth c H locs 1 8520 Q (F0 m pc ls [])) (H : Heap) (locs : List Loc) (ls : Array Slot) (hG : TG D cy t ρ A s.heap H locs) (hl : lv_has ls 5 [(0, .ref a900), (1, .ref a901), (2, .ref a902), (3, .int x903)]) : W p l e (rC 5 1 8520) s m args below meth c H locs 1 8520 Q (F0 m 21 ls []) := by
  refine lv_aload_n X.1 X.2.1 dX5_gather_21 rfl (lv_at hl 0 rfl) ?_
  refine n_ic X dX5_gather_22 (by decide) (by decide) (fun x1 t1 => ?_)
  refine pf_5_5 X hG h900 q_234 dX5_gather_23 (hF _ _ _ _ h900 (ty_in (n := 505) rfl) (ty_rno rfl)) (fun H locs hG => ?_)
  refine lv_aload_n X.1 X.2.1 dX5_gather_26 rfl (lv_at hl 0 rfl) ?_
  refine n_ic X dX5_gather_27 (by decide) (by decide) (fun x2 t2 => ?_)
  refine pf_5_6 X hG h900 q_236 dX5_gather_28 (hF _ _ _ _ h900 (ty_in (n := 506) rfl) (ty_rno rfl)) (fun H locs hG => ?_)
  refine lv_aload_n X.1 X.2.1 dX5_gather_31 rfl (lv_at hl 0 rfl) ?_
  refine n_ic X dX5_gather_32 (by decide) (by decide) (fun x3 t3 => ?_)
  refine pf_5_7 X hG h900 q_238 dX5_gather_33 (hF _ _ _ _ h900 (ty_in (n := 507) rfl) (ty_rno rfl)) (fun H locs hG => ?_)
  refine n_ic X dX5_gather_36 (by decide) (by decide) (fun x4 t4 => ?_)
  refine lv_istore (lv' := [(4, .int x4), (0, .ref a900), (1, .ref a901), (2, .ref a902), (3, .int x903)]) X.1 X.2.1 dX5_gather_37 hl (by decide) rfl (fun ls hl => ?_)
  have J39 : ∀ (n : Nat) (H : Heap) (locs : List Loc) (ls : Array Slot) (x5 : Int32), (1 ≤ x5.toInt ∧ x5.toInt ≤ 72) → (72 - x5.toInt).toNat < n → TG D cy t ρ A s.heap H locs → lv_has ls 5 [(0, .ref a900), (1, .ref a901), (2, .ref a902), (3, .int x903), (4, .int x5)] → W p l e (rC 5 1 8520) s m args below meth c H locs 1 8520 Q (F0 m 39 ls []) := by
    intro n
    induction n with
    | zero => intro H locs ls x5 bx5 hm39 hG hl; exact absurd hm39 (Nat.not_lt_zero _)
    | succ n ih39 =>
      intro H locs ls x5 bx5 hm39 hG hl
      refine lv_iload X.1 X.2.1 dX5_gather_39 (lv_at hl 4 rfl) ?_
      refine n_bp X dX5_gather_41 (by decide) (by decide) (fun x6 t6 => ?_)
      refine n_icmp_ge (tgt := 97) X dX5_gather_43 (by decide) (fun c7 => ?_) (fun c7 => ?_)
      · exact ret _ _ _ _ hG dX5_gather_97
      · refine lv_aload_n X.1 X.2.1 dX5_gather_46 rfl (lv_at hl 1 rfl) ?_
        refine gf_3_0 X hG h901 q_164 dX5_gather_47 (hN _ _ _ h901) (fun a8 h8 r8 => ?_)
        refine lv_iload X.1 X.2.1 dX5_gather_50 (lv_at hl 4 rfl) ?_
        refine k_cVi X hG (c_X8_hasPlace l D cy t _ hN hR (ty_Wf.sub (S' := []) hF (by decide)) h8 x5) h8 rfl yv_X8_hasPlace q_804 ⟨rfl, rfl⟩ ⟨Nat.le_of_ble_eq_true rfl, Nat.le_of_ble_eq_true rfl⟩ rfl hl.1 rfl (Nat.le_of_ble_eq_true rfl) ⟨Nat.le_refl _, Nat.le_refl _⟩ dX5_gather_52 (fun x10 u11 H locs hG po9 => ?_)
        obtain ⟨eu11, po9⟩ := po9
        rw [eu11] at hG
        have J91 : ∀ (H : Heap) (locs : List Loc) (ls : Array Slot), TG D cy t ρ A s.heap H locs → lv_has ls 5 [(0, .ref a900), (1, .ref a901), (2, .ref a902), (3, .int x903), (4, .int x5)] → W p l e (rC 5 1 8520) s m args below meth c H locs 1 8520 Q (F0 m 91 ls []) := by
          intro H locs ls hG hl
          refine n_inc X (fun z13 => [(4, .int z13), (0, .ref a900), (1, .ref a901), (2, .ref a902), (3, .int x903)]) dX5_gather_91 hl (k := 4) rfl (by decide) (by decide) (by omega) (by omega) (by decide) (fun _ => rfl) (fun x12 ls t12 hl => ?_)
          have hl : lv_has ls 5 [(4, .int x12), (0, .ref a900), (1, .ref a901), (2, .ref a902), (3, .int x903)] := hl
          refine lv_goto (tgt := 39) X.1 X.2.1 dX5_gather_94 (by decide) ?_
          exact ih39 _ _ _ x12 (by omega) (by omega) hG (lv_sub hl [1, 2, 3, 4, 0] rfl)
        refine n_if_eq (tgt := 91) X dX5_gather_55 (by decide) (fun c14 => ?_) (fun c14 => ?_)
        · exact J91 _ _ _  hG (lv_sub hl [0, 1, 2, 3, 4] rfl)
        · refine lv_aload_n X.1 X.2.1 dX5_gather_58 rfl (lv_at hl 1 rfl) ?_
          refine gf_3_0 X hG h901 q_164 dX5_gather_59 (hN _ _ _ h901) (fun a15 h15 r15 => ?_)
          refine gf_8_5 X hG h15 q_76 dX5_gather_62 (hN _ _ _ h15) (fun a16 h16 r16 => ?_)
          refine lv_iload X.1 X.2.1 dX5_gather_65 (lv_at hl 4 rfl) ?_
          refine tg_iald X hG h16 rfl (cI_in (n := 72) (by omega)) dX5_gather_67 (fun x17 r17 => ?_)
          refine n_if_ne (tgt := 91) X dX5_gather_68 (by decide) (fun c18 => ?_) (fun c18 => ?_)
          · exact J91 _ _ _  hG (lv_sub hl [0, 1, 2, 3, 4] rfl)
          · refine lv_aload_n X.1 X.2.1 dX5_gather_71 rfl (lv_at hl 0 rfl) ?_
            refine lv_aload_n X.1 X.2.1 dX5_gather_72 rfl (lv_at hl 1 rfl) ?_
            refine lv_aload_n X.1 X.2.1 dX5_gather_73 rfl (lv_at hl 2 rfl) ?_
            refine lv_iload X.1 X.2.1 dX5_gather_74 (lv_at hl 4 rfl) ?_
            refine n_ic X dX5_gather_76 (by decide) (by decide) (fun x19 t19 => ?_)
            refine lv_iload_n X.1 X.2.1 dX5_gather_77 rfl (lv_at hl 3 rfl) ?_
            refine k_cVv X hG (n_X5_trySuspect l D cy t _ hN hR (ty_Wf.sub (S' := [106, 505, 506, 507, 806, 808, 809, 810, 811, 812, 5000, 6005]) hF (by decide)) h900 h901 h902 x5 (by omega) x19 (by omega) x903 (by omega) hT kT lT hW) h900 rfl yv_X5_trySuspect q_805 ⟨rfl, rfl⟩ ⟨Nat.le_of_ble_eq_true rfl, Nat.le_of_ble_eq_true rfl⟩ rfl hl.1 rfl (Nat.le_of_ble_eq_true rfl) ⟨Nat.le_refl _, Nat.le_refl _⟩ dX5_gather_78 (fun u22 H locs hG po20 => ?_)
            rw [po20] at hG
            refine lv_aload_n X.1 X.2.1 dX5_gather_81 rfl (lv_at hl 0 rfl) ?_
            refine lv_aload_n X.1 X.2.1 dX5_gather_82 rfl (lv_at hl 1 rfl) ?_
            refine lv_aload_n X.1 X.2.1 dX5_gather_83 rfl (lv_at hl 2 rfl) ?_
            refine lv_iload X.1 X.2.1 dX5_gather_84 (lv_at hl 4 rfl) ?_
            refine n_ic X dX5_gather_86 (by decide) (by decide) (fun x23 t23 => ?_)
            refine lv_iload_n X.1 X.2.1 dX5_gather_87 rfl (lv_at hl 3 rfl) ?_
            refine k_cVv X hG (n_X5_trySuspect l D cy t _ hN hR (ty_Wf.sub (S' := [106, 505, 506, 507, 806, 808, 809, 810, 811, 812, 5000, 6005]) hF (by decide)) h900 h901 h902 x5 (by omega) x23 (by omega) x903 (by omega) hT kT lT hW) h900 rfl yv_X5_trySuspect q_805 ⟨rfl, rfl⟩ ⟨Nat.le_of_ble_eq_true rfl, Nat.le_of_ble_eq_true rfl⟩ rfl hl.1 rfl (Nat.le_of_ble_eq_true rfl) ⟨Nat.le_refl _, Nat.le_refl _⟩ dX5_gather_88 (fun u26 H locs hG po24 => ?_)
            rw [po24] at hG
            exact J91 _ _ _  hG (lv_sub hl [0, 1, 2, 3, 4] rfl)
  exact J39 _ _ _ _ x4 (by omega) (Nat.lt_succ_self _) hG (lv_sub hl [1, 2, 3, 4, 0] rfl)
set_option maxHeartbeats 4000000 in
set_option maxRecDepth 100000 in
theorem n_X5_gather (l : Launch) (D : va_G) (cy : Nat → ClassId) (τ : ty_T) {M : md_T} {π : ty_R} (hπ : PO τ π) (hS : ∀ a n, τ a = some (1, n) → n < 2147483648) {a900 a901 a902 : Nat} (h900 : τ a900 = some (0, 5)) (h901 : τ a901 = some (0, 3)) (h902 : τ a902 = some (0, 7)) (x903 : Int32) (zx903 : x903.toInt = 0 ∨ x903.toInt = 1) (hQ : PT π a902) : KG l D cy yX5_gather cX5_gather 5 5 1 8520 τ (pn π (cn M τ)) [.ref a900, .ref a901, .ref a902, .int x903] (GP M π τ) := by
  refine k_metG "EdgeEchoes$Suspects" rfl (by decide +kernel) (Nat.le_of_ble_eq_true rfl) ?_
  intro p e s m args below meth c Q ls A X hN0 hG hl ret
  have hl : lv_has ls 5 [(0, .ref a900), (1, .ref a901), (2, .ref a902), (3, .int x903)] := hl
  have plain : W p l e (rC 5 1 8520) s m args below meth c s.heap [] 0 0 Q (F0 m 21 ls []) := by
    obtain ⟨aT, nT, kT, hG⟩ := tg_pin3 hG (pn_N cn_N) h900
    refine W.widen (k := 1) (n := 8520) (by omega) (by omega) ?_
    exact nat_rest X (pr_N (pn_N cn_N)) (pr_R (pn_R cn_R)) (pr_F (pn_F (cn_F (S := SG)) hπ.1) h900 (by decide)) h900 h901 h902 x903 zx903 (hQ.tf h900) (fun v h => h.2 rfl rfl) kT (hS _ _ kT) (fun H locs pc ls hG hd => ret H locs pc ls (τ, pn π (cn M τ)) (pr_cl hG) GP.rf hd) _ _ _ hG hl
  refine lv_iload_n X.1 X.2.1 dX5_gather_0 rfl (lv_at hl 3 rfl) ?_
  refine n_if_eq (tgt := 21) X dX5_gather_1 (by decide) (fun c1 => ?_) (fun c1 => ?_)
  · exact plain
  · refine lv_aload_n X.1 X.2.1 dX5_gather_4 rfl (lv_at hl 0 rfl) ?_
    refine gf_5_3 X hG h900 q_231 dX5_gather_5 (pn_N cn_N _ _ _ h900) (fun a2 n2 h2 r2 => ?_)
    refine tg_alen X hG h2 rfl dX5_gather_8 ?_
    refine n_if_ne (tgt := 21) X dX5_gather_9 (by decide) (fun c4 => ?_) (fun c4 => ?_)
    · exact plain
    · refine lv_aload_n X.1 X.2.1 dX5_gather_12 rfl (lv_at hl 0 rfl) ?_
      refine n_sp X dX5_gather_13 (by decide) (by decide) (fun x5 t5 => ?_)
      refine tg_newi X hG hN0 q_52 (N := 8520) 1 rfl (by omega) (by omega) (Nat.le_of_ble_eq_true rfl) (Nat.le_of_ble_eq_true rfl) dX5_gather_16 (fun q6 H hq6 hG => ?_)
      have hG := pn_up hq6 hπ hG
      have hπ2 := hπ.up hq6
      have up := tU_ext (t := (1, 8520)) hq6
      refine tg_put X hG (up _ _ h900) (C := RX5) (T := TX5) (N := 8) rfl inB_5 tyX5 tyX5_ok nmX5 3 (by decide) rfl q_231 rfl rfl rfl rfl (ty_i3 tU_at) dX5_gather_18 (pn π (cn M (tU τ q6 (1, 8520)))) (fun _ _ _ _ h => h) (fun _ _ _ h => h) ⟨⟨(fun z => by cases z), fun t x _ z => by cases z⟩, hπ2.2.1 _ _ (up _ _ h900)⟩ (fun H locs hG => ?_)
      obtain ⟨aT, nT, kT, hG⟩ := tg_pin3 hG (pn_N cn_N) (up _ _ h900)
      have lT : nT < 2147483648 := by
        by_cases z : aT = q6
        · rw [z, tU_at] at kT
          cases kT
          decide
        · rw [tU_ne z] at kT
          exact hS _ _ kT
      exact nat_rest X (pr_N (pn_N cn_N)) (pr_R (pn_R cn_R)) (pr_F (pn_F (cn_F (S := SG)) hπ2.1) (up _ _ h900) (by decide)) (up _ _ h900) (up _ _ h901) (up _ _ h902) x903 zx903 (hQ.tf (up _ _ h900)) (fun v h => h.2 rfl rfl) kT lT (fun H locs pc ls hG hd => ret H locs pc ls (tU τ q6 (1, 8520), pn π (cn M (tU τ q6 (1, 8520)))) (pr_cl hG) (GP.up hq6) hd) _ _ _ hG hl
set_option maxHeartbeats 4000000 in
set_option maxRecDepth 100000 in
theorem n_X9_look (l : Launch) (D : va_G) (cy : Nat → ClassId) (τ : ty_T) {M : md_T} {π : ty_R} (hπ : PO τ π) (hS : ∀ a n, τ a = some (1, n) → n < 2147483648) {a900 : Nat} (hQ : ∀ t, π a900 2 (.ref t) → PT π t) (h900 : τ a900 = some (0, 9)) : KH l D cy yX9_look cX9_look 1 6 1 8520 τ (pn π (cn M τ)) [.ref a900] (fun _ u => GP M π τ u) := by
  refine k_metH "EdgeEchoes" rfl (by decide +kernel) (Nat.le_of_ble_eq_true rfl) ?_
  intro p e s m args below meth c Q ls A X hN0 hG hl ret
  have hl : lv_has ls 1 [(0, .ref a900)] := hl
  refine lv_aload_n X.1 X.2.1 dX9_look_0 rfl (lv_at hl 0 rfl) ?_
  refine gf_9_4 X hG h900 q_299 dX9_look_1 (pn_N cn_N _ _ _ h900) (fun a1 h1 r1 => ?_)
  refine lv_aload_n X.1 X.2.1 dX9_look_4 rfl (lv_at hl 0 rfl) ?_
  refine gf_9_1 X hG h900 q_296 dX9_look_5 (pn_N cn_N _ _ _ h900) (fun a2 h2 r2 => ?_)
  refine lv_aload_n X.1 X.2.1 dX9_look_8 rfl (lv_at hl 0 rfl) ?_
  refine gf_9_2 X hG h900 q_297 dX9_look_9 (pn_N cn_N _ _ _ h900) (fun a3 h3 r3 => ?_)
  refine n_ic X dX9_look_12 (by decide) (by decide) (fun x4 t4 => ?_)
  refine k_cGv X hG hN0 (n_X5_gather l D cy τ hπ hS h1 h2 h3 x4 (by omega) (hQ _ r3.2)) h1 rfl yv_X5_gather q_800 ⟨Nat.le_of_ble_eq_true rfl, Nat.le_of_ble_eq_true rfl⟩ rfl hl.1 rfl (Nat.le_of_ble_eq_true rfl) ⟨Nat.le_of_ble_eq_true rfl, Nat.le_of_ble_eq_true rfl⟩ dX9_look_13 (fun u H locs hG hu => ?_)
  obtain ⟨t, r⟩ := u
  have hr : r = pn π (cn M t) := hu.2.2
  subst hr
  have hG : TG D cy t (pn π (cn M t)) A s.heap H locs := hG
  have up : ∀ a x, τ a = some x → t a = some x := hu.1
  refine lv_aload_n X.1 X.2.1 dX9_look_16 rfl (lv_at hl 0 rfl) ?_
  refine gf_9_4 X hG (up _ _ h900) q_299 dX9_look_17 (pn_N cn_N _ _ _ (up _ _ h900)) (fun a5 h5 r5 => ?_)
  obtain ⟨aT, nT, kT, hG⟩ := tg_pin3 hG (pn_N cn_N) h5
  refine k_cVi X hG (c_X5_bestLook l D cy t _ (pr_N (pn_N cn_N)) (pr_R (pn_R cn_R)) (pr_F (pn_F (cn_F (S := [])) (fun _ _ _ _ _ h => absurd h List.not_mem_nil)) h5 (by decide)) h5 (fun v h => h.2 rfl rfl) kT (hu.sz hS _ _ kT)) h5 rfl yv_X5_bestLook q_829 ⟨rfl, rfl⟩ ⟨Nat.le_of_ble_eq_true rfl, Nat.le_of_ble_eq_true rfl⟩ rfl hl.1 rfl (Nat.le_of_ble_eq_true rfl) ⟨Nat.le_of_ble_eq_true rfl, Nat.le_of_ble_eq_true rfl⟩ dX9_look_20 (fun x6 u6 H locs hG po => ?_)
  obtain ⟨eu, po⟩ := po
  rw [eu] at hG
  exact ret _ _ _ _ x6 (t, pn π (cn M t)) (pr_cl hG) hu dX9_look_23
set_option maxHeartbeats 4000000 in
set_option maxRecDepth 100000 in
theorem n_X9_couldBe (l : Launch) (D : va_G) (cy : Nat → ClassId) (τ : ty_T) {M : md_T} {π : ty_R} (hπ : PO τ π) (hS : ∀ a n, τ a = some (1, n) → n < 2147483648) {a900 : Nat} (hQ : ∀ t, π a900 2 (.ref t) → PT π t) (h900 : τ a900 = some (0, 9)) (x901 : Int32) : KH l D cy yX9_couldBe cX9_couldBe 2 6 1 8520 τ (pn π (cn M τ)) [.ref a900, .int x901] (fun _ u => GP M π τ u) := by
  refine k_metH "EdgeEchoes" rfl (by decide +kernel) (Nat.le_of_ble_eq_true rfl) ?_
  intro p e s m args below meth c Q ls A X hN0 hG hl ret
  have hl : lv_has ls 2 [(0, .ref a900), (1, .int x901)] := hl
  have out : W p l e (rC 6 1 8520) s m args below meth c s.heap [] 0 0 Q (F0 m 9 ls []) := by
    refine n_ldc X q_327 (n := -1000000002) (by decide +kernel) dX9_couldBe_9 (fun x1 t1 => ?_)
    refine W.widen (k := 1) (n := 8520) (by omega) (by omega) ?_
    exact ret _ _ _ _ x1 (τ, pn π (cn M τ)) hG GP.rf dX9_couldBe_11
  refine lv_iload_n X.1 X.2.1 dX9_couldBe_0 rfl (lv_at hl 1 rfl) ?_
  refine n_if_lt (tgt := 9) X dX9_couldBe_1 (by decide) (fun c1 => ?_) (fun c1 => ?_)
  · exact out
  · refine lv_iload_n X.1 X.2.1 dX9_couldBe_4 rfl (lv_at hl 1 rfl) ?_
    refine n_ic X dX9_couldBe_5 (by decide) (by decide) (fun x2 t2 => ?_)
    refine n_icmp_le (tgt := 12) X dX9_couldBe_6 (by decide) (fun c2 => ?_) (fun c2 => ?_)
    · refine lv_aload_n X.1 X.2.1 dX9_couldBe_12 rfl (lv_at hl 0 rfl) ?_
      refine gf_9_4 X hG h900 q_299 dX9_couldBe_13 (pn_N cn_N _ _ _ h900) (fun a1 h1 r1 => ?_)
      refine lv_aload_n X.1 X.2.1 dX9_couldBe_16 rfl (lv_at hl 0 rfl) ?_
      refine gf_9_1 X hG h900 q_296 dX9_couldBe_17 (pn_N cn_N _ _ _ h900) (fun a2 h2 r2 => ?_)
      refine lv_aload_n X.1 X.2.1 dX9_couldBe_20 rfl (lv_at hl 0 rfl) ?_
      refine gf_9_2 X hG h900 q_297 dX9_couldBe_21 (pn_N cn_N _ _ _ h900) (fun a3 h3 r3 => ?_)
      refine n_ic X dX9_couldBe_24 (by decide) (by decide) (fun x4 t4 => ?_)
      refine k_cGv X hG hN0 (n_X5_gather l D cy τ hπ hS h1 h2 h3 x4 (by omega) (hQ _ r3.2)) h1 rfl yv_X5_gather q_800 ⟨Nat.le_of_ble_eq_true rfl, Nat.le_of_ble_eq_true rfl⟩ rfl hl.1 rfl (Nat.le_of_ble_eq_true rfl) ⟨Nat.le_of_ble_eq_true rfl, Nat.le_of_ble_eq_true rfl⟩ dX9_couldBe_25 (fun u H locs hG hu => ?_)
      obtain ⟨t, r⟩ := u
      have hr : r = pn π (cn M t) := hu.2.2
      subst hr
      have hG : TG D cy t (pn π (cn M t)) A s.heap H locs := hG
      have up : ∀ a x, τ a = some x → t a = some x := hu.1
      refine lv_iload_n X.1 X.2.1 dX9_couldBe_28 rfl (lv_at hl 1 rfl) ?_
      rcases (show x901.toInt = 0 ∨ x901.toInt = 1 ∨ x901.toInt = 2 by omega) with cz | cz | cz
      · refine lv_lookup (tgt := 56) (off := 27) X.1 X.2.1 dX9_couldBe_29 (by decide) (by rw [cz]; rfl) (by decide) ?_
        refine lv_aload_n X.1 X.2.1 dX9_couldBe_56 rfl (lv_at hl 0 rfl) ?_
        refine gf_9_4 X hG (up _ _ h900) q_299 dX9_couldBe_57 (pn_N cn_N _ _ _ (up _ _ h900)) (fun a5 h5 r5 => ?_)
        refine gf_5_5 X hG h5 q_235 dX9_couldBe_60 (fun x6 r6 => ?_)
        exact ret _ _ _ _ x6 (t, pn π (cn M t)) hG hu dX9_couldBe_63
      · refine lv_lookup (tgt := 64) (off := 35) X.1 X.2.1 dX9_couldBe_29 (by decide) (by rw [cz]; rfl) (by decide) ?_
        refine lv_aload_n X.1 X.2.1 dX9_couldBe_64 rfl (lv_at hl 0 rfl) ?_
        refine gf_9_4 X hG (up _ _ h900) q_299 dX9_couldBe_65 (pn_N cn_N _ _ _ (up _ _ h900)) (fun a5 h5 r5 => ?_)
        refine gf_5_6 X hG h5 q_237 dX9_couldBe_68 (fun x6 r6 => ?_)
        exact ret _ _ _ _ x6 (t, pn π (cn M t)) hG hu dX9_couldBe_71
      · refine lv_lookup (tgt := 72) (off := 43) X.1 X.2.1 dX9_couldBe_29 (by decide) (by rw [cz]; rfl) (by decide) ?_
        refine lv_aload_n X.1 X.2.1 dX9_couldBe_72 rfl (lv_at hl 0 rfl) ?_
        refine gf_9_4 X hG (up _ _ h900) q_299 dX9_couldBe_73 (pn_N cn_N _ _ _ (up _ _ h900)) (fun a5 h5 r5 => ?_)
        refine gf_5_7 X hG h5 q_239 dX9_couldBe_76 (fun x6 r6 => ?_)
        exact ret _ _ _ _ x6 (t, pn π (cn M t)) hG hu dX9_couldBe_79
    · exact out
