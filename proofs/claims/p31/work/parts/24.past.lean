set_option maxHeartbeats 4000000 in
set_option maxRecDepth 100000 in
theorem c_J9_floorMod_7cf53 (l : Launch) (D : va_G) (cy : Nat → ClassId) (τ : ty_T) (ρ : ty_R) {M : md_T} (hN : ty_N τ ρ) (hR : ty_Rg M τ ρ) (hF : ty_Wf M τ ρ []) (x900 : Int32) (zx900 : -12 ≤ x900.toInt ∧ x900.toInt ≤ 11) (x901 : Int32) (zx901 : 12 ≤ x901.toInt ∧ x901.toInt ≤ 12) : KI l D cy yJ9_floorMod_7cf53 cJ9_floorMod_7cf53 3 .int (rL 0) τ ρ [.int x900, .int x901] (fun r u => u = ρ ∧ (0 ≤ r.toInt ∧ r.toInt ≤ 11) ∧ (0 ≤ x900.toInt → r.toInt = x900.toInt) ∧ (x900.toInt < 0 → r.toInt = x900.toInt + 12)) := by
  refine k_metI "java/lang/Math" rfl (by decide +kernel) (Nat.le_of_ble_eq_true rfl) (fun _ _ _ => rfl) ?_
  intro p e s m args below meth c Q ls X hG hl ret
  have hl : lv_has ls 3 [(0, .int x900), (1, .int x901)] := hl
  refine lv_iload_n X.1 X.2.1 dJ9_floorMod_7cf53_0 rfl (lv_at hl 0 rfl) ?_
  refine lv_iload_n X.1 X.2.1 dJ9_floorMod_7cf53_1 rfl (lv_at hl 1 rfl) ?_
  refine fm_rem X dJ9_floorMod_7cf53_2 (by omega) (by omega) (fun x1 t1 => ?_)
  refine lv_istore_n (lv' := [(2, .int x1), (0, .int x900), (1, .int x901)]) X.1 X.2.1 dJ9_floorMod_7cf53_3 rfl hl (by decide) rfl (fun ls hl => ?_)
  refine lv_iload_n X.1 X.2.1 dJ9_floorMod_7cf53_4 rfl (lv_at hl 1 rfl) ?_
  refine lv_iload_n X.1 X.2.1 dJ9_floorMod_7cf53_5 rfl (lv_at hl 2 rfl) ?_
  refine fm_xor X dJ9_floorMod_7cf53_6 (by omega) (by omega) (fun x2 t2 => ?_)
  refine n_if_ge (tgt := 18) X dJ9_floorMod_7cf53_7 (by decide) (fun c3 => ?_) (fun c3 => ?_)
  · refine lv_iload_n X.1 X.2.1 dJ9_floorMod_7cf53_18 rfl (lv_at hl 0 rfl) ?_
    exact ret _ _ _ _ x1 _ hG ⟨rfl, by omega⟩ dJ9_floorMod_7cf53_19
  · refine lv_iload_n X.1 X.2.1 dJ9_floorMod_7cf53_10 rfl (lv_at hl 0 rfl) ?_
    refine n_if_eq (tgt := 18) X dJ9_floorMod_7cf53_11 (by decide) (fun c4 => ?_) (fun c4 => ?_)
    · refine lv_iload_n X.1 X.2.1 dJ9_floorMod_7cf53_18 rfl (lv_at hl 0 rfl) ?_
      exact ret _ _ _ _ x1 _ hG ⟨rfl, by omega⟩ dJ9_floorMod_7cf53_19
    · refine lv_iload_n X.1 X.2.1 dJ9_floorMod_7cf53_14 rfl (lv_at hl 0 rfl) ?_
      refine lv_iload_n X.1 X.2.1 dJ9_floorMod_7cf53_15 rfl (lv_at hl 2 rfl) ?_
      refine n_add X dJ9_floorMod_7cf53_16 (by omega) (by omega) (fun x5 t5 => ?_)
      exact ret _ _ _ _ x5 _ hG ⟨rfl, by omega⟩ dJ9_floorMod_7cf53_17
set_option maxHeartbeats 4000000 in
set_option maxRecDepth 100000 in
theorem c_X4_remember (l : Launch) (D : va_G) (cy : Nat → ClassId) (τ : ty_T) (ρ : ty_R) {M : md_T} (hN : ty_N τ ρ) (hR : ty_Rg M τ ρ) (hF : ty_Wf M τ ρ [106, 302, 303, 401, 402, 806, 807, 808, 809, 810, 811, 812, 5000, 6005]) {a900 : Nat} (h900 : τ a900 = some (0, 4)) {a901 : Nat} (h901 : τ a901 = some (0, 3)) : KV l D cy yX4_remember cX4_remember 2 (rL 3) τ ρ [.ref a900, .ref a901] (fun w => w = ρ) := by
  refine k_metV "EdgeEchoes$Past" rfl (by decide +kernel) (Nat.le_of_ble_eq_true rfl) ?_
  intro p e s m args below meth c Q ls X hG hl ret
  have hl : lv_has ls 2 [(0, .ref a900), (1, .ref a901)] := hl
  refine lv_aload_n X.1 X.2.1 dX4_remember_0 rfl (lv_at hl 0 rfl) ?_
  refine gf_4_2 X hG h900 q_214 dX4_remember_1 (fun x1 r1 => ?_)
  have b1 := (hR _ _ _ _ h900 r1) _ _ rfl
  refine n_if_lt (tgt := 16) X dX4_remember_4 (by decide) (fun c2 => ?_) (fun c2 => ?_)
  · exact absurd c2 (by omega)
  · refine lv_aload_n X.1 X.2.1 dX4_remember_7 rfl (lv_at hl 0 rfl) ?_
    refine gf_4_2 X hG h900 q_214 dX4_remember_8 (fun x3 r3 => ?_)
    have b3 := (hR _ _ _ _ h900 r3) _ _ rfl
    refine n_bp X dX4_remember_11 (by decide) (by decide) (fun x4 t4 => ?_)
    refine n_icmp_lt (tgt := 21) X dX4_remember_13 (by decide) (fun c5 => ?_) (fun c5 => ?_)
    · refine lv_aload_n X.1 X.2.1 dX4_remember_21 rfl (lv_at hl 0 rfl) ?_
      refine gf_4_0 X hG h900 q_211 dX4_remember_22 (hN _ _ _ h900) (fun a6 h6 r6 => ?_)
      refine lv_aload_n X.1 X.2.1 dX4_remember_25 rfl (lv_at hl 0 rfl) ?_
      refine gf_4_2 X hG h900 q_214 dX4_remember_26 (fun x7 r7 => ?_)
      have b7 := (hR _ _ _ _ h900 r7) _ _ rfl
      refine tg_aald X hG h6 (Or.inl rfl) (cI_in (n := 12) (by omega)) dX4_remember_29 (hN _ _ _ h6) (fun a8 h8 r8 => ?_)
      have h8 : τ a8 = some (0, 3) := h8
      refine lv_aload_n X.1 X.2.1 dX4_remember_30 rfl (lv_at hl 1 rfl) ?_
      refine k_cVv X hG (c_X3_copyFrom l D cy τ _ hN hR (ty_Wf.sub (S' := [106, 302, 303, 806, 807, 808, 809, 810, 811, 812, 5000, 6005]) hF (by decide)) h8 h901) h8 rfl yv_X3_copyFrom q_672 ⟨rfl, rfl⟩ ⟨Nat.le_of_ble_eq_true rfl, Nat.le_of_ble_eq_true rfl⟩ rfl hl.1 rfl (Nat.le_of_ble_eq_true rfl) ⟨Nat.zero_le _, Nat.zero_le _⟩ dX4_remember_31 (fun u11 H locs hG po9 => ?_)
      rw [po9] at hG
      refine lv_aload_n X.1 X.2.1 dX4_remember_34 rfl (lv_at hl 0 rfl) ?_
      refine lv_aload_n X.1 X.2.1 dX4_remember_35 rfl (lv_at hl 0 rfl) ?_
      refine gf_4_2 X hG h900 q_214 dX4_remember_36 (fun x12 r12 => ?_)
      have b12 := (hR _ _ _ _ h900 r12) _ _ rfl
      refine n_ic X dX4_remember_39 (by decide) (by decide) (fun x13 t13 => ?_)
      refine n_add X dX4_remember_40 (by omega) (by omega) (fun x14 t14 => ?_)
      refine n_bp X dX4_remember_41 (by decide) (by decide) (fun x15 t15 => ?_)
      refine n_rem X dX4_remember_43 (by omega) (by omega) (fun x16 t16 => ?_)
      refine pf_4_2 X hG h900 q_214 dX4_remember_44 (hF _ _ _ _ h900 (ty_in (n := 402) rfl) (ty_ryes rfl (by omega))) (fun H locs hG => ?_)
      refine lv_aload_n X.1 X.2.1 dX4_remember_47 rfl (lv_at hl 0 rfl) ?_
      refine n_bp X dX4_remember_48 (by decide) (by decide) (fun x17 t17 => ?_)
      refine lv_aload_n X.1 X.2.1 dX4_remember_50 rfl (lv_at hl 0 rfl) ?_
      refine gf_4_1 X hG h900 q_212 dX4_remember_51 (fun x18 r18 => ?_)
      have g18 := cI_rng x18
      refine n_ic X dX4_remember_54 (by decide) (by decide) (fun x19 t19 => ?_)
      refine lv_iadd X.1 X.2.1 dX4_remember_55 ?_
      refine n_any (fun x20 => ?_)
      refine n_min X hl.1 q_673 q_414 q_15 q_415 (Nat.le_of_ble_eq_true rfl) (Nat.le_of_ble_eq_true rfl) ⟨Nat.zero_le _, Nat.zero_le _⟩ dX4_remember_56 (fun x21 t21 => ?_)
      refine pf_4_1 X hG h900 q_212 dX4_remember_59 (hF _ _ _ _ h900 (ty_in (n := 401) rfl) (ty_rno rfl)) (fun H locs hG => ?_)
      exact ret _ _ _ _ _ hG rfl dX4_remember_62
    · exact absurd c5 (by omega)
set_option maxHeartbeats 4000000 in
set_option maxRecDepth 100000 in
theorem c_X4_bringBack (l : Launch) (D : va_G) (cy : Nat → ClassId) (τ : ty_T) (ρ : ty_R) {M : md_T} (hN : ty_N τ ρ) (hR : ty_Rg M τ ρ) (hF : ty_Wf M τ ρ [106, 302, 303, 401, 402, 806, 807, 808, 809, 810, 811, 812, 5000, 6005]) {a900 : Nat} (h900 : τ a900 = some (0, 4)) {a901 : Nat} (h901 : τ a901 = some (0, 3)) (x902 : Int32) : KV l D cy yX4_bringBack cX4_bringBack 3 (rL 3) τ ρ [.ref a900, .ref a901, .int x902] (fun w => w = ρ) := by
  refine k_metV "EdgeEchoes$Past" rfl (by decide +kernel) (Nat.le_of_ble_eq_true rfl) ?_
  intro p e s m args below meth c Q ls X hG hl ret
  have hl : lv_has ls 3 [(0, .ref a900), (1, .ref a901), (2, .int x902)] := hl
  have g902 := cI_rng x902
  refine lv_iload_n X.1 X.2.1 dX4_bringBack_0 rfl (lv_at hl 2 rfl) ?_
  refine n_ic X dX4_bringBack_1 (by decide) (by decide) (fun x1 t1 => ?_)
  refine n_icmp_lt (tgt := 19) X dX4_bringBack_2 (by decide) (fun c2 => ?_) (fun c2 => ?_)
  · exact ret _ _ _ _ _ hG rfl dX4_bringBack_19
  · refine lv_iload_n X.1 X.2.1 dX4_bringBack_5 rfl (lv_at hl 2 rfl) ?_
    refine lv_aload_n X.1 X.2.1 dX4_bringBack_6 rfl (lv_at hl 0 rfl) ?_
    refine gf_4_1 X hG h900 q_212 dX4_bringBack_7 (fun x3 r3 => ?_)
    have g3 := cI_rng x3
    refine n_icmp_gt (tgt := 19) X dX4_bringBack_10 (by decide) (fun c4 => ?_) (fun c4 => ?_)
    · exact ret _ _ _ _ _ hG rfl dX4_bringBack_19
    · refine lv_iload_n X.1 X.2.1 dX4_bringBack_13 rfl (lv_at hl 2 rfl) ?_
      refine n_bp X dX4_bringBack_14 (by decide) (by decide) (fun x5 t5 => ?_)
      refine n_icmp_le (tgt := 20) X dX4_bringBack_16 (by decide) (fun c6 => ?_) (fun c6 => ?_)
      · refine lv_aload_n X.1 X.2.1 dX4_bringBack_20 rfl (lv_at hl 0 rfl) ?_
        refine lv_aload_n X.1 X.2.1 dX4_bringBack_21 rfl (lv_at hl 0 rfl) ?_
        refine gf_4_2 X hG h900 q_214 dX4_bringBack_22 (fun x7 r7 => ?_)
        have b7 := (hR _ _ _ _ h900 r7) _ _ rfl
        refine lv_iload_n X.1 X.2.1 dX4_bringBack_25 rfl (lv_at hl 2 rfl) ?_
        refine n_sub X dX4_bringBack_26 (by omega) (by omega) (fun x8 t8 => ?_)
        refine n_bp X dX4_bringBack_27 (by decide) (by decide) (fun x9 t9 => ?_)
        refine k_cSi X hG (c_J9_floorMod_7cf53 l D cy τ _ hN hR (ty_Wf.sub (S' := []) hF (by decide)) x8 (by omega) x9 (by omega)) ys_J9_floorMod_7cf53 q_742 ⟨rfl, rfl⟩ ⟨Nat.le_of_ble_eq_true rfl, Nat.le_of_ble_eq_true rfl⟩ rfl hl.1 rfl (Nat.le_of_ble_eq_true rfl) ⟨Nat.zero_le _, Nat.zero_le _⟩ dX4_bringBack_29 (fun x11 u12 H locs hG po10 => ?_)
        obtain ⟨eu12, po10⟩ := po10
        rw [eu12] at hG
        refine pf_4_2 X hG h900 q_214 dX4_bringBack_32 (hF _ _ _ _ h900 (ty_in (n := 402) rfl) (ty_ryes rfl (by omega))) (fun H locs hG => ?_)
        refine lv_aload_n X.1 X.2.1 dX4_bringBack_35 rfl (lv_at hl 1 rfl) ?_
        refine lv_aload_n X.1 X.2.1 dX4_bringBack_36 rfl (lv_at hl 0 rfl) ?_
        refine gf_4_0 X hG h900 q_211 dX4_bringBack_37 (hN _ _ _ h900) (fun a13 h13 r13 => ?_)
        refine lv_aload_n X.1 X.2.1 dX4_bringBack_40 rfl (lv_at hl 0 rfl) ?_
        refine gf_4_2 X hG h900 q_214 dX4_bringBack_41 (fun x14 r14 => ?_)
        have b14 := (hR _ _ _ _ h900 r14) _ _ rfl
        refine tg_aald X hG h13 (Or.inl rfl) (cI_in (n := 12) (by omega)) dX4_bringBack_44 (hN _ _ _ h13) (fun a15 h15 r15 => ?_)
        have h15 : τ a15 = some (0, 3) := h15
        refine k_cVv X hG (c_X3_copyFrom l D cy τ _ hN hR (ty_Wf.sub (S' := [106, 302, 303, 806, 807, 808, 809, 810, 811, 812, 5000, 6005]) hF (by decide)) h901 h15) h901 rfl yv_X3_copyFrom q_672 ⟨rfl, rfl⟩ ⟨Nat.le_of_ble_eq_true rfl, Nat.le_of_ble_eq_true rfl⟩ rfl hl.1 rfl (Nat.le_of_ble_eq_true rfl) ⟨Nat.zero_le _, Nat.zero_le _⟩ dX4_bringBack_45 (fun u18 H locs hG po16 => ?_)
        rw [po16] at hG
        refine lv_aload_n X.1 X.2.1 dX4_bringBack_48 rfl (lv_at hl 0 rfl) ?_
        refine lv_dup X.1 X.2.1 dX4_bringBack_49 rfl ?_
        refine gf_4_1 X hG h900 q_212 dX4_bringBack_50 (fun x19 r19 => ?_)
        have g19 := cI_rng x19
        refine lv_iload_n X.1 X.2.1 dX4_bringBack_53 rfl (lv_at hl 2 rfl) ?_
        refine lv_isub X.1 X.2.1 dX4_bringBack_54 ?_
        refine n_any (fun x20 => ?_)
        refine pf_4_1 X hG h900 q_212 dX4_bringBack_55 (hF _ _ _ _ h900 (ty_in (n := 401) rfl) (ty_rno rfl)) (fun H locs hG => ?_)
        exact ret _ _ _ _ _ hG rfl dX4_bringBack_58
      · exact ret _ _ _ _ _ hG rfl dX4_bringBack_19
set_option maxHeartbeats 4000000 in
set_option maxRecDepth 100000 in
theorem c_X0_append (l : Launch) (D : va_G) (cy : Nat → ClassId) (τ : ty_T) (ρ : ty_R) {M : md_T} (hN : ty_N τ ρ) (hR : ty_Rg M τ ρ) (hF : ty_Wf M τ ρ [2, 5000, 6006]) {a900 : Nat} (h900 : τ a900 = some (0, 0)) (x901 : Int32) (zx901 : 0 ≤ x901.toInt ∧ x901.toInt ≤ 5) (x902 : Int32) : KI l D cy yX0_append cX0_append 3 .boolean (rL 0) τ ρ [.ref a900, .int x901, .int x902] (fun r u => u = ρ ∧ (r.toInt = 0 ∨ r.toInt = 1)) := by
  refine k_metI "EdgeEchoes$Book" rfl (by decide +kernel) (Nat.le_of_ble_eq_true rfl) (fun r u h => (cI_nar (cI_01 h.2)).1) ?_
  intro p e s m args below meth c Q ls X hG hl ret
  have hl : lv_has ls 3 [(0, .ref a900), (1, .int x901), (2, .int x902)] := hl
  have g902 := cI_rng x902
  obtain ⟨x1, r1, hG⟩ := tg_pin hG h900 2 rfl
  have g1 := cI_rng x1
  refine lv_aload_n X.1 X.2.1 dX0_append_0 rfl (lv_at hl 0 rfl) ?_
  refine gf_0_2 X hG h900 q_266 dX0_append_1 (fun x2 r2 => ?_)
  have e2 := exs_rd r2 (y := x1) rfl
  subst e2
  refine n_if_lt (tgt := 16) X dX0_append_4 (by decide) (fun c3 => ?_) (fun c3 => ?_)
  · refine n_ic X dX0_append_16 (by decide) (by decide) (fun x4 t4 => ?_)
    exact ret _ _ _ _ x4 _ (exs_cl hG) ⟨rfl, by omega⟩ dX0_append_17
  · refine lv_aload_n X.1 X.2.1 dX0_append_7 rfl (lv_at hl 0 rfl) ?_
    refine gf_0_2 X hG h900 q_266 dX0_append_8 (fun x5 r5 => ?_)
    have e5 := exs_rd r5 (y := x1) rfl
    subst e5
    refine n_bp X dX0_append_11 (by decide) (by decide) (fun x6 t6 => ?_)
    refine n_icmp_lt (tgt := 18) X dX0_append_13 (by decide) (fun c7 => ?_) (fun c7 => ?_)
    · refine lv_aload_n X.1 X.2.1 dX0_append_18 rfl (lv_at hl 0 rfl) ?_
      refine gf_0_0 X hG h900 q_264 dX0_append_19 ((exs_N hN) _ _ _ h900) (fun a8 h8 r8 => ?_)
      refine lv_aload_n X.1 X.2.1 dX0_append_22 rfl (lv_at hl 0 rfl) ?_
      refine gf_0_2 X hG h900 q_266 dX0_append_23 (fun x9 r9 => ?_)
      have e9 := exs_rd r9 (y := x1) rfl
      subst e9
      refine lv_iload_n X.1 X.2.1 dX0_append_26 rfl (lv_at hl 1 rfl) ?_
      refine tg_iasf X hG h8 rfl (cI_in (n := 20) (by omega)) dX0_append_27 ((exs_F1 (ty_Wf.sub (S' := [6006]) hF (by decide)) h900 (by decide)) _ _ _ _ h8 (ty_in (n := 6006) rfl) (ty_ryes rfl (by omega))) (fun H locs hG => ?_)
      refine lv_aload_n X.1 X.2.1 dX0_append_28 rfl (lv_at hl 0 rfl) ?_
      refine gf_0_1 X hG h900 q_265 dX0_append_29 ((exs_N hN) _ _ _ h900) (fun a10 h10 r10 => ?_)
      refine lv_aload_n X.1 X.2.1 dX0_append_32 rfl (lv_at hl 0 rfl) ?_
      refine gf_0_2 X hG h900 q_266 dX0_append_33 (fun x11 r11 => ?_)
      have e11 := exs_rd r11 (y := x1) rfl
      subst e11
      refine lv_iload_n X.1 X.2.1 dX0_append_36 rfl (lv_at hl 2 rfl) ?_
      refine tg_iasf X hG h10 rfl (cI_in (n := 20) (by omega)) dX0_append_37 ((exs_F1 (ty_Wf.sub (S' := [5000]) hF (by decide)) h900 (by decide)) _ _ _ _ h10 (ty_in (n := 5000) rfl) (ty_rno rfl)) (fun H locs hG => ?_)
      refine lv_aload_n X.1 X.2.1 dX0_append_38 rfl (lv_at hl 0 rfl) ?_
      refine lv_dup X.1 X.2.1 dX0_append_39 rfl ?_
      refine gf_0_2 X hG h900 q_266 dX0_append_40 (fun x12 r12 => ?_)
      have e12 := exs_rd r12 (y := x1) rfl
      subst e12
      refine n_ic X dX0_append_43 (by decide) (by decide) (fun x13 t13 => ?_)
      refine n_add X dX0_append_44 (by omega) (by omega) (fun x14 t14 => ?_)
      refine pg_0_2 X hG h900 q_266 dX0_append_45 (exs ρ a900 (P1 2 x14)) exs_off (exs_oth exs_P1) (exs_new (hF _ _ _ _ h900 (ty_in (n := 2) rfl) (ty_rno rfl)) rfl) (fun H locs hG => ?_)
      refine n_ic X dX0_append_48 (by decide) (by decide) (fun x15 t15 => ?_)
      exact ret _ _ _ _ x15 _ (exs_cl hG) ⟨rfl, by omega⟩ dX0_append_49
    · refine n_ic X dX0_append_16 (by decide) (by decide) (fun x16 t16 => ?_)
      exact ret _ _ _ _ x16 _ (exs_cl hG) ⟨rfl, by omega⟩ dX0_append_17
set_option maxHeartbeats 4000000 in
set_option maxRecDepth 100000 in
theorem c_X0_firstWrong (l : Launch) (D : va_G) (cy : Nat → ClassId) (τ : ty_T) (ρ : ty_R) {M : md_T} (hN : ty_N τ ρ) (hR : ty_Rg M τ ρ) (hF : ty_Wf M τ ρ []) {a900 : Nat} (h900 : τ a900 = some (0, 0)) {a901 : Nat} (h901 : τ a901 = some (0, 1)) : KI l D cy yX0_firstWrong cX0_firstWrong 3 .int (rL 1) τ ρ [.ref a900, .ref a901] (fun r u => u = ρ ∧ True) := by
  refine k_metI "EdgeEchoes$Book" rfl (by decide +kernel) (Nat.le_of_ble_eq_true rfl) (fun _ _ _ => rfl) ?_
  intro p e s m args below meth c Q ls X hG hl ret
  have hl : lv_has ls 3 [(0, .ref a900), (1, .ref a901)] := hl
  refine n_ic X dX0_firstWrong_0 (by decide) (by decide) (fun x1 t1 => ?_)
  refine lv_istore_n (lv' := [(2, .int x1), (0, .ref a900), (1, .ref a901)]) X.1 X.2.1 dX0_firstWrong_1 rfl hl (by decide) rfl (fun ls hl => ?_)
  have J2 : ∀ (n : Nat) (H : Heap) (locs : List Loc) (ls : Array Slot) (x2 : Int32), (0 ≤ x2.toInt ∧ x2.toInt ≤ 20) → (20 - x2.toInt).toNat < n → TG D cy τ ρ (ty_d τ) s.heap H locs → lv_has ls 3 [(0, .ref a900), (1, .ref a901), (2, .int x2)] → W p l e (rL 1) s m args below meth c H locs 0 0 Q (F0 m 2 ls []) := by
    intro n
    induction n with
    | zero => intro H locs ls x2 bx2 hm2 hG hl; exact absurd hm2 (Nat.not_lt_zero _)
    | succ n ih2 =>
      intro H locs ls x2 bx2 hm2 hG hl
      refine lv_iload_n X.1 X.2.1 dX0_firstWrong_2 rfl (lv_at hl 2 rfl) ?_
      refine lv_aload_n X.1 X.2.1 dX0_firstWrong_3 rfl (lv_at hl 0 rfl) ?_
      refine gf_0_2 X hG h900 q_266 dX0_firstWrong_4 (fun x3 r3 => ?_)
      have g3 := cI_rng x3
      refine n_icmp_ge (tgt := 57) X dX0_firstWrong_7 (by decide) (fun c4 => ?_) (fun c4 => ?_)
      · refine n_ic X dX0_firstWrong_57 (by decide) (by decide) (fun x5 t5 => ?_)
        exact ret _ _ _ _ x5 _ hG ⟨rfl, trivial⟩ dX0_firstWrong_58
      · refine lv_iload_n X.1 X.2.1 dX0_firstWrong_10 rfl (lv_at hl 2 rfl) ?_
        refine n_bp X dX0_firstWrong_11 (by decide) (by decide) (fun x6 t6 => ?_)
        refine n_icmp_ge (tgt := 57) X dX0_firstWrong_13 (by decide) (fun c7 => ?_) (fun c7 => ?_)
        · refine n_ic X dX0_firstWrong_57 (by decide) (by decide) (fun x8 t8 => ?_)
          exact ret _ _ _ _ x8 _ hG ⟨rfl, trivial⟩ dX0_firstWrong_58
        · refine lv_aload_n X.1 X.2.1 dX0_firstWrong_16 rfl (lv_at hl 1 rfl) ?_
          refine lv_aload_n X.1 X.2.1 dX0_firstWrong_17 rfl (lv_at hl 0 rfl) ?_
          refine gf_0_0 X hG h900 q_264 dX0_firstWrong_18 (hN _ _ _ h900) (fun a9 h9 r9 => ?_)
          refine lv_iload_n X.1 X.2.1 dX0_firstWrong_21 rfl (lv_at hl 2 rfl) ?_
          refine tg_iald X hG h9 rfl (cI_in (n := 20) (by omega)) dX0_firstWrong_22 (fun x10 r10 => ?_)
          have b10 := (hR _ _ _ _ h9 r10) _ _ rfl
          refine k_cVi X hG (c_X1_has l D cy τ _ hN hR (ty_Wf.sub (S' := []) hF (by decide)) h901 x10) h901 rfl yv_X1_has q_853 ⟨rfl, rfl⟩ ⟨Nat.le_of_ble_eq_true rfl, Nat.le_of_ble_eq_true rfl⟩ rfl hl.1 rfl (Nat.le_of_ble_eq_true rfl) ⟨Nat.zero_le _, Nat.zero_le _⟩ dX0_firstWrong_23 (fun x12 u13 H locs hG po11 => ?_)
          obtain ⟨eu13, po11⟩ := po11
          rw [eu13] at hG
          have J51 : ∀ (H : Heap) (locs : List Loc) (ls : Array Slot), TG D cy τ ρ (ty_d τ) s.heap H locs → lv_has ls 3 [(0, .ref a900), (1, .ref a901), (2, .int x2)] → W p l e (rL 1) s m args below meth c H locs 0 0 Q (F0 m 51 ls []) := by
            intro H locs ls hG hl
            refine n_inc X (fun z15 => [(2, .int z15), (0, .ref a900), (1, .ref a901)]) dX0_firstWrong_51 hl (k := 2) rfl (by decide) (by decide) (by omega) (by omega) (by decide) (fun _ => rfl) (fun x14 ls t14 hl => ?_)
            have hl : lv_has ls 3 [(2, .int x14), (0, .ref a900), (1, .ref a901)] := hl
            refine lv_goto (tgt := 2) X.1 X.2.1 dX0_firstWrong_54 (by decide) ?_
            exact ih2 _ _ _ x14 (by omega) (by omega) hG (lv_sub hl [1, 2, 0] rfl)
          refine n_if_eq (tgt := 51) X dX0_firstWrong_26 (by decide) (fun c16 => ?_) (fun c16 => ?_)
          · exact J51 _ _ _  hG (lv_sub hl [0, 1, 2] rfl)
          · refine lv_aload_n X.1 X.2.1 dX0_firstWrong_29 rfl (lv_at hl 1 rfl) ?_
            refine gf_1_4 X hG h901 q_141 dX0_firstWrong_30 (hN _ _ _ h901) (fun a17 h17 r17 => ?_)
            refine lv_aload_n X.1 X.2.1 dX0_firstWrong_33 rfl (lv_at hl 0 rfl) ?_
            refine gf_0_0 X hG h900 q_264 dX0_firstWrong_34 (hN _ _ _ h900) (fun a18 h18 r18 => ?_)
            refine lv_iload_n X.1 X.2.1 dX0_firstWrong_37 rfl (lv_at hl 2 rfl) ?_
            refine tg_iald X hG h18 rfl (cI_in (n := 20) (by omega)) dX0_firstWrong_38 (fun x19 r19 => ?_)
            have b19 := (hR _ _ _ _ h18 r19) _ _ rfl
            refine tg_iald X hG h17 rfl (cI_in (n := 6) (by omega)) dX0_firstWrong_39 (fun x20 r20 => ?_)
            refine lv_aload_n X.1 X.2.1 dX0_firstWrong_40 rfl (lv_at hl 0 rfl) ?_
            refine gf_0_1 X hG h900 q_265 dX0_firstWrong_41 (hN _ _ _ h900) (fun a21 h21 r21 => ?_)
            refine lv_iload_n X.1 X.2.1 dX0_firstWrong_44 rfl (lv_at hl 2 rfl) ?_
            refine tg_iald X hG h21 rfl (cI_in (n := 20) (by omega)) dX0_firstWrong_45 (fun x22 r22 => ?_)
            refine n_icmp_eq (tgt := 51) X dX0_firstWrong_46 (by decide) (fun c23 => ?_) (fun c23 => ?_)
            · exact J51 _ _ _  hG (lv_sub hl [0, 1, 2] rfl)
            · refine lv_iload_n X.1 X.2.1 dX0_firstWrong_49 rfl (lv_at hl 2 rfl) ?_
              exact ret _ _ _ _ x2 _ hG ⟨rfl, trivial⟩ dX0_firstWrong_50
  exact J2 _ _ _ _ x1 (by omega) (Nat.lt_succ_self _) hG (lv_sub hl [1, 2, 0] rfl)
