set_option maxHeartbeats 4000000 in
set_option maxRecDepth 100000 in
theorem c_X9_feed (l : Launch) (D : va_G) (cy : Nat → ClassId) (τ : ty_T) (ρ : ty_R) {M : md_T} (hN : ty_N τ ρ) (hR : ty_Rg M τ ρ) (hF : ty_Wf M τ ρ [602, 6008]) {a900 : Nat} (h900 : τ a900 = some (0, 9)) (x901 : Int32) : KI l D cy yX9_feed cX9_feed 2 .int (rL 1) τ ρ [.ref a900, .int x901] (fun r u => u = ρ ∧ True) := by
  refine k_metI "EdgeEchoes" rfl (by decide +kernel) (Nat.le_of_ble_eq_true rfl) (fun _ _ _ => rfl) ?_
  intro p e s m args below meth c Q ls X hG hl ret
  have hl : lv_has ls 2 [(0, .ref a900), (1, .int x901)] := hl
  have g901 := cI_rng x901
  refine lv_iload_n X.1 X.2.1 dX9_feed_0 rfl (lv_at hl 1 rfl) ?_
  refine n_if_lt (tgt := 11) X dX9_feed_1 (by decide) (fun c1 => ?_) (fun c1 => ?_)
  · refine n_ldc X q_327 (n := -1000000002) (by decide +kernel) dX9_feed_11 (fun x2 t2 => ?_)
    exact ret _ _ _ _ x2 _ hG ⟨rfl, trivial⟩ dX9_feed_13
  · refine lv_iload_n X.1 X.2.1 dX9_feed_4 rfl (lv_at hl 1 rfl) ?_
    refine n_sp X dX9_feed_5 (by decide) (by decide) (fun x3 t3 => ?_)
    refine n_icmp_le (tgt := 14) X dX9_feed_8 (by decide) (fun c4 => ?_) (fun c4 => ?_)
    · refine lv_aload_n X.1 X.2.1 dX9_feed_14 rfl (lv_at hl 0 rfl) ?_
      refine gf_9_0 X hG h900 q_295 dX9_feed_15 (hN _ _ _ h900) (fun a5 h5 r5 => ?_)
      refine lv_iload_n X.1 X.2.1 dX9_feed_18 rfl (lv_at hl 1 rfl) ?_
      refine k_cVi X hG (c_X6_append l D cy τ _ hN hR (ty_Wf.sub (S' := [602, 6008]) hF (by decide)) h5 x901) h5 rfl yv_X6_append q_328 ⟨rfl, rfl⟩ ⟨Nat.le_of_ble_eq_true rfl, Nat.le_of_ble_eq_true rfl⟩ rfl hl.1 rfl (Nat.le_of_ble_eq_true rfl) ⟨Nat.zero_le _, Nat.zero_le _⟩ dX9_feed_19 (fun x7 u8 H locs hG po6 => ?_)
      obtain ⟨eu8, po6⟩ := po6
      rw [eu8] at hG
      refine n_if_eq (tgt := 35) X dX9_feed_22 (by decide) (fun c9 => ?_) (fun c9 => ?_)
      · refine n_ldc X q_332 (n := -1000000004) (by decide +kernel) dX9_feed_35 (fun x10 t10 => ?_)
        exact ret _ _ _ _ x10 _ hG ⟨rfl, trivial⟩ dX9_feed_37
      · refine lv_aload_n X.1 X.2.1 dX9_feed_25 rfl (lv_at hl 0 rfl) ?_
        refine gf_9_0 X hG h900 q_295 dX9_feed_26 (hN _ _ _ h900) (fun a11 h11 r11 => ?_)
        refine gf_6_2 X hG h11 q_37 dX9_feed_29 (fun x12 r12 => ?_)
        have g12 := cI_rng x12
        refine lv_goto (tgt := 37) X.1 X.2.1 dX9_feed_32 (by decide) ?_
        exact ret _ _ _ _ x12 _ hG ⟨rfl, trivial⟩ dX9_feed_37
    · refine n_ldc X q_327 (n := -1000000002) (by decide +kernel) dX9_feed_11 (fun x13 t13 => ?_)
      exact ret _ _ _ _ x13 _ hG ⟨rfl, trivial⟩ dX9_feed_13
set_option maxHeartbeats 4000000 in
set_option maxRecDepth 100000 in
theorem c_X9_line (l : Launch) (D : va_G) (cy : Nat → ClassId) (τ : ty_T) (ρ : ty_R) (z : EVt) {M : md_T} (hN : ty_N τ ρ) (hR : ty_Rg M τ ρ) (hF : ty_Wf M τ ρ [2, 106, 202, 302, 303, 401, 504, 602, 603, 604, 806, 807, 808, 809, 810, 811, 812, 907, 5000, 6005, 6009]) {a900 : Nat} (h900 : τ a900 = some (0, 9)) : KIE l D cy yX9_line cX9_line 4 .int (rL 10) τ ρ z [.ref a900] (fun r u => u = ρ ∧ True) := by
  refine k_metIE "EdgeEchoes" rfl (by decide +kernel) (Nat.le_of_ble_eq_true rfl) (fun _ _ _ => rfl) ?_
  intro p e s m args below meth c Q ls X hG hEv hl ret
  obtain ⟨vO, vC, vV, vT, vR, vZ, z1, v1, z2, v2, z3, v3⟩ := id hEv
  have hl : lv_has ls 4 [(0, .ref a900)] := hl
  refine lv_aload_n X.1 X.2.1 dX9_line_0 rfl (lv_at hl 0 rfl) ?_
  refine gf_9_2 X hG h900 q_297 dX9_line_1 (hN _ _ _ h900) (fun a1 h1 r1 => ?_)
  refine gf_7_0 X hG h1 q_194 dX9_line_4 (hN _ _ _ h1) (fun a2 h2 r2 => ?_)
  refine lv_astore_n (lv' := [(1, .ref a2), (0, .ref a900)]) X.1 X.2.1 dX9_line_7 rfl hl (by decide) rfl (fun ls hl => ?_)
  refine lv_aload_n X.1 X.2.1 dX9_line_8 rfl (lv_at hl 1 rfl) ?_
  refine gf_9_0 X hG h900 q_295 dX9_line_9 (hN _ _ _ h900) (fun a3 h3 r3 => ?_)
  refine lv_aload_n X.1 X.2.1 dX9_line_12 rfl (lv_at hl 0 rfl) ?_
  refine k_cVE X hG (EV.at hEv hG) (c_X6_readInto l D cy τ _ z hN hR (ty_Wf.sub (S' := [106, 302, 303, 603, 604, 806, 807, 808, 809, 810, 811, 812, 5000, 6005, 6009]) hF (by decide)) h3 h2) h3 rfl yv_X6_readInto q_337 ⟨rfl, rfl⟩ ⟨Nat.le_of_ble_eq_true rfl, Nat.le_of_ble_eq_true rfl⟩ rfl hl.1 rfl (Nat.le_of_ble_eq_true rfl) ⟨Nat.zero_le _, Nat.zero_le _⟩ dX9_line_13 (fun x5 u6 H locs hG po4 => ?_)
  obtain ⟨eu6, po4⟩ := po4
  rw [eu6] at hG
  have g5 := cI_rng x5
  refine lv_istore_n (lv' := [(2, .int x5), (1, .ref a2), (0, .ref a900)]) X.1 X.2.1 dX9_line_16 rfl hl (by decide) rfl (fun ls hl => ?_)
  refine lv_aload_n X.1 X.2.1 dX9_line_17 rfl (lv_at hl 2 rfl) ?_
  refine gf_9_0 X hG h900 q_295 dX9_line_18 (hN _ _ _ h900) (fun a7 h7 r7 => ?_)
  refine n_ic X dX9_line_21 (by decide) (by decide) (fun x8 t8 => ?_)
  refine pf_6_2 X hG h7 q_37 dX9_line_22 (hF _ _ _ _ h7 (ty_in (n := 602) rfl) (ty_rno rfl)) (fun H locs hG => ?_)
  refine lv_iload_n X.1 X.2.1 dX9_line_25 rfl (lv_at hl 0 rfl) ?_
  refine n_if_eq (tgt := 45) X dX9_line_26 (by decide) (fun c9 => ?_) (fun c9 => ?_)
  · refine lv_aload_n X.1 X.2.1 dX9_line_45 rfl (lv_at hl 2 rfl) ?_
    refine n_ic X dX9_line_46 (by decide) (by decide) (fun x10 t10 => ?_)
    refine pf_9_7 X hG h900 q_302 dX9_line_47 (hF _ _ _ _ h900 (ty_in (n := 907) rfl) (ty_rno rfl)) (fun H locs hG => ?_)
    refine lv_aload_n X.1 X.2.1 dX9_line_50 rfl (lv_at hl 2 rfl) ?_
    refine gf_9_1 X hG h900 q_296 dX9_line_51 (hN _ _ _ h900) (fun a11 h11 r11 => ?_)
    refine lv_aload_n X.1 X.2.1 dX9_line_54 rfl (lv_at hl 1 rfl) ?_
    refine k_cVv X hG (c_X3_copyFrom l D cy τ _ hN hR (ty_Wf.sub (S' := [106, 302, 303, 806, 807, 808, 809, 810, 811, 812, 5000, 6005]) hF (by decide)) h11 h2) h11 rfl yv_X3_copyFrom q_516 ⟨rfl, rfl⟩ ⟨Nat.le_of_ble_eq_true rfl, Nat.le_of_ble_eq_true rfl⟩ rfl hl.1 rfl (Nat.le_of_ble_eq_true rfl) ⟨Nat.zero_le _, Nat.zero_le _⟩ dX9_line_55 (fun u14 H locs hG po12 => ?_)
    rw [po12] at hG
    refine lv_aload_n X.1 X.2.1 dX9_line_58 rfl (lv_at hl 2 rfl) ?_
    refine gf_9_3 X hG h900 q_298 dX9_line_59 (hN _ _ _ h900) (fun a15 h15 r15 => ?_)
    refine n_ic X dX9_line_62 (by decide) (by decide) (fun x16 t16 => ?_)
    refine pf_4_1 X hG h15 q_213 dX9_line_63 (hF _ _ _ _ h15 (ty_in (n := 401) rfl) (ty_rno rfl)) (fun H locs hG => ?_)
    refine lv_aload_n X.1 X.2.1 dX9_line_66 rfl (lv_at hl 2 rfl) ?_
    refine gf_9_4 X hG h900 q_299 dX9_line_67 (hN _ _ _ h900) (fun a17 h17 r17 => ?_)
    refine n_ic X dX9_line_70 (by decide) (by decide) (fun x18 t18 => ?_)
    refine pf_5_4 X hG h17 q_233 dX9_line_71 (hF _ _ _ _ h17 (ty_in (n := 504) rfl) (ty_rno rfl)) (fun H locs hG => ?_)
    refine lv_aload_n X.1 X.2.1 dX9_line_74 rfl (lv_at hl 2 rfl) ?_
    refine gf_9_5 X hG h900 q_300 dX9_line_75 (hN _ _ _ h900) (fun a19 h19 r19 => ?_)
    refine n_ic X dX9_line_78 (by decide) (by decide) (fun x20 t20 => ?_)
    refine pf_0_2 X hG h19 q_267 dX9_line_79 (hF _ _ _ _ h19 (ty_in (n := 2) rfl) (ty_rno rfl)) (fun H locs hG => ?_)
    refine n_ic X dX9_line_82 (by decide) (by decide) (fun x21 t21 => ?_)
    refine lv_istore_n (lv' := [(3, .int x21), (2, .int x5), (1, .ref a2), (0, .ref a900)]) X.1 X.2.1 dX9_line_83 rfl hl (by decide) rfl (fun ls hl => ?_)
    have J84 : ∀ (n : Nat) (H : Heap) (locs : List Loc) (ls : Array Slot) (x22 : Int32), (0 ≤ x22.toInt ∧ x22.toInt ≤ 2) → (2 - x22.toInt).toNat < n → TG D cy τ ρ (ty_d τ) s.heap H locs → lv_has ls 4 [(0, .ref a900), (1, .ref a2), (2, .int x5), (3, .int x22)] → W p l e (rL 10) s m args below meth c H locs 0 0 Q (F0 m 84 ls []) := by
      intro n
      induction n with
      | zero => intro H locs ls x22 bx22 hm84 hG hl; exact absurd hm84 (Nat.not_lt_zero _)
      | succ n ih84 =>
        intro H locs ls x22 bx22 hm84 hG hl
        refine lv_iload_n X.1 X.2.1 dX9_line_84 rfl (lv_at hl 3 rfl) ?_
        refine n_ic X dX9_line_85 (by decide) (by decide) (fun x23 t23 => ?_)
        refine n_icmp_ge (tgt := 105) X dX9_line_86 (by decide) (fun c24 => ?_) (fun c24 => ?_)
        · refine lv_aload_n X.1 X.2.1 dX9_line_105 rfl (lv_at hl 0 rfl) ?_
          refine gf_9_1 X hG h900 q_296 dX9_line_106 (hN _ _ _ h900) (fun a25 h25 r25 => ?_)
          refine gf_3_0 X hG h25 q_165 dX9_line_109 (hN _ _ _ h25) (fun a26 h26 r26 => ?_)
          refine gf_8_7 X hG h26 q_82 dX9_line_112 (fun x27 r27 => ?_)
          have b27 := (hR _ _ _ _ h26 r27) _ _ rfl
          exact ret _ _ _ _ x27 _ hG ⟨rfl, trivial⟩ dX9_line_115
        · refine lv_aload_n X.1 X.2.1 dX9_line_89 rfl (lv_at hl 0 rfl) ?_
          refine gf_9_6 X hG h900 q_301 dX9_line_90 (hN _ _ _ h900) (fun a28 h28 r28 => ?_)
          refine lv_iload_n X.1 X.2.1 dX9_line_93 rfl (lv_at hl 3 rfl) ?_
          refine tg_aald X hG h28 (Or.inr rfl) (cI_in (n := 2) (by omega)) dX9_line_94 (hN _ _ _ h28) (fun a29 h29 r29 => ?_)
          have h29 : τ a29 = some (0, 2) := h29
          refine n_ic X dX9_line_95 (by decide) (by decide) (fun x30 t30 => ?_)
          refine pf_2_2 X hG h29 q_287 (by omega) dX9_line_96 (hF _ _ _ _ h29 (ty_in (n := 202) rfl) (ty_rno rfl)) (fun H locs hG => ?_)
          refine n_inc X (fun z32 => [(3, .int z32), (0, .ref a900), (1, .ref a2), (2, .int x5)]) dX9_line_99 hl (k := 3) rfl (by decide) (by decide) (by omega) (by omega) (by decide) (fun _ => rfl) (fun x31 ls t31 hl => ?_)
          have hl : lv_has ls 4 [(3, .int x31), (0, .ref a900), (1, .ref a2), (2, .int x5)] := hl
          refine lv_goto (tgt := 84) X.1 X.2.1 dX9_line_102 (by decide) ?_
          exact ih84 _ _ _ x31 (by omega) (by omega) hG (lv_sub hl [1, 2, 3, 0] rfl)
    exact J84 _ _ _ _ x21 (by omega) (Nat.lt_succ_self _) hG (lv_sub hl [3, 2, 1, 0] rfl)
  · refine lv_aload_n X.1 X.2.1 dX9_line_29 rfl (lv_at hl 2 rfl) ?_
    refine lv_aload_n X.1 X.2.1 dX9_line_30 rfl (lv_at hl 2 rfl) ?_
    refine gf_9_0 X hG h900 q_295 dX9_line_31 (hN _ _ _ h900) (fun a33 h33 r33 => ?_)
    refine gf_6_3 X hG h33 q_39 dX9_line_34 (fun x34 r34 => ?_)
    have g34 := cI_rng x34
    refine pf_9_7 X hG h900 q_302 dX9_line_37 (hF _ _ _ _ h900 (ty_in (n := 907) rfl) (ty_rno rfl)) (fun H locs hG => ?_)
    refine n_bp X dX9_line_40 (by decide) (by decide) (fun x35 t35 => ?_)
    refine lv_iload_n X.1 X.2.1 dX9_line_42 rfl (lv_at hl 0 rfl) ?_
    refine lv_isub X.1 X.2.1 dX9_line_43 ?_
    refine n_any (fun x36 => ?_)
    exact ret _ _ _ _ x36 _ hG ⟨rfl, trivial⟩ dX9_line_44
set_option maxHeartbeats 4000000 in
set_option maxRecDepth 100000 in
theorem c_X9_isPlaceNumber (l : Launch) (D : va_G) (cy : Nat → ClassId) (τ : ty_T) (ρ : ty_R) {M : md_T} (hN : ty_N τ ρ) (hR : ty_Rg M τ ρ) (hF : ty_Wf M τ ρ []) (x900 : Int32) : KI l D cy yX9_isPlaceNumber cX9_isPlaceNumber 1 .boolean (rL 0) τ ρ [.int x900] (fun r u => u = ρ ∧ (r.toInt = 0 ∨ r.toInt = 1) ∧ (r.toInt ≠ 0 → 1 ≤ x900.toInt ∧ x900.toInt ≤ 71)) := by
  refine k_metI "EdgeEchoes" rfl (by decide +kernel) (Nat.le_of_ble_eq_true rfl) (fun r u h => (cI_nar (cI_01 h.2.1)).1) ?_
  intro p e s m args below meth c Q ls X hG hl ret
  have hl : lv_has ls 1 [(0, .int x900)] := hl
  have g900 := cI_rng x900
  refine lv_iload_n X.1 X.2.1 dX9_isPlaceNumber_0 rfl (lv_at hl 0 rfl) ?_
  refine n_ic X dX9_isPlaceNumber_1 (by decide) (by decide) (fun x1 t1 => ?_)
  refine n_icmp_lt (tgt := 15) X dX9_isPlaceNumber_2 (by decide) (fun c2 => ?_) (fun c2 => ?_)
  · refine n_ic X dX9_isPlaceNumber_15 (by decide) (by decide) (fun x3 t3 => ?_)
    exact ret _ _ _ _ x3 _ hG ⟨rfl, by omega⟩ dX9_isPlaceNumber_16
  · refine lv_iload_n X.1 X.2.1 dX9_isPlaceNumber_5 rfl (lv_at hl 0 rfl) ?_
    refine n_bp X dX9_isPlaceNumber_6 (by decide) (by decide) (fun x4 t4 => ?_)
    refine n_icmp_ge (tgt := 15) X dX9_isPlaceNumber_8 (by decide) (fun c5 => ?_) (fun c5 => ?_)
    · refine n_ic X dX9_isPlaceNumber_15 (by decide) (by decide) (fun x6 t6 => ?_)
      exact ret _ _ _ _ x6 _ hG ⟨rfl, by omega⟩ dX9_isPlaceNumber_16
    · refine n_ic X dX9_isPlaceNumber_11 (by decide) (by decide) (fun x7 t7 => ?_)
      refine lv_goto (tgt := 16) X.1 X.2.1 dX9_isPlaceNumber_12 (by decide) ?_
      exact ret _ _ _ _ x7 _ hG ⟨rfl, by omega⟩ dX9_isPlaceNumber_16
set_option maxHeartbeats 4000000 in
set_option maxRecDepth 100000 in
theorem c_X9_refusalToPass (l : Launch) (D : va_G) (cy : Nat → ClassId) (τ : ty_T) (ρ : ty_R) {M : md_T} (hN : ty_N τ ρ) (hR : ty_Rg M τ ρ) (hF : ty_Wf M τ ρ []) {a900 : Nat} (h900 : τ a900 = some (0, 9)) (x901 : Int32) : KI l D cy yX9_refusalToPass cX9_refusalToPass 2 .int (rL 0) τ ρ [.ref a900, .int x901] (fun r u => u = ρ ∧ True) := by
  refine k_metI "EdgeEchoes" rfl (by decide +kernel) (Nat.le_of_ble_eq_true rfl) (fun _ _ _ => rfl) ?_
  intro p e s m args below meth c Q ls X hG hl ret
  have hl : lv_has ls 2 [(0, .ref a900), (1, .int x901)] := hl
  have g901 := cI_rng x901
  refine lv_iload_n X.1 X.2.1 dX9_refusalToPass_0 rfl (lv_at hl 1 rfl) ?_
  refine n_ic X dX9_refusalToPass_1 (by decide) (by decide) (fun x1 t1 => ?_)
  refine n_icmp_lt (tgt := 11) X dX9_refusalToPass_2 (by decide) (fun c2 => ?_) (fun c2 => ?_)
  · refine n_ldc X q_327 (n := -1000000002) (by decide +kernel) dX9_refusalToPass_11 (fun x3 t3 => ?_)
    exact ret _ _ _ _ x3 _ hG ⟨rfl, trivial⟩ dX9_refusalToPass_13
  · refine lv_iload_n X.1 X.2.1 dX9_refusalToPass_5 rfl (lv_at hl 1 rfl) ?_
    refine n_bp X dX9_refusalToPass_6 (by decide) (by decide) (fun x4 t4 => ?_)
    refine n_icmp_le (tgt := 14) X dX9_refusalToPass_8 (by decide) (fun c5 => ?_) (fun c5 => ?_)
    · refine lv_aload_n X.1 X.2.1 dX9_refusalToPass_14 rfl (lv_at hl 0 rfl) ?_
      refine gf_9_1 X hG h900 q_296 dX9_refusalToPass_15 (hN _ _ _ h900) (fun a6 h6 r6 => ?_)
      refine gf_3_2 X hG h6 q_173 dX9_refusalToPass_18 (fun x7 b7 r7 => ?_)
      refine n_if_ne (tgt := 27) X dX9_refusalToPass_21 (by decide) (fun c8 => ?_) (fun c8 => ?_)
      · refine lv_aload_n X.1 X.2.1 dX9_refusalToPass_27 rfl (lv_at hl 0 rfl) ?_
        refine gf_9_1 X hG h900 q_296 dX9_refusalToPass_28 (hN _ _ _ h900) (fun a9 h9 r9 => ?_)
        refine gf_3_3 X hG h9 q_175 dX9_refusalToPass_31 (fun x10 r10 => ?_)
        have g10 := cI_rng x10
        refine n_ldcw X q_667 (n := 90000) (by decide +kernel) dX9_refusalToPass_34 (fun x11 t11 => ?_)
        refine n_icmp_le (tgt := 45) X dX9_refusalToPass_37 (by decide) (fun c12 => ?_) (fun c12 => ?_)
        · refine n_ic X dX9_refusalToPass_45 (by decide) (by decide) (fun x13 t13 => ?_)
          exact ret _ _ _ _ x13 _ hG ⟨rfl, trivial⟩ dX9_refusalToPass_46
        · refine n_ldc X q_332 (n := -1000000004) (by decide +kernel) dX9_refusalToPass_40 (fun x14 t14 => ?_)
          refine lv_goto (tgt := 46) X.1 X.2.1 dX9_refusalToPass_42 (by decide) ?_
          exact ret _ _ _ _ x14 _ hG ⟨rfl, trivial⟩ dX9_refusalToPass_46
      · refine n_ldc X q_666 (n := -1000000003) (by decide +kernel) dX9_refusalToPass_24 (fun x15 t15 => ?_)
        exact ret _ _ _ _ x15 _ hG ⟨rfl, trivial⟩ dX9_refusalToPass_26
    · refine n_ldc X q_327 (n := -1000000002) (by decide +kernel) dX9_refusalToPass_11 (fun x16 t16 => ?_)
      exact ret _ _ _ _ x16 _ hG ⟨rfl, trivial⟩ dX9_refusalToPass_13
set_option maxHeartbeats 4000000 in
set_option maxRecDepth 100000 in
theorem c_X9_turnPlace (l : Launch) (D : va_G) (cy : Nat → ClassId) (τ : ty_T) (ρ : ty_R) {M : md_T} (hN : ty_N τ ρ) (hR : ty_Rg M τ ρ) (hF : ty_Wf M τ ρ [106, 302, 303, 401, 402, 806, 807, 808, 809, 810, 811, 812, 5000, 6005]) {a900 : Nat} (h900 : τ a900 = some (0, 9)) (x901 : Int32) (x902 : Int32) : KI l D cy yX9_turnPlace cX9_turnPlace 4 .int (rL 4) τ ρ [.ref a900, .int x901, .int x902] (fun r u => u = ρ ∧ True) := by
  refine k_metI "EdgeEchoes" rfl (by decide +kernel) (Nat.le_of_ble_eq_true rfl) (fun _ _ _ => rfl) ?_
  intro p e s m args below meth c Q ls X hG hl ret
  have hl : lv_has ls 4 [(0, .ref a900), (1, .int x901), (2, .int x902)] := hl
  have g901 := cI_rng x901
  have g902 := cI_rng x902
  refine lv_iload_n X.1 X.2.1 dX9_turnPlace_0 rfl (lv_at hl 1 rfl) ?_
  refine k_cSi X hG (c_X9_isPlaceNumber l D cy τ _ hN hR (ty_Wf.sub (S' := []) hF (by decide)) x901) ys_X9_isPlaceNumber q_621 ⟨rfl, rfl⟩ ⟨Nat.le_of_ble_eq_true rfl, Nat.le_of_ble_eq_true rfl⟩ rfl hl.1 rfl (Nat.le_of_ble_eq_true rfl) ⟨Nat.zero_le _, Nat.zero_le _⟩ dX9_turnPlace_1 (fun x2 u3 H locs hG po1 => ?_)
  obtain ⟨eu3, po1⟩ := po1
  rw [eu3] at hG
  refine n_if_ne (tgt := 10) X dX9_turnPlace_4 (by decide) (fun c4 => ?_) (fun c4 => ?_)
  · refine lv_aload_n X.1 X.2.1 dX9_turnPlace_10 rfl (lv_at hl 0 rfl) ?_
    refine gf_9_1 X hG h900 q_296 dX9_turnPlace_11 (hN _ _ _ h900) (fun a5 h5 r5 => ?_)
    refine gf_3_0 X hG h5 q_165 dX9_turnPlace_14 (hN _ _ _ h5) (fun a6 h6 r6 => ?_)
    refine lv_iload_n X.1 X.2.1 dX9_turnPlace_17 rfl (lv_at hl 1 rfl) ?_
    refine k_cVi X hG (c_X8_hasPlace l D cy τ _ hN hR (ty_Wf.sub (S' := []) hF (by decide)) h6 x901) h6 rfl yv_X8_hasPlace q_624 ⟨rfl, rfl⟩ ⟨Nat.le_of_ble_eq_true rfl, Nat.le_of_ble_eq_true rfl⟩ rfl hl.1 rfl (Nat.le_of_ble_eq_true rfl) ⟨Nat.zero_le _, Nat.zero_le _⟩ dX9_turnPlace_18 (fun x8 u9 H locs hG po7 => ?_)
    obtain ⟨eu9, po7⟩ := po7
    rw [eu9] at hG
    refine n_if_eq (tgt := 40) X dX9_turnPlace_21 (by decide) (fun c10 => ?_) (fun c10 => ?_)
    · refine n_ldc X q_666 (n := -1000000003) (by decide +kernel) dX9_turnPlace_40 (fun x11 t11 => ?_)
      exact ret _ _ _ _ x11 _ hG ⟨rfl, trivial⟩ dX9_turnPlace_42
    · refine lv_aload_n X.1 X.2.1 dX9_turnPlace_24 rfl (lv_at hl 0 rfl) ?_
      refine gf_9_1 X hG h900 q_296 dX9_turnPlace_25 (hN _ _ _ h900) (fun a12 h12 r12 => ?_)
      refine gf_3_0 X hG h12 q_165 dX9_turnPlace_28 (hN _ _ _ h12) (fun a13 h13 r13 => ?_)
      refine gf_8_5 X hG h13 q_77 dX9_turnPlace_31 (hN _ _ _ h13) (fun a14 h14 r14 => ?_)
      refine lv_iload_n X.1 X.2.1 dX9_turnPlace_34 rfl (lv_at hl 1 rfl) ?_
      refine tg_iald X hG h14 rfl (cI_in (n := 72) (by omega)) dX9_turnPlace_35 (fun x15 r15 => ?_)
      refine lv_iload_n X.1 X.2.1 dX9_turnPlace_36 rfl (lv_at hl 2 rfl) ?_
      refine n_icmp_ne (tgt := 43) X dX9_turnPlace_37 (by decide) (fun c16 => ?_) (fun c16 => ?_)
      · refine lv_aload_n X.1 X.2.1 dX9_turnPlace_43 rfl (lv_at hl 0 rfl) ?_
        refine gf_9_3 X hG h900 q_298 dX9_turnPlace_44 (hN _ _ _ h900) (fun a17 h17 r17 => ?_)
        refine lv_aload_n X.1 X.2.1 dX9_turnPlace_47 rfl (lv_at hl 0 rfl) ?_
        refine gf_9_1 X hG h900 q_296 dX9_turnPlace_48 (hN _ _ _ h900) (fun a18 h18 r18 => ?_)
        refine k_cVv X hG (c_X4_remember l D cy τ _ hN hR (ty_Wf.sub (S' := [106, 302, 303, 401, 402, 806, 807, 808, 809, 810, 811, 812, 5000, 6005]) hF (by decide)) h17 h18) h17 rfl yv_X4_remember q_668 ⟨rfl, rfl⟩ ⟨Nat.le_of_ble_eq_true rfl, Nat.le_of_ble_eq_true rfl⟩ rfl hl.1 rfl (Nat.le_of_ble_eq_true rfl) ⟨Nat.zero_le _, Nat.zero_le _⟩ dX9_turnPlace_51 (fun u21 H locs hG po19 => ?_)
        rw [po19] at hG
        refine lv_aload_n X.1 X.2.1 dX9_turnPlace_54 rfl (lv_at hl 0 rfl) ?_
        refine gf_9_1 X hG h900 q_296 dX9_turnPlace_55 (hN _ _ _ h900) (fun a22 h22 r22 => ?_)
        refine gf_3_0 X hG h22 q_165 dX9_turnPlace_58 (hN _ _ _ h22) (fun a23 h23 r23 => ?_)
        refine gf_8_5 X hG h23 q_77 dX9_turnPlace_61 (hN _ _ _ h23) (fun a24 h24 r24 => ?_)
        refine lv_iload_n X.1 X.2.1 dX9_turnPlace_64 rfl (lv_at hl 1 rfl) ?_
        refine tg_iald X hG h24 rfl (cI_in (n := 72) (by omega)) dX9_turnPlace_65 (fun x25 r25 => ?_)
        refine lv_istore_n (lv' := [(3, .int x25), (0, .ref a900), (1, .int x901), (2, .int x902)]) X.1 X.2.1 dX9_turnPlace_66 rfl hl (by decide) rfl (fun ls hl => ?_)
        refine lv_aload_n X.1 X.2.1 dX9_turnPlace_67 rfl (lv_at hl 1 rfl) ?_
        refine gf_9_1 X hG h900 q_296 dX9_turnPlace_68 (hN _ _ _ h900) (fun a26 h26 r26 => ?_)
        refine gf_3_0 X hG h26 q_165 dX9_turnPlace_71 (hN _ _ _ h26) (fun a27 h27 r27 => ?_)
        refine gf_8_5 X hG h27 q_77 dX9_turnPlace_74 (hN _ _ _ h27) (fun a28 h28 r28 => ?_)
        refine lv_iload_n X.1 X.2.1 dX9_turnPlace_77 rfl (lv_at hl 2 rfl) ?_
        refine lv_iload_n X.1 X.2.1 dX9_turnPlace_78 rfl (lv_at hl 3 rfl) ?_
        refine tg_iasf X hG h28 rfl (cI_in (n := 72) (by omega)) dX9_turnPlace_79 (hF _ _ _ _ h28 (ty_in (n := 5000) rfl) (ty_rno rfl)) (fun H locs hG => ?_)
        refine lv_iload_n X.1 X.2.1 dX9_turnPlace_80 rfl (lv_at hl 0 rfl) ?_
        exact ret _ _ _ _ x25 _ hG ⟨rfl, trivial⟩ dX9_turnPlace_81
      · refine n_ldc X q_666 (n := -1000000003) (by decide +kernel) dX9_turnPlace_40 (fun x29 t29 => ?_)
        exact ret _ _ _ _ x29 _ hG ⟨rfl, trivial⟩ dX9_turnPlace_42
  · refine n_ldc X q_327 (n := -1000000002) (by decide +kernel) dX9_turnPlace_7 (fun x30 t30 => ?_)
    exact ret _ _ _ _ x30 _ hG ⟨rfl, trivial⟩ dX9_turnPlace_9
set_option maxHeartbeats 4000000 in
set_option maxRecDepth 100000 in
theorem c_X9_draw (l : Launch) (D : va_G) (cy : Nat → ClassId) (τ : ty_T) (ρ : ty_R) {M : md_T} (hN : ty_N τ ρ) (hR : ty_Rg M τ ρ) (hF : ty_Wf M τ ρ [908]) {a900 : Nat} (h900 : τ a900 = some (0, 9)) (x901 : Int32) : KI l D cy yX9_draw cX9_draw 2 .int (rL 0) τ ρ [.ref a900, .int x901] (fun r u => u = ρ ∧ True) := by
  refine k_metI "EdgeEchoes" rfl (by decide +kernel) (Nat.le_of_ble_eq_true rfl) (fun _ _ _ => rfl) ?_
  intro p e s m args below meth c Q ls X hG hl ret
  have hl : lv_has ls 2 [(0, .ref a900), (1, .int x901)] := hl
  have g901 := cI_rng x901
  refine lv_aload_n X.1 X.2.1 dX9_draw_0 rfl (lv_at hl 0 rfl) ?_
  refine lv_aload_n X.1 X.2.1 dX9_draw_1 rfl (lv_at hl 0 rfl) ?_
  refine gf_9_8 X hG h900 q_303 dX9_draw_2 (fun x1 r1 => ?_)
  have g1 := cI_rng x1
  refine lv_i2l X.1 X.2.1 dX9_draw_5 rfl ?_
  refine n_anyl (fun w2 => ?_)
  refine lv_ldc2 X.1 X.2.1 X.2.2.2.1 (X.2.2.2.2.1 _ q_730) dX9_draw_6 ?_
  refine lv_topl (fun w3 e3 => ?_)
  refine lv_lmul X.1 X.2.1 dX9_draw_9 ?_
  refine n_anyl (fun w4 => ?_)
  refine lv_ldc2 X.1 X.2.1 X.2.2.2.1 (X.2.2.2.2.1 _ q_731) dX9_draw_10 ?_
  refine lv_topl (fun w5 e5 => ?_)
  refine lv_ladd X.1 X.2.1 dX9_draw_13 ?_
  refine n_anyl (fun w6 => ?_)
  refine lv_ldc2 X.1 X.2.1 X.2.2.2.1 (X.2.2.2.2.1 _ q_732) dX9_draw_14 ?_
  refine lv_topl (fun w7 e7 => ?_)
  refine lv_land X.1 X.2.1 dX9_draw_17 ?_
  refine n_anyl (fun w8 => ?_)
  refine lv_l2i X.1 X.2.1 dX9_draw_18 rfl ?_
  refine n_any (fun x9 => ?_)
  refine pf_9_8 X hG h900 q_303 dX9_draw_19 (hF _ _ _ _ h900 (ty_in (n := 908) rfl) (ty_rno rfl)) (fun H locs hG => ?_)
  refine lv_iload_n X.1 X.2.1 dX9_draw_22 rfl (lv_at hl 1 rfl) ?_
  refine n_ic X dX9_draw_23 (by decide) (by decide) (fun x10 t10 => ?_)
  refine n_icmp_ge (tgt := 31) X dX9_draw_24 (by decide) (fun c11 => ?_) (fun c11 => ?_)
  · refine lv_aload_n X.1 X.2.1 dX9_draw_31 rfl (lv_at hl 0 rfl) ?_
    refine gf_9_8 X hG h900 q_303 dX9_draw_32 (fun x12 r12 => ?_)
    have g12 := cI_rng x12
    refine n_ldcw X q_733 (n := 65536) (by decide +kernel) dX9_draw_35 (fun x13 t13 => ?_)
    refine lv_idiv X.1 X.2.1 dX9_draw_38 (n_nz (by omega)) ?_
    refine n_any (fun x14 => ?_)
    refine lv_iload_n X.1 X.2.1 dX9_draw_39 rfl (lv_at hl 1 rfl) ?_
    refine lv_irem X.1 X.2.1 dX9_draw_40 (n_nz (by omega)) ?_
    refine n_any (fun x15 => ?_)
    exact ret _ _ _ _ x15 _ hG ⟨rfl, trivial⟩ dX9_draw_41
  · refine n_ic X dX9_draw_27 (by decide) (by decide) (fun x16 t16 => ?_)
    refine lv_goto (tgt := 41) X.1 X.2.1 dX9_draw_28 (by decide) ?_
    exact ret _ _ _ _ x16 _ hG ⟨rfl, trivial⟩ dX9_draw_41
set_option maxHeartbeats 4000000 in
set_option maxRecDepth 100000 in
theorem c_X9_driftOnce (l : Launch) (D : va_G) (cy : Nat → ClassId) (τ : ty_T) (ρ : ty_R) {M : md_T} (hN : ty_N τ ρ) (hR : ty_Rg M τ ρ) (hF : ty_Wf M τ ρ [303, 812, 908, 5000]) {a900 : Nat} (h900 : τ a900 = some (0, 9)) : KV l D cy yX9_driftOnce cX9_driftOnce 3 (rL 5) τ ρ [.ref a900] (fun w => w = ρ) := by
  refine k_metV "EdgeEchoes" rfl (by decide +kernel) (Nat.le_of_ble_eq_true rfl) ?_
  intro p e s m args below meth c Q ls X hG hl ret
  have hl : lv_has ls 3 [(0, .ref a900)] := hl
  refine lv_aload_n X.1 X.2.1 dX9_driftOnce_0 rfl (lv_at hl 0 rfl) ?_
  refine n_bp X dX9_driftOnce_1 (by decide) (by decide) (fun x1 t1 => ?_)
  refine k_cVi X hG (c_X9_draw l D cy τ _ hN hR (ty_Wf.sub (S' := [908]) hF (by decide)) h900 x1) h900 rfl yv_X9_draw q_726 ⟨rfl, rfl⟩ ⟨Nat.le_of_ble_eq_true rfl, Nat.le_of_ble_eq_true rfl⟩ rfl hl.1 rfl (Nat.le_of_ble_eq_true rfl) ⟨Nat.zero_le _, Nat.zero_le _⟩ dX9_driftOnce_3 (fun x3 u4 H locs hG po2 => ?_)
  obtain ⟨eu4, po2⟩ := po2
  rw [eu4] at hG
  have g3 := cI_rng x3
  refine lv_istore_n (lv' := [(1, .int x3), (0, .ref a900)]) X.1 X.2.1 dX9_driftOnce_6 rfl hl (by decide) rfl (fun ls hl => ?_)
  refine lv_iload_n X.1 X.2.1 dX9_driftOnce_7 rfl (lv_at hl 0 rfl) ?_
  refine n_ic X dX9_driftOnce_8 (by decide) (by decide) (fun x5 t5 => ?_)
  refine n_icmp_gt (tgt := 26) X dX9_driftOnce_9 (by decide) (fun c6 => ?_) (fun c6 => ?_)
  · refine lv_iload_n X.1 X.2.1 dX9_driftOnce_26 rfl (lv_at hl 0 rfl) ?_
    refine n_ic X dX9_driftOnce_27 (by decide) (by decide) (fun x7 t7 => ?_)
    refine n_icmp_ne (tgt := 45) X dX9_driftOnce_28 (by decide) (fun c8 => ?_) (fun c8 => ?_)
    · refine lv_iload_n X.1 X.2.1 dX9_driftOnce_45 rfl (lv_at hl 0 rfl) ?_
      refine n_ic X dX9_driftOnce_46 (by decide) (by decide) (fun x9 t9 => ?_)
      refine n_icmp_ne (tgt := 129) X dX9_driftOnce_47 (by decide) (fun c10 => ?_) (fun c10 => ?_)
      · refine lv_aload_n X.1 X.2.1 dX9_driftOnce_129 rfl (lv_at hl 1 rfl) ?_
        refine gf_9_1 X hG h900 q_296 dX9_driftOnce_130 (hN _ _ _ h900) (fun a11 h11 r11 => ?_)
        refine k_cVv X hG (c_X3_pass l D cy τ _ hN hR (ty_Wf.sub (S' := [303, 5000]) hF (by decide)) h11) h11 rfl yv_X3_pass q_674 ⟨rfl, rfl⟩ ⟨Nat.le_of_ble_eq_true rfl, Nat.le_of_ble_eq_true rfl⟩ rfl hl.1 rfl (Nat.le_of_ble_eq_true rfl) ⟨Nat.zero_le _, Nat.zero_le _⟩ dX9_driftOnce_133 (fun u14 H locs hG po12 => ?_)
        rw [po12] at hG
        exact ret _ _ _ _ _ hG rfl dX9_driftOnce_136
      · refine lv_aload_n X.1 X.2.1 dX9_driftOnce_50 rfl (lv_at hl 1 rfl) ?_
        refine gf_9_1 X hG h900 q_296 dX9_driftOnce_51 (hN _ _ _ h900) (fun a15 h15 r15 => ?_)
        refine gf_3_0 X hG h15 q_165 dX9_driftOnce_54 (hN _ _ _ h15) (fun a16 h16 r16 => ?_)
        refine gf_8_7 X hG h16 q_82 dX9_driftOnce_57 (fun x17 r17 => ?_)
        have b17 := (hR _ _ _ _ h16 r17) _ _ rfl
        refine n_ic X dX9_driftOnce_60 (by decide) (by decide) (fun x18 t18 => ?_)
        refine n_icmp_le (tgt := 129) X dX9_driftOnce_61 (by decide) (fun c19 => ?_) (fun c19 => ?_)
        · refine lv_aload_n X.1 X.2.1 dX9_driftOnce_129 rfl (lv_at hl 1 rfl) ?_
          refine gf_9_1 X hG h900 q_296 dX9_driftOnce_130 (hN _ _ _ h900) (fun a20 h20 r20 => ?_)
          refine k_cVv X hG (c_X3_pass l D cy τ _ hN hR (ty_Wf.sub (S' := [303, 5000]) hF (by decide)) h20) h20 rfl yv_X3_pass q_674 ⟨rfl, rfl⟩ ⟨Nat.le_of_ble_eq_true rfl, Nat.le_of_ble_eq_true rfl⟩ rfl hl.1 rfl (Nat.le_of_ble_eq_true rfl) ⟨Nat.zero_le _, Nat.zero_le _⟩ dX9_driftOnce_133 (fun u23 H locs hG po21 => ?_)
          rw [po21] at hG
          exact ret _ _ _ _ _ hG rfl dX9_driftOnce_136
        · refine lv_aload_n X.1 X.2.1 dX9_driftOnce_64 rfl (lv_at hl 1 rfl) ?_
          refine lv_aload_n X.1 X.2.1 dX9_driftOnce_65 rfl (lv_at hl 1 rfl) ?_
          refine gf_9_1 X hG h900 q_296 dX9_driftOnce_66 (hN _ _ _ h900) (fun a24 h24 r24 => ?_)
          refine gf_3_0 X hG h24 q_165 dX9_driftOnce_69 (hN _ _ _ h24) (fun a25 h25 r25 => ?_)
          refine gf_8_7 X hG h25 q_82 dX9_driftOnce_72 (fun x26 r26 => ?_)
          have b26 := (hR _ _ _ _ h25 r26) _ _ rfl
          refine n_ic X dX9_driftOnce_75 (by decide) (by decide) (fun x27 t27 => ?_)
          refine n_sub X dX9_driftOnce_76 (by omega) (by omega) (fun x28 t28 => ?_)
          refine k_cVi X hG (c_X9_draw l D cy τ _ hN hR (ty_Wf.sub (S' := [908]) hF (by decide)) h900 x28) h900 rfl yv_X9_draw q_726 ⟨rfl, rfl⟩ ⟨Nat.le_of_ble_eq_true rfl, Nat.le_of_ble_eq_true rfl⟩ rfl hl.1 rfl (Nat.le_of_ble_eq_true rfl) ⟨Nat.zero_le _, Nat.zero_le _⟩ dX9_driftOnce_77 (fun x30 u31 H locs hG po29 => ?_)
          obtain ⟨eu31, po29⟩ := po29
          rw [eu31] at hG
          have g30 := cI_rng x30
          refine n_ic X dX9_driftOnce_80 (by decide) (by decide) (fun x32 t32 => ?_)
          refine lv_iadd X.1 X.2.1 dX9_driftOnce_81 ?_
          refine n_any (fun x33 => ?_)
          refine lv_istore_n (lv' := [(2, .int x33), (1, .int x3), (0, .ref a900)]) X.1 X.2.1 dX9_driftOnce_82 rfl hl (by decide) rfl (fun ls hl => ?_)
          refine lv_aload_n X.1 X.2.1 dX9_driftOnce_83 rfl (lv_at hl 2 rfl) ?_
          refine gf_9_1 X hG h900 q_296 dX9_driftOnce_84 (hN _ _ _ h900) (fun a34 h34 r34 => ?_)
          refine gf_3_0 X hG h34 q_165 dX9_driftOnce_87 (hN _ _ _ h34) (fun a35 h35 r35 => ?_)
          refine lv_iload_n X.1 X.2.1 dX9_driftOnce_90 rfl (lv_at hl 0 rfl) ?_
          refine k_cVi X hG (c_X8_hasPlace l D cy τ _ hN hR (ty_Wf.sub (S' := []) hF (by decide)) h35 x33) h35 rfl yv_X8_hasPlace q_624 ⟨rfl, rfl⟩ ⟨Nat.le_of_ble_eq_true rfl, Nat.le_of_ble_eq_true rfl⟩ rfl hl.1 rfl (Nat.le_of_ble_eq_true rfl) ⟨Nat.zero_le _, Nat.zero_le _⟩ dX9_driftOnce_91 (fun x37 u38 H locs hG po36 => ?_)
          obtain ⟨eu38, po36⟩ := po36
          rw [eu38] at hG
          refine n_if_eq (tgt := 129) X dX9_driftOnce_94 (by decide) (fun c39 => ?_) (fun c39 => ?_)
          · refine lv_aload_n X.1 X.2.1 dX9_driftOnce_129 rfl (lv_at hl 2 rfl) ?_
            refine gf_9_1 X hG h900 q_296 dX9_driftOnce_130 (hN _ _ _ h900) (fun a40 h40 r40 => ?_)
            refine k_cVv X hG (c_X3_pass l D cy τ _ hN hR (ty_Wf.sub (S' := [303, 5000]) hF (by decide)) h40) h40 rfl yv_X3_pass q_674 ⟨rfl, rfl⟩ ⟨Nat.le_of_ble_eq_true rfl, Nat.le_of_ble_eq_true rfl⟩ rfl hl.1 rfl (Nat.le_of_ble_eq_true rfl) ⟨Nat.zero_le _, Nat.zero_le _⟩ dX9_driftOnce_133 (fun u43 H locs hG po41 => ?_)
            rw [po41] at hG
            exact ret _ _ _ _ _ hG rfl dX9_driftOnce_136
          · refine lv_aload_n X.1 X.2.1 dX9_driftOnce_97 rfl (lv_at hl 2 rfl) ?_
            refine gf_9_1 X hG h900 q_296 dX9_driftOnce_98 (hN _ _ _ h900) (fun a44 h44 r44 => ?_)
            refine gf_3_0 X hG h44 q_165 dX9_driftOnce_101 (hN _ _ _ h44) (fun a45 h45 r45 => ?_)
            refine gf_8_5 X hG h45 q_77 dX9_driftOnce_104 (hN _ _ _ h45) (fun a46 h46 r46 => ?_)
            refine lv_iload_n X.1 X.2.1 dX9_driftOnce_107 rfl (lv_at hl 0 rfl) ?_
            refine lv_aload_n X.1 X.2.1 dX9_driftOnce_108 rfl (lv_at hl 2 rfl) ?_
            refine gf_9_1 X hG h900 q_296 dX9_driftOnce_109 (hN _ _ _ h900) (fun a47 h47 r47 => ?_)
            refine gf_3_0 X hG h47 q_165 dX9_driftOnce_112 (hN _ _ _ h47) (fun a48 h48 r48 => ?_)
            refine gf_8_5 X hG h48 q_77 dX9_driftOnce_115 (hN _ _ _ h48) (fun a49 h49 r49 => ?_)
            refine lv_iload_n X.1 X.2.1 dX9_driftOnce_118 rfl (lv_at hl 0 rfl) ?_
            refine tg_iald X hG h49 rfl (cI_in (n := 72) (by omega)) dX9_driftOnce_119 (fun x50 r50 => ?_)
            have J128 : ∀ (H : Heap) (locs : List Loc) (ls : Array Slot) (x51 : Int32), (0 ≤ x51.toInt ∧ x51.toInt ≤ 1) → TG D cy τ ρ (ty_d τ) s.heap H locs → lv_has ls 3 [(0, .ref a900), (1, .int x3), (2, .int x33)] → W p l e (rL 5) s m args below meth c H locs 0 0 Q (F0 m 128 ls [.int x51, .int x33, .ref a46]) := by
              intro H locs ls x51 bx51 hG hl
              refine tg_iasf X hG h46 rfl (cI_in (n := 72) (by omega)) dX9_driftOnce_128 (hF _ _ _ _ h46 (ty_in (n := 5000) rfl) (ty_rno rfl)) (fun H locs hG => ?_)
              refine lv_aload_n X.1 X.2.1 dX9_driftOnce_129 rfl (lv_at hl 0 rfl) ?_
              refine gf_9_1 X hG h900 q_296 dX9_driftOnce_130 (hN _ _ _ h900) (fun a52 h52 r52 => ?_)
              refine k_cVv X hG (c_X3_pass l D cy τ _ hN hR (ty_Wf.sub (S' := [303, 5000]) hF (by decide)) h52) h52 rfl yv_X3_pass q_674 ⟨rfl, rfl⟩ ⟨Nat.le_of_ble_eq_true rfl, Nat.le_of_ble_eq_true rfl⟩ rfl hl.1 rfl (Nat.le_of_ble_eq_true rfl) ⟨Nat.zero_le _, Nat.zero_le _⟩ dX9_driftOnce_133 (fun u55 H locs hG po53 => ?_)
              rw [po53] at hG
              exact ret _ _ _ _ _ hG rfl dX9_driftOnce_136
            refine n_if_ne (tgt := 127) X dX9_driftOnce_120 (by decide) (fun c56 => ?_) (fun c56 => ?_)
            · refine n_ic X dX9_driftOnce_127 (by decide) (by decide) (fun x57 t57 => ?_)
              exact J128 _ _ _ x57 (by omega) hG (lv_sub hl [2, 1, 0] rfl)
            · refine n_ic X dX9_driftOnce_123 (by decide) (by decide) (fun x58 t58 => ?_)
              refine lv_goto (tgt := 128) X.1 X.2.1 dX9_driftOnce_124 (by decide) ?_
              exact J128 _ _ _ x58 (by omega) hG (lv_sub hl [2, 1, 0] rfl)
    · refine lv_aload_n X.1 X.2.1 dX9_driftOnce_31 rfl (lv_at hl 1 rfl) ?_
      refine gf_9_1 X hG h900 q_296 dX9_driftOnce_32 (hN _ _ _ h900) (fun a59 h59 r59 => ?_)
      refine gf_3_0 X hG h59 q_165 dX9_driftOnce_35 (hN _ _ _ h59) (fun a60 h60 r60 => ?_)
      refine n_ic X dX9_driftOnce_38 (by decide) (by decide) (fun x61 t61 => ?_)
      refine pf_8_12 X hG h60 q_97 (by omega) dX9_driftOnce_39 (hF _ _ _ _ h60 (ty_in (n := 812) rfl) (ty_rno rfl)) (fun H locs hG => ?_)
      refine lv_goto (tgt := 129) X.1 X.2.1 dX9_driftOnce_42 (by decide) ?_
      refine lv_aload_n X.1 X.2.1 dX9_driftOnce_129 rfl (lv_at hl 1 rfl) ?_
      refine gf_9_1 X hG h900 q_296 dX9_driftOnce_130 (hN _ _ _ h900) (fun a62 h62 r62 => ?_)
      refine k_cVv X hG (c_X3_pass l D cy τ _ hN hR (ty_Wf.sub (S' := [303, 5000]) hF (by decide)) h62) h62 rfl yv_X3_pass q_674 ⟨rfl, rfl⟩ ⟨Nat.le_of_ble_eq_true rfl, Nat.le_of_ble_eq_true rfl⟩ rfl hl.1 rfl (Nat.le_of_ble_eq_true rfl) ⟨Nat.zero_le _, Nat.zero_le _⟩ dX9_driftOnce_133 (fun u65 H locs hG po63 => ?_)
      rw [po63] at hG
      exact ret _ _ _ _ _ hG rfl dX9_driftOnce_136
  · refine lv_aload_n X.1 X.2.1 dX9_driftOnce_12 rfl (lv_at hl 1 rfl) ?_
    refine gf_9_1 X hG h900 q_296 dX9_driftOnce_13 (hN _ _ _ h900) (fun a66 h66 r66 => ?_)
    refine gf_3_0 X hG h66 q_165 dX9_driftOnce_16 (hN _ _ _ h66) (fun a67 h67 r67 => ?_)
    refine n_ic X dX9_driftOnce_19 (by decide) (by decide) (fun x68 t68 => ?_)
    refine pf_8_12 X hG h67 q_97 (by omega) dX9_driftOnce_20 (hF _ _ _ _ h67 (ty_in (n := 812) rfl) (ty_rno rfl)) (fun H locs hG => ?_)
    refine lv_goto (tgt := 129) X.1 X.2.1 dX9_driftOnce_23 (by decide) ?_
    refine lv_aload_n X.1 X.2.1 dX9_driftOnce_129 rfl (lv_at hl 1 rfl) ?_
    refine gf_9_1 X hG h900 q_296 dX9_driftOnce_130 (hN _ _ _ h900) (fun a69 h69 r69 => ?_)
    refine k_cVv X hG (c_X3_pass l D cy τ _ hN hR (ty_Wf.sub (S' := [303, 5000]) hF (by decide)) h69) h69 rfl yv_X3_pass q_674 ⟨rfl, rfl⟩ ⟨Nat.le_of_ble_eq_true rfl, Nat.le_of_ble_eq_true rfl⟩ rfl hl.1 rfl (Nat.le_of_ble_eq_true rfl) ⟨Nat.zero_le _, Nat.zero_le _⟩ dX9_driftOnce_133 (fun u72 H locs hG po70 => ?_)
    rw [po70] at hG
    exact ret _ _ _ _ _ hG rfl dX9_driftOnce_136
set_option maxHeartbeats 4000000 in
set_option maxRecDepth 100000 in
theorem c_X9_fault (l : Launch) (D : va_G) (cy : Nat → ClassId) (τ : ty_T) (ρ : ty_R) {M : md_T} (hN : ty_N τ ρ) (hR : ty_Rg M τ ρ) (hF : ty_Wf M τ ρ []) {a900 : Nat} (h900 : τ a900 = some (0, 9)) : KI l D cy yX9_fault cX9_fault 1 .int (rL 0) τ ρ [.ref a900] (fun r u => u = ρ ∧ True) := by
  refine k_metI "EdgeEchoes" rfl (by decide +kernel) (Nat.le_of_ble_eq_true rfl) (fun _ _ _ => rfl) ?_
  intro p e s m args below meth c Q ls X hG hl ret
  have hl : lv_has ls 1 [(0, .ref a900)] := hl
  refine lv_aload_n X.1 X.2.1 dX9_fault_0 rfl (lv_at hl 0 rfl) ?_
  refine gf_9_7 X hG h900 q_302 dX9_fault_1 (fun x1 r1 => ?_)
  have g1 := cI_rng x1
  exact ret _ _ _ _ x1 _ hG ⟨rfl, trivial⟩ dX9_fault_4
set_option maxHeartbeats 4000000 in
set_option maxRecDepth 100000 in
theorem c_X9_told (l : Launch) (D : va_G) (cy : Nat → ClassId) (τ : ty_T) (ρ : ty_R) {M : md_T} (hN : ty_N τ ρ) (hR : ty_Rg M τ ρ) (hF : ty_Wf M τ ρ [106, 302, 303, 806, 807, 808, 809, 810, 811, 812, 5000, 6005]) {a900 : Nat} (h900 : τ a900 = some (0, 9)) (x901 : Int32) : KI l D cy yX9_told cX9_told 2 .int (rL 6) τ ρ [.ref a900, .int x901] (fun r u => u = ρ ∧ True) := by
  refine k_metI "EdgeEchoes" rfl (by decide +kernel) (Nat.le_of_ble_eq_true rfl) (fun _ _ _ => rfl) ?_
  intro p e s m args below meth c Q ls X hG hl ret
  have hl : lv_has ls 2 [(0, .ref a900), (1, .int x901)] := hl
  have g901 := cI_rng x901
  refine lv_iload_n X.1 X.2.1 dX9_told_0 rfl (lv_at hl 1 rfl) ?_
  rcases (show x901.toInt = 0 ∨ x901.toInt = 1 ∨ x901.toInt = 2 ∨ x901.toInt = 3 ∨ x901.toInt = 4 ∨ x901.toInt = 5 ∨ x901.toInt = 6 ∨ x901.toInt = 7 ∨ x901.toInt = 8 ∨ x901.toInt = 9 ∨ x901.toInt = 10 ∨ x901.toInt = 11 ∨ x901.toInt = 12 ∨ x901.toInt = 13 ∨ x901.toInt = 14 ∨ x901.toInt = 15 ∨ x901.toInt = 16 ∨ x901.toInt = 17 ∨ (x901.toInt < 0 ∨ 17 < x901.toInt) by omega) with c1 | c1 | c1 | c1 | c1 | c1 | c1 | c1 | c1 | c1 | c1 | c1 | c1 | c1 | c1 | c1 | c1 | c1 | c1
  · refine lv_tableIn (tgt := 88) (off := 87) X.1 X.2.1 dX9_told_1 (by omega) (by omega) (by rw [c1]; rfl) (by decide) ?_
    refine lv_aload_n X.1 X.2.1 dX9_told_88 rfl (lv_at hl 0 rfl) ?_
    refine gf_9_1 X hG h900 q_296 dX9_told_89 (hN _ _ _ h900) (fun a2 h2 r2 => ?_)
    refine gf_3_2 X hG h2 q_173 dX9_told_92 (fun x3 b3 r3 => ?_)
    refine n_if_eq (tgt := 102) X dX9_told_95 (by decide) (fun c4 => ?_) (fun c4 => ?_)
    · refine n_ic X dX9_told_102 (by decide) (by decide) (fun x5 t5 => ?_)
      exact ret _ _ _ _ x5 _ hG ⟨rfl, trivial⟩ dX9_told_103
    · refine n_ic X dX9_told_98 (by decide) (by decide) (fun x6 t6 => ?_)
      refine lv_goto (tgt := 103) X.1 X.2.1 dX9_told_99 (by decide) ?_
      exact ret _ _ _ _ x6 _ hG ⟨rfl, trivial⟩ dX9_told_103
  · refine lv_tableIn (tgt := 104) (off := 103) X.1 X.2.1 dX9_told_1 (by omega) (by omega) (by rw [c1]; rfl) (by decide) ?_
    refine lv_aload_n X.1 X.2.1 dX9_told_104 rfl (lv_at hl 0 rfl) ?_
    refine gf_9_1 X hG h900 q_296 dX9_told_105 (hN _ _ _ h900) (fun a7 h7 r7 => ?_)
    refine gf_3_0 X hG h7 q_165 dX9_told_108 (hN _ _ _ h7) (fun a8 h8 r8 => ?_)
    refine gf_8_6 X hG h8 q_79 dX9_told_111 (fun x9 r9 => ?_)
    have b9 := (hR _ _ _ _ h8 r9) _ _ rfl
    exact ret _ _ _ _ x9 _ hG ⟨rfl, trivial⟩ dX9_told_114
  · refine lv_tableIn (tgt := 115) (off := 114) X.1 X.2.1 dX9_told_1 (by omega) (by omega) (by rw [c1]; rfl) (by decide) ?_
    refine lv_aload_n X.1 X.2.1 dX9_told_115 rfl (lv_at hl 0 rfl) ?_
    refine gf_9_1 X hG h900 q_296 dX9_told_116 (hN _ _ _ h900) (fun a10 h10 r10 => ?_)
    refine gf_3_0 X hG h10 q_165 dX9_told_119 (hN _ _ _ h10) (fun a11 h11 r11 => ?_)
    refine gf_8_7 X hG h11 q_82 dX9_told_122 (fun x12 r12 => ?_)
    have b12 := (hR _ _ _ _ h11 r12) _ _ rfl
    exact ret _ _ _ _ x12 _ hG ⟨rfl, trivial⟩ dX9_told_125
  · refine lv_tableIn (tgt := 126) (off := 125) X.1 X.2.1 dX9_told_1 (by omega) (by omega) (by rw [c1]; rfl) (by decide) ?_
    refine lv_aload_n X.1 X.2.1 dX9_told_126 rfl (lv_at hl 0 rfl) ?_
    refine gf_9_1 X hG h900 q_296 dX9_told_127 (hN _ _ _ h900) (fun a13 h13 r13 => ?_)
    refine gf_3_1 X hG h13 q_168 dX9_told_130 (hN _ _ _ h13) (fun a14 h14 r14 => ?_)
    refine gf_1_6 X hG h14 q_145 dX9_told_133 (fun x15 r15 => ?_)
    have b15 := (hR _ _ _ _ h14 r15) _ _ rfl
    exact ret _ _ _ _ x15 _ hG ⟨rfl, trivial⟩ dX9_told_136
  · refine lv_tableIn (tgt := 137) (off := 136) X.1 X.2.1 dX9_told_1 (by omega) (by omega) (by rw [c1]; rfl) (by decide) ?_
    refine lv_aload_n X.1 X.2.1 dX9_told_137 rfl (lv_at hl 0 rfl) ?_
    refine gf_9_0 X hG h900 q_295 dX9_told_138 (hN _ _ _ h900) (fun a16 h16 r16 => ?_)
    refine gf_6_2 X hG h16 q_37 dX9_told_141 (fun x17 r17 => ?_)
    have g17 := cI_rng x17
    exact ret _ _ _ _ x17 _ hG ⟨rfl, trivial⟩ dX9_told_144
  · refine lv_tableIn (tgt := 145) (off := 144) X.1 X.2.1 dX9_told_1 (by omega) (by omega) (by rw [c1]; rfl) (by decide) ?_
    refine lv_aload_n X.1 X.2.1 dX9_told_145 rfl (lv_at hl 0 rfl) ?_
    refine gf_9_1 X hG h900 q_296 dX9_told_146 (hN _ _ _ h900) (fun a18 h18 r18 => ?_)
    refine gf_3_0 X hG h18 q_165 dX9_told_149 (hN _ _ _ h18) (fun a19 h19 r19 => ?_)
    refine gf_8_8 X hG h19 q_85 dX9_told_152 (fun x20 r20 => ?_)
    have g20 := cI_rng x20
    exact ret _ _ _ _ x20 _ hG ⟨rfl, trivial⟩ dX9_told_155
  · refine lv_tableIn (tgt := 156) (off := 155) X.1 X.2.1 dX9_told_1 (by omega) (by omega) (by rw [c1]; rfl) (by decide) ?_
    refine lv_aload_n X.1 X.2.1 dX9_told_156 rfl (lv_at hl 0 rfl) ?_
    refine gf_9_1 X hG h900 q_296 dX9_told_157 (hN _ _ _ h900) (fun a21 h21 r21 => ?_)
    refine gf_3_0 X hG h21 q_165 dX9_told_160 (hN _ _ _ h21) (fun a22 h22 r22 => ?_)
    refine gf_8_9 X hG h22 q_89 dX9_told_163 (fun x23 r23 => ?_)
    have g23 := cI_rng x23
    exact ret _ _ _ _ x23 _ hG ⟨rfl, trivial⟩ dX9_told_166
  · refine lv_tableIn (tgt := 167) (off := 166) X.1 X.2.1 dX9_told_1 (by omega) (by omega) (by rw [c1]; rfl) (by decide) ?_
    refine lv_aload_n X.1 X.2.1 dX9_told_167 rfl (lv_at hl 0 rfl) ?_
    refine gf_9_1 X hG h900 q_296 dX9_told_168 (hN _ _ _ h900) (fun a24 h24 r24 => ?_)
    refine gf_3_0 X hG h24 q_165 dX9_told_171 (hN _ _ _ h24) (fun a25 h25 r25 => ?_)
    refine gf_8_12 X hG h25 q_97 dX9_told_174 (fun x26 b26 r26 => ?_)
    refine n_if_eq (tgt := 184) X dX9_told_177 (by decide) (fun c27 => ?_) (fun c27 => ?_)
    · refine n_ic X dX9_told_184 (by decide) (by decide) (fun x28 t28 => ?_)
      exact ret _ _ _ _ x28 _ hG ⟨rfl, trivial⟩ dX9_told_185
    · refine n_ic X dX9_told_180 (by decide) (by decide) (fun x29 t29 => ?_)
      refine lv_goto (tgt := 185) X.1 X.2.1 dX9_told_181 (by decide) ?_
      exact ret _ _ _ _ x29 _ hG ⟨rfl, trivial⟩ dX9_told_185
  · refine lv_tableIn (tgt := 186) (off := 185) X.1 X.2.1 dX9_told_1 (by omega) (by omega) (by rw [c1]; rfl) (by decide) ?_
    refine lv_aload_n X.1 X.2.1 dX9_told_186 rfl (lv_at hl 0 rfl) ?_
    refine gf_9_1 X hG h900 q_296 dX9_told_187 (hN _ _ _ h900) (fun a30 h30 r30 => ?_)
    refine gf_3_0 X hG h30 q_165 dX9_told_190 (hN _ _ _ h30) (fun a31 h31 r31 => ?_)
    refine gf_8_10 X hG h31 q_92 dX9_told_193 (fun x32 r32 => ?_)
    have g32 := cI_rng x32
    exact ret _ _ _ _ x32 _ hG ⟨rfl, trivial⟩ dX9_told_196
  · refine lv_tableIn (tgt := 197) (off := 196) X.1 X.2.1 dX9_told_1 (by omega) (by omega) (by rw [c1]; rfl) (by decide) ?_
    refine lv_aload_n X.1 X.2.1 dX9_told_197 rfl (lv_at hl 0 rfl) ?_
    refine gf_9_1 X hG h900 q_296 dX9_told_198 (hN _ _ _ h900) (fun a33 h33 r33 => ?_)
    refine gf_3_0 X hG h33 q_165 dX9_told_201 (hN _ _ _ h33) (fun a34 h34 r34 => ?_)
    refine gf_8_11 X hG h34 q_94 dX9_told_204 (fun x35 r35 => ?_)
    have g35 := cI_rng x35
    exact ret _ _ _ _ x35 _ hG ⟨rfl, trivial⟩ dX9_told_207
  · refine lv_tableIn (tgt := 208) (off := 207) X.1 X.2.1 dX9_told_1 (by omega) (by omega) (by rw [c1]; rfl) (by decide) ?_
    refine lv_aload_n X.1 X.2.1 dX9_told_208 rfl (lv_at hl 0 rfl) ?_
    refine gf_9_1 X hG h900 q_296 dX9_told_209 (hN _ _ _ h900) (fun a36 h36 r36 => ?_)
    refine gf_3_3 X hG h36 q_175 dX9_told_212 (fun x37 r37 => ?_)
    have g37 := cI_rng x37
    exact ret _ _ _ _ x37 _ hG ⟨rfl, trivial⟩ dX9_told_215
  · refine lv_tableIn (tgt := 216) (off := 215) X.1 X.2.1 dX9_told_1 (by omega) (by omega) (by rw [c1]; rfl) (by decide) ?_
    refine lv_aload_n X.1 X.2.1 dX9_told_216 rfl (lv_at hl 0 rfl) ?_
    refine gf_9_1 X hG h900 q_296 dX9_told_217 (hN _ _ _ h900) (fun a38 h38 r38 => ?_)
    refine gf_3_1 X hG h38 q_168 dX9_told_220 (hN _ _ _ h38) (fun a39 h39 r39 => ?_)
    refine k_cVi X hG (c_X1_sightSet l D cy τ _ hN hR (ty_Wf.sub (S' := []) hF (by decide)) h39) h39 rfl yv_X1_sightSet q_541 ⟨rfl, rfl⟩ ⟨Nat.le_of_ble_eq_true rfl, Nat.le_of_ble_eq_true rfl⟩ rfl hl.1 rfl (Nat.le_of_ble_eq_true rfl) ⟨Nat.zero_le _, Nat.zero_le _⟩ dX9_told_223 (fun x41 u42 H locs hG po40 => ?_)
    obtain ⟨eu42, po40⟩ := po40
    rw [eu42] at hG
    have g41 := cI_rng x41
    exact ret _ _ _ _ x41 _ hG ⟨rfl, trivial⟩ dX9_told_226
  · refine lv_tableIn (tgt := 227) (off := 226) X.1 X.2.1 dX9_told_1 (by omega) (by omega) (by rw [c1]; rfl) (by decide) ?_
    refine lv_aload_n X.1 X.2.1 dX9_told_227 rfl (lv_at hl 0 rfl) ?_
    refine gf_9_2 X hG h900 q_297 dX9_told_228 (hN _ _ _ h900) (fun a43 h43 r43 => ?_)
    refine lv_aload_n X.1 X.2.1 dX9_told_231 rfl (lv_at hl 0 rfl) ?_
    refine gf_9_1 X hG h900 q_296 dX9_told_232 (hN _ _ _ h900) (fun a44 h44 r44 => ?_)
    refine lv_aload_n X.1 X.2.1 dX9_told_235 rfl (lv_at hl 0 rfl) ?_
    refine gf_9_1 X hG h900 q_296 dX9_told_236 (hN _ _ _ h900) (fun a45 h45 r45 => ?_)
    refine gf_3_0 X hG h45 q_165 dX9_told_239 (hN _ _ _ h45) (fun a46 h46 r46 => ?_)
    refine gf_8_8 X hG h46 q_85 dX9_told_242 (fun x47 r47 => ?_)
    have g47 := cI_rng x47
    refine n_ldc X q_545 (n := 2147483647) (by decide +kernel) dX9_told_245 (fun x48 t48 => ?_)
    refine k_cVi X hG (c_X7_overOf l D cy τ _ hN hR (ty_Wf.sub (S' := [106, 302, 303, 806, 807, 808, 809, 810, 811, 812, 5000, 6005]) hF (by decide)) h43 h44 x47 x48) h43 rfl yv_X7_overOf q_546 ⟨rfl, rfl⟩ ⟨Nat.le_of_ble_eq_true rfl, Nat.le_of_ble_eq_true rfl⟩ rfl hl.1 rfl (Nat.le_of_ble_eq_true rfl) ⟨Nat.zero_le _, Nat.zero_le _⟩ dX9_told_247 (fun x50 u51 H locs hG po49 => ?_)
    obtain ⟨eu51, po49⟩ := po49
    rw [eu51] at hG
    have g50 := cI_rng x50
    exact ret _ _ _ _ x50 _ hG ⟨rfl, trivial⟩ dX9_told_250
  · refine lv_tableIn (tgt := 251) (off := 250) X.1 X.2.1 dX9_told_1 (by omega) (by omega) (by rw [c1]; rfl) (by decide) ?_
    refine lv_aload_n X.1 X.2.1 dX9_told_251 rfl (lv_at hl 0 rfl) ?_
    refine gf_9_2 X hG h900 q_297 dX9_told_252 (hN _ _ _ h900) (fun a52 h52 r52 => ?_)
    refine lv_aload_n X.1 X.2.1 dX9_told_255 rfl (lv_at hl 0 rfl) ?_
    refine gf_9_1 X hG h900 q_296 dX9_told_256 (hN _ _ _ h900) (fun a53 h53 r53 => ?_)
    refine k_cVi X hG (c_X7_bestDriverOf l D cy τ _ hN hR (ty_Wf.sub (S' := [106, 302, 303, 806, 807, 808, 809, 810, 811, 812, 5000, 6005]) hF (by decide)) h52 h53) h52 rfl yv_X7_bestDriverOf q_594 ⟨rfl, rfl⟩ ⟨Nat.le_of_ble_eq_true rfl, Nat.le_of_ble_eq_true rfl⟩ rfl hl.1 rfl (Nat.le_of_ble_eq_true rfl) ⟨Nat.zero_le _, Nat.zero_le _⟩ dX9_told_259 (fun x55 u56 H locs hG po54 => ?_)
    obtain ⟨eu56, po54⟩ := po54
    rw [eu56] at hG
    have g55 := cI_rng x55
    exact ret _ _ _ _ x55 _ hG ⟨rfl, trivial⟩ dX9_told_262
  · refine lv_tableIn (tgt := 263) (off := 262) X.1 X.2.1 dX9_told_1 (by omega) (by omega) (by rw [c1]; rfl) (by decide) ?_
    refine lv_aload_n X.1 X.2.1 dX9_told_263 rfl (lv_at hl 0 rfl) ?_
    refine gf_9_2 X hG h900 q_297 dX9_told_264 (hN _ _ _ h900) (fun a57 h57 r57 => ?_)
    refine lv_aload_n X.1 X.2.1 dX9_told_267 rfl (lv_at hl 0 rfl) ?_
    refine gf_9_1 X hG h900 q_296 dX9_told_268 (hN _ _ _ h900) (fun a58 h58 r58 => ?_)
    refine k_cVi X hG (c_X7_firstBackOf l D cy τ _ hN hR (ty_Wf.sub (S' := [106, 302, 303, 806, 807, 808, 809, 810, 811, 812, 5000, 6005]) hF (by decide)) h57 h58) h57 rfl yv_X7_firstBackOf q_600 ⟨rfl, rfl⟩ ⟨Nat.le_of_ble_eq_true rfl, Nat.le_of_ble_eq_true rfl⟩ rfl hl.1 rfl (Nat.le_of_ble_eq_true rfl) ⟨Nat.zero_le _, Nat.zero_le _⟩ dX9_told_271 (fun x60 u61 H locs hG po59 => ?_)
    obtain ⟨eu61, po59⟩ := po59
    rw [eu61] at hG
    have g60 := cI_rng x60
    exact ret _ _ _ _ x60 _ hG ⟨rfl, trivial⟩ dX9_told_274
  · refine lv_tableIn (tgt := 275) (off := 274) X.1 X.2.1 dX9_told_1 (by omega) (by omega) (by rw [c1]; rfl) (by decide) ?_
    refine lv_aload_n X.1 X.2.1 dX9_told_275 rfl (lv_at hl 0 rfl) ?_
    refine gf_9_4 X hG h900 q_299 dX9_told_276 (hN _ _ _ h900) (fun a62 h62 r62 => ?_)
    refine gf_5_4 X hG h62 q_233 dX9_told_279 (fun x63 r63 => ?_)
    have g63 := cI_rng x63
    exact ret _ _ _ _ x63 _ hG ⟨rfl, trivial⟩ dX9_told_282
  · refine lv_tableIn (tgt := 283) (off := 282) X.1 X.2.1 dX9_told_1 (by omega) (by omega) (by rw [c1]; rfl) (by decide) ?_
    refine lv_aload_n X.1 X.2.1 dX9_told_283 rfl (lv_at hl 0 rfl) ?_
    refine gf_9_5 X hG h900 q_300 dX9_told_284 (hN _ _ _ h900) (fun a64 h64 r64 => ?_)
    refine gf_0_2 X hG h64 q_267 dX9_told_287 (fun x65 r65 => ?_)
    have g65 := cI_rng x65
    exact ret _ _ _ _ x65 _ hG ⟨rfl, trivial⟩ dX9_told_290
  · refine lv_tableIn (tgt := 291) (off := 290) X.1 X.2.1 dX9_told_1 (by omega) (by omega) (by rw [c1]; rfl) (by decide) ?_
    refine lv_aload_n X.1 X.2.1 dX9_told_291 rfl (lv_at hl 0 rfl) ?_
    refine gf_9_3 X hG h900 q_298 dX9_told_292 (hN _ _ _ h900) (fun a66 h66 r66 => ?_)
    refine gf_4_1 X hG h66 q_213 dX9_told_295 (fun x67 r67 => ?_)
    have g67 := cI_rng x67
    exact ret _ _ _ _ x67 _ hG ⟨rfl, trivial⟩ dX9_told_298
  · refine lv_tableOut (tgt := 299) X.1 X.2.1 dX9_told_1 c1 (by decide) ?_
    refine n_ldc X q_327 (n := -1000000002) (by decide +kernel) dX9_told_299 (fun x68 t68 => ?_)
    exact ret _ _ _ _ x68 _ hG ⟨rfl, trivial⟩ dX9_told_301
set_option maxHeartbeats 4000000 in
set_option maxRecDepth 100000 in
theorem c_X9_wire (l : Launch) (D : va_G) (cy : Nat → ClassId) (τ : ty_T) (ρ : ty_R) {M : md_T} (hN : ty_N τ ρ) (hR : ty_Rg M τ ρ) (hF : ty_Wf M τ ρ []) {a900 : Nat} (h900 : τ a900 = some (0, 9)) (x901 : Int32) (x902 : Int32) : KI l D cy yX9_wire cX9_wire 3 .int (rL 1) τ ρ [.ref a900, .int x901, .int x902] (fun r u => u = ρ ∧ True) := by
  refine k_metI "EdgeEchoes" rfl (by decide +kernel) (Nat.le_of_ble_eq_true rfl) (fun _ _ _ => rfl) ?_
  intro p e s m args below meth c Q ls X hG hl ret
  have hl : lv_has ls 3 [(0, .ref a900), (1, .int x901), (2, .int x902)] := hl
  have g901 := cI_rng x901
  have g902 := cI_rng x902
  refine lv_aload_n X.1 X.2.1 dX9_wire_0 rfl (lv_at hl 0 rfl) ?_
  refine gf_9_1 X hG h900 q_296 dX9_wire_1 (hN _ _ _ h900) (fun a1 h1 r1 => ?_)
  refine gf_3_0 X hG h1 q_165 dX9_wire_4 (hN _ _ _ h1) (fun a2 h2 r2 => ?_)
  refine lv_iload_n X.1 X.2.1 dX9_wire_7 rfl (lv_at hl 1 rfl) ?_
  refine k_cVi X hG (c_X8_hasPiece l D cy τ _ hN hR (ty_Wf.sub (S' := []) hF (by decide)) h2 x901) h2 rfl yv_X8_hasPiece q_608 ⟨rfl, rfl⟩ ⟨Nat.le_of_ble_eq_true rfl, Nat.le_of_ble_eq_true rfl⟩ rfl hl.1 rfl (Nat.le_of_ble_eq_true rfl) ⟨Nat.zero_le _, Nat.zero_le _⟩ dX9_wire_8 (fun x4 u5 H locs hG po3 => ?_)
  obtain ⟨eu5, po3⟩ := po3
  rw [eu5] at hG
  refine n_if_ne (tgt := 17) X dX9_wire_11 (by decide) (fun c6 => ?_) (fun c6 => ?_)
  · refine lv_iload_n X.1 X.2.1 dX9_wire_17 rfl (lv_at hl 2 rfl) ?_
    rcases (show x902.toInt = 0 ∨ x902.toInt = 1 ∨ x902.toInt = 2 ∨ (x902.toInt < 0 ∨ 2 < x902.toInt) by omega) with c7 | c7 | c7 | c7
    · refine lv_tableIn (tgt := 44) (off := 26) X.1 X.2.1 dX9_wire_18 (by omega) (by omega) (by rw [c7]; rfl) (by decide) ?_
      refine lv_aload_n X.1 X.2.1 dX9_wire_44 rfl (lv_at hl 0 rfl) ?_
      refine gf_9_1 X hG h900 q_296 dX9_wire_45 (hN _ _ _ h900) (fun a8 h8 r8 => ?_)
      refine gf_3_0 X hG h8 q_165 dX9_wire_48 (hN _ _ _ h8) (fun a9 h9 r9 => ?_)
      refine gf_8_0 X hG h9 q_66 dX9_wire_51 (hN _ _ _ h9) (fun a10 h10 r10 => ?_)
      refine lv_iload_n X.1 X.2.1 dX9_wire_54 rfl (lv_at hl 1 rfl) ?_
      refine tg_iald X hG h10 rfl (cI_in (n := 8) (by omega)) dX9_wire_55 (fun x11 r11 => ?_)
      exact ret _ _ _ _ x11 _ hG ⟨rfl, trivial⟩ dX9_wire_56
    · refine lv_tableIn (tgt := 57) (off := 39) X.1 X.2.1 dX9_wire_18 (by omega) (by omega) (by rw [c7]; rfl) (by decide) ?_
      refine lv_aload_n X.1 X.2.1 dX9_wire_57 rfl (lv_at hl 0 rfl) ?_
      refine gf_9_1 X hG h900 q_296 dX9_wire_58 (hN _ _ _ h900) (fun a12 h12 r12 => ?_)
      refine gf_3_0 X hG h12 q_165 dX9_wire_61 (hN _ _ _ h12) (fun a13 h13 r13 => ?_)
      refine gf_8_1 X hG h13 q_68 dX9_wire_64 (hN _ _ _ h13) (fun a14 h14 r14 => ?_)
      refine lv_iload_n X.1 X.2.1 dX9_wire_67 rfl (lv_at hl 1 rfl) ?_
      refine tg_iald X hG h14 rfl (cI_in (n := 8) (by omega)) dX9_wire_68 (fun x15 r15 => ?_)
      have b15 := (hR _ _ _ _ h14 r15) _ _ rfl
      exact ret _ _ _ _ x15 _ hG ⟨rfl, trivial⟩ dX9_wire_69
    · refine lv_tableIn (tgt := 70) (off := 52) X.1 X.2.1 dX9_wire_18 (by omega) (by omega) (by rw [c7]; rfl) (by decide) ?_
      refine lv_aload_n X.1 X.2.1 dX9_wire_70 rfl (lv_at hl 0 rfl) ?_
      refine gf_9_1 X hG h900 q_296 dX9_wire_71 (hN _ _ _ h900) (fun a16 h16 r16 => ?_)
      refine gf_3_0 X hG h16 q_165 dX9_wire_74 (hN _ _ _ h16) (fun a17 h17 r17 => ?_)
      refine lv_iload_n X.1 X.2.1 dX9_wire_77 rfl (lv_at hl 1 rfl) ?_
      refine k_cVi X hG (c_X8_firstCellOf l D cy τ _ hN hR (ty_Wf.sub (S' := []) hF (by decide)) h17 x901) h17 rfl yv_X8_firstCellOf q_610 ⟨rfl, rfl⟩ ⟨Nat.le_of_ble_eq_true rfl, Nat.le_of_ble_eq_true rfl⟩ rfl hl.1 rfl (Nat.le_of_ble_eq_true rfl) ⟨Nat.zero_le _, Nat.zero_le _⟩ dX9_wire_78 (fun x19 u20 H locs hG po18 => ?_)
      obtain ⟨eu20, po18⟩ := po18
      rw [eu20] at hG
      exact ret _ _ _ _ x19 _ hG ⟨rfl, trivial⟩ dX9_wire_81
    · refine lv_tableOut (tgt := 82) X.1 X.2.1 dX9_wire_18 c7 (by decide) ?_
      refine n_ldc X q_327 (n := -1000000002) (by decide +kernel) dX9_wire_82 (fun x21 t21 => ?_)
      exact ret _ _ _ _ x21 _ hG ⟨rfl, trivial⟩ dX9_wire_84
  · refine n_ldc X q_609 (n := -1000000001) (by decide +kernel) dX9_wire_14 (fun x22 t22 => ?_)
    exact ret _ _ _ _ x22 _ hG ⟨rfl, trivial⟩ dX9_wire_16
set_option maxHeartbeats 4000000 in
set_option maxRecDepth 100000 in
theorem c_X9_cell (l : Launch) (D : va_G) (cy : Nat → ClassId) (τ : ty_T) (ρ : ty_R) {M : md_T} (hN : ty_N τ ρ) (hR : ty_Rg M τ ρ) (hF : ty_Wf M τ ρ []) {a900 : Nat} (h900 : τ a900 = some (0, 9)) (x901 : Int32) (x902 : Int32) : KI l D cy yX9_cell cX9_cell 3 .int (rL 1) τ ρ [.ref a900, .int x901, .int x902] (fun r u => u = ρ ∧ True) := by
  refine k_metI "EdgeEchoes" rfl (by decide +kernel) (Nat.le_of_ble_eq_true rfl) (fun _ _ _ => rfl) ?_
  intro p e s m args below meth c Q ls X hG hl ret
  have hl : lv_has ls 3 [(0, .ref a900), (1, .int x901), (2, .int x902)] := hl
  have g901 := cI_rng x901
  have g902 := cI_rng x902
  refine lv_iload_n X.1 X.2.1 dX9_cell_0 rfl (lv_at hl 1 rfl) ?_
  refine n_if_lt (tgt := 19) X dX9_cell_1 (by decide) (fun c1 => ?_) (fun c1 => ?_)
  · refine n_ldc X q_327 (n := -1000000002) (by decide +kernel) dX9_cell_19 (fun x2 t2 => ?_)
    exact ret _ _ _ _ x2 _ hG ⟨rfl, trivial⟩ dX9_cell_21
  · refine lv_iload_n X.1 X.2.1 dX9_cell_4 rfl (lv_at hl 1 rfl) ?_
    refine n_bp X dX9_cell_5 (by decide) (by decide) (fun x3 t3 => ?_)
    refine n_icmp_ge (tgt := 19) X dX9_cell_7 (by decide) (fun c4 => ?_) (fun c4 => ?_)
    · refine n_ldc X q_327 (n := -1000000002) (by decide +kernel) dX9_cell_19 (fun x5 t5 => ?_)
      exact ret _ _ _ _ x5 _ hG ⟨rfl, trivial⟩ dX9_cell_21
    · refine lv_iload_n X.1 X.2.1 dX9_cell_10 rfl (lv_at hl 2 rfl) ?_
      refine n_if_lt (tgt := 19) X dX9_cell_11 (by decide) (fun c6 => ?_) (fun c6 => ?_)
      · refine n_ldc X q_327 (n := -1000000002) (by decide +kernel) dX9_cell_19 (fun x7 t7 => ?_)
        exact ret _ _ _ _ x7 _ hG ⟨rfl, trivial⟩ dX9_cell_21
      · refine lv_iload_n X.1 X.2.1 dX9_cell_14 rfl (lv_at hl 2 rfl) ?_
        refine n_ic X dX9_cell_15 (by decide) (by decide) (fun x8 t8 => ?_)
        refine n_icmp_le (tgt := 22) X dX9_cell_16 (by decide) (fun c9 => ?_) (fun c9 => ?_)
        · refine lv_iload_n X.1 X.2.1 dX9_cell_22 rfl (lv_at hl 2 rfl) ?_
          rcases (show x902.toInt = 0 ∨ x902.toInt = 1 ∨ (x902.toInt ≠ 0 ∧ x902.toInt ≠ 1) by omega) with c10 | c10 | c10
          · refine lv_lookup (tgt := 48) (off := 25) X.1 X.2.1 dX9_cell_23 (by decide) (by rw [c10]; rfl) (by decide) ?_
            refine n_ldc X q_615 (n := 1000000) (by decide +kernel) dX9_cell_48 (fun x11 t11 => ?_)
            refine lv_aload_n X.1 X.2.1 dX9_cell_50 rfl (lv_at hl 0 rfl) ?_
            refine gf_9_1 X hG h900 q_296 dX9_cell_51 (hN _ _ _ h900) (fun a12 h12 r12 => ?_)
            refine gf_3_0 X hG h12 q_165 dX9_cell_54 (hN _ _ _ h12) (fun a13 h13 r13 => ?_)
            refine lv_iload_n X.1 X.2.1 dX9_cell_57 rfl (lv_at hl 1 rfl) ?_
            refine k_cVi X hG (c_X8_voltsAt l D cy τ _ hN hR (ty_Wf.sub (S' := []) hF (by decide)) h13 x901) h13 rfl yv_X8_voltsAt q_616 ⟨rfl, rfl⟩ ⟨Nat.le_of_ble_eq_true rfl, Nat.le_of_ble_eq_true rfl⟩ rfl hl.1 rfl (Nat.le_of_ble_eq_true rfl) ⟨Nat.zero_le _, Nat.zero_le _⟩ dX9_cell_58 (fun x15 u16 H locs hG po14 => ?_)
            obtain ⟨eu16, po14⟩ := po14
            rw [eu16] at hG
            have g15 := cI_rng x15
            refine lv_iadd X.1 X.2.1 dX9_cell_61 ?_
            refine n_any (fun x17 => ?_)
            exact ret _ _ _ _ x17 _ hG ⟨rfl, trivial⟩ dX9_cell_62
          · refine lv_lookup (tgt := 63) (off := 40) X.1 X.2.1 dX9_cell_23 (by decide) (by rw [c10]; rfl) (by decide) ?_
            refine n_ldc X q_615 (n := 1000000) (by decide +kernel) dX9_cell_63 (fun x18 t18 => ?_)
            refine lv_aload_n X.1 X.2.1 dX9_cell_65 rfl (lv_at hl 0 rfl) ?_
            refine gf_9_1 X hG h900 q_296 dX9_cell_66 (hN _ _ _ h900) (fun a19 h19 r19 => ?_)
            refine gf_3_0 X hG h19 q_165 dX9_cell_69 (hN _ _ _ h19) (fun a20 h20 r20 => ?_)
            refine gf_8_3 X hG h20 q_71 dX9_cell_72 (hN _ _ _ h20) (fun a21 h21 r21 => ?_)
            refine lv_iload_n X.1 X.2.1 dX9_cell_75 rfl (lv_at hl 1 rfl) ?_
            refine tg_iald X hG h21 rfl (cI_in (n := 72) (by omega)) dX9_cell_76 (fun x22 r22 => ?_)
            refine lv_iadd X.1 X.2.1 dX9_cell_77 ?_
            refine n_any (fun x23 => ?_)
            exact ret _ _ _ _ x23 _ hG ⟨rfl, trivial⟩ dX9_cell_78
          · refine lv_lookup (tgt := 79) (off := 56) X.1 X.2.1 dX9_cell_23 (by decide) (by simp [Op.lookupswitch.offset, show ((0 : Int) = x902.toInt) = False from eq_false (by omega), show ((1 : Int) = x902.toInt) = False from eq_false (by omega)]) (by decide) ?_
            refine n_ldc X q_615 (n := 1000000) (by decide +kernel) dX9_cell_79 (fun x24 t24 => ?_)
            refine lv_aload_n X.1 X.2.1 dX9_cell_81 rfl (lv_at hl 0 rfl) ?_
            refine gf_9_1 X hG h900 q_296 dX9_cell_82 (hN _ _ _ h900) (fun a25 h25 r25 => ?_)
            refine gf_3_0 X hG h25 q_165 dX9_cell_85 (hN _ _ _ h25) (fun a26 h26 r26 => ?_)
            refine gf_8_4 X hG h26 q_73 dX9_cell_88 (hN _ _ _ h26) (fun a27 h27 r27 => ?_)
            refine lv_iload_n X.1 X.2.1 dX9_cell_91 rfl (lv_at hl 1 rfl) ?_
            refine tg_iald X hG h27 rfl (cI_in (n := 72) (by omega)) dX9_cell_92 (fun x28 r28 => ?_)
            refine lv_iadd X.1 X.2.1 dX9_cell_93 ?_
            refine n_any (fun x29 => ?_)
            exact ret _ _ _ _ x29 _ hG ⟨rfl, trivial⟩ dX9_cell_94
        · refine n_ldc X q_327 (n := -1000000002) (by decide +kernel) dX9_cell_19 (fun x30 t30 => ?_)
          exact ret _ _ _ _ x30 _ hG ⟨rfl, trivial⟩ dX9_cell_21
set_option maxHeartbeats 4000000 in
set_option maxRecDepth 100000 in
theorem c_X9_place (l : Launch) (D : va_G) (cy : Nat → ClassId) (τ : ty_T) (ρ : ty_R) {M : md_T} (hN : ty_N τ ρ) (hR : ty_Rg M τ ρ) (hF : ty_Wf M τ ρ []) {a900 : Nat} (h900 : τ a900 = some (0, 9)) (x901 : Int32) : KI l D cy yX9_place cX9_place 2 .int (rL 1) τ ρ [.ref a900, .int x901] (fun r u => u = ρ ∧ True) := by
  refine k_metI "EdgeEchoes" rfl (by decide +kernel) (Nat.le_of_ble_eq_true rfl) (fun _ _ _ => rfl) ?_
  intro p e s m args below meth c Q ls X hG hl ret
  have hl : lv_has ls 2 [(0, .ref a900), (1, .int x901)] := hl
  have g901 := cI_rng x901
  refine lv_iload_n X.1 X.2.1 dX9_place_0 rfl (lv_at hl 1 rfl) ?_
  refine k_cSi X hG (c_X9_isPlaceNumber l D cy τ _ hN hR (ty_Wf.sub (S' := []) hF (by decide)) x901) ys_X9_isPlaceNumber q_621 ⟨rfl, rfl⟩ ⟨Nat.le_of_ble_eq_true rfl, Nat.le_of_ble_eq_true rfl⟩ rfl hl.1 rfl (Nat.le_of_ble_eq_true rfl) ⟨Nat.zero_le _, Nat.zero_le _⟩ dX9_place_1 (fun x2 u3 H locs hG po1 => ?_)
  obtain ⟨eu3, po1⟩ := po1
  rw [eu3] at hG
  refine n_if_ne (tgt := 10) X dX9_place_4 (by decide) (fun c4 => ?_) (fun c4 => ?_)
  · refine lv_aload_n X.1 X.2.1 dX9_place_10 rfl (lv_at hl 0 rfl) ?_
    refine gf_9_1 X hG h900 q_296 dX9_place_11 (hN _ _ _ h900) (fun a5 h5 r5 => ?_)
    refine gf_3_0 X hG h5 q_165 dX9_place_14 (hN _ _ _ h5) (fun a6 h6 r6 => ?_)
    refine lv_iload_n X.1 X.2.1 dX9_place_17 rfl (lv_at hl 1 rfl) ?_
    refine k_cVi X hG (c_X8_hasPlace l D cy τ _ hN hR (ty_Wf.sub (S' := []) hF (by decide)) h6 x901) h6 rfl yv_X8_hasPlace q_624 ⟨rfl, rfl⟩ ⟨Nat.le_of_ble_eq_true rfl, Nat.le_of_ble_eq_true rfl⟩ rfl hl.1 rfl (Nat.le_of_ble_eq_true rfl) ⟨Nat.zero_le _, Nat.zero_le _⟩ dX9_place_18 (fun x8 u9 H locs hG po7 => ?_)
    obtain ⟨eu9, po7⟩ := po7
    rw [eu9] at hG
    refine n_if_eq (tgt := 39) X dX9_place_21 (by decide) (fun c10 => ?_) (fun c10 => ?_)
    · refine n_ic X dX9_place_39 (by decide) (by decide) (fun x11 t11 => ?_)
      exact ret _ _ _ _ x11 _ hG ⟨rfl, trivial⟩ dX9_place_40
    · refine lv_aload_n X.1 X.2.1 dX9_place_24 rfl (lv_at hl 0 rfl) ?_
      refine gf_9_1 X hG h900 q_296 dX9_place_25 (hN _ _ _ h900) (fun a12 h12 r12 => ?_)
      refine gf_3_0 X hG h12 q_165 dX9_place_28 (hN _ _ _ h12) (fun a13 h13 r13 => ?_)
      refine gf_8_5 X hG h13 q_77 dX9_place_31 (hN _ _ _ h13) (fun a14 h14 r14 => ?_)
      refine lv_iload_n X.1 X.2.1 dX9_place_34 rfl (lv_at hl 1 rfl) ?_
      refine tg_iald X hG h14 rfl (cI_in (n := 72) (by omega)) dX9_place_35 (fun x15 r15 => ?_)
      refine lv_goto (tgt := 40) X.1 X.2.1 dX9_place_36 (by decide) ?_
      exact ret _ _ _ _ x15 _ hG ⟨rfl, trivial⟩ dX9_place_40
  · refine n_ldc X q_327 (n := -1000000002) (by decide +kernel) dX9_place_7 (fun x16 t16 => ?_)
    exact ret _ _ _ _ x16 _ hG ⟨rfl, trivial⟩ dX9_place_9
set_option maxHeartbeats 4000000 in
set_option maxRecDepth 100000 in
theorem c_X9_gate (l : Launch) (D : va_G) (cy : Nat → ClassId) (τ : ty_T) (ρ : ty_R) {M : md_T} (hN : ty_N τ ρ) (hR : ty_Rg M τ ρ) (hF : ty_Wf M τ ρ [106, 302, 303, 806, 807, 808, 809, 810, 811, 812, 5000, 6005]) {a900 : Nat} (h900 : τ a900 = some (0, 9)) (x901 : Int32) (x902 : Int32) : KI l D cy yX9_gate cX9_gate 3 .int (rL 6) τ ρ [.ref a900, .int x901, .int x902] (fun r u => u = ρ ∧ True) := by
  refine k_metI "EdgeEchoes" rfl (by decide +kernel) (Nat.le_of_ble_eq_true rfl) (fun _ _ _ => rfl) ?_
  intro p e s m args below meth c Q ls X hG hl ret
  have hl : lv_has ls 3 [(0, .ref a900), (1, .int x901), (2, .int x902)] := hl
  have g901 := cI_rng x901
  have g902 := cI_rng x902
  refine lv_aload_n X.1 X.2.1 dX9_gate_0 rfl (lv_at hl 0 rfl) ?_
  refine gf_9_1 X hG h900 q_296 dX9_gate_1 (hN _ _ _ h900) (fun a1 h1 r1 => ?_)
  refine gf_3_1 X hG h1 q_168 dX9_gate_4 (hN _ _ _ h1) (fun a2 h2 r2 => ?_)
  refine lv_iload_n X.1 X.2.1 dX9_gate_7 rfl (lv_at hl 1 rfl) ?_
  refine k_cVi X hG (c_X1_has l D cy τ _ hN hR (ty_Wf.sub (S' := []) hF (by decide)) h2 x901) h2 rfl yv_X1_has q_629 ⟨rfl, rfl⟩ ⟨Nat.le_of_ble_eq_true rfl, Nat.le_of_ble_eq_true rfl⟩ rfl hl.1 rfl (Nat.le_of_ble_eq_true rfl) ⟨Nat.zero_le _, Nat.zero_le _⟩ dX9_gate_8 (fun x4 u5 H locs hG po3 => ?_)
  obtain ⟨eu5, po3⟩ := po3
  rw [eu5] at hG
  refine n_if_ne (tgt := 17) X dX9_gate_11 (by decide) (fun c6 => ?_) (fun c6 => ?_)
  · refine lv_iload_n X.1 X.2.1 dX9_gate_17 rfl (lv_at hl 2 rfl) ?_
    rcases (show x902.toInt = 0 ∨ x902.toInt = 1 ∨ x902.toInt = 2 ∨ x902.toInt = 3 ∨ x902.toInt = 4 ∨ x902.toInt = 5 ∨ (x902.toInt < 0 ∨ 5 < x902.toInt) by omega) with c7 | c7 | c7 | c7 | c7 | c7 | c7
    · refine lv_tableIn (tgt := 56) (off := 38) X.1 X.2.1 dX9_gate_18 (by omega) (by omega) (by rw [c7]; rfl) (by decide) ?_
      refine lv_aload_n X.1 X.2.1 dX9_gate_56 rfl (lv_at hl 0 rfl) ?_
      refine gf_9_1 X hG h900 q_296 dX9_gate_57 (hN _ _ _ h900) (fun a8 h8 r8 => ?_)
      refine gf_3_1 X hG h8 q_168 dX9_gate_60 (hN _ _ _ h8) (fun a9 h9 r9 => ?_)
      refine gf_1_0 X hG h9 q_132 dX9_gate_63 (hN _ _ _ h9) (fun a10 h10 r10 => ?_)
      refine lv_iload_n X.1 X.2.1 dX9_gate_66 rfl (lv_at hl 1 rfl) ?_
      refine tg_iald X hG h10 rfl (cI_in (n := 6) (by omega)) dX9_gate_67 (fun x11 r11 => ?_)
      exact ret _ _ _ _ x11 _ hG ⟨rfl, trivial⟩ dX9_gate_68
    · refine lv_tableIn (tgt := 69) (off := 51) X.1 X.2.1 dX9_gate_18 (by omega) (by omega) (by rw [c7]; rfl) (by decide) ?_
      refine lv_aload_n X.1 X.2.1 dX9_gate_69 rfl (lv_at hl 0 rfl) ?_
      refine gf_9_1 X hG h900 q_296 dX9_gate_70 (hN _ _ _ h900) (fun a12 h12 r12 => ?_)
      refine gf_3_1 X hG h12 q_168 dX9_gate_73 (hN _ _ _ h12) (fun a13 h13 r13 => ?_)
      refine gf_1_1 X hG h13 q_134 dX9_gate_76 (hN _ _ _ h13) (fun a14 h14 r14 => ?_)
      refine lv_iload_n X.1 X.2.1 dX9_gate_79 rfl (lv_at hl 1 rfl) ?_
      refine tg_iald X hG h14 rfl (cI_in (n := 6) (by omega)) dX9_gate_80 (fun x15 r15 => ?_)
      exact ret _ _ _ _ x15 _ hG ⟨rfl, trivial⟩ dX9_gate_81
    · refine lv_tableIn (tgt := 82) (off := 64) X.1 X.2.1 dX9_gate_18 (by omega) (by omega) (by rw [c7]; rfl) (by decide) ?_
      refine lv_aload_n X.1 X.2.1 dX9_gate_82 rfl (lv_at hl 0 rfl) ?_
      refine gf_9_1 X hG h900 q_296 dX9_gate_83 (hN _ _ _ h900) (fun a16 h16 r16 => ?_)
      refine gf_3_1 X hG h16 q_168 dX9_gate_86 (hN _ _ _ h16) (fun a17 h17 r17 => ?_)
      refine gf_1_2 X hG h17 q_136 dX9_gate_89 (hN _ _ _ h17) (fun a18 h18 r18 => ?_)
      refine lv_iload_n X.1 X.2.1 dX9_gate_92 rfl (lv_at hl 1 rfl) ?_
      refine tg_iald X hG h18 rfl (cI_in (n := 6) (by omega)) dX9_gate_93 (fun x19 r19 => ?_)
      exact ret _ _ _ _ x19 _ hG ⟨rfl, trivial⟩ dX9_gate_94
    · refine lv_tableIn (tgt := 95) (off := 77) X.1 X.2.1 dX9_gate_18 (by omega) (by omega) (by rw [c7]; rfl) (by decide) ?_
      refine lv_aload_n X.1 X.2.1 dX9_gate_95 rfl (lv_at hl 0 rfl) ?_
      refine gf_9_1 X hG h900 q_296 dX9_gate_96 (hN _ _ _ h900) (fun a20 h20 r20 => ?_)
      refine gf_3_1 X hG h20 q_168 dX9_gate_99 (hN _ _ _ h20) (fun a21 h21 r21 => ?_)
      refine gf_1_3 X hG h21 q_139 dX9_gate_102 (hN _ _ _ h21) (fun a22 h22 r22 => ?_)
      refine lv_iload_n X.1 X.2.1 dX9_gate_105 rfl (lv_at hl 1 rfl) ?_
      refine tg_iald X hG h22 rfl (cI_in (n := 6) (by omega)) dX9_gate_106 (fun x23 r23 => ?_)
      exact ret _ _ _ _ x23 _ hG ⟨rfl, trivial⟩ dX9_gate_107
    · refine lv_tableIn (tgt := 108) (off := 90) X.1 X.2.1 dX9_gate_18 (by omega) (by omega) (by rw [c7]; rfl) (by decide) ?_
      refine lv_aload_n X.1 X.2.1 dX9_gate_108 rfl (lv_at hl 0 rfl) ?_
      refine gf_9_1 X hG h900 q_296 dX9_gate_109 (hN _ _ _ h900) (fun a24 h24 r24 => ?_)
      refine gf_3_1 X hG h24 q_168 dX9_gate_112 (hN _ _ _ h24) (fun a25 h25 r25 => ?_)
      refine gf_1_4 X hG h25 q_142 dX9_gate_115 (hN _ _ _ h25) (fun a26 h26 r26 => ?_)
      refine lv_iload_n X.1 X.2.1 dX9_gate_118 rfl (lv_at hl 1 rfl) ?_
      refine tg_iald X hG h26 rfl (cI_in (n := 6) (by omega)) dX9_gate_119 (fun x27 r27 => ?_)
      exact ret _ _ _ _ x27 _ hG ⟨rfl, trivial⟩ dX9_gate_120
    · refine lv_tableIn (tgt := 121) (off := 103) X.1 X.2.1 dX9_gate_18 (by omega) (by omega) (by rw [c7]; rfl) (by decide) ?_
      refine lv_aload_n X.1 X.2.1 dX9_gate_121 rfl (lv_at hl 0 rfl) ?_
      refine gf_9_2 X hG h900 q_297 dX9_gate_122 (hN _ _ _ h900) (fun a28 h28 r28 => ?_)
      refine lv_aload_n X.1 X.2.1 dX9_gate_125 rfl (lv_at hl 0 rfl) ?_
      refine gf_9_1 X hG h900 q_296 dX9_gate_126 (hN _ _ _ h900) (fun a29 h29 r29 => ?_)
      refine lv_iload_n X.1 X.2.1 dX9_gate_129 rfl (lv_at hl 1 rfl) ?_
      refine k_cVi X hG (c_X7_firstOneOf l D cy τ _ hN hR (ty_Wf.sub (S' := [106, 302, 303, 806, 807, 808, 809, 810, 811, 812, 5000, 6005]) hF (by decide)) h28 h29 x901) h28 rfl yv_X7_firstOneOf q_633 ⟨rfl, rfl⟩ ⟨Nat.le_of_ble_eq_true rfl, Nat.le_of_ble_eq_true rfl⟩ rfl hl.1 rfl (Nat.le_of_ble_eq_true rfl) ⟨Nat.zero_le _, Nat.zero_le _⟩ dX9_gate_130 (fun x31 u32 H locs hG po30 => ?_)
      obtain ⟨eu32, po30⟩ := po30
      rw [eu32] at hG
      have g31 := cI_rng x31
      exact ret _ _ _ _ x31 _ hG ⟨rfl, trivial⟩ dX9_gate_133
    · refine lv_tableOut (tgt := 134) X.1 X.2.1 dX9_gate_18 c7 (by decide) ?_
      refine n_ldc X q_327 (n := -1000000002) (by decide +kernel) dX9_gate_134 (fun x33 t33 => ?_)
      exact ret _ _ _ _ x33 _ hG ⟨rfl, trivial⟩ dX9_gate_136
  · refine n_ldc X q_609 (n := -1000000001) (by decide +kernel) dX9_gate_14 (fun x34 t34 => ?_)
    exact ret _ _ _ _ x34 _ hG ⟨rfl, trivial⟩ dX9_gate_16
set_option maxHeartbeats 4000000 in
set_option maxRecDepth 100000 in
theorem c_X9_tick (l : Launch) (D : va_G) (cy : Nat → ClassId) (τ : ty_T) (ρ : ty_R) {M : md_T} (hN : ty_N τ ρ) (hR : ty_Rg M τ ρ) (hF : ty_Wf M τ ρ [106, 302, 303, 401, 402, 806, 807, 808, 809, 810, 811, 812, 5000, 6005]) {a900 : Nat} (h900 : τ a900 = some (0, 9)) (x901 : Int32) : KI l D cy yX9_tick cX9_tick 4 .int (rL 5) τ ρ [.ref a900, .int x901] (fun r u => u = ρ ∧ True) := by
  refine k_metI "EdgeEchoes" rfl (by decide +kernel) (Nat.le_of_ble_eq_true rfl) (fun _ _ _ => rfl) ?_
  intro p e s m args below meth c Q ls X hG hl ret
  have hl : lv_has ls 4 [(0, .ref a900), (1, .int x901)] := hl
  have g901 := cI_rng x901
  refine lv_aload_n X.1 X.2.1 dX9_tick_0 rfl (lv_at hl 0 rfl) ?_
  refine lv_iload_n X.1 X.2.1 dX9_tick_1 rfl (lv_at hl 1 rfl) ?_
  refine k_cVi X hG (c_X9_refusalToPass l D cy τ _ hN hR (ty_Wf.sub (S' := []) hF (by decide)) h900 x901) h900 rfl yv_X9_refusalToPass q_662 ⟨rfl, rfl⟩ ⟨Nat.le_of_ble_eq_true rfl, Nat.le_of_ble_eq_true rfl⟩ rfl hl.1 rfl (Nat.le_of_ble_eq_true rfl) ⟨Nat.zero_le _, Nat.zero_le _⟩ dX9_tick_2 (fun x2 u3 H locs hG po1 => ?_)
  obtain ⟨eu3, po1⟩ := po1
  rw [eu3] at hG
  have g2 := cI_rng x2
  refine lv_istore_n (lv' := [(2, .int x2), (0, .ref a900), (1, .int x901)]) X.1 X.2.1 dX9_tick_5 rfl hl (by decide) rfl (fun ls hl => ?_)
  refine lv_iload_n X.1 X.2.1 dX9_tick_6 rfl (lv_at hl 0 rfl) ?_
  refine n_if_eq (tgt := 12) X dX9_tick_7 (by decide) (fun c4 => ?_) (fun c4 => ?_)
  · refine lv_aload_n X.1 X.2.1 dX9_tick_12 rfl (lv_at hl 1 rfl) ?_
    refine gf_9_3 X hG h900 q_298 dX9_tick_13 (hN _ _ _ h900) (fun a5 h5 r5 => ?_)
    refine lv_aload_n X.1 X.2.1 dX9_tick_16 rfl (lv_at hl 1 rfl) ?_
    refine gf_9_1 X hG h900 q_296 dX9_tick_17 (hN _ _ _ h900) (fun a6 h6 r6 => ?_)
    refine k_cVv X hG (c_X4_remember l D cy τ _ hN hR (ty_Wf.sub (S' := [106, 302, 303, 401, 402, 806, 807, 808, 809, 810, 811, 812, 5000, 6005]) hF (by decide)) h5 h6) h5 rfl yv_X4_remember q_668 ⟨rfl, rfl⟩ ⟨Nat.le_of_ble_eq_true rfl, Nat.le_of_ble_eq_true rfl⟩ rfl hl.1 rfl (Nat.le_of_ble_eq_true rfl) ⟨Nat.zero_le _, Nat.zero_le _⟩ dX9_tick_20 (fun u9 H locs hG po7 => ?_)
    rw [po7] at hG
    refine n_ic X dX9_tick_23 (by decide) (by decide) (fun x10 t10 => ?_)
    refine lv_istore_n (lv' := [(3, .int x10), (2, .int x2), (0, .ref a900), (1, .int x901)]) X.1 X.2.1 dX9_tick_24 rfl hl (by decide) rfl (fun ls hl => ?_)
    have J25 : ∀ (n : Nat) (H : Heap) (locs : List Loc) (ls : Array Slot) (x11 : Int32), (0 ≤ x11.toInt) → (2147483647 - x11.toInt).toNat < n → TG D cy τ ρ (ty_d τ) s.heap H locs → lv_has ls 4 [(0, .ref a900), (1, .int x901), (2, .int x2), (3, .int x11)] → W p l e (rL 5) s m args below meth c H locs 0 0 Q (F0 m 25 ls []) := by
      intro n
      induction n with
      | zero => intro H locs ls x11 bx11 hm25 hG hl; exact absurd hm25 (Nat.not_lt_zero _)
      | succ n ih25 =>
        intro H locs ls x11 bx11 hm25 hG hl
        have gx11 := cI_rng x11
        refine lv_iload_n X.1 X.2.1 dX9_tick_25 rfl (lv_at hl 3 rfl) ?_
        refine lv_iload_n X.1 X.2.1 dX9_tick_26 rfl (lv_at hl 1 rfl) ?_
        refine n_icmp_ge (tgt := 43) X dX9_tick_27 (by decide) (fun c12 => ?_) (fun c12 => ?_)
        · refine lv_aload_n X.1 X.2.1 dX9_tick_43 rfl (lv_at hl 0 rfl) ?_
          refine gf_9_1 X hG h900 q_296 dX9_tick_44 (hN _ _ _ h900) (fun a13 h13 r13 => ?_)
          refine gf_3_3 X hG h13 q_175 dX9_tick_47 (fun x14 r14 => ?_)
          have g14 := cI_rng x14
          exact ret _ _ _ _ x14 _ hG ⟨rfl, trivial⟩ dX9_tick_50
        · refine lv_aload_n X.1 X.2.1 dX9_tick_30 rfl (lv_at hl 0 rfl) ?_
          refine gf_9_1 X hG h900 q_296 dX9_tick_31 (hN _ _ _ h900) (fun a15 h15 r15 => ?_)
          refine k_cVv X hG (c_X3_pass l D cy τ _ hN hR (ty_Wf.sub (S' := [303, 5000]) hF (by decide)) h15) h15 rfl yv_X3_pass q_674 ⟨rfl, rfl⟩ ⟨Nat.le_of_ble_eq_true rfl, Nat.le_of_ble_eq_true rfl⟩ rfl hl.1 rfl (Nat.le_of_ble_eq_true rfl) ⟨Nat.zero_le _, Nat.zero_le _⟩ dX9_tick_34 (fun u18 H locs hG po16 => ?_)
          rw [po16] at hG
          refine n_inc X (fun z20 => [(3, .int z20), (0, .ref a900), (1, .int x901), (2, .int x2)]) dX9_tick_37 hl (k := 3) rfl (by decide) (by decide) (by omega) (by omega) (by decide) (fun _ => rfl) (fun x19 ls t19 hl => ?_)
          have hl : lv_has ls 4 [(3, .int x19), (0, .ref a900), (1, .int x901), (2, .int x2)] := hl
          refine lv_goto (tgt := 25) X.1 X.2.1 dX9_tick_40 (by decide) ?_
          exact ih25 _ _ _ x19 (by omega) (by omega) hG (lv_sub hl [1, 2, 3, 0] rfl)
    exact J25 _ _ _ _ x10 (by omega) (Nat.lt_succ_self _) hG (lv_sub hl [2, 3, 1, 0] rfl)
  · refine lv_iload_n X.1 X.2.1 dX9_tick_10 rfl (lv_at hl 0 rfl) ?_
    exact ret _ _ _ _ x2 _ hG ⟨rfl, trivial⟩ dX9_tick_11
set_option maxHeartbeats 4000000 in
set_option maxRecDepth 100000 in
theorem c_X9_drive (l : Launch) (D : va_G) (cy : Nat → ClassId) (τ : ty_T) (ρ : ty_R) {M : md_T} (hN : ty_N τ ρ) (hR : ty_Rg M τ ρ) (hF : ty_Wf M τ ρ [106, 302, 303, 401, 402, 806, 807, 808, 809, 810, 811, 812, 5000, 6005]) {a900 : Nat} (h900 : τ a900 = some (0, 9)) (x901 : Int32) (zx901 : x901.toInt = 0 ∨ x901.toInt = 1) : KI l D cy yX9_drive cX9_drive 3 .int (rL 4) τ ρ [.ref a900, .int x901] (fun r u => u = ρ ∧ True) := by
  refine k_metI "EdgeEchoes" rfl (by decide +kernel) (Nat.le_of_ble_eq_true rfl) (fun _ _ _ => rfl) ?_
  intro p e s m args below meth c Q ls X hG hl ret
  have hl : lv_has ls 3 [(0, .ref a900), (1, .int x901)] := hl
  refine lv_aload_n X.1 X.2.1 dX9_drive_0 rfl (lv_at hl 0 rfl) ?_
  refine gf_9_1 X hG h900 q_296 dX9_drive_1 (hN _ _ _ h900) (fun a1 h1 r1 => ?_)
  refine gf_3_2 X hG h1 q_173 dX9_drive_4 (fun x2 b2 r2 => ?_)
  refine n_if_ne (tgt := 13) X dX9_drive_7 (by decide) (fun c3 => ?_) (fun c3 => ?_)
  · refine lv_aload_n X.1 X.2.1 dX9_drive_13 rfl (lv_at hl 0 rfl) ?_
    refine gf_9_3 X hG h900 q_298 dX9_drive_14 (hN _ _ _ h900) (fun a4 h4 r4 => ?_)
    refine lv_aload_n X.1 X.2.1 dX9_drive_17 rfl (lv_at hl 0 rfl) ?_
    refine gf_9_1 X hG h900 q_296 dX9_drive_18 (hN _ _ _ h900) (fun a5 h5 r5 => ?_)
    refine k_cVv X hG (c_X4_remember l D cy τ _ hN hR (ty_Wf.sub (S' := [106, 302, 303, 401, 402, 806, 807, 808, 809, 810, 811, 812, 5000, 6005]) hF (by decide)) h4 h5) h4 rfl yv_X4_remember q_668 ⟨rfl, rfl⟩ ⟨Nat.le_of_ble_eq_true rfl, Nat.le_of_ble_eq_true rfl⟩ rfl hl.1 rfl (Nat.le_of_ble_eq_true rfl) ⟨Nat.zero_le _, Nat.zero_le _⟩ dX9_drive_21 (fun u8 H locs hG po6 => ?_)
    rw [po6] at hG
    refine lv_aload_n X.1 X.2.1 dX9_drive_24 rfl (lv_at hl 0 rfl) ?_
    refine gf_9_1 X hG h900 q_296 dX9_drive_25 (hN _ _ _ h900) (fun a9 h9 r9 => ?_)
    refine gf_3_0 X hG h9 q_165 dX9_drive_28 (hN _ _ _ h9) (fun a10 h10 r10 => ?_)
    refine gf_8_12 X hG h10 q_97 dX9_drive_31 (fun x11 b11 r11 => ?_)
    have J42 : ∀ (H : Heap) (locs : List Loc) (ls : Array Slot) (x12 : Int32), (0 ≤ x12.toInt ∧ x12.toInt ≤ 1) → TG D cy τ ρ (ty_d τ) s.heap H locs → lv_has ls 3 [(0, .ref a900), (1, .int x901)] → W p l e (rL 4) s m args below meth c H locs 0 0 Q (F0 m 42 ls [.int x12]) := by
      intro H locs ls x12 bx12 hG hl
      refine lv_istore_n (lv' := [(2, .int x12), (0, .ref a900), (1, .int x901)]) X.1 X.2.1 dX9_drive_42 rfl hl (by decide) rfl (fun ls hl => ?_)
      refine lv_aload_n X.1 X.2.1 dX9_drive_43 rfl (lv_at hl 1 rfl) ?_
      refine gf_9_1 X hG h900 q_296 dX9_drive_44 (hN _ _ _ h900) (fun a13 h13 r13 => ?_)
      refine gf_3_0 X hG h13 q_165 dX9_drive_47 (hN _ _ _ h13) (fun a14 h14 r14 => ?_)
      refine lv_iload_n X.1 X.2.1 dX9_drive_50 rfl (lv_at hl 2 rfl) ?_
      refine pf_8_12 X hG h14 q_97 (by omega) dX9_drive_51 (hF _ _ _ _ h14 (ty_in (n := 812) rfl) (ty_rno rfl)) (fun H locs hG => ?_)
      refine lv_iload_n X.1 X.2.1 dX9_drive_54 rfl (lv_at hl 0 rfl) ?_
      exact ret _ _ _ _ x12 _ hG ⟨rfl, trivial⟩ dX9_drive_55
    refine n_if_eq (tgt := 41) X dX9_drive_34 (by decide) (fun c15 => ?_) (fun c15 => ?_)
    · refine n_ic X dX9_drive_41 (by decide) (by decide) (fun x16 t16 => ?_)
      exact J42 _ _ _ x16 (by omega) hG (lv_sub hl [0, 1] rfl)
    · refine n_ic X dX9_drive_37 (by decide) (by decide) (fun x17 t17 => ?_)
      refine lv_goto (tgt := 42) X.1 X.2.1 dX9_drive_38 (by decide) ?_
      exact J42 _ _ _ x17 (by omega) hG (lv_sub hl [0, 1] rfl)
  · refine n_ldc X q_666 (n := -1000000003) (by decide +kernel) dX9_drive_10 (fun x18 t18 => ?_)
    exact ret _ _ _ _ x18 _ hG ⟨rfl, trivial⟩ dX9_drive_12
set_option maxHeartbeats 4000000 in
set_option maxRecDepth 100000 in
theorem c_X9_cut (l : Launch) (D : va_G) (cy : Nat → ClassId) (τ : ty_T) (ρ : ty_R) {M : md_T} (hN : ty_N τ ρ) (hR : ty_Rg M τ ρ) (hF : ty_Wf M τ ρ [106, 302, 303, 401, 402, 806, 807, 808, 809, 810, 811, 812, 5000, 6005]) {a900 : Nat} (h900 : τ a900 = some (0, 9)) (x901 : Int32) : KI l D cy yX9_cut cX9_cut 2 .int (rL 5) τ ρ [.ref a900, .int x901] (fun r u => u = ρ ∧ True) := by
  refine k_metI "EdgeEchoes" rfl (by decide +kernel) (Nat.le_of_ble_eq_true rfl) (fun _ _ _ => rfl) ?_
  intro p e s m args below meth c Q ls X hG hl ret
  have hl : lv_has ls 2 [(0, .ref a900), (1, .int x901)] := hl
  have g901 := cI_rng x901
  refine lv_aload_n X.1 X.2.1 dX9_cut_0 rfl (lv_at hl 0 rfl) ?_
  refine lv_iload_n X.1 X.2.1 dX9_cut_1 rfl (lv_at hl 1 rfl) ?_
  refine n_ic X dX9_cut_2 (by decide) (by decide) (fun x1 t1 => ?_)
  refine k_cVi X hG (c_X9_turnPlace l D cy τ _ hN hR (ty_Wf.sub (S' := [106, 302, 303, 401, 402, 806, 807, 808, 809, 810, 811, 812, 5000, 6005]) hF (by decide)) h900 x901 x1) h900 rfl yv_X9_turnPlace q_683 ⟨rfl, rfl⟩ ⟨Nat.le_of_ble_eq_true rfl, Nat.le_of_ble_eq_true rfl⟩ rfl hl.1 rfl (Nat.le_of_ble_eq_true rfl) ⟨Nat.zero_le _, Nat.zero_le _⟩ dX9_cut_3 (fun x3 u4 H locs hG po2 => ?_)
  obtain ⟨eu4, po2⟩ := po2
  rw [eu4] at hG
  have g3 := cI_rng x3
  exact ret _ _ _ _ x3 _ hG ⟨rfl, trivial⟩ dX9_cut_6
set_option maxHeartbeats 4000000 in
set_option maxRecDepth 100000 in
theorem c_X9_brief (l : Launch) (D : va_G) (cy : Nat → ClassId) (τ : ty_T) (ρ : ty_R) {M : md_T} (hN : ty_N τ ρ) (hR : ty_Rg M τ ρ) (hF : ty_Wf M τ ρ [106, 302, 303, 401, 402, 806, 807, 808, 809, 810, 811, 812, 5000, 6005]) {a900 : Nat} (h900 : τ a900 = some (0, 9)) (x901 : Int32) : KI l D cy yX9_brief cX9_brief 2 .int (rL 5) τ ρ [.ref a900, .int x901] (fun r u => u = ρ ∧ True) := by
  refine k_metI "EdgeEchoes" rfl (by decide +kernel) (Nat.le_of_ble_eq_true rfl) (fun _ _ _ => rfl) ?_
  intro p e s m args below meth c Q ls X hG hl ret
  have hl : lv_has ls 2 [(0, .ref a900), (1, .int x901)] := hl
  have g901 := cI_rng x901
  refine lv_aload_n X.1 X.2.1 dX9_brief_0 rfl (lv_at hl 0 rfl) ?_
  refine lv_iload_n X.1 X.2.1 dX9_brief_1 rfl (lv_at hl 1 rfl) ?_
  refine n_ic X dX9_brief_2 (by decide) (by decide) (fun x1 t1 => ?_)
  refine k_cVi X hG (c_X9_turnPlace l D cy τ _ hN hR (ty_Wf.sub (S' := [106, 302, 303, 401, 402, 806, 807, 808, 809, 810, 811, 812, 5000, 6005]) hF (by decide)) h900 x901 x1) h900 rfl yv_X9_turnPlace q_683 ⟨rfl, rfl⟩ ⟨Nat.le_of_ble_eq_true rfl, Nat.le_of_ble_eq_true rfl⟩ rfl hl.1 rfl (Nat.le_of_ble_eq_true rfl) ⟨Nat.zero_le _, Nat.zero_le _⟩ dX9_brief_3 (fun x3 u4 H locs hG po2 => ?_)
  obtain ⟨eu4, po2⟩ := po2
  rw [eu4] at hG
  have g3 := cI_rng x3
  exact ret _ _ _ _ x3 _ hG ⟨rfl, trivial⟩ dX9_brief_6
set_option maxHeartbeats 4000000 in
set_option maxRecDepth 100000 in
theorem c_X9_mend (l : Launch) (D : va_G) (cy : Nat → ClassId) (τ : ty_T) (ρ : ty_R) {M : md_T} (hN : ty_N τ ρ) (hR : ty_Rg M τ ρ) (hF : ty_Wf M τ ρ [106, 302, 303, 401, 402, 806, 807, 808, 809, 810, 811, 812, 5000, 6005]) {a900 : Nat} (h900 : τ a900 = some (0, 9)) (x901 : Int32) : KI l D cy yX9_mend cX9_mend 2 .int (rL 5) τ ρ [.ref a900, .int x901] (fun r u => u = ρ ∧ True) := by
  refine k_metI "EdgeEchoes" rfl (by decide +kernel) (Nat.le_of_ble_eq_true rfl) (fun _ _ _ => rfl) ?_
  intro p e s m args below meth c Q ls X hG hl ret
  have hl : lv_has ls 2 [(0, .ref a900), (1, .int x901)] := hl
  have g901 := cI_rng x901
  refine lv_aload_n X.1 X.2.1 dX9_mend_0 rfl (lv_at hl 0 rfl) ?_
  refine lv_iload_n X.1 X.2.1 dX9_mend_1 rfl (lv_at hl 1 rfl) ?_
  refine n_ic X dX9_mend_2 (by decide) (by decide) (fun x1 t1 => ?_)
  refine k_cVi X hG (c_X9_turnPlace l D cy τ _ hN hR (ty_Wf.sub (S' := [106, 302, 303, 401, 402, 806, 807, 808, 809, 810, 811, 812, 5000, 6005]) hF (by decide)) h900 x901 x1) h900 rfl yv_X9_turnPlace q_683 ⟨rfl, rfl⟩ ⟨Nat.le_of_ble_eq_true rfl, Nat.le_of_ble_eq_true rfl⟩ rfl hl.1 rfl (Nat.le_of_ble_eq_true rfl) ⟨Nat.zero_le _, Nat.zero_le _⟩ dX9_mend_3 (fun x3 u4 H locs hG po2 => ?_)
  obtain ⟨eu4, po2⟩ := po2
  rw [eu4] at hG
  have g3 := cI_rng x3
  exact ret _ _ _ _ x3 _ hG ⟨rfl, trivial⟩ dX9_mend_6
set_option maxHeartbeats 4000000 in
set_option maxRecDepth 100000 in
theorem c_X9_piece (l : Launch) (D : va_G) (cy : Nat → ClassId) (τ : ty_T) (ρ : ty_R) {M : md_T} (hN : ty_N τ ρ) (hR : ty_Rg M τ ρ) (hF : ty_Wf M τ ρ [106, 302, 303, 401, 402, 806, 807, 808, 809, 810, 811, 812, 5000, 6005]) {a900 : Nat} (h900 : τ a900 = some (0, 9)) (x901 : Int32) (x902 : Int32) : KI l D cy yX9_piece cX9_piece 4 .int (rL 4) τ ρ [.ref a900, .int x901, .int x902] (fun r u => u = ρ ∧ True) := by
  refine k_metI "EdgeEchoes" rfl (by decide +kernel) (Nat.le_of_ble_eq_true rfl) (fun _ _ _ => rfl) ?_
  intro p e s m args below meth c Q ls X hG hl ret
  have hl : lv_has ls 4 [(0, .ref a900), (1, .int x901), (2, .int x902)] := hl
  have g901 := cI_rng x901
  have g902 := cI_rng x902
  refine lv_aload_n X.1 X.2.1 dX9_piece_0 rfl (lv_at hl 0 rfl) ?_
  refine gf_9_1 X hG h900 q_296 dX9_piece_1 (hN _ _ _ h900) (fun a1 h1 r1 => ?_)
  refine gf_3_0 X hG h1 q_165 dX9_piece_4 (hN _ _ _ h1) (fun a2 h2 r2 => ?_)
  refine lv_iload_n X.1 X.2.1 dX9_piece_7 rfl (lv_at hl 1 rfl) ?_
  refine k_cVi X hG (c_X8_hasPiece l D cy τ _ hN hR (ty_Wf.sub (S' := []) hF (by decide)) h2 x901) h2 rfl yv_X8_hasPiece q_608 ⟨rfl, rfl⟩ ⟨Nat.le_of_ble_eq_true rfl, Nat.le_of_ble_eq_true rfl⟩ rfl hl.1 rfl (Nat.le_of_ble_eq_true rfl) ⟨Nat.zero_le _, Nat.zero_le _⟩ dX9_piece_8 (fun x4 u5 H locs hG po3 => ?_)
  obtain ⟨eu5, po3⟩ := po3
  rw [eu5] at hG
  refine n_if_ne (tgt := 17) X dX9_piece_11 (by decide) (fun c6 => ?_) (fun c6 => ?_)
  · refine lv_iload_n X.1 X.2.1 dX9_piece_17 rfl (lv_at hl 2 rfl) ?_
    refine n_ic X dX9_piece_18 (by decide) (by decide) (fun x7 t7 => ?_)
    refine n_icmp_lt (tgt := 28) X dX9_piece_19 (by decide) (fun c8 => ?_) (fun c8 => ?_)
    · refine n_ldc X q_327 (n := -1000000002) (by decide +kernel) dX9_piece_28 (fun x9 t9 => ?_)
      exact ret _ _ _ _ x9 _ hG ⟨rfl, trivial⟩ dX9_piece_30
    · refine lv_iload_n X.1 X.2.1 dX9_piece_22 rfl (lv_at hl 2 rfl) ?_
      refine n_bp X dX9_piece_23 (by decide) (by decide) (fun x10 t10 => ?_)
      refine n_icmp_le (tgt := 31) X dX9_piece_25 (by decide) (fun c11 => ?_) (fun c11 => ?_)
      · refine lv_aload_n X.1 X.2.1 dX9_piece_31 rfl (lv_at hl 0 rfl) ?_
        refine gf_9_3 X hG h900 q_298 dX9_piece_32 (hN _ _ _ h900) (fun a12 h12 r12 => ?_)
        refine lv_aload_n X.1 X.2.1 dX9_piece_35 rfl (lv_at hl 0 rfl) ?_
        refine gf_9_1 X hG h900 q_296 dX9_piece_36 (hN _ _ _ h900) (fun a13 h13 r13 => ?_)
        refine k_cVv X hG (c_X4_remember l D cy τ _ hN hR (ty_Wf.sub (S' := [106, 302, 303, 401, 402, 806, 807, 808, 809, 810, 811, 812, 5000, 6005]) hF (by decide)) h12 h13) h12 rfl yv_X4_remember q_668 ⟨rfl, rfl⟩ ⟨Nat.le_of_ble_eq_true rfl, Nat.le_of_ble_eq_true rfl⟩ rfl hl.1 rfl (Nat.le_of_ble_eq_true rfl) ⟨Nat.zero_le _, Nat.zero_le _⟩ dX9_piece_39 (fun u16 H locs hG po14 => ?_)
        rw [po14] at hG
        refine lv_aload_n X.1 X.2.1 dX9_piece_42 rfl (lv_at hl 0 rfl) ?_
        refine gf_9_1 X hG h900 q_296 dX9_piece_43 (hN _ _ _ h900) (fun a17 h17 r17 => ?_)
        refine gf_3_0 X hG h17 q_165 dX9_piece_46 (hN _ _ _ h17) (fun a18 h18 r18 => ?_)
        refine gf_8_0 X hG h18 q_66 dX9_piece_49 (hN _ _ _ h18) (fun a19 h19 r19 => ?_)
        refine lv_iload_n X.1 X.2.1 dX9_piece_52 rfl (lv_at hl 1 rfl) ?_
        refine tg_iald X hG h19 rfl (cI_in (n := 8) (by omega)) dX9_piece_53 (fun x20 r20 => ?_)
        refine lv_istore_n (lv' := [(3, .int x20), (0, .ref a900), (1, .int x901), (2, .int x902)]) X.1 X.2.1 dX9_piece_54 rfl hl (by decide) rfl (fun ls hl => ?_)
        refine lv_aload_n X.1 X.2.1 dX9_piece_55 rfl (lv_at hl 1 rfl) ?_
        refine gf_9_1 X hG h900 q_296 dX9_piece_56 (hN _ _ _ h900) (fun a21 h21 r21 => ?_)
        refine gf_3_0 X hG h21 q_165 dX9_piece_59 (hN _ _ _ h21) (fun a22 h22 r22 => ?_)
        refine lv_iload_n X.1 X.2.1 dX9_piece_62 rfl (lv_at hl 2 rfl) ?_
        refine lv_iload_n X.1 X.2.1 dX9_piece_63 rfl (lv_at hl 3 rfl) ?_
        refine k_cVv X hG (c_X8_changePiece l D cy τ _ hN hR (ty_Wf.sub (S' := [5000]) hF (by decide)) h22 x901 x902) h22 rfl yv_X8_changePiece q_699 ⟨rfl, rfl⟩ ⟨Nat.le_of_ble_eq_true rfl, Nat.le_of_ble_eq_true rfl⟩ rfl hl.1 rfl (Nat.le_of_ble_eq_true rfl) ⟨Nat.zero_le _, Nat.zero_le _⟩ dX9_piece_64 (fun u25 H locs hG po23 => ?_)
        rw [po23] at hG
        refine lv_iload_n X.1 X.2.1 dX9_piece_67 rfl (lv_at hl 0 rfl) ?_
        exact ret _ _ _ _ x20 _ hG ⟨rfl, trivial⟩ dX9_piece_68
      · refine n_ldc X q_327 (n := -1000000002) (by decide +kernel) dX9_piece_28 (fun x26 t26 => ?_)
        exact ret _ _ _ _ x26 _ hG ⟨rfl, trivial⟩ dX9_piece_30
  · refine n_ldc X q_609 (n := -1000000001) (by decide +kernel) dX9_piece_14 (fun x27 t27 => ?_)
    exact ret _ _ _ _ x27 _ hG ⟨rfl, trivial⟩ dX9_piece_16
set_option maxHeartbeats 4000000 in
set_option maxRecDepth 100000 in
theorem c_X9_end (l : Launch) (D : va_G) (cy : Nat → ClassId) (τ : ty_T) (ρ : ty_R) {M : md_T} (hN : ty_N τ ρ) (hR : ty_Rg M τ ρ) (hF : ty_Wf M τ ρ [106, 302, 303, 401, 402, 806, 807, 808, 809, 810, 811, 812, 5000, 6005]) {a900 : Nat} (h900 : τ a900 = some (0, 9)) (x901 : Int32) (x902 : Int32) : KI l D cy yX9_end cX9_end 4 .int (rL 4) τ ρ [.ref a900, .int x901, .int x902] (fun r u => u = ρ ∧ True) := by
  refine k_metI "EdgeEchoes" rfl (by decide +kernel) (Nat.le_of_ble_eq_true rfl) (fun _ _ _ => rfl) ?_
  intro p e s m args below meth c Q ls X hG hl ret
  have hl : lv_has ls 4 [(0, .ref a900), (1, .int x901), (2, .int x902)] := hl
  have g901 := cI_rng x901
  have g902 := cI_rng x902
  refine lv_iload_n X.1 X.2.1 dX9_end_0 rfl (lv_at hl 1 rfl) ?_
  refine n_if_lt (tgt := 25) X dX9_end_1 (by decide) (fun c1 => ?_) (fun c1 => ?_)
  · refine n_ldc X q_327 (n := -1000000002) (by decide +kernel) dX9_end_25 (fun x2 t2 => ?_)
    exact ret _ _ _ _ x2 _ hG ⟨rfl, trivial⟩ dX9_end_27
  · refine lv_iload_n X.1 X.2.1 dX9_end_4 rfl (lv_at hl 1 rfl) ?_
    refine n_ic X dX9_end_5 (by decide) (by decide) (fun x3 t3 => ?_)
    refine n_icmp_gt (tgt := 25) X dX9_end_6 (by decide) (fun c4 => ?_) (fun c4 => ?_)
    · refine n_ldc X q_327 (n := -1000000002) (by decide +kernel) dX9_end_25 (fun x5 t5 => ?_)
      exact ret _ _ _ _ x5 _ hG ⟨rfl, trivial⟩ dX9_end_27
    · refine lv_iload_n X.1 X.2.1 dX9_end_9 rfl (lv_at hl 1 rfl) ?_
      refine n_ic X dX9_end_10 (by decide) (by decide) (fun x6 t6 => ?_)
      have J28 : ∀ (H : Heap) (locs : List Loc) (ls : Array Slot), TG D cy τ ρ (ty_d τ) s.heap H locs → lv_has ls 4 [(0, .ref a900), (1, .int x901), (2, .int x902)] → W p l e (rL 4) s m args below meth c H locs 0 0 Q (F0 m 28 ls []) := by
        intro H locs ls hG hl
        refine lv_aload_n X.1 X.2.1 dX9_end_28 rfl (lv_at hl 0 rfl) ?_
        refine gf_9_1 X hG h900 q_296 dX9_end_29 (hN _ _ _ h900) (fun a7 h7 r7 => ?_)
        refine gf_3_2 X hG h7 q_173 dX9_end_32 (fun x8 b8 r8 => ?_)
        refine n_if_ne (tgt := 41) X dX9_end_35 (by decide) (fun c9 => ?_) (fun c9 => ?_)
        · refine lv_aload_n X.1 X.2.1 dX9_end_41 rfl (lv_at hl 0 rfl) ?_
          refine gf_9_3 X hG h900 q_298 dX9_end_42 (hN _ _ _ h900) (fun a10 h10 r10 => ?_)
          refine lv_aload_n X.1 X.2.1 dX9_end_45 rfl (lv_at hl 0 rfl) ?_
          refine gf_9_1 X hG h900 q_296 dX9_end_46 (hN _ _ _ h900) (fun a11 h11 r11 => ?_)
          refine k_cVv X hG (c_X4_remember l D cy τ _ hN hR (ty_Wf.sub (S' := [106, 302, 303, 401, 402, 806, 807, 808, 809, 810, 811, 812, 5000, 6005]) hF (by decide)) h10 h11) h10 rfl yv_X4_remember q_668 ⟨rfl, rfl⟩ ⟨Nat.le_of_ble_eq_true rfl, Nat.le_of_ble_eq_true rfl⟩ rfl hl.1 rfl (Nat.le_of_ble_eq_true rfl) ⟨Nat.zero_le _, Nat.zero_le _⟩ dX9_end_49 (fun u14 H locs hG po12 => ?_)
          rw [po12] at hG
          refine lv_aload_n X.1 X.2.1 dX9_end_52 rfl (lv_at hl 0 rfl) ?_
          refine gf_9_1 X hG h900 q_296 dX9_end_53 (hN _ _ _ h900) (fun a15 h15 r15 => ?_)
          refine gf_3_0 X hG h15 q_165 dX9_end_56 (hN _ _ _ h15) (fun a16 h16 r16 => ?_)
          refine gf_8_10 X hG h16 q_92 dX9_end_59 (fun x17 r17 => ?_)
          have g17 := cI_rng x17
          refine lv_istore_n (lv' := [(3, .int x17), (0, .ref a900), (1, .int x901), (2, .int x902)]) X.1 X.2.1 dX9_end_62 rfl hl (by decide) rfl (fun ls hl => ?_)
          refine lv_aload_n X.1 X.2.1 dX9_end_63 rfl (lv_at hl 1 rfl) ?_
          refine gf_9_1 X hG h900 q_296 dX9_end_64 (hN _ _ _ h900) (fun a18 h18 r18 => ?_)
          refine gf_3_0 X hG h18 q_165 dX9_end_67 (hN _ _ _ h18) (fun a19 h19 r19 => ?_)
          refine lv_iload_n X.1 X.2.1 dX9_end_70 rfl (lv_at hl 2 rfl) ?_
          refine lv_iload_n X.1 X.2.1 dX9_end_71 rfl (lv_at hl 3 rfl) ?_
          refine k_cVv X hG (c_X8_changeEnd l D cy τ _ hN hR (ty_Wf.sub (S' := [810, 811]) hF (by decide)) h19 x901 x902) h19 rfl yv_X8_changeEnd q_704 ⟨rfl, rfl⟩ ⟨Nat.le_of_ble_eq_true rfl, Nat.le_of_ble_eq_true rfl⟩ rfl hl.1 rfl (Nat.le_of_ble_eq_true rfl) ⟨Nat.zero_le _, Nat.zero_le _⟩ dX9_end_72 (fun u22 H locs hG po20 => ?_)
          rw [po20] at hG
          refine lv_iload_n X.1 X.2.1 dX9_end_75 rfl (lv_at hl 0 rfl) ?_
          exact ret _ _ _ _ x17 _ hG ⟨rfl, trivial⟩ dX9_end_76
        · refine n_ldc X q_666 (n := -1000000003) (by decide +kernel) dX9_end_38 (fun x23 t23 => ?_)
          exact ret _ _ _ _ x23 _ hG ⟨rfl, trivial⟩ dX9_end_40
      refine n_icmp_ne (tgt := 28) X dX9_end_11 (by decide) (fun c24 => ?_) (fun c24 => ?_)
      · exact J28 _ _ _  hG (lv_sub hl [0, 1, 2] rfl)
      · refine lv_iload_n X.1 X.2.1 dX9_end_14 rfl (lv_at hl 2 rfl) ?_
        refine n_ic X dX9_end_15 (by decide) (by decide) (fun x25 t25 => ?_)
        refine n_icmp_lt (tgt := 25) X dX9_end_16 (by decide) (fun c26 => ?_) (fun c26 => ?_)
        · refine n_ldc X q_327 (n := -1000000002) (by decide +kernel) dX9_end_25 (fun x27 t27 => ?_)
          exact ret _ _ _ _ x27 _ hG ⟨rfl, trivial⟩ dX9_end_27
        · refine lv_iload_n X.1 X.2.1 dX9_end_19 rfl (lv_at hl 2 rfl) ?_
          refine n_bp X dX9_end_20 (by decide) (by decide) (fun x28 t28 => ?_)
          refine n_icmp_le (tgt := 28) X dX9_end_22 (by decide) (fun c29 => ?_) (fun c29 => ?_)
          · exact J28 _ _ _  hG (lv_sub hl [0, 1, 2] rfl)
          · refine n_ldc X q_327 (n := -1000000002) (by decide +kernel) dX9_end_25 (fun x30 t30 => ?_)
            exact ret _ _ _ _ x30 _ hG ⟨rfl, trivial⟩ dX9_end_27
set_option maxHeartbeats 4000000 in
set_option maxRecDepth 100000 in
theorem c_X9_ohms (l : Launch) (D : va_G) (cy : Nat → ClassId) (τ : ty_T) (ρ : ty_R) {M : md_T} (hN : ty_N τ ρ) (hR : ty_Rg M τ ρ) (hF : ty_Wf M τ ρ [106, 302, 303, 401, 402, 806, 807, 808, 809, 810, 811, 812, 5000, 6005]) {a900 : Nat} (h900 : τ a900 = some (0, 9)) (x901 : Int32) : KI l D cy yX9_ohms cX9_ohms 3 .int (rL 4) τ ρ [.ref a900, .int x901] (fun r u => u = ρ ∧ True) := by
  refine k_metI "EdgeEchoes" rfl (by decide +kernel) (Nat.le_of_ble_eq_true rfl) (fun _ _ _ => rfl) ?_
  intro p e s m args below meth c Q ls X hG hl ret
  have hl : lv_has ls 3 [(0, .ref a900), (1, .int x901)] := hl
  have g901 := cI_rng x901
  refine lv_iload_n X.1 X.2.1 dX9_ohms_0 rfl (lv_at hl 1 rfl) ?_
  refine n_if_lt (tgt := 10) X dX9_ohms_1 (by decide) (fun c1 => ?_) (fun c1 => ?_)
  · refine n_ldc X q_327 (n := -1000000002) (by decide +kernel) dX9_ohms_10 (fun x2 t2 => ?_)
    exact ret _ _ _ _ x2 _ hG ⟨rfl, trivial⟩ dX9_ohms_12
  · refine lv_iload_n X.1 X.2.1 dX9_ohms_4 rfl (lv_at hl 1 rfl) ?_
    refine n_bp X dX9_ohms_5 (by decide) (by decide) (fun x3 t3 => ?_)
    refine n_icmp_le (tgt := 13) X dX9_ohms_7 (by decide) (fun c4 => ?_) (fun c4 => ?_)
    · refine lv_aload_n X.1 X.2.1 dX9_ohms_13 rfl (lv_at hl 0 rfl) ?_
      refine gf_9_1 X hG h900 q_296 dX9_ohms_14 (hN _ _ _ h900) (fun a5 h5 r5 => ?_)
      refine gf_3_2 X hG h5 q_173 dX9_ohms_17 (fun x6 b6 r6 => ?_)
      refine n_if_ne (tgt := 26) X dX9_ohms_20 (by decide) (fun c7 => ?_) (fun c7 => ?_)
      · refine lv_aload_n X.1 X.2.1 dX9_ohms_26 rfl (lv_at hl 0 rfl) ?_
        refine gf_9_3 X hG h900 q_298 dX9_ohms_27 (hN _ _ _ h900) (fun a8 h8 r8 => ?_)
        refine lv_aload_n X.1 X.2.1 dX9_ohms_30 rfl (lv_at hl 0 rfl) ?_
        refine gf_9_1 X hG h900 q_296 dX9_ohms_31 (hN _ _ _ h900) (fun a9 h9 r9 => ?_)
        refine k_cVv X hG (c_X4_remember l D cy τ _ hN hR (ty_Wf.sub (S' := [106, 302, 303, 401, 402, 806, 807, 808, 809, 810, 811, 812, 5000, 6005]) hF (by decide)) h8 h9) h8 rfl yv_X4_remember q_668 ⟨rfl, rfl⟩ ⟨Nat.le_of_ble_eq_true rfl, Nat.le_of_ble_eq_true rfl⟩ rfl hl.1 rfl (Nat.le_of_ble_eq_true rfl) ⟨Nat.zero_le _, Nat.zero_le _⟩ dX9_ohms_34 (fun u12 H locs hG po10 => ?_)
        rw [po10] at hG
        refine lv_aload_n X.1 X.2.1 dX9_ohms_37 rfl (lv_at hl 0 rfl) ?_
        refine gf_9_1 X hG h900 q_296 dX9_ohms_38 (hN _ _ _ h900) (fun a13 h13 r13 => ?_)
        refine gf_3_0 X hG h13 q_165 dX9_ohms_41 (hN _ _ _ h13) (fun a14 h14 r14 => ?_)
        refine gf_8_8 X hG h14 q_85 dX9_ohms_44 (fun x15 r15 => ?_)
        have g15 := cI_rng x15
        refine lv_istore_n (lv' := [(2, .int x15), (0, .ref a900), (1, .int x901)]) X.1 X.2.1 dX9_ohms_47 rfl hl (by decide) rfl (fun ls hl => ?_)
        refine lv_aload_n X.1 X.2.1 dX9_ohms_48 rfl (lv_at hl 1 rfl) ?_
        refine gf_9_1 X hG h900 q_296 dX9_ohms_49 (hN _ _ _ h900) (fun a16 h16 r16 => ?_)
        refine gf_3_0 X hG h16 q_165 dX9_ohms_52 (hN _ _ _ h16) (fun a17 h17 r17 => ?_)
        refine lv_iload_n X.1 X.2.1 dX9_ohms_55 rfl (lv_at hl 2 rfl) ?_
        refine pf_8_8 X hG h17 q_85 dX9_ohms_56 (hF _ _ _ _ h17 (ty_in (n := 808) rfl) (ty_rno rfl)) (fun H locs hG => ?_)
        refine lv_iload_n X.1 X.2.1 dX9_ohms_59 rfl (lv_at hl 0 rfl) ?_
        exact ret _ _ _ _ x15 _ hG ⟨rfl, trivial⟩ dX9_ohms_60
      · refine n_ldc X q_666 (n := -1000000003) (by decide +kernel) dX9_ohms_23 (fun x18 t18 => ?_)
        exact ret _ _ _ _ x18 _ hG ⟨rfl, trivial⟩ dX9_ohms_25
    · refine n_ldc X q_327 (n := -1000000002) (by decide +kernel) dX9_ohms_10 (fun x19 t19 => ?_)
      exact ret _ _ _ _ x19 _ hG ⟨rfl, trivial⟩ dX9_ohms_12
set_option maxHeartbeats 4000000 in
set_option maxRecDepth 100000 in
theorem c_X9_quiet (l : Launch) (D : va_G) (cy : Nat → ClassId) (τ : ty_T) (ρ : ty_R) {M : md_T} (hN : ty_N τ ρ) (hR : ty_Rg M τ ρ) (hF : ty_Wf M τ ρ [106, 302, 303, 401, 402, 806, 807, 808, 809, 810, 811, 812, 5000, 6005]) {a900 : Nat} (h900 : τ a900 = some (0, 9)) : KI l D cy yX9_quiet cX9_quiet 2 .int (rL 4) τ ρ [.ref a900] (fun r u => u = ρ ∧ True) := by
  refine k_metI "EdgeEchoes" rfl (by decide +kernel) (Nat.le_of_ble_eq_true rfl) (fun _ _ _ => rfl) ?_
  intro p e s m args below meth c Q ls X hG hl ret
  have hl : lv_has ls 2 [(0, .ref a900)] := hl
  refine lv_aload_n X.1 X.2.1 dX9_quiet_0 rfl (lv_at hl 0 rfl) ?_
  refine gf_9_1 X hG h900 q_296 dX9_quiet_1 (hN _ _ _ h900) (fun a1 h1 r1 => ?_)
  refine gf_3_2 X hG h1 q_173 dX9_quiet_4 (fun x2 b2 r2 => ?_)
  refine n_if_ne (tgt := 13) X dX9_quiet_7 (by decide) (fun c3 => ?_) (fun c3 => ?_)
  · refine lv_aload_n X.1 X.2.1 dX9_quiet_13 rfl (lv_at hl 0 rfl) ?_
    refine gf_9_3 X hG h900 q_298 dX9_quiet_14 (hN _ _ _ h900) (fun a4 h4 r4 => ?_)
    refine lv_aload_n X.1 X.2.1 dX9_quiet_17 rfl (lv_at hl 0 rfl) ?_
    refine gf_9_1 X hG h900 q_296 dX9_quiet_18 (hN _ _ _ h900) (fun a5 h5 r5 => ?_)
    refine k_cVv X hG (c_X4_remember l D cy τ _ hN hR (ty_Wf.sub (S' := [106, 302, 303, 401, 402, 806, 807, 808, 809, 810, 811, 812, 5000, 6005]) hF (by decide)) h4 h5) h4 rfl yv_X4_remember q_668 ⟨rfl, rfl⟩ ⟨Nat.le_of_ble_eq_true rfl, Nat.le_of_ble_eq_true rfl⟩ rfl hl.1 rfl (Nat.le_of_ble_eq_true rfl) ⟨Nat.zero_le _, Nat.zero_le _⟩ dX9_quiet_21 (fun u8 H locs hG po6 => ?_)
    rw [po6] at hG
    refine lv_aload_n X.1 X.2.1 dX9_quiet_24 rfl (lv_at hl 0 rfl) ?_
    refine gf_9_1 X hG h900 q_296 dX9_quiet_25 (hN _ _ _ h900) (fun a9 h9 r9 => ?_)
    refine gf_3_1 X hG h9 q_168 dX9_quiet_28 (hN _ _ _ h9) (fun a10 h10 r10 => ?_)
    refine k_cVi X hG (c_X1_allEdges l D cy τ _ hN hR (ty_Wf.sub (S' := []) hF (by decide)) h10) h10 rfl yv_X1_allEdges q_713 ⟨rfl, rfl⟩ ⟨Nat.le_of_ble_eq_true rfl, Nat.le_of_ble_eq_true rfl⟩ rfl hl.1 rfl (Nat.le_of_ble_eq_true rfl) ⟨Nat.zero_le _, Nat.zero_le _⟩ dX9_quiet_31 (fun x12 u13 H locs hG po11 => ?_)
    obtain ⟨eu13, po11⟩ := po11
    rw [eu13] at hG
    have g12 := cI_rng x12
    refine lv_istore_n (lv' := [(1, .int x12), (0, .ref a900)]) X.1 X.2.1 dX9_quiet_34 rfl hl (by decide) rfl (fun ls hl => ?_)
    refine lv_aload_n X.1 X.2.1 dX9_quiet_35 rfl (lv_at hl 1 rfl) ?_
    refine gf_9_1 X hG h900 q_296 dX9_quiet_36 (hN _ _ _ h900) (fun a14 h14 r14 => ?_)
    refine k_cVv X hG (c_X3_calm l D cy τ _ hN hR (ty_Wf.sub (S' := [5000]) hF (by decide)) h14) h14 rfl yv_X3_calm q_717 ⟨rfl, rfl⟩ ⟨Nat.le_of_ble_eq_true rfl, Nat.le_of_ble_eq_true rfl⟩ rfl hl.1 rfl (Nat.le_of_ble_eq_true rfl) ⟨Nat.zero_le _, Nat.zero_le _⟩ dX9_quiet_39 (fun u17 H locs hG po15 => ?_)
    rw [po15] at hG
    refine lv_iload_n X.1 X.2.1 dX9_quiet_42 rfl (lv_at hl 0 rfl) ?_
    exact ret _ _ _ _ x12 _ hG ⟨rfl, trivial⟩ dX9_quiet_43
  · refine n_ldc X q_666 (n := -1000000003) (by decide +kernel) dX9_quiet_10 (fun x18 t18 => ?_)
    exact ret _ _ _ _ x18 _ hG ⟨rfl, trivial⟩ dX9_quiet_12
set_option maxHeartbeats 4000000 in
set_option maxRecDepth 100000 in
theorem c_X9_drift (l : Launch) (D : va_G) (cy : Nat → ClassId) (τ : ty_T) (ρ : ty_R) {M : md_T} (hN : ty_N τ ρ) (hR : ty_Rg M τ ρ) (hF : ty_Wf M τ ρ [106, 302, 303, 401, 402, 806, 807, 808, 809, 810, 811, 812, 908, 5000, 6005]) {a900 : Nat} (h900 : τ a900 = some (0, 9)) (x901 : Int32) : KI l D cy yX9_drift cX9_drift 4 .int (rL 6) τ ρ [.ref a900, .int x901] (fun r u => u = ρ ∧ True) := by
  refine k_metI "EdgeEchoes" rfl (by decide +kernel) (Nat.le_of_ble_eq_true rfl) (fun _ _ _ => rfl) ?_
  intro p e s m args below meth c Q ls X hG hl ret
  have hl : lv_has ls 4 [(0, .ref a900), (1, .int x901)] := hl
  have g901 := cI_rng x901
  refine lv_aload_n X.1 X.2.1 dX9_drift_0 rfl (lv_at hl 0 rfl) ?_
  refine lv_iload_n X.1 X.2.1 dX9_drift_1 rfl (lv_at hl 1 rfl) ?_
  refine k_cVi X hG (c_X9_refusalToPass l D cy τ _ hN hR (ty_Wf.sub (S' := []) hF (by decide)) h900 x901) h900 rfl yv_X9_refusalToPass q_662 ⟨rfl, rfl⟩ ⟨Nat.le_of_ble_eq_true rfl, Nat.le_of_ble_eq_true rfl⟩ rfl hl.1 rfl (Nat.le_of_ble_eq_true rfl) ⟨Nat.zero_le _, Nat.zero_le _⟩ dX9_drift_2 (fun x2 u3 H locs hG po1 => ?_)
  obtain ⟨eu3, po1⟩ := po1
  rw [eu3] at hG
  have g2 := cI_rng x2
  refine lv_istore_n (lv' := [(2, .int x2), (0, .ref a900), (1, .int x901)]) X.1 X.2.1 dX9_drift_5 rfl hl (by decide) rfl (fun ls hl => ?_)
  refine lv_iload_n X.1 X.2.1 dX9_drift_6 rfl (lv_at hl 0 rfl) ?_
  refine n_if_eq (tgt := 12) X dX9_drift_7 (by decide) (fun c4 => ?_) (fun c4 => ?_)
  · refine lv_aload_n X.1 X.2.1 dX9_drift_12 rfl (lv_at hl 1 rfl) ?_
    refine gf_9_3 X hG h900 q_298 dX9_drift_13 (hN _ _ _ h900) (fun a5 h5 r5 => ?_)
    refine lv_aload_n X.1 X.2.1 dX9_drift_16 rfl (lv_at hl 1 rfl) ?_
    refine gf_9_1 X hG h900 q_296 dX9_drift_17 (hN _ _ _ h900) (fun a6 h6 r6 => ?_)
    refine k_cVv X hG (c_X4_remember l D cy τ _ hN hR (ty_Wf.sub (S' := [106, 302, 303, 401, 402, 806, 807, 808, 809, 810, 811, 812, 5000, 6005]) hF (by decide)) h5 h6) h5 rfl yv_X4_remember q_668 ⟨rfl, rfl⟩ ⟨Nat.le_of_ble_eq_true rfl, Nat.le_of_ble_eq_true rfl⟩ rfl hl.1 rfl (Nat.le_of_ble_eq_true rfl) ⟨Nat.zero_le _, Nat.zero_le _⟩ dX9_drift_20 (fun u9 H locs hG po7 => ?_)
    rw [po7] at hG
    refine n_ic X dX9_drift_23 (by decide) (by decide) (fun x10 t10 => ?_)
    refine lv_istore_n (lv' := [(3, .int x10), (2, .int x2), (0, .ref a900), (1, .int x901)]) X.1 X.2.1 dX9_drift_24 rfl hl (by decide) rfl (fun ls hl => ?_)
    have J25 : ∀ (n : Nat) (H : Heap) (locs : List Loc) (ls : Array Slot) (x11 : Int32), (0 ≤ x11.toInt) → (2147483647 - x11.toInt).toNat < n → TG D cy τ ρ (ty_d τ) s.heap H locs → lv_has ls 4 [(0, .ref a900), (1, .int x901), (2, .int x2), (3, .int x11)] → W p l e (rL 6) s m args below meth c H locs 0 0 Q (F0 m 25 ls []) := by
      intro n
      induction n with
      | zero => intro H locs ls x11 bx11 hm25 hG hl; exact absurd hm25 (Nat.not_lt_zero _)
      | succ n ih25 =>
        intro H locs ls x11 bx11 hm25 hG hl
        have gx11 := cI_rng x11
        refine lv_iload_n X.1 X.2.1 dX9_drift_25 rfl (lv_at hl 3 rfl) ?_
        refine lv_iload_n X.1 X.2.1 dX9_drift_26 rfl (lv_at hl 1 rfl) ?_
        refine n_icmp_ge (tgt := 40) X dX9_drift_27 (by decide) (fun c12 => ?_) (fun c12 => ?_)
        · refine lv_aload_n X.1 X.2.1 dX9_drift_40 rfl (lv_at hl 0 rfl) ?_
          refine gf_9_1 X hG h900 q_296 dX9_drift_41 (hN _ _ _ h900) (fun a13 h13 r13 => ?_)
          refine gf_3_3 X hG h13 q_175 dX9_drift_44 (fun x14 r14 => ?_)
          have g14 := cI_rng x14
          exact ret _ _ _ _ x14 _ hG ⟨rfl, trivial⟩ dX9_drift_47
        · refine lv_aload_n X.1 X.2.1 dX9_drift_30 rfl (lv_at hl 0 rfl) ?_
          refine k_cVv X hG (c_X9_driftOnce l D cy τ _ hN hR (ty_Wf.sub (S' := [303, 812, 908, 5000]) hF (by decide)) h900) h900 rfl yv_X9_driftOnce q_722 ⟨rfl, rfl⟩ ⟨Nat.le_of_ble_eq_true rfl, Nat.le_of_ble_eq_true rfl⟩ rfl hl.1 rfl (Nat.le_of_ble_eq_true rfl) ⟨Nat.zero_le _, Nat.zero_le _⟩ dX9_drift_31 (fun u17 H locs hG po15 => ?_)
          rw [po15] at hG
          refine n_inc X (fun z19 => [(3, .int z19), (0, .ref a900), (1, .int x901), (2, .int x2)]) dX9_drift_34 hl (k := 3) rfl (by decide) (by decide) (by omega) (by omega) (by decide) (fun _ => rfl) (fun x18 ls t18 hl => ?_)
          have hl : lv_has ls 4 [(3, .int x18), (0, .ref a900), (1, .int x901), (2, .int x2)] := hl
          refine lv_goto (tgt := 25) X.1 X.2.1 dX9_drift_37 (by decide) ?_
          exact ih25 _ _ _ x18 (by omega) (by omega) hG (lv_sub hl [1, 2, 3, 0] rfl)
    exact J25 _ _ _ _ x10 (by omega) (Nat.lt_succ_self _) hG (lv_sub hl [2, 3, 1, 0] rfl)
  · refine lv_iload_n X.1 X.2.1 dX9_drift_10 rfl (lv_at hl 0 rfl) ?_
    exact ret _ _ _ _ x2 _ hG ⟨rfl, trivial⟩ dX9_drift_11
set_option maxHeartbeats 4000000 in
set_option maxRecDepth 100000 in
theorem c_X9_undo (l : Launch) (D : va_G) (cy : Nat → ClassId) (τ : ty_T) (ρ : ty_R) {M : md_T} (hN : ty_N τ ρ) (hR : ty_Rg M τ ρ) (hF : ty_Wf M τ ρ [106, 302, 303, 401, 402, 806, 807, 808, 809, 810, 811, 812, 5000, 6005]) {a900 : Nat} (h900 : τ a900 = some (0, 9)) (x901 : Int32) : KI l D cy yX9_undo cX9_undo 2 .int (rL 4) τ ρ [.ref a900, .int x901] (fun r u => u = ρ ∧ True) := by
  refine k_metI "EdgeEchoes" rfl (by decide +kernel) (Nat.le_of_ble_eq_true rfl) (fun _ _ _ => rfl) ?_
  intro p e s m args below meth c Q ls X hG hl ret
  have hl : lv_has ls 2 [(0, .ref a900), (1, .int x901)] := hl
  have g901 := cI_rng x901
  refine lv_iload_n X.1 X.2.1 dX9_undo_0 rfl (lv_at hl 1 rfl) ?_
  refine n_ic X dX9_undo_1 (by decide) (by decide) (fun x1 t1 => ?_)
  refine n_icmp_lt (tgt := 11) X dX9_undo_2 (by decide) (fun c2 => ?_) (fun c2 => ?_)
  · refine n_ldc X q_327 (n := -1000000002) (by decide +kernel) dX9_undo_11 (fun x3 t3 => ?_)
    exact ret _ _ _ _ x3 _ hG ⟨rfl, trivial⟩ dX9_undo_13
  · refine lv_iload_n X.1 X.2.1 dX9_undo_5 rfl (lv_at hl 1 rfl) ?_
    refine n_bp X dX9_undo_6 (by decide) (by decide) (fun x4 t4 => ?_)
    refine n_icmp_le (tgt := 14) X dX9_undo_8 (by decide) (fun c5 => ?_) (fun c5 => ?_)
    · refine lv_iload_n X.1 X.2.1 dX9_undo_14 rfl (lv_at hl 1 rfl) ?_
      refine lv_aload_n X.1 X.2.1 dX9_undo_15 rfl (lv_at hl 0 rfl) ?_
      refine gf_9_3 X hG h900 q_298 dX9_undo_16 (hN _ _ _ h900) (fun a6 h6 r6 => ?_)
      refine gf_4_1 X hG h6 q_213 dX9_undo_19 (fun x7 r7 => ?_)
      have g7 := cI_rng x7
      refine n_icmp_le (tgt := 28) X dX9_undo_22 (by decide) (fun c8 => ?_) (fun c8 => ?_)
      · refine lv_aload_n X.1 X.2.1 dX9_undo_28 rfl (lv_at hl 0 rfl) ?_
        refine gf_9_3 X hG h900 q_298 dX9_undo_29 (hN _ _ _ h900) (fun a9 h9 r9 => ?_)
        refine lv_aload_n X.1 X.2.1 dX9_undo_32 rfl (lv_at hl 0 rfl) ?_
        refine gf_9_1 X hG h900 q_296 dX9_undo_33 (hN _ _ _ h900) (fun a10 h10 r10 => ?_)
        refine lv_iload_n X.1 X.2.1 dX9_undo_36 rfl (lv_at hl 1 rfl) ?_
        refine k_cVv X hG (c_X4_bringBack l D cy τ _ hN hR (ty_Wf.sub (S' := [106, 302, 303, 401, 402, 806, 807, 808, 809, 810, 811, 812, 5000, 6005]) hF (by decide)) h9 h10 x901) h9 rfl yv_X4_bringBack q_738 ⟨rfl, rfl⟩ ⟨Nat.le_of_ble_eq_true rfl, Nat.le_of_ble_eq_true rfl⟩ rfl hl.1 rfl (Nat.le_of_ble_eq_true rfl) ⟨Nat.zero_le _, Nat.zero_le _⟩ dX9_undo_37 (fun u13 H locs hG po11 => ?_)
        rw [po11] at hG
        refine lv_aload_n X.1 X.2.1 dX9_undo_40 rfl (lv_at hl 0 rfl) ?_
        refine gf_9_1 X hG h900 q_296 dX9_undo_41 (hN _ _ _ h900) (fun a14 h14 r14 => ?_)
        refine gf_3_3 X hG h14 q_175 dX9_undo_44 (fun x15 r15 => ?_)
        have g15 := cI_rng x15
        exact ret _ _ _ _ x15 _ hG ⟨rfl, trivial⟩ dX9_undo_47
      · refine n_ldc X q_666 (n := -1000000003) (by decide +kernel) dX9_undo_25 (fun x16 t16 => ?_)
        exact ret _ _ _ _ x16 _ hG ⟨rfl, trivial⟩ dX9_undo_27
    · refine n_ldc X q_327 (n := -1000000002) (by decide +kernel) dX9_undo_11 (fun x17 t17 => ?_)
      exact ret _ _ _ _ x17 _ hG ⟨rfl, trivial⟩ dX9_undo_13
set_option maxHeartbeats 4000000 in
set_option maxRecDepth 100000 in
theorem c_X9_volts (l : Launch) (D : va_G) (cy : Nat → ClassId) (τ : ty_T) (ρ : ty_R) {M : md_T} (hN : ty_N τ ρ) (hR : ty_Rg M τ ρ) (hF : ty_Wf M τ ρ [106, 302, 303, 806, 807, 808, 809, 810, 811, 812, 5000, 6005]) {a900 : Nat} (h900 : τ a900 = some (0, 9)) (x901 : Int32) (x902 : Int32) (x903 : Int32) : KI l D cy yX9_volts cX9_volts 4 .int (rL 5) τ ρ [.ref a900, .int x901, .int x902, .int x903] (fun r u => u = ρ ∧ True) := by
  refine k_metI "EdgeEchoes" rfl (by decide +kernel) (Nat.le_of_ble_eq_true rfl) (fun _ _ _ => rfl) ?_
  intro p e s m args below meth c Q ls X hG hl ret
  have hl : lv_has ls 4 [(0, .ref a900), (1, .int x901), (2, .int x902), (3, .int x903)] := hl
  have g901 := cI_rng x901
  have g902 := cI_rng x902
  have g903 := cI_rng x903
  refine lv_iload_n X.1 X.2.1 dX9_volts_0 rfl (lv_at hl 1 rfl) ?_
  refine n_if_lt (tgt := 21) X dX9_volts_1 (by decide) (fun c1 => ?_) (fun c1 => ?_)
  · refine n_ldc X q_327 (n := -1000000002) (by decide +kernel) dX9_volts_21 (fun x2 t2 => ?_)
    exact ret _ _ _ _ x2 _ hG ⟨rfl, trivial⟩ dX9_volts_23
  · refine lv_iload_n X.1 X.2.1 dX9_volts_4 rfl (lv_at hl 1 rfl) ?_
    refine n_bp X dX9_volts_5 (by decide) (by decide) (fun x3 t3 => ?_)
    refine n_icmp_ge (tgt := 21) X dX9_volts_7 (by decide) (fun c4 => ?_) (fun c4 => ?_)
    · refine n_ldc X q_327 (n := -1000000002) (by decide +kernel) dX9_volts_21 (fun x5 t5 => ?_)
      exact ret _ _ _ _ x5 _ hG ⟨rfl, trivial⟩ dX9_volts_23
    · refine lv_iload_n X.1 X.2.1 dX9_volts_10 rfl (lv_at hl 2 rfl) ?_
      refine n_if_lt (tgt := 21) X dX9_volts_11 (by decide) (fun c6 => ?_) (fun c6 => ?_)
      · refine n_ldc X q_327 (n := -1000000002) (by decide +kernel) dX9_volts_21 (fun x7 t7 => ?_)
        exact ret _ _ _ _ x7 _ hG ⟨rfl, trivial⟩ dX9_volts_23
      · refine lv_iload_n X.1 X.2.1 dX9_volts_14 rfl (lv_at hl 2 rfl) ?_
        refine n_sp X dX9_volts_15 (by decide) (by decide) (fun x8 t8 => ?_)
        refine n_icmp_le (tgt := 24) X dX9_volts_18 (by decide) (fun c9 => ?_) (fun c9 => ?_)
        · refine lv_iload_n X.1 X.2.1 dX9_volts_24 rfl (lv_at hl 3 rfl) ?_
          rcases (show x903.toInt = 0 ∨ x903.toInt = 1 ∨ x903.toInt = 2 ∨ (x903.toInt < 0 ∨ 2 < x903.toInt) by omega) with c10 | c10 | c10 | c10
          · refine lv_tableIn (tgt := 52) (off := 27) X.1 X.2.1 dX9_volts_25 (by omega) (by omega) (by rw [c10]; rfl) (by decide) ?_
            refine n_ldc X q_615 (n := 1000000) (by decide +kernel) dX9_volts_52 (fun x11 t11 => ?_)
            refine lv_aload_n X.1 X.2.1 dX9_volts_54 rfl (lv_at hl 0 rfl) ?_
            refine gf_9_2 X hG h900 q_297 dX9_volts_55 (hN _ _ _ h900) (fun a12 h12 r12 => ?_)
            refine lv_aload_n X.1 X.2.1 dX9_volts_58 rfl (lv_at hl 0 rfl) ?_
            refine gf_9_1 X hG h900 q_296 dX9_volts_59 (hN _ _ _ h900) (fun a13 h13 r13 => ?_)
            refine lv_iload_n X.1 X.2.1 dX9_volts_62 rfl (lv_at hl 1 rfl) ?_
            refine lv_iload_n X.1 X.2.1 dX9_volts_63 rfl (lv_at hl 2 rfl) ?_
            refine k_cVi X hG (c_X7_voltsBehind l D cy τ _ hN hR (ty_Wf.sub (S' := [106, 302, 303, 806, 807, 808, 809, 810, 811, 812, 5000, 6005]) hF (by decide)) h12 h13 x901 x902) h12 rfl yv_X7_voltsBehind q_749 ⟨rfl, rfl⟩ ⟨Nat.le_of_ble_eq_true rfl, Nat.le_of_ble_eq_true rfl⟩ rfl hl.1 rfl (Nat.le_of_ble_eq_true rfl) ⟨Nat.zero_le _, Nat.zero_le _⟩ dX9_volts_64 (fun x15 u16 H locs hG po14 => ?_)
            obtain ⟨eu16, po14⟩ := po14
            rw [eu16] at hG
            have g15 := cI_rng x15
            refine lv_iadd X.1 X.2.1 dX9_volts_67 ?_
            refine n_any (fun x17 => ?_)
            exact ret _ _ _ _ x17 _ hG ⟨rfl, trivial⟩ dX9_volts_68
          · refine lv_tableIn (tgt := 69) (off := 44) X.1 X.2.1 dX9_volts_25 (by omega) (by omega) (by rw [c10]; rfl) (by decide) ?_
            refine n_ldc X q_615 (n := 1000000) (by decide +kernel) dX9_volts_69 (fun x18 t18 => ?_)
            refine lv_aload_n X.1 X.2.1 dX9_volts_71 rfl (lv_at hl 0 rfl) ?_
            refine gf_9_2 X hG h900 q_297 dX9_volts_72 (hN _ _ _ h900) (fun a19 h19 r19 => ?_)
            refine lv_aload_n X.1 X.2.1 dX9_volts_75 rfl (lv_at hl 0 rfl) ?_
            refine gf_9_1 X hG h900 q_296 dX9_volts_76 (hN _ _ _ h900) (fun a20 h20 r20 => ?_)
            refine lv_iload_n X.1 X.2.1 dX9_volts_79 rfl (lv_at hl 1 rfl) ?_
            refine lv_iload_n X.1 X.2.1 dX9_volts_80 rfl (lv_at hl 2 rfl) ?_
            refine k_cVi X hG (c_X7_peakUpTo l D cy τ _ hN hR (ty_Wf.sub (S' := [106, 302, 303, 806, 807, 808, 809, 810, 811, 812, 5000, 6005]) hF (by decide)) h19 h20 x901 x902) h19 rfl yv_X7_peakUpTo q_753 ⟨rfl, rfl⟩ ⟨Nat.le_of_ble_eq_true rfl, Nat.le_of_ble_eq_true rfl⟩ rfl hl.1 rfl (Nat.le_of_ble_eq_true rfl) ⟨Nat.zero_le _, Nat.zero_le _⟩ dX9_volts_81 (fun x22 u23 H locs hG po21 => ?_)
            obtain ⟨eu23, po21⟩ := po21
            rw [eu23] at hG
            have g22 := cI_rng x22
            refine lv_iadd X.1 X.2.1 dX9_volts_84 ?_
            refine n_any (fun x24 => ?_)
            exact ret _ _ _ _ x24 _ hG ⟨rfl, trivial⟩ dX9_volts_85
          · refine lv_tableIn (tgt := 86) (off := 61) X.1 X.2.1 dX9_volts_25 (by omega) (by omega) (by rw [c10]; rfl) (by decide) ?_
            refine n_ldc X q_615 (n := 1000000) (by decide +kernel) dX9_volts_86 (fun x25 t25 => ?_)
            refine lv_aload_n X.1 X.2.1 dX9_volts_88 rfl (lv_at hl 0 rfl) ?_
            refine gf_9_2 X hG h900 q_297 dX9_volts_89 (hN _ _ _ h900) (fun a26 h26 r26 => ?_)
            refine lv_aload_n X.1 X.2.1 dX9_volts_92 rfl (lv_at hl 0 rfl) ?_
            refine gf_9_1 X hG h900 q_296 dX9_volts_93 (hN _ _ _ h900) (fun a27 h27 r27 => ?_)
            refine lv_iload_n X.1 X.2.1 dX9_volts_96 rfl (lv_at hl 1 rfl) ?_
            refine lv_iload_n X.1 X.2.1 dX9_volts_97 rfl (lv_at hl 2 rfl) ?_
            refine k_cVi X hG (c_X7_leastUpTo l D cy τ _ hN hR (ty_Wf.sub (S' := [106, 302, 303, 806, 807, 808, 809, 810, 811, 812, 5000, 6005]) hF (by decide)) h26 h27 x901 x902) h26 rfl yv_X7_leastUpTo q_757 ⟨rfl, rfl⟩ ⟨Nat.le_of_ble_eq_true rfl, Nat.le_of_ble_eq_true rfl⟩ rfl hl.1 rfl (Nat.le_of_ble_eq_true rfl) ⟨Nat.zero_le _, Nat.zero_le _⟩ dX9_volts_98 (fun x29 u30 H locs hG po28 => ?_)
            obtain ⟨eu30, po28⟩ := po28
            rw [eu30] at hG
            have g29 := cI_rng x29
            refine lv_iadd X.1 X.2.1 dX9_volts_101 ?_
            refine n_any (fun x31 => ?_)
            exact ret _ _ _ _ x31 _ hG ⟨rfl, trivial⟩ dX9_volts_102
          · refine lv_tableOut (tgt := 103) X.1 X.2.1 dX9_volts_25 c10 (by decide) ?_
            refine n_ldc X q_327 (n := -1000000002) (by decide +kernel) dX9_volts_103 (fun x32 t32 => ?_)
            exact ret _ _ _ _ x32 _ hG ⟨rfl, trivial⟩ dX9_volts_105
        · refine n_ldc X q_327 (n := -1000000002) (by decide +kernel) dX9_volts_21 (fun x33 t33 => ?_)
          exact ret _ _ _ _ x33 _ hG ⟨rfl, trivial⟩ dX9_volts_23
set_option maxHeartbeats 4000000 in
set_option maxRecDepth 100000 in
theorem c_X9_rest (l : Launch) (D : va_G) (cy : Nat → ClassId) (τ : ty_T) (ρ : ty_R) {M : md_T} (hN : ty_N τ ρ) (hR : ty_Rg M τ ρ) (hF : ty_Wf M τ ρ [106, 302, 303, 806, 807, 808, 809, 810, 811, 812, 5000, 6005]) {a900 : Nat} (h900 : τ a900 = some (0, 9)) (x901 : Int32) : KI l D cy yX9_rest cX9_rest 2 .int (rL 5) τ ρ [.ref a900, .int x901] (fun r u => u = ρ ∧ True) := by
  refine k_metI "EdgeEchoes" rfl (by decide +kernel) (Nat.le_of_ble_eq_true rfl) (fun _ _ _ => rfl) ?_
  intro p e s m args below meth c Q ls X hG hl ret
  have hl : lv_has ls 2 [(0, .ref a900), (1, .int x901)] := hl
  have g901 := cI_rng x901
  refine lv_iload_n X.1 X.2.1 dX9_rest_0 rfl (lv_at hl 1 rfl) ?_
  refine n_if_lt (tgt := 10) X dX9_rest_1 (by decide) (fun c1 => ?_) (fun c1 => ?_)
  · refine n_ldc X q_327 (n := -1000000002) (by decide +kernel) dX9_rest_10 (fun x2 t2 => ?_)
    exact ret _ _ _ _ x2 _ hG ⟨rfl, trivial⟩ dX9_rest_12
  · refine lv_iload_n X.1 X.2.1 dX9_rest_4 rfl (lv_at hl 1 rfl) ?_
    refine n_bp X dX9_rest_5 (by decide) (by decide) (fun x3 t3 => ?_)
    refine n_icmp_lt (tgt := 13) X dX9_rest_7 (by decide) (fun c4 => ?_) (fun c4 => ?_)
    · refine lv_aload_n X.1 X.2.1 dX9_rest_13 rfl (lv_at hl 0 rfl) ?_
      refine gf_9_2 X hG h900 q_297 dX9_rest_14 (hN _ _ _ h900) (fun a5 h5 r5 => ?_)
      refine lv_aload_n X.1 X.2.1 dX9_rest_17 rfl (lv_at hl 0 rfl) ?_
      refine gf_9_1 X hG h900 q_296 dX9_rest_18 (hN _ _ _ h900) (fun a6 h6 r6 => ?_)
      refine lv_iload_n X.1 X.2.1 dX9_rest_21 rfl (lv_at hl 1 rfl) ?_
      refine k_cVi X hG (c_X7_restOf l D cy τ _ hN hR (ty_Wf.sub (S' := [106, 302, 303, 806, 807, 808, 809, 810, 811, 812, 5000, 6005]) hF (by decide)) h5 h6 x901) h5 rfl yv_X7_restOf q_766 ⟨rfl, rfl⟩ ⟨Nat.le_of_ble_eq_true rfl, Nat.le_of_ble_eq_true rfl⟩ rfl hl.1 rfl (Nat.le_of_ble_eq_true rfl) ⟨Nat.zero_le _, Nat.zero_le _⟩ dX9_rest_22 (fun x8 u9 H locs hG po7 => ?_)
      obtain ⟨eu9, po7⟩ := po7
      rw [eu9] at hG
      have g8 := cI_rng x8
      exact ret _ _ _ _ x8 _ hG ⟨rfl, trivial⟩ dX9_rest_25
    · refine n_ldc X q_327 (n := -1000000002) (by decide +kernel) dX9_rest_10 (fun x10 t10 => ?_)
      exact ret _ _ _ _ x10 _ hG ⟨rfl, trivial⟩ dX9_rest_12
set_option maxHeartbeats 4000000 in
set_option maxRecDepth 100000 in
theorem c_X9_sees (l : Launch) (D : va_G) (cy : Nat → ClassId) (τ : ty_T) (ρ : ty_R) {M : md_T} (hN : ty_N τ ρ) (hR : ty_Rg M τ ρ) (hF : ty_Wf M τ ρ [106, 302, 303, 806, 807, 808, 809, 810, 811, 812, 5000, 6005]) {a900 : Nat} (h900 : τ a900 = some (0, 9)) (x901 : Int32) (x902 : Int32) (x903 : Int32) : KI l D cy yX9_sees cX9_sees 4 .int (rL 6) τ ρ [.ref a900, .int x901, .int x902, .int x903] (fun r u => u = ρ ∧ True) := by
  refine k_metI "EdgeEchoes" rfl (by decide +kernel) (Nat.le_of_ble_eq_true rfl) (fun _ _ _ => rfl) ?_
  intro p e s m args below meth c Q ls X hG hl ret
  have hl : lv_has ls 4 [(0, .ref a900), (1, .int x901), (2, .int x902), (3, .int x903)] := hl
  have g901 := cI_rng x901
  have g902 := cI_rng x902
  have g903 := cI_rng x903
  refine lv_aload_n X.1 X.2.1 dX9_sees_0 rfl (lv_at hl 0 rfl) ?_
  refine gf_9_1 X hG h900 q_296 dX9_sees_1 (hN _ _ _ h900) (fun a1 h1 r1 => ?_)
  refine gf_3_1 X hG h1 q_168 dX9_sees_4 (hN _ _ _ h1) (fun a2 h2 r2 => ?_)
  refine lv_iload_n X.1 X.2.1 dX9_sees_7 rfl (lv_at hl 1 rfl) ?_
  refine k_cVi X hG (c_X1_has l D cy τ _ hN hR (ty_Wf.sub (S' := []) hF (by decide)) h2 x901) h2 rfl yv_X1_has q_629 ⟨rfl, rfl⟩ ⟨Nat.le_of_ble_eq_true rfl, Nat.le_of_ble_eq_true rfl⟩ rfl hl.1 rfl (Nat.le_of_ble_eq_true rfl) ⟨Nat.zero_le _, Nat.zero_le _⟩ dX9_sees_8 (fun x4 u5 H locs hG po3 => ?_)
  obtain ⟨eu5, po3⟩ := po3
  rw [eu5] at hG
  refine n_if_ne (tgt := 17) X dX9_sees_11 (by decide) (fun c6 => ?_) (fun c6 => ?_)
  · refine lv_iload_n X.1 X.2.1 dX9_sees_17 rfl (lv_at hl 2 rfl) ?_
    refine n_if_lt (tgt := 37) X dX9_sees_18 (by decide) (fun c7 => ?_) (fun c7 => ?_)
    · refine n_ldc X q_327 (n := -1000000002) (by decide +kernel) dX9_sees_37 (fun x8 t8 => ?_)
      exact ret _ _ _ _ x8 _ hG ⟨rfl, trivial⟩ dX9_sees_39
    · refine lv_iload_n X.1 X.2.1 dX9_sees_21 rfl (lv_at hl 2 rfl) ?_
      refine n_sp X dX9_sees_22 (by decide) (by decide) (fun x9 t9 => ?_)
      refine n_icmp_gt (tgt := 37) X dX9_sees_25 (by decide) (fun c10 => ?_) (fun c10 => ?_)
      · refine n_ldc X q_327 (n := -1000000002) (by decide +kernel) dX9_sees_37 (fun x11 t11 => ?_)
        exact ret _ _ _ _ x11 _ hG ⟨rfl, trivial⟩ dX9_sees_39
      · refine lv_iload_n X.1 X.2.1 dX9_sees_28 rfl (lv_at hl 3 rfl) ?_
        refine n_if_lt (tgt := 37) X dX9_sees_29 (by decide) (fun c12 => ?_) (fun c12 => ?_)
        · refine n_ldc X q_327 (n := -1000000002) (by decide +kernel) dX9_sees_37 (fun x13 t13 => ?_)
          exact ret _ _ _ _ x13 _ hG ⟨rfl, trivial⟩ dX9_sees_39
        · refine lv_iload_n X.1 X.2.1 dX9_sees_32 rfl (lv_at hl 3 rfl) ?_
          refine n_ic X dX9_sees_33 (by decide) (by decide) (fun x14 t14 => ?_)
          refine n_icmp_le (tgt := 40) X dX9_sees_34 (by decide) (fun c15 => ?_) (fun c15 => ?_)
          · refine lv_aload_n X.1 X.2.1 dX9_sees_40 rfl (lv_at hl 0 rfl) ?_
            refine gf_9_2 X hG h900 q_297 dX9_sees_41 (hN _ _ _ h900) (fun a16 h16 r16 => ?_)
            refine lv_aload_n X.1 X.2.1 dX9_sees_44 rfl (lv_at hl 0 rfl) ?_
            refine gf_9_1 X hG h900 q_296 dX9_sees_45 (hN _ _ _ h900) (fun a17 h17 r17 => ?_)
            refine lv_iload_n X.1 X.2.1 dX9_sees_48 rfl (lv_at hl 2 rfl) ?_
            refine k_cVv X hG (c_X7_goOn l D cy τ _ hN hR (ty_Wf.sub (S' := [106, 302, 303, 806, 807, 808, 809, 810, 811, 812, 5000, 6005]) hF (by decide)) h16 h17 x902) h16 rfl yv_X7_goOn q_777 ⟨rfl, rfl⟩ ⟨Nat.le_of_ble_eq_true rfl, Nat.le_of_ble_eq_true rfl⟩ rfl hl.1 rfl (Nat.le_of_ble_eq_true rfl) ⟨Nat.zero_le _, Nat.zero_le _⟩ dX9_sees_49 (fun u20 H locs hG po18 => ?_)
            rw [po18] at hG
            refine lv_iload_n X.1 X.2.1 dX9_sees_52 rfl (lv_at hl 3 rfl) ?_
            refine n_if_ne (tgt := 72) X dX9_sees_53 (by decide) (fun c21 => ?_) (fun c21 => ?_)
            · refine lv_aload_n X.1 X.2.1 dX9_sees_72 rfl (lv_at hl 0 rfl) ?_
              refine gf_9_2 X hG h900 q_297 dX9_sees_73 (hN _ _ _ h900) (fun a22 h22 r22 => ?_)
              refine gf_7_0 X hG h22 q_194 dX9_sees_76 (hN _ _ _ h22) (fun a23 h23 r23 => ?_)
              refine gf_3_1 X hG h23 q_168 dX9_sees_79 (hN _ _ _ h23) (fun a24 h24 r24 => ?_)
              refine gf_1_4 X hG h24 q_142 dX9_sees_82 (hN _ _ _ h24) (fun a25 h25 r25 => ?_)
              refine lv_iload_n X.1 X.2.1 dX9_sees_85 rfl (lv_at hl 1 rfl) ?_
              refine tg_iald X hG h25 rfl (cI_in (n := 6) (by omega)) dX9_sees_86 (fun x26 r26 => ?_)
              refine lv_aload_n X.1 X.2.1 dX9_sees_87 rfl (lv_at hl 0 rfl) ?_
              refine gf_9_1 X hG h900 q_296 dX9_sees_88 (hN _ _ _ h900) (fun a27 h27 r27 => ?_)
              refine gf_3_1 X hG h27 q_168 dX9_sees_91 (hN _ _ _ h27) (fun a28 h28 r28 => ?_)
              refine gf_1_4 X hG h28 q_142 dX9_sees_94 (hN _ _ _ h28) (fun a29 h29 r29 => ?_)
              refine lv_iload_n X.1 X.2.1 dX9_sees_97 rfl (lv_at hl 1 rfl) ?_
              refine tg_iald X hG h29 rfl (cI_in (n := 6) (by omega)) dX9_sees_98 (fun x30 r30 => ?_)
              refine lv_isub X.1 X.2.1 dX9_sees_99 ?_
              refine n_any (fun x31 => ?_)
              exact ret _ _ _ _ x31 _ hG ⟨rfl, trivial⟩ dX9_sees_100
            · refine lv_aload_n X.1 X.2.1 dX9_sees_56 rfl (lv_at hl 0 rfl) ?_
              refine gf_9_2 X hG h900 q_297 dX9_sees_57 (hN _ _ _ h900) (fun a32 h32 r32 => ?_)
              refine gf_7_0 X hG h32 q_194 dX9_sees_60 (hN _ _ _ h32) (fun a33 h33 r33 => ?_)
              refine gf_3_1 X hG h33 q_168 dX9_sees_63 (hN _ _ _ h33) (fun a34 h34 r34 => ?_)
              refine gf_1_3 X hG h34 q_139 dX9_sees_66 (hN _ _ _ h34) (fun a35 h35 r35 => ?_)
              refine lv_iload_n X.1 X.2.1 dX9_sees_69 rfl (lv_at hl 1 rfl) ?_
              refine tg_iald X hG h35 rfl (cI_in (n := 6) (by omega)) dX9_sees_70 (fun x36 r36 => ?_)
              exact ret _ _ _ _ x36 _ hG ⟨rfl, trivial⟩ dX9_sees_71
          · refine n_ldc X q_327 (n := -1000000002) (by decide +kernel) dX9_sees_37 (fun x37 t37 => ?_)
            exact ret _ _ _ _ x37 _ hG ⟨rfl, trivial⟩ dX9_sees_39
  · refine n_ldc X q_609 (n := -1000000001) (by decide +kernel) dX9_sees_14 (fun x38 t38 => ?_)
    exact ret _ _ _ _ x38 _ hG ⟨rfl, trivial⟩ dX9_sees_16
set_option maxHeartbeats 4000000 in
set_option maxRecDepth 100000 in
theorem c_X9_noNoise (l : Launch) (D : va_G) (cy : Nat → ClassId) (τ : ty_T) (ρ : ty_R) {M : md_T} (hN : ty_N τ ρ) (hR : ty_Rg M τ ρ) (hF : ty_Wf M τ ρ []) {a900 : Nat} (h900 : τ a900 = some (0, 9)) (x901 : Int32) (x902 : Int32) : KI l D cy yX9_noNoise cX9_noNoise 6 .int (rL 0) τ ρ [.ref a900, .int x901, .int x902] (fun r u => u = ρ ∧ True) := by
  refine k_metI "EdgeEchoes" rfl (by decide +kernel) (Nat.le_of_ble_eq_true rfl) (fun _ _ _ => rfl) ?_
  intro p e s m args below meth c Q ls X hG hl ret
  have hl : lv_has ls 6 [(0, .ref a900), (1, .int x901), (2, .int x902)] := hl
  have g901 := cI_rng x901
  have g902 := cI_rng x902
  refine lv_iload_n X.1 X.2.1 dX9_noNoise_0 rfl (lv_at hl 1 rfl) ?_
  refine n_if_lt (tgt := 20) X dX9_noNoise_1 (by decide) (fun c1 => ?_) (fun c1 => ?_)
  · refine n_ldc X q_327 (n := -1000000002) (by decide +kernel) dX9_noNoise_20 (fun x2 t2 => ?_)
    exact ret _ _ _ _ x2 _ hG ⟨rfl, trivial⟩ dX9_noNoise_22
  · refine lv_iload_n X.1 X.2.1 dX9_noNoise_4 rfl (lv_at hl 1 rfl) ?_
    refine n_bp X dX9_noNoise_5 (by decide) (by decide) (fun x3 t3 => ?_)
    refine n_icmp_gt (tgt := 20) X dX9_noNoise_7 (by decide) (fun c4 => ?_) (fun c4 => ?_)
    · refine n_ldc X q_327 (n := -1000000002) (by decide +kernel) dX9_noNoise_20 (fun x5 t5 => ?_)
      exact ret _ _ _ _ x5 _ hG ⟨rfl, trivial⟩ dX9_noNoise_22
    · refine lv_iload_n X.1 X.2.1 dX9_noNoise_10 rfl (lv_at hl 2 rfl) ?_
      refine n_if_lt (tgt := 20) X dX9_noNoise_11 (by decide) (fun c6 => ?_) (fun c6 => ?_)
      · refine n_ldc X q_327 (n := -1000000002) (by decide +kernel) dX9_noNoise_20 (fun x7 t7 => ?_)
        exact ret _ _ _ _ x7 _ hG ⟨rfl, trivial⟩ dX9_noNoise_22
      · refine lv_iload_n X.1 X.2.1 dX9_noNoise_14 rfl (lv_at hl 2 rfl) ?_
        refine n_bp X dX9_noNoise_15 (by decide) (by decide) (fun x8 t8 => ?_)
        refine n_icmp_le (tgt := 23) X dX9_noNoise_17 (by decide) (fun c9 => ?_) (fun c9 => ?_)
        · refine lv_ldc2 X.1 X.2.1 X.2.2.2.1 (X.2.2.2.2.1 _ q_785) dX9_noNoise_23 ?_
          refine lv_topl (fun w10 e10 => ?_)
          refine lv_lstore_n (lv' := [(3, .long w10), (0, .ref a900), (1, .int x901), (2, .int x902)]) X.1 X.2.1 dX9_noNoise_26 rfl hl (by decide) rfl (fun ls hl => ?_)
          refine n_ic X dX9_noNoise_27 (by decide) (by decide) (fun x11 t11 => ?_)
          refine lv_istore (lv' := [(5, .int x11), (3, .long w10), (0, .ref a900), (1, .int x901), (2, .int x902)]) X.1 X.2.1 dX9_noNoise_28 hl (by decide) rfl (fun ls hl => ?_)
          have J30 : ∀ (n : Nat) (H : Heap) (locs : List Loc) (ls : Array Slot) (w12 : Int64) (x13 : Int32), (0 ≤ x13.toInt ∧ x13.toInt ≤ 60) → (60 - x13.toInt).toNat < n → TG D cy τ ρ (ty_d τ) s.heap H locs → lv_has ls 6 [(0, .ref a900), (1, .int x901), (2, .int x902), (3, .long w12), (5, .int x13)] → W p l e (rL 0) s m args below meth c H locs 0 0 Q (F0 m 30 ls []) := by
            intro n
            induction n with
            | zero => intro H locs ls w12 x13 bx13 hm30 hG hl; exact absurd hm30 (Nat.not_lt_zero _)
            | succ n ih30 =>
              intro H locs ls w12 x13 bx13 hm30 hG hl
              refine lv_iload X.1 X.2.1 dX9_noNoise_30 (lv_at hl 4 rfl) ?_
              refine lv_iload_n X.1 X.2.1 dX9_noNoise_32 rfl (lv_at hl 1 rfl) ?_
              refine n_icmp_ge (tgt := 51) X dX9_noNoise_33 (by decide) (fun c14 => ?_) (fun c14 => ?_)
              · refine lv_lload_n X.1 X.2.1 dX9_noNoise_51 rfl (lv_at hl 3 rfl) ?_
                refine lv_l2i X.1 X.2.1 dX9_noNoise_52 rfl ?_
                refine n_any (fun x15 => ?_)
                exact ret _ _ _ _ x15 _ hG ⟨rfl, trivial⟩ dX9_noNoise_53
              · refine lv_lload_n X.1 X.2.1 dX9_noNoise_36 rfl (lv_at hl 3 rfl) ?_
                refine lv_iload_n X.1 X.2.1 dX9_noNoise_37 rfl (lv_at hl 2 rfl) ?_
                refine lv_i2l X.1 X.2.1 dX9_noNoise_38 rfl ?_
                refine n_anyl (fun w16 => ?_)
                refine lv_lmul X.1 X.2.1 dX9_noNoise_39 ?_
                refine n_anyl (fun w17 => ?_)
                refine lv_ldc2 X.1 X.2.1 X.2.2.2.1 (X.2.2.2.2.1 _ q_786) dX9_noNoise_40 ?_
                refine lv_topl (fun w18 e18 => ?_)
                refine lv_ldiv X.1 X.2.1 dX9_noNoise_43 (by rw [e18]; decide) ?_
                refine n_anyl (fun w19 => ?_)
                refine lv_lstore_n (lv' := [(3, .long w19), (0, .ref a900), (1, .int x901), (2, .int x902), (5, .int x13)]) X.1 X.2.1 dX9_noNoise_44 rfl hl (by decide) rfl (fun ls hl => ?_)
                refine n_inc X (fun z21 => [(5, .int z21), (3, .long w19), (0, .ref a900), (1, .int x901), (2, .int x902)]) dX9_noNoise_45 hl (k := 4) rfl (by decide) (by decide) (by omega) (by omega) (by decide) (fun _ => rfl) (fun x20 ls t20 hl => ?_)
                have hl : lv_has ls 6 [(5, .int x20), (3, .long w19), (0, .ref a900), (1, .int x901), (2, .int x902)] := hl
                refine lv_goto (tgt := 30) X.1 X.2.1 dX9_noNoise_48 (by decide) ?_
                exact ih30 _ _ _ w19 x20 (by omega) (by omega) hG (lv_sub hl [2, 3, 4, 1, 0] rfl)
          exact J30 _ _ _ _ w10 x11 (by omega) (Nat.lt_succ_self _) hG (lv_sub hl [2, 3, 4, 1, 0] rfl)
        · refine n_ldc X q_327 (n := -1000000002) (by decide +kernel) dX9_noNoise_20 (fun x22 t22 => ?_)
          exact ret _ _ _ _ x22 _ hG ⟨rfl, trivial⟩ dX9_noNoise_22
set_option maxHeartbeats 4000000 in
set_option maxRecDepth 100000 in
theorem c_X9_see (l : Launch) (D : va_G) (cy : Nat → ClassId) (τ : ty_T) (ρ : ty_R) {M : md_T} (hN : ty_N τ ρ) (hR : ty_Rg M τ ρ) (hF : ty_Wf M τ ρ [504, 5000, 5001, 6007]) {a900 : Nat} (h900 : τ a900 = some (0, 9)) (x901 : Int32) (x902 : Int32) (x903 : Int32) (zx903 : x903.toInt = 0 ∨ x903.toInt = 1) : KI l D cy yX9_see cX9_see 4 .int (rL 1) τ ρ [.ref a900, .int x901, .int x902, .int x903] (fun r u => u = ρ ∧ True) := by
  refine k_metI "EdgeEchoes" rfl (by decide +kernel) (Nat.le_of_ble_eq_true rfl) (fun _ _ _ => rfl) ?_
  intro p e s m args below meth c Q ls X hG hl ret
  have hl : lv_has ls 4 [(0, .ref a900), (1, .int x901), (2, .int x902), (3, .int x903)] := hl
  have g901 := cI_rng x901
  have g902 := cI_rng x902
  refine lv_iload_n X.1 X.2.1 dX9_see_0 rfl (lv_at hl 1 rfl) ?_
  refine n_ic X dX9_see_1 (by decide) (by decide) (fun x1 t1 => ?_)
  refine n_icmp_lt (tgt := 23) X dX9_see_2 (by decide) (fun c2 => ?_) (fun c2 => ?_)
  · refine n_ldc X q_327 (n := -1000000002) (by decide +kernel) dX9_see_23 (fun x3 t3 => ?_)
    exact ret _ _ _ _ x3 _ hG ⟨rfl, trivial⟩ dX9_see_25
  · refine lv_iload_n X.1 X.2.1 dX9_see_5 rfl (lv_at hl 1 rfl) ?_
    refine n_sp X dX9_see_6 (by decide) (by decide) (fun x4 t4 => ?_)
    refine n_icmp_gt (tgt := 23) X dX9_see_9 (by decide) (fun c5 => ?_) (fun c5 => ?_)
    · refine n_ldc X q_327 (n := -1000000002) (by decide +kernel) dX9_see_23 (fun x6 t6 => ?_)
      exact ret _ _ _ _ x6 _ hG ⟨rfl, trivial⟩ dX9_see_25
    · refine lv_iload_n X.1 X.2.1 dX9_see_12 rfl (lv_at hl 2 rfl) ?_
      refine n_if_lt (tgt := 23) X dX9_see_13 (by decide) (fun c7 => ?_) (fun c7 => ?_)
      · refine n_ldc X q_327 (n := -1000000002) (by decide +kernel) dX9_see_23 (fun x8 t8 => ?_)
        exact ret _ _ _ _ x8 _ hG ⟨rfl, trivial⟩ dX9_see_25
      · refine lv_iload_n X.1 X.2.1 dX9_see_16 rfl (lv_at hl 2 rfl) ?_
        refine n_ldcw X q_791 (n := 99000) (by decide +kernel) dX9_see_17 (fun x9 t9 => ?_)
        refine n_icmp_le (tgt := 26) X dX9_see_20 (by decide) (fun c10 => ?_) (fun c10 => ?_)
        · refine lv_aload_n X.1 X.2.1 dX9_see_26 rfl (lv_at hl 0 rfl) ?_
          refine gf_9_4 X hG h900 q_299 dX9_see_27 (hN _ _ _ h900) (fun a11 h11 r11 => ?_)
          refine lv_iload_n X.1 X.2.1 dX9_see_30 rfl (lv_at hl 1 rfl) ?_
          refine lv_iload_n X.1 X.2.1 dX9_see_31 rfl (lv_at hl 2 rfl) ?_
          refine lv_iload_n X.1 X.2.1 dX9_see_32 rfl (lv_at hl 3 rfl) ?_
          refine k_cVi X hG (c_X5_append l D cy τ _ hN hR (ty_Wf.sub (S' := [504, 5000, 5001, 6007]) hF (by decide)) h11 x901 (by omega) x902 x903 (by omega)) h11 rfl yv_X5_append q_792 ⟨rfl, rfl⟩ ⟨Nat.le_of_ble_eq_true rfl, Nat.le_of_ble_eq_true rfl⟩ rfl hl.1 rfl (Nat.le_of_ble_eq_true rfl) ⟨Nat.zero_le _, Nat.zero_le _⟩ dX9_see_33 (fun x13 u14 H locs hG po12 => ?_)
          obtain ⟨eu14, po12⟩ := po12
          rw [eu14] at hG
          refine n_if_eq (tgt := 49) X dX9_see_36 (by decide) (fun c15 => ?_) (fun c15 => ?_)
          · refine n_ldc X q_332 (n := -1000000004) (by decide +kernel) dX9_see_49 (fun x16 t16 => ?_)
            exact ret _ _ _ _ x16 _ hG ⟨rfl, trivial⟩ dX9_see_51
          · refine lv_aload_n X.1 X.2.1 dX9_see_39 rfl (lv_at hl 0 rfl) ?_
            refine gf_9_4 X hG h900 q_299 dX9_see_40 (hN _ _ _ h900) (fun a17 h17 r17 => ?_)
            refine gf_5_4 X hG h17 q_233 dX9_see_43 (fun x18 r18 => ?_)
            have g18 := cI_rng x18
            refine lv_goto (tgt := 51) X.1 X.2.1 dX9_see_46 (by decide) ?_
            exact ret _ _ _ _ x18 _ hG ⟨rfl, trivial⟩ dX9_see_51
        · refine n_ldc X q_327 (n := -1000000002) (by decide +kernel) dX9_see_23 (fun x19 t19 => ?_)
          exact ret _ _ _ _ x19 _ hG ⟨rfl, trivial⟩ dX9_see_25
set_option maxHeartbeats 4000000 in
set_option maxRecDepth 100000 in
theorem c_X9_write (l : Launch) (D : va_G) (cy : Nat → ClassId) (τ : ty_T) (ρ : ty_R) {M : md_T} (hN : ty_N τ ρ) (hR : ty_Rg M τ ρ) (hF : ty_Wf M τ ρ [2, 5000, 6006]) {a900 : Nat} (h900 : τ a900 = some (0, 9)) (x901 : Int32) (x902 : Int32) : KI l D cy yX9_write cX9_write 3 .int (rL 1) τ ρ [.ref a900, .int x901, .int x902] (fun r u => u = ρ ∧ True) := by
  refine k_metI "EdgeEchoes" rfl (by decide +kernel) (Nat.le_of_ble_eq_true rfl) (fun _ _ _ => rfl) ?_
  intro p e s m args below meth c Q ls X hG hl ret
  have hl : lv_has ls 3 [(0, .ref a900), (1, .int x901), (2, .int x902)] := hl
  have g901 := cI_rng x901
  have g902 := cI_rng x902
  refine lv_aload_n X.1 X.2.1 dX9_write_0 rfl (lv_at hl 0 rfl) ?_
  refine gf_9_1 X hG h900 q_296 dX9_write_1 (hN _ _ _ h900) (fun a1 h1 r1 => ?_)
  refine gf_3_1 X hG h1 q_168 dX9_write_4 (hN _ _ _ h1) (fun a2 h2 r2 => ?_)
  refine lv_iload_n X.1 X.2.1 dX9_write_7 rfl (lv_at hl 1 rfl) ?_
  refine k_cVi X hG (c_X1_has l D cy τ _ hN hR (ty_Wf.sub (S' := []) hF (by decide)) h2 x901) h2 rfl yv_X1_has q_629 ⟨rfl, rfl⟩ ⟨Nat.le_of_ble_eq_true rfl, Nat.le_of_ble_eq_true rfl⟩ rfl hl.1 rfl (Nat.le_of_ble_eq_true rfl) ⟨Nat.zero_le _, Nat.zero_le _⟩ dX9_write_8 (fun x4 u5 H locs hG po3 => ?_)
  obtain ⟨eu5, po3⟩ := po3
  rw [eu5] at hG
  refine n_if_ne (tgt := 17) X dX9_write_11 (by decide) (fun c6 => ?_) (fun c6 => ?_)
  · refine lv_iload_n X.1 X.2.1 dX9_write_17 rfl (lv_at hl 2 rfl) ?_
    refine n_if_lt (tgt := 28) X dX9_write_18 (by decide) (fun c7 => ?_) (fun c7 => ?_)
    · refine n_ldc X q_327 (n := -1000000002) (by decide +kernel) dX9_write_28 (fun x8 t8 => ?_)
      exact ret _ _ _ _ x8 _ hG ⟨rfl, trivial⟩ dX9_write_30
    · refine lv_iload_n X.1 X.2.1 dX9_write_21 rfl (lv_at hl 2 rfl) ?_
      refine n_sp X dX9_write_22 (by decide) (by decide) (fun x9 t9 => ?_)
      refine n_icmp_le (tgt := 31) X dX9_write_25 (by decide) (fun c10 => ?_) (fun c10 => ?_)
      · refine lv_aload_n X.1 X.2.1 dX9_write_31 rfl (lv_at hl 0 rfl) ?_
        refine gf_9_5 X hG h900 q_300 dX9_write_32 (hN _ _ _ h900) (fun a11 h11 r11 => ?_)
        refine lv_iload_n X.1 X.2.1 dX9_write_35 rfl (lv_at hl 1 rfl) ?_
        refine lv_iload_n X.1 X.2.1 dX9_write_36 rfl (lv_at hl 2 rfl) ?_
        refine k_cVi X hG (c_X0_append l D cy τ _ hN hR (ty_Wf.sub (S' := [2, 5000, 6006]) hF (by decide)) h11 x901 (by omega) x902) h11 rfl yv_X0_append q_841 ⟨rfl, rfl⟩ ⟨Nat.le_of_ble_eq_true rfl, Nat.le_of_ble_eq_true rfl⟩ rfl hl.1 rfl (Nat.le_of_ble_eq_true rfl) ⟨Nat.zero_le _, Nat.zero_le _⟩ dX9_write_37 (fun x13 u14 H locs hG po12 => ?_)
        obtain ⟨eu14, po12⟩ := po12
        rw [eu14] at hG
        refine n_if_eq (tgt := 53) X dX9_write_40 (by decide) (fun c15 => ?_) (fun c15 => ?_)
        · refine n_ldc X q_332 (n := -1000000004) (by decide +kernel) dX9_write_53 (fun x16 t16 => ?_)
          exact ret _ _ _ _ x16 _ hG ⟨rfl, trivial⟩ dX9_write_55
        · refine lv_aload_n X.1 X.2.1 dX9_write_43 rfl (lv_at hl 0 rfl) ?_
          refine gf_9_5 X hG h900 q_300 dX9_write_44 (hN _ _ _ h900) (fun a17 h17 r17 => ?_)
          refine gf_0_2 X hG h17 q_267 dX9_write_47 (fun x18 r18 => ?_)
          have g18 := cI_rng x18
          refine lv_goto (tgt := 55) X.1 X.2.1 dX9_write_50 (by decide) ?_
          exact ret _ _ _ _ x18 _ hG ⟨rfl, trivial⟩ dX9_write_55
      · refine n_ldc X q_327 (n := -1000000002) (by decide +kernel) dX9_write_28 (fun x19 t19 => ?_)
        exact ret _ _ _ _ x19 _ hG ⟨rfl, trivial⟩ dX9_write_30
  · refine n_ldc X q_609 (n := -1000000001) (by decide +kernel) dX9_write_14 (fun x20 t20 => ?_)
    exact ret _ _ _ _ x20 _ hG ⟨rfl, trivial⟩ dX9_write_16
set_option maxHeartbeats 4000000 in
set_option maxRecDepth 100000 in
theorem c_X9_judge (l : Launch) (D : va_G) (cy : Nat → ClassId) (τ : ty_T) (ρ : ty_R) {M : md_T} (hN : ty_N τ ρ) (hR : ty_Rg M τ ρ) (hF : ty_Wf M τ ρ []) {a900 : Nat} (h900 : τ a900 = some (0, 9)) : KI l D cy yX9_judge cX9_judge 1 .int (rL 2) τ ρ [.ref a900] (fun r u => u = ρ ∧ True) := by
  refine k_metI "EdgeEchoes" rfl (by decide +kernel) (Nat.le_of_ble_eq_true rfl) (fun _ _ _ => rfl) ?_
  intro p e s m args below meth c Q ls X hG hl ret
  have hl : lv_has ls 1 [(0, .ref a900)] := hl
  refine lv_aload_n X.1 X.2.1 dX9_judge_0 rfl (lv_at hl 0 rfl) ?_
  refine gf_9_5 X hG h900 q_300 dX9_judge_1 (hN _ _ _ h900) (fun a1 h1 r1 => ?_)
  refine lv_aload_n X.1 X.2.1 dX9_judge_4 rfl (lv_at hl 0 rfl) ?_
  refine gf_9_1 X hG h900 q_296 dX9_judge_5 (hN _ _ _ h900) (fun a2 h2 r2 => ?_)
  refine gf_3_1 X hG h2 q_168 dX9_judge_8 (hN _ _ _ h2) (fun a3 h3 r3 => ?_)
  refine k_cVi X hG (c_X0_firstWrong l D cy τ _ hN hR (ty_Wf.sub (S' := []) hF (by decide)) h1 h3) h1 rfl yv_X0_firstWrong q_849 ⟨rfl, rfl⟩ ⟨Nat.le_of_ble_eq_true rfl, Nat.le_of_ble_eq_true rfl⟩ rfl hl.1 rfl (Nat.le_of_ble_eq_true rfl) ⟨Nat.zero_le _, Nat.zero_le _⟩ dX9_judge_11 (fun x5 u6 H locs hG po4 => ?_)
  obtain ⟨eu6, po4⟩ := po4
  rw [eu6] at hG
  have g5 := cI_rng x5
  exact ret _ _ _ _ x5 _ hG ⟨rfl, trivial⟩ dX9_judge_14
set_option maxHeartbeats 4000000 in
set_option maxRecDepth 100000 in
theorem c_X9_tear (l : Launch) (D : va_G) (cy : Nat → ClassId) (τ : ty_T) (ρ : ty_R) {M : md_T} (hN : ty_N τ ρ) (hR : ty_Rg M τ ρ) (hF : ty_Wf M τ ρ [2, 504]) {a900 : Nat} (h900 : τ a900 = some (0, 9)) : KI l D cy yX9_tear cX9_tear 2 .int (rL 0) τ ρ [.ref a900] (fun r u => u = ρ ∧ True) := by
  refine k_metI "EdgeEchoes" rfl (by decide +kernel) (Nat.le_of_ble_eq_true rfl) (fun _ _ _ => rfl) ?_
  intro p e s m args below meth c Q ls X hG hl ret
  have hl : lv_has ls 2 [(0, .ref a900)] := hl
  refine lv_aload_n X.1 X.2.1 dX9_tear_0 rfl (lv_at hl 0 rfl) ?_
  refine gf_9_4 X hG h900 q_299 dX9_tear_1 (hN _ _ _ h900) (fun a1 h1 r1 => ?_)
  refine gf_5_4 X hG h1 q_233 dX9_tear_4 (fun x2 r2 => ?_)
  have g2 := cI_rng x2
  refine lv_aload_n X.1 X.2.1 dX9_tear_7 rfl (lv_at hl 0 rfl) ?_
  refine gf_9_5 X hG h900 q_300 dX9_tear_8 (hN _ _ _ h900) (fun a3 h3 r3 => ?_)
  refine gf_0_2 X hG h3 q_267 dX9_tear_11 (fun x4 r4 => ?_)
  have g4 := cI_rng x4
  refine lv_iadd X.1 X.2.1 dX9_tear_14 ?_
  refine n_any (fun x5 => ?_)
  refine lv_istore_n (lv' := [(1, .int x5), (0, .ref a900)]) X.1 X.2.1 dX9_tear_15 rfl hl (by decide) rfl (fun ls hl => ?_)
  refine lv_aload_n X.1 X.2.1 dX9_tear_16 rfl (lv_at hl 1 rfl) ?_
  refine gf_9_4 X hG h900 q_299 dX9_tear_17 (hN _ _ _ h900) (fun a6 h6 r6 => ?_)
  refine n_ic X dX9_tear_20 (by decide) (by decide) (fun x7 t7 => ?_)
  refine pf_5_4 X hG h6 q_233 dX9_tear_21 (hF _ _ _ _ h6 (ty_in (n := 504) rfl) (ty_rno rfl)) (fun H locs hG => ?_)
  refine lv_aload_n X.1 X.2.1 dX9_tear_24 rfl (lv_at hl 1 rfl) ?_
  refine gf_9_5 X hG h900 q_300 dX9_tear_25 (hN _ _ _ h900) (fun a8 h8 r8 => ?_)
  refine n_ic X dX9_tear_28 (by decide) (by decide) (fun x9 t9 => ?_)
  refine pf_0_2 X hG h8 q_267 dX9_tear_29 (hF _ _ _ _ h8 (ty_in (n := 2) rfl) (ty_rno rfl)) (fun H locs hG => ?_)
  refine lv_iload_n X.1 X.2.1 dX9_tear_32 rfl (lv_at hl 0 rfl) ?_
  exact ret _ _ _ _ x5 _ hG ⟨rfl, trivial⟩ dX9_tear_33
set_option maxHeartbeats 4000000 in
set_option maxRecDepth 100000 in
theorem c_X9_seed (l : Launch) (D : va_G) (cy : Nat → ClassId) (τ : ty_T) (ρ : ty_R) {M : md_T} (hN : ty_N τ ρ) (hR : ty_Rg M τ ρ) (hF : ty_Wf M τ ρ [908]) {a900 : Nat} (h900 : τ a900 = some (0, 9)) (x901 : Int32) : KI l D cy yX9_seed cX9_seed 3 .int (rL 0) τ ρ [.ref a900, .int x901] (fun r u => u = ρ ∧ True) := by
  refine k_metI "EdgeEchoes" rfl (by decide +kernel) (Nat.le_of_ble_eq_true rfl) (fun _ _ _ => rfl) ?_
  intro p e s m args below meth c Q ls X hG hl ret
  have hl : lv_has ls 3 [(0, .ref a900), (1, .int x901)] := hl
  have g901 := cI_rng x901
  refine lv_iload_n X.1 X.2.1 dX9_seed_0 rfl (lv_at hl 1 rfl) ?_
  refine n_if_ge (tgt := 7) X dX9_seed_1 (by decide) (fun c1 => ?_) (fun c1 => ?_)
  · refine lv_aload_n X.1 X.2.1 dX9_seed_7 rfl (lv_at hl 0 rfl) ?_
    refine gf_9_8 X hG h900 q_303 dX9_seed_8 (fun x2 r2 => ?_)
    have g2 := cI_rng x2
    refine lv_istore_n (lv' := [(2, .int x2), (0, .ref a900), (1, .int x901)]) X.1 X.2.1 dX9_seed_11 rfl hl (by decide) rfl (fun ls hl => ?_)
    refine lv_aload_n X.1 X.2.1 dX9_seed_12 rfl (lv_at hl 1 rfl) ?_
    refine lv_iload_n X.1 X.2.1 dX9_seed_13 rfl (lv_at hl 2 rfl) ?_
    refine pf_9_8 X hG h900 q_303 dX9_seed_14 (hF _ _ _ _ h900 (ty_in (n := 908) rfl) (ty_rno rfl)) (fun H locs hG => ?_)
    refine lv_iload_n X.1 X.2.1 dX9_seed_17 rfl (lv_at hl 0 rfl) ?_
    exact ret _ _ _ _ x2 _ hG ⟨rfl, trivial⟩ dX9_seed_18
  · refine n_ldc X q_327 (n := -1000000002) (by decide +kernel) dX9_seed_4 (fun x3 t3 => ?_)
    exact ret _ _ _ _ x3 _ hG ⟨rfl, trivial⟩ dX9_seed_6
set_option maxHeartbeats 4000000 in
set_option maxRecDepth 100000 in
theorem c_X9_keep (l : Launch) (D : va_G) (cy : Nat → ClassId) (τ : ty_T) (ρ : ty_R) {M : md_T} (hN : ty_N τ ρ) (hR : ty_Rg M τ ρ) (hF : ty_Wf M τ ρ [106, 201, 202, 302, 303, 401, 806, 807, 808, 809, 810, 811, 812, 5000, 6005]) {a900 : Nat} (h900 : τ a900 = some (0, 9)) (x901 : Int32) : KI l D cy yX9_keep cX9_keep 2 .int (rL 3) τ ρ [.ref a900, .int x901] (fun r u => u = ρ ∧ (0 ≤ x901.toInt ∧ x901.toInt ≤ 1 → r.toInt = 1) ∧ (x901.toInt < 0 ∨ 1 < x901.toInt → r.toInt = -1000000001)) := by
  refine k_metI "EdgeEchoes" rfl (by decide +kernel) (Nat.le_of_ble_eq_true rfl) (fun _ _ _ => rfl) ?_
  intro p e s m args below meth c Q ls X hG hl ret
  have hl : lv_has ls 2 [(0, .ref a900), (1, .int x901)] := hl
  have g901 := cI_rng x901
  refine lv_iload_n X.1 X.2.1 dX9_keep_0 rfl (lv_at hl 1 rfl) ?_
  refine n_if_lt (tgt := 9) X dX9_keep_1 (by decide) (fun c1 => ?_) (fun c1 => ?_)
  · refine n_ldc X q_609 (n := -1000000001) (by decide +kernel) dX9_keep_9 (fun x2 t2 => ?_)
    exact ret _ _ _ _ x2 _ hG ⟨rfl, by omega⟩ dX9_keep_11
  · refine lv_iload_n X.1 X.2.1 dX9_keep_4 rfl (lv_at hl 1 rfl) ?_
    refine n_ic X dX9_keep_5 (by decide) (by decide) (fun x3 t3 => ?_)
    refine n_icmp_lt (tgt := 12) X dX9_keep_6 (by decide) (fun c4 => ?_) (fun c4 => ?_)
    · refine lv_aload_n X.1 X.2.1 dX9_keep_12 rfl (lv_at hl 0 rfl) ?_
      refine gf_9_6 X hG h900 q_301 dX9_keep_13 (hN _ _ _ h900) (fun a5 h5 r5 => ?_)
      refine lv_iload_n X.1 X.2.1 dX9_keep_16 rfl (lv_at hl 1 rfl) ?_
      refine tg_aald X hG h5 (Or.inr rfl) (cI_in (n := 2) (by omega)) dX9_keep_17 (hN _ _ _ h5) (fun a6 h6 r6 => ?_)
      have h6 : τ a6 = some (0, 2) := h6
      refine gf_2_0 X hG h6 q_285 dX9_keep_18 (hN _ _ _ h6) (fun a7 h7 r7 => ?_)
      refine lv_aload_n X.1 X.2.1 dX9_keep_21 rfl (lv_at hl 0 rfl) ?_
      refine gf_9_1 X hG h900 q_296 dX9_keep_22 (hN _ _ _ h900) (fun a8 h8 r8 => ?_)
      refine k_cVv X hG (c_X3_copyFrom l D cy τ _ hN hR (ty_Wf.sub (S' := [106, 302, 303, 806, 807, 808, 809, 810, 811, 812, 5000, 6005]) hF (by decide)) h7 h8) h7 rfl yv_X3_copyFrom q_516 ⟨rfl, rfl⟩ ⟨Nat.le_of_ble_eq_true rfl, Nat.le_of_ble_eq_true rfl⟩ rfl hl.1 rfl (Nat.le_of_ble_eq_true rfl) ⟨Nat.zero_le _, Nat.zero_le _⟩ dX9_keep_25 (fun u11 H locs hG po9 => ?_)
      rw [po9] at hG
      refine lv_aload_n X.1 X.2.1 dX9_keep_28 rfl (lv_at hl 0 rfl) ?_
      refine gf_9_6 X hG h900 q_301 dX9_keep_29 (hN _ _ _ h900) (fun a12 h12 r12 => ?_)
      refine lv_iload_n X.1 X.2.1 dX9_keep_32 rfl (lv_at hl 1 rfl) ?_
      refine tg_aald X hG h12 (Or.inr rfl) (cI_in (n := 2) (by omega)) dX9_keep_33 (hN _ _ _ h12) (fun a13 h13 r13 => ?_)
      have h13 : τ a13 = some (0, 2) := h13
      refine lv_aload_n X.1 X.2.1 dX9_keep_34 rfl (lv_at hl 0 rfl) ?_
      refine gf_9_8 X hG h900 q_303 dX9_keep_35 (fun x14 r14 => ?_)
      have g14 := cI_rng x14
      refine pf_2_1 X hG h13 q_286 dX9_keep_38 (hF _ _ _ _ h13 (ty_in (n := 201) rfl) (ty_rno rfl)) (fun H locs hG => ?_)
      refine lv_aload_n X.1 X.2.1 dX9_keep_41 rfl (lv_at hl 0 rfl) ?_
      refine gf_9_6 X hG h900 q_301 dX9_keep_42 (hN _ _ _ h900) (fun a15 h15 r15 => ?_)
      refine lv_iload_n X.1 X.2.1 dX9_keep_45 rfl (lv_at hl 1 rfl) ?_
      refine tg_aald X hG h15 (Or.inr rfl) (cI_in (n := 2) (by omega)) dX9_keep_46 (hN _ _ _ h15) (fun a16 h16 r16 => ?_)
      have h16 : τ a16 = some (0, 2) := h16
      refine n_ic X dX9_keep_47 (by decide) (by decide) (fun x17 t17 => ?_)
      refine pf_2_2 X hG h16 q_287 (by omega) dX9_keep_48 (hF _ _ _ _ h16 (ty_in (n := 202) rfl) (ty_rno rfl)) (fun H locs hG => ?_)
      refine lv_aload_n X.1 X.2.1 dX9_keep_51 rfl (lv_at hl 0 rfl) ?_
      refine gf_9_3 X hG h900 q_298 dX9_keep_52 (hN _ _ _ h900) (fun a18 h18 r18 => ?_)
      refine n_ic X dX9_keep_55 (by decide) (by decide) (fun x19 t19 => ?_)
      refine pf_4_1 X hG h18 q_213 dX9_keep_56 (hF _ _ _ _ h18 (ty_in (n := 401) rfl) (ty_rno rfl)) (fun H locs hG => ?_)
      refine n_ic X dX9_keep_59 (by decide) (by decide) (fun x20 t20 => ?_)
      exact ret _ _ _ _ x20 _ hG ⟨rfl, by omega⟩ dX9_keep_60
    · refine n_ldc X q_609 (n := -1000000001) (by decide +kernel) dX9_keep_9 (fun x21 t21 => ?_)
      exact ret _ _ _ _ x21 _ hG ⟨rfl, by omega⟩ dX9_keep_11
set_option maxHeartbeats 4000000 in
set_option maxRecDepth 100000 in
theorem c_X9_goBack (l : Launch) (D : va_G) (cy : Nat → ClassId) (τ : ty_T) (ρ : ty_R) {M : md_T} (hN : ty_N τ ρ) (hR : ty_Rg M τ ρ) (hF : ty_Wf M τ ρ [106, 302, 303, 401, 806, 807, 808, 809, 810, 811, 812, 908, 5000, 6005]) {a900 : Nat} (h900 : τ a900 = some (0, 9)) (x901 : Int32) : KI l D cy yX9_goBack cX9_goBack 2 .int (rL 3) τ ρ [.ref a900, .int x901] (fun r u => u = ρ ∧ True) := by
  refine k_metI "EdgeEchoes" rfl (by decide +kernel) (Nat.le_of_ble_eq_true rfl) (fun _ _ _ => rfl) ?_
  intro p e s m args below meth c Q ls X hG hl ret
  have hl : lv_has ls 2 [(0, .ref a900), (1, .int x901)] := hl
  have g901 := cI_rng x901
  refine lv_iload_n X.1 X.2.1 dX9_goBack_0 rfl (lv_at hl 1 rfl) ?_
  refine n_if_lt (tgt := 9) X dX9_goBack_1 (by decide) (fun c1 => ?_) (fun c1 => ?_)
  · refine n_ldc X q_609 (n := -1000000001) (by decide +kernel) dX9_goBack_9 (fun x2 t2 => ?_)
    exact ret _ _ _ _ x2 _ hG ⟨rfl, trivial⟩ dX9_goBack_11
  · refine lv_iload_n X.1 X.2.1 dX9_goBack_4 rfl (lv_at hl 1 rfl) ?_
    refine n_ic X dX9_goBack_5 (by decide) (by decide) (fun x3 t3 => ?_)
    refine n_icmp_lt (tgt := 12) X dX9_goBack_6 (by decide) (fun c4 => ?_) (fun c4 => ?_)
    · refine lv_aload_n X.1 X.2.1 dX9_goBack_12 rfl (lv_at hl 0 rfl) ?_
      refine gf_9_6 X hG h900 q_301 dX9_goBack_13 (hN _ _ _ h900) (fun a5 h5 r5 => ?_)
      refine lv_iload_n X.1 X.2.1 dX9_goBack_16 rfl (lv_at hl 1 rfl) ?_
      refine tg_aald X hG h5 (Or.inr rfl) (cI_in (n := 2) (by omega)) dX9_goBack_17 (hN _ _ _ h5) (fun a6 h6 r6 => ?_)
      have h6 : τ a6 = some (0, 2) := h6
      refine gf_2_2 X hG h6 q_287 dX9_goBack_18 (fun x7 b7 r7 => ?_)
      refine n_if_ne (tgt := 27) X dX9_goBack_21 (by decide) (fun c8 => ?_) (fun c8 => ?_)
      · refine lv_aload_n X.1 X.2.1 dX9_goBack_27 rfl (lv_at hl 0 rfl) ?_
        refine gf_9_1 X hG h900 q_296 dX9_goBack_28 (hN _ _ _ h900) (fun a9 h9 r9 => ?_)
        refine lv_aload_n X.1 X.2.1 dX9_goBack_31 rfl (lv_at hl 0 rfl) ?_
        refine gf_9_6 X hG h900 q_301 dX9_goBack_32 (hN _ _ _ h900) (fun a10 h10 r10 => ?_)
        refine lv_iload_n X.1 X.2.1 dX9_goBack_35 rfl (lv_at hl 1 rfl) ?_
        refine tg_aald X hG h10 (Or.inr rfl) (cI_in (n := 2) (by omega)) dX9_goBack_36 (hN _ _ _ h10) (fun a11 h11 r11 => ?_)
        have h11 : τ a11 = some (0, 2) := h11
        refine gf_2_0 X hG h11 q_285 dX9_goBack_37 (hN _ _ _ h11) (fun a12 h12 r12 => ?_)
        refine k_cVv X hG (c_X3_copyFrom l D cy τ _ hN hR (ty_Wf.sub (S' := [106, 302, 303, 806, 807, 808, 809, 810, 811, 812, 5000, 6005]) hF (by decide)) h9 h12) h9 rfl yv_X3_copyFrom q_516 ⟨rfl, rfl⟩ ⟨Nat.le_of_ble_eq_true rfl, Nat.le_of_ble_eq_true rfl⟩ rfl hl.1 rfl (Nat.le_of_ble_eq_true rfl) ⟨Nat.zero_le _, Nat.zero_le _⟩ dX9_goBack_40 (fun u15 H locs hG po13 => ?_)
        rw [po13] at hG
        refine lv_aload_n X.1 X.2.1 dX9_goBack_43 rfl (lv_at hl 0 rfl) ?_
        refine lv_aload_n X.1 X.2.1 dX9_goBack_44 rfl (lv_at hl 0 rfl) ?_
        refine gf_9_6 X hG h900 q_301 dX9_goBack_45 (hN _ _ _ h900) (fun a16 h16 r16 => ?_)
        refine lv_iload_n X.1 X.2.1 dX9_goBack_48 rfl (lv_at hl 1 rfl) ?_
        refine tg_aald X hG h16 (Or.inr rfl) (cI_in (n := 2) (by omega)) dX9_goBack_49 (hN _ _ _ h16) (fun a17 h17 r17 => ?_)
        have h17 : τ a17 = some (0, 2) := h17
        refine gf_2_1 X hG h17 q_286 dX9_goBack_50 (fun x18 r18 => ?_)
        have g18 := cI_rng x18
        refine pf_9_8 X hG h900 q_303 dX9_goBack_53 (hF _ _ _ _ h900 (ty_in (n := 908) rfl) (ty_rno rfl)) (fun H locs hG => ?_)
        refine lv_aload_n X.1 X.2.1 dX9_goBack_56 rfl (lv_at hl 0 rfl) ?_
        refine gf_9_3 X hG h900 q_298 dX9_goBack_57 (hN _ _ _ h900) (fun a19 h19 r19 => ?_)
        refine n_ic X dX9_goBack_60 (by decide) (by decide) (fun x20 t20 => ?_)
        refine pf_4_1 X hG h19 q_213 dX9_goBack_61 (hF _ _ _ _ h19 (ty_in (n := 401) rfl) (ty_rno rfl)) (fun H locs hG => ?_)
        refine n_ic X dX9_goBack_64 (by decide) (by decide) (fun x21 t21 => ?_)
        exact ret _ _ _ _ x21 _ hG ⟨rfl, trivial⟩ dX9_goBack_65
      · refine n_ldc X q_666 (n := -1000000003) (by decide +kernel) dX9_goBack_24 (fun x22 t22 => ?_)
        exact ret _ _ _ _ x22 _ hG ⟨rfl, trivial⟩ dX9_goBack_26
    · refine n_ldc X q_609 (n := -1000000001) (by decide +kernel) dX9_goBack_9 (fun x23 t23 => ?_)
      exact ret _ _ _ _ x23 _ hG ⟨rfl, trivial⟩ dX9_goBack_11
