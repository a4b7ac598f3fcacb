/-! the class's feed to the number; its line, with the text's count -/
set_option maxHeartbeats 4000000 in
set_option maxRecDepth 100000 in
theorem e_X6_append (l : Launch) (D : va_G) (cy : Nat → ClassId) (τ : ty_T) (ρ : ty_R) (hN : ty_N τ ρ) {a900 la : Nat} (h900 : τ a900 = some (0, 6)) (hla : τ la = some (8, 240)) (p0 : ∀ v, ρ a900 0 v → v = .ref la) {x : Int32} (p2 : ∀ v, ρ a900 2 v → v = .int x) (bx : 0 ≤ x.toInt ∧ x.toInt ≤ 240) (x901 : Int32) : KI l D cy yX6_append cX6_append 2 .boolean (rL 0) τ ρ [.ref a900, .int x901] (fun r u => (r.toInt = 0 ∨ r.toInt = 1) ∧ (x.toInt = 240 → r.toInt = 0 ∧ u = ρ) ∧ (x.toInt < 240 → r.toInt = 1 ∧ u = rP (rP ρ la x.toNatClampNeg (.int x901)) a900 2 (.int (x + 1)))) := by
  refine k_metI "EdgeEchoes$Text" rfl (by decide +kernel) (Nat.le_of_ble_eq_true rfl) (fun r u h => (cI_nar (cI_01 h.1)).1) ?_
  intro p e s m args below meth c Q ls X hG hl ret
  have hl : lv_has ls 2 [(0, .ref a900), (1, .int x901)] := hl
  have rd : ∀ y : Int32, ρ a900 2 (.int y) → y = x := fun y h => by have := p2 _ h; cases this; rfl
  have ne : a900 ≠ la := fun z => by rw [z, hla] at h900; cases h900
  refine lv_aload_n X.1 X.2.1 dX6_append_0 rfl (lv_at hl 0 rfl) ?_
  refine gf_6_2 X hG h900 q_36 dX6_append_1 (fun x2 r2 => ?_)
  have e2 := rd _ r2
  subst e2
  refine n_if_lt (tgt := 17) X dX6_append_4 (by decide) (fun c3 => ?_) (fun c3 => ?_)
  · exact absurd c3 (by omega)
  · refine lv_aload_n X.1 X.2.1 dX6_append_7 rfl (lv_at hl 0 rfl) ?_
    refine gf_6_2 X hG h900 q_36 dX6_append_8 (fun x5 r5 => ?_)
    have e5 := rd _ r5
    subst e5
    refine n_sp X dX6_append_11 (by decide) (by decide) (fun x6 t6 => ?_)
    refine n_icmp_lt (tgt := 19) X dX6_append_14 (by decide) (fun c7 => ?_) (fun c7 => ?_)
    · refine lv_aload_n X.1 X.2.1 dX6_append_19 rfl (lv_at hl 0 rfl) ?_
      refine gf_6_0 X hG h900 q_34 dX6_append_20 (hN _ _ _ h900) (fun a8 h8 r8 => ?_)
      have e8 := p0 _ r8
      cases e8
      refine lv_aload_n X.1 X.2.1 dX6_append_23 rfl (lv_at hl 0 rfl) ?_
      refine gf_6_2 X hG h900 q_36 dX6_append_24 (fun x9 r9 => ?_)
      have e9 := rd _ r9
      subst e9
      refine lv_iload_n X.1 X.2.1 dX6_append_27 rfl (lv_at hl 1 rfl) ?_
      refine tg_iast X hG h8 rfl (cI_in (n := 240) (by omega)) dX6_append_28 (rP ρ la x9.toNatClampNeg (.int x901)) rP_off rP_oth rP_new (fun H locs hG => ?_)
      refine lv_aload_n X.1 X.2.1 dX6_append_29 rfl (lv_at hl 0 rfl) ?_
      refine lv_dup X.1 X.2.1 dX6_append_30 rfl ?_
      refine gf_6_2 X hG h900 q_36 dX6_append_31 (fun x10 r10 => ?_)
      have e10 := rd _ (rP_ne (fun z => ne z.1) r10)
      subst e10
      refine lv_iconst (v := 1) X.1 X.2.1 dX6_append_34 (by decide) ?_
      refine lv_iadd X.1 X.2.1 dX6_append_35 ?_
      refine pg_6_2 X hG h900 q_36 dX6_append_36 (rP (rP ρ la x10.toNatClampNeg (.int x901)) a900 2 (.int (x10 + 1))) rP_off rP_oth rP_new (fun H locs hG => ?_)
      refine n_ic X dX6_append_39 (by decide) (by decide) (fun x13 t13 => ?_)
      exact ret _ _ _ _ x13 _ hG ⟨by omega, (fun h => absurd h (by omega)), fun _ => ⟨t13, rfl⟩⟩ dX6_append_40
    · refine n_ic X dX6_append_17 (by decide) (by decide) (fun x14 t14 => ?_)
      exact ret _ _ _ _ x14 _ hG ⟨by omega, (fun _ => ⟨t14, rfl⟩), fun h => absurd h (by omega)⟩ dX6_append_18
set_option maxHeartbeats 4000000 in
set_option maxRecDepth 100000 in
theorem e_X9_feed (l : Launch) (D : va_G) (cy : Nat → ClassId) (τ : ty_T) (ρ : ty_R) (hN : ty_N τ ρ) {a900 : Nat} (h900 : τ a900 = some (0, 9)) {tx la : Nat} (htx : τ tx = some (0, 6)) (hla : τ la = some (8, 240)) (px : ∀ v, ρ a900 0 v → v = .ref tx) (p0 : ∀ v, ρ tx 0 v → v = .ref la) {x : Int32} (p2 : ∀ v, ρ tx 2 v → v = .int x) (bx : 0 ≤ x.toInt ∧ x.toInt ≤ 240) (x901 : Int32) : KI l D cy yX9_feed cX9_feed 2 .int (rL 1) τ ρ [.ref a900, .int x901] (fun r u => r.toInt = feedR x.toInt.toNat x901 ∧ (((x901.toInt < 0 ∨ 255 < x901.toInt) ∨ x.toInt = 240) → u = ρ) ∧ (¬ ((x901.toInt < 0 ∨ 255 < x901.toInt) ∨ x.toInt = 240) → u = rP (rP ρ la x.toNatClampNeg (.int x901)) tx 2 (.int (x + 1)))) := by
  refine k_metI "EdgeEchoes" rfl (by decide +kernel) (Nat.le_of_ble_eq_true rfl) (fun _ _ _ => rfl) ?_
  intro p e s m args below meth c Q ls X hG hl ret
  have hl : lv_has ls 2 [(0, .ref a900), (1, .int x901)] := hl
  have g901 := cI_rng x901
  refine lv_iload_n X.1 X.2.1 dX9_feed_0 rfl (lv_at hl 1 rfl) ?_
  refine n_if_lt (tgt := 11) X dX9_feed_1 (by decide) (fun c1 => ?_) (fun c1 => ?_)
  · refine n_ldc X q_327 (n := -1000000002) (by decide +kernel) dX9_feed_11 (fun x2 t2 => ?_)
    exact ret _ _ _ _ x2 _ hG ⟨feed_o (by omega) (by omega), (fun _ => rfl), fun h => absurd (by omega) h⟩ dX9_feed_13
  · refine lv_iload_n X.1 X.2.1 dX9_feed_4 rfl (lv_at hl 1 rfl) ?_
    refine n_sp X dX9_feed_5 (by decide) (by decide) (fun x3 t3 => ?_)
    refine n_icmp_le (tgt := 14) X dX9_feed_8 (by decide) (fun c4 => ?_) (fun c4 => ?_)
    · refine lv_aload_n X.1 X.2.1 dX9_feed_14 rfl (lv_at hl 0 rfl) ?_
      refine gf_9_0 X hG h900 q_295 dX9_feed_15 (hN _ _ _ h900) (fun a5 h5 r5 => ?_)
      refine lv_iload_n X.1 X.2.1 dX9_feed_18 rfl (lv_at hl 1 rfl) ?_
      have e5 := px _ r5
      cases e5
      refine k_cVi X hG (e_X6_append l D cy τ _ hN h5 hla p0 p2 bx x901) h5 rfl yv_X6_append q_328 ⟨rfl, rfl⟩ ⟨Nat.le_of_ble_eq_true rfl, Nat.le_of_ble_eq_true rfl⟩ rfl hl.1 rfl (Nat.le_of_ble_eq_true rfl) ⟨Nat.zero_le _, Nat.zero_le _⟩ dX9_feed_19 (fun x7 u8 H locs hG po6 => ?_)
      obtain ⟨b7, po7, po8⟩ := po6
      refine n_if_eq (tgt := 35) X dX9_feed_22 (by decide) (fun c9 => ?_) (fun c9 => ?_)
      · refine n_ldc X q_332 (n := -1000000004) (by decide +kernel) dX9_feed_35 (fun x10 t10 => ?_)
        have h40 : x.toInt = 240 := by
          rcases (show x.toInt = 240 ∨ x.toInt < 240 by omega) with z | z
          · exact z
          · exact absurd (po8 z).1 (by omega)
        rw [(po7 h40).2] at hG
        exact ret _ _ _ _ x10 _ hG ⟨feed_f (by omega) (by omega) (by omega), (fun _ => rfl), fun h => absurd (Or.inr h40) h⟩ dX9_feed_37
      · have h40 : x.toInt < 240 := by
          rcases (show x.toInt = 240 ∨ x.toInt < 240 by omega) with z | z
          · exact absurd (po7 z).1 c9
          · exact z
        rw [(po8 h40).2] at hG
        have ne1 : a900 ≠ la := fun z => by rw [z, hla] at h900; cases h900
        have ne2 : a900 ≠ tx := fun z => by rw [z, h5] at h900; cases h900
        refine lv_aload_n X.1 X.2.1 dX9_feed_25 rfl (lv_at hl 0 rfl) ?_
        refine gf_9_0 X hG h900 q_295 dX9_feed_26 (rP_N (rP_N hN) _ _ _ h900) (fun a11 h11 r11 => ?_)
        have e11 := px _ (rP_ne (fun z => ne1 z.1) (rP_ne (fun z => ne2 z.1) r11))
        cases e11
        refine gf_6_2 X hG h11 q_37 dX9_feed_29 (fun x12 r12 => ?_)
        have e12 := rP_at r12
        have e12 : x12 = x + 1 := by cases e12; rfl
        have t12 : x12.toInt = x.toInt + 1 := by rw [e12, cI_add (by have : (1 : Int32).toInt = 1 := rfl; omega) (by have : (1 : Int32).toInt = 1 := rfl; omega)]; rfl
        refine lv_goto (tgt := 37) X.1 X.2.1 dX9_feed_32 (by decide) ?_
        exact ret _ _ _ _ x12 _ hG ⟨feed_y (by omega) (by omega) (by omega), (fun h => absurd h (by omega)), fun _ => rfl⟩ dX9_feed_37
    · refine n_ldc X q_327 (n := -1000000002) (by decide +kernel) dX9_feed_11 (fun x13 t13 => ?_)
      exact ret _ _ _ _ x13 _ hG ⟨feed_o (by omega) (by omega), (fun _ => rfl), fun h => absurd (by omega) h⟩ dX9_feed_13
set_option maxHeartbeats 4000000 in
set_option maxRecDepth 100000 in
theorem e_X9_line (l : Launch) (D : va_G) (cy : Nat → ClassId) (τ : ty_T) (ρ : ty_R) (z : EVt) {M : md_T} (hN : ty_N τ ρ) (hR : ty_Rg M τ ρ) (hF : ty_Wf M τ ρ [2, 106, 202, 302, 303, 401, 504, 602, 603, 604, 806, 807, 808, 809, 810, 811, 812, 907, 5000, 6005, 6009]) {a900 : Nat} (h900 : τ a900 = some (0, 9)) {tx : Nat} (px : ∀ v, ρ a900 0 v → v = .ref tx) : KIE l D cy yX9_line cX9_line 4 .int (rL 10) τ ρ z [.ref a900] (fun r u => u = rP ρ tx 2 (.int 0)) := by
  refine k_metIE "EdgeEchoes" rfl (by decide +kernel) (Nat.le_of_ble_eq_true rfl) (fun _ _ _ => rfl) ?_
  intro p e s m args below meth c Q ls X hG hEv hl ret
  obtain ⟨vO, vC, vV, vT, vR, vZ, z1, v1, z2, v2, z3, v3⟩ := id hEv
  have hl : lv_has ls 4 [(0, .ref a900)] := hl
  refine lv_aload_n X.1 X.2.1 dX9_line_0 rfl (lv_at hl 0 rfl) ?_
  refine gf_9_2 X hG h900 q_297 dX9_line_1 (hN _ _ _ h900) (fun a1 h1 r1 => ?_)
  refine gf_7_0 X hG h1 q_194 dX9_line_4 (hN _ _ _ h1) (fun a2 h2 r2 => ?_)
  refine lv_astore_n (lv' := [(1, .ref a2), (0, .ref a900)]) X.1 X.2.1 dX9_line_7 rfl hl (by decide) rfl (fun ls hl => ?_)
  refine lv_aload_n X.1 X.2.1 dX9_line_8 rfl (lv_at hl 1 rfl) ?_
  refine gf_9_0 X hG h900 q_295 dX9_line_9 (hN _ _ _ h900) (fun a3 h3 r3 => ?_)
  refine lv_aload_n X.1 X.2.1 dX9_line_12 rfl (lv_at hl 0 rfl) ?_
  refine k_cVE X hG (EV.at hEv hG) (c_X6_readInto l D cy τ _ z hN hR (ty_Wf.sub (S' := [106, 302, 303, 603, 604, 806, 807, 808, 809, 810, 811, 812, 5000, 6005, 6009]) hF (by decide)) h3 h2) h3 rfl yv_X6_readInto q_337 ⟨rfl, rfl⟩ ⟨Nat.le_of_ble_eq_true rfl, Nat.le_of_ble_eq_true rfl⟩ rfl hl.1 rfl (Nat.le_of_ble_eq_true rfl) ⟨Nat.zero_le _, Nat.zero_le _⟩ dX9_line_13 (fun x5 u6 H locs hG po4 => ?_)
  obtain ⟨eu6, po4⟩ := po4
  rw [eu6] at hG
  have g5 := cI_rng x5
  refine lv_istore_n (lv' := [(2, .int x5), (1, .ref a2), (0, .ref a900)]) X.1 X.2.1 dX9_line_16 rfl hl (by decide) rfl (fun ls hl => ?_)
  refine lv_aload_n X.1 X.2.1 dX9_line_17 rfl (lv_at hl 2 rfl) ?_
  refine gf_9_0 X hG h900 q_295 dX9_line_18 (hN _ _ _ h900) (fun a7 h7 r7 => ?_)
  refine n_ic X dX9_line_21 (by decide) (by decide) (fun x8 t8 => ?_)
  have e7 := px _ r7
  cases e7
  have e8 : x8 = 0 := cI_inj (by rw [t8]; rfl)
  subst e8
  refine pg_6_2 X hG h7 q_37 dX9_line_22 (rP ρ tx 2 (.int 0)) rP_off rP_oth rP_new (fun H locs hG => ?_)
  have hN1 : ty_N τ (rP ρ tx 2 (.int 0)) := rP_N hN
  have hR1 : ty_Rg M τ (rP ρ tx 2 (.int 0)) := rP_R hR h7 (ty_rno rfl)
  have hF1 : ty_Wf M τ (rP ρ tx 2 (.int 0)) [2, 106, 202, 302, 303, 401, 504, 603, 604, 806, 807, 808, 809, 810, 811, 812, 907, 5000, 6005, 6009] := rP_F (ty_Wf.sub hF (by decide)) h7 (by decide)
  clear hN hR hF
  obtain ⟨ρ1, eρ⟩ : ∃ r : ty_R, r = rP ρ tx 2 (.int 0) := ⟨_, rfl⟩
  rw [← eρ] at hG hN1 hR1 hF1
  refine lv_iload_n X.1 X.2.1 dX9_line_25 rfl (lv_at hl 0 rfl) ?_
  refine n_if_eq (tgt := 45) X dX9_line_26 (by decide) (fun c9 => ?_) (fun c9 => ?_)
  · refine lv_aload_n X.1 X.2.1 dX9_line_45 rfl (lv_at hl 2 rfl) ?_
    refine n_ic X dX9_line_46 (by decide) (by decide) (fun x10 t10 => ?_)
    refine pf_9_7 X hG h900 q_302 dX9_line_47 (hF1 _ _ _ _ h900 (ty_in (n := 907) rfl) (ty_rno rfl)) (fun H locs hG => ?_)
    refine lv_aload_n X.1 X.2.1 dX9_line_50 rfl (lv_at hl 2 rfl) ?_
    refine gf_9_1 X hG h900 q_296 dX9_line_51 (hN1 _ _ _ h900) (fun a11 h11 r11 => ?_)
    refine lv_aload_n X.1 X.2.1 dX9_line_54 rfl (lv_at hl 1 rfl) ?_
    refine k_cVv X hG (c_X3_copyFrom l D cy τ _ hN1 hR1 (ty_Wf.sub (S' := [106, 302, 303, 806, 807, 808, 809, 810, 811, 812, 5000, 6005]) hF1 (by decide)) h11 h2) h11 rfl yv_X3_copyFrom q_516 ⟨rfl, rfl⟩ ⟨Nat.le_of_ble_eq_true rfl, Nat.le_of_ble_eq_true rfl⟩ rfl hl.1 rfl (Nat.le_of_ble_eq_true rfl) ⟨Nat.zero_le _, Nat.zero_le _⟩ dX9_line_55 (fun u14 H locs hG po12 => ?_)
    rw [po12] at hG
    refine lv_aload_n X.1 X.2.1 dX9_line_58 rfl (lv_at hl 2 rfl) ?_
    refine gf_9_3 X hG h900 q_298 dX9_line_59 (hN1 _ _ _ h900) (fun a15 h15 r15 => ?_)
    refine n_ic X dX9_line_62 (by decide) (by decide) (fun x16 t16 => ?_)
    refine pf_4_1 X hG h15 q_213 dX9_line_63 (hF1 _ _ _ _ h15 (ty_in (n := 401) rfl) (ty_rno rfl)) (fun H locs hG => ?_)
    refine lv_aload_n X.1 X.2.1 dX9_line_66 rfl (lv_at hl 2 rfl) ?_
    refine gf_9_4 X hG h900 q_299 dX9_line_67 (hN1 _ _ _ h900) (fun a17 h17 r17 => ?_)
    refine n_ic X dX9_line_70 (by decide) (by decide) (fun x18 t18 => ?_)
    refine pf_5_4 X hG h17 q_233 dX9_line_71 (hF1 _ _ _ _ h17 (ty_in (n := 504) rfl) (ty_rno rfl)) (fun H locs hG => ?_)
    refine lv_aload_n X.1 X.2.1 dX9_line_74 rfl (lv_at hl 2 rfl) ?_
    refine gf_9_5 X hG h900 q_300 dX9_line_75 (hN1 _ _ _ h900) (fun a19 h19 r19 => ?_)
    refine n_ic X dX9_line_78 (by decide) (by decide) (fun x20 t20 => ?_)
    refine pf_0_2 X hG h19 q_267 dX9_line_79 (hF1 _ _ _ _ h19 (ty_in (n := 2) rfl) (ty_rno rfl)) (fun H locs hG => ?_)
    refine n_ic X dX9_line_82 (by decide) (by decide) (fun x21 t21 => ?_)
    refine lv_istore_n (lv' := [(3, .int x21), (2, .int x5), (1, .ref a2), (0, .ref a900)]) X.1 X.2.1 dX9_line_83 rfl hl (by decide) rfl (fun ls hl => ?_)
    have J84 : ∀ (n : Nat) (H : Heap) (locs : List Loc) (ls : Array Slot) (x22 : Int32), (0 ≤ x22.toInt ∧ x22.toInt ≤ 2) → (2 - x22.toInt).toNat < n → TG D cy τ ρ1 (ty_d τ) s.heap H locs → lv_has ls 4 [(0, .ref a900), (1, .ref a2), (2, .int x5), (3, .int x22)] → W p l e (rL 10) s m args below meth c H locs 0 0 Q (F0 m 84 ls []) := by
      intro n
      induction n with
      | zero => intro H locs ls x22 bx22 hm84 hG hl; exact absurd hm84 (Nat.not_lt_zero _)
      | succ n ih84 =>
        intro H locs ls x22 bx22 hm84 hG hl
        refine lv_iload_n X.1 X.2.1 dX9_line_84 rfl (lv_at hl 3 rfl) ?_
        refine n_ic X dX9_line_85 (by decide) (by decide) (fun x23 t23 => ?_)
        refine n_icmp_ge (tgt := 105) X dX9_line_86 (by decide) (fun c24 => ?_) (fun c24 => ?_)
        · refine lv_aload_n X.1 X.2.1 dX9_line_105 rfl (lv_at hl 0 rfl) ?_
          refine gf_9_1 X hG h900 q_296 dX9_line_106 (hN1 _ _ _ h900) (fun a25 h25 r25 => ?_)
          refine gf_3_0 X hG h25 q_165 dX9_line_109 (hN1 _ _ _ h25) (fun a26 h26 r26 => ?_)
          refine gf_8_7 X hG h26 q_82 dX9_line_112 (fun x27 r27 => ?_)
          have b27 := (hR1 _ _ _ _ h26 r27) _ _ rfl
          exact ret _ _ _ _ x27 _ hG eρ dX9_line_115
        · refine lv_aload_n X.1 X.2.1 dX9_line_89 rfl (lv_at hl 0 rfl) ?_
          refine gf_9_6 X hG h900 q_301 dX9_line_90 (hN1 _ _ _ h900) (fun a28 h28 r28 => ?_)
          refine lv_iload_n X.1 X.2.1 dX9_line_93 rfl (lv_at hl 3 rfl) ?_
          refine tg_aald X hG h28 (Or.inr rfl) (cI_in (n := 2) (by omega)) dX9_line_94 (hN1 _ _ _ h28) (fun a29 h29 r29 => ?_)
          have h29 : τ a29 = some (0, 2) := h29
          refine n_ic X dX9_line_95 (by decide) (by decide) (fun x30 t30 => ?_)
          refine pf_2_2 X hG h29 q_287 (by omega) dX9_line_96 (hF1 _ _ _ _ h29 (ty_in (n := 202) rfl) (ty_rno rfl)) (fun H locs hG => ?_)
          refine n_inc X (fun z32 => [(3, .int z32), (0, .ref a900), (1, .ref a2), (2, .int x5)]) dX9_line_99 hl (k := 3) rfl (by decide) (by decide) (by omega) (by omega) (by decide) (fun _ => rfl) (fun x31 ls t31 hl => ?_)
          have hl : lv_has ls 4 [(3, .int x31), (0, .ref a900), (1, .ref a2), (2, .int x5)] := hl
          refine lv_goto (tgt := 84) X.1 X.2.1 dX9_line_102 (by decide) ?_
          exact ih84 _ _ _ x31 (by omega) (by omega) hG (lv_sub hl [1, 2, 3, 0] rfl)
    exact J84 _ _ _ _ x21 (by omega) (Nat.lt_succ_self _) hG (lv_sub hl [3, 2, 1, 0] rfl)
  · refine lv_aload_n X.1 X.2.1 dX9_line_29 rfl (lv_at hl 2 rfl) ?_
    refine lv_aload_n X.1 X.2.1 dX9_line_30 rfl (lv_at hl 2 rfl) ?_
    refine gf_9_0 X hG h900 q_295 dX9_line_31 (hN1 _ _ _ h900) (fun a33 h33 r33 => ?_)
    refine gf_6_3 X hG h33 q_39 dX9_line_34 (fun x34 r34 => ?_)
    have g34 := cI_rng x34
    refine pf_9_7 X hG h900 q_302 dX9_line_37 (hF1 _ _ _ _ h900 (ty_in (n := 907) rfl) (ty_rno rfl)) (fun H locs hG => ?_)
    refine n_bp X dX9_line_40 (by decide) (by decide) (fun x35 t35 => ?_)
    refine lv_iload_n X.1 X.2.1 dX9_line_42 rfl (lv_at hl 0 rfl) ?_
    refine lv_isub X.1 X.2.1 dX9_line_43 ?_
    refine n_any (fun x36 => ?_)
    exact ret _ _ _ _ x36 _ hG eρ dX9_line_44
