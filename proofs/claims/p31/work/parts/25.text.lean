set_option maxHeartbeats 4000000 in
set_option maxRecDepth 100000 in
theorem c_J0_coder_7d493 (l : Launch) (D : va_G) (cy : Nat → ClassId) (τ : ty_T) (ρ : ty_R) (z : EVt) {M : md_T} (hN : ty_N τ ρ) (hR : ty_Rg M τ ρ) (hF : ty_Wf M τ ρ [])  : KIE l D cy yJ0_coder_7d493 cJ0_coder_7d493 1 .byte (rL 0) τ ρ z [.ref z.1] (fun r u => u = ρ ∧ (0 ≤ r.toInt ∧ r.toInt ≤ 0)) := by
  refine k_metIE "java/lang/String" rfl (by decide +kernel) (Nat.le_of_ble_eq_true rfl) (fun r u h => by have e : r = 0 := cI_inj (by have := h.2; rw [cI_0]; omega); rw [e]; decide +kernel) ?_
  intro p e s m args below meth c Q ls X hG hEv hl ret
  obtain ⟨vO, vC, vV, vT, vR, vZ, z1, v1, z2, v2, z3, v3⟩ := id hEv
  have hl : lv_has ls 1 [(0, .ref z.1)] := hl
  refine va_gets X.1 X.2.1 vZ hG.2.1 X.2.2.2.1 (X.2.2.2.2.1 _ q_394) (fun _ h => h) dJ0_coder_7d493_0 ?_
  refine lv_topi (fun x1 e1 => ?_)
  have t1 : x1.toInt = 1 := by rw [e1]; decide +kernel
  refine n_if_eq (tgt := 13) X dJ0_coder_7d493_3 (by decide) (fun c2 => ?_) (fun c2 => ?_)
  · exact absurd c2 (by omega)
  · refine lv_aload_n X.1 X.2.1 dJ0_coder_7d493_6 rfl (lv_at hl 0 rfl) ?_
    refine vk_getf X.1 X.2.1 vC hG.2.1 X.2.2.2.1 (X.2.2.2.2.1 _ q_1281) (fun _ h => h) dJ0_coder_7d493_7 ?_
    refine lv_topi (fun x3 e3 => ?_)
    have t3 : x3.toInt = 0 := by rw [e3]; decide +kernel
    refine lv_goto (tgt := 14) X.1 X.2.1 dJ0_coder_7d493_10 (by decide) ?_
    exact ret _ _ _ _ x3 _ hG ⟨rfl, by omega⟩ dJ0_coder_7d493_14
set_option maxHeartbeats 4000000 in
set_option maxRecDepth 100000 in
theorem c_J0_isLatin1_aae02 (l : Launch) (D : va_G) (cy : Nat → ClassId) (τ : ty_T) (ρ : ty_R) (z : EVt) {M : md_T} (hN : ty_N τ ρ) (hR : ty_Rg M τ ρ) (hF : ty_Wf M τ ρ [])  : KIE l D cy yJ0_isLatin1_aae02 cJ0_isLatin1_aae02 1 .boolean (rL 0) τ ρ z [.ref z.1] (fun r u => u = ρ ∧ (r.toInt = 0 ∨ r.toInt = 1) ∧ (1 ≤ r.toInt ∧ r.toInt ≤ 1)) := by
  refine k_metIE "java/lang/String" rfl (by decide +kernel) (Nat.le_of_ble_eq_true rfl) (fun r u h => (cI_nar (cI_01 h.2.1)).1) ?_
  intro p e s m args below meth c Q ls X hG hEv hl ret
  obtain ⟨vO, vC, vV, vT, vR, vZ, z1, v1, z2, v2, z3, v3⟩ := id hEv
  have hl : lv_has ls 1 [(0, .ref z.1)] := hl
  refine va_gets X.1 X.2.1 vZ hG.2.1 X.2.2.2.1 (X.2.2.2.2.1 _ q_394) (fun _ h => h) dJ0_isLatin1_aae02_0 ?_
  refine lv_topi (fun x1 e1 => ?_)
  have t1 : x1.toInt = 1 := by rw [e1]; decide +kernel
  refine n_if_eq (tgt := 17) X dJ0_isLatin1_aae02_3 (by decide) (fun c2 => ?_) (fun c2 => ?_)
  · exact absurd c2 (by omega)
  · refine lv_aload_n X.1 X.2.1 dJ0_isLatin1_aae02_6 rfl (lv_at hl 0 rfl) ?_
    refine vk_getf X.1 X.2.1 vC hG.2.1 X.2.2.2.1 (X.2.2.2.2.1 _ q_1281) (fun _ h => h) dJ0_isLatin1_aae02_7 ?_
    refine lv_topi (fun x3 e3 => ?_)
    have t3 : x3.toInt = 0 := by rw [e3]; decide +kernel
    refine n_if_ne (tgt := 17) X dJ0_isLatin1_aae02_10 (by decide) (fun c4 => ?_) (fun c4 => ?_)
    · exact absurd c4 (by omega)
    · refine n_ic X dJ0_isLatin1_aae02_13 (by decide) (by decide) (fun x5 t5 => ?_)
      refine lv_goto (tgt := 18) X.1 X.2.1 dJ0_isLatin1_aae02_14 (by decide) ?_
      exact ret _ _ _ _ x5 _ hG ⟨rfl, by omega⟩ dJ0_isLatin1_aae02_18
set_option maxHeartbeats 4000000 in
set_option maxRecDepth 100000 in
theorem c_J0_length_8abf5 (l : Launch) (D : va_G) (cy : Nat → ClassId) (τ : ty_T) (ρ : ty_R) (z : EVt) {M : md_T} (hN : ty_N τ ρ) (hR : ty_Rg M τ ρ) (hF : ty_Wf M τ ρ [])  : KIE l D cy yJ0_length_8abf5 cJ0_length_8abf5 1 .int (rL 1) τ ρ z [.ref z.1] (fun r u => u = ρ ∧ True) := by
  refine k_metIE "java/lang/String" rfl (by decide +kernel) (Nat.le_of_ble_eq_true rfl) (fun _ _ _ => rfl) ?_
  intro p e s m args below meth c Q ls X hG hEv hl ret
  obtain ⟨vO, vC, vV, vT, vR, vZ, z1, v1, z2, v2, z3, v3⟩ := id hEv
  have hl : lv_has ls 1 [(0, .ref z.1)] := hl
  refine lv_aload_n X.1 X.2.1 dJ0_length_8abf5_0 rfl (lv_at hl 0 rfl) ?_
  refine vk_getf X.1 X.2.1 vV hG.2.1 X.2.2.2.1 (X.2.2.2.2.1 _ q_1282) (fun _ h => h) dJ0_length_8abf5_1 ?_
  refine va_tlen X.1 X.2.1 vT hG.2.1 rfl dJ0_length_8abf5_4 ?_
  refine lv_topi (fun x1 e1 => ?_)
  have t1 : x1.toInt = 4 := by rw [e1]; decide +kernel
  refine lv_aload_n X.1 X.2.1 dJ0_length_8abf5_5 rfl (lv_at hl 0 rfl) ?_
  refine k_cRE X hG (EV.at hEv hG) (c_J0_coder_7d493 l D cy τ _ z hN hR (ty_Wf.sub (S' := []) hF (by decide)) ) (EV.rec (EV.at hEv hG)) yv_J0_coder_7d493 q_400 ⟨rfl, rfl⟩ ⟨Nat.le_of_ble_eq_true rfl, Nat.le_of_ble_eq_true rfl⟩ rfl hl.1 rfl (Nat.le_of_ble_eq_true rfl) ⟨Nat.zero_le _, Nat.zero_le _⟩ dJ0_length_8abf5_6 (fun x3 u4 H locs hG po2 => ?_)
  obtain ⟨eu4, po2⟩ := po2
  rw [eu4] at hG
  refine lv_ishr X.1 X.2.1 dJ0_length_8abf5_9 ?_
  refine n_any (fun x5 => ?_)
  exact ret _ _ _ _ x5 _ hG ⟨rfl, trivial⟩ dJ0_length_8abf5_10
set_option maxHeartbeats 4000000 in
set_option maxRecDepth 100000 in
theorem c_J1_canEncode_9a6ad (l : Launch) (D : va_G) (cy : Nat → ClassId) (τ : ty_T) (ρ : ty_R) {M : md_T} (hN : ty_N τ ρ) (hR : ty_Rg M τ ρ) (hF : ty_Wf M τ ρ []) (x900 : Int32) : KI l D cy yJ1_canEncode_9a6ad cJ1_canEncode_9a6ad 1 .boolean (rL 0) τ ρ [.int x900] (fun r u => u = ρ ∧ (r.toInt = 0 ∨ r.toInt = 1)) := by
  refine k_metI "java/lang/StringLatin1" rfl (by decide +kernel) (Nat.le_of_ble_eq_true rfl) (fun r u h => (cI_nar (cI_01 h.2)).1) ?_
  intro p e s m args below meth c Q ls X hG hl ret
  have hl : lv_has ls 1 [(0, .int x900)] := hl
  have g900 := cI_rng x900
  refine lv_iload_n X.1 X.2.1 dJ1_canEncode_9a6ad_0 rfl (lv_at hl 0 rfl) ?_
  refine n_if_lt (tgt := 15) X dJ1_canEncode_9a6ad_1 (by decide) (fun c1 => ?_) (fun c1 => ?_)
  · refine n_ic X dJ1_canEncode_9a6ad_15 (by decide) (by decide) (fun x2 t2 => ?_)
    exact ret _ _ _ _ x2 _ hG ⟨rfl, by omega⟩ dJ1_canEncode_9a6ad_16
  · refine lv_iload_n X.1 X.2.1 dJ1_canEncode_9a6ad_4 rfl (lv_at hl 0 rfl) ?_
    refine n_sp X dJ1_canEncode_9a6ad_5 (by decide) (by decide) (fun x3 t3 => ?_)
    refine n_icmp_gt (tgt := 15) X dJ1_canEncode_9a6ad_8 (by decide) (fun c4 => ?_) (fun c4 => ?_)
    · refine n_ic X dJ1_canEncode_9a6ad_15 (by decide) (by decide) (fun x5 t5 => ?_)
      exact ret _ _ _ _ x5 _ hG ⟨rfl, by omega⟩ dJ1_canEncode_9a6ad_16
    · refine n_ic X dJ1_canEncode_9a6ad_11 (by decide) (by decide) (fun x6 t6 => ?_)
      refine lv_goto (tgt := 16) X.1 X.2.1 dJ1_canEncode_9a6ad_12 (by decide) ?_
      exact ret _ _ _ _ x6 _ hG ⟨rfl, by omega⟩ dJ1_canEncode_9a6ad_16
set_option maxHeartbeats 4000000 in
set_option maxRecDepth 100000 in
theorem c_J1_indexOfChar_4cfef (l : Launch) (D : va_G) (cy : Nat → ClassId) (τ : ty_T) (ρ : ty_R) (z : EVt) {M : md_T} (hN : ty_N τ ρ) (hR : ty_Rg M τ ρ) (hF : ty_Wf M τ ρ []) (x901 : Int32) (x902 : Int32) (zx902 : 0 ≤ x902.toInt ∧ x902.toInt ≤ 4) (x903 : Int32) (zx903 : 0 ≤ x903.toInt ∧ x903.toInt ≤ 4) : KIE l D cy yJ1_indexOfChar_4cfef cJ1_indexOfChar_4cfef 6 .int (rL 0) τ ρ z [.ref z.2.1, .int x901, .int x902, .int x903] (fun r u => u = ρ ∧ (-1 ≤ r.toInt ∧ r.toInt ≤ 3)) := by
  refine k_metIE "java/lang/StringLatin1" rfl (by decide +kernel) (Nat.le_of_ble_eq_true rfl) (fun _ _ _ => rfl) ?_
  intro p e s m args below meth c Q ls X hG hEv hl ret
  obtain ⟨vO, vC, vV, vT, vR, vZ, z1, v1, z2, v2, z3, v3⟩ := id hEv
  have hl : lv_has ls 6 [(0, .ref z.2.1), (1, .int x901), (2, .int x902), (3, .int x903)] := hl
  have g901 := cI_rng x901
  refine lv_iload_n X.1 X.2.1 dJ1_indexOfChar_4cfef_0 rfl (lv_at hl 1 rfl) ?_
  refine lv_i2b X.1 X.2.1 dJ1_indexOfChar_4cfef_1 rfl ?_
  refine n_any (fun x1 => ?_)
  refine lv_istore (lv' := [(4, .int x1), (0, .ref z.2.1), (1, .int x901), (2, .int x902), (3, .int x903)]) X.1 X.2.1 dJ1_indexOfChar_4cfef_2 hl (by decide) rfl (fun ls hl => ?_)
  refine lv_iload_n X.1 X.2.1 dJ1_indexOfChar_4cfef_4 rfl (lv_at hl 3 rfl) ?_
  refine lv_istore (lv' := [(5, .int x902), (4, .int x1), (0, .ref z.2.1), (1, .int x901), (2, .int x902), (3, .int x903)]) X.1 X.2.1 dJ1_indexOfChar_4cfef_5 hl (by decide) rfl (fun ls hl => ?_)
  have J7 : ∀ (n : Nat) (H : Heap) (locs : List Loc) (ls : Array Slot) (x2 : Int32), (0 ≤ x2.toInt ∧ x2.toInt ≤ 4) → (4 - x2.toInt).toNat < n → TG D cy τ ρ (ty_d τ) s.heap H locs → lv_has ls 6 [(0, .ref z.2.1), (1, .int x901), (2, .int x902), (3, .int x903), (4, .int x1), (5, .int x2)] → W p l e (rL 0) s m args below meth c H locs 0 0 Q (F0 m 7 ls []) := by
    intro n
    induction n with
    | zero => intro H locs ls x2 bx2 hm7 hG hl; exact absurd hm7 (Nat.not_lt_zero _)
    | succ n ih7 =>
      intro H locs ls x2 bx2 hm7 hG hl
      refine lv_iload X.1 X.2.1 dJ1_indexOfChar_4cfef_7 (lv_at hl 5 rfl) ?_
      refine lv_iload_n X.1 X.2.1 dJ1_indexOfChar_4cfef_9 rfl (lv_at hl 3 rfl) ?_
      refine n_icmp_ge (tgt := 31) X dJ1_indexOfChar_4cfef_10 (by decide) (fun c3 => ?_) (fun c3 => ?_)
      · refine n_ic X dJ1_indexOfChar_4cfef_31 (by decide) (by decide) (fun x4 t4 => ?_)
        exact ret _ _ _ _ x4 _ hG ⟨rfl, by omega⟩ dJ1_indexOfChar_4cfef_32
      · refine lv_aload_n X.1 X.2.1 dJ1_indexOfChar_4cfef_13 rfl (lv_at hl 0 rfl) ?_
        refine lv_iload X.1 X.2.1 dJ1_indexOfChar_4cfef_14 (lv_at hl 5 rfl) ?_
        refine va_tb X.1 X.2.1 vT hG.2.1 (cI_in (n := 4) (by omega)) rfl dJ1_indexOfChar_4cfef_16 ?_
        refine n_any (fun x5 => ?_)
        refine lv_iload X.1 X.2.1 dJ1_indexOfChar_4cfef_17 (lv_at hl 4 rfl) ?_
        refine n_icmp_ne (tgt := 25) X dJ1_indexOfChar_4cfef_19 (by decide) (fun c6 => ?_) (fun c6 => ?_)
        · refine n_inc X (fun z8 => [(5, .int z8), (0, .ref z.2.1), (1, .int x901), (2, .int x902), (3, .int x903), (4, .int x1)]) dJ1_indexOfChar_4cfef_25 hl (k := 5) rfl (by decide) (by decide) (by omega) (by omega) (by decide) (fun _ => rfl) (fun x7 ls t7 hl => ?_)
          have hl : lv_has ls 6 [(5, .int x7), (0, .ref z.2.1), (1, .int x901), (2, .int x902), (3, .int x903), (4, .int x1)] := hl
          refine lv_goto (tgt := 7) X.1 X.2.1 dJ1_indexOfChar_4cfef_28 (by decide) ?_
          exact ih7 _ _ _ x7 (by omega) (by omega) hG (lv_sub hl [1, 2, 3, 4, 5, 0] rfl)
        · refine lv_iload X.1 X.2.1 dJ1_indexOfChar_4cfef_22 (lv_at hl 5 rfl) ?_
          exact ret _ _ _ _ x2 _ hG ⟨rfl, by omega⟩ dJ1_indexOfChar_4cfef_24
  exact J7 _ _ _ _ x902 (by omega) (Nat.lt_succ_self _) hG (lv_sub hl [2, 3, 4, 5, 1, 0] rfl)
set_option maxHeartbeats 4000000 in
set_option maxRecDepth 100000 in
theorem c_J1_indexOf_4cfef (l : Launch) (D : va_G) (cy : Nat → ClassId) (τ : ty_T) (ρ : ty_R) (z : EVt) {M : md_T} (hN : ty_N τ ρ) (hR : ty_Rg M τ ρ) (hF : ty_Wf M τ ρ []) (x901 : Int32) (x902 : Int32) (zx902 : 0 ≤ x902.toInt ∧ x902.toInt ≤ 0) (x903 : Int32) : KIE l D cy yJ1_indexOf_4cfef cJ1_indexOf_4cfef 4 .int (rL 1) τ ρ z [.ref z.2.1, .int x901, .int x902, .int x903] (fun r u => u = ρ ∧ (-1 ≤ r.toInt ∧ r.toInt ≤ 3)) := by
  refine k_metIE "java/lang/StringLatin1" rfl (by decide +kernel) (Nat.le_of_ble_eq_true rfl) (fun _ _ _ => rfl) ?_
  intro p e s m args below meth c Q ls X hG hEv hl ret
  obtain ⟨vO, vC, vV, vT, vR, vZ, z1, v1, z2, v2, z3, v3⟩ := id hEv
  have hl : lv_has ls 4 [(0, .ref z.2.1), (1, .int x901), (2, .int x902), (3, .int x903)] := hl
  have g901 := cI_rng x901
  have g903 := cI_rng x903
  refine lv_iload_n X.1 X.2.1 dJ1_indexOf_4cfef_0 rfl (lv_at hl 1 rfl) ?_
  refine k_cSi X hG (c_J1_canEncode_9a6ad l D cy τ _ hN hR (ty_Wf.sub (S' := []) hF (by decide)) x901) ys_J1_canEncode_9a6ad q_407 ⟨rfl, rfl⟩ ⟨Nat.le_of_ble_eq_true rfl, Nat.le_of_ble_eq_true rfl⟩ rfl hl.1 rfl (Nat.le_of_ble_eq_true rfl) ⟨Nat.zero_le _, Nat.zero_le _⟩ dJ1_indexOf_4cfef_1 (fun x2 u3 H locs hG po1 => ?_)
  obtain ⟨eu3, po1⟩ := po1
  rw [eu3] at hG
  refine n_if_ne (tgt := 9) X dJ1_indexOf_4cfef_4 (by decide) (fun c4 => ?_) (fun c4 => ?_)
  · refine lv_iload_n X.1 X.2.1 dJ1_indexOf_4cfef_9 rfl (lv_at hl 2 rfl) ?_
    refine n_ic X dJ1_indexOf_4cfef_10 (by decide) (by decide) (fun x5 t5 => ?_)
    refine n_max X hl.1 q_410 q_411 q_15 q_412 (Nat.le_of_ble_eq_true rfl) (Nat.le_of_ble_eq_true rfl) ⟨Nat.zero_le _, Nat.zero_le _⟩ dJ1_indexOf_4cfef_11 (fun x6 t6 => ?_)
    refine lv_istore_n (lv' := [(2, .int x6), (0, .ref z.2.1), (1, .int x901), (3, .int x903)]) X.1 X.2.1 dJ1_indexOf_4cfef_14 rfl hl (by decide) rfl (fun ls hl => ?_)
    refine lv_iload_n X.1 X.2.1 dJ1_indexOf_4cfef_15 rfl (lv_at hl 3 rfl) ?_
    refine lv_aload_n X.1 X.2.1 dJ1_indexOf_4cfef_16 rfl (lv_at hl 1 rfl) ?_
    refine va_tlen X.1 X.2.1 vT hG.2.1 rfl dJ1_indexOf_4cfef_17 ?_
    refine lv_topi (fun x7 e7 => ?_)
    have t7 : x7.toInt = 4 := by rw [e7]; decide +kernel
    refine n_min X hl.1 q_413 q_414 q_15 q_415 (Nat.le_of_ble_eq_true rfl) (Nat.le_of_ble_eq_true rfl) ⟨Nat.zero_le _, Nat.zero_le _⟩ dJ1_indexOf_4cfef_18 (fun x8 t8 => ?_)
    refine lv_istore_n (lv' := [(3, .int x8), (2, .int x6), (0, .ref z.2.1), (1, .int x901)]) X.1 X.2.1 dJ1_indexOf_4cfef_21 rfl hl (by decide) rfl (fun ls hl => ?_)
    refine lv_iload_n X.1 X.2.1 dJ1_indexOf_4cfef_22 rfl (lv_at hl 1 rfl) ?_
    refine lv_iload_n X.1 X.2.1 dJ1_indexOf_4cfef_23 rfl (lv_at hl 0 rfl) ?_
    refine n_icmp_lt (tgt := 29) X dJ1_indexOf_4cfef_24 (by decide) (fun c9 => ?_) (fun c9 => ?_)
    · refine lv_aload_n X.1 X.2.1 dJ1_indexOf_4cfef_29 rfl (lv_at hl 2 rfl) ?_
      refine lv_iload_n X.1 X.2.1 dJ1_indexOf_4cfef_30 rfl (lv_at hl 3 rfl) ?_
      refine lv_iload_n X.1 X.2.1 dJ1_indexOf_4cfef_31 rfl (lv_at hl 1 rfl) ?_
      refine lv_iload_n X.1 X.2.1 dJ1_indexOf_4cfef_32 rfl (lv_at hl 0 rfl) ?_
      refine k_cSE X hG (EV.at hEv hG) (c_J1_indexOfChar_4cfef l D cy τ _ z hN hR (ty_Wf.sub (S' := []) hF (by decide)) x901 x6 (by omega) x8 (by omega)) ys_J1_indexOfChar_4cfef q_416 ⟨rfl, rfl⟩ ⟨Nat.le_of_ble_eq_true rfl, Nat.le_of_ble_eq_true rfl⟩ rfl hl.1 rfl (Nat.le_of_ble_eq_true rfl) ⟨Nat.zero_le _, Nat.zero_le _⟩ dJ1_indexOf_4cfef_33 (fun x11 u12 H locs hG po10 => ?_)
      obtain ⟨eu12, po10⟩ := po10
      rw [eu12] at hG
      exact ret _ _ _ _ x11 _ hG ⟨rfl, by omega⟩ dJ1_indexOf_4cfef_36
    · refine n_ic X dJ1_indexOf_4cfef_27 (by decide) (by decide) (fun x13 t13 => ?_)
      exact ret _ _ _ _ x13 _ hG ⟨rfl, by omega⟩ dJ1_indexOf_4cfef_28
  · refine n_ic X dJ1_indexOf_4cfef_7 (by decide) (by decide) (fun x14 t14 => ?_)
    exact ret _ _ _ _ x14 _ hG ⟨rfl, by omega⟩ dJ1_indexOf_4cfef_8
set_option maxHeartbeats 4000000 in
set_option maxRecDepth 100000 in
theorem c_J0_indexOf_7cf53 (l : Launch) (D : va_G) (cy : Nat → ClassId) (τ : ty_T) (ρ : ty_R) (z : EVt) {M : md_T} (hN : ty_N τ ρ) (hR : ty_Rg M τ ρ) (hF : ty_Wf M τ ρ []) (x901 : Int32) (x902 : Int32) (zx902 : 0 ≤ x902.toInt ∧ x902.toInt ≤ 0) : KIE l D cy yJ0_indexOf_7cf53 cJ0_indexOf_7cf53 3 .int (rL 5) τ ρ z [.ref z.1, .int x901, .int x902] (fun r u => u = ρ ∧ (-1 ≤ r.toInt ∧ r.toInt ≤ 3)) := by
  refine k_metIE "java/lang/String" rfl (by decide +kernel) (Nat.le_of_ble_eq_true rfl) (fun _ _ _ => rfl) ?_
  intro p e s m args below meth c Q ls X hG hEv hl ret
  obtain ⟨vO, vC, vV, vT, vR, vZ, z1, v1, z2, v2, z3, v3⟩ := id hEv
  have hl : lv_has ls 3 [(0, .ref z.1), (1, .int x901), (2, .int x902)] := hl
  have g901 := cI_rng x901
  refine lv_aload_n X.1 X.2.1 dJ0_indexOf_7cf53_0 rfl (lv_at hl 0 rfl) ?_
  refine k_cRE X hG (EV.at hEv hG) (c_J0_isLatin1_aae02 l D cy τ _ z hN hR (ty_Wf.sub (S' := []) hF (by decide)) ) (EV.rec (EV.at hEv hG)) yv_J0_isLatin1_aae02 q_390 ⟨rfl, rfl⟩ ⟨Nat.le_of_ble_eq_true rfl, Nat.le_of_ble_eq_true rfl⟩ rfl hl.1 rfl (Nat.le_of_ble_eq_true rfl) ⟨Nat.zero_le _, Nat.zero_le _⟩ dJ0_indexOf_7cf53_1 (fun x2 u3 H locs hG po1 => ?_)
  obtain ⟨eu3, po1⟩ := po1
  rw [eu3] at hG
  refine n_if_eq (tgt := 23) X dJ0_indexOf_7cf53_4 (by decide) (fun c4 => ?_) (fun c4 => ?_)
  · exact absurd c4 (by omega)
  · refine lv_aload_n X.1 X.2.1 dJ0_indexOf_7cf53_7 rfl (lv_at hl 0 rfl) ?_
    refine vk_getf X.1 X.2.1 vV hG.2.1 X.2.2.2.1 (X.2.2.2.2.1 _ q_1282) (fun _ h => h) dJ0_indexOf_7cf53_8 ?_
    refine lv_iload_n X.1 X.2.1 dJ0_indexOf_7cf53_11 rfl (lv_at hl 1 rfl) ?_
    refine lv_iload_n X.1 X.2.1 dJ0_indexOf_7cf53_12 rfl (lv_at hl 2 rfl) ?_
    refine lv_aload_n X.1 X.2.1 dJ0_indexOf_7cf53_13 rfl (lv_at hl 0 rfl) ?_
    refine k_cRE X hG (EV.at hEv hG) (c_J0_length_8abf5 l D cy τ _ z hN hR (ty_Wf.sub (S' := []) hF (by decide)) ) (EV.rec (EV.at hEv hG)) yv_J0_length_8abf5 q_396 ⟨rfl, rfl⟩ ⟨Nat.le_of_ble_eq_true rfl, Nat.le_of_ble_eq_true rfl⟩ rfl hl.1 rfl (Nat.le_of_ble_eq_true rfl) ⟨Nat.zero_le _, Nat.zero_le _⟩ dJ0_indexOf_7cf53_14 (fun x6 u7 H locs hG po5 => ?_)
    obtain ⟨eu7, po5⟩ := po5
    rw [eu7] at hG
    have g6 := cI_rng x6
    refine k_cSE X hG (EV.at hEv hG) (c_J1_indexOf_4cfef l D cy τ _ z hN hR (ty_Wf.sub (S' := []) hF (by decide)) x901 x902 (by omega) x6) ys_J1_indexOf_4cfef q_404 ⟨rfl, rfl⟩ ⟨Nat.le_of_ble_eq_true rfl, Nat.le_of_ble_eq_true rfl⟩ rfl hl.1 rfl (Nat.le_of_ble_eq_true rfl) ⟨Nat.zero_le _, Nat.zero_le _⟩ dJ0_indexOf_7cf53_17 (fun x9 u10 H locs hG po8 => ?_)
    obtain ⟨eu10, po8⟩ := po8
    rw [eu10] at hG
    refine lv_goto (tgt := 36) X.1 X.2.1 dJ0_indexOf_7cf53_20 (by decide) ?_
    exact ret _ _ _ _ x9 _ hG ⟨rfl, by omega⟩ dJ0_indexOf_7cf53_36
set_option maxHeartbeats 4000000 in
set_option maxRecDepth 100000 in
theorem c_J0_indexOf_0f7a4 (l : Launch) (D : va_G) (cy : Nat → ClassId) (τ : ty_T) (ρ : ty_R) (z : EVt) {M : md_T} (hN : ty_N τ ρ) (hR : ty_Rg M τ ρ) (hF : ty_Wf M τ ρ []) (x901 : Int32) : KIE l D cy yJ0_indexOf_0f7a4 cJ0_indexOf_0f7a4 2 .int (rL 6) τ ρ z [.ref z.1, .int x901] (fun r u => u = ρ ∧ (-1 ≤ r.toInt ∧ r.toInt ≤ 3)) := by
  refine k_metIE "java/lang/String" rfl (by decide +kernel) (Nat.le_of_ble_eq_true rfl) (fun _ _ _ => rfl) ?_
  intro p e s m args below meth c Q ls X hG hEv hl ret
  obtain ⟨vO, vC, vV, vT, vR, vZ, z1, v1, z2, v2, z3, v3⟩ := id hEv
  have hl : lv_has ls 2 [(0, .ref z.1), (1, .int x901)] := hl
  have g901 := cI_rng x901
  refine lv_aload_n X.1 X.2.1 dJ0_indexOf_0f7a4_0 rfl (lv_at hl 0 rfl) ?_
  refine lv_iload_n X.1 X.2.1 dJ0_indexOf_0f7a4_1 rfl (lv_at hl 1 rfl) ?_
  refine n_ic X dJ0_indexOf_0f7a4_2 (by decide) (by decide) (fun x1 t1 => ?_)
  refine k_cRE X hG (EV.at hEv hG) (c_J0_indexOf_7cf53 l D cy τ _ z hN hR (ty_Wf.sub (S' := []) hF (by decide)) x901 x1 (by omega)) (EV.rec (EV.at hEv hG)) yv_J0_indexOf_7cf53 q_386 ⟨rfl, rfl⟩ ⟨Nat.le_of_ble_eq_true rfl, Nat.le_of_ble_eq_true rfl⟩ rfl hl.1 rfl (Nat.le_of_ble_eq_true rfl) ⟨Nat.zero_le _, Nat.zero_le _⟩ dJ0_indexOf_0f7a4_3 (fun x3 u4 H locs hG po2 => ?_)
  obtain ⟨eu4, po2⟩ := po2
  rw [eu4] at hG
  exact ret _ _ _ _ x3 _ hG ⟨rfl, by omega⟩ dJ0_indexOf_0f7a4_6
set_option maxHeartbeats 4000000 in
set_option maxRecDepth 100000 in
theorem c_X6_append (l : Launch) (D : va_G) (cy : Nat → ClassId) (τ : ty_T) (ρ : ty_R) {M : md_T} (hN : ty_N τ ρ) (hR : ty_Rg M τ ρ) (hF : ty_Wf M τ ρ [602, 6008]) {a900 : Nat} (h900 : τ a900 = some (0, 6)) (x901 : Int32) : KI l D cy yX6_append cX6_append 2 .boolean (rL 0) τ ρ [.ref a900, .int x901] (fun r u => u = ρ ∧ (r.toInt = 0 ∨ r.toInt = 1)) := by
  refine k_metI "EdgeEchoes$Text" rfl (by decide +kernel) (Nat.le_of_ble_eq_true rfl) (fun r u h => (cI_nar (cI_01 h.2)).1) ?_
  intro p e s m args below meth c Q ls X hG hl ret
  have hl : lv_has ls 2 [(0, .ref a900), (1, .int x901)] := hl
  have g901 := cI_rng x901
  obtain ⟨x1, r1, hG⟩ := tg_pin hG h900 2 rfl
  have g1 := cI_rng x1
  refine lv_aload_n X.1 X.2.1 dX6_append_0 rfl (lv_at hl 0 rfl) ?_
  refine gf_6_2 X hG h900 q_36 dX6_append_1 (fun x2 r2 => ?_)
  have e2 := exs_rd r2 (y := x1) rfl
  subst e2
  refine n_if_lt (tgt := 17) X dX6_append_4 (by decide) (fun c3 => ?_) (fun c3 => ?_)
  · refine n_ic X dX6_append_17 (by decide) (by decide) (fun x4 t4 => ?_)
    exact ret _ _ _ _ x4 _ (exs_cl hG) ⟨rfl, by omega⟩ dX6_append_18
  · refine lv_aload_n X.1 X.2.1 dX6_append_7 rfl (lv_at hl 0 rfl) ?_
    refine gf_6_2 X hG h900 q_36 dX6_append_8 (fun x5 r5 => ?_)
    have e5 := exs_rd r5 (y := x1) rfl
    subst e5
    refine n_sp X dX6_append_11 (by decide) (by decide) (fun x6 t6 => ?_)
    refine n_icmp_lt (tgt := 19) X dX6_append_14 (by decide) (fun c7 => ?_) (fun c7 => ?_)
    · refine lv_aload_n X.1 X.2.1 dX6_append_19 rfl (lv_at hl 0 rfl) ?_
      refine gf_6_0 X hG h900 q_34 dX6_append_20 ((exs_N hN) _ _ _ h900) (fun a8 h8 r8 => ?_)
      refine lv_aload_n X.1 X.2.1 dX6_append_23 rfl (lv_at hl 0 rfl) ?_
      refine gf_6_2 X hG h900 q_36 dX6_append_24 (fun x9 r9 => ?_)
      have e9 := exs_rd r9 (y := x1) rfl
      subst e9
      refine lv_iload_n X.1 X.2.1 dX6_append_27 rfl (lv_at hl 1 rfl) ?_
      refine tg_iasf X hG h8 rfl (cI_in (n := 240) (by omega)) dX6_append_28 ((exs_F1 (ty_Wf.sub (S' := [6008]) hF (by decide)) h900 (by decide)) _ _ _ _ h8 (ty_in (n := 6008) rfl) (ty_rno rfl)) (fun H locs hG => ?_)
      refine lv_aload_n X.1 X.2.1 dX6_append_29 rfl (lv_at hl 0 rfl) ?_
      refine lv_dup X.1 X.2.1 dX6_append_30 rfl ?_
      refine gf_6_2 X hG h900 q_36 dX6_append_31 (fun x10 r10 => ?_)
      have e10 := exs_rd r10 (y := x1) rfl
      subst e10
      refine n_ic X dX6_append_34 (by decide) (by decide) (fun x11 t11 => ?_)
      refine n_add X dX6_append_35 (by omega) (by omega) (fun x12 t12 => ?_)
      refine pg_6_2 X hG h900 q_36 dX6_append_36 (exs ρ a900 (P1 2 x12)) exs_off (exs_oth exs_P1) (exs_new (hF _ _ _ _ h900 (ty_in (n := 602) rfl) (ty_rno rfl)) rfl) (fun H locs hG => ?_)
      refine n_ic X dX6_append_39 (by decide) (by decide) (fun x13 t13 => ?_)
      exact ret _ _ _ _ x13 _ (exs_cl hG) ⟨rfl, by omega⟩ dX6_append_40
    · refine n_ic X dX6_append_17 (by decide) (by decide) (fun x14 t14 => ?_)
      exact ret _ _ _ _ x14 _ (exs_cl hG) ⟨rfl, by omega⟩ dX6_append_18
set_option maxHeartbeats 4000000 in
set_option maxRecDepth 100000 in
theorem c_X6_isFigure (l : Launch) (D : va_G) (cy : Nat → ClassId) (τ : ty_T) (ρ : ty_R) {M : md_T} (hN : ty_N τ ρ) (hR : ty_Rg M τ ρ) (hF : ty_Wf M τ ρ []) (x900 : Int32) : KI l D cy yX6_isFigure cX6_isFigure 1 .boolean (rL 0) τ ρ [.int x900] (fun r u => u = ρ ∧ (r.toInt = 0 ∨ r.toInt = 1)) := by
  refine k_metI "EdgeEchoes$Text" rfl (by decide +kernel) (Nat.le_of_ble_eq_true rfl) (fun r u h => (cI_nar (cI_01 h.2)).1) ?_
  intro p e s m args below meth c Q ls X hG hl ret
  have hl : lv_has ls 1 [(0, .int x900)] := hl
  have g900 := cI_rng x900
  refine lv_iload_n X.1 X.2.1 dX6_isFigure_0 rfl (lv_at hl 0 rfl) ?_
  refine n_bp X dX6_isFigure_1 (by decide) (by decide) (fun x1 t1 => ?_)
  refine n_icmp_lt (tgt := 16) X dX6_isFigure_3 (by decide) (fun c2 => ?_) (fun c2 => ?_)
  · refine n_ic X dX6_isFigure_16 (by decide) (by decide) (fun x3 t3 => ?_)
    exact ret _ _ _ _ x3 _ hG ⟨rfl, by omega⟩ dX6_isFigure_17
  · refine lv_iload_n X.1 X.2.1 dX6_isFigure_6 rfl (lv_at hl 0 rfl) ?_
    refine n_bp X dX6_isFigure_7 (by decide) (by decide) (fun x4 t4 => ?_)
    refine n_icmp_gt (tgt := 16) X dX6_isFigure_9 (by decide) (fun c5 => ?_) (fun c5 => ?_)
    · refine n_ic X dX6_isFigure_16 (by decide) (by decide) (fun x6 t6 => ?_)
      exact ret _ _ _ _ x6 _ hG ⟨rfl, by omega⟩ dX6_isFigure_17
    · refine n_ic X dX6_isFigure_12 (by decide) (by decide) (fun x7 t7 => ?_)
      refine lv_goto (tgt := 17) X.1 X.2.1 dX6_isFigure_13 (by decide) ?_
      exact ret _ _ _ _ x7 _ hG ⟨rfl, by omega⟩ dX6_isFigure_17
set_option maxHeartbeats 4000000 in
set_option maxRecDepth 100000 in
theorem c_X6_letterHere (l : Launch) (D : va_G) (cy : Nat → ClassId) (τ : ty_T) (ρ : ty_R) {M : md_T} (hN : ty_N τ ρ) (hR : ty_Rg M τ ρ) (hF : ty_Wf M τ ρ []) {a900 : Nat} (h900 : τ a900 = some (0, 6)) : KI l D cy yX6_letterHere cX6_letterHere 1 .int (rL 0) τ ρ [.ref a900] (fun r u => u = ρ ∧ True) := by
  refine k_metI "EdgeEchoes$Text" rfl (by decide +kernel) (Nat.le_of_ble_eq_true rfl) (fun _ _ _ => rfl) ?_
  intro p e s m args below meth c Q ls X hG hl ret
  have hl : lv_has ls 1 [(0, .ref a900)] := hl
  obtain ⟨x1, x2, r1, r2, hG⟩ := tg_pin2 hG h900 2 3 rfl rfl
  have g1 := cI_rng x1
  have g2 := cI_rng x2
  refine lv_aload_n X.1 X.2.1 dX6_letterHere_0 rfl (lv_at hl 0 rfl) ?_
  refine gf_6_3 X hG h900 q_38 dX6_letterHere_1 (fun x3 r3 => ?_)
  have e3 := exs_rd r3 (y := x2) rfl
  subst e3
  refine n_if_lt (tgt := 40) X dX6_letterHere_4 (by decide) (fun c4 => ?_) (fun c4 => ?_)
  · refine n_ic X dX6_letterHere_40 (by decide) (by decide) (fun x5 t5 => ?_)
    exact ret _ _ _ _ x5 _ (exs_cl hG) ⟨rfl, trivial⟩ dX6_letterHere_41
  · refine lv_aload_n X.1 X.2.1 dX6_letterHere_7 rfl (lv_at hl 0 rfl) ?_
    refine gf_6_3 X hG h900 q_38 dX6_letterHere_8 (fun x6 r6 => ?_)
    have e6 := exs_rd r6 (y := x2) rfl
    subst e6
    refine lv_aload_n X.1 X.2.1 dX6_letterHere_11 rfl (lv_at hl 0 rfl) ?_
    refine gf_6_2 X hG h900 q_36 dX6_letterHere_12 (fun x7 r7 => ?_)
    have e7 := exs_rd r7 (y := x1) rfl
    subst e7
    refine n_icmp_ge (tgt := 40) X dX6_letterHere_15 (by decide) (fun c8 => ?_) (fun c8 => ?_)
    · refine n_ic X dX6_letterHere_40 (by decide) (by decide) (fun x9 t9 => ?_)
      exact ret _ _ _ _ x9 _ (exs_cl hG) ⟨rfl, trivial⟩ dX6_letterHere_41
    · refine lv_aload_n X.1 X.2.1 dX6_letterHere_18 rfl (lv_at hl 0 rfl) ?_
      refine gf_6_3 X hG h900 q_38 dX6_letterHere_19 (fun x10 r10 => ?_)
      have e10 := exs_rd r10 (y := x2) rfl
      subst e10
      refine n_sp X dX6_letterHere_22 (by decide) (by decide) (fun x11 t11 => ?_)
      refine n_icmp_ge (tgt := 40) X dX6_letterHere_25 (by decide) (fun c12 => ?_) (fun c12 => ?_)
      · refine n_ic X dX6_letterHere_40 (by decide) (by decide) (fun x13 t13 => ?_)
        exact ret _ _ _ _ x13 _ (exs_cl hG) ⟨rfl, trivial⟩ dX6_letterHere_41
      · refine lv_aload_n X.1 X.2.1 dX6_letterHere_28 rfl (lv_at hl 0 rfl) ?_
        refine gf_6_0 X hG h900 q_34 dX6_letterHere_29 ((exs_N hN) _ _ _ h900) (fun a14 h14 r14 => ?_)
        refine lv_aload_n X.1 X.2.1 dX6_letterHere_32 rfl (lv_at hl 0 rfl) ?_
        refine gf_6_3 X hG h900 q_38 dX6_letterHere_33 (fun x15 r15 => ?_)
        have e15 := exs_rd r15 (y := x2) rfl
        subst e15
        refine tg_iald X hG h14 rfl (cI_in (n := 240) (by omega)) dX6_letterHere_36 (fun x16 r16 => ?_)
        refine lv_goto (tgt := 41) X.1 X.2.1 dX6_letterHere_37 (by decide) ?_
        exact ret _ _ _ _ x16 _ (exs_cl hG) ⟨rfl, trivial⟩ dX6_letterHere_41
set_option maxHeartbeats 4000000 in
set_option maxRecDepth 100000 in
theorem c_X6_skipBlanks (l : Launch) (D : va_G) (cy : Nat → ClassId) (τ : ty_T) (ρ : ty_R) {M : md_T} (hN : ty_N τ ρ) (hR : ty_Rg M τ ρ) (hF : ty_Wf M τ ρ [603]) {a900 : Nat} (h900 : τ a900 = some (0, 6)) : KV l D cy yX6_skipBlanks cX6_skipBlanks 1 (rL 1) τ ρ [.ref a900] (fun w => w = ρ) := by
  refine k_metV "EdgeEchoes$Text" rfl (by decide +kernel) (Nat.le_of_ble_eq_true rfl) ?_
  intro p e s m args below meth c Q ls X hG hl ret
  have hl : lv_has ls 1 [(0, .ref a900)] := hl
  obtain ⟨x1, x2, r1, r2, hG⟩ := tg_pin2 hG h900 2 3 rfl rfl
  have g1 := cI_rng x1
  have g2 := cI_rng x2
  have J0 : ∀ (n : Nat) (H : Heap) (locs : List Loc) (ls : Array Slot) (x3 : Int32), (x1.toInt - x3.toInt).toNat < n → TG D cy τ (exs ρ a900 (P2 2 x1 3 x3)) (ty_d τ) s.heap H locs → lv_has ls 1 [(0, .ref a900)] → W p l e (rL 1) s m args below meth c H locs 0 0 Q (F0 m 0 ls []) := by
    intro n
    induction n with
    | zero => intro H locs ls x3 hm0 hG hl; exact absurd hm0 (Nat.not_lt_zero _)
    | succ n ih0 =>
      intro H locs ls x3 hm0 hG hl
      have gx3 := cI_rng x3
      refine lv_aload_n X.1 X.2.1 dX6_skipBlanks_0 rfl (lv_at hl 0 rfl) ?_
      refine gf_6_3 X hG h900 q_38 dX6_skipBlanks_1 (fun x4 r4 => ?_)
      have e4 := exs_rd r4 (y := x3) rfl
      subst e4
      refine lv_aload_n X.1 X.2.1 dX6_skipBlanks_4 rfl (lv_at hl 0 rfl) ?_
      refine gf_6_2 X hG h900 q_36 dX6_skipBlanks_5 (fun x5 r5 => ?_)
      have e5 := exs_rd r5 (y := x1) rfl
      subst e5
      refine n_icmp_ge (tgt := 33) X dX6_skipBlanks_8 (by decide) (fun c6 => ?_) (fun c6 => ?_)
      · exact ret _ _ _ _ _ (exs_cl hG) rfl dX6_skipBlanks_33
      · refine lv_aload_n X.1 X.2.1 dX6_skipBlanks_11 rfl (lv_at hl 0 rfl) ?_
        refine k_cVi X hG (c_X6_letterHere l D cy τ _ (exs_N hN) (exs_R hR) (exs_F2 (ty_Wf.sub (S' := []) hF (by decide)) h900 (by decide)) h900) h900 rfl yv_X6_letterHere q_369 ⟨rfl, rfl⟩ ⟨Nat.le_of_ble_eq_true rfl, Nat.le_of_ble_eq_true rfl⟩ rfl hl.1 rfl (Nat.le_of_ble_eq_true rfl) ⟨Nat.zero_le _, Nat.zero_le _⟩ dX6_skipBlanks_12 (fun x8 u9 H locs hG po7 => ?_)
        obtain ⟨eu9, po7⟩ := po7
        rw [eu9] at hG
        have g8 := cI_rng x8
        refine n_bp X dX6_skipBlanks_15 (by decide) (by decide) (fun x10 t10 => ?_)
        refine n_icmp_ne (tgt := 33) X dX6_skipBlanks_17 (by decide) (fun c11 => ?_) (fun c11 => ?_)
        · exact ret _ _ _ _ _ (exs_cl hG) rfl dX6_skipBlanks_33
        · refine lv_aload_n X.1 X.2.1 dX6_skipBlanks_20 rfl (lv_at hl 0 rfl) ?_
          refine lv_dup X.1 X.2.1 dX6_skipBlanks_21 rfl ?_
          refine gf_6_3 X hG h900 q_38 dX6_skipBlanks_22 (fun x12 r12 => ?_)
          have e12 := exs_rd r12 (y := x3) rfl
          subst e12
          refine n_ic X dX6_skipBlanks_25 (by decide) (by decide) (fun x13 t13 => ?_)
          refine n_add X dX6_skipBlanks_26 (by omega) (by omega) (fun x14 t14 => ?_)
          refine pg_6_3 X hG h900 q_38 dX6_skipBlanks_27 (exs ρ a900 (P2 2 x1 3 x14)) exs_off (exs_oth exs_P2b) (exs_new (hF _ _ _ _ h900 (ty_in (n := 603) rfl) (ty_rno rfl)) rfl) (fun H locs hG => ?_)
          refine lv_goto (tgt := 0) X.1 X.2.1 dX6_skipBlanks_30 (by decide) ?_
          exact ih0 _ _ _ x14 (by omega) hG (lv_sub hl [0] rfl)
  exact J0 _ _ _ _ x2 (Nat.lt_succ_self _) hG (lv_sub hl [0] rfl)
set_option maxHeartbeats 4000000 in
set_option maxRecDepth 100000 in
theorem c_X6_wordHere (l : Launch) (D : va_G) (cy : Nat → ClassId) (τ : ty_T) (ρ : ty_R) (z : EVt) {M : md_T} (hN : ty_N τ ρ) (hR : ty_Rg M τ ρ) (hF : ty_Wf M τ ρ []) {a900 : Nat} (h900 : τ a900 = some (0, 6)) : KIE l D cy yX6_wordHere cX6_wordHere 2 .int (rL 7) τ ρ z [.ref a900] (fun r u => u = ρ ∧ (-1 ≤ r.toInt ∧ r.toInt ≤ 3)) := by
  refine k_metIE "EdgeEchoes$Text" rfl (by decide +kernel) (Nat.le_of_ble_eq_true rfl) (fun _ _ _ => rfl) ?_
  intro p e s m args below meth c Q ls X hG hEv hl ret
  obtain ⟨vO, vC, vV, vT, vR, vZ, z1, v1, z2, v2, z3, v3⟩ := id hEv
  have hl : lv_has ls 2 [(0, .ref a900)] := hl
  refine lv_aload_n X.1 X.2.1 dX6_wordHere_0 rfl (lv_at hl 0 rfl) ?_
  refine k_cVi X hG (c_X6_letterHere l D cy τ _ hN hR (ty_Wf.sub (S' := []) hF (by decide)) h900) h900 rfl yv_X6_letterHere q_369 ⟨rfl, rfl⟩ ⟨Nat.le_of_ble_eq_true rfl, Nat.le_of_ble_eq_true rfl⟩ rfl hl.1 rfl (Nat.le_of_ble_eq_true rfl) ⟨Nat.zero_le _, Nat.zero_le _⟩ dX6_wordHere_1 (fun x2 u3 H locs hG po1 => ?_)
  obtain ⟨eu3, po1⟩ := po1
  rw [eu3] at hG
  have g2 := cI_rng x2
  refine lv_istore_n (lv' := [(1, .int x2), (0, .ref a900)]) X.1 X.2.1 dX6_wordHere_4 rfl hl (by decide) rfl (fun ls hl => ?_)
  refine lv_iload_n X.1 X.2.1 dX6_wordHere_5 rfl (lv_at hl 0 rfl) ?_
  refine n_if_ge (tgt := 13) X dX6_wordHere_6 (by decide) (fun c4 => ?_) (fun c4 => ?_)
  · refine va_ldcS X.1 X.2.1 X.2.2.2.1 vR dX6_wordHere_13 ?_
    refine lv_iload_n X.1 X.2.1 dX6_wordHere_15 rfl (lv_at hl 0 rfl) ?_
    refine lv_i2c X.1 X.2.1 dX6_wordHere_16 rfl ?_
    refine n_any (fun x5 => ?_)
    refine k_cRE X hG (EV.at hEv hG) (c_J0_indexOf_0f7a4 l D cy τ _ z hN hR (ty_Wf.sub (S' := []) hF (by decide)) x5) (EV.rec (EV.at hEv hG)) yv_J0_indexOf_0f7a4 q_382 ⟨rfl, rfl⟩ ⟨Nat.le_of_ble_eq_true rfl, Nat.le_of_ble_eq_true rfl⟩ rfl hl.1 rfl (Nat.le_of_ble_eq_true rfl) ⟨Nat.zero_le _, Nat.zero_le _⟩ dX6_wordHere_17 (fun x7 u8 H locs hG po6 => ?_)
    obtain ⟨eu8, po6⟩ := po6
    rw [eu8] at hG
    exact ret _ _ _ _ x7 _ hG ⟨rfl, by omega⟩ dX6_wordHere_20
  · refine n_ic X dX6_wordHere_9 (by decide) (by decide) (fun x9 t9 => ?_)
    refine lv_goto (tgt := 20) X.1 X.2.1 dX6_wordHere_10 (by decide) ?_
    exact ret _ _ _ _ x9 _ hG ⟨rfl, by omega⟩ dX6_wordHere_20
set_option maxHeartbeats 4000000 in
set_option maxRecDepth 100000 in
theorem c_X6_isTooMany (l : Launch) (D : va_G) (cy : Nat → ClassId) (τ : ty_T) (ρ : ty_R) {M : md_T} (hN : ty_N τ ρ) (hR : ty_Rg M τ ρ) (hF : ty_Wf M τ ρ []) {a900 : Nat} (h900 : τ a900 = some (0, 6)) (x901 : Int32) {a902 : Nat} (h902 : τ a902 = some (0, 3)) : KI l D cy yX6_isTooMany cX6_isTooMany 3 .boolean (rL 0) τ ρ [.ref a900, .int x901, .ref a902] (fun r u => u = ρ ∧ (r.toInt = 0 ∨ r.toInt = 1)) := by
  refine k_metI "EdgeEchoes$Text" rfl (by decide +kernel) (Nat.le_of_ble_eq_true rfl) (fun r u h => (cI_nar (cI_01 h.2)).1) ?_
  intro p e s m args below meth c Q ls X hG hl ret
  have hl : lv_has ls 3 [(0, .ref a900), (1, .int x901), (2, .ref a902)] := hl
  have g901 := cI_rng x901
  refine lv_iload_n X.1 X.2.1 dX6_isTooMany_0 rfl (lv_at hl 1 rfl) ?_
  rcases (show x901.toInt = 0 ∨ x901.toInt = 1 ∨ x901.toInt = 2 ∨ (x901.toInt < 0 ∨ 2 < x901.toInt) by omega) with c1 | c1 | c1 | c1
  · refine lv_tableIn (tgt := 28) (off := 27) X.1 X.2.1 dX6_isTooMany_1 (by omega) (by omega) (by rw [c1]; rfl) (by decide) ?_
    refine lv_aload_n X.1 X.2.1 dX6_isTooMany_28 rfl (lv_at hl 2 rfl) ?_
    refine gf_3_2 X hG h902 q_172 dX6_isTooMany_29 (fun x2 b2 r2 => ?_)
    exact ret _ _ _ _ x2 _ hG ⟨rfl, by omega⟩ dX6_isTooMany_32
  · refine lv_tableIn (tgt := 33) (off := 32) X.1 X.2.1 dX6_isTooMany_1 (by omega) (by omega) (by rw [c1]; rfl) (by decide) ?_
    refine lv_aload_n X.1 X.2.1 dX6_isTooMany_33 rfl (lv_at hl 2 rfl) ?_
    refine gf_3_0 X hG h902 q_166 dX6_isTooMany_34 (hN _ _ _ h902) (fun a3 h3 r3 => ?_)
    refine gf_8_6 X hG h3 q_80 dX6_isTooMany_37 (fun x4 r4 => ?_)
    have b4 := (hR _ _ _ _ h3 r4) _ _ rfl
    refine n_bp X dX6_isTooMany_40 (by decide) (by decide) (fun x5 t5 => ?_)
    refine n_icmp_lt (tgt := 49) X dX6_isTooMany_42 (by decide) (fun c6 => ?_) (fun c6 => ?_)
    · refine n_ic X dX6_isTooMany_49 (by decide) (by decide) (fun x7 t7 => ?_)
      exact ret _ _ _ _ x7 _ hG ⟨rfl, by omega⟩ dX6_isTooMany_50
    · refine n_ic X dX6_isTooMany_45 (by decide) (by decide) (fun x8 t8 => ?_)
      refine lv_goto (tgt := 50) X.1 X.2.1 dX6_isTooMany_46 (by decide) ?_
      exact ret _ _ _ _ x8 _ hG ⟨rfl, by omega⟩ dX6_isTooMany_50
  · refine lv_tableIn (tgt := 51) (off := 50) X.1 X.2.1 dX6_isTooMany_1 (by omega) (by omega) (by rw [c1]; rfl) (by decide) ?_
    refine lv_aload_n X.1 X.2.1 dX6_isTooMany_51 rfl (lv_at hl 0 rfl) ?_
    refine gf_6_4 X hG h900 q_40 dX6_isTooMany_52 (fun x9 b9 r9 => ?_)
    exact ret _ _ _ _ x9 _ hG ⟨rfl, by omega⟩ dX6_isTooMany_55
  · refine lv_tableOut (tgt := 56) X.1 X.2.1 dX6_isTooMany_1 c1 (by decide) ?_
    refine lv_aload_n X.1 X.2.1 dX6_isTooMany_56 rfl (lv_at hl 2 rfl) ?_
    refine gf_3_1 X hG h902 q_169 dX6_isTooMany_57 (hN _ _ _ h902) (fun a10 h10 r10 => ?_)
    refine gf_1_6 X hG h10 q_146 dX6_isTooMany_60 (fun x11 r11 => ?_)
    have b11 := (hR _ _ _ _ h10 r11) _ _ rfl
    refine n_bp X dX6_isTooMany_63 (by decide) (by decide) (fun x12 t12 => ?_)
    refine n_icmp_lt (tgt := 72) X dX6_isTooMany_65 (by decide) (fun c13 => ?_) (fun c13 => ?_)
    · refine n_ic X dX6_isTooMany_72 (by decide) (by decide) (fun x14 t14 => ?_)
      exact ret _ _ _ _ x14 _ hG ⟨rfl, by omega⟩ dX6_isTooMany_73
    · refine n_ic X dX6_isTooMany_68 (by decide) (by decide) (fun x15 t15 => ?_)
      refine lv_goto (tgt := 73) X.1 X.2.1 dX6_isTooMany_69 (by decide) ?_
      exact ret _ _ _ _ x15 _ hG ⟨rfl, by omega⟩ dX6_isTooMany_73
set_option maxHeartbeats 4000000 in
set_option maxRecDepth 100000 in
theorem c_X6_isWithin (l : Launch) (D : va_G) (cy : Nat → ClassId) (τ : ty_T) (ρ : ty_R) (z : EVt) {M : md_T} (hN : ty_N τ ρ) (hR : ty_Rg M τ ρ) (hF : ty_Wf M τ ρ []) (x900 : Int32) (x901 : Int32) : KIE l D cy yX6_isWithin cX6_isWithin 2 .boolean (rL 0) τ ρ z [.int x900, .int x901] (fun r u => u = ρ ∧ (r.toInt = 0 ∨ r.toInt = 1)) := by
  refine k_metIE "EdgeEchoes$Text" rfl (by decide +kernel) (Nat.le_of_ble_eq_true rfl) (fun r u h => (cI_nar (cI_01 h.2)).1) ?_
  intro p e s m args below meth c Q ls X hG hEv hl ret
  obtain ⟨vO, vC, vV, vT, vR, vZ, z1, v1, z2, v2, z3, v3⟩ := id hEv
  have hl : lv_has ls 2 [(0, .int x900), (1, .int x901)] := hl
  have g900 := cI_rng x900
  have g901 := cI_rng x901
  refine lv_iload_n X.1 X.2.1 dX6_isWithin_0 rfl (lv_at hl 0 rfl) ?_
  refine n_if_lt (tgt := 42) X dX6_isWithin_1 (by decide) (fun c1 => ?_) (fun c1 => ?_)
  · refine n_ic X dX6_isWithin_42 (by decide) (by decide) (fun x2 t2 => ?_)
    exact ret _ _ _ _ x2 _ hG ⟨rfl, by omega⟩ dX6_isWithin_43
  · refine lv_iload_n X.1 X.2.1 dX6_isWithin_4 rfl (lv_at hl 0 rfl) ?_
    refine va_gets X.1 X.2.1 z2 hG.2.1 X.2.2.2.1 (X.2.2.2.2.1 _ q_484) (fun _ h => h) dX6_isWithin_5 ?_
    refine va_tlen X.1 X.2.1 v2 hG.2.1 rfl dX6_isWithin_8 ?_
    refine lv_topi (fun x3 e3 => ?_)
    have t3 : x3.toInt = 12 := by rw [e3]; decide +kernel
    refine n_icmp_ge (tgt := 42) X dX6_isWithin_9 (by decide) (fun c4 => ?_) (fun c4 => ?_)
    · refine n_ic X dX6_isWithin_42 (by decide) (by decide) (fun x5 t5 => ?_)
      exact ret _ _ _ _ x5 _ hG ⟨rfl, by omega⟩ dX6_isWithin_43
    · refine lv_iload_n X.1 X.2.1 dX6_isWithin_12 rfl (lv_at hl 0 rfl) ?_
      refine va_gets X.1 X.2.1 z3 hG.2.1 X.2.2.2.1 (X.2.2.2.2.1 _ q_486) (fun _ h => h) dX6_isWithin_13 ?_
      refine va_tlen X.1 X.2.1 v3 hG.2.1 rfl dX6_isWithin_16 ?_
      refine lv_topi (fun x6 e6 => ?_)
      have t6 : x6.toInt = 12 := by rw [e6]; decide +kernel
      refine n_icmp_ge (tgt := 42) X dX6_isWithin_17 (by decide) (fun c7 => ?_) (fun c7 => ?_)
      · exact absurd c7 (by omega)
      · refine lv_iload_n X.1 X.2.1 dX6_isWithin_20 rfl (lv_at hl 1 rfl) ?_
        refine va_gets X.1 X.2.1 z2 hG.2.1 X.2.2.2.1 (X.2.2.2.2.1 _ q_484) (fun _ h => h) dX6_isWithin_21 ?_
        refine lv_iload_n X.1 X.2.1 dX6_isWithin_24 rfl (lv_at hl 0 rfl) ?_
        refine va_ti X.1 X.2.1 v2 hG.2.1 (cI_in (n := 12) (by omega)) rfl dX6_isWithin_25 ?_
        refine n_any (fun x8 => ?_)
        refine n_icmp_lt (tgt := 42) X dX6_isWithin_26 (by decide) (fun c9 => ?_) (fun c9 => ?_)
        · refine n_ic X dX6_isWithin_42 (by decide) (by decide) (fun x10 t10 => ?_)
          exact ret _ _ _ _ x10 _ hG ⟨rfl, by omega⟩ dX6_isWithin_43
        · refine lv_iload_n X.1 X.2.1 dX6_isWithin_29 rfl (lv_at hl 1 rfl) ?_
          refine va_gets X.1 X.2.1 z3 hG.2.1 X.2.2.2.1 (X.2.2.2.2.1 _ q_486) (fun _ h => h) dX6_isWithin_30 ?_
          refine lv_iload_n X.1 X.2.1 dX6_isWithin_33 rfl (lv_at hl 0 rfl) ?_
          refine va_ti X.1 X.2.1 v3 hG.2.1 (cI_in (n := 12) (by omega)) rfl dX6_isWithin_34 ?_
          refine n_any (fun x11 => ?_)
          refine n_icmp_gt (tgt := 42) X dX6_isWithin_35 (by decide) (fun c12 => ?_) (fun c12 => ?_)
          · refine n_ic X dX6_isWithin_42 (by decide) (by decide) (fun x13 t13 => ?_)
            exact ret _ _ _ _ x13 _ hG ⟨rfl, by omega⟩ dX6_isWithin_43
          · refine n_ic X dX6_isWithin_38 (by decide) (by decide) (fun x14 t14 => ?_)
            refine lv_goto (tgt := 43) X.1 X.2.1 dX6_isWithin_39 (by decide) ?_
            exact ret _ _ _ _ x14 _ hG ⟨rfl, by omega⟩ dX6_isWithin_43
set_option maxHeartbeats 4000000 in
set_option maxRecDepth 100000 in
theorem c_X6_readNumber (l : Launch) (D : va_G) (cy : Nat → ClassId) (τ : ty_T) (ρ : ty_R) (z : EVt) {M : md_T} (hN : ty_N τ ρ) (hR : ty_Rg M τ ρ) (hF : ty_Wf M τ ρ [603, 6009]) {a900 : Nat} (h900 : τ a900 = some (0, 6)) (x901 : Int32) (zx901 : 0 ≤ x901.toInt ∧ x901.toInt ≤ 3) (x902 : Int32) (zx902 : 0 ≤ x902.toInt ∧ x902.toInt ≤ 2) : KIE l D cy yX6_readNumber cX6_readNumber 7 .int (rL 2) τ ρ z [.ref a900, .int x901, .int x902] (fun r u => u = ρ ∧ True) := by
  refine k_metIE "EdgeEchoes$Text" rfl (by decide +kernel) (Nat.le_of_ble_eq_true rfl) (fun _ _ _ => rfl) ?_
  intro p e s m args below meth c Q ls X hG hEv hl ret
  obtain ⟨vO, vC, vV, vT, vR, vZ, z1, v1, z2, v2, z3, v3⟩ := id hEv
  have hl : lv_has ls 7 [(0, .ref a900), (1, .int x901), (2, .int x902)] := hl
  refine lv_aload_n X.1 X.2.1 dX6_readNumber_0 rfl (lv_at hl 0 rfl) ?_
  refine k_cVv X hG (c_X6_skipBlanks l D cy τ _ hN hR (ty_Wf.sub (S' := [603]) hF (by decide)) h900) h900 rfl yv_X6_skipBlanks q_365 ⟨rfl, rfl⟩ ⟨Nat.le_of_ble_eq_true rfl, Nat.le_of_ble_eq_true rfl⟩ rfl hl.1 rfl (Nat.le_of_ble_eq_true rfl) ⟨Nat.zero_le _, Nat.zero_le _⟩ dX6_readNumber_1 (fun u3 H locs hG po1 => ?_)
  rw [po1] at hG
  obtain ⟨x4, x5, r4, r5, hG⟩ := tg_pin2 hG h900 2 3 rfl rfl
  have g4 := cI_rng x4
  have g5 := cI_rng x5
  refine lv_aload_n X.1 X.2.1 dX6_readNumber_4 rfl (lv_at hl 0 rfl) ?_
  refine gf_6_3 X hG h900 q_38 dX6_readNumber_5 (fun x6 r6 => ?_)
  have e6 := exs_rd r6 (y := x5) rfl
  subst e6
  refine lv_istore_n (lv' := [(3, .int x5), (0, .ref a900), (1, .int x901), (2, .int x902)]) X.1 X.2.1 dX6_readNumber_8 rfl hl (by decide) rfl (fun ls hl => ?_)
  refine n_ic X dX6_readNumber_9 (by decide) (by decide) (fun x7 t7 => ?_)
  refine lv_istore (lv' := [(4, .int x7), (3, .int x5), (0, .ref a900), (1, .int x901), (2, .int x902)]) X.1 X.2.1 dX6_readNumber_10 hl (by decide) rfl (fun ls hl => ?_)
  refine n_ic X dX6_readNumber_12 (by decide) (by decide) (fun x8 t8 => ?_)
  refine lv_istore (lv' := [(5, .int x8), (4, .int x7), (3, .int x5), (0, .ref a900), (1, .int x901), (2, .int x902)]) X.1 X.2.1 dX6_readNumber_13 hl (by decide) rfl (fun ls hl => ?_)
  have J15 : ∀ (n : Nat) (H : Heap) (locs : List Loc) (ls : Array Slot) (x9 : Int32) (x10 : Int32) (x11 : Int32), (x4.toInt - x11.toInt).toNat < n → TG D cy τ (exs ρ a900 (P2 2 x4 3 x11)) (ty_d τ) s.heap H locs → lv_has ls 7 [(0, .ref a900), (1, .int x901), (2, .int x902), (3, .int x5), (4, .int x9), (5, .int x10)] → W p l e (rL 2) s m args below meth c H locs 0 0 Q (F0 m 15 ls []) := by
    intro n
    induction n with
    | zero => intro H locs ls x9 x10 x11 hm15 hG hl; exact absurd hm15 (Nat.not_lt_zero _)
    | succ n ih15 =>
      intro H locs ls x9 x10 x11 hm15 hG hl
      have gx9 := cI_rng x9
      have gx10 := cI_rng x10
      have gx11 := cI_rng x11
      refine lv_aload_n X.1 X.2.1 dX6_readNumber_15 rfl (lv_at hl 0 rfl) ?_
      refine gf_6_3 X hG h900 q_38 dX6_readNumber_16 (fun x12 r12 => ?_)
      have e12 := exs_rd r12 (y := x11) rfl
      subst e12
      refine lv_aload_n X.1 X.2.1 dX6_readNumber_19 rfl (lv_at hl 0 rfl) ?_
      refine gf_6_2 X hG h900 q_36 dX6_readNumber_20 (fun x13 r13 => ?_)
      have e13 := exs_rd r13 (y := x4) rfl
      subst e13
      have J73 : ∀ (H : Heap) (locs : List Loc) (ls : Array Slot), TG D cy τ (exs ρ a900 (P2 2 x4 3 x11)) (ty_d τ) s.heap H locs → lv_has ls 7 [(0, .ref a900), (1, .int x901), (2, .int x902), (3, .int x5), (4, .int x9), (5, .int x10)] → W p l e (rL 2) s m args below meth c H locs 0 0 Q (F0 m 73 ls []) := by
        intro H locs ls hG hl
        refine lv_iload X.1 X.2.1 dX6_readNumber_73 (lv_at hl 4 rfl) ?_
        refine n_if_ne (tgt := 80) X dX6_readNumber_75 (by decide) (fun c14 => ?_) (fun c14 => ?_)
        · refine lv_iload_n X.1 X.2.1 dX6_readNumber_80 rfl (lv_at hl 1 rfl) ?_
          refine n_ic X dX6_readNumber_81 (by decide) (by decide) (fun x15 t15 => ?_)
          refine n_mul X dX6_readNumber_82 (by rw [t15]; omega) (by rw [t15]; omega) (fun x16 t16 => ?_)
          rw [t15] at t16
          refine lv_iload_n X.1 X.2.1 dX6_readNumber_83 rfl (lv_at hl 2 rfl) ?_
          refine n_add X dX6_readNumber_84 (by omega) (by omega) (fun x17 t17 => ?_)
          refine lv_istore (lv' := [(6, .int x17), (0, .ref a900), (1, .int x901), (2, .int x902), (3, .int x5), (4, .int x9), (5, .int x10)]) X.1 X.2.1 dX6_readNumber_85 hl (by decide) rfl (fun ls hl => ?_)
          refine lv_iload X.1 X.2.1 dX6_readNumber_87 (lv_at hl 5 rfl) ?_
          refine n_ic X dX6_readNumber_89 (by decide) (by decide) (fun x18 t18 => ?_)
          have J103 : ∀ (H : Heap) (locs : List Loc) (ls : Array Slot), TG D cy τ (exs ρ a900 (P2 2 x4 3 x11)) (ty_d τ) s.heap H locs → lv_has ls 7 [(0, .ref a900), (1, .int x901), (2, .int x902), (3, .int x5), (4, .int x9), (5, .int x10), (6, .int x17)] → W p l e (rL 2) s m args below meth c H locs 0 0 Q (F0 m 103 ls []) := by
            intro H locs ls hG hl
            refine lv_aload_n X.1 X.2.1 dX6_readNumber_103 rfl (lv_at hl 0 rfl) ?_
            refine lv_iload_n X.1 X.2.1 dX6_readNumber_104 rfl (lv_at hl 3 rfl) ?_
            refine pg_6_3 X hG h900 q_38 dX6_readNumber_105 (exs ρ a900 (P2 2 x4 3 x5)) exs_off (exs_oth exs_P2b) (exs_new (hF _ _ _ _ h900 (ty_in (n := 603) rfl) (ty_rno rfl)) rfl) (fun H locs hG => ?_)
            refine n_ic X dX6_readNumber_108 (by decide) (by decide) (fun x19 t19 => ?_)
            exact ret _ _ _ _ x19 _ (exs_cl hG) ⟨rfl, trivial⟩ dX6_readNumber_109
          refine n_icmp_gt (tgt := 103) X dX6_readNumber_90 (by decide) (fun c20 => ?_) (fun c20 => ?_)
          · exact J103 _ _ _  hG (lv_sub hl [1, 2, 3, 4, 5, 6, 0] rfl)
          · refine lv_iload X.1 X.2.1 dX6_readNumber_93 (lv_at hl 0 rfl) ?_
            refine lv_iload X.1 X.2.1 dX6_readNumber_95 (lv_at hl 6 rfl) ?_
            refine k_cSE X hG (EV.at hEv hG) (c_X6_isWithin l D cy τ _ z (exs_N hN) (exs_R hR) (exs_F2 (ty_Wf.sub (S' := []) hF (by decide)) h900 (by decide)) x17 x10) ys_X6_isWithin q_481 ⟨rfl, rfl⟩ ⟨Nat.le_of_ble_eq_true rfl, Nat.le_of_ble_eq_true rfl⟩ rfl hl.1 rfl (Nat.le_of_ble_eq_true rfl) ⟨Nat.zero_le _, Nat.zero_le _⟩ dX6_readNumber_97 (fun x22 u23 H locs hG po21 => ?_)
            obtain ⟨eu23, po21⟩ := po21
            rw [eu23] at hG
            refine n_if_ne (tgt := 110) X dX6_readNumber_100 (by decide) (fun c24 => ?_) (fun c24 => ?_)
            · refine lv_iload_n X.1 X.2.1 dX6_readNumber_110 rfl (lv_at hl 3 rfl) ?_
              refine n_if_lt (tgt := 127) X dX6_readNumber_111 (by decide) (fun c25 => ?_) (fun c25 => ?_)
              · exact absurd c25 (by omega)
              · refine lv_iload_n X.1 X.2.1 dX6_readNumber_114 rfl (lv_at hl 3 rfl) ?_
                refine n_ic X dX6_readNumber_115 (by decide) (by decide) (fun x26 t26 => ?_)
                refine n_icmp_ge (tgt := 127) X dX6_readNumber_116 (by decide) (fun c27 => ?_) (fun c27 => ?_)
                · exact absurd c27 (by omega)
                · refine lv_aload_n X.1 X.2.1 dX6_readNumber_119 rfl (lv_at hl 1 rfl) ?_
                  refine gf_6_1 X hG h900 q_35 dX6_readNumber_120 ((exs_N hN) _ _ _ h900) (fun a28 h28 r28 => ?_)
                  refine lv_iload_n X.1 X.2.1 dX6_readNumber_123 rfl (lv_at hl 3 rfl) ?_
                  refine lv_iload X.1 X.2.1 dX6_readNumber_124 (lv_at hl 6 rfl) ?_
                  refine tg_iasf X hG h28 rfl (cI_in (n := 3) (by omega)) dX6_readNumber_126 ((exs_F2 (ty_Wf.sub (S' := [6009]) hF (by decide)) h900 (by decide)) _ _ _ _ h28 (ty_in (n := 6009) rfl) (ty_rno rfl)) (fun H locs hG => ?_)
                  refine n_ic X dX6_readNumber_127 (by decide) (by decide) (fun x29 t29 => ?_)
                  exact ret _ _ _ _ x29 _ (exs_cl hG) ⟨rfl, trivial⟩ dX6_readNumber_128
            · exact J103 _ _ _  hG (lv_sub hl [1, 2, 3, 4, 5, 6, 0] rfl)
        · refine n_ic X dX6_readNumber_78 (by decide) (by decide) (fun x30 t30 => ?_)
          exact ret _ _ _ _ x30 _ (exs_cl hG) ⟨rfl, trivial⟩ dX6_readNumber_79
      refine n_icmp_ge (tgt := 73) X dX6_readNumber_23 (by decide) (fun c31 => ?_) (fun c31 => ?_)
      · exact J73 _ _ _  hG (lv_sub hl [0, 1, 2, 3, 4, 5] rfl)
      · refine lv_aload_n X.1 X.2.1 dX6_readNumber_26 rfl (lv_at hl 0 rfl) ?_
        refine k_cVi X hG (c_X6_letterHere l D cy τ _ (exs_N hN) (exs_R hR) (exs_F2 (ty_Wf.sub (S' := []) hF (by decide)) h900 (by decide)) h900) h900 rfl yv_X6_letterHere q_369 ⟨rfl, rfl⟩ ⟨Nat.le_of_ble_eq_true rfl, Nat.le_of_ble_eq_true rfl⟩ rfl hl.1 rfl (Nat.le_of_ble_eq_true rfl) ⟨Nat.zero_le _, Nat.zero_le _⟩ dX6_readNumber_27 (fun x33 u34 H locs hG po32 => ?_)
        obtain ⟨eu34, po32⟩ := po32
        rw [eu34] at hG
        have g33 := cI_rng x33
        refine k_cSi X hG (c_X6_isFigure l D cy τ _ (exs_N hN) (exs_R hR) (exs_F2 (ty_Wf.sub (S' := []) hF (by decide)) h900 (by decide)) x33) ys_X6_isFigure q_478 ⟨rfl, rfl⟩ ⟨Nat.le_of_ble_eq_true rfl, Nat.le_of_ble_eq_true rfl⟩ rfl hl.1 rfl (Nat.le_of_ble_eq_true rfl) ⟨Nat.zero_le _, Nat.zero_le _⟩ dX6_readNumber_30 (fun x36 u37 H locs hG po35 => ?_)
        obtain ⟨eu37, po35⟩ := po35
        rw [eu37] at hG
        refine n_if_eq (tgt := 73) X dX6_readNumber_33 (by decide) (fun c38 => ?_) (fun c38 => ?_)
        · exact J73 _ _ _  hG (lv_sub hl [0, 1, 2, 3, 4, 5] rfl)
        · refine n_incA X (fun z40 => [(4, .int z40), (0, .ref a900), (1, .int x901), (2, .int x902), (3, .int x5), (5, .int x10)]) dX6_readNumber_36 hl (k := 4) rfl (by decide) (fun _ => rfl) (fun x39 ls hl => ?_)
          have hl : lv_has ls 7 [(4, .int x39), (0, .ref a900), (1, .int x901), (2, .int x902), (3, .int x5), (5, .int x10)] := hl
          refine lv_iload X.1 X.2.1 dX6_readNumber_39 (lv_at hl 0 rfl) ?_
          refine n_ic X dX6_readNumber_41 (by decide) (by decide) (fun x41 t41 => ?_)
          have J60 : ∀ (H : Heap) (locs : List Loc) (ls : Array Slot) (x42 : Int32), TG D cy τ (exs ρ a900 (P2 2 x4 3 x11)) (ty_d τ) s.heap H locs → lv_has ls 7 [(0, .ref a900), (1, .int x901), (2, .int x902), (3, .int x5), (4, .int x39), (5, .int x42)] → W p l e (rL 2) s m args below meth c H locs 0 0 Q (F0 m 60 ls []) := by
            intro H locs ls x42 hG hl
            have gx42 := cI_rng x42
            refine lv_aload_n X.1 X.2.1 dX6_readNumber_60 rfl (lv_at hl 0 rfl) ?_
            refine lv_dup X.1 X.2.1 dX6_readNumber_61 rfl ?_
            refine gf_6_3 X hG h900 q_38 dX6_readNumber_62 (fun x43 r43 => ?_)
            have e43 := exs_rd r43 (y := x11) rfl
            subst e43
            refine n_ic X dX6_readNumber_65 (by decide) (by decide) (fun x44 t44 => ?_)
            refine n_add X dX6_readNumber_66 (by omega) (by omega) (fun x45 t45 => ?_)
            refine pg_6_3 X hG h900 q_38 dX6_readNumber_67 (exs ρ a900 (P2 2 x4 3 x45)) exs_off (exs_oth exs_P2b) (exs_new (hF _ _ _ _ h900 (ty_in (n := 603) rfl) (ty_rno rfl)) rfl) (fun H locs hG => ?_)
            refine lv_goto (tgt := 15) X.1 X.2.1 dX6_readNumber_70 (by decide) ?_
            exact ih15 _ _ _ x39 x42 x45 (by omega) hG (lv_sub hl [0, 1, 2, 3, 4, 5] rfl)
          refine n_icmp_gt (tgt := 60) X dX6_readNumber_42 (by decide) (fun c46 => ?_) (fun c46 => ?_)
          · exact J60 _ _ _ x10 hG (lv_sub hl [1, 2, 3, 4, 0, 5] rfl)
          · refine lv_iload X.1 X.2.1 dX6_readNumber_45 (lv_at hl 5 rfl) ?_
            refine n_bp X dX6_readNumber_47 (by decide) (by decide) (fun x47 t47 => ?_)
            refine lv_imul X.1 X.2.1 dX6_readNumber_49 ?_
            refine n_any (fun x48 => ?_)
            refine lv_aload_n X.1 X.2.1 dX6_readNumber_50 rfl (lv_at hl 1 rfl) ?_
            refine k_cVi X hG (c_X6_letterHere l D cy τ _ (exs_N hN) (exs_R hR) (exs_F2 (ty_Wf.sub (S' := []) hF (by decide)) h900 (by decide)) h900) h900 rfl yv_X6_letterHere q_369 ⟨rfl, rfl⟩ ⟨Nat.le_of_ble_eq_true rfl, Nat.le_of_ble_eq_true rfl⟩ rfl hl.1 rfl (Nat.le_of_ble_eq_true rfl) ⟨Nat.zero_le _, Nat.zero_le _⟩ dX6_readNumber_51 (fun x50 u51 H locs hG po49 => ?_)
            obtain ⟨eu51, po49⟩ := po49
            rw [eu51] at hG
            have g50 := cI_rng x50
            refine lv_iadd X.1 X.2.1 dX6_readNumber_54 ?_
            refine n_any (fun x52 => ?_)
            refine n_bp X dX6_readNumber_55 (by decide) (by decide) (fun x53 t53 => ?_)
            refine lv_isub X.1 X.2.1 dX6_readNumber_57 ?_
            refine n_any (fun x54 => ?_)
            refine lv_istore (lv' := [(5, .int x54), (4, .int x39), (0, .ref a900), (1, .int x901), (2, .int x902), (3, .int x5)]) X.1 X.2.1 dX6_readNumber_58 hl (by decide) rfl (fun ls hl => ?_)
            exact J60 _ _ _ x54 hG (lv_sub hl [2, 3, 4, 5, 1, 0] rfl)
  exact J15 _ _ _ _ x7 x8 x5 (Nat.lt_succ_self _) hG (lv_sub hl [3, 4, 5, 2, 1, 0] rfl)
set_option maxHeartbeats 4000000 in
set_option maxRecDepth 100000 in
theorem c_X6_takeClause (l : Launch) (D : va_G) (cy : Nat → ClassId) (τ : ty_T) (ρ : ty_R) {M : md_T} (hN : ty_N τ ρ) (hR : ty_Rg M τ ρ) (hF : ty_Wf M τ ρ [106, 302, 604, 806, 807, 808, 809, 810, 811, 5000, 6005]) {a900 : Nat} (h900 : τ a900 = some (0, 6)) (x901 : Int32) {a902 : Nat} (h902 : τ a902 = some (0, 3)) : KV l D cy yX6_takeClause cX6_takeClause 3 (rL 3) τ ρ [.ref a900, .int x901, .ref a902] (fun w => w = ρ) := by
  refine k_metV "EdgeEchoes$Text" rfl (by decide +kernel) (Nat.le_of_ble_eq_true rfl) ?_
  intro p e s m args below meth c Q ls X hG hl ret
  have hl : lv_has ls 3 [(0, .ref a900), (1, .int x901), (2, .ref a902)] := hl
  have g901 := cI_rng x901
  refine lv_iload_n X.1 X.2.1 dX6_takeClause_0 rfl (lv_at hl 1 rfl) ?_
  rcases (show x901.toInt = 0 ∨ x901.toInt = 1 ∨ x901.toInt = 2 ∨ (x901.toInt < 0 ∨ 2 < x901.toInt) by omega) with c1 | c1 | c1 | c1
  · refine lv_tableIn (tgt := 28) (off := 27) X.1 X.2.1 dX6_takeClause_1 (by omega) (by omega) (by rw [c1]; rfl) (by decide) ?_
    refine lv_aload_n X.1 X.2.1 dX6_takeClause_28 rfl (lv_at hl 2 rfl) ?_
    refine n_ic X dX6_takeClause_29 (by decide) (by decide) (fun x2 t2 => ?_)
    refine pf_3_2 X hG h902 q_172 (by omega) dX6_takeClause_30 (hF _ _ _ _ h902 (ty_in (n := 302) rfl) (ty_rno rfl)) (fun H locs hG => ?_)
    refine lv_aload_n X.1 X.2.1 dX6_takeClause_33 rfl (lv_at hl 2 rfl) ?_
    refine gf_3_0 X hG h902 q_166 dX6_takeClause_34 (hN _ _ _ h902) (fun a3 h3 r3 => ?_)
    refine lv_aload_n X.1 X.2.1 dX6_takeClause_37 rfl (lv_at hl 0 rfl) ?_
    refine gf_6_1 X hG h900 q_35 dX6_takeClause_38 (hN _ _ _ h900) (fun a4 h4 r4 => ?_)
    refine n_ic X dX6_takeClause_41 (by decide) (by decide) (fun x5 t5 => ?_)
    refine tg_iald X hG h4 rfl (cI_in (n := 3) (by omega)) dX6_takeClause_42 (fun x6 r6 => ?_)
    refine pf_8_8 X hG h3 q_87 dX6_takeClause_43 (hF _ _ _ _ h3 (ty_in (n := 808) rfl) (ty_rno rfl)) (fun H locs hG => ?_)
    refine lv_aload_n X.1 X.2.1 dX6_takeClause_46 rfl (lv_at hl 2 rfl) ?_
    refine gf_3_0 X hG h902 q_166 dX6_takeClause_47 (hN _ _ _ h902) (fun a7 h7 r7 => ?_)
    refine lv_aload_n X.1 X.2.1 dX6_takeClause_50 rfl (lv_at hl 0 rfl) ?_
    refine gf_6_1 X hG h900 q_35 dX6_takeClause_51 (hN _ _ _ h900) (fun a8 h8 r8 => ?_)
    refine n_ic X dX6_takeClause_54 (by decide) (by decide) (fun x9 t9 => ?_)
    refine tg_iald X hG h8 rfl (cI_in (n := 3) (by omega)) dX6_takeClause_55 (fun x10 r10 => ?_)
    refine pf_8_9 X hG h7 q_90 dX6_takeClause_56 (hF _ _ _ _ h7 (ty_in (n := 809) rfl) (ty_rno rfl)) (fun H locs hG => ?_)
    refine lv_goto (tgt := 136) X.1 X.2.1 dX6_takeClause_59 (by decide) ?_
    exact ret _ _ _ _ _ hG rfl dX6_takeClause_136
  · refine lv_tableIn (tgt := 62) (off := 61) X.1 X.2.1 dX6_takeClause_1 (by omega) (by omega) (by rw [c1]; rfl) (by decide) ?_
    refine lv_aload_n X.1 X.2.1 dX6_takeClause_62 rfl (lv_at hl 2 rfl) ?_
    refine gf_3_0 X hG h902 q_166 dX6_takeClause_63 (hN _ _ _ h902) (fun a11 h11 r11 => ?_)
    refine lv_aload_n X.1 X.2.1 dX6_takeClause_66 rfl (lv_at hl 0 rfl) ?_
    refine gf_6_1 X hG h900 q_35 dX6_takeClause_67 (hN _ _ _ h900) (fun a12 h12 r12 => ?_)
    refine n_ic X dX6_takeClause_70 (by decide) (by decide) (fun x13 t13 => ?_)
    refine tg_iald X hG h12 rfl (cI_in (n := 3) (by omega)) dX6_takeClause_71 (fun x14 r14 => ?_)
    refine lv_aload_n X.1 X.2.1 dX6_takeClause_72 rfl (lv_at hl 0 rfl) ?_
    refine gf_6_1 X hG h900 q_35 dX6_takeClause_73 (hN _ _ _ h900) (fun a15 h15 r15 => ?_)
    refine n_ic X dX6_takeClause_76 (by decide) (by decide) (fun x16 t16 => ?_)
    refine tg_iald X hG h15 rfl (cI_in (n := 3) (by omega)) dX6_takeClause_77 (fun x17 r17 => ?_)
    refine k_cVv X hG (c_X8_addPiece l D cy τ _ hN hR (ty_Wf.sub (S' := [806, 807, 5000, 6005]) hF (by decide)) h11 x14 x17) h11 rfl yv_X8_addPiece q_492 ⟨rfl, rfl⟩ ⟨Nat.le_of_ble_eq_true rfl, Nat.le_of_ble_eq_true rfl⟩ rfl hl.1 rfl (Nat.le_of_ble_eq_true rfl) ⟨Nat.zero_le _, Nat.zero_le _⟩ dX6_takeClause_78 (fun u20 H locs hG po18 => ?_)
    rw [po18] at hG
    refine lv_goto (tgt := 136) X.1 X.2.1 dX6_takeClause_81 (by decide) ?_
    exact ret _ _ _ _ _ hG rfl dX6_takeClause_136
  · refine lv_tableIn (tgt := 84) (off := 83) X.1 X.2.1 dX6_takeClause_1 (by omega) (by omega) (by rw [c1]; rfl) (by decide) ?_
    refine lv_aload_n X.1 X.2.1 dX6_takeClause_84 rfl (lv_at hl 0 rfl) ?_
    refine n_ic X dX6_takeClause_85 (by decide) (by decide) (fun x21 t21 => ?_)
    refine pf_6_4 X hG h900 q_40 (by omega) dX6_takeClause_86 (hF _ _ _ _ h900 (ty_in (n := 604) rfl) (ty_rno rfl)) (fun H locs hG => ?_)
    refine lv_aload_n X.1 X.2.1 dX6_takeClause_89 rfl (lv_at hl 2 rfl) ?_
    refine gf_3_0 X hG h902 q_166 dX6_takeClause_90 (hN _ _ _ h902) (fun a22 h22 r22 => ?_)
    refine lv_aload_n X.1 X.2.1 dX6_takeClause_93 rfl (lv_at hl 0 rfl) ?_
    refine gf_6_1 X hG h900 q_35 dX6_takeClause_94 (hN _ _ _ h900) (fun a23 h23 r23 => ?_)
    refine n_ic X dX6_takeClause_97 (by decide) (by decide) (fun x24 t24 => ?_)
    refine tg_iald X hG h23 rfl (cI_in (n := 3) (by omega)) dX6_takeClause_98 (fun x25 r25 => ?_)
    refine lv_aload_n X.1 X.2.1 dX6_takeClause_99 rfl (lv_at hl 0 rfl) ?_
    refine gf_6_1 X hG h900 q_35 dX6_takeClause_100 (hN _ _ _ h900) (fun a26 h26 r26 => ?_)
    refine n_ic X dX6_takeClause_103 (by decide) (by decide) (fun x27 t27 => ?_)
    refine tg_iald X hG h26 rfl (cI_in (n := 3) (by omega)) dX6_takeClause_104 (fun x28 r28 => ?_)
    refine k_cVv X hG (c_X8_changeEnd l D cy τ _ hN hR (ty_Wf.sub (S' := [810, 811]) hF (by decide)) h22 x25 x28) h22 rfl yv_X8_changeEnd q_508 ⟨rfl, rfl⟩ ⟨Nat.le_of_ble_eq_true rfl, Nat.le_of_ble_eq_true rfl⟩ rfl hl.1 rfl (Nat.le_of_ble_eq_true rfl) ⟨Nat.zero_le _, Nat.zero_le _⟩ dX6_takeClause_105 (fun u31 H locs hG po29 => ?_)
    rw [po29] at hG
    refine lv_goto (tgt := 136) X.1 X.2.1 dX6_takeClause_108 (by decide) ?_
    exact ret _ _ _ _ _ hG rfl dX6_takeClause_136
  · refine lv_tableOut (tgt := 111) X.1 X.2.1 dX6_takeClause_1 c1 (by decide) ?_
    refine lv_aload_n X.1 X.2.1 dX6_takeClause_111 rfl (lv_at hl 2 rfl) ?_
    refine gf_3_1 X hG h902 q_169 dX6_takeClause_112 (hN _ _ _ h902) (fun a32 h32 r32 => ?_)
    refine lv_aload_n X.1 X.2.1 dX6_takeClause_115 rfl (lv_at hl 0 rfl) ?_
    refine gf_6_1 X hG h900 q_35 dX6_takeClause_116 (hN _ _ _ h900) (fun a33 h33 r33 => ?_)
    refine n_ic X dX6_takeClause_119 (by decide) (by decide) (fun x34 t34 => ?_)
    refine tg_iald X hG h33 rfl (cI_in (n := 3) (by omega)) dX6_takeClause_120 (fun x35 r35 => ?_)
    refine lv_aload_n X.1 X.2.1 dX6_takeClause_121 rfl (lv_at hl 0 rfl) ?_
    refine gf_6_1 X hG h900 q_35 dX6_takeClause_122 (hN _ _ _ h900) (fun a36 h36 r36 => ?_)
    refine n_ic X dX6_takeClause_125 (by decide) (by decide) (fun x37 t37 => ?_)
    refine tg_iald X hG h36 rfl (cI_in (n := 3) (by omega)) dX6_takeClause_126 (fun x38 r38 => ?_)
    refine lv_aload_n X.1 X.2.1 dX6_takeClause_127 rfl (lv_at hl 0 rfl) ?_
    refine gf_6_1 X hG h900 q_35 dX6_takeClause_128 (hN _ _ _ h900) (fun a39 h39 r39 => ?_)
    refine n_ic X dX6_takeClause_131 (by decide) (by decide) (fun x40 t40 => ?_)
    refine tg_iald X hG h39 rfl (cI_in (n := 3) (by omega)) dX6_takeClause_132 (fun x41 r41 => ?_)
    refine k_cVv X hG (c_X1_add l D cy τ _ hN hR (ty_Wf.sub (S' := [106, 5000]) hF (by decide)) h32 x35 x38 x41) h32 rfl yv_X1_add q_512 ⟨rfl, rfl⟩ ⟨Nat.le_of_ble_eq_true rfl, Nat.le_of_ble_eq_true rfl⟩ rfl hl.1 rfl (Nat.le_of_ble_eq_true rfl) ⟨Nat.zero_le _, Nat.zero_le _⟩ dX6_takeClause_133 (fun u44 H locs hG po42 => ?_)
    rw [po42] at hG
    exact ret _ _ _ _ _ hG rfl dX6_takeClause_136
set_option maxHeartbeats 4000000 in
set_option maxRecDepth 100000 in
theorem c_X6_readClause (l : Launch) (D : va_G) (cy : Nat → ClassId) (τ : ty_T) (ρ : ty_R) (z : EVt) {M : md_T} (hN : ty_N τ ρ) (hR : ty_Rg M τ ρ) (hF : ty_Wf M τ ρ [106, 302, 603, 604, 806, 807, 808, 809, 810, 811, 5000, 6005, 6009]) {a900 : Nat} (h900 : τ a900 = some (0, 6)) {a901 : Nat} (h901 : τ a901 = some (0, 3)) : KIE l D cy yX6_readClause cX6_readClause 5 .int (rL 8) τ ρ z [.ref a900, .ref a901] (fun r u => u = ρ ∧ True) := by
  refine k_metIE "EdgeEchoes$Text" rfl (by decide +kernel) (Nat.le_of_ble_eq_true rfl) (fun _ _ _ => rfl) ?_
  intro p e s m args below meth c Q ls X hG hEv hl ret
  obtain ⟨vO, vC, vV, vT, vR, vZ, z1, v1, z2, v2, z3, v3⟩ := id hEv
  have hl : lv_has ls 5 [(0, .ref a900), (1, .ref a901)] := hl
  refine lv_aload_n X.1 X.2.1 dX6_readClause_0 rfl (lv_at hl 0 rfl) ?_
  refine k_cVE X hG (EV.at hEv hG) (c_X6_wordHere l D cy τ _ z hN hR (ty_Wf.sub (S' := []) hF (by decide)) h900) h900 rfl yv_X6_wordHere q_377 ⟨rfl, rfl⟩ ⟨Nat.le_of_ble_eq_true rfl, Nat.le_of_ble_eq_true rfl⟩ rfl hl.1 rfl (Nat.le_of_ble_eq_true rfl) ⟨Nat.zero_le _, Nat.zero_le _⟩ dX6_readClause_1 (fun x2 u3 H locs hG po1 => ?_)
  obtain ⟨eu3, po1⟩ := po1
  rw [eu3] at hG
  refine lv_istore_n (lv' := [(2, .int x2), (0, .ref a900), (1, .ref a901)]) X.1 X.2.1 dX6_readClause_4 rfl hl (by decide) rfl (fun ls hl => ?_)
  refine lv_iload_n X.1 X.2.1 dX6_readClause_5 rfl (lv_at hl 0 rfl) ?_
  refine n_if_lt (tgt := 28) X dX6_readClause_6 (by decide) (fun c4 => ?_) (fun c4 => ?_)
  · refine n_ic X dX6_readClause_28 (by decide) (by decide) (fun x5 t5 => ?_)
    exact ret _ _ _ _ x5 _ hG ⟨rfl, trivial⟩ dX6_readClause_29
  · refine lv_iload_n X.1 X.2.1 dX6_readClause_9 rfl (lv_at hl 0 rfl) ?_
    refine va_gets X.1 X.2.1 z1 hG.2.1 X.2.2.2.1 (X.2.2.2.2.1 _ q_468) (fun _ h => h) dX6_readClause_10 ?_
    refine va_tlen X.1 X.2.1 v1 hG.2.1 rfl dX6_readClause_13 ?_
    refine lv_topi (fun x6 e6 => ?_)
    have t6 : x6.toInt = 4 := by rw [e6]; decide +kernel
    refine n_icmp_ge (tgt := 28) X dX6_readClause_14 (by decide) (fun c7 => ?_) (fun c7 => ?_)
    · exact absurd c7 (by omega)
    · refine lv_aload_n X.1 X.2.1 dX6_readClause_17 rfl (lv_at hl 2 rfl) ?_
      refine gf_3_2 X hG h901 q_172 dX6_readClause_18 (fun x8 b8 r8 => ?_)
      have J30 : ∀ (H : Heap) (locs : List Loc) (ls : Array Slot), TG D cy τ ρ (ty_d τ) s.heap H locs → lv_has ls 5 [(0, .ref a900), (1, .ref a901), (2, .int x2)] → W p l e (rL 8) s m args below meth c H locs 0 0 Q (F0 m 30 ls []) := by
        intro H locs ls hG hl
        refine lv_aload_n X.1 X.2.1 dX6_readClause_30 rfl (lv_at hl 0 rfl) ?_
        refine lv_iload_n X.1 X.2.1 dX6_readClause_31 rfl (lv_at hl 2 rfl) ?_
        refine lv_aload_n X.1 X.2.1 dX6_readClause_32 rfl (lv_at hl 1 rfl) ?_
        refine k_cVi X hG (c_X6_isTooMany l D cy τ _ hN hR (ty_Wf.sub (S' := []) hF (by decide)) h900 x2 h901) h900 rfl yv_X6_isTooMany q_470 ⟨rfl, rfl⟩ ⟨Nat.le_of_ble_eq_true rfl, Nat.le_of_ble_eq_true rfl⟩ rfl hl.1 rfl (Nat.le_of_ble_eq_true rfl) ⟨Nat.zero_le _, Nat.zero_le _⟩ dX6_readClause_33 (fun x10 u11 H locs hG po9 => ?_)
        obtain ⟨eu11, po9⟩ := po9
        rw [eu11] at hG
        refine n_if_eq (tgt := 41) X dX6_readClause_36 (by decide) (fun c12 => ?_) (fun c12 => ?_)
        · refine lv_aload_n X.1 X.2.1 dX6_readClause_41 rfl (lv_at hl 0 rfl) ?_
          refine lv_dup X.1 X.2.1 dX6_readClause_42 rfl ?_
          refine gf_6_3 X hG h900 q_38 dX6_readClause_43 (fun x13 r13 => ?_)
          have g13 := cI_rng x13
          refine n_ic X dX6_readClause_46 (by decide) (by decide) (fun x14 t14 => ?_)
          refine lv_iadd X.1 X.2.1 dX6_readClause_47 ?_
          refine n_any (fun x15 => ?_)
          refine pf_6_3 X hG h900 q_38 dX6_readClause_48 (hF _ _ _ _ h900 (ty_in (n := 603) rfl) (ty_rno rfl)) (fun H locs hG => ?_)
          refine n_ic X dX6_readClause_51 (by decide) (by decide) (fun x16 t16 => ?_)
          refine lv_istore_n (lv' := [(3, .int x16), (0, .ref a900), (1, .ref a901), (2, .int x2)]) X.1 X.2.1 dX6_readClause_52 rfl hl (by decide) rfl (fun ls hl => ?_)
          have J53 : ∀ (n : Nat) (H : Heap) (locs : List Loc) (ls : Array Slot) (x17 : Int32), (0 ≤ x17.toInt ∧ x17.toInt ≤ 3) → (3 - x17.toInt).toNat < n → TG D cy τ ρ (ty_d τ) s.heap H locs → lv_has ls 5 [(0, .ref a900), (1, .ref a901), (2, .int x2), (3, .int x17)] → W p l e (rL 8) s m args below meth c H locs 0 0 Q (F0 m 53 ls []) := by
            intro n
            induction n with
            | zero => intro H locs ls x17 bx17 hm53 hG hl; exact absurd hm53 (Nat.not_lt_zero _)
            | succ n ih53 =>
              intro H locs ls x17 bx17 hm53 hG hl
              refine lv_iload_n X.1 X.2.1 dX6_readClause_53 rfl (lv_at hl 3 rfl) ?_
              refine va_gets X.1 X.2.1 z1 hG.2.1 X.2.2.2.1 (X.2.2.2.2.1 _ q_468) (fun _ h => h) dX6_readClause_54 ?_
              refine lv_iload_n X.1 X.2.1 dX6_readClause_57 rfl (lv_at hl 2 rfl) ?_
              refine va_ti X.1 X.2.1 v1 hG.2.1 (cI_in (n := 4) (by omega)) rfl dX6_readClause_58 ?_
              refine n_any (fun x18 => ?_)
              have J89 : ∀ (H : Heap) (locs : List Loc) (ls : Array Slot), TG D cy τ ρ (ty_d τ) s.heap H locs → lv_has ls 5 [(0, .ref a900), (1, .ref a901), (2, .int x2), (3, .int x17)] → W p l e (rL 8) s m args below meth c H locs 0 0 Q (F0 m 89 ls []) := by
                intro H locs ls hG hl
                refine lv_aload_n X.1 X.2.1 dX6_readClause_89 rfl (lv_at hl 0 rfl) ?_
                refine k_cVv X hG (c_X6_skipBlanks l D cy τ _ hN hR (ty_Wf.sub (S' := [603]) hF (by decide)) h900) h900 rfl yv_X6_skipBlanks q_365 ⟨rfl, rfl⟩ ⟨Nat.le_of_ble_eq_true rfl, Nat.le_of_ble_eq_true rfl⟩ rfl hl.1 rfl (Nat.le_of_ble_eq_true rfl) ⟨Nat.zero_le _, Nat.zero_le _⟩ dX6_readClause_90 (fun u21 H locs hG po19 => ?_)
                rw [po19] at hG
                refine lv_aload_n X.1 X.2.1 dX6_readClause_93 rfl (lv_at hl 0 rfl) ?_
                refine k_cVi X hG (c_X6_letterHere l D cy τ _ hN hR (ty_Wf.sub (S' := []) hF (by decide)) h900) h900 rfl yv_X6_letterHere q_369 ⟨rfl, rfl⟩ ⟨Nat.le_of_ble_eq_true rfl, Nat.le_of_ble_eq_true rfl⟩ rfl hl.1 rfl (Nat.le_of_ble_eq_true rfl) ⟨Nat.zero_le _, Nat.zero_le _⟩ dX6_readClause_94 (fun x23 u24 H locs hG po22 => ?_)
                obtain ⟨eu24, po22⟩ := po22
                rw [eu24] at hG
                have g23 := cI_rng x23
                refine n_bp X dX6_readClause_97 (by decide) (by decide) (fun x25 t25 => ?_)
                refine n_icmp_eq (tgt := 104) X dX6_readClause_99 (by decide) (fun c26 => ?_) (fun c26 => ?_)
                · refine lv_aload_n X.1 X.2.1 dX6_readClause_104 rfl (lv_at hl 0 rfl) ?_
                  refine lv_dup X.1 X.2.1 dX6_readClause_105 rfl ?_
                  refine gf_6_3 X hG h900 q_38 dX6_readClause_106 (fun x27 r27 => ?_)
                  have g27 := cI_rng x27
                  refine n_ic X dX6_readClause_109 (by decide) (by decide) (fun x28 t28 => ?_)
                  refine lv_iadd X.1 X.2.1 dX6_readClause_110 ?_
                  refine n_any (fun x29 => ?_)
                  refine pf_6_3 X hG h900 q_38 dX6_readClause_111 (hF _ _ _ _ h900 (ty_in (n := 603) rfl) (ty_rno rfl)) (fun H locs hG => ?_)
                  refine lv_aload_n X.1 X.2.1 dX6_readClause_114 rfl (lv_at hl 0 rfl) ?_
                  refine lv_iload_n X.1 X.2.1 dX6_readClause_115 rfl (lv_at hl 2 rfl) ?_
                  refine lv_aload_n X.1 X.2.1 dX6_readClause_116 rfl (lv_at hl 1 rfl) ?_
                  refine k_cVv X hG (c_X6_takeClause l D cy τ _ hN hR (ty_Wf.sub (S' := [106, 302, 604, 806, 807, 808, 809, 810, 811, 5000, 6005]) hF (by decide)) h900 x2 h901) h900 rfl yv_X6_takeClause q_488 ⟨rfl, rfl⟩ ⟨Nat.le_of_ble_eq_true rfl, Nat.le_of_ble_eq_true rfl⟩ rfl hl.1 rfl (Nat.le_of_ble_eq_true rfl) ⟨Nat.zero_le _, Nat.zero_le _⟩ dX6_readClause_117 (fun u32 H locs hG po30 => ?_)
                  rw [po30] at hG
                  refine n_ic X dX6_readClause_120 (by decide) (by decide) (fun x33 t33 => ?_)
                  exact ret _ _ _ _ x33 _ hG ⟨rfl, trivial⟩ dX6_readClause_121
                · refine n_ic X dX6_readClause_102 (by decide) (by decide) (fun x34 t34 => ?_)
                  exact ret _ _ _ _ x34 _ hG ⟨rfl, trivial⟩ dX6_readClause_103
              refine n_icmp_ge (tgt := 89) X dX6_readClause_59 (by decide) (fun c35 => ?_) (fun c35 => ?_)
              · exact J89 _ _ _  hG (lv_sub hl [0, 1, 2, 3] rfl)
              · refine lv_iload_n X.1 X.2.1 dX6_readClause_62 rfl (lv_at hl 3 rfl) ?_
                refine n_ic X dX6_readClause_63 (by decide) (by decide) (fun x36 t36 => ?_)
                refine n_icmp_ge (tgt := 89) X dX6_readClause_64 (by decide) (fun c37 => ?_) (fun c37 => ?_)
                · exact J89 _ _ _  hG (lv_sub hl [0, 1, 2, 3] rfl)
                · refine lv_aload_n X.1 X.2.1 dX6_readClause_67 rfl (lv_at hl 0 rfl) ?_
                  refine lv_iload_n X.1 X.2.1 dX6_readClause_68 rfl (lv_at hl 2 rfl) ?_
                  refine lv_iload_n X.1 X.2.1 dX6_readClause_69 rfl (lv_at hl 3 rfl) ?_
                  refine k_cVE X hG (EV.at hEv hG) (c_X6_readNumber l D cy τ _ z hN hR (ty_Wf.sub (S' := [603, 6009]) hF (by decide)) h900 x2 (by omega) x17 (by omega)) h900 rfl yv_X6_readNumber q_474 ⟨rfl, rfl⟩ ⟨Nat.le_of_ble_eq_true rfl, Nat.le_of_ble_eq_true rfl⟩ rfl hl.1 rfl (Nat.le_of_ble_eq_true rfl) ⟨Nat.zero_le _, Nat.zero_le _⟩ dX6_readClause_70 (fun x39 u40 H locs hG po38 => ?_)
                  obtain ⟨eu40, po38⟩ := po38
                  rw [eu40] at hG
                  have g39 := cI_rng x39
                  refine lv_istore (lv' := [(4, .int x39), (0, .ref a900), (1, .ref a901), (2, .int x2), (3, .int x17)]) X.1 X.2.1 dX6_readClause_73 hl (by decide) rfl (fun ls hl => ?_)
                  refine lv_iload X.1 X.2.1 dX6_readClause_75 (lv_at hl 0 rfl) ?_
                  refine n_if_eq (tgt := 83) X dX6_readClause_77 (by decide) (fun c41 => ?_) (fun c41 => ?_)
                  · refine n_inc X (fun z43 => [(3, .int z43), (4, .int x39), (0, .ref a900), (1, .ref a901), (2, .int x2)]) dX6_readClause_83 hl (k := 4) rfl (by decide) (by decide) (by omega) (by omega) (by decide) (fun _ => rfl) (fun x42 ls t42 hl => ?_)
                    have hl : lv_has ls 5 [(3, .int x42), (4, .int x39), (0, .ref a900), (1, .ref a901), (2, .int x2)] := hl
                    refine lv_goto (tgt := 53) X.1 X.2.1 dX6_readClause_86 (by decide) ?_
                    exact ih53 _ _ _ x42 (by omega) (by omega) hG (lv_sub hl [2, 3, 4, 0] rfl)
                  · refine lv_iload X.1 X.2.1 dX6_readClause_80 (lv_at hl 0 rfl) ?_
                    exact ret _ _ _ _ x39 _ hG ⟨rfl, trivial⟩ dX6_readClause_82
          exact J53 _ _ _ _ x16 (by omega) (Nat.lt_succ_self _) hG (lv_sub hl [1, 2, 3, 0] rfl)
        · refine n_ic X dX6_readClause_39 (by decide) (by decide) (fun x44 t44 => ?_)
          exact ret _ _ _ _ x44 _ hG ⟨rfl, trivial⟩ dX6_readClause_40
      refine n_if_ne (tgt := 30) X dX6_readClause_21 (by decide) (fun c45 => ?_) (fun c45 => ?_)
      · exact J30 _ _ _  hG (lv_sub hl [1, 2, 0] rfl)
      · refine lv_iload_n X.1 X.2.1 dX6_readClause_24 rfl (lv_at hl 0 rfl) ?_
        refine n_if_eq (tgt := 30) X dX6_readClause_25 (by decide) (fun c46 => ?_) (fun c46 => ?_)
        · exact J30 _ _ _  hG (lv_sub hl [1, 2, 0] rfl)
        · refine n_ic X dX6_readClause_28 (by decide) (by decide) (fun x47 t47 => ?_)
          exact ret _ _ _ _ x47 _ hG ⟨rfl, trivial⟩ dX6_readClause_29
set_option maxHeartbeats 4000000 in
set_option maxRecDepth 100000 in
theorem c_X6_readInto (l : Launch) (D : va_G) (cy : Nat → ClassId) (τ : ty_T) (ρ : ty_R) (z : EVt) {M : md_T} (hN : ty_N τ ρ) (hR : ty_Rg M τ ρ) (hF : ty_Wf M τ ρ [106, 302, 303, 603, 604, 806, 807, 808, 809, 810, 811, 812, 5000, 6005, 6009]) {a900 : Nat} (h900 : τ a900 = some (0, 6)) {a901 : Nat} (h901 : τ a901 = some (0, 3)) : KIE l D cy yX6_readInto cX6_readInto 4 .int (rL 9) τ ρ z [.ref a900, .ref a901] (fun r u => u = ρ ∧ True) := by
  refine k_metIE "EdgeEchoes$Text" rfl (by decide +kernel) (Nat.le_of_ble_eq_true rfl) (fun _ _ _ => rfl) ?_
  intro p e s m args below meth c Q ls X hG hEv hl ret
  obtain ⟨vO, vC, vV, vT, vR, vZ, z1, v1, z2, v2, z3, v3⟩ := id hEv
  have hl : lv_has ls 4 [(0, .ref a900), (1, .ref a901)] := hl
  refine lv_aload_n X.1 X.2.1 dX6_readInto_0 rfl (lv_at hl 1 rfl) ?_
  refine k_cVv X hG (c_X3_clear l D cy τ _ hN hR (ty_Wf.sub (S' := [106, 302, 303, 806, 807, 808, 809, 810, 811, 812, 5000, 6005]) hF (by decide)) h901) h901 rfl yv_X3_clear q_341 ⟨rfl, rfl⟩ ⟨Nat.le_of_ble_eq_true rfl, Nat.le_of_ble_eq_true rfl⟩ rfl hl.1 rfl (Nat.le_of_ble_eq_true rfl) ⟨Nat.zero_le _, Nat.zero_le _⟩ dX6_readInto_1 (fun u3 H locs hG po1 => ?_)
  rw [po1] at hG
  refine lv_aload_n X.1 X.2.1 dX6_readInto_4 rfl (lv_at hl 0 rfl) ?_
  refine n_ic X dX6_readInto_5 (by decide) (by decide) (fun x4 t4 => ?_)
  refine pf_6_3 X hG h900 q_38 dX6_readInto_6 (hF _ _ _ _ h900 (ty_in (n := 603) rfl) (ty_rno rfl)) (fun H locs hG => ?_)
  refine lv_aload_n X.1 X.2.1 dX6_readInto_9 rfl (lv_at hl 0 rfl) ?_
  refine n_ic X dX6_readInto_10 (by decide) (by decide) (fun x5 t5 => ?_)
  refine pf_6_4 X hG h900 q_40 (by omega) dX6_readInto_11 (hF _ _ _ _ h900 (ty_in (n := 604) rfl) (ty_rno rfl)) (fun H locs hG => ?_)
  refine lv_aload_n X.1 X.2.1 dX6_readInto_14 rfl (lv_at hl 0 rfl) ?_
  refine k_cVv X hG (c_X6_skipBlanks l D cy τ _ hN hR (ty_Wf.sub (S' := [603]) hF (by decide)) h900) h900 rfl yv_X6_skipBlanks q_365 ⟨rfl, rfl⟩ ⟨Nat.le_of_ble_eq_true rfl, Nat.le_of_ble_eq_true rfl⟩ rfl hl.1 rfl (Nat.le_of_ble_eq_true rfl) ⟨Nat.zero_le _, Nat.zero_le _⟩ dX6_readInto_15 (fun u8 H locs hG po6 => ?_)
  rw [po6] at hG
  refine n_ic X dX6_readInto_18 (by decide) (by decide) (fun x9 t9 => ?_)
  refine lv_istore_n (lv' := [(2, .int x9), (0, .ref a900), (1, .ref a901)]) X.1 X.2.1 dX6_readInto_19 rfl hl (by decide) rfl (fun ls hl => ?_)
  have J20 : ∀ (n : Nat) (H : Heap) (locs : List Loc) (ls : Array Slot) (x10 : Int32), (0 ≤ x10.toInt ∧ x10.toInt ≤ 240) → (240 - x10.toInt).toNat < n → TG D cy τ ρ (ty_d τ) s.heap H locs → lv_has ls 4 [(0, .ref a900), (1, .ref a901), (2, .int x10)] → W p l e (rL 9) s m args below meth c H locs 0 0 Q (F0 m 20 ls []) := by
    intro n
    induction n with
    | zero => intro H locs ls x10 bx10 hm20 hG hl; exact absurd hm20 (Nat.not_lt_zero _)
    | succ n ih20 =>
      intro H locs ls x10 bx10 hm20 hG hl
      refine lv_iload_n X.1 X.2.1 dX6_readInto_20 rfl (lv_at hl 2 rfl) ?_
      refine n_sp X dX6_readInto_21 (by decide) (by decide) (fun x11 t11 => ?_)
      refine n_icmp_ge (tgt := 60) X dX6_readInto_24 (by decide) (fun c12 => ?_) (fun c12 => ?_)
      · refine n_ic X dX6_readInto_60 (by decide) (by decide) (fun x13 t13 => ?_)
        exact ret _ _ _ _ x13 _ hG ⟨rfl, trivial⟩ dX6_readInto_61
      · refine lv_aload_n X.1 X.2.1 dX6_readInto_27 rfl (lv_at hl 0 rfl) ?_
        refine gf_6_3 X hG h900 q_38 dX6_readInto_28 (fun x14 r14 => ?_)
        have g14 := cI_rng x14
        refine lv_aload_n X.1 X.2.1 dX6_readInto_31 rfl (lv_at hl 0 rfl) ?_
        refine gf_6_2 X hG h900 q_36 dX6_readInto_32 (fun x15 r15 => ?_)
        have g15 := cI_rng x15
        refine n_icmp_ge (tgt := 60) X dX6_readInto_35 (by decide) (fun c16 => ?_) (fun c16 => ?_)
        · refine n_ic X dX6_readInto_60 (by decide) (by decide) (fun x17 t17 => ?_)
          exact ret _ _ _ _ x17 _ hG ⟨rfl, trivial⟩ dX6_readInto_61
        · refine lv_aload_n X.1 X.2.1 dX6_readInto_38 rfl (lv_at hl 0 rfl) ?_
          refine lv_aload_n X.1 X.2.1 dX6_readInto_39 rfl (lv_at hl 1 rfl) ?_
          refine k_cVE X hG (EV.at hEv hG) (c_X6_readClause l D cy τ _ z hN hR (ty_Wf.sub (S' := [106, 302, 603, 604, 806, 807, 808, 809, 810, 811, 5000, 6005, 6009]) hF (by decide)) h900 h901) h900 rfl yv_X6_readClause q_373 ⟨rfl, rfl⟩ ⟨Nat.le_of_ble_eq_true rfl, Nat.le_of_ble_eq_true rfl⟩ rfl hl.1 rfl (Nat.le_of_ble_eq_true rfl) ⟨Nat.zero_le _, Nat.zero_le _⟩ dX6_readInto_40 (fun x19 u20 H locs hG po18 => ?_)
          obtain ⟨eu20, po18⟩ := po18
          rw [eu20] at hG
          have g19 := cI_rng x19
          refine lv_istore_n (lv' := [(3, .int x19), (0, .ref a900), (1, .ref a901), (2, .int x10)]) X.1 X.2.1 dX6_readInto_43 rfl hl (by decide) rfl (fun ls hl => ?_)
          refine lv_iload_n X.1 X.2.1 dX6_readInto_44 rfl (lv_at hl 0 rfl) ?_
          refine n_if_eq (tgt := 50) X dX6_readInto_45 (by decide) (fun c21 => ?_) (fun c21 => ?_)
          · refine lv_aload_n X.1 X.2.1 dX6_readInto_50 rfl (lv_at hl 1 rfl) ?_
            refine k_cVv X hG (c_X6_skipBlanks l D cy τ _ hN hR (ty_Wf.sub (S' := [603]) hF (by decide)) h900) h900 rfl yv_X6_skipBlanks q_365 ⟨rfl, rfl⟩ ⟨Nat.le_of_ble_eq_true rfl, Nat.le_of_ble_eq_true rfl⟩ rfl hl.1 rfl (Nat.le_of_ble_eq_true rfl) ⟨Nat.zero_le _, Nat.zero_le _⟩ dX6_readInto_51 (fun u24 H locs hG po22 => ?_)
            rw [po22] at hG
            refine n_inc X (fun z26 => [(2, .int z26), (3, .int x19), (0, .ref a900), (1, .ref a901)]) dX6_readInto_54 hl (k := 3) rfl (by decide) (by decide) (by omega) (by omega) (by decide) (fun _ => rfl) (fun x25 ls t25 hl => ?_)
            have hl : lv_has ls 4 [(2, .int x25), (3, .int x19), (0, .ref a900), (1, .ref a901)] := hl
            refine lv_goto (tgt := 20) X.1 X.2.1 dX6_readInto_57 (by decide) ?_
            exact ih20 _ _ _ x25 (by omega) (by omega) hG (lv_sub hl [2, 3, 0] rfl)
          · refine lv_iload_n X.1 X.2.1 dX6_readInto_48 rfl (lv_at hl 0 rfl) ?_
            exact ret _ _ _ _ x19 _ hG ⟨rfl, trivial⟩ dX6_readInto_49
  exact J20 _ _ _ _ x9 (by omega) (Nat.lt_succ_self _) hG (lv_sub hl [1, 2, 0] rfl)
