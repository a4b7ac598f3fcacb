/-! the class's reading to the letter: the JDK's indexOf, figures, bounds -/
def dix (x : Int32) : Int := if wd x = 4 then -1 else (wd x : Int)
theorem cI_i2b {x : Int32} (h : 0 ≤ x.toInt ∧ x.toInt ≤ 255) : (x.toInt8.toInt32).toInt = if x.toInt < 128 then x.toInt else x.toInt - 256 := by
  rw [Int8.toInt_toInt32, Int32.toInt_toInt8, Int.bmod_def]
  split <;> split <;> omega
theorem cI_i2c {x : Int32} (h : 0 ≤ x.toInt ∧ x.toInt ≤ 255) : ((x.toUInt32 % 65536).toInt32).toInt = x.toInt := by
  obtain ⟨j, hj, rfl⟩ : ∃ j : Nat, j < 256 ∧ x = nI j := ⟨x.toInt.toNat, by omega, cI_inj (by rw [cI_nI (by omega)]; omega)⟩
  have all : ∀ j : Fin 256, (((nI j.val).toUInt32 % 65536).toInt32) = nI j.val := by decide +kernel
  rw [all ⟨j, hj⟩]
theorem dix_no {x : Int32} (h : x.toInt ≠ 100 ∧ x.toInt ≠ 112 ∧ x.toInt ≠ 101 ∧ x.toInt ≠ 103) : dix x = -1 := by
  unfold dix wd
  rw [if_neg h.1, if_neg h.2.1, if_neg h.2.2.1, if_neg h.2.2.2]
  rfl
theorem wd_0 {x : Int32} (h : x.toInt = 100) : wd x = 0 := if_pos h
theorem wd_1 {x : Int32} (h : x.toInt = 112) : wd x = 1 := by unfold wd; rw [if_neg (show ¬ x.toInt = 100 by omega), if_pos h]
theorem wd_2 {x : Int32} (h : x.toInt = 101) : wd x = 2 := by unfold wd; rw [if_neg (show ¬ x.toInt = 100 by omega), if_neg (show ¬ x.toInt = 112 by omega), if_pos h]
theorem wd_3 {x : Int32} (h : x.toInt = 103) : wd x = 3 := by unfold wd; rw [if_neg (show ¬ x.toInt = 100 by omega), if_neg (show ¬ x.toInt = 112 by omega), if_neg (show ¬ x.toInt = 101 by omega), if_pos h]
theorem wd_le {x : Int32} : wd x ≤ 4 := by unfold wd; split <;> first | decide | (split <;> first | decide | (split <;> first | decide | (split <;> decide)))
theorem dix_0 {x : Int32} (h : x.toInt = 100) : dix x = 0 := by unfold dix; rw [wd_0 h]; rfl
theorem dix_1 {x : Int32} (h : x.toInt = 112) : dix x = 1 := by unfold dix; rw [wd_1 h]; rfl
theorem dix_2 {x : Int32} (h : x.toInt = 101) : dix x = 2 := by unfold dix; rw [wd_2 h]; rfl
theorem dix_3 {x : Int32} (h : x.toInt = 103) : dix x = 3 := by unfold dix; rw [wd_3 h]; rfl
theorem evB_t : (evB 0).toInt = 100 ∧ (evB 1).toInt = 112 ∧ (evB 2).toInt = 101 ∧ (evB 3).toInt = 103 := by decide +kernel
set_option maxHeartbeats 4000000 in
set_option maxRecDepth 100000 in
theorem e_J1_canEncode_9a6ad (l : Launch) (D : va_G) (cy : Nat → ClassId) (τ : ty_T) (ρ : ty_R) {M : md_T} (hN : ty_N τ ρ) (hR : ty_Rg M τ ρ) (hF : ty_Wf M τ ρ []) (x900 : Int32) : KI l D cy yJ1_canEncode_9a6ad cJ1_canEncode_9a6ad 1 .boolean (rL 0) τ ρ [.int x900] (fun r u => u = ρ ∧ (r.toInt = 0 ∨ r.toInt = 1) ∧ (0 ≤ x900.toInt ∧ x900.toInt ≤ 255 → r.toInt = 1)) := by
  refine k_metI "java/lang/StringLatin1" rfl (by decide +kernel) (Nat.le_of_ble_eq_true rfl) (fun r u h => (cI_nar (cI_01 h.2.1)).1) ?_
  intro p e s m args below meth c Q ls X hG hl ret
  have hl : lv_has ls 1 [(0, .int x900)] := hl
  have g900 := cI_rng x900
  refine lv_iload_n X.1 X.2.1 dJ1_canEncode_9a6ad_0 rfl (lv_at hl 0 rfl) ?_
  refine n_if_lt (tgt := 15) X dJ1_canEncode_9a6ad_1 (by decide) (fun c1 => ?_) (fun c1 => ?_)
  · refine n_ic X dJ1_canEncode_9a6ad_15 (by decide) (by decide) (fun x2 t2 => ?_)
    exact ret _ _ _ _ x2 _ hG ⟨rfl, by omega, fun h => by omega⟩ dJ1_canEncode_9a6ad_16
  · refine lv_iload_n X.1 X.2.1 dJ1_canEncode_9a6ad_4 rfl (lv_at hl 0 rfl) ?_
    refine n_sp X dJ1_canEncode_9a6ad_5 (by decide) (by decide) (fun x3 t3 => ?_)
    refine n_icmp_gt (tgt := 15) X dJ1_canEncode_9a6ad_8 (by decide) (fun c4 => ?_) (fun c4 => ?_)
    · refine n_ic X dJ1_canEncode_9a6ad_15 (by decide) (by decide) (fun x5 t5 => ?_)
      exact ret _ _ _ _ x5 _ hG ⟨rfl, by omega, fun h => by omega⟩ dJ1_canEncode_9a6ad_16
    · refine n_ic X dJ1_canEncode_9a6ad_11 (by decide) (by decide) (fun x6 t6 => ?_)
      refine lv_goto (tgt := 16) X.1 X.2.1 dJ1_canEncode_9a6ad_12 (by decide) ?_
      exact ret _ _ _ _ x6 _ hG ⟨rfl, by omega, fun h => by omega⟩ dJ1_canEncode_9a6ad_16
set_option maxHeartbeats 4000000 in
set_option maxRecDepth 100000 in
theorem e_J0_length_8abf5 (l : Launch) (D : va_G) (cy : Nat → ClassId) (τ : ty_T) (ρ : ty_R) (z : EVt) {M : md_T} (hN : ty_N τ ρ) (hR : ty_Rg M τ ρ) (hF : ty_Wf M τ ρ [])  : KIE l D cy yJ0_length_8abf5 cJ0_length_8abf5 1 .int (rL 1) τ ρ z [.ref z.1] (fun r u => u = ρ ∧ r.toInt = 4) := by
  refine k_metIE "java/lang/String" rfl (by decide +kernel) (Nat.le_of_ble_eq_true rfl) (fun _ _ _ => rfl) ?_
  intro p e s m args below meth c Q ls X hG hEv hl ret
  obtain ⟨vO, vC, vV, vT, vR, vZ, z1, v1, z2, v2, z3, v3⟩ := id hEv
  have hl : lv_has ls 1 [(0, .ref z.1)] := hl
  refine lv_aload_n X.1 X.2.1 dJ0_length_8abf5_0 rfl (lv_at hl 0 rfl) ?_
  refine vk_getf X.1 X.2.1 vV hG.2.1 X.2.2.2.1 (X.2.2.2.2.1 _ q_1282) (fun _ h => h) dJ0_length_8abf5_1 ?_
  refine va_tlen X.1 X.2.1 vT hG.2.1 rfl dJ0_length_8abf5_4 ?_
  refine lv_topi (fun x1 e1 => ?_)
  have t1 : x1.toInt = 4 := by rw [e1]; decide +kernel
  refine lv_aload_n X.1 X.2.1 dJ0_length_8abf5_5 rfl (lv_at hl 0 rfl) ?_
  refine k_cRE X hG (EV.at hEv hG) (c_J0_coder_7d493 l D cy τ _ z hN hR (ty_Wf.sub (S' := []) hF (by decide)) ) (EV.rec (EV.at hEv hG)) yv_J0_coder_7d493 q_400 ⟨rfl, rfl⟩ ⟨Nat.le_of_ble_eq_true rfl, Nat.le_of_ble_eq_true rfl⟩ rfl hl.1 rfl (Nat.le_of_ble_eq_true rfl) ⟨Nat.zero_le _, Nat.zero_le _⟩ dJ0_length_8abf5_6 (fun x3 u4 H locs hG po2 => ?_)
  obtain ⟨eu4, po2⟩ := po2
  rw [eu4] at hG
  refine lv_ishr X.1 X.2.1 dJ0_length_8abf5_9 ?_
  have q3 : x3 = 0 := cI_inj (by rw [cI_0]; omega)
  have q1 : x1 = 4 := cI_inj (by rw [t1]; rfl)
  refine lv_topi (fun x5 e5 => ?_)
  have t5 : x5.toInt = 4 := by rw [e5, q1, q3]; decide +kernel
  exact ret _ _ _ _ x5 _ hG ⟨rfl, t5⟩ dJ0_length_8abf5_10
set_option maxHeartbeats 4000000 in
set_option maxRecDepth 100000 in
theorem e_J1_indexOfChar_4cfef (l : Launch) (D : va_G) (cy : Nat → ClassId) (τ : ty_T) (ρ : ty_R) (z : EVt) {M : md_T} (hN : ty_N τ ρ) (hR : ty_Rg M τ ρ) (hF : ty_Wf M τ ρ []) (x901 : Int32) (hx : 0 ≤ x901.toInt ∧ x901.toInt ≤ 255) (x902 : Int32) (zx902 : x902.toInt = 0) (x903 : Int32) (zx903 : x903.toInt = 4) : KIE l D cy yJ1_indexOfChar_4cfef cJ1_indexOfChar_4cfef 6 .int (rL 0) τ ρ z [.ref z.2.1, .int x901, .int x902, .int x903] (fun r u => u = ρ ∧ r.toInt = dix x901) := by
  refine k_metIE "java/lang/StringLatin1" rfl (by decide +kernel) (Nat.le_of_ble_eq_true rfl) (fun _ _ _ => rfl) ?_
  intro p e s m args below meth c Q ls X hG hEv hl ret
  obtain ⟨vO, vC, vV, vT, vR, vZ, z1, v1, z2, v2, z3, v3⟩ := id hEv
  have hl : lv_has ls 6 [(0, .ref z.2.1), (1, .int x901), (2, .int x902), (3, .int x903)] := hl
  have g901 := cI_rng x901
  refine lv_iload_n X.1 X.2.1 dJ1_indexOfChar_4cfef_0 rfl (lv_at hl 1 rfl) ?_
  refine lv_i2b X.1 X.2.1 dJ1_indexOfChar_4cfef_1 rfl ?_
  refine lv_topi (fun x1 e1 => ?_)
  have t1 : x1.toInt = if x901.toInt < 128 then x901.toInt else x901.toInt - 256 := by rw [e1]; exact cI_i2b hx
  obtain ⟨b0, b1, b2, b3⟩ := evB_t
  refine lv_istore (lv' := [(4, .int x1), (0, .ref z.2.1), (1, .int x901), (2, .int x902), (3, .int x903)]) X.1 X.2.1 dJ1_indexOfChar_4cfef_2 hl (by decide) rfl (fun ls hl => ?_)
  refine lv_iload_n X.1 X.2.1 dJ1_indexOfChar_4cfef_4 rfl (lv_at hl 3 rfl) ?_
  refine lv_istore (lv' := [(5, .int x902), (4, .int x1), (0, .ref z.2.1), (1, .int x901), (2, .int x902), (3, .int x903)]) X.1 X.2.1 dJ1_indexOfChar_4cfef_5 hl (by decide) rfl (fun ls hl => ?_)
  have J7 : ∀ (n : Nat) (H : Heap) (locs : List Loc) (ls : Array Slot) (x2 : Int32), (0 ≤ x2.toInt ∧ x2.toInt ≤ 4) → (∀ k : Nat, (k : Int) < x2.toInt → k < 4 → (evB k).toInt ≠ x1.toInt) → (4 - x2.toInt).toNat < n → TG D cy τ ρ (ty_d τ) s.heap H locs → lv_has ls 6 [(0, .ref z.2.1), (1, .int x901), (2, .int x902), (3, .int x903), (4, .int x1), (5, .int x2)] → W p l e (rL 0) s m args below meth c H locs 0 0 Q (F0 m 7 ls []) := by
    intro n
    induction n with
    | zero => intro H locs ls x2 bx2 nx2 hm7 hG hl; exact absurd hm7 (Nat.not_lt_zero _)
    | succ n ih7 =>
      intro H locs ls x2 bx2 nx2 hm7 hG hl
      refine lv_iload X.1 X.2.1 dJ1_indexOfChar_4cfef_7 (lv_at hl 5 rfl) ?_
      refine lv_iload_n X.1 X.2.1 dJ1_indexOfChar_4cfef_9 rfl (lv_at hl 3 rfl) ?_
      refine n_icmp_ge (tgt := 31) X dJ1_indexOfChar_4cfef_10 (by decide) (fun c3 => ?_) (fun c3 => ?_)
      · refine n_ic X dJ1_indexOfChar_4cfef_31 (by decide) (by decide) (fun x4 t4 => ?_)
        have n0 := nx2 0 (by omega) (by omega)
        have n1 := nx2 1 (by omega) (by omega)
        have n2 := nx2 2 (by omega) (by omega)
        have n3 := nx2 3 (by omega) (by omega)
        exact ret _ _ _ _ x4 _ hG ⟨rfl, by rw [t4, dix_no]; split at t1 <;> omega⟩ dJ1_indexOfChar_4cfef_32
      · refine lv_aload_n X.1 X.2.1 dJ1_indexOfChar_4cfef_13 rfl (lv_at hl 0 rfl) ?_
        refine lv_iload X.1 X.2.1 dJ1_indexOfChar_4cfef_14 (lv_at hl 5 rfl) ?_
        refine va_tb X.1 X.2.1 vT hG.2.1 (cI_in (n := 4) (by omega)) rfl dJ1_indexOfChar_4cfef_16 ?_
        refine lv_topi (fun x5 e5 => ?_)
        have i2 := cI_clamp (x := x2) (by omega)
        have t5 : x5.toInt = (evB x2.toNatClampNeg).toInt := by rw [e5]
        refine lv_iload X.1 X.2.1 dJ1_indexOfChar_4cfef_17 (lv_at hl 4 rfl) ?_
        refine n_icmp_ne (tgt := 25) X dJ1_indexOfChar_4cfef_19 (by decide) (fun c6 => ?_) (fun c6 => ?_)
        · refine n_inc X (fun z8 => [(5, .int z8), (0, .ref z.2.1), (1, .int x901), (2, .int x902), (3, .int x903), (4, .int x1)]) dJ1_indexOfChar_4cfef_25 hl (k := 5) rfl (by decide) (by decide) (by omega) (by omega) (by decide) (fun _ => rfl) (fun x7 ls t7 hl => ?_)
          have hl : lv_has ls 6 [(5, .int x7), (0, .ref z.2.1), (1, .int x901), (2, .int x902), (3, .int x903), (4, .int x1)] := hl
          refine lv_goto (tgt := 7) X.1 X.2.1 dJ1_indexOfChar_4cfef_28 (by decide) ?_
          exact ih7 _ _ _ x7 (by omega) (fun k hk hk4 => by
            by_cases z : (k : Int) < x2.toInt
            · exact nx2 k z hk4
            · rw [show k = x2.toNatClampNeg by omega, ← t5]; exact c6) (by omega) hG (lv_sub hl [1, 2, 3, 4, 5, 0] rfl)
        · refine lv_iload X.1 X.2.1 dJ1_indexOfChar_4cfef_22 (lv_at hl 5 rfl) ?_
          rcases (show x2.toNatClampNeg = 0 ∨ x2.toNatClampNeg = 1 ∨ x2.toNatClampNeg = 2 ∨ x2.toNatClampNeg = 3 by omega) with q | q | q | q
          · rw [q] at t5
            exact ret _ _ _ _ x2 _ hG ⟨rfl, by rw [dix_0]; omega; split at t1 <;> omega⟩ dJ1_indexOfChar_4cfef_24
          · rw [q] at t5
            exact ret _ _ _ _ x2 _ hG ⟨rfl, by rw [dix_1]; omega; split at t1 <;> omega⟩ dJ1_indexOfChar_4cfef_24
          · rw [q] at t5
            exact ret _ _ _ _ x2 _ hG ⟨rfl, by rw [dix_2]; omega; split at t1 <;> omega⟩ dJ1_indexOfChar_4cfef_24
          · rw [q] at t5
            exact ret _ _ _ _ x2 _ hG ⟨rfl, by rw [dix_3]; omega; split at t1 <;> omega⟩ dJ1_indexOfChar_4cfef_24
  exact J7 _ _ _ _ x902 (by omega) (fun k hk => absurd hk (by omega)) (Nat.lt_succ_self _) hG (lv_sub hl [2, 3, 4, 5, 1, 0] rfl)
set_option maxHeartbeats 4000000 in
set_option maxRecDepth 100000 in
theorem e_J1_indexOf_4cfef (l : Launch) (D : va_G) (cy : Nat → ClassId) (τ : ty_T) (ρ : ty_R) (z : EVt) {M : md_T} (hN : ty_N τ ρ) (hR : ty_Rg M τ ρ) (hF : ty_Wf M τ ρ []) (x901 : Int32) (hx : 0 ≤ x901.toInt ∧ x901.toInt ≤ 255) (x902 : Int32) (zx902 : 0 ≤ x902.toInt ∧ x902.toInt ≤ 0) (x903 : Int32) (h903 : x903.toInt = 4) : KIE l D cy yJ1_indexOf_4cfef cJ1_indexOf_4cfef 4 .int (rL 1) τ ρ z [.ref z.2.1, .int x901, .int x902, .int x903] (fun r u => u = ρ ∧ r.toInt = dix x901) := by
  refine k_metIE "java/lang/StringLatin1" rfl (by decide +kernel) (Nat.le_of_ble_eq_true rfl) (fun _ _ _ => rfl) ?_
  intro p e s m args below meth c Q ls X hG hEv hl ret
  obtain ⟨vO, vC, vV, vT, vR, vZ, z1, v1, z2, v2, z3, v3⟩ := id hEv
  have hl : lv_has ls 4 [(0, .ref z.2.1), (1, .int x901), (2, .int x902), (3, .int x903)] := hl
  have g901 := cI_rng x901
  have g903 := cI_rng x903
  refine lv_iload_n X.1 X.2.1 dJ1_indexOf_4cfef_0 rfl (lv_at hl 1 rfl) ?_
  refine k_cSi X hG (e_J1_canEncode_9a6ad l D cy τ _ hN hR (ty_Wf.sub (S' := []) hF (by decide)) x901) ys_J1_canEncode_9a6ad q_407 ⟨rfl, rfl⟩ ⟨Nat.le_of_ble_eq_true rfl, Nat.le_of_ble_eq_true rfl⟩ rfl hl.1 rfl (Nat.le_of_ble_eq_true rfl) ⟨Nat.zero_le _, Nat.zero_le _⟩ dJ1_indexOf_4cfef_1 (fun x2 u3 H locs hG po1 => ?_)
  obtain ⟨eu3, po1⟩ := po1
  rw [eu3] at hG
  refine n_if_ne (tgt := 9) X dJ1_indexOf_4cfef_4 (by decide) (fun c4 => ?_) (fun c4 => ?_)
  · refine lv_iload_n X.1 X.2.1 dJ1_indexOf_4cfef_9 rfl (lv_at hl 2 rfl) ?_
    refine n_ic X dJ1_indexOf_4cfef_10 (by decide) (by decide) (fun x5 t5 => ?_)
    refine n_max X hl.1 q_410 q_411 q_15 q_412 (Nat.le_of_ble_eq_true rfl) (Nat.le_of_ble_eq_true rfl) ⟨Nat.zero_le _, Nat.zero_le _⟩ dJ1_indexOf_4cfef_11 (fun x6 t6 => ?_)
    refine lv_istore_n (lv' := [(2, .int x6), (0, .ref z.2.1), (1, .int x901), (3, .int x903)]) X.1 X.2.1 dJ1_indexOf_4cfef_14 rfl hl (by decide) rfl (fun ls hl => ?_)
    refine lv_iload_n X.1 X.2.1 dJ1_indexOf_4cfef_15 rfl (lv_at hl 3 rfl) ?_
    refine lv_aload_n X.1 X.2.1 dJ1_indexOf_4cfef_16 rfl (lv_at hl 1 rfl) ?_
    refine va_tlen X.1 X.2.1 vT hG.2.1 rfl dJ1_indexOf_4cfef_17 ?_
    refine lv_topi (fun x7 e7 => ?_)
    have t7 : x7.toInt = 4 := by rw [e7]; decide +kernel
    refine n_min X hl.1 q_413 q_414 q_15 q_415 (Nat.le_of_ble_eq_true rfl) (Nat.le_of_ble_eq_true rfl) ⟨Nat.zero_le _, Nat.zero_le _⟩ dJ1_indexOf_4cfef_18 (fun x8 t8 => ?_)
    refine lv_istore_n (lv' := [(3, .int x8), (2, .int x6), (0, .ref z.2.1), (1, .int x901)]) X.1 X.2.1 dJ1_indexOf_4cfef_21 rfl hl (by decide) rfl (fun ls hl => ?_)
    refine lv_iload_n X.1 X.2.1 dJ1_indexOf_4cfef_22 rfl (lv_at hl 1 rfl) ?_
    refine lv_iload_n X.1 X.2.1 dJ1_indexOf_4cfef_23 rfl (lv_at hl 0 rfl) ?_
    refine n_icmp_lt (tgt := 29) X dJ1_indexOf_4cfef_24 (by decide) (fun c9 => ?_) (fun c9 => ?_)
    · refine lv_aload_n X.1 X.2.1 dJ1_indexOf_4cfef_29 rfl (lv_at hl 2 rfl) ?_
      refine lv_iload_n X.1 X.2.1 dJ1_indexOf_4cfef_30 rfl (lv_at hl 3 rfl) ?_
      refine lv_iload_n X.1 X.2.1 dJ1_indexOf_4cfef_31 rfl (lv_at hl 1 rfl) ?_
      refine lv_iload_n X.1 X.2.1 dJ1_indexOf_4cfef_32 rfl (lv_at hl 0 rfl) ?_
      refine k_cSE X hG (EV.at hEv hG) (e_J1_indexOfChar_4cfef l D cy τ _ z hN hR (ty_Wf.sub (S' := []) hF (by decide)) x901 hx x6 (by omega) x8 (by omega)) ys_J1_indexOfChar_4cfef q_416 ⟨rfl, rfl⟩ ⟨Nat.le_of_ble_eq_true rfl, Nat.le_of_ble_eq_true rfl⟩ rfl hl.1 rfl (Nat.le_of_ble_eq_true rfl) ⟨Nat.zero_le _, Nat.zero_le _⟩ dJ1_indexOf_4cfef_33 (fun x11 u12 H locs hG po10 => ?_)
      obtain ⟨eu12, po10⟩ := po10
      rw [eu12] at hG
      exact ret _ _ _ _ x11 _ hG ⟨rfl, po10⟩ dJ1_indexOf_4cfef_36
    · refine n_ic X dJ1_indexOf_4cfef_27 (by decide) (by decide) (fun x13 t13 => ?_)
      exact absurd c9 (by omega)
  · refine n_ic X dJ1_indexOf_4cfef_7 (by decide) (by decide) (fun x14 t14 => ?_)
    exact absurd (po1.2 hx) (by omega)
set_option maxHeartbeats 4000000 in
set_option maxRecDepth 100000 in
theorem e_J0_indexOf_7cf53 (l : Launch) (D : va_G) (cy : Nat → ClassId) (τ : ty_T) (ρ : ty_R) (z : EVt) {M : md_T} (hN : ty_N τ ρ) (hR : ty_Rg M τ ρ) (hF : ty_Wf M τ ρ []) (x901 : Int32) (hx : 0 ≤ x901.toInt ∧ x901.toInt ≤ 255) (x902 : Int32) (zx902 : 0 ≤ x902.toInt ∧ x902.toInt ≤ 0) : KIE l D cy yJ0_indexOf_7cf53 cJ0_indexOf_7cf53 3 .int (rL 5) τ ρ z [.ref z.1, .int x901, .int x902] (fun r u => u = ρ ∧ r.toInt = dix x901) := by
  refine k_metIE "java/lang/String" rfl (by decide +kernel) (Nat.le_of_ble_eq_true rfl) (fun _ _ _ => rfl) ?_
  intro p e s m args below meth c Q ls X hG hEv hl ret
  obtain ⟨vO, vC, vV, vT, vR, vZ, z1, v1, z2, v2, z3, v3⟩ := id hEv
  have hl : lv_has ls 3 [(0, .ref z.1), (1, .int x901), (2, .int x902)] := hl
  have g901 := cI_rng x901
  refine lv_aload_n X.1 X.2.1 dJ0_indexOf_7cf53_0 rfl (lv_at hl 0 rfl) ?_
  refine k_cRE X hG (EV.at hEv hG) (c_J0_isLatin1_aae02 l D cy τ _ z hN hR (ty_Wf.sub (S' := []) hF (by decide)) ) (EV.rec (EV.at hEv hG)) yv_J0_isLatin1_aae02 q_390 ⟨rfl, rfl⟩ ⟨Nat.le_of_ble_eq_true rfl, Nat.le_of_ble_eq_true rfl⟩ rfl hl.1 rfl (Nat.le_of_ble_eq_true rfl) ⟨Nat.zero_le _, Nat.zero_le _⟩ dJ0_indexOf_7cf53_1 (fun x2 u3 H locs hG po1 => ?_)
  obtain ⟨eu3, po1⟩ := po1
  rw [eu3] at hG
  refine n_if_eq (tgt := 23) X dJ0_indexOf_7cf53_4 (by decide) (fun c4 => ?_) (fun c4 => ?_)
  · exact absurd c4 (by omega)
  · refine lv_aload_n X.1 X.2.1 dJ0_indexOf_7cf53_7 rfl (lv_at hl 0 rfl) ?_
    refine vk_getf X.1 X.2.1 vV hG.2.1 X.2.2.2.1 (X.2.2.2.2.1 _ q_1282) (fun _ h => h) dJ0_indexOf_7cf53_8 ?_
    refine lv_iload_n X.1 X.2.1 dJ0_indexOf_7cf53_11 rfl (lv_at hl 1 rfl) ?_
    refine lv_iload_n X.1 X.2.1 dJ0_indexOf_7cf53_12 rfl (lv_at hl 2 rfl) ?_
    refine lv_aload_n X.1 X.2.1 dJ0_indexOf_7cf53_13 rfl (lv_at hl 0 rfl) ?_
    refine k_cRE X hG (EV.at hEv hG) (e_J0_length_8abf5 l D cy τ _ z hN hR (ty_Wf.sub (S' := []) hF (by decide)) ) (EV.rec (EV.at hEv hG)) yv_J0_length_8abf5 q_396 ⟨rfl, rfl⟩ ⟨Nat.le_of_ble_eq_true rfl, Nat.le_of_ble_eq_true rfl⟩ rfl hl.1 rfl (Nat.le_of_ble_eq_true rfl) ⟨Nat.zero_le _, Nat.zero_le _⟩ dJ0_indexOf_7cf53_14 (fun x6 u7 H locs hG po5 => ?_)
    obtain ⟨eu7, po5⟩ := po5
    rw [eu7] at hG
    have g6 := cI_rng x6
    refine k_cSE X hG (EV.at hEv hG) (e_J1_indexOf_4cfef l D cy τ _ z hN hR (ty_Wf.sub (S' := []) hF (by decide)) x901 hx x902 (by omega) x6 po5) ys_J1_indexOf_4cfef q_404 ⟨rfl, rfl⟩ ⟨Nat.le_of_ble_eq_true rfl, Nat.le_of_ble_eq_true rfl⟩ rfl hl.1 rfl (Nat.le_of_ble_eq_true rfl) ⟨Nat.zero_le _, Nat.zero_le _⟩ dJ0_indexOf_7cf53_17 (fun x9 u10 H locs hG po8 => ?_)
    obtain ⟨eu10, po8⟩ := po8
    rw [eu10] at hG
    refine lv_goto (tgt := 36) X.1 X.2.1 dJ0_indexOf_7cf53_20 (by decide) ?_
    exact ret _ _ _ _ x9 _ hG ⟨rfl, po8⟩ dJ0_indexOf_7cf53_36
set_option maxHeartbeats 4000000 in
set_option maxRecDepth 100000 in
theorem e_J0_indexOf_0f7a4 (l : Launch) (D : va_G) (cy : Nat → ClassId) (τ : ty_T) (ρ : ty_R) (z : EVt) {M : md_T} (hN : ty_N τ ρ) (hR : ty_Rg M τ ρ) (hF : ty_Wf M τ ρ []) (x901 : Int32) (hx : 0 ≤ x901.toInt ∧ x901.toInt ≤ 255) : KIE l D cy yJ0_indexOf_0f7a4 cJ0_indexOf_0f7a4 2 .int (rL 6) τ ρ z [.ref z.1, .int x901] (fun r u => u = ρ ∧ r.toInt = dix x901) := by
  refine k_metIE "java/lang/String" rfl (by decide +kernel) (Nat.le_of_ble_eq_true rfl) (fun _ _ _ => rfl) ?_
  intro p e s m args below meth c Q ls X hG hEv hl ret
  obtain ⟨vO, vC, vV, vT, vR, vZ, z1, v1, z2, v2, z3, v3⟩ := id hEv
  have hl : lv_has ls 2 [(0, .ref z.1), (1, .int x901)] := hl
  have g901 := cI_rng x901
  refine lv_aload_n X.1 X.2.1 dJ0_indexOf_0f7a4_0 rfl (lv_at hl 0 rfl) ?_
  refine lv_iload_n X.1 X.2.1 dJ0_indexOf_0f7a4_1 rfl (lv_at hl 1 rfl) ?_
  refine n_ic X dJ0_indexOf_0f7a4_2 (by decide) (by decide) (fun x1 t1 => ?_)
  refine k_cRE X hG (EV.at hEv hG) (e_J0_indexOf_7cf53 l D cy τ _ z hN hR (ty_Wf.sub (S' := []) hF (by decide)) x901 hx x1 (by omega)) (EV.rec (EV.at hEv hG)) yv_J0_indexOf_7cf53 q_386 ⟨rfl, rfl⟩ ⟨Nat.le_of_ble_eq_true rfl, Nat.le_of_ble_eq_true rfl⟩ rfl hl.1 rfl (Nat.le_of_ble_eq_true rfl) ⟨Nat.zero_le _, Nat.zero_le _⟩ dJ0_indexOf_0f7a4_3 (fun x3 u4 H locs hG po2 => ?_)
  obtain ⟨eu4, po2⟩ := po2
  rw [eu4] at hG
  exact ret _ _ _ _ x3 _ hG ⟨rfl, po2⟩ dJ0_indexOf_0f7a4_6
set_option maxHeartbeats 4000000 in
set_option maxRecDepth 100000 in
theorem e_X6_isFigure (l : Launch) (D : va_G) (cy : Nat → ClassId) (τ : ty_T) (ρ : ty_R) {M : md_T} (hN : ty_N τ ρ) (hR : ty_Rg M τ ρ) (hF : ty_Wf M τ ρ []) (x900 : Int32) : KI l D cy yX6_isFigure cX6_isFigure 1 .boolean (rL 0) τ ρ [.int x900] (fun r u => u = ρ ∧ (r.toInt = 0 ∨ r.toInt = 1) ∧ (r.toInt ≠ 0 → 48 ≤ x900.toInt ∧ x900.toInt ≤ 57) ∧ (r.toInt = 0 → x900.toInt < 48 ∨ 57 < x900.toInt)) := by
  refine k_metI "EdgeEchoes$Text" rfl (by decide +kernel) (Nat.le_of_ble_eq_true rfl) (fun r u h => (cI_nar (cI_01 h.2.1)).1) ?_
  intro p e s m args below meth c Q ls X hG hl ret
  have hl : lv_has ls 1 [(0, .int x900)] := hl
  have g900 := cI_rng x900
  refine lv_iload_n X.1 X.2.1 dX6_isFigure_0 rfl (lv_at hl 0 rfl) ?_
  refine n_bp X dX6_isFigure_1 (by decide) (by decide) (fun x1 t1 => ?_)
  refine n_icmp_lt (tgt := 16) X dX6_isFigure_3 (by decide) (fun c2 => ?_) (fun c2 => ?_)
  · refine n_ic X dX6_isFigure_16 (by decide) (by decide) (fun x3 t3 => ?_)
    exact ret _ _ _ _ x3 _ hG ⟨rfl, by omega, (fun h => by omega), (fun h => by omega)⟩ dX6_isFigure_17
  · refine lv_iload_n X.1 X.2.1 dX6_isFigure_6 rfl (lv_at hl 0 rfl) ?_
    refine n_bp X dX6_isFigure_7 (by decide) (by decide) (fun x4 t4 => ?_)
    refine n_icmp_gt (tgt := 16) X dX6_isFigure_9 (by decide) (fun c5 => ?_) (fun c5 => ?_)
    · refine n_ic X dX6_isFigure_16 (by decide) (by decide) (fun x6 t6 => ?_)
      exact ret _ _ _ _ x6 _ hG ⟨rfl, by omega, (fun h => by omega), (fun h => by omega)⟩ dX6_isFigure_17
    · refine n_ic X dX6_isFigure_12 (by decide) (by decide) (fun x7 t7 => ?_)
      refine lv_goto (tgt := 17) X.1 X.2.1 dX6_isFigure_13 (by decide) ?_
      exact ret _ _ _ _ x7 _ hG ⟨rfl, by omega, (fun h => by omega), (fun h => by omega)⟩ dX6_isFigure_17
set_option maxHeartbeats 4000000 in
set_option maxRecDepth 100000 in
theorem e_X6_isWithin (l : Launch) (D : va_G) (cy : Nat → ClassId) (τ : ty_T) (ρ : ty_R) (z : EVt) {M : md_T} (hN : ty_N τ ρ) (hR : ty_Rg M τ ρ) (hF : ty_Wf M τ ρ []) (x900 : Int32) (hx0 : 0 ≤ x900.toInt ∧ x900.toInt < 12) (x901 : Int32) : KIE l D cy yX6_isWithin cX6_isWithin 2 .boolean (rL 0) τ ρ z [.int x900, .int x901] (fun r u => u = ρ ∧ (r.toInt = 0 ∨ r.toInt = 1) ∧ (r.toInt ≠ 0 → (evL x900.toNatClampNeg).toInt ≤ x901.toInt ∧ x901.toInt ≤ (evG x900.toNatClampNeg).toInt) ∧ (r.toInt = 0 → x901.toInt < (evL x900.toNatClampNeg).toInt ∨ (evG x900.toNatClampNeg).toInt < x901.toInt)) := by
  refine k_metIE "EdgeEchoes$Text" rfl (by decide +kernel) (Nat.le_of_ble_eq_true rfl) (fun r u h => (cI_nar (cI_01 h.2.1)).1) ?_
  intro p e s m args below meth c Q ls X hG hEv hl ret
  obtain ⟨vO, vC, vV, vT, vR, vZ, z1, v1, z2, v2, z3, v3⟩ := id hEv
  have hl : lv_has ls 2 [(0, .int x900), (1, .int x901)] := hl
  have g900 := cI_rng x900
  have g901 := cI_rng x901
  refine lv_iload_n X.1 X.2.1 dX6_isWithin_0 rfl (lv_at hl 0 rfl) ?_
  refine n_if_lt (tgt := 42) X dX6_isWithin_1 (by decide) (fun c1 => ?_) (fun c1 => ?_)
  · refine n_ic X dX6_isWithin_42 (by decide) (by decide) (fun x2 t2 => ?_)
    exact ret _ _ _ _ x2 _ hG ⟨rfl, by omega, (fun h => by omega), (fun h => by omega)⟩ dX6_isWithin_43
  · refine lv_iload_n X.1 X.2.1 dX6_isWithin_4 rfl (lv_at hl 0 rfl) ?_
    refine va_gets X.1 X.2.1 z2 hG.2.1 X.2.2.2.1 (X.2.2.2.2.1 _ q_484) (fun _ h => h) dX6_isWithin_5 ?_
    refine va_tlen X.1 X.2.1 v2 hG.2.1 rfl dX6_isWithin_8 ?_
    refine lv_topi (fun x3 e3 => ?_)
    have t3 : x3.toInt = 12 := by rw [e3]; decide +kernel
    refine n_icmp_ge (tgt := 42) X dX6_isWithin_9 (by decide) (fun c4 => ?_) (fun c4 => ?_)
    · refine n_ic X dX6_isWithin_42 (by decide) (by decide) (fun x5 t5 => ?_)
      exact ret _ _ _ _ x5 _ hG ⟨rfl, by omega, (fun h => by omega), (fun h => by omega)⟩ dX6_isWithin_43
    · refine lv_iload_n X.1 X.2.1 dX6_isWithin_12 rfl (lv_at hl 0 rfl) ?_
      refine va_gets X.1 X.2.1 z3 hG.2.1 X.2.2.2.1 (X.2.2.2.2.1 _ q_486) (fun _ h => h) dX6_isWithin_13 ?_
      refine va_tlen X.1 X.2.1 v3 hG.2.1 rfl dX6_isWithin_16 ?_
      refine lv_topi (fun x6 e6 => ?_)
      have t6 : x6.toInt = 12 := by rw [e6]; decide +kernel
      refine n_icmp_ge (tgt := 42) X dX6_isWithin_17 (by decide) (fun c7 => ?_) (fun c7 => ?_)
      · exact absurd c7 (by omega)
      · refine lv_iload_n X.1 X.2.1 dX6_isWithin_20 rfl (lv_at hl 1 rfl) ?_
        refine va_gets X.1 X.2.1 z2 hG.2.1 X.2.2.2.1 (X.2.2.2.2.1 _ q_484) (fun _ h => h) dX6_isWithin_21 ?_
        refine lv_iload_n X.1 X.2.1 dX6_isWithin_24 rfl (lv_at hl 0 rfl) ?_
        refine va_ti X.1 X.2.1 v2 hG.2.1 (cI_in (n := 12) (by omega)) rfl dX6_isWithin_25 ?_
        refine lv_topi (fun x8 e8 => ?_)
        have t8 : x8.toInt = (evL x900.toNatClampNeg).toInt := by rw [e8]
        refine n_icmp_lt (tgt := 42) X dX6_isWithin_26 (by decide) (fun c9 => ?_) (fun c9 => ?_)
        · refine n_ic X dX6_isWithin_42 (by decide) (by decide) (fun x10 t10 => ?_)
          exact ret _ _ _ _ x10 _ hG ⟨rfl, by omega, (fun h => by omega), (fun h => by omega)⟩ dX6_isWithin_43
        · refine lv_iload_n X.1 X.2.1 dX6_isWithin_29 rfl (lv_at hl 1 rfl) ?_
          refine va_gets X.1 X.2.1 z3 hG.2.1 X.2.2.2.1 (X.2.2.2.2.1 _ q_486) (fun _ h => h) dX6_isWithin_30 ?_
          refine lv_iload_n X.1 X.2.1 dX6_isWithin_33 rfl (lv_at hl 0 rfl) ?_
          refine va_ti X.1 X.2.1 v3 hG.2.1 (cI_in (n := 12) (by omega)) rfl dX6_isWithin_34 ?_
          refine lv_topi (fun x11 e11 => ?_)
          have t11 : x11.toInt = (evG x900.toNatClampNeg).toInt := by rw [e11]
          refine n_icmp_gt (tgt := 42) X dX6_isWithin_35 (by decide) (fun c12 => ?_) (fun c12 => ?_)
          · refine n_ic X dX6_isWithin_42 (by decide) (by decide) (fun x13 t13 => ?_)
            exact ret _ _ _ _ x13 _ hG ⟨rfl, by omega, (fun h => by omega), (fun h => by omega)⟩ dX6_isWithin_43
          · refine n_ic X dX6_isWithin_38 (by decide) (by decide) (fun x14 t14 => ?_)
            refine lv_goto (tgt := 43) X.1 X.2.1 dX6_isWithin_39 (by decide) ?_
            exact ret _ _ _ _ x14 _ hG ⟨rfl, by omega, (fun h => by omega), (fun h => by omega)⟩ dX6_isWithin_43
