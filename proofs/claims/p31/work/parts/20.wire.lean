set_option maxHeartbeats 4000000 in
set_option maxRecDepth 100000 in
theorem c_J7_fill_53178 (l : Launch) (D : va_G) (cy : Nat → ClassId) (τ : ty_T) (ρ : ty_R) {M : md_T} (hN : ty_N τ ρ) (hR : ty_Rg M τ ρ) {n0 : Nat} (ln0 : n0 < 2147483648) {a900 : Nat} {u0 : Nat} (k0 : ty_kd u0 = 1) (h900 : τ a900 = some (u0, n0)) (x901 : Int32) (hw : ∀ j, ρ a900 j (.int x901)) : KV l D cy yJ7_fill_53178 cJ7_fill_53178 4 (rL 0) τ ρ [.ref a900, .int x901] (fun w => w = ρ) := by
  refine k_metV "java/util/Arrays" rfl (by decide +kernel) (Nat.le_of_ble_eq_true rfl) ?_
  intro p e s m args below meth c Q ls X hG hl ret
  have hl : lv_has ls 4 [(0, .ref a900), (1, .int x901)] := hl
  have g901 := cI_rng x901
  refine n_ic X dJ7_fill_53178_0 (by decide) (by decide) (fun x1 t1 => ?_)
  refine lv_istore_n (lv' := [(2, .int x1), (0, .ref a900), (1, .int x901)]) X.1 X.2.1 dJ7_fill_53178_1 rfl hl (by decide) rfl (fun ls hl => ?_)
  refine lv_aload_n X.1 X.2.1 dJ7_fill_53178_2 rfl (lv_at hl 1 rfl) ?_
  refine tg_alen X hG h900 k0 dJ7_fill_53178_3 ?_
  refine lv_topi (fun x2 e2 => ?_)
  have t2 : x2.toInt = ((n0 : Nat) : Int) := n_len e2 (by first | decide | omega)
  refine lv_istore_n (lv' := [(3, .int x2), (2, .int x1), (0, .ref a900), (1, .int x901)]) X.1 X.2.1 dJ7_fill_53178_4 rfl hl (by decide) rfl (fun ls hl => ?_)
  have J5 : ∀ (n : Nat) (H : Heap) (locs : List Loc) (ls : Array Slot) (x3 : Int32), (0 ≤ x3.toInt) → (2147483647 - x3.toInt).toNat < n → TG D cy τ ρ (ty_d τ) s.heap H locs → lv_has ls 4 [(0, .ref a900), (1, .int x901), (2, .int x3), (3, .int x2)] → W p l e (rL 0) s m args below meth c H locs 0 0 Q (F0 m 5 ls []) := by
    intro n
    induction n with
    | zero => intro H locs ls x3 bx3 hm5 hG hl; exact absurd hm5 (Nat.not_lt_zero _)
    | succ n ih5 =>
      intro H locs ls x3 bx3 hm5 hG hl
      have gx3 := cI_rng x3
      refine lv_iload_n X.1 X.2.1 dJ7_fill_53178_5 rfl (lv_at hl 2 rfl) ?_
      refine lv_iload_n X.1 X.2.1 dJ7_fill_53178_6 rfl (lv_at hl 3 rfl) ?_
      refine n_icmp_ge (tgt := 20) X dJ7_fill_53178_7 (by decide) (fun c4 => ?_) (fun c4 => ?_)
      · exact ret _ _ _ _ _ hG rfl dJ7_fill_53178_20
      · refine lv_aload_n X.1 X.2.1 dJ7_fill_53178_10 rfl (lv_at hl 0 rfl) ?_
        refine lv_iload_n X.1 X.2.1 dJ7_fill_53178_11 rfl (lv_at hl 2 rfl) ?_
        refine lv_iload_n X.1 X.2.1 dJ7_fill_53178_12 rfl (lv_at hl 1 rfl) ?_
        refine tg_iasf X hG h900 k0 (cI_in (n := n0) (by omega)) dJ7_fill_53178_13 (hw _) (fun H locs hG => ?_)
        refine n_inc X (fun z6 => [(2, .int z6), (0, .ref a900), (1, .int x901), (3, .int x2)]) dJ7_fill_53178_14 hl (k := 2) rfl (by decide) (by decide) (by omega) (by omega) (by decide) (fun _ => rfl) (fun x5 ls t5 hl => ?_)
        have hl : lv_has ls 4 [(2, .int x5), (0, .ref a900), (1, .int x901), (3, .int x2)] := hl
        refine lv_goto (tgt := 5) X.1 X.2.1 dJ7_fill_53178_17 (by decide) ?_
        exact ih5 _ _ _ x5 (by omega) (by omega) hG (lv_sub hl [1, 2, 0, 3] rfl)
  exact J5 _ _ _ _ x1 (by omega) (Nat.lt_succ_self _) hG (lv_sub hl [2, 3, 1, 0] rfl)
set_option maxHeartbeats 4000000 in
set_option maxRecDepth 100000 in
theorem c_X8_hasPiece (l : Launch) (D : va_G) (cy : Nat → ClassId) (τ : ty_T) (ρ : ty_R) {M : md_T} (hN : ty_N τ ρ) (hR : ty_Rg M τ ρ) (hF : ty_Wf M τ ρ []) {a900 : Nat} (h900 : τ a900 = some (0, 8)) (x901 : Int32) : KI l D cy yX8_hasPiece cX8_hasPiece 2 .boolean (rL 0) τ ρ [.ref a900, .int x901] (fun r u => u = ρ ∧ (r.toInt = 0 ∨ r.toInt = 1) ∧ (r.toInt ≠ 0 → 0 ≤ x901.toInt ∧ x901.toInt ≤ 7)) := by
  refine k_metI "EdgeEchoes$Wire" rfl (by decide +kernel) (Nat.le_of_ble_eq_true rfl) (fun r u h => (cI_nar (cI_01 h.2.1)).1) ?_
  intro p e s m args below meth c Q ls X hG hl ret
  have hl : lv_has ls 2 [(0, .ref a900), (1, .int x901)] := hl
  have g901 := cI_rng x901
  refine lv_iload_n X.1 X.2.1 dX8_hasPiece_0 rfl (lv_at hl 1 rfl) ?_
  refine n_if_lt (tgt := 22) X dX8_hasPiece_1 (by decide) (fun c1 => ?_) (fun c1 => ?_)
  · refine n_ic X dX8_hasPiece_22 (by decide) (by decide) (fun x2 t2 => ?_)
    exact ret _ _ _ _ x2 _ hG ⟨rfl, by omega⟩ dX8_hasPiece_23
  · refine lv_iload_n X.1 X.2.1 dX8_hasPiece_4 rfl (lv_at hl 1 rfl) ?_
    refine lv_aload_n X.1 X.2.1 dX8_hasPiece_5 rfl (lv_at hl 0 rfl) ?_
    refine gf_8_6 X hG h900 q_78 dX8_hasPiece_6 (fun x3 r3 => ?_)
    have b3 := (hR _ _ _ _ h900 r3) _ _ rfl
    refine n_icmp_ge (tgt := 22) X dX8_hasPiece_9 (by decide) (fun c4 => ?_) (fun c4 => ?_)
    · refine n_ic X dX8_hasPiece_22 (by decide) (by decide) (fun x5 t5 => ?_)
      exact ret _ _ _ _ x5 _ hG ⟨rfl, by omega⟩ dX8_hasPiece_23
    · refine lv_iload_n X.1 X.2.1 dX8_hasPiece_12 rfl (lv_at hl 1 rfl) ?_
      refine n_bp X dX8_hasPiece_13 (by decide) (by decide) (fun x6 t6 => ?_)
      refine n_icmp_ge (tgt := 22) X dX8_hasPiece_15 (by decide) (fun c7 => ?_) (fun c7 => ?_)
      · exact absurd c7 (by omega)
      · refine n_ic X dX8_hasPiece_18 (by decide) (by decide) (fun x8 t8 => ?_)
        refine lv_goto (tgt := 23) X.1 X.2.1 dX8_hasPiece_19 (by decide) ?_
        exact ret _ _ _ _ x8 _ hG ⟨rfl, by omega⟩ dX8_hasPiece_23
set_option maxHeartbeats 4000000 in
set_option maxRecDepth 100000 in
theorem c_X8_hasPlace (l : Launch) (D : va_G) (cy : Nat → ClassId) (τ : ty_T) (ρ : ty_R) {M : md_T} (hN : ty_N τ ρ) (hR : ty_Rg M τ ρ) (hF : ty_Wf M τ ρ []) {a900 : Nat} (h900 : τ a900 = some (0, 8)) (x901 : Int32) : KI l D cy yX8_hasPlace cX8_hasPlace 2 .boolean (rL 0) τ ρ [.ref a900, .int x901] (fun r u => u = ρ ∧ (r.toInt = 0 ∨ r.toInt = 1) ∧ (r.toInt ≠ 0 → 1 ≤ x901.toInt ∧ x901.toInt ≤ 71)) := by
  refine k_metI "EdgeEchoes$Wire" rfl (by decide +kernel) (Nat.le_of_ble_eq_true rfl) (fun r u h => (cI_nar (cI_01 h.2.1)).1) ?_
  intro p e s m args below meth c Q ls X hG hl ret
  have hl : lv_has ls 2 [(0, .ref a900), (1, .int x901)] := hl
  have g901 := cI_rng x901
  refine lv_iload_n X.1 X.2.1 dX8_hasPlace_0 rfl (lv_at hl 1 rfl) ?_
  refine n_ic X dX8_hasPlace_1 (by decide) (by decide) (fun x1 t1 => ?_)
  refine n_icmp_lt (tgt := 23) X dX8_hasPlace_2 (by decide) (fun c2 => ?_) (fun c2 => ?_)
  · refine n_ic X dX8_hasPlace_23 (by decide) (by decide) (fun x3 t3 => ?_)
    exact ret _ _ _ _ x3 _ hG ⟨rfl, by omega⟩ dX8_hasPlace_24
  · refine lv_iload_n X.1 X.2.1 dX8_hasPlace_5 rfl (lv_at hl 1 rfl) ?_
    refine lv_aload_n X.1 X.2.1 dX8_hasPlace_6 rfl (lv_at hl 0 rfl) ?_
    refine gf_8_7 X hG h900 q_81 dX8_hasPlace_7 (fun x4 r4 => ?_)
    have b4 := (hR _ _ _ _ h900 r4) _ _ rfl
    refine n_icmp_ge (tgt := 23) X dX8_hasPlace_10 (by decide) (fun c5 => ?_) (fun c5 => ?_)
    · refine n_ic X dX8_hasPlace_23 (by decide) (by decide) (fun x6 t6 => ?_)
      exact ret _ _ _ _ x6 _ hG ⟨rfl, by omega⟩ dX8_hasPlace_24
    · refine lv_iload_n X.1 X.2.1 dX8_hasPlace_13 rfl (lv_at hl 1 rfl) ?_
      refine n_bp X dX8_hasPlace_14 (by decide) (by decide) (fun x7 t7 => ?_)
      refine n_icmp_ge (tgt := 23) X dX8_hasPlace_16 (by decide) (fun c8 => ?_) (fun c8 => ?_)
      · exact absurd c8 (by omega)
      · refine n_ic X dX8_hasPlace_19 (by decide) (by decide) (fun x9 t9 => ?_)
        refine lv_goto (tgt := 24) X.1 X.2.1 dX8_hasPlace_20 (by decide) ?_
        exact ret _ _ _ _ x9 _ hG ⟨rfl, by omega⟩ dX8_hasPlace_24
set_option maxHeartbeats 4000000 in
set_option maxRecDepth 100000 in
theorem c_X8_shared (l : Launch) (D : va_G) (cy : Nat → ClassId) (τ : ty_T) (ρ : ty_R) {M : md_T} (hN : ty_N τ ρ) (hR : ty_Rg M τ ρ) (hF : ty_Wf M τ ρ []) (x900 : Int32) (x901 : Int32) : KI l D cy yX8_shared cX8_shared 2 .int (rL 1) τ ρ [.int x900, .int x901] (fun r u => u = ρ ∧ True) := by
  refine k_metI "EdgeEchoes$Wire" rfl (by decide +kernel) (Nat.le_of_ble_eq_true rfl) (fun _ _ _ => rfl) ?_
  intro p e s m args below meth c Q ls X hG hl ret
  have hl : lv_has ls 2 [(0, .int x900), (1, .int x901)] := hl
  have g900 := cI_rng x900
  have g901 := cI_rng x901
  refine lv_iload_n X.1 X.2.1 dX8_shared_0 rfl (lv_at hl 1 rfl) ?_
  refine n_ic X dX8_shared_1 (by decide) (by decide) (fun x1 t1 => ?_)
  refine n_icmp_ge (tgt := 7) X dX8_shared_2 (by decide) (fun c2 => ?_) (fun c2 => ?_)
  · refine n_ldc X q_572 (n := -400000) (by decide +kernel) dX8_shared_7 (fun x3 t3 => ?_)
    refine n_ldc X q_573 (n := 400000) (by decide +kernel) dX8_shared_9 (fun x4 t4 => ?_)
    refine lv_iload_n X.1 X.2.1 dX8_shared_11 rfl (lv_at hl 0 rfl) ?_
    refine lv_iload_n X.1 X.2.1 dX8_shared_12 rfl (lv_at hl 1 rfl) ?_
    refine lv_idiv X.1 X.2.1 dX8_shared_13 (n_nz (by omega)) ?_
    refine n_any (fun x5 => ?_)
    refine n_min X hl.1 q_574 q_414 q_15 q_415 (Nat.le_of_ble_eq_true rfl) (Nat.le_of_ble_eq_true rfl) ⟨Nat.zero_le _, Nat.zero_le _⟩ dX8_shared_14 (fun x6 t6 => ?_)
    refine n_max X hl.1 q_575 q_411 q_15 q_412 (Nat.le_of_ble_eq_true rfl) (Nat.le_of_ble_eq_true rfl) ⟨Nat.zero_le _, Nat.zero_le _⟩ dX8_shared_17 (fun x7 t7 => ?_)
    exact ret _ _ _ _ x7 _ hG ⟨rfl, trivial⟩ dX8_shared_20
  · refine n_ic X dX8_shared_5 (by decide) (by decide) (fun x8 t8 => ?_)
    exact ret _ _ _ _ x8 _ hG ⟨rfl, trivial⟩ dX8_shared_6
set_option maxHeartbeats 4000000 in
set_option maxRecDepth 100000 in
theorem c_X8_sourceVolts (l : Launch) (D : va_G) (cy : Nat → ClassId) (τ : ty_T) (ρ : ty_R) {M : md_T} (hN : ty_N τ ρ) (hR : ty_Rg M τ ρ) (hF : ty_Wf M τ ρ []) {a900 : Nat} (h900 : τ a900 = some (0, 8)) : KI l D cy yX8_sourceVolts cX8_sourceVolts 1 .int (rL 0) τ ρ [.ref a900] (fun r u => u = ρ ∧ True) := by
  refine k_metI "EdgeEchoes$Wire" rfl (by decide +kernel) (Nat.le_of_ble_eq_true rfl) (fun _ _ _ => rfl) ?_
  intro p e s m args below meth c Q ls X hG hl ret
  have hl : lv_has ls 1 [(0, .ref a900)] := hl
  refine lv_aload_n X.1 X.2.1 dX8_sourceVolts_0 rfl (lv_at hl 0 rfl) ?_
  refine gf_8_12 X hG h900 q_95 dX8_sourceVolts_1 (fun x1 b1 r1 => ?_)
  refine n_if_eq (tgt := 18) X dX8_sourceVolts_4 (by decide) (fun c2 => ?_) (fun c2 => ?_)
  · refine n_ic X dX8_sourceVolts_18 (by decide) (by decide) (fun x3 t3 => ?_)
    exact ret _ _ _ _ x3 _ hG ⟨rfl, trivial⟩ dX8_sourceVolts_19
  · refine lv_aload_n X.1 X.2.1 dX8_sourceVolts_7 rfl (lv_at hl 0 rfl) ?_
    refine gf_8_9 X hG h900 q_88 dX8_sourceVolts_8 (fun x4 r4 => ?_)
    have g4 := cI_rng x4
    refine n_sp X dX8_sourceVolts_11 (by decide) (by decide) (fun x5 t5 => ?_)
    refine lv_imul X.1 X.2.1 dX8_sourceVolts_14 ?_
    refine n_any (fun x6 => ?_)
    refine lv_goto (tgt := 19) X.1 X.2.1 dX8_sourceVolts_15 (by decide) ?_
    exact ret _ _ _ _ x6 _ hG ⟨rfl, trivial⟩ dX8_sourceVolts_19
set_option maxHeartbeats 4000000 in
set_option maxRecDepth 100000 in
theorem c_X8_voltsAt (l : Launch) (D : va_G) (cy : Nat → ClassId) (τ : ty_T) (ρ : ty_R) {M : md_T} (hN : ty_N τ ρ) (hR : ty_Rg M τ ρ) (hF : ty_Wf M τ ρ []) {a900 : Nat} (h900 : τ a900 = some (0, 8)) (x901 : Int32) : KI l D cy yX8_voltsAt cX8_voltsAt 2 .int (rL 0) τ ρ [.ref a900, .int x901] (fun r u => u = ρ ∧ True) := by
  refine k_metI "EdgeEchoes$Wire" rfl (by decide +kernel) (Nat.le_of_ble_eq_true rfl) (fun _ _ _ => rfl) ?_
  intro p e s m args below meth c Q ls X hG hl ret
  have hl : lv_has ls 2 [(0, .ref a900), (1, .int x901)] := hl
  have g901 := cI_rng x901
  refine lv_iload_n X.1 X.2.1 dX8_voltsAt_0 rfl (lv_at hl 1 rfl) ?_
  refine n_if_lt (tgt := 34) X dX8_voltsAt_1 (by decide) (fun c1 => ?_) (fun c1 => ?_)
  · refine n_ic X dX8_voltsAt_34 (by decide) (by decide) (fun x2 t2 => ?_)
    exact ret _ _ _ _ x2 _ hG ⟨rfl, trivial⟩ dX8_voltsAt_35
  · refine lv_iload_n X.1 X.2.1 dX8_voltsAt_4 rfl (lv_at hl 1 rfl) ?_
    refine lv_aload_n X.1 X.2.1 dX8_voltsAt_5 rfl (lv_at hl 0 rfl) ?_
    refine gf_8_7 X hG h900 q_81 dX8_voltsAt_6 (fun x3 r3 => ?_)
    have b3 := (hR _ _ _ _ h900 r3) _ _ rfl
    refine n_icmp_ge (tgt := 34) X dX8_voltsAt_9 (by decide) (fun c4 => ?_) (fun c4 => ?_)
    · refine n_ic X dX8_voltsAt_34 (by decide) (by decide) (fun x5 t5 => ?_)
      exact ret _ _ _ _ x5 _ hG ⟨rfl, trivial⟩ dX8_voltsAt_35
    · refine lv_iload_n X.1 X.2.1 dX8_voltsAt_12 rfl (lv_at hl 1 rfl) ?_
      refine n_bp X dX8_voltsAt_13 (by decide) (by decide) (fun x6 t6 => ?_)
      refine n_icmp_ge (tgt := 34) X dX8_voltsAt_15 (by decide) (fun c7 => ?_) (fun c7 => ?_)
      · exact absurd c7 (by omega)
      · refine lv_aload_n X.1 X.2.1 dX8_voltsAt_18 rfl (lv_at hl 0 rfl) ?_
        refine gf_8_3 X hG h900 q_70 dX8_voltsAt_19 (hN _ _ _ h900) (fun a8 h8 r8 => ?_)
        refine lv_iload_n X.1 X.2.1 dX8_voltsAt_22 rfl (lv_at hl 1 rfl) ?_
        refine tg_iald X hG h8 rfl (cI_in (n := 72) (by omega)) dX8_voltsAt_23 (fun x9 r9 => ?_)
        refine lv_aload_n X.1 X.2.1 dX8_voltsAt_24 rfl (lv_at hl 0 rfl) ?_
        refine gf_8_4 X hG h900 q_72 dX8_voltsAt_25 (hN _ _ _ h900) (fun a10 h10 r10 => ?_)
        refine lv_iload_n X.1 X.2.1 dX8_voltsAt_28 rfl (lv_at hl 1 rfl) ?_
        refine tg_iald X hG h10 rfl (cI_in (n := 72) (by omega)) dX8_voltsAt_29 (fun x11 r11 => ?_)
        refine lv_iadd X.1 X.2.1 dX8_voltsAt_30 ?_
        refine n_any (fun x12 => ?_)
        refine lv_goto (tgt := 35) X.1 X.2.1 dX8_voltsAt_31 (by decide) ?_
        exact ret _ _ _ _ x12 _ hG ⟨rfl, trivial⟩ dX8_voltsAt_35
set_option maxHeartbeats 4000000 in
set_option maxRecDepth 100000 in
theorem c_X8_firstCellOf (l : Launch) (D : va_G) (cy : Nat → ClassId) (τ : ty_T) (ρ : ty_R) {M : md_T} (hN : ty_N τ ρ) (hR : ty_Rg M τ ρ) (hF : ty_Wf M τ ρ []) {a900 : Nat} (h900 : τ a900 = some (0, 8)) (x901 : Int32) : KI l D cy yX8_firstCellOf cX8_firstCellOf 4 .int (rL 0) τ ρ [.ref a900, .int x901] (fun r u => u = ρ ∧ (0 ≤ r.toInt ∧ r.toInt ≤ 576)) := by
  refine k_metI "EdgeEchoes$Wire" rfl (by decide +kernel) (Nat.le_of_ble_eq_true rfl) (fun _ _ _ => rfl) ?_
  intro p e s m args below meth c Q ls X hG hl ret
  have hl : lv_has ls 4 [(0, .ref a900), (1, .int x901)] := hl
  have g901 := cI_rng x901
  refine n_ic X dX8_firstCellOf_0 (by decide) (by decide) (fun x1 t1 => ?_)
  refine lv_istore_n (lv' := [(2, .int x1), (0, .ref a900), (1, .int x901)]) X.1 X.2.1 dX8_firstCellOf_1 rfl hl (by decide) rfl (fun ls hl => ?_)
  refine n_ic X dX8_firstCellOf_2 (by decide) (by decide) (fun x2 t2 => ?_)
  refine lv_istore_n (lv' := [(3, .int x2), (2, .int x1), (0, .ref a900), (1, .int x901)]) X.1 X.2.1 dX8_firstCellOf_3 rfl hl (by decide) rfl (fun ls hl => ?_)
  have J4 : ∀ (n : Nat) (H : Heap) (locs : List Loc) (ls : Array Slot) (x3 : Int32) (x4 : Int32), (0 ≤ x3.toInt ∧ x3.toInt ≤ 576) → (0 ≤ x4.toInt ∧ x4.toInt ≤ 8) → (0 ≤ x3.toInt ∧ x3.toInt ≤ 72 * x4.toInt) → (8 - x4.toInt).toNat < n → TG D cy τ ρ (ty_d τ) s.heap H locs → lv_has ls 4 [(0, .ref a900), (1, .int x901), (2, .int x3), (3, .int x4)] → W p l e (rL 0) s m args below meth c H locs 0 0 Q (F0 m 4 ls []) := by
    intro n
    induction n with
    | zero => intro H locs ls x3 x4 bx3 bx4 iv4_0 hm4 hG hl; exact absurd hm4 (Nat.not_lt_zero _)
    | succ n ih4 =>
      intro H locs ls x3 x4 bx3 bx4 iv4_0 hm4 hG hl
      refine lv_iload_n X.1 X.2.1 dX8_firstCellOf_4 rfl (lv_at hl 3 rfl) ?_
      refine lv_iload_n X.1 X.2.1 dX8_firstCellOf_5 rfl (lv_at hl 1 rfl) ?_
      refine n_icmp_ge (tgt := 30) X dX8_firstCellOf_6 (by decide) (fun c5 => ?_) (fun c5 => ?_)
      · refine lv_iload_n X.1 X.2.1 dX8_firstCellOf_30 rfl (lv_at hl 2 rfl) ?_
        exact ret _ _ _ _ x3 _ hG ⟨rfl, by omega⟩ dX8_firstCellOf_31
      · refine lv_iload_n X.1 X.2.1 dX8_firstCellOf_9 rfl (lv_at hl 3 rfl) ?_
        refine n_bp X dX8_firstCellOf_10 (by decide) (by decide) (fun x6 t6 => ?_)
        refine n_icmp_ge (tgt := 30) X dX8_firstCellOf_12 (by decide) (fun c7 => ?_) (fun c7 => ?_)
        · refine lv_iload_n X.1 X.2.1 dX8_firstCellOf_30 rfl (lv_at hl 2 rfl) ?_
          exact ret _ _ _ _ x3 _ hG ⟨rfl, by omega⟩ dX8_firstCellOf_31
        · refine lv_iload_n X.1 X.2.1 dX8_firstCellOf_15 rfl (lv_at hl 2 rfl) ?_
          refine lv_aload_n X.1 X.2.1 dX8_firstCellOf_16 rfl (lv_at hl 0 rfl) ?_
          refine gf_8_1 X hG h900 q_67 dX8_firstCellOf_17 (hN _ _ _ h900) (fun a8 h8 r8 => ?_)
          refine lv_iload_n X.1 X.2.1 dX8_firstCellOf_20 rfl (lv_at hl 3 rfl) ?_
          refine tg_iald X hG h8 rfl (cI_in (n := 8) (by omega)) dX8_firstCellOf_21 (fun x9 r9 => ?_)
          have b9 := (hR _ _ _ _ h8 r9) _ _ rfl
          refine n_add X dX8_firstCellOf_22 (by omega) (by omega) (fun x10 t10 => ?_)
          refine lv_istore_n (lv' := [(2, .int x10), (0, .ref a900), (1, .int x901), (3, .int x4)]) X.1 X.2.1 dX8_firstCellOf_23 rfl hl (by decide) rfl (fun ls hl => ?_)
          refine n_inc X (fun z12 => [(3, .int z12), (2, .int x10), (0, .ref a900), (1, .int x901)]) dX8_firstCellOf_24 hl (k := 3) rfl (by decide) (by decide) (by omega) (by omega) (by decide) (fun _ => rfl) (fun x11 ls t11 hl => ?_)
          have hl : lv_has ls 4 [(3, .int x11), (2, .int x10), (0, .ref a900), (1, .int x901)] := hl
          refine lv_goto (tgt := 4) X.1 X.2.1 dX8_firstCellOf_27 (by decide) ?_
          exact ih4 _ _ _ x10 x11 (by omega) (by omega) (by omega) (by omega) hG (lv_sub hl [2, 3, 1, 0] rfl)
  exact J4 _ _ _ _ x1 x2 (by omega) (by omega) (by omega) (Nat.lt_succ_self _) hG (lv_sub hl [2, 3, 1, 0] rfl)
set_option maxHeartbeats 4000000 in
set_option maxRecDepth 100000 in
theorem c_X8_changePiece (l : Launch) (D : va_G) (cy : Nat → ClassId) (τ : ty_T) (ρ : ty_R) {M : md_T} (hN : ty_N τ ρ) (hR : ty_Rg M τ ρ) (hF : ty_Wf M τ ρ [5000]) {a900 : Nat} (h900 : τ a900 = some (0, 8)) (x901 : Int32) (x902 : Int32) : KV l D cy yX8_changePiece cX8_changePiece 5 (rL 1) τ ρ [.ref a900, .int x901, .int x902] (fun w => w = ρ) := by
  refine k_metV "EdgeEchoes$Wire" rfl (by decide +kernel) (Nat.le_of_ble_eq_true rfl) ?_
  intro p e s m args below meth c Q ls X hG hl ret
  have hl : lv_has ls 5 [(0, .ref a900), (1, .int x901), (2, .int x902)] := hl
  have g901 := cI_rng x901
  have g902 := cI_rng x902
  refine lv_aload_n X.1 X.2.1 dX8_changePiece_0 rfl (lv_at hl 0 rfl) ?_
  refine lv_iload_n X.1 X.2.1 dX8_changePiece_1 rfl (lv_at hl 1 rfl) ?_
  refine k_cVi X hG (c_X8_hasPiece l D cy τ _ hN hR (ty_Wf.sub (S' := []) hF (by decide)) h900 x901) h900 rfl yv_X8_hasPiece q_500 ⟨rfl, rfl⟩ ⟨Nat.le_of_ble_eq_true rfl, Nat.le_of_ble_eq_true rfl⟩ rfl hl.1 rfl (Nat.le_of_ble_eq_true rfl) ⟨Nat.zero_le _, Nat.zero_le _⟩ dX8_changePiece_2 (fun x2 u3 H locs hG po1 => ?_)
  obtain ⟨eu3, po1⟩ := po1
  rw [eu3] at hG
  refine n_if_ne (tgt := 9) X dX8_changePiece_5 (by decide) (fun c4 => ?_) (fun c4 => ?_)
  · refine lv_aload_n X.1 X.2.1 dX8_changePiece_9 rfl (lv_at hl 0 rfl) ?_
    refine gf_8_0 X hG h900 q_65 dX8_changePiece_10 (hN _ _ _ h900) (fun a5 h5 r5 => ?_)
    refine lv_iload_n X.1 X.2.1 dX8_changePiece_13 rfl (lv_at hl 1 rfl) ?_
    refine lv_iload_n X.1 X.2.1 dX8_changePiece_14 rfl (lv_at hl 2 rfl) ?_
    refine tg_iasf X hG h5 rfl (cI_in (n := 8) (by omega)) dX8_changePiece_15 (hF _ _ _ _ h5 (ty_in (n := 5000) rfl) (ty_rno rfl)) (fun H locs hG => ?_)
    refine lv_aload_n X.1 X.2.1 dX8_changePiece_16 rfl (lv_at hl 0 rfl) ?_
    refine lv_iload_n X.1 X.2.1 dX8_changePiece_17 rfl (lv_at hl 1 rfl) ?_
    refine k_cVi X hG (c_X8_firstCellOf l D cy τ _ hN hR (ty_Wf.sub (S' := []) hF (by decide)) h900 x901) h900 rfl yv_X8_firstCellOf q_504 ⟨rfl, rfl⟩ ⟨Nat.le_of_ble_eq_true rfl, Nat.le_of_ble_eq_true rfl⟩ rfl hl.1 rfl (Nat.le_of_ble_eq_true rfl) ⟨Nat.zero_le _, Nat.zero_le _⟩ dX8_changePiece_18 (fun x7 u8 H locs hG po6 => ?_)
    obtain ⟨eu8, po6⟩ := po6
    rw [eu8] at hG
    refine lv_istore_n (lv' := [(3, .int x7), (0, .ref a900), (1, .int x901), (2, .int x902)]) X.1 X.2.1 dX8_changePiece_21 rfl hl (by decide) rfl (fun ls hl => ?_)
    refine lv_iload_n X.1 X.2.1 dX8_changePiece_22 rfl (lv_at hl 0 rfl) ?_
    refine lv_istore (lv' := [(4, .int x7), (3, .int x7), (0, .ref a900), (1, .int x901), (2, .int x902)]) X.1 X.2.1 dX8_changePiece_23 hl (by decide) rfl (fun ls hl => ?_)
    have J25 : ∀ (n : Nat) (H : Heap) (locs : List Loc) (ls : Array Slot) (x9 : Int32), (0 ≤ x9.toInt ∧ x9.toInt ≤ 576) → (576 - x9.toInt).toNat < n → TG D cy τ ρ (ty_d τ) s.heap H locs → lv_has ls 5 [(0, .ref a900), (1, .int x901), (2, .int x902), (3, .int x7), (4, .int x9)] → W p l e (rL 1) s m args below meth c H locs 0 0 Q (F0 m 25 ls []) := by
      intro n
      induction n with
      | zero => intro H locs ls x9 bx9 hm25 hG hl; exact absurd hm25 (Nat.not_lt_zero _)
      | succ n ih25 =>
        intro H locs ls x9 bx9 hm25 hG hl
        refine lv_iload X.1 X.2.1 dX8_changePiece_25 (lv_at hl 4 rfl) ?_
        refine lv_iload_n X.1 X.2.1 dX8_changePiece_27 rfl (lv_at hl 3 rfl) ?_
        refine lv_aload_n X.1 X.2.1 dX8_changePiece_28 rfl (lv_at hl 0 rfl) ?_
        refine gf_8_1 X hG h900 q_67 dX8_changePiece_29 (hN _ _ _ h900) (fun a10 h10 r10 => ?_)
        refine lv_iload_n X.1 X.2.1 dX8_changePiece_32 rfl (lv_at hl 1 rfl) ?_
        refine tg_iald X hG h10 rfl (cI_in (n := 8) (by omega)) dX8_changePiece_33 (fun x11 r11 => ?_)
        have b11 := (hR _ _ _ _ h10 r11) _ _ rfl
        refine n_add X dX8_changePiece_34 (by omega) (by omega) (fun x12 t12 => ?_)
        refine n_icmp_ge (tgt := 59) X dX8_changePiece_35 (by decide) (fun c13 => ?_) (fun c13 => ?_)
        · exact ret _ _ _ _ _ hG rfl dX8_changePiece_59
        · refine lv_iload X.1 X.2.1 dX8_changePiece_38 (lv_at hl 4 rfl) ?_
          refine n_bp X dX8_changePiece_40 (by decide) (by decide) (fun x14 t14 => ?_)
          refine n_icmp_ge (tgt := 59) X dX8_changePiece_42 (by decide) (fun c15 => ?_) (fun c15 => ?_)
          · exact ret _ _ _ _ _ hG rfl dX8_changePiece_59
          · refine lv_aload_n X.1 X.2.1 dX8_changePiece_45 rfl (lv_at hl 0 rfl) ?_
            refine gf_8_2 X hG h900 q_69 dX8_changePiece_46 (hN _ _ _ h900) (fun a16 h16 r16 => ?_)
            refine lv_iload X.1 X.2.1 dX8_changePiece_49 (lv_at hl 4 rfl) ?_
            refine lv_iload_n X.1 X.2.1 dX8_changePiece_51 rfl (lv_at hl 2 rfl) ?_
            refine tg_iasf X hG h16 rfl (cI_in (n := 72) (by omega)) dX8_changePiece_52 (hF _ _ _ _ h16 (ty_in (n := 5000) rfl) (ty_rno rfl)) (fun H locs hG => ?_)
            refine n_inc X (fun z18 => [(4, .int z18), (0, .ref a900), (1, .int x901), (2, .int x902), (3, .int x7)]) dX8_changePiece_53 hl (k := 4) rfl (by decide) (by decide) (by omega) (by omega) (by decide) (fun _ => rfl) (fun x17 ls t17 hl => ?_)
            have hl : lv_has ls 5 [(4, .int x17), (0, .ref a900), (1, .int x901), (2, .int x902), (3, .int x7)] := hl
            refine lv_goto (tgt := 25) X.1 X.2.1 dX8_changePiece_56 (by decide) ?_
            exact ih25 _ _ _ x17 (by omega) (by omega) hG (lv_sub hl [1, 2, 3, 4, 0] rfl)
    exact J25 _ _ _ _ x7 (by omega) (Nat.lt_succ_self _) hG (lv_sub hl [2, 3, 4, 1, 0] rfl)
  · exact ret _ _ _ _ _ hG rfl dX8_changePiece_8
set_option maxHeartbeats 4000000 in
set_option maxRecDepth 100000 in
theorem c_X8_changeEnd (l : Launch) (D : va_G) (cy : Nat → ClassId) (τ : ty_T) (ρ : ty_R) {M : md_T} (hN : ty_N τ ρ) (hR : ty_Rg M τ ρ) (hF : ty_Wf M τ ρ [810, 811]) {a900 : Nat} (h900 : τ a900 = some (0, 8)) (x901 : Int32) (x902 : Int32) : KV l D cy yX8_changeEnd cX8_changeEnd 3 (rL 0) τ ρ [.ref a900, .int x901, .int x902] (fun w => w = ρ) := by
  refine k_metV "EdgeEchoes$Wire" rfl (by decide +kernel) (Nat.le_of_ble_eq_true rfl) ?_
  intro p e s m args below meth c Q ls X hG hl ret
  have hl : lv_has ls 3 [(0, .ref a900), (1, .int x901), (2, .int x902)] := hl
  have g901 := cI_rng x901
  have g902 := cI_rng x902
  refine lv_aload_n X.1 X.2.1 dX8_changeEnd_0 rfl (lv_at hl 0 rfl) ?_
  refine lv_iload_n X.1 X.2.1 dX8_changeEnd_1 rfl (lv_at hl 1 rfl) ?_
  refine pf_8_10 X hG h900 q_91 dX8_changeEnd_2 (hF _ _ _ _ h900 (ty_in (n := 810) rfl) (ty_rno rfl)) (fun H locs hG => ?_)
  refine lv_aload_n X.1 X.2.1 dX8_changeEnd_5 rfl (lv_at hl 0 rfl) ?_
  refine lv_iload_n X.1 X.2.1 dX8_changeEnd_6 rfl (lv_at hl 1 rfl) ?_
  refine n_ic X dX8_changeEnd_7 (by decide) (by decide) (fun x1 t1 => ?_)
  refine n_icmp_ne (tgt := 15) X dX8_changeEnd_8 (by decide) (fun c2 => ?_) (fun c2 => ?_)
  · refine n_ic X dX8_changeEnd_15 (by decide) (by decide) (fun x3 t3 => ?_)
    refine pf_8_11 X hG h900 q_93 dX8_changeEnd_16 (hF _ _ _ _ h900 (ty_in (n := 811) rfl) (ty_rno rfl)) (fun H locs hG => ?_)
    exact ret _ _ _ _ _ hG rfl dX8_changeEnd_19
  · refine lv_iload_n X.1 X.2.1 dX8_changeEnd_11 rfl (lv_at hl 2 rfl) ?_
    refine lv_goto (tgt := 16) X.1 X.2.1 dX8_changeEnd_12 (by decide) ?_
    refine pf_8_11 X hG h900 q_93 dX8_changeEnd_16 (hF _ _ _ _ h900 (ty_in (n := 811) rfl) (ty_rno rfl)) (fun H locs hG => ?_)
    exact ret _ _ _ _ _ hG rfl dX8_changeEnd_19
set_option maxHeartbeats 4000000 in
set_option maxRecDepth 100000 in
theorem c_X8_addPiece (l : Launch) (D : va_G) (cy : Nat → ClassId) (τ : ty_T) (ρ : ty_R) {M : md_T} (hN : ty_N τ ρ) (hR : ty_Rg M τ ρ) (hF : ty_Wf M τ ρ [806, 807, 5000, 6005]) {a900 : Nat} (h900 : τ a900 = some (0, 8)) (x901 : Int32) (x902 : Int32) : KV l D cy yX8_addPiece cX8_addPiece 3 (rL 2) τ ρ [.ref a900, .int x901, .int x902] (fun w => w = ρ) := by
  refine k_metV "EdgeEchoes$Wire" rfl (by decide +kernel) (Nat.le_of_ble_eq_true rfl) ?_
  intro p e s m args below meth c Q ls X hG hl ret
  have hl : lv_has ls 3 [(0, .ref a900), (1, .int x901), (2, .int x902)] := hl
  have g901 := cI_rng x901
  have g902 := cI_rng x902
  obtain ⟨x1, x2, r1, r2, hG⟩ := tg_pin2 hG h900 6 7 rfl rfl
  have b1 := (hR _ _ _ _ h900 r1) _ _ rfl
  have b2 := (hR _ _ _ _ h900 r2) _ _ rfl
  refine lv_aload_n X.1 X.2.1 dX8_addPiece_0 rfl (lv_at hl 0 rfl) ?_
  refine gf_8_6 X hG h900 q_78 dX8_addPiece_1 (fun x3 r3 => ?_)
  have e3 := exs_rd r3 (y := x1) rfl
  subst e3
  refine n_bp X dX8_addPiece_4 (by decide) (by decide) (fun x4 t4 => ?_)
  refine n_icmp_ge (tgt := 24) X dX8_addPiece_6 (by decide) (fun c5 => ?_) (fun c5 => ?_)
  · exact ret _ _ _ _ _ (exs_cl hG) rfl dX8_addPiece_24
  · refine lv_iload_n X.1 X.2.1 dX8_addPiece_9 rfl (lv_at hl 2 rfl) ?_
    refine n_if_lt (tgt := 24) X dX8_addPiece_10 (by decide) (fun c6 => ?_) (fun c6 => ?_)
    · exact ret _ _ _ _ _ (exs_cl hG) rfl dX8_addPiece_24
    · refine lv_iload_n X.1 X.2.1 dX8_addPiece_13 rfl (lv_at hl 2 rfl) ?_
      refine n_bp X dX8_addPiece_14 (by decide) (by decide) (fun x7 t7 => ?_)
      refine lv_aload_n X.1 X.2.1 dX8_addPiece_16 rfl (lv_at hl 0 rfl) ?_
      refine gf_8_7 X hG h900 q_81 dX8_addPiece_17 (fun x8 r8 => ?_)
      have e8 := exs_rd r8 (y := x2) rfl
      subst e8
      refine n_sub X dX8_addPiece_20 (by omega) (by omega) (fun x9 t9 => ?_)
      refine n_icmp_le (tgt := 25) X dX8_addPiece_21 (by decide) (fun c10 => ?_) (fun c10 => ?_)
      · refine lv_aload_n X.1 X.2.1 dX8_addPiece_25 rfl (lv_at hl 0 rfl) ?_
        refine gf_8_1 X hG h900 q_67 dX8_addPiece_26 ((exs_N hN) _ _ _ h900) (fun a11 h11 r11 => ?_)
        refine lv_aload_n X.1 X.2.1 dX8_addPiece_29 rfl (lv_at hl 0 rfl) ?_
        refine gf_8_6 X hG h900 q_78 dX8_addPiece_30 (fun x12 r12 => ?_)
        have e12 := exs_rd r12 (y := x1) rfl
        subst e12
        refine lv_iload_n X.1 X.2.1 dX8_addPiece_33 rfl (lv_at hl 2 rfl) ?_
        refine tg_iasf X hG h11 rfl (cI_in (n := 8) (by omega)) dX8_addPiece_34 ((exs_F2 (ty_Wf.sub (S' := [6005]) hF (by decide)) h900 (by decide)) _ _ _ _ h11 (ty_in (n := 6005) rfl) (ty_ryes rfl (by omega))) (fun H locs hG => ?_)
        refine lv_aload_n X.1 X.2.1 dX8_addPiece_35 rfl (lv_at hl 0 rfl) ?_
        refine lv_dup X.1 X.2.1 dX8_addPiece_36 rfl ?_
        refine gf_8_6 X hG h900 q_78 dX8_addPiece_37 (fun x13 r13 => ?_)
        have e13 := exs_rd r13 (y := x1) rfl
        subst e13
        refine n_ic X dX8_addPiece_40 (by decide) (by decide) (fun x14 t14 => ?_)
        refine n_add X dX8_addPiece_41 (by omega) (by omega) (fun x15 t15 => ?_)
        refine pg_8_6 X hG h900 q_78 dX8_addPiece_42 (exs ρ a900 (P2 6 x15 7 x2)) exs_off (exs_oth exs_P2a) (exs_new (hF _ _ _ _ h900 (ty_in (n := 806) rfl) (ty_ryes rfl (by omega))) rfl) (fun H locs hG => ?_)
        refine lv_aload_n X.1 X.2.1 dX8_addPiece_45 rfl (lv_at hl 0 rfl) ?_
        refine lv_dup X.1 X.2.1 dX8_addPiece_46 rfl ?_
        refine gf_8_7 X hG h900 q_81 dX8_addPiece_47 (fun x16 r16 => ?_)
        have e16 := exs_rd r16 (y := x2) rfl
        subst e16
        refine lv_iload_n X.1 X.2.1 dX8_addPiece_50 rfl (lv_at hl 2 rfl) ?_
        refine n_add X dX8_addPiece_51 (by omega) (by omega) (fun x17 t17 => ?_)
        refine pg_8_7 X hG h900 q_81 dX8_addPiece_52 (exs ρ a900 (P2 6 x15 7 x17)) exs_off (exs_oth exs_P2b) (exs_new (hF _ _ _ _ h900 (ty_in (n := 807) rfl) (ty_ryes rfl (by omega))) rfl) (fun H locs hG => ?_)
        refine lv_aload_n X.1 X.2.1 dX8_addPiece_55 rfl (lv_at hl 0 rfl) ?_
        refine lv_aload_n X.1 X.2.1 dX8_addPiece_56 rfl (lv_at hl 0 rfl) ?_
        refine gf_8_6 X hG h900 q_78 dX8_addPiece_57 (fun x18 r18 => ?_)
        have e18 := exs_rd r18 (y := x15) rfl
        subst e18
        refine n_ic X dX8_addPiece_60 (by decide) (by decide) (fun x19 t19 => ?_)
        refine n_sub X dX8_addPiece_61 (by omega) (by omega) (fun x20 t20 => ?_)
        refine lv_iload_n X.1 X.2.1 dX8_addPiece_62 rfl (lv_at hl 1 rfl) ?_
        refine k_cVv X hG (c_X8_changePiece l D cy τ _ (exs_N hN) (exs_R hR) (exs_F2 (ty_Wf.sub (S' := [5000]) hF (by decide)) h900 (by decide)) h900 x20 x901) h900 rfl yv_X8_changePiece q_496 ⟨rfl, rfl⟩ ⟨Nat.le_of_ble_eq_true rfl, Nat.le_of_ble_eq_true rfl⟩ rfl hl.1 rfl (Nat.le_of_ble_eq_true rfl) ⟨Nat.zero_le _, Nat.zero_le _⟩ dX8_addPiece_63 (fun u23 H locs hG po21 => ?_)
        rw [po21] at hG
        exact ret _ _ _ _ _ (exs_cl hG) rfl dX8_addPiece_66
      · exact ret _ _ _ _ _ (exs_cl hG) rfl dX8_addPiece_24
set_option maxHeartbeats 4000000 in
set_option maxRecDepth 100000 in
theorem c_X8_calmWaves (l : Launch) (D : va_G) (cy : Nat → ClassId) (τ : ty_T) (ρ : ty_R) {M : md_T} (hN : ty_N τ ρ) (hR : ty_Rg M τ ρ) (hF : ty_Wf M τ ρ [5000]) {a900 : Nat} (h900 : τ a900 = some (0, 8)) : KV l D cy yX8_calmWaves cX8_calmWaves 1 (rL 1) τ ρ [.ref a900] (fun w => w = ρ) := by
  refine k_metV "EdgeEchoes$Wire" rfl (by decide +kernel) (Nat.le_of_ble_eq_true rfl) ?_
  intro p e s m args below meth c Q ls X hG hl ret
  have hl : lv_has ls 1 [(0, .ref a900)] := hl
  refine lv_aload_n X.1 X.2.1 dX8_calmWaves_0 rfl (lv_at hl 0 rfl) ?_
  refine gf_8_3 X hG h900 q_70 dX8_calmWaves_1 (hN _ _ _ h900) (fun a1 h1 r1 => ?_)
  refine n_ic X dX8_calmWaves_4 (by decide) (by decide) (fun x2 t2 => ?_)
  refine k_cSv X hG (c_J7_fill_53178 l D cy τ _ hN hR (by decide) rfl h1 x2 (fun j => hF _ _ _ _ h1 (ty_in (n := 5000) rfl) (ty_rno rfl))) ys_J7_fill_53178 q_349 ⟨rfl, rfl⟩ ⟨Nat.le_of_ble_eq_true rfl, Nat.le_of_ble_eq_true rfl⟩ rfl hl.1 rfl (Nat.le_of_ble_eq_true rfl) ⟨Nat.zero_le _, Nat.zero_le _⟩ dX8_calmWaves_5 (fun u5 H locs hG po3 => ?_)
  rw [po3] at hG
  refine lv_aload_n X.1 X.2.1 dX8_calmWaves_8 rfl (lv_at hl 0 rfl) ?_
  refine gf_8_4 X hG h900 q_72 dX8_calmWaves_9 (hN _ _ _ h900) (fun a6 h6 r6 => ?_)
  refine n_ic X dX8_calmWaves_12 (by decide) (by decide) (fun x7 t7 => ?_)
  refine k_cSv X hG (c_J7_fill_53178 l D cy τ _ hN hR (by decide) rfl h6 x7 (fun j => hF _ _ _ _ h6 (ty_in (n := 5000) rfl) (ty_rno rfl))) ys_J7_fill_53178 q_349 ⟨rfl, rfl⟩ ⟨Nat.le_of_ble_eq_true rfl, Nat.le_of_ble_eq_true rfl⟩ rfl hl.1 rfl (Nat.le_of_ble_eq_true rfl) ⟨Nat.zero_le _, Nat.zero_le _⟩ dX8_calmWaves_13 (fun u10 H locs hG po8 => ?_)
  rw [po8] at hG
  exact ret _ _ _ _ _ hG rfl dX8_calmWaves_16
set_option maxHeartbeats 4000000 in
set_option maxRecDepth 100000 in
theorem c_X8_clear (l : Launch) (D : va_G) (cy : Nat → ClassId) (τ : ty_T) (ρ : ty_R) {M : md_T} (hN : ty_N τ ρ) (hR : ty_Rg M τ ρ) (hF : ty_Wf M τ ρ [806, 807, 808, 809, 810, 811, 812, 5000, 6005]) {a900 : Nat} (h900 : τ a900 = some (0, 8)) : KV l D cy yX8_clear cX8_clear 1 (rL 2) τ ρ [.ref a900] (fun w => w = ρ) := by
  refine k_metV "EdgeEchoes$Wire" rfl (by decide +kernel) (Nat.le_of_ble_eq_true rfl) ?_
  intro p e s m args below meth c Q ls X hG hl ret
  have hl : lv_has ls 1 [(0, .ref a900)] := hl
  refine lv_aload_n X.1 X.2.1 dX8_clear_0 rfl (lv_at hl 0 rfl) ?_
  refine gf_8_0 X hG h900 q_65 dX8_clear_1 (hN _ _ _ h900) (fun a1 h1 r1 => ?_)
  refine n_ic X dX8_clear_4 (by decide) (by decide) (fun x2 t2 => ?_)
  refine k_cSv X hG (c_J7_fill_53178 l D cy τ _ hN hR (by decide) rfl h1 x2 (fun j => hF _ _ _ _ h1 (ty_in (n := 5000) rfl) (ty_rno rfl))) ys_J7_fill_53178 q_349 ⟨rfl, rfl⟩ ⟨Nat.le_of_ble_eq_true rfl, Nat.le_of_ble_eq_true rfl⟩ rfl hl.1 rfl (Nat.le_of_ble_eq_true rfl) ⟨Nat.zero_le _, Nat.zero_le _⟩ dX8_clear_5 (fun u5 H locs hG po3 => ?_)
  rw [po3] at hG
  refine lv_aload_n X.1 X.2.1 dX8_clear_8 rfl (lv_at hl 0 rfl) ?_
  refine gf_8_1 X hG h900 q_67 dX8_clear_9 (hN _ _ _ h900) (fun a6 h6 r6 => ?_)
  refine n_ic X dX8_clear_12 (by decide) (by decide) (fun x7 t7 => ?_)
  refine k_cSv X hG (c_J7_fill_53178 l D cy τ _ hN hR (by decide) rfl h6 x7 (fun j => hF _ _ _ _ h6 (ty_in (n := 6005) rfl) (ty_ryes rfl (by omega)))) ys_J7_fill_53178 q_349 ⟨rfl, rfl⟩ ⟨Nat.le_of_ble_eq_true rfl, Nat.le_of_ble_eq_true rfl⟩ rfl hl.1 rfl (Nat.le_of_ble_eq_true rfl) ⟨Nat.zero_le _, Nat.zero_le _⟩ dX8_clear_13 (fun u10 H locs hG po8 => ?_)
  rw [po8] at hG
  refine lv_aload_n X.1 X.2.1 dX8_clear_16 rfl (lv_at hl 0 rfl) ?_
  refine gf_8_2 X hG h900 q_69 dX8_clear_17 (hN _ _ _ h900) (fun a11 h11 r11 => ?_)
  refine n_ic X dX8_clear_20 (by decide) (by decide) (fun x12 t12 => ?_)
  refine k_cSv X hG (c_J7_fill_53178 l D cy τ _ hN hR (by decide) rfl h11 x12 (fun j => hF _ _ _ _ h11 (ty_in (n := 5000) rfl) (ty_rno rfl))) ys_J7_fill_53178 q_349 ⟨rfl, rfl⟩ ⟨Nat.le_of_ble_eq_true rfl, Nat.le_of_ble_eq_true rfl⟩ rfl hl.1 rfl (Nat.le_of_ble_eq_true rfl) ⟨Nat.zero_le _, Nat.zero_le _⟩ dX8_clear_21 (fun u15 H locs hG po13 => ?_)
  rw [po13] at hG
  refine lv_aload_n X.1 X.2.1 dX8_clear_24 rfl (lv_at hl 0 rfl) ?_
  refine gf_8_5 X hG h900 q_75 dX8_clear_25 (hN _ _ _ h900) (fun a16 h16 r16 => ?_)
  refine n_ic X dX8_clear_28 (by decide) (by decide) (fun x17 t17 => ?_)
  refine k_cSv X hG (c_J7_fill_53178 l D cy τ _ hN hR (by decide) rfl h16 x17 (fun j => hF _ _ _ _ h16 (ty_in (n := 5000) rfl) (ty_rno rfl))) ys_J7_fill_53178 q_349 ⟨rfl, rfl⟩ ⟨Nat.le_of_ble_eq_true rfl, Nat.le_of_ble_eq_true rfl⟩ rfl hl.1 rfl (Nat.le_of_ble_eq_true rfl) ⟨Nat.zero_le _, Nat.zero_le _⟩ dX8_clear_29 (fun u20 H locs hG po18 => ?_)
  rw [po18] at hG
  refine lv_aload_n X.1 X.2.1 dX8_clear_32 rfl (lv_at hl 0 rfl) ?_
  refine k_cVv X hG (c_X8_calmWaves l D cy τ _ hN hR (ty_Wf.sub (S' := [5000]) hF (by decide)) h900) h900 rfl yv_X8_calmWaves q_352 ⟨rfl, rfl⟩ ⟨Nat.le_of_ble_eq_true rfl, Nat.le_of_ble_eq_true rfl⟩ rfl hl.1 rfl (Nat.le_of_ble_eq_true rfl) ⟨Nat.zero_le _, Nat.zero_le _⟩ dX8_clear_33 (fun u23 H locs hG po21 => ?_)
  rw [po21] at hG
  refine lv_aload_n X.1 X.2.1 dX8_clear_36 rfl (lv_at hl 0 rfl) ?_
  refine n_ic X dX8_clear_37 (by decide) (by decide) (fun x24 t24 => ?_)
  refine pf_8_6 X hG h900 q_78 dX8_clear_38 (hF _ _ _ _ h900 (ty_in (n := 806) rfl) (ty_ryes rfl (by omega))) (fun H locs hG => ?_)
  refine lv_aload_n X.1 X.2.1 dX8_clear_41 rfl (lv_at hl 0 rfl) ?_
  refine n_ic X dX8_clear_42 (by decide) (by decide) (fun x25 t25 => ?_)
  refine pf_8_7 X hG h900 q_81 dX8_clear_43 (hF _ _ _ _ h900 (ty_in (n := 807) rfl) (ty_ryes rfl (by omega))) (fun H locs hG => ?_)
  refine lv_aload_n X.1 X.2.1 dX8_clear_46 rfl (lv_at hl 0 rfl) ?_
  refine n_ic X dX8_clear_47 (by decide) (by decide) (fun x26 t26 => ?_)
  refine pf_8_8 X hG h900 q_84 dX8_clear_48 (hF _ _ _ _ h900 (ty_in (n := 808) rfl) (ty_rno rfl)) (fun H locs hG => ?_)
  refine lv_aload_n X.1 X.2.1 dX8_clear_51 rfl (lv_at hl 0 rfl) ?_
  refine n_ic X dX8_clear_52 (by decide) (by decide) (fun x27 t27 => ?_)
  refine pf_8_9 X hG h900 q_88 dX8_clear_53 (hF _ _ _ _ h900 (ty_in (n := 809) rfl) (ty_rno rfl)) (fun H locs hG => ?_)
  refine lv_aload_n X.1 X.2.1 dX8_clear_56 rfl (lv_at hl 0 rfl) ?_
  refine n_ic X dX8_clear_57 (by decide) (by decide) (fun x28 t28 => ?_)
  refine pf_8_10 X hG h900 q_91 dX8_clear_58 (hF _ _ _ _ h900 (ty_in (n := 810) rfl) (ty_rno rfl)) (fun H locs hG => ?_)
  refine lv_aload_n X.1 X.2.1 dX8_clear_61 rfl (lv_at hl 0 rfl) ?_
  refine n_ic X dX8_clear_62 (by decide) (by decide) (fun x29 t29 => ?_)
  refine pf_8_11 X hG h900 q_93 dX8_clear_63 (hF _ _ _ _ h900 (ty_in (n := 811) rfl) (ty_rno rfl)) (fun H locs hG => ?_)
  refine lv_aload_n X.1 X.2.1 dX8_clear_66 rfl (lv_at hl 0 rfl) ?_
  refine n_ic X dX8_clear_67 (by decide) (by decide) (fun x30 t30 => ?_)
  refine pf_8_12 X hG h900 q_95 (by omega) dX8_clear_68 (hF _ _ _ _ h900 (ty_in (n := 812) rfl) (ty_rno rfl)) (fun H locs hG => ?_)
  exact ret _ _ _ _ _ hG rfl dX8_clear_71
set_option maxHeartbeats 4000000 in
set_option maxRecDepth 100000 in
theorem c_X8_copyFrom (l : Launch) (D : va_G) (cy : Nat → ClassId) (τ : ty_T) (ρ : ty_R) {M : md_T} (hN : ty_N τ ρ) (hR : ty_Rg M τ ρ) (hF : ty_Wf M τ ρ [806, 807, 808, 809, 810, 811, 812, 5000, 6005]) {a900 : Nat} (h900 : τ a900 = some (0, 8)) {a901 : Nat} (h901 : τ a901 = some (0, 8)) : KV l D cy yX8_copyFrom cX8_copyFrom 2 (rL 1) τ ρ [.ref a900, .ref a901] (fun w => w = ρ) := by
  refine k_metV "EdgeEchoes$Wire" rfl (by decide +kernel) (Nat.le_of_ble_eq_true rfl) ?_
  intro p e s m args below meth c Q ls X hG hl ret
  have hl : lv_has ls 2 [(0, .ref a900), (1, .ref a901)] := hl
  refine lv_aload_n X.1 X.2.1 dX8_copyFrom_0 rfl (lv_at hl 1 rfl) ?_
  refine gf_8_0 X hG h901 q_65 dX8_copyFrom_1 (hN _ _ _ h901) (fun a1 h1 r1 => ?_)
  refine n_ic X dX8_copyFrom_4 (by decide) (by decide) (fun x2 t2 => ?_)
  refine lv_aload_n X.1 X.2.1 dX8_copyFrom_5 rfl (lv_at hl 0 rfl) ?_
  refine gf_8_0 X hG h900 q_65 dX8_copyFrom_6 (hN _ _ _ h900) (fun a3 h3 r3 => ?_)
  refine n_ic X dX8_copyFrom_9 (by decide) (by decide) (fun x4 t4 => ?_)
  refine n_bp X dX8_copyFrom_10 (by decide) (by decide) (fun x5 t5 => ?_)
  refine tg_copy X hG hl.1 h1 h3 rfl rfl (by omega) (by omega) (by omega) (by show _ ≤ ((8 : Nat) : Int); omega) (by show _ ≤ ((8 : Nat) : Int); omega) q_524 q_526 q_525 q_19 (Nat.le_of_ble_eq_true rfl) (Nat.le_of_ble_eq_true rfl) dX8_copyFrom_12 (fun j j2 x hx => hF _ _ _ _ h3 (ty_in (n := 5000) rfl) (ty_rno rfl)) (fun H locs hG => ?_)
  refine lv_aload_n X.1 X.2.1 dX8_copyFrom_15 rfl (lv_at hl 1 rfl) ?_
  refine gf_8_1 X hG h901 q_67 dX8_copyFrom_16 (hN _ _ _ h901) (fun a6 h6 r6 => ?_)
  refine n_ic X dX8_copyFrom_19 (by decide) (by decide) (fun x7 t7 => ?_)
  refine lv_aload_n X.1 X.2.1 dX8_copyFrom_20 rfl (lv_at hl 0 rfl) ?_
  refine gf_8_1 X hG h900 q_67 dX8_copyFrom_21 (hN _ _ _ h900) (fun a8 h8 r8 => ?_)
  refine n_ic X dX8_copyFrom_24 (by decide) (by decide) (fun x9 t9 => ?_)
  refine n_bp X dX8_copyFrom_25 (by decide) (by decide) (fun x10 t10 => ?_)
  refine tg_copy X hG hl.1 h6 h8 rfl rfl (by omega) (by omega) (by omega) (by show _ ≤ ((8 : Nat) : Int); omega) (by show _ ≤ ((8 : Nat) : Int); omega) q_524 q_526 q_525 q_19 (Nat.le_of_ble_eq_true rfl) (Nat.le_of_ble_eq_true rfl) dX8_copyFrom_27 (fun j j2 x hx => hF _ _ _ _ h8 (ty_in (n := 6005) rfl) (fun lo hi q => hR _ _ j _ h6 hx lo hi q)) (fun H locs hG => ?_)
  refine lv_aload_n X.1 X.2.1 dX8_copyFrom_30 rfl (lv_at hl 1 rfl) ?_
  refine gf_8_2 X hG h901 q_69 dX8_copyFrom_31 (hN _ _ _ h901) (fun a11 h11 r11 => ?_)
  refine n_ic X dX8_copyFrom_34 (by decide) (by decide) (fun x12 t12 => ?_)
  refine lv_aload_n X.1 X.2.1 dX8_copyFrom_35 rfl (lv_at hl 0 rfl) ?_
  refine gf_8_2 X hG h900 q_69 dX8_copyFrom_36 (hN _ _ _ h900) (fun a13 h13 r13 => ?_)
  refine n_ic X dX8_copyFrom_39 (by decide) (by decide) (fun x14 t14 => ?_)
  refine n_bp X dX8_copyFrom_40 (by decide) (by decide) (fun x15 t15 => ?_)
  refine tg_copy X hG hl.1 h11 h13 rfl rfl (by omega) (by omega) (by omega) (by show _ ≤ ((72 : Nat) : Int); omega) (by show _ ≤ ((72 : Nat) : Int); omega) q_524 q_526 q_525 q_19 (Nat.le_of_ble_eq_true rfl) (Nat.le_of_ble_eq_true rfl) dX8_copyFrom_42 (fun j j2 x hx => hF _ _ _ _ h13 (ty_in (n := 5000) rfl) (ty_rno rfl)) (fun H locs hG => ?_)
  refine lv_aload_n X.1 X.2.1 dX8_copyFrom_45 rfl (lv_at hl 1 rfl) ?_
  refine gf_8_3 X hG h901 q_70 dX8_copyFrom_46 (hN _ _ _ h901) (fun a16 h16 r16 => ?_)
  refine n_ic X dX8_copyFrom_49 (by decide) (by decide) (fun x17 t17 => ?_)
  refine lv_aload_n X.1 X.2.1 dX8_copyFrom_50 rfl (lv_at hl 0 rfl) ?_
  refine gf_8_3 X hG h900 q_70 dX8_copyFrom_51 (hN _ _ _ h900) (fun a18 h18 r18 => ?_)
  refine n_ic X dX8_copyFrom_54 (by decide) (by decide) (fun x19 t19 => ?_)
  refine n_bp X dX8_copyFrom_55 (by decide) (by decide) (fun x20 t20 => ?_)
  refine tg_copy X hG hl.1 h16 h18 rfl rfl (by omega) (by omega) (by omega) (by show _ ≤ ((72 : Nat) : Int); omega) (by show _ ≤ ((72 : Nat) : Int); omega) q_524 q_526 q_525 q_19 (Nat.le_of_ble_eq_true rfl) (Nat.le_of_ble_eq_true rfl) dX8_copyFrom_57 (fun j j2 x hx => hF _ _ _ _ h18 (ty_in (n := 5000) rfl) (ty_rno rfl)) (fun H locs hG => ?_)
  refine lv_aload_n X.1 X.2.1 dX8_copyFrom_60 rfl (lv_at hl 1 rfl) ?_
  refine gf_8_4 X hG h901 q_72 dX8_copyFrom_61 (hN _ _ _ h901) (fun a21 h21 r21 => ?_)
  refine n_ic X dX8_copyFrom_64 (by decide) (by decide) (fun x22 t22 => ?_)
  refine lv_aload_n X.1 X.2.1 dX8_copyFrom_65 rfl (lv_at hl 0 rfl) ?_
  refine gf_8_4 X hG h900 q_72 dX8_copyFrom_66 (hN _ _ _ h900) (fun a23 h23 r23 => ?_)
  refine n_ic X dX8_copyFrom_69 (by decide) (by decide) (fun x24 t24 => ?_)
  refine n_bp X dX8_copyFrom_70 (by decide) (by decide) (fun x25 t25 => ?_)
  refine tg_copy X hG hl.1 h21 h23 rfl rfl (by omega) (by omega) (by omega) (by show _ ≤ ((72 : Nat) : Int); omega) (by show _ ≤ ((72 : Nat) : Int); omega) q_524 q_526 q_525 q_19 (Nat.le_of_ble_eq_true rfl) (Nat.le_of_ble_eq_true rfl) dX8_copyFrom_72 (fun j j2 x hx => hF _ _ _ _ h23 (ty_in (n := 5000) rfl) (ty_rno rfl)) (fun H locs hG => ?_)
  refine lv_aload_n X.1 X.2.1 dX8_copyFrom_75 rfl (lv_at hl 1 rfl) ?_
  refine gf_8_5 X hG h901 q_75 dX8_copyFrom_76 (hN _ _ _ h901) (fun a26 h26 r26 => ?_)
  refine n_ic X dX8_copyFrom_79 (by decide) (by decide) (fun x27 t27 => ?_)
  refine lv_aload_n X.1 X.2.1 dX8_copyFrom_80 rfl (lv_at hl 0 rfl) ?_
  refine gf_8_5 X hG h900 q_75 dX8_copyFrom_81 (hN _ _ _ h900) (fun a28 h28 r28 => ?_)
  refine n_ic X dX8_copyFrom_84 (by decide) (by decide) (fun x29 t29 => ?_)
  refine n_bp X dX8_copyFrom_85 (by decide) (by decide) (fun x30 t30 => ?_)
  refine tg_copy X hG hl.1 h26 h28 rfl rfl (by omega) (by omega) (by omega) (by show _ ≤ ((72 : Nat) : Int); omega) (by show _ ≤ ((72 : Nat) : Int); omega) q_524 q_526 q_525 q_19 (Nat.le_of_ble_eq_true rfl) (Nat.le_of_ble_eq_true rfl) dX8_copyFrom_87 (fun j j2 x hx => hF _ _ _ _ h28 (ty_in (n := 5000) rfl) (ty_rno rfl)) (fun H locs hG => ?_)
  refine lv_aload_n X.1 X.2.1 dX8_copyFrom_90 rfl (lv_at hl 0 rfl) ?_
  refine lv_aload_n X.1 X.2.1 dX8_copyFrom_91 rfl (lv_at hl 1 rfl) ?_
  refine gf_8_6 X hG h901 q_78 dX8_copyFrom_92 (fun x31 r31 => ?_)
  have b31 := (hR _ _ _ _ h901 r31) _ _ rfl
  refine pf_8_6 X hG h900 q_78 dX8_copyFrom_95 (hF _ _ _ _ h900 (ty_in (n := 806) rfl) (ty_ryes rfl (by omega))) (fun H locs hG => ?_)
  refine lv_aload_n X.1 X.2.1 dX8_copyFrom_98 rfl (lv_at hl 0 rfl) ?_
  refine lv_aload_n X.1 X.2.1 dX8_copyFrom_99 rfl (lv_at hl 1 rfl) ?_
  refine gf_8_7 X hG h901 q_81 dX8_copyFrom_100 (fun x32 r32 => ?_)
  have b32 := (hR _ _ _ _ h901 r32) _ _ rfl
  refine pf_8_7 X hG h900 q_81 dX8_copyFrom_103 (hF _ _ _ _ h900 (ty_in (n := 807) rfl) (ty_ryes rfl (by omega))) (fun H locs hG => ?_)
  refine lv_aload_n X.1 X.2.1 dX8_copyFrom_106 rfl (lv_at hl 0 rfl) ?_
  refine lv_aload_n X.1 X.2.1 dX8_copyFrom_107 rfl (lv_at hl 1 rfl) ?_
  refine gf_8_8 X hG h901 q_84 dX8_copyFrom_108 (fun x33 r33 => ?_)
  have g33 := cI_rng x33
  refine pf_8_8 X hG h900 q_84 dX8_copyFrom_111 (hF _ _ _ _ h900 (ty_in (n := 808) rfl) (ty_rno rfl)) (fun H locs hG => ?_)
  refine lv_aload_n X.1 X.2.1 dX8_copyFrom_114 rfl (lv_at hl 0 rfl) ?_
  refine lv_aload_n X.1 X.2.1 dX8_copyFrom_115 rfl (lv_at hl 1 rfl) ?_
  refine gf_8_9 X hG h901 q_88 dX8_copyFrom_116 (fun x34 r34 => ?_)
  have g34 := cI_rng x34
  refine pf_8_9 X hG h900 q_88 dX8_copyFrom_119 (hF _ _ _ _ h900 (ty_in (n := 809) rfl) (ty_rno rfl)) (fun H locs hG => ?_)
  refine lv_aload_n X.1 X.2.1 dX8_copyFrom_122 rfl (lv_at hl 0 rfl) ?_
  refine lv_aload_n X.1 X.2.1 dX8_copyFrom_123 rfl (lv_at hl 1 rfl) ?_
  refine gf_8_10 X hG h901 q_91 dX8_copyFrom_124 (fun x35 r35 => ?_)
  have g35 := cI_rng x35
  refine pf_8_10 X hG h900 q_91 dX8_copyFrom_127 (hF _ _ _ _ h900 (ty_in (n := 810) rfl) (ty_rno rfl)) (fun H locs hG => ?_)
  refine lv_aload_n X.1 X.2.1 dX8_copyFrom_130 rfl (lv_at hl 0 rfl) ?_
  refine lv_aload_n X.1 X.2.1 dX8_copyFrom_131 rfl (lv_at hl 1 rfl) ?_
  refine gf_8_11 X hG h901 q_93 dX8_copyFrom_132 (fun x36 r36 => ?_)
  have g36 := cI_rng x36
  refine pf_8_11 X hG h900 q_93 dX8_copyFrom_135 (hF _ _ _ _ h900 (ty_in (n := 811) rfl) (ty_rno rfl)) (fun H locs hG => ?_)
  refine lv_aload_n X.1 X.2.1 dX8_copyFrom_138 rfl (lv_at hl 0 rfl) ?_
  refine lv_aload_n X.1 X.2.1 dX8_copyFrom_139 rfl (lv_at hl 1 rfl) ?_
  refine gf_8_12 X hG h901 q_95 dX8_copyFrom_140 (fun x37 b37 r37 => ?_)
  refine pf_8_12 X hG h900 q_95 (by omega) dX8_copyFrom_143 (hF _ _ _ _ h900 (ty_in (n := 812) rfl) (ty_rno rfl)) (fun H locs hG => ?_)
  exact ret _ _ _ _ _ hG rfl dX8_copyFrom_146
set_option maxHeartbeats 4000000 in
set_option maxRecDepth 100000 in
theorem c_X8_thrownBack (l : Launch) (D : va_G) (cy : Nat → ClassId) (τ : ty_T) (ρ : ty_R) {M : md_T} (hN : ty_N τ ρ) (hR : ty_Rg M τ ρ) (hF : ty_Wf M τ ρ []) {a900 : Nat} (h900 : τ a900 = some (0, 8)) (x901 : Int32) : KI l D cy yX8_thrownBack cX8_thrownBack 3 .int (rL 2) τ ρ [.ref a900, .int x901] (fun r u => u = ρ ∧ True) := by
  refine k_metI "EdgeEchoes$Wire" rfl (by decide +kernel) (Nat.le_of_ble_eq_true rfl) (fun _ _ _ => rfl) ?_
  intro p e s m args below meth c Q ls X hG hl ret
  have hl : lv_has ls 3 [(0, .ref a900), (1, .int x901)] := hl
  have g901 := cI_rng x901
  obtain ⟨x1, r1, hG⟩ := tg_pin hG h900 7 rfl
  have b1 := (hR _ _ _ _ h900 r1) _ _ rfl
  refine lv_aload_n X.1 X.2.1 dX8_thrownBack_0 rfl (lv_at hl 0 rfl) ?_
  refine gf_8_10 X hG h900 q_91 dX8_thrownBack_1 (fun x2 r2 => ?_)
  have g2 := cI_rng x2
  refine n_if_ne (tgt := 9) X dX8_thrownBack_4 (by decide) (fun c3 => ?_) (fun c3 => ?_)
  · refine lv_aload_n X.1 X.2.1 dX8_thrownBack_9 rfl (lv_at hl 0 rfl) ?_
    refine gf_8_10 X hG h900 q_91 dX8_thrownBack_10 (fun x4 r4 => ?_)
    have g4 := cI_rng x4
    refine n_ic X dX8_thrownBack_13 (by decide) (by decide) (fun x5 t5 => ?_)
    refine n_icmp_ne (tgt := 20) X dX8_thrownBack_14 (by decide) (fun c6 => ?_) (fun c6 => ?_)
    · refine lv_aload_n X.1 X.2.1 dX8_thrownBack_20 rfl (lv_at hl 0 rfl) ?_
      refine gf_8_7 X hG h900 q_81 dX8_thrownBack_21 (fun x7 r7 => ?_)
      have e7 := exs_rd r7 (y := x1) rfl
      subst e7
      refine n_ic X dX8_thrownBack_24 (by decide) (by decide) (fun x8 t8 => ?_)
      have J52 : ∀ (H : Heap) (locs : List Loc) (ls : Array Slot) (x9 : Int32), TG D cy τ (exs ρ a900 (P1 7 x1)) (ty_d τ) s.heap H locs → lv_has ls 3 [(0, .ref a900), (1, .int x901)] → W p l e (rL 2) s m args below meth c H locs 0 0 Q (F0 m 52 ls [.int x9]) := by
        intro H locs ls x9 hG hl
        have gx9 := cI_rng x9
        refine lv_istore_n (lv' := [(2, .int x9), (0, .ref a900), (1, .int x901)]) X.1 X.2.1 dX8_thrownBack_52 rfl hl (by decide) rfl (fun ls hl => ?_)
        refine lv_iload_n X.1 X.2.1 dX8_thrownBack_53 rfl (lv_at hl 2 rfl) ?_
        refine lv_aload_n X.1 X.2.1 dX8_thrownBack_54 rfl (lv_at hl 1 rfl) ?_
        refine gf_8_11 X hG h900 q_93 dX8_thrownBack_55 (fun x10 r10 => ?_)
        have g10 := cI_rng x10
        refine lv_iload_n X.1 X.2.1 dX8_thrownBack_58 rfl (lv_at hl 0 rfl) ?_
        refine lv_isub X.1 X.2.1 dX8_thrownBack_59 ?_
        refine n_any (fun x11 => ?_)
        refine lv_imul X.1 X.2.1 dX8_thrownBack_60 ?_
        refine n_any (fun x12 => ?_)
        refine lv_aload_n X.1 X.2.1 dX8_thrownBack_61 rfl (lv_at hl 1 rfl) ?_
        refine gf_8_11 X hG h900 q_93 dX8_thrownBack_62 (fun x13 r13 => ?_)
        have g13 := cI_rng x13
        refine lv_iload_n X.1 X.2.1 dX8_thrownBack_65 rfl (lv_at hl 0 rfl) ?_
        refine lv_iadd X.1 X.2.1 dX8_thrownBack_66 ?_
        refine n_any (fun x14 => ?_)
        refine k_cSi X hG (c_X8_shared l D cy τ _ (exs_N hN) (exs_R hR) (exs_F1 (ty_Wf.sub (S' := []) hF (by decide)) h900 (by decide)) x12 x14) ys_X8_shared q_569 ⟨rfl, rfl⟩ ⟨Nat.le_of_ble_eq_true rfl, Nat.le_of_ble_eq_true rfl⟩ rfl hl.1 rfl (Nat.le_of_ble_eq_true rfl) ⟨Nat.zero_le _, Nat.zero_le _⟩ dX8_thrownBack_67 (fun x16 u17 H locs hG po15 => ?_)
        obtain ⟨eu17, po15⟩ := po15
        rw [eu17] at hG
        have g16 := cI_rng x16
        exact ret _ _ _ _ x16 _ (exs_cl hG) ⟨rfl, trivial⟩ dX8_thrownBack_70
      refine n_icmp_lt (tgt := 51) X dX8_thrownBack_25 (by decide) (fun c18 => ?_) (fun c18 => ?_)
      · refine n_ic X dX8_thrownBack_51 (by decide) (by decide) (fun x19 t19 => ?_)
        exact J52 _ _ _ x19 hG (lv_sub hl [0, 1] rfl)
      · refine lv_aload_n X.1 X.2.1 dX8_thrownBack_28 rfl (lv_at hl 0 rfl) ?_
        refine gf_8_7 X hG h900 q_81 dX8_thrownBack_29 (fun x20 r20 => ?_)
        have e20 := exs_rd r20 (y := x1) rfl
        subst e20
        refine n_bp X dX8_thrownBack_32 (by decide) (by decide) (fun x21 t21 => ?_)
        refine n_icmp_gt (tgt := 51) X dX8_thrownBack_34 (by decide) (fun c22 => ?_) (fun c22 => ?_)
        · exact absurd c22 (by omega)
        · refine lv_aload_n X.1 X.2.1 dX8_thrownBack_37 rfl (lv_at hl 0 rfl) ?_
          refine gf_8_2 X hG h900 q_69 dX8_thrownBack_38 ((exs_N hN) _ _ _ h900) (fun a23 h23 r23 => ?_)
          refine lv_aload_n X.1 X.2.1 dX8_thrownBack_41 rfl (lv_at hl 0 rfl) ?_
          refine gf_8_7 X hG h900 q_81 dX8_thrownBack_42 (fun x24 r24 => ?_)
          have e24 := exs_rd r24 (y := x1) rfl
          subst e24
          refine n_ic X dX8_thrownBack_45 (by decide) (by decide) (fun x25 t25 => ?_)
          refine n_sub X dX8_thrownBack_46 (by omega) (by omega) (fun x26 t26 => ?_)
          refine tg_iald X hG h23 rfl (cI_in (n := 72) (by omega)) dX8_thrownBack_47 (fun x27 r27 => ?_)
          refine lv_goto (tgt := 52) X.1 X.2.1 dX8_thrownBack_48 (by decide) ?_
          exact J52 _ _ _ x27 hG (lv_sub hl [0, 1] rfl)
    · refine lv_iload_n X.1 X.2.1 dX8_thrownBack_17 rfl (lv_at hl 1 rfl) ?_
      refine lv_ineg X.1 X.2.1 dX8_thrownBack_18 ?_
      refine n_any (fun x28 => ?_)
      exact ret _ _ _ _ x28 _ (exs_cl hG) ⟨rfl, trivial⟩ dX8_thrownBack_19
  · refine lv_iload_n X.1 X.2.1 dX8_thrownBack_7 rfl (lv_at hl 1 rfl) ?_
    exact ret _ _ _ _ x901 _ (exs_cl hG) ⟨rfl, trivial⟩ dX8_thrownBack_8
set_option maxHeartbeats 4000000 in
set_option maxRecDepth 100000 in
theorem c_X8_part (l : Launch) (D : va_G) (cy : Nat → ClassId) (τ : ty_T) (ρ : ty_R) {M : md_T} (hN : ty_N τ ρ) (hR : ty_Rg M τ ρ) (hF : ty_Wf M τ ρ [5000]) {a900 : Nat} (h900 : τ a900 = some (0, 8)) (x901 : Int32) (x902 : Int32) (x903 : Int32) : KV l D cy yX8_part cX8_part 6 (rL 2) τ ρ [.ref a900, .int x901, .int x902, .int x903] (fun w => w = ρ) := by
  refine k_metV "EdgeEchoes$Wire" rfl (by decide +kernel) (Nat.le_of_ble_eq_true rfl) ?_
  intro p e s m args below meth c Q ls X hG hl ret
  have hl : lv_has ls 6 [(0, .ref a900), (1, .int x901), (2, .int x902), (3, .int x903)] := hl
  have g901 := cI_rng x901
  have g902 := cI_rng x902
  have g903 := cI_rng x903
  refine lv_aload_n X.1 X.2.1 dX8_part_0 rfl (lv_at hl 0 rfl) ?_
  refine lv_iload_n X.1 X.2.1 dX8_part_1 rfl (lv_at hl 1 rfl) ?_
  refine k_cVi X hG (c_X8_hasPlace l D cy τ _ hN hR (ty_Wf.sub (S' := []) hF (by decide)) h900 x901) h900 rfl yv_X8_hasPlace q_580 ⟨rfl, rfl⟩ ⟨Nat.le_of_ble_eq_true rfl, Nat.le_of_ble_eq_true rfl⟩ rfl hl.1 rfl (Nat.le_of_ble_eq_true rfl) ⟨Nat.zero_le _, Nat.zero_le _⟩ dX8_part_2 (fun x2 u3 H locs hG po1 => ?_)
  obtain ⟨eu3, po1⟩ := po1
  rw [eu3] at hG
  refine n_if_ne (tgt := 9) X dX8_part_5 (by decide) (fun c4 => ?_) (fun c4 => ?_)
  · refine lv_aload_n X.1 X.2.1 dX8_part_9 rfl (lv_at hl 0 rfl) ?_
    refine gf_8_5 X hG h900 q_75 dX8_part_10 (hN _ _ _ h900) (fun a5 h5 r5 => ?_)
    refine lv_iload_n X.1 X.2.1 dX8_part_13 rfl (lv_at hl 1 rfl) ?_
    refine tg_iald X hG h5 rfl (cI_in (n := 72) (by omega)) dX8_part_14 (fun x6 r6 => ?_)
    refine n_ic X dX8_part_15 (by decide) (by decide) (fun x7 t7 => ?_)
    refine n_icmp_ne (tgt := 38) X dX8_part_16 (by decide) (fun c8 => ?_) (fun c8 => ?_)
    · refine lv_aload_n X.1 X.2.1 dX8_part_38 rfl (lv_at hl 0 rfl) ?_
      refine gf_8_5 X hG h900 q_75 dX8_part_39 (hN _ _ _ h900) (fun a9 h9 r9 => ?_)
      refine lv_iload_n X.1 X.2.1 dX8_part_42 rfl (lv_at hl 1 rfl) ?_
      refine tg_iald X hG h9 rfl (cI_in (n := 72) (by omega)) dX8_part_43 (fun x10 r10 => ?_)
      refine n_ic X dX8_part_44 (by decide) (by decide) (fun x11 t11 => ?_)
      refine n_icmp_ne (tgt := 69) X dX8_part_45 (by decide) (fun c12 => ?_) (fun c12 => ?_)
      · refine lv_aload_n X.1 X.2.1 dX8_part_69 rfl (lv_at hl 0 rfl) ?_
        refine gf_8_2 X hG h900 q_69 dX8_part_70 (hN _ _ _ h900) (fun a13 h13 r13 => ?_)
        refine lv_iload_n X.1 X.2.1 dX8_part_73 rfl (lv_at hl 1 rfl) ?_
        refine n_ic X dX8_part_74 (by decide) (by decide) (fun x14 t14 => ?_)
        refine n_sub X dX8_part_75 (by omega) (by omega) (fun x15 t15 => ?_)
        refine tg_iald X hG h13 rfl (cI_in (n := 72) (by omega)) dX8_part_76 (fun x16 r16 => ?_)
        refine lv_istore (lv' := [(4, .int x16), (0, .ref a900), (1, .int x901), (2, .int x902), (3, .int x903)]) X.1 X.2.1 dX8_part_77 hl (by decide) rfl (fun ls hl => ?_)
        refine lv_aload_n X.1 X.2.1 dX8_part_79 rfl (lv_at hl 1 rfl) ?_
        refine gf_8_2 X hG h900 q_69 dX8_part_80 (hN _ _ _ h900) (fun a17 h17 r17 => ?_)
        refine lv_iload_n X.1 X.2.1 dX8_part_83 rfl (lv_at hl 2 rfl) ?_
        refine tg_iald X hG h17 rfl (cI_in (n := 72) (by omega)) dX8_part_84 (fun x18 r18 => ?_)
        refine lv_istore (lv' := [(5, .int x18), (4, .int x16), (0, .ref a900), (1, .int x901), (2, .int x902), (3, .int x903)]) X.1 X.2.1 dX8_part_85 hl (by decide) rfl (fun ls hl => ?_)
        refine lv_aload_n X.1 X.2.1 dX8_part_87 rfl (lv_at hl 2 rfl) ?_
        refine gf_8_4 X hG h900 q_72 dX8_part_88 (hN _ _ _ h900) (fun a19 h19 r19 => ?_)
        refine lv_iload_n X.1 X.2.1 dX8_part_91 rfl (lv_at hl 3 rfl) ?_
        refine n_ic X dX8_part_92 (by decide) (by decide) (fun x20 t20 => ?_)
        refine n_sub X dX8_part_93 (by omega) (by omega) (fun x21 t21 => ?_)
        refine lv_iload_n X.1 X.2.1 dX8_part_94 rfl (lv_at hl 4 rfl) ?_
        refine lv_iload X.1 X.2.1 dX8_part_95 (lv_at hl 0 rfl) ?_
        refine lv_iload X.1 X.2.1 dX8_part_97 (lv_at hl 1 rfl) ?_
        refine lv_isub X.1 X.2.1 dX8_part_99 ?_
        refine n_any (fun x22 => ?_)
        refine lv_imul X.1 X.2.1 dX8_part_100 ?_
        refine n_any (fun x23 => ?_)
        refine n_ic X dX8_part_101 (by decide) (by decide) (fun x24 t24 => ?_)
        refine lv_iload X.1 X.2.1 dX8_part_102 (lv_at hl 1 rfl) ?_
        refine lv_imul X.1 X.2.1 dX8_part_104 ?_
        refine n_any (fun x25 => ?_)
        refine lv_iload_n X.1 X.2.1 dX8_part_105 rfl (lv_at hl 5 rfl) ?_
        refine lv_imul X.1 X.2.1 dX8_part_106 ?_
        refine n_any (fun x26 => ?_)
        refine lv_iadd X.1 X.2.1 dX8_part_107 ?_
        refine n_any (fun x27 => ?_)
        refine lv_iload X.1 X.2.1 dX8_part_108 (lv_at hl 1 rfl) ?_
        refine lv_iload X.1 X.2.1 dX8_part_110 (lv_at hl 0 rfl) ?_
        refine lv_iadd X.1 X.2.1 dX8_part_112 ?_
        refine n_any (fun x28 => ?_)
        refine k_cSi X hG (c_X8_shared l D cy τ _ hN hR (ty_Wf.sub (S' := []) hF (by decide)) x27 x28) ys_X8_shared q_569 ⟨rfl, rfl⟩ ⟨Nat.le_of_ble_eq_true rfl, Nat.le_of_ble_eq_true rfl⟩ rfl hl.1 rfl (Nat.le_of_ble_eq_true rfl) ⟨Nat.zero_le _, Nat.zero_le _⟩ dX8_part_113 (fun x30 u31 H locs hG po29 => ?_)
        obtain ⟨eu31, po29⟩ := po29
        rw [eu31] at hG
        have g30 := cI_rng x30
        refine tg_iasf X hG h19 rfl (cI_in (n := 72) (by omega)) dX8_part_116 (hF _ _ _ _ h19 (ty_in (n := 5000) rfl) (ty_rno rfl)) (fun H locs hG => ?_)
        refine lv_aload_n X.1 X.2.1 dX8_part_117 rfl (lv_at hl 2 rfl) ?_
        refine gf_8_3 X hG h900 q_70 dX8_part_118 (hN _ _ _ h900) (fun a32 h32 r32 => ?_)
        refine lv_iload_n X.1 X.2.1 dX8_part_121 rfl (lv_at hl 3 rfl) ?_
        refine n_ic X dX8_part_122 (by decide) (by decide) (fun x33 t33 => ?_)
        refine lv_iload X.1 X.2.1 dX8_part_123 (lv_at hl 0 rfl) ?_
        refine lv_imul X.1 X.2.1 dX8_part_125 ?_
        refine n_any (fun x34 => ?_)
        refine lv_iload_n X.1 X.2.1 dX8_part_126 rfl (lv_at hl 4 rfl) ?_
        refine lv_imul X.1 X.2.1 dX8_part_127 ?_
        refine n_any (fun x35 => ?_)
        refine lv_iload_n X.1 X.2.1 dX8_part_128 rfl (lv_at hl 5 rfl) ?_
        refine lv_iload X.1 X.2.1 dX8_part_129 (lv_at hl 1 rfl) ?_
        refine lv_iload X.1 X.2.1 dX8_part_131 (lv_at hl 0 rfl) ?_
        refine lv_isub X.1 X.2.1 dX8_part_133 ?_
        refine n_any (fun x36 => ?_)
        refine lv_imul X.1 X.2.1 dX8_part_134 ?_
        refine n_any (fun x37 => ?_)
        refine lv_iadd X.1 X.2.1 dX8_part_135 ?_
        refine n_any (fun x38 => ?_)
        refine lv_iload X.1 X.2.1 dX8_part_136 (lv_at hl 1 rfl) ?_
        refine lv_iload X.1 X.2.1 dX8_part_138 (lv_at hl 0 rfl) ?_
        refine lv_iadd X.1 X.2.1 dX8_part_140 ?_
        refine n_any (fun x39 => ?_)
        refine k_cSi X hG (c_X8_shared l D cy τ _ hN hR (ty_Wf.sub (S' := []) hF (by decide)) x38 x39) ys_X8_shared q_569 ⟨rfl, rfl⟩ ⟨Nat.le_of_ble_eq_true rfl, Nat.le_of_ble_eq_true rfl⟩ rfl hl.1 rfl (Nat.le_of_ble_eq_true rfl) ⟨Nat.zero_le _, Nat.zero_le _⟩ dX8_part_141 (fun x41 u42 H locs hG po40 => ?_)
        obtain ⟨eu42, po40⟩ := po40
        rw [eu42] at hG
        have g41 := cI_rng x41
        refine tg_iasf X hG h32 rfl (cI_in (n := 72) (by omega)) dX8_part_144 (hF _ _ _ _ h32 (ty_in (n := 5000) rfl) (ty_rno rfl)) (fun H locs hG => ?_)
        exact ret _ _ _ _ _ hG rfl dX8_part_145
      · refine lv_aload_n X.1 X.2.1 dX8_part_48 rfl (lv_at hl 0 rfl) ?_
        refine gf_8_4 X hG h900 q_72 dX8_part_49 (hN _ _ _ h900) (fun a43 h43 r43 => ?_)
        refine lv_iload_n X.1 X.2.1 dX8_part_52 rfl (lv_at hl 1 rfl) ?_
        refine n_ic X dX8_part_53 (by decide) (by decide) (fun x44 t44 => ?_)
        refine n_sub X dX8_part_54 (by omega) (by omega) (fun x45 t45 => ?_)
        refine lv_iload_n X.1 X.2.1 dX8_part_55 rfl (lv_at hl 2 rfl) ?_
        refine lv_ineg X.1 X.2.1 dX8_part_56 ?_
        refine n_any (fun x46 => ?_)
        refine tg_iasf X hG h43 rfl (cI_in (n := 72) (by omega)) dX8_part_57 (hF _ _ _ _ h43 (ty_in (n := 5000) rfl) (ty_rno rfl)) (fun H locs hG => ?_)
        refine lv_aload_n X.1 X.2.1 dX8_part_58 rfl (lv_at hl 0 rfl) ?_
        refine gf_8_3 X hG h900 q_70 dX8_part_59 (hN _ _ _ h900) (fun a47 h47 r47 => ?_)
        refine lv_iload_n X.1 X.2.1 dX8_part_62 rfl (lv_at hl 1 rfl) ?_
        refine lv_iload_n X.1 X.2.1 dX8_part_63 rfl (lv_at hl 3 rfl) ?_
        refine lv_ineg X.1 X.2.1 dX8_part_64 ?_
        refine n_any (fun x48 => ?_)
        refine tg_iasf X hG h47 rfl (cI_in (n := 72) (by omega)) dX8_part_65 (hF _ _ _ _ h47 (ty_in (n := 5000) rfl) (ty_rno rfl)) (fun H locs hG => ?_)
        refine lv_goto (tgt := 145) X.1 X.2.1 dX8_part_66 (by decide) ?_
        exact ret _ _ _ _ _ hG rfl dX8_part_145
    · refine lv_aload_n X.1 X.2.1 dX8_part_19 rfl (lv_at hl 0 rfl) ?_
      refine gf_8_4 X hG h900 q_72 dX8_part_20 (hN _ _ _ h900) (fun a49 h49 r49 => ?_)
      refine lv_iload_n X.1 X.2.1 dX8_part_23 rfl (lv_at hl 1 rfl) ?_
      refine n_ic X dX8_part_24 (by decide) (by decide) (fun x50 t50 => ?_)
      refine n_sub X dX8_part_25 (by omega) (by omega) (fun x51 t51 => ?_)
      refine lv_iload_n X.1 X.2.1 dX8_part_26 rfl (lv_at hl 2 rfl) ?_
      refine tg_iasf X hG h49 rfl (cI_in (n := 72) (by omega)) dX8_part_27 (hF _ _ _ _ h49 (ty_in (n := 5000) rfl) (ty_rno rfl)) (fun H locs hG => ?_)
      refine lv_aload_n X.1 X.2.1 dX8_part_28 rfl (lv_at hl 0 rfl) ?_
      refine gf_8_3 X hG h900 q_70 dX8_part_29 (hN _ _ _ h900) (fun a52 h52 r52 => ?_)
      refine lv_iload_n X.1 X.2.1 dX8_part_32 rfl (lv_at hl 1 rfl) ?_
      refine lv_iload_n X.1 X.2.1 dX8_part_33 rfl (lv_at hl 3 rfl) ?_
      refine tg_iasf X hG h52 rfl (cI_in (n := 72) (by omega)) dX8_part_34 (hF _ _ _ _ h52 (ty_in (n := 5000) rfl) (ty_rno rfl)) (fun H locs hG => ?_)
      refine lv_goto (tgt := 145) X.1 X.2.1 dX8_part_35 (by decide) ?_
      exact ret _ _ _ _ _ hG rfl dX8_part_145
  · exact ret _ _ _ _ _ hG rfl dX8_part_8
set_option maxHeartbeats 4000000 in
set_option maxRecDepth 100000 in
theorem c_X8_step (l : Launch) (D : va_G) (cy : Nat → ClassId) (τ : ty_T) (ρ : ty_R) {M : md_T} (hN : ty_N τ ρ) (hR : ty_Rg M τ ρ) (hF : ty_Wf M τ ρ [5000]) {a900 : Nat} (h900 : τ a900 = some (0, 8)) : KV l D cy yX8_step cX8_step 6 (rL 3) τ ρ [.ref a900] (fun w => w = ρ) := by
  refine k_metV "EdgeEchoes$Wire" rfl (by decide +kernel) (Nat.le_of_ble_eq_true rfl) ?_
  intro p e s m args below meth c Q ls X hG hl ret
  have hl : lv_has ls 6 [(0, .ref a900)] := hl
  obtain ⟨x1, r1, hG⟩ := tg_pin hG h900 7 rfl
  have b1 := (hR _ _ _ _ h900 r1) _ _ rfl
  refine lv_aload_n X.1 X.2.1 dX8_step_0 rfl (lv_at hl 0 rfl) ?_
  refine gf_8_7 X hG h900 q_81 dX8_step_1 (fun x2 r2 => ?_)
  have e2 := exs_rd r2 (y := x1) rfl
  subst e2
  refine n_ic X dX8_step_4 (by decide) (by decide) (fun x3 t3 => ?_)
  refine n_icmp_lt (tgt := 17) X dX8_step_5 (by decide) (fun c4 => ?_) (fun c4 => ?_)
  · exact ret _ _ _ _ _ (exs_cl hG) rfl dX8_step_17
  · refine lv_aload_n X.1 X.2.1 dX8_step_8 rfl (lv_at hl 0 rfl) ?_
    refine gf_8_7 X hG h900 q_81 dX8_step_9 (fun x5 r5 => ?_)
    have e5 := exs_rd r5 (y := x1) rfl
    subst e5
    refine n_bp X dX8_step_12 (by decide) (by decide) (fun x6 t6 => ?_)
    refine n_icmp_le (tgt := 18) X dX8_step_14 (by decide) (fun c7 => ?_) (fun c7 => ?_)
    · refine lv_aload_n X.1 X.2.1 dX8_step_18 rfl (lv_at hl 0 rfl) ?_
      refine gf_8_2 X hG h900 q_69 dX8_step_19 ((exs_N hN) _ _ _ h900) (fun a8 h8 r8 => ?_)
      refine n_ic X dX8_step_22 (by decide) (by decide) (fun x9 t9 => ?_)
      refine tg_iald X hG h8 rfl (cI_in (n := 72) (by omega)) dX8_step_23 (fun x10 r10 => ?_)
      refine lv_istore_n (lv' := [(1, .int x10), (0, .ref a900)]) X.1 X.2.1 dX8_step_24 rfl hl (by decide) rfl (fun ls hl => ?_)
      refine lv_aload_n X.1 X.2.1 dX8_step_25 rfl (lv_at hl 1 rfl) ?_
      refine gf_8_3 X hG h900 q_70 dX8_step_26 ((exs_N hN) _ _ _ h900) (fun a11 h11 r11 => ?_)
      refine n_ic X dX8_step_29 (by decide) (by decide) (fun x12 t12 => ?_)
      refine tg_iald X hG h11 rfl (cI_in (n := 72) (by omega)) dX8_step_30 (fun x13 r13 => ?_)
      refine lv_istore_n (lv' := [(2, .int x13), (1, .int x10), (0, .ref a900)]) X.1 X.2.1 dX8_step_31 rfl hl (by decide) rfl (fun ls hl => ?_)
      refine lv_aload_n X.1 X.2.1 dX8_step_32 rfl (lv_at hl 2 rfl) ?_
      refine gf_8_3 X hG h900 q_70 dX8_step_33 ((exs_N hN) _ _ _ h900) (fun a14 h14 r14 => ?_)
      refine n_ic X dX8_step_36 (by decide) (by decide) (fun x15 t15 => ?_)
      refine lv_iload_n X.1 X.2.1 dX8_step_37 rfl (lv_at hl 1 rfl) ?_
      refine lv_aload_n X.1 X.2.1 dX8_step_38 rfl (lv_at hl 2 rfl) ?_
      refine k_cVi X hG (c_X8_sourceVolts l D cy τ _ (exs_N hN) (exs_R hR) (exs_F1 (ty_Wf.sub (S' := []) hF (by decide)) h900 (by decide)) h900) h900 rfl yv_X8_sourceVolts q_565 ⟨rfl, rfl⟩ ⟨Nat.le_of_ble_eq_true rfl, Nat.le_of_ble_eq_true rfl⟩ rfl hl.1 rfl (Nat.le_of_ble_eq_true rfl) ⟨Nat.zero_le _, Nat.zero_le _⟩ dX8_step_39 (fun x17 u18 H locs hG po16 => ?_)
      obtain ⟨eu18, po16⟩ := po16
      rw [eu18] at hG
      have g17 := cI_rng x17
      refine lv_imul X.1 X.2.1 dX8_step_42 ?_
      refine n_any (fun x19 => ?_)
      refine lv_aload_n X.1 X.2.1 dX8_step_43 rfl (lv_at hl 2 rfl) ?_
      refine gf_8_8 X hG h900 q_84 dX8_step_44 (fun x20 r20 => ?_)
      have g20 := cI_rng x20
      refine lv_iload_n X.1 X.2.1 dX8_step_47 rfl (lv_at hl 1 rfl) ?_
      refine lv_isub X.1 X.2.1 dX8_step_48 ?_
      refine n_any (fun x21 => ?_)
      refine lv_aload_n X.1 X.2.1 dX8_step_49 rfl (lv_at hl 2 rfl) ?_
      refine gf_8_4 X hG h900 q_72 dX8_step_50 ((exs_N hN) _ _ _ h900) (fun a22 h22 r22 => ?_)
      refine n_ic X dX8_step_53 (by decide) (by decide) (fun x23 t23 => ?_)
      refine tg_iald X hG h22 rfl (cI_in (n := 72) (by omega)) dX8_step_54 (fun x24 r24 => ?_)
      refine lv_imul X.1 X.2.1 dX8_step_55 ?_
      refine n_any (fun x25 => ?_)
      refine lv_iadd X.1 X.2.1 dX8_step_56 ?_
      refine n_any (fun x26 => ?_)
      refine lv_aload_n X.1 X.2.1 dX8_step_57 rfl (lv_at hl 2 rfl) ?_
      refine gf_8_8 X hG h900 q_84 dX8_step_58 (fun x27 r27 => ?_)
      have g27 := cI_rng x27
      refine lv_iload_n X.1 X.2.1 dX8_step_61 rfl (lv_at hl 1 rfl) ?_
      refine lv_iadd X.1 X.2.1 dX8_step_62 ?_
      refine n_any (fun x28 => ?_)
      refine k_cSi X hG (c_X8_shared l D cy τ _ (exs_N hN) (exs_R hR) (exs_F1 (ty_Wf.sub (S' := []) hF (by decide)) h900 (by decide)) x26 x28) ys_X8_shared q_569 ⟨rfl, rfl⟩ ⟨Nat.le_of_ble_eq_true rfl, Nat.le_of_ble_eq_true rfl⟩ rfl hl.1 rfl (Nat.le_of_ble_eq_true rfl) ⟨Nat.zero_le _, Nat.zero_le _⟩ dX8_step_63 (fun x30 u31 H locs hG po29 => ?_)
      obtain ⟨eu31, po29⟩ := po29
      rw [eu31] at hG
      have g30 := cI_rng x30
      refine tg_iasf X hG h14 rfl (cI_in (n := 72) (by omega)) dX8_step_66 ((exs_F1 (ty_Wf.sub (S' := [5000]) hF (by decide)) h900 (by decide)) _ _ _ _ h14 (ty_in (n := 5000) rfl) (ty_rno rfl)) (fun H locs hG => ?_)
      refine n_ic X dX8_step_67 (by decide) (by decide) (fun x32 t32 => ?_)
      refine lv_istore_n (lv' := [(3, .int x32), (2, .int x13), (1, .int x10), (0, .ref a900)]) X.1 X.2.1 dX8_step_68 rfl hl (by decide) rfl (fun ls hl => ?_)
      have J69 : ∀ (n : Nat) (H : Heap) (locs : List Loc) (ls : Array Slot) (x33 : Int32) (x34 : Int32), (1 ≤ x34.toInt ∧ x34.toInt ≤ 72) → (72 - x34.toInt).toNat < n → TG D cy τ (exs ρ a900 (P1 7 x1)) (ty_d τ) s.heap H locs → lv_has ls 6 [(0, .ref a900), (1, .int x10), (2, .int x33), (3, .int x34)] → W p l e (rL 3) s m args below meth c H locs 0 0 Q (F0 m 69 ls []) := by
        intro n
        induction n with
        | zero => intro H locs ls x33 x34 bx34 hm69 hG hl; exact absurd hm69 (Nat.not_lt_zero _)
        | succ n ih69 =>
          intro H locs ls x33 x34 bx34 hm69 hG hl
          have gx33 := cI_rng x33
          refine lv_iload_n X.1 X.2.1 dX8_step_69 rfl (lv_at hl 3 rfl) ?_
          refine lv_aload_n X.1 X.2.1 dX8_step_70 rfl (lv_at hl 0 rfl) ?_
          refine gf_8_7 X hG h900 q_81 dX8_step_71 (fun x35 r35 => ?_)
          have e35 := exs_rd r35 (y := x1) rfl
          subst e35
          refine n_icmp_ge (tgt := 157) X dX8_step_74 (by decide) (fun c36 => ?_) (fun c36 => ?_)
          · refine lv_aload_n X.1 X.2.1 dX8_step_157 rfl (lv_at hl 0 rfl) ?_
            refine gf_8_4 X hG h900 q_72 dX8_step_158 ((exs_N hN) _ _ _ h900) (fun a37 h37 r37 => ?_)
            refine lv_aload_n X.1 X.2.1 dX8_step_161 rfl (lv_at hl 0 rfl) ?_
            refine gf_8_7 X hG h900 q_81 dX8_step_162 (fun x38 r38 => ?_)
            have e38 := exs_rd r38 (y := x1) rfl
            subst e38
            refine n_ic X dX8_step_165 (by decide) (by decide) (fun x39 t39 => ?_)
            refine n_sub X dX8_step_166 (by omega) (by omega) (fun x40 t40 => ?_)
            refine lv_aload_n X.1 X.2.1 dX8_step_167 rfl (lv_at hl 0 rfl) ?_
            refine lv_iload_n X.1 X.2.1 dX8_step_168 rfl (lv_at hl 2 rfl) ?_
            refine k_cVi X hG (c_X8_thrownBack l D cy τ _ (exs_N hN) (exs_R hR) (exs_F1 (ty_Wf.sub (S' := []) hF (by decide)) h900 (by decide)) h900 x33) h900 rfl yv_X8_thrownBack q_584 ⟨rfl, rfl⟩ ⟨Nat.le_of_ble_eq_true rfl, Nat.le_of_ble_eq_true rfl⟩ rfl hl.1 rfl (Nat.le_of_ble_eq_true rfl) ⟨Nat.zero_le _, Nat.zero_le _⟩ dX8_step_169 (fun x42 u43 H locs hG po41 => ?_)
            obtain ⟨eu43, po41⟩ := po41
            rw [eu43] at hG
            have g42 := cI_rng x42
            refine tg_iasf X hG h37 rfl (cI_in (n := 72) (by omega)) dX8_step_172 ((exs_F1 (ty_Wf.sub (S' := [5000]) hF (by decide)) h900 (by decide)) _ _ _ _ h37 (ty_in (n := 5000) rfl) (ty_rno rfl)) (fun H locs hG => ?_)
            exact ret _ _ _ _ _ (exs_cl hG) rfl dX8_step_173
          · refine lv_iload_n X.1 X.2.1 dX8_step_77 rfl (lv_at hl 2 rfl) ?_
            refine lv_istore (lv' := [(4, .int x33), (0, .ref a900), (1, .int x10), (2, .int x33), (3, .int x34)]) X.1 X.2.1 dX8_step_78 hl (by decide) rfl (fun ls hl => ?_)
            refine lv_aload_n X.1 X.2.1 dX8_step_80 rfl (lv_at hl 1 rfl) ?_
            refine gf_8_4 X hG h900 q_72 dX8_step_81 ((exs_N hN) _ _ _ h900) (fun a44 h44 r44 => ?_)
            refine lv_iload_n X.1 X.2.1 dX8_step_84 rfl (lv_at hl 4 rfl) ?_
            refine tg_iald X hG h44 rfl (cI_in (n := 72) (by omega)) dX8_step_85 (fun x45 r45 => ?_)
            refine lv_istore (lv' := [(5, .int x45), (4, .int x33), (0, .ref a900), (1, .int x10), (2, .int x33), (3, .int x34)]) X.1 X.2.1 dX8_step_86 hl (by decide) rfl (fun ls hl => ?_)
            refine lv_aload_n X.1 X.2.1 dX8_step_88 rfl (lv_at hl 2 rfl) ?_
            refine gf_8_3 X hG h900 q_70 dX8_step_89 ((exs_N hN) _ _ _ h900) (fun a46 h46 r46 => ?_)
            refine lv_iload_n X.1 X.2.1 dX8_step_92 rfl (lv_at hl 5 rfl) ?_
            refine tg_iald X hG h46 rfl (cI_in (n := 72) (by omega)) dX8_step_93 (fun x47 r47 => ?_)
            refine lv_istore_n (lv' := [(2, .int x47), (5, .int x45), (4, .int x33), (0, .ref a900), (1, .int x10), (3, .int x34)]) X.1 X.2.1 dX8_step_94 rfl hl (by decide) rfl (fun ls hl => ?_)
            refine lv_aload_n X.1 X.2.1 dX8_step_95 rfl (lv_at hl 3 rfl) ?_
            refine gf_8_5 X hG h900 q_75 dX8_step_96 ((exs_N hN) _ _ _ h900) (fun a48 h48 r48 => ?_)
            refine lv_iload_n X.1 X.2.1 dX8_step_99 rfl (lv_at hl 5 rfl) ?_
            refine tg_iald X hG h48 rfl (cI_in (n := 72) (by omega)) dX8_step_100 (fun x49 r49 => ?_)
            have J151 : ∀ (H : Heap) (locs : List Loc) (ls : Array Slot), TG D cy τ (exs ρ a900 (P1 7 x1)) (ty_d τ) s.heap H locs → lv_has ls 6 [(0, .ref a900), (1, .int x10), (2, .int x47), (3, .int x34), (4, .int x33), (5, .int x45)] → W p l e (rL 3) s m args below meth c H locs 0 0 Q (F0 m 151 ls []) := by
              intro H locs ls hG hl
              refine n_inc X (fun z51 => [(3, .int z51), (0, .ref a900), (1, .int x10), (2, .int x47), (4, .int x33), (5, .int x45)]) dX8_step_151 hl (k := 3) rfl (by decide) (by decide) (by omega) (by omega) (by decide) (fun _ => rfl) (fun x50 ls t50 hl => ?_)
              have hl : lv_has ls 6 [(3, .int x50), (0, .ref a900), (1, .int x10), (2, .int x47), (4, .int x33), (5, .int x45)] := hl
              refine lv_goto (tgt := 69) X.1 X.2.1 dX8_step_154 (by decide) ?_
              exact ih69 _ _ _ x47 x50 (by omega) (by omega) hG (lv_sub hl [1, 2, 3, 0] rfl)
            have J142 : ∀ (H : Heap) (locs : List Loc) (ls : Array Slot), TG D cy τ (exs ρ a900 (P1 7 x1)) (ty_d τ) s.heap H locs → lv_has ls 6 [(0, .ref a900), (1, .int x10), (2, .int x47), (3, .int x34), (4, .int x33), (5, .int x45)] → W p l e (rL 3) s m args below meth c H locs 0 0 Q (F0 m 142 ls []) := by
              intro H locs ls hG hl
              refine lv_aload_n X.1 X.2.1 dX8_step_142 rfl (lv_at hl 0 rfl) ?_
              refine lv_iload_n X.1 X.2.1 dX8_step_143 rfl (lv_at hl 3 rfl) ?_
              refine lv_iload X.1 X.2.1 dX8_step_144 (lv_at hl 4 rfl) ?_
              refine lv_iload X.1 X.2.1 dX8_step_146 (lv_at hl 5 rfl) ?_
              refine k_cVv X hG (c_X8_part l D cy τ _ (exs_N hN) (exs_R hR) (exs_F1 (ty_Wf.sub (S' := [5000]) hF (by decide)) h900 (by decide)) h900 x34 x33 x45) h900 rfl yv_X8_part q_576 ⟨rfl, rfl⟩ ⟨Nat.le_of_ble_eq_true rfl, Nat.le_of_ble_eq_true rfl⟩ rfl hl.1 rfl (Nat.le_of_ble_eq_true rfl) ⟨Nat.zero_le _, Nat.zero_le _⟩ dX8_step_148 (fun u54 H locs hG po52 => ?_)
              rw [po52] at hG
              exact J151 _ _ _  hG (lv_sub hl [0, 1, 2, 3, 4, 5] rfl)
            refine n_if_ne (tgt := 142) X dX8_step_101 (by decide) (fun c55 => ?_) (fun c55 => ?_)
            · exact J142 _ _ _  hG (lv_sub hl [3, 4, 0, 5, 2, 1] rfl)
            · refine lv_aload_n X.1 X.2.1 dX8_step_104 rfl (lv_at hl 3 rfl) ?_
              refine gf_8_2 X hG h900 q_69 dX8_step_105 ((exs_N hN) _ _ _ h900) (fun a56 h56 r56 => ?_)
              refine lv_iload_n X.1 X.2.1 dX8_step_108 rfl (lv_at hl 5 rfl) ?_
              refine n_ic X dX8_step_109 (by decide) (by decide) (fun x57 t57 => ?_)
              refine n_sub X dX8_step_110 (by omega) (by omega) (fun x58 t58 => ?_)
              refine tg_iald X hG h56 rfl (cI_in (n := 72) (by omega)) dX8_step_111 (fun x59 r59 => ?_)
              refine lv_aload_n X.1 X.2.1 dX8_step_112 rfl (lv_at hl 3 rfl) ?_
              refine gf_8_2 X hG h900 q_69 dX8_step_113 ((exs_N hN) _ _ _ h900) (fun a60 h60 r60 => ?_)
              refine lv_iload_n X.1 X.2.1 dX8_step_116 rfl (lv_at hl 5 rfl) ?_
              refine tg_iald X hG h60 rfl (cI_in (n := 72) (by omega)) dX8_step_117 (fun x61 r61 => ?_)
              refine n_icmp_ne (tgt := 142) X dX8_step_118 (by decide) (fun c62 => ?_) (fun c62 => ?_)
              · exact J142 _ _ _  hG (lv_sub hl [3, 4, 0, 5, 2, 1] rfl)
              · refine lv_aload_n X.1 X.2.1 dX8_step_121 rfl (lv_at hl 3 rfl) ?_
                refine gf_8_4 X hG h900 q_72 dX8_step_122 ((exs_N hN) _ _ _ h900) (fun a63 h63 r63 => ?_)
                refine lv_iload_n X.1 X.2.1 dX8_step_125 rfl (lv_at hl 5 rfl) ?_
                refine n_ic X dX8_step_126 (by decide) (by decide) (fun x64 t64 => ?_)
                refine n_sub X dX8_step_127 (by omega) (by omega) (fun x65 t65 => ?_)
                refine lv_iload X.1 X.2.1 dX8_step_128 (lv_at hl 1 rfl) ?_
                refine tg_iasf X hG h63 rfl (cI_in (n := 72) (by omega)) dX8_step_130 ((exs_F1 (ty_Wf.sub (S' := [5000]) hF (by decide)) h900 (by decide)) _ _ _ _ h63 (ty_in (n := 5000) rfl) (ty_rno rfl)) (fun H locs hG => ?_)
                refine lv_aload_n X.1 X.2.1 dX8_step_131 rfl (lv_at hl 3 rfl) ?_
                refine gf_8_3 X hG h900 q_70 dX8_step_132 ((exs_N hN) _ _ _ h900) (fun a66 h66 r66 => ?_)
                refine lv_iload_n X.1 X.2.1 dX8_step_135 rfl (lv_at hl 5 rfl) ?_
                refine lv_iload X.1 X.2.1 dX8_step_136 (lv_at hl 2 rfl) ?_
                refine tg_iasf X hG h66 rfl (cI_in (n := 72) (by omega)) dX8_step_138 ((exs_F1 (ty_Wf.sub (S' := [5000]) hF (by decide)) h900 (by decide)) _ _ _ _ h66 (ty_in (n := 5000) rfl) (ty_rno rfl)) (fun H locs hG => ?_)
                refine lv_goto (tgt := 151) X.1 X.2.1 dX8_step_139 (by decide) ?_
                exact J151 _ _ _  hG (lv_sub hl [3, 4, 0, 5, 2, 1] rfl)
      exact J69 _ _ _ _ x13 x32 (by omega) (Nat.lt_succ_self _) hG (lv_sub hl [3, 2, 1, 0] rfl)
    · exact absurd c7 (by omega)
