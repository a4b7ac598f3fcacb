set_option maxHeartbeats 4000000 in
set_option maxRecDepth 100000 in
theorem c_X1_has (l : Launch) (D : va_G) (cy : Nat → ClassId) (τ : ty_T) (ρ : ty_R) (hN : ty_N τ ρ) (hF : ty_Fr τ ρ) {a900 : Nat} (h900 : τ a900 = some (0, 1)) (x901 : Int32) : KI l D cy yX1_has cX1_has 2 .boolean (rL 0) τ ρ [.ref a900, .int x901] (fun r u => u = ρ ∧ (r.toInt = 0 ∨ r.toInt = 1) ∧ (r.toInt ≠ 0 → 0 ≤ x901.toInt ∧ x901.toInt ≤ 5)) := by
  refine k_metI "EdgeEchoes$Gates" rfl (by decide) (Nat.le_of_ble_eq_true rfl) (fun r u h => (cI_nar (cI_01 h.2.1)).1) ?_
  intro p e s m args below meth c Q ls X hG hl ret
  have hl : lv_has ls 2 [(0, .ref a900), (1, .int x901)] := hl
  refine lv_iload_n X.1 X.2.1 dX1_has_0 rfl (lv_at hl 1 rfl) ?_
  refine n_if_lt (tgt := 22) X dX1_has_1 (by decide) (fun c1 => ?_) (fun c1 => ?_)
  · refine n_ic X dX1_has_22 (by decide) (by decide) (fun x2 t2 => ?_)
    exact ret _ _ _ _ x2 _ hG ⟨rfl, by omega⟩ dX1_has_23
  · refine lv_iload_n X.1 X.2.1 dX1_has_4 rfl (lv_at hl 1 rfl) ?_
    refine lv_aload_n X.1 X.2.1 dX1_has_5 rfl (lv_at hl 0 rfl) ?_
    refine gf_1_6 X hG h900 q_144 dX1_has_6 (fun x3 r3 => ?_)
    refine n_icmp_ge (tgt := 22) X dX1_has_9 (by decide) (fun c4 => ?_) (fun c4 => ?_)
    · refine n_ic X dX1_has_22 (by decide) (by decide) (fun x5 t5 => ?_)
      exact ret _ _ _ _ x5 _ hG ⟨rfl, by omega⟩ dX1_has_23
    · refine lv_iload_n X.1 X.2.1 dX1_has_12 rfl (lv_at hl 1 rfl) ?_
      refine n_bp X dX1_has_13 (by decide) (by decide) (fun x6 t6 => ?_)
      refine n_icmp_ge (tgt := 22) X dX1_has_15 (by decide) (fun c7 => ?_) (fun c7 => ?_)
      · refine n_ic X dX1_has_22 (by decide) (by decide) (fun x8 t8 => ?_)
        exact ret _ _ _ _ x8 _ hG ⟨rfl, by omega⟩ dX1_has_23
      · refine n_ic X dX1_has_18 (by decide) (by decide) (fun x9 t9 => ?_)
        refine lv_goto (tgt := 23) X.1 X.2.1 dX1_has_19 (by decide) ?_
        exact ret _ _ _ _ x9 _ hG ⟨rfl, by omega⟩ dX1_has_23
set_option maxHeartbeats 4000000 in
set_option maxRecDepth 100000 in
theorem c_X8_hasPiece (l : Launch) (D : va_G) (cy : Nat → ClassId) (τ : ty_T) (ρ : ty_R) (hN : ty_N τ ρ) (hF : ty_Fr τ ρ) {a900 : Nat} (h900 : τ a900 = some (0, 8)) (x901 : Int32) : KI l D cy yX8_hasPiece cX8_hasPiece 2 .boolean (rL 0) τ ρ [.ref a900, .int x901] (fun r u => u = ρ ∧ (r.toInt = 0 ∨ r.toInt = 1) ∧ (r.toInt ≠ 0 → 0 ≤ x901.toInt ∧ x901.toInt ≤ 7)) := by
  refine k_metI "EdgeEchoes$Wire" rfl (by decide) (Nat.le_of_ble_eq_true rfl) (fun r u h => (cI_nar (cI_01 h.2.1)).1) ?_
  intro p e s m args below meth c Q ls X hG hl ret
  have hl : lv_has ls 2 [(0, .ref a900), (1, .int x901)] := hl
  refine lv_iload_n X.1 X.2.1 dX8_hasPiece_0 rfl (lv_at hl 1 rfl) ?_
  refine n_if_lt (tgt := 22) X dX8_hasPiece_1 (by decide) (fun c1 => ?_) (fun c1 => ?_)
  · refine n_ic X dX8_hasPiece_22 (by decide) (by decide) (fun x2 t2 => ?_)
    exact ret _ _ _ _ x2 _ hG ⟨rfl, by omega⟩ dX8_hasPiece_23
  · refine lv_iload_n X.1 X.2.1 dX8_hasPiece_4 rfl (lv_at hl 1 rfl) ?_
    refine lv_aload_n X.1 X.2.1 dX8_hasPiece_5 rfl (lv_at hl 0 rfl) ?_
    refine gf_8_6 X hG h900 q_78 dX8_hasPiece_6 (fun x3 r3 => ?_)
    refine n_icmp_ge (tgt := 22) X dX8_hasPiece_9 (by decide) (fun c4 => ?_) (fun c4 => ?_)
    · refine n_ic X dX8_hasPiece_22 (by decide) (by decide) (fun x5 t5 => ?_)
      exact ret _ _ _ _ x5 _ hG ⟨rfl, by omega⟩ dX8_hasPiece_23
    · refine lv_iload_n X.1 X.2.1 dX8_hasPiece_12 rfl (lv_at hl 1 rfl) ?_
      refine n_bp X dX8_hasPiece_13 (by decide) (by decide) (fun x6 t6 => ?_)
      refine n_icmp_ge (tgt := 22) X dX8_hasPiece_15 (by decide) (fun c7 => ?_) (fun c7 => ?_)
      · refine n_ic X dX8_hasPiece_22 (by decide) (by decide) (fun x8 t8 => ?_)
        exact ret _ _ _ _ x8 _ hG ⟨rfl, by omega⟩ dX8_hasPiece_23
      · refine n_ic X dX8_hasPiece_18 (by decide) (by decide) (fun x9 t9 => ?_)
        refine lv_goto (tgt := 23) X.1 X.2.1 dX8_hasPiece_19 (by decide) ?_
        exact ret _ _ _ _ x9 _ hG ⟨rfl, by omega⟩ dX8_hasPiece_23
set_option maxHeartbeats 4000000 in
set_option maxRecDepth 100000 in
theorem c_X8_hasPlace (l : Launch) (D : va_G) (cy : Nat → ClassId) (τ : ty_T) (ρ : ty_R) (hN : ty_N τ ρ) (hF : ty_Fr τ ρ) {a900 : Nat} (h900 : τ a900 = some (0, 8)) (x901 : Int32) : KI l D cy yX8_hasPlace cX8_hasPlace 2 .boolean (rL 0) τ ρ [.ref a900, .int x901] (fun r u => u = ρ ∧ (r.toInt = 0 ∨ r.toInt = 1) ∧ (r.toInt ≠ 0 → 1 ≤ x901.toInt ∧ x901.toInt ≤ 71)) := by
  refine k_metI "EdgeEchoes$Wire" rfl (by decide) (Nat.le_of_ble_eq_true rfl) (fun r u h => (cI_nar (cI_01 h.2.1)).1) ?_
  intro p e s m args below meth c Q ls X hG hl ret
  have hl : lv_has ls 2 [(0, .ref a900), (1, .int x901)] := hl
  refine lv_iload_n X.1 X.2.1 dX8_hasPlace_0 rfl (lv_at hl 1 rfl) ?_
  refine n_ic X dX8_hasPlace_1 (by decide) (by decide) (fun x1 t1 => ?_)
  refine n_icmp_lt (tgt := 23) X dX8_hasPlace_2 (by decide) (fun c2 => ?_) (fun c2 => ?_)
  · refine n_ic X dX8_hasPlace_23 (by decide) (by decide) (fun x3 t3 => ?_)
    exact ret _ _ _ _ x3 _ hG ⟨rfl, by omega⟩ dX8_hasPlace_24
  · refine lv_iload_n X.1 X.2.1 dX8_hasPlace_5 rfl (lv_at hl 1 rfl) ?_
    refine lv_aload_n X.1 X.2.1 dX8_hasPlace_6 rfl (lv_at hl 0 rfl) ?_
    refine gf_8_7 X hG h900 q_81 dX8_hasPlace_7 (fun x4 r4 => ?_)
    refine n_icmp_ge (tgt := 23) X dX8_hasPlace_10 (by decide) (fun c5 => ?_) (fun c5 => ?_)
    · refine n_ic X dX8_hasPlace_23 (by decide) (by decide) (fun x6 t6 => ?_)
      exact ret _ _ _ _ x6 _ hG ⟨rfl, by omega⟩ dX8_hasPlace_24
    · refine lv_iload_n X.1 X.2.1 dX8_hasPlace_13 rfl (lv_at hl 1 rfl) ?_
      refine n_bp X dX8_hasPlace_14 (by decide) (by decide) (fun x7 t7 => ?_)
      refine n_icmp_ge (tgt := 23) X dX8_hasPlace_16 (by decide) (fun c8 => ?_) (fun c8 => ?_)
      · refine n_ic X dX8_hasPlace_23 (by decide) (by decide) (fun x9 t9 => ?_)
        exact ret _ _ _ _ x9 _ hG ⟨rfl, by omega⟩ dX8_hasPlace_24
      · refine n_ic X dX8_hasPlace_19 (by decide) (by decide) (fun x10 t10 => ?_)
        refine lv_goto (tgt := 24) X.1 X.2.1 dX8_hasPlace_20 (by decide) ?_
        exact ret _ _ _ _ x10 _ hG ⟨rfl, by omega⟩ dX8_hasPlace_24
set_option maxHeartbeats 4000000 in
set_option maxRecDepth 100000 in
theorem c_X8_voltsAt (l : Launch) (D : va_G) (cy : Nat → ClassId) (τ : ty_T) (ρ : ty_R) (hN : ty_N τ ρ) (hF : ty_Fr τ ρ) {a900 : Nat} (h900 : τ a900 = some (0, 8)) (x901 : Int32) : KI l D cy yX8_voltsAt cX8_voltsAt 2 .int (rL 0) τ ρ [.ref a900, .int x901] (fun r u => u = ρ ∧ True) := by
  refine k_metI "EdgeEchoes$Wire" rfl (by decide) (Nat.le_of_ble_eq_true rfl) (fun _ _ _ => rfl) ?_
  intro p e s m args below meth c Q ls X hG hl ret
  have hl : lv_has ls 2 [(0, .ref a900), (1, .int x901)] := hl
  refine lv_iload_n X.1 X.2.1 dX8_voltsAt_0 rfl (lv_at hl 1 rfl) ?_
  refine n_if_lt (tgt := 34) X dX8_voltsAt_1 (by decide) (fun c1 => ?_) (fun c1 => ?_)
  · refine n_ic X dX8_voltsAt_34 (by decide) (by decide) (fun x2 t2 => ?_)
    exact ret _ _ _ _ x2 _ hG ⟨rfl, trivial⟩ dX8_voltsAt_35
  · refine lv_iload_n X.1 X.2.1 dX8_voltsAt_4 rfl (lv_at hl 1 rfl) ?_
    refine lv_aload_n X.1 X.2.1 dX8_voltsAt_5 rfl (lv_at hl 0 rfl) ?_
    refine gf_8_7 X hG h900 q_81 dX8_voltsAt_6 (fun x3 r3 => ?_)
    refine n_icmp_ge (tgt := 34) X dX8_voltsAt_9 (by decide) (fun c4 => ?_) (fun c4 => ?_)
    · refine n_ic X dX8_voltsAt_34 (by decide) (by decide) (fun x5 t5 => ?_)
      exact ret _ _ _ _ x5 _ hG ⟨rfl, trivial⟩ dX8_voltsAt_35
    · refine lv_iload_n X.1 X.2.1 dX8_voltsAt_12 rfl (lv_at hl 1 rfl) ?_
      refine n_bp X dX8_voltsAt_13 (by decide) (by decide) (fun x6 t6 => ?_)
      refine n_icmp_ge (tgt := 34) X dX8_voltsAt_15 (by decide) (fun c7 => ?_) (fun c7 => ?_)
      · refine n_ic X dX8_voltsAt_34 (by decide) (by decide) (fun x8 t8 => ?_)
        exact ret _ _ _ _ x8 _ hG ⟨rfl, trivial⟩ dX8_voltsAt_35
      · refine lv_aload_n X.1 X.2.1 dX8_voltsAt_18 rfl (lv_at hl 0 rfl) ?_
        refine gf_8_3 X hG h900 q_70 dX8_voltsAt_19 (hN _ _ _ h900) (fun a9 h9 r9 => ?_)
        refine lv_iload_n X.1 X.2.1 dX8_voltsAt_22 rfl (lv_at hl 1 rfl) ?_
        refine tg_iald X hG h9 rfl (cI_in (n := 72) (by omega)) dX8_voltsAt_23 (fun x10 r10 => ?_)
        refine lv_aload_n X.1 X.2.1 dX8_voltsAt_24 rfl (lv_at hl 0 rfl) ?_
        refine gf_8_4 X hG h900 q_72 dX8_voltsAt_25 (hN _ _ _ h900) (fun a11 h11 r11 => ?_)
        refine lv_iload_n X.1 X.2.1 dX8_voltsAt_28 rfl (lv_at hl 1 rfl) ?_
        refine tg_iald X hG h11 rfl (cI_in (n := 72) (by omega)) dX8_voltsAt_29 (fun x12 r12 => ?_)
        refine lv_iadd X.1 X.2.1 dX8_voltsAt_30 ?_
        refine n_any (fun x13 => ?_)
        refine lv_goto (tgt := 35) X.1 X.2.1 dX8_voltsAt_31 (by decide) ?_
        exact ret _ _ _ _ x13 _ hG ⟨rfl, trivial⟩ dX8_voltsAt_35
set_option maxHeartbeats 4000000 in
set_option maxRecDepth 100000 in
theorem c_X1_allEdges (l : Launch) (D : va_G) (cy : Nat → ClassId) (τ : ty_T) (ρ : ty_R) (hN : ty_N τ ρ) (hF : ty_Fr τ ρ) {a900 : Nat} (h900 : τ a900 = some (0, 1)) : KI l D cy yX1_allEdges cX1_allEdges 3 .int (rL 0) τ ρ [.ref a900] (fun r u => u = ρ ∧ True) := by
  refine k_metI "EdgeEchoes$Gates" rfl (by decide) (Nat.le_of_ble_eq_true rfl) (fun _ _ _ => rfl) ?_
  intro p e s m args below meth c Q ls X hG hl ret
  have hl : lv_has ls 3 [(0, .ref a900)] := hl
  refine n_ic X dX1_allEdges_0 (by decide) (by decide) (fun x1 t1 => ?_)
  refine lv_istore_n (lv' := [(1, .int x1), (0, .ref a900)]) X.1 X.2.1 dX1_allEdges_1 rfl hl (by decide) rfl (fun ls hl => ?_)
  refine n_ic X dX1_allEdges_2 (by decide) (by decide) (fun x2 t2 => ?_)
  refine lv_istore_n (lv' := [(2, .int x2), (1, .int x1), (0, .ref a900)]) X.1 X.2.1 dX1_allEdges_3 rfl hl (by decide) rfl (fun ls hl => ?_)
  have J4 : ∀ (n : Nat) (H : Heap) (locs : List Loc) (ls : Array Slot) (x3 : Int32) (x4 : Int32), (0 ≤ x4.toInt ∧ x4.toInt ≤ 6) → (6 - x4.toInt).toNat < n → TG D cy τ ρ (ty_d τ) s.heap H locs → lv_has ls 3 [(0, .ref a900), (1, .int x3), (2, .int x4)] → W p l e (rL 0) s m args below meth c H locs 0 0 Q (F0 m 4 ls []) := by
    intro n
    induction n with
    | zero => intro H locs ls x3 x4 bx4 hm4 hG hl; exact absurd hm4 (Nat.not_lt_zero _)
    | succ n ih4 =>
      intro H locs ls x3 x4 bx4 hm4 hG hl
      refine lv_iload_n X.1 X.2.1 dX1_allEdges_4 rfl (lv_at hl 2 rfl) ?_
      refine lv_aload_n X.1 X.2.1 dX1_allEdges_5 rfl (lv_at hl 0 rfl) ?_
      refine gf_1_6 X hG h900 q_144 dX1_allEdges_6 (fun x5 r5 => ?_)
      refine n_icmp_ge (tgt := 33) X dX1_allEdges_9 (by decide) (fun c6 => ?_) (fun c6 => ?_)
      · refine lv_iload_n X.1 X.2.1 dX1_allEdges_33 rfl (lv_at hl 1 rfl) ?_
        exact ret _ _ _ _ x3 _ hG ⟨rfl, trivial⟩ dX1_allEdges_34
      · refine lv_iload_n X.1 X.2.1 dX1_allEdges_12 rfl (lv_at hl 2 rfl) ?_
        refine n_bp X dX1_allEdges_13 (by decide) (by decide) (fun x7 t7 => ?_)
        refine n_icmp_ge (tgt := 33) X dX1_allEdges_15 (by decide) (fun c8 => ?_) (fun c8 => ?_)
        · refine lv_iload_n X.1 X.2.1 dX1_allEdges_33 rfl (lv_at hl 1 rfl) ?_
          exact ret _ _ _ _ x3 _ hG ⟨rfl, trivial⟩ dX1_allEdges_34
        · refine lv_iload_n X.1 X.2.1 dX1_allEdges_18 rfl (lv_at hl 1 rfl) ?_
          refine lv_aload_n X.1 X.2.1 dX1_allEdges_19 rfl (lv_at hl 0 rfl) ?_
          refine gf_1_4 X hG h900 q_140 dX1_allEdges_20 (hN _ _ _ h900) (fun a9 h9 r9 => ?_)
          refine lv_iload_n X.1 X.2.1 dX1_allEdges_23 rfl (lv_at hl 2 rfl) ?_
          refine tg_iald X hG h9 rfl (cI_in (n := 6) (by omega)) dX1_allEdges_24 (fun x10 r10 => ?_)
          refine lv_iadd X.1 X.2.1 dX1_allEdges_25 ?_
          refine n_any (fun x11 => ?_)
          refine lv_istore_n (lv' := [(1, .int x11), (0, .ref a900), (2, .int x4)]) X.1 X.2.1 dX1_allEdges_26 rfl hl (by decide) rfl (fun ls hl => ?_)
          refine n_inc X (fun z13 => [(2, .int z13), (1, .int x11), (0, .ref a900)]) dX1_allEdges_27 hl (k := 2) rfl (by decide) (by decide) (by omega) (by omega) (by decide) (fun _ => rfl) (fun x12 ls t12 hl => ?_)
          have hl : lv_has ls 3 [(2, .int x12), (1, .int x11), (0, .ref a900)] := hl
          refine lv_goto (tgt := 4) X.1 X.2.1 dX1_allEdges_30 (by decide) ?_
          exact ih4 _ _ _ x11 x12 (by omega) (by omega) hG (lv_sub hl [2, 1, 0] rfl)
  exact J4 _ _ _ _ x1 x2 (by omega) (Nat.lt_succ_self _) hG (lv_sub hl [2, 1, 0] rfl)
set_option maxHeartbeats 4000000 in
set_option maxRecDepth 100000 in
theorem c_X8_firstCellOf (l : Launch) (D : va_G) (cy : Nat → ClassId) (τ : ty_T) (ρ : ty_R) (hN : ty_N τ ρ) (hF : ty_Fr τ ρ) {a900 : Nat} (h900 : τ a900 = some (0, 8)) (x901 : Int32) : KI l D cy yX8_firstCellOf cX8_firstCellOf 4 .int (rL 0) τ ρ [.ref a900, .int x901] (fun r u => u = ρ ∧ True) := by
  refine k_metI "EdgeEchoes$Wire" rfl (by decide) (Nat.le_of_ble_eq_true rfl) (fun _ _ _ => rfl) ?_
  intro p e s m args below meth c Q ls X hG hl ret
  have hl : lv_has ls 4 [(0, .ref a900), (1, .int x901)] := hl
  refine n_ic X dX8_firstCellOf_0 (by decide) (by decide) (fun x1 t1 => ?_)
  refine lv_istore_n (lv' := [(2, .int x1), (0, .ref a900), (1, .int x901)]) X.1 X.2.1 dX8_firstCellOf_1 rfl hl (by decide) rfl (fun ls hl => ?_)
  refine n_ic X dX8_firstCellOf_2 (by decide) (by decide) (fun x2 t2 => ?_)
  refine lv_istore_n (lv' := [(3, .int x2), (2, .int x1), (0, .ref a900), (1, .int x901)]) X.1 X.2.1 dX8_firstCellOf_3 rfl hl (by decide) rfl (fun ls hl => ?_)
  have J4 : ∀ (n : Nat) (H : Heap) (locs : List Loc) (ls : Array Slot) (x3 : Int32) (x4 : Int32), (0 ≤ x4.toInt ∧ x4.toInt ≤ 8) → (8 - x4.toInt).toNat < n → TG D cy τ ρ (ty_d τ) s.heap H locs → lv_has ls 4 [(0, .ref a900), (1, .int x901), (2, .int x3), (3, .int x4)] → W p l e (rL 0) s m args below meth c H locs 0 0 Q (F0 m 4 ls []) := by
    intro n
    induction n with
    | zero => intro H locs ls x3 x4 bx4 hm4 hG hl; exact absurd hm4 (Nat.not_lt_zero _)
    | succ n ih4 =>
      intro H locs ls x3 x4 bx4 hm4 hG hl
      refine lv_iload_n X.1 X.2.1 dX8_firstCellOf_4 rfl (lv_at hl 3 rfl) ?_
      refine lv_iload_n X.1 X.2.1 dX8_firstCellOf_5 rfl (lv_at hl 1 rfl) ?_
      refine n_icmp_ge (tgt := 30) X dX8_firstCellOf_6 (by decide) (fun c5 => ?_) (fun c5 => ?_)
      · refine lv_iload_n X.1 X.2.1 dX8_firstCellOf_30 rfl (lv_at hl 2 rfl) ?_
        exact ret _ _ _ _ x3 _ hG ⟨rfl, trivial⟩ dX8_firstCellOf_31
      · refine lv_iload_n X.1 X.2.1 dX8_firstCellOf_9 rfl (lv_at hl 3 rfl) ?_
        refine n_bp X dX8_firstCellOf_10 (by decide) (by decide) (fun x6 t6 => ?_)
        refine n_icmp_ge (tgt := 30) X dX8_firstCellOf_12 (by decide) (fun c7 => ?_) (fun c7 => ?_)
        · refine lv_iload_n X.1 X.2.1 dX8_firstCellOf_30 rfl (lv_at hl 2 rfl) ?_
          exact ret _ _ _ _ x3 _ hG ⟨rfl, trivial⟩ dX8_firstCellOf_31
        · refine lv_iload_n X.1 X.2.1 dX8_firstCellOf_15 rfl (lv_at hl 2 rfl) ?_
          refine lv_aload_n X.1 X.2.1 dX8_firstCellOf_16 rfl (lv_at hl 0 rfl) ?_
          refine gf_8_1 X hG h900 q_67 dX8_firstCellOf_17 (hN _ _ _ h900) (fun a8 h8 r8 => ?_)
          refine lv_iload_n X.1 X.2.1 dX8_firstCellOf_20 rfl (lv_at hl 3 rfl) ?_
          refine tg_iald X hG h8 rfl (cI_in (n := 8) (by omega)) dX8_firstCellOf_21 (fun x9 r9 => ?_)
          refine lv_iadd X.1 X.2.1 dX8_firstCellOf_22 ?_
          refine n_any (fun x10 => ?_)
          refine lv_istore_n (lv' := [(2, .int x10), (0, .ref a900), (1, .int x901), (3, .int x4)]) X.1 X.2.1 dX8_firstCellOf_23 rfl hl (by decide) rfl (fun ls hl => ?_)
          refine n_inc X (fun z12 => [(3, .int z12), (2, .int x10), (0, .ref a900), (1, .int x901)]) dX8_firstCellOf_24 hl (k := 3) rfl (by decide) (by decide) (by omega) (by omega) (by decide) (fun _ => rfl) (fun x11 ls t11 hl => ?_)
          have hl : lv_has ls 4 [(3, .int x11), (2, .int x10), (0, .ref a900), (1, .int x901)] := hl
          refine lv_goto (tgt := 4) X.1 X.2.1 dX8_firstCellOf_27 (by decide) ?_
          exact ih4 _ _ _ x10 x11 (by omega) (by omega) hG (lv_sub hl [2, 3, 1, 0] rfl)
  exact J4 _ _ _ _ x1 x2 (by omega) (Nat.lt_succ_self _) hG (lv_sub hl [2, 3, 1, 0] rfl)
set_option maxHeartbeats 4000000 in
set_option maxRecDepth 100000 in
theorem c_X8_changeEnd (l : Launch) (D : va_G) (cy : Nat → ClassId) (τ : ty_T) (ρ : ty_R) (hN : ty_N τ ρ) (hF : ty_Fr τ ρ) {a900 : Nat} (h900 : τ a900 = some (0, 8)) (x901 : Int32) (x902 : Int32) : KV l D cy yX8_changeEnd cX8_changeEnd 3 (rL 0) τ ρ [.ref a900, .int x901, .int x902] (fun u => u = ρ) := by
  refine k_metV "EdgeEchoes$Wire" rfl (by decide) (Nat.le_of_ble_eq_true rfl) ?_
  intro p e s m args below meth c Q ls X hG hl ret
  have hl : lv_has ls 3 [(0, .ref a900), (1, .int x901), (2, .int x902)] := hl
  refine lv_aload_n X.1 X.2.1 dX8_changeEnd_0 rfl (lv_at hl 0 rfl) ?_
  refine lv_iload_n X.1 X.2.1 dX8_changeEnd_1 rfl (lv_at hl 1 rfl) ?_
  refine pf_8_10 X hG h900 q_91 dX8_changeEnd_2 (hF _ _ _ _ h900 rfl) (fun H locs hG => ?_)
  refine lv_aload_n X.1 X.2.1 dX8_changeEnd_5 rfl (lv_at hl 0 rfl) ?_
  refine lv_iload_n X.1 X.2.1 dX8_changeEnd_6 rfl (lv_at hl 1 rfl) ?_
  refine n_ic X dX8_changeEnd_7 (by decide) (by decide) (fun x1 t1 => ?_)
  refine n_icmp_ne (tgt := 15) X dX8_changeEnd_8 (by decide) (fun c2 => ?_) (fun c2 => ?_)
  · refine n_ic X dX8_changeEnd_15 (by decide) (by decide) (fun x3 t3 => ?_)
    refine pf_8_11 X hG h900 q_93 dX8_changeEnd_16 (hF _ _ _ _ h900 rfl) (fun H locs hG => ?_)
    exact ret _ _ _ _ _ hG rfl dX8_changeEnd_19
  · refine lv_iload_n X.1 X.2.1 dX8_changeEnd_11 rfl (lv_at hl 2 rfl) ?_
    refine lv_goto (tgt := 16) X.1 X.2.1 dX8_changeEnd_12 (by decide) ?_
    refine pf_8_11 X hG h900 q_93 dX8_changeEnd_16 (hF _ _ _ _ h900 rfl) (fun H locs hG => ?_)
    exact ret _ _ _ _ _ hG rfl dX8_changeEnd_19
