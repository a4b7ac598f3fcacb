set_option maxHeartbeats 4000000 in
set_option maxRecDepth 100000 in
theorem c_X10_wire (l : Launch) (D : va_G) (cy : Nat → ClassId) (τ : ty_T) (ρ : ty_R) {M : md_T} (hN : ty_N τ ρ) (hR : ty_Rg M τ ρ) (hF : ty_Wf M τ ρ []) {a900 : Nat} (h900 : τ a900 = some (0, 10)) (x901 : Int32) (x902 : Int32) {P N : Nat} (hB : HB M P N) : KI l D cy yX10_wire cX10_wire 5 .int (rL 2) τ ρ [.ref a900, .int x901, .int x902] (fun r u => u = ρ ∧ True) := by
  refine k_metI "EdgeEchoesModel" rfl (by decide +kernel) (Nat.le_of_ble_eq_true rfl) (fun _ _ _ => rfl) ?_
  intro p e s m args below meth c Q ls X hG hl ret
  have hl : lv_has ls 5 [(0, .ref a900), (1, .int x901), (2, .int x902)] := hl
  obtain ⟨⟨⟨n9, m9, n9p⟩, ⟨n13, m13, n13p⟩, ⟨n3, m3, n3p⟩, m8⟩, ⟨mN, mP, ⟨gG, mG, lG⟩, mL, mF⟩, mO, ⟨mK, mS, mQ, mZ⟩, hN72, hP8, hNP⟩ := id hB
  have g901 := cI_rng x901
  have g902 := cI_rng x902
  refine lv_aload_n X.1 X.2.1 dX10_wire_0 rfl (lv_at hl 0 rfl) ?_
  refine lv_iload_n X.1 X.2.1 dX10_wire_1 rfl (lv_at hl 1 rfl) ?_
  refine k_cVi X hG (c_X10_isPiece l D cy τ _ hN hR (ty_Wf.sub (S' := []) hF (by decide)) h900 x901 hB) h900 rfl yv_X10_isPiece q_1095 ⟨rfl, rfl⟩ ⟨Nat.le_of_ble_eq_true rfl, Nat.le_of_ble_eq_true rfl⟩ rfl hl.1 rfl (Nat.le_of_ble_eq_true rfl) ⟨Nat.zero_le _, Nat.zero_le _⟩ dX10_wire_2 (fun x2 u3 H locs hG po1 => ?_)
  obtain ⟨eu3, po1⟩ := po1
  rw [eu3] at hG
  refine n_if_ne (tgt := 11) X dX10_wire_5 (by decide) (fun c4 => ?_) (fun c4 => ?_)
  · refine lv_iload_n X.1 X.2.1 dX10_wire_11 rfl (lv_at hl 2 rfl) ?_
    refine n_i2l X dX10_wire_12 (fun w5 t5 => ?_)
    refine n_lc X dX10_wire_13 (fun w6 t6 => ?_)
    have t6 : w6.toInt = 0 := t6
    refine n_ldl X q_1100 (n := 2) (by decide +kernel) dX10_wire_14 (fun w7 e7 t7 => ?_)
    refine k_cSi X hG (c_X10_in l D cy τ _ hN hR (ty_Wf.sub (S' := []) hF (by decide)) w5 w6 w7 ) ys_X10_in q_957 ⟨rfl, rfl⟩ ⟨Nat.le_of_ble_eq_true rfl, Nat.le_of_ble_eq_true rfl⟩ rfl hl.1 rfl (Nat.le_of_ble_eq_true rfl) ⟨Nat.zero_le _, Nat.zero_le _⟩ dX10_wire_17 (fun x9 u10 H locs hG po8 => ?_)
    obtain ⟨eu10, po8⟩ := po8
    rw [eu10] at hG
    refine n_if_ne (tgt := 26) X dX10_wire_20 (by decide) (fun c11 => ?_) (fun c11 => ?_)
    · refine n_ic X dX10_wire_26 (by decide) (by decide) (fun x12 t12 => ?_)
      refine lv_istore_n (lv' := [(3, .int x12), (0, .ref a900), (1, .int x901), (2, .int x902)]) X.1 X.2.1 dX10_wire_27 rfl hl (by decide) rfl (fun ls hl => ?_)
      refine n_ic X dX10_wire_28 (by decide) (by decide) (fun x13 t13 => ?_)
      refine lv_istore (lv' := [(4, .int x13), (3, .int x12), (0, .ref a900), (1, .int x901), (2, .int x902)]) X.1 X.2.1 dX10_wire_29 hl (by decide) rfl (fun ls hl => ?_)
      have J31 : ∀ (n : Nat) (H : Heap) (locs : List Loc) (ls : Array Slot) (x14 : Int32) (x15 : Int32), (0 ≤ x15.toInt ∧ x15.toInt ≤ 7) → (7 - x15.toInt).toNat < n → TG D cy τ ρ (ty_d τ) s.heap H locs → lv_has ls 5 [(0, .ref a900), (1, .int x901), (2, .int x902), (3, .int x14), (4, .int x15)] → W p l e (rL 2) s m args below meth c H locs 0 0 Q (F0 m 31 ls []) := by
        intro n
        induction n with
        | zero => intro H locs ls x14 x15 bx15 hm31 hG hl; exact absurd hm31 (Nat.not_lt_zero _)
        | succ n ih31 =>
          intro H locs ls x14 x15 bx15 hm31 hG hl
          have gx14 := cI_rng x14
          refine lv_iload X.1 X.2.1 dX10_wire_31 (lv_at hl 4 rfl) ?_
          refine lv_iload_n X.1 X.2.1 dX10_wire_33 rfl (lv_at hl 1 rfl) ?_
          refine n_icmp_ge (tgt := 57) X dX10_wire_34 (by decide) (fun c16 => ?_) (fun c16 => ?_)
          · refine lv_iload_n X.1 X.2.1 dX10_wire_57 rfl (lv_at hl 2 rfl) ?_
            refine n_if_ne (tgt := 74) X dX10_wire_58 (by decide) (fun c17 => ?_) (fun c17 => ?_)
            · refine lv_iload_n X.1 X.2.1 dX10_wire_74 rfl (lv_at hl 2 rfl) ?_
              refine n_ic X dX10_wire_75 (by decide) (by decide) (fun x18 t18 => ?_)
              refine n_icmp_ne (tgt := 92) X dX10_wire_76 (by decide) (fun c19 => ?_) (fun c19 => ?_)
              · refine lv_iload_n X.1 X.2.1 dX10_wire_92 rfl (lv_at hl 3 rfl) ?_
                exact ret _ _ _ _ x14 _ hG ⟨rfl, trivial⟩ dX10_wire_93
              · refine lv_aload_n X.1 X.2.1 dX10_wire_79 rfl (lv_at hl 0 rfl) ?_
                refine gf_10_0 X hG h900 q_876 dX10_wire_80 (hN _ _ _ h900) (fun a20 h20 r20 => ?_)
                refine n_sp X dX10_wire_83 (by decide) (by decide) (fun x21 t21 => ?_)
                refine lv_iload_n X.1 X.2.1 dX10_wire_86 rfl (lv_at hl 1 rfl) ?_
                refine n_add X dX10_wire_87 (by omega) (by omega) (fun x22 t22 => ?_)
                refine tg_iald X hG h20 rfl (cI_in (n := 4261) (by omega)) dX10_wire_88 (fun x23 r23 => ?_)
                have b23 := rdL hB (hR _ _ _ _ h20 r23) (by omega)
                refine lv_goto (tgt := 93) X.1 X.2.1 dX10_wire_89 (by decide) ?_
                exact ret _ _ _ _ x23 _ hG ⟨rfl, trivial⟩ dX10_wire_93
            · refine lv_aload_n X.1 X.2.1 dX10_wire_61 rfl (lv_at hl 0 rfl) ?_
              refine gf_10_0 X hG h900 q_876 dX10_wire_62 (hN _ _ _ h900) (fun a24 h24 r24 => ?_)
              refine n_sp X dX10_wire_65 (by decide) (by decide) (fun x25 t25 => ?_)
              refine lv_iload_n X.1 X.2.1 dX10_wire_68 rfl (lv_at hl 1 rfl) ?_
              refine n_add X dX10_wire_69 (by omega) (by omega) (fun x26 t26 => ?_)
              refine tg_iald X hG h24 rfl (cI_in (n := 4261) (by omega)) dX10_wire_70 (fun x27 r27 => ?_)
              refine lv_goto (tgt := 93) X.1 X.2.1 dX10_wire_71 (by decide) ?_
              exact ret _ _ _ _ x27 _ hG ⟨rfl, trivial⟩ dX10_wire_93
          · refine lv_iload_n X.1 X.2.1 dX10_wire_37 rfl (lv_at hl 3 rfl) ?_
            refine lv_aload_n X.1 X.2.1 dX10_wire_38 rfl (lv_at hl 0 rfl) ?_
            refine gf_10_0 X hG h900 q_876 dX10_wire_39 (hN _ _ _ h900) (fun a28 h28 r28 => ?_)
            refine n_sp X dX10_wire_42 (by decide) (by decide) (fun x29 t29 => ?_)
            refine lv_iload X.1 X.2.1 dX10_wire_45 (lv_at hl 4 rfl) ?_
            refine n_add X dX10_wire_47 (by omega) (by omega) (fun x30 t30 => ?_)
            refine tg_iald X hG h28 rfl (cI_in (n := 4261) (by omega)) dX10_wire_48 (fun x31 r31 => ?_)
            have b31 := rdL hB (hR _ _ _ _ h28 r31) (by omega)
            refine lv_iadd X.1 X.2.1 dX10_wire_49 ?_
            refine n_any (fun x32 => ?_)
            refine lv_istore_n (lv' := [(3, .int x32), (0, .ref a900), (1, .int x901), (2, .int x902), (4, .int x15)]) X.1 X.2.1 dX10_wire_50 rfl hl (by decide) rfl (fun ls hl => ?_)
            refine n_inc X (fun z34 => [(4, .int z34), (3, .int x32), (0, .ref a900), (1, .int x901), (2, .int x902)]) dX10_wire_51 hl (k := 4) rfl (by decide) (by decide) (by omega) (by omega) (by decide) (fun _ => rfl) (fun x33 ls t33 hl => ?_)
            have hl : lv_has ls 5 [(4, .int x33), (3, .int x32), (0, .ref a900), (1, .int x901), (2, .int x902)] := hl
            refine lv_goto (tgt := 31) X.1 X.2.1 dX10_wire_54 (by decide) ?_
            exact ih31 _ _ _ x32 x33 (by omega) (by omega) hG (lv_sub hl [2, 3, 4, 1, 0] rfl)
      exact J31 _ _ _ _ x12 x13 (by omega) (Nat.lt_succ_self _) hG (lv_sub hl [2, 3, 4, 1, 0] rfl)
    · refine n_ldc X q_960 (n := -1000000002) (by decide +kernel) dX10_wire_23 (fun x35 t35 => ?_)
      exact ret _ _ _ _ x35 _ hG ⟨rfl, trivial⟩ dX10_wire_25
  · refine n_ldc X q_1099 (n := -1000000001) (by decide +kernel) dX10_wire_8 (fun x36 t36 => ?_)
    exact ret _ _ _ _ x36 _ hG ⟨rfl, trivial⟩ dX10_wire_10
set_option maxHeartbeats 4000000 in
set_option maxRecDepth 100000 in
theorem c_X10_cell (l : Launch) (D : va_G) (cy : Nat → ClassId) (τ : ty_T) (ρ : ty_R) {M : md_T} (hN : ty_N τ ρ) (hR : ty_Rg M τ ρ) (hF : ty_Wf M τ ρ []) {a900 : Nat} (h900 : τ a900 = some (0, 10)) (x901 : Int32) (x902 : Int32) {P N : Nat} (hB : HB M P N) : KI l D cy yX10_cell cX10_cell 3 .int (rL 3) τ ρ [.ref a900, .int x901, .int x902] (fun r u => u = ρ ∧ True) := by
  refine k_metI "EdgeEchoesModel" rfl (by decide +kernel) (Nat.le_of_ble_eq_true rfl) (fun _ _ _ => rfl) ?_
  intro p e s m args below meth c Q ls X hG hl ret
  have hl : lv_has ls 3 [(0, .ref a900), (1, .int x901), (2, .int x902)] := hl
  obtain ⟨⟨⟨n9, m9, n9p⟩, ⟨n13, m13, n13p⟩, ⟨n3, m3, n3p⟩, m8⟩, ⟨mN, mP, ⟨gG, mG, lG⟩, mL, mF⟩, mO, ⟨mK, mS, mQ, mZ⟩, hN72, hP8, hNP⟩ := id hB
  have g901 := cI_rng x901
  have g902 := cI_rng x902
  refine lv_iload_n X.1 X.2.1 dX10_cell_0 rfl (lv_at hl 1 rfl) ?_
  refine n_i2l X dX10_cell_1 (fun w1 t1 => ?_)
  refine n_lc X dX10_cell_2 (fun w2 t2 => ?_)
  have t2 : w2.toInt = 0 := t2
  refine n_ldl X q_1105 (n := 71) (by decide +kernel) dX10_cell_3 (fun w3 e3 t3 => ?_)
  refine k_cSi X hG (c_X10_in l D cy τ _ hN hR (ty_Wf.sub (S' := []) hF (by decide)) w1 w2 w3 ) ys_X10_in q_957 ⟨rfl, rfl⟩ ⟨Nat.le_of_ble_eq_true rfl, Nat.le_of_ble_eq_true rfl⟩ rfl hl.1 rfl (Nat.le_of_ble_eq_true rfl) ⟨Nat.zero_le _, Nat.zero_le _⟩ dX10_cell_6 (fun x5 u6 H locs hG po4 => ?_)
  obtain ⟨eu6, po4⟩ := po4
  rw [eu6] at hG
  refine n_if_eq (tgt := 24) X dX10_cell_9 (by decide) (fun c7 => ?_) (fun c7 => ?_)
  · refine n_ldc X q_960 (n := -1000000002) (by decide +kernel) dX10_cell_24 (fun x8 t8 => ?_)
    exact ret _ _ _ _ x8 _ hG ⟨rfl, trivial⟩ dX10_cell_26
  · refine lv_iload_n X.1 X.2.1 dX10_cell_12 rfl (lv_at hl 2 rfl) ?_
    refine n_i2l X dX10_cell_13 (fun w9 t9 => ?_)
    refine n_lc X dX10_cell_14 (fun w10 t10 => ?_)
    have t10 : w10.toInt = 0 := t10
    refine n_ldl X q_1100 (n := 2) (by decide +kernel) dX10_cell_15 (fun w11 e11 t11 => ?_)
    refine k_cSi X hG (c_X10_in l D cy τ _ hN hR (ty_Wf.sub (S' := []) hF (by decide)) w9 w10 w11 ) ys_X10_in q_957 ⟨rfl, rfl⟩ ⟨Nat.le_of_ble_eq_true rfl, Nat.le_of_ble_eq_true rfl⟩ rfl hl.1 rfl (Nat.le_of_ble_eq_true rfl) ⟨Nat.zero_le _, Nat.zero_le _⟩ dX10_cell_18 (fun x13 u14 H locs hG po12 => ?_)
    obtain ⟨eu14, po12⟩ := po12
    rw [eu14] at hG
    refine n_if_ne (tgt := 27) X dX10_cell_21 (by decide) (fun c15 => ?_) (fun c15 => ?_)
    · refine n_ldc X q_1106 (n := 1000000) (by decide +kernel) dX10_cell_27 (fun x16 t16 => ?_)
      refine lv_aload_n X.1 X.2.1 dX10_cell_29 rfl (lv_at hl 0 rfl) ?_
      refine lv_iload_n X.1 X.2.1 dX10_cell_30 rfl (lv_at hl 1 rfl) ?_
      refine k_cVi X hG (c_X10_isCell l D cy τ _ hN hR (ty_Wf.sub (S' := []) hF (by decide)) h900 x901 hB) h900 rfl yv_X10_isCell q_1079 ⟨rfl, rfl⟩ ⟨Nat.le_of_ble_eq_true rfl, Nat.le_of_ble_eq_true rfl⟩ rfl hl.1 rfl (Nat.le_of_ble_eq_true rfl) ⟨Nat.zero_le _, Nat.zero_le _⟩ dX10_cell_31 (fun x18 u19 H locs hG po17 => ?_)
      obtain ⟨eu19, po17⟩ := po17
      rw [eu19] at hG
      refine n_if_ne (tgt := 41) X dX10_cell_34 (by decide) (fun c20 => ?_) (fun c20 => ?_)
      · refine lv_iload_n X.1 X.2.1 dX10_cell_41 rfl (lv_at hl 2 rfl) ?_
        refine n_if_ne (tgt := 54) X dX10_cell_42 (by decide) (fun c21 => ?_) (fun c21 => ?_)
        · refine lv_aload_n X.1 X.2.1 dX10_cell_54 rfl (lv_at hl 0 rfl) ?_
          refine gf_10_0 X hG h900 q_876 dX10_cell_55 (hN _ _ _ h900) (fun a22 h22 r22 => ?_)
          refine lv_iload_n X.1 X.2.1 dX10_cell_58 rfl (lv_at hl 2 rfl) ?_
          refine n_ic X dX10_cell_59 (by decide) (by decide) (fun x23 t23 => ?_)
          have J69 : ∀ (H : Heap) (locs : List Loc) (ls : Array Slot) (x24 : Int32), (0 ≤ x24.toInt ∧ x24.toInt ≤ 72) → TG D cy τ ρ (ty_d τ) s.heap H locs → lv_has ls 3 [(0, .ref a900), (1, .int x901), (2, .int x902)] → W p l e (rL 3) s m args below meth c H locs 0 0 Q (F0 m 69 ls [.int x24, .ref a22, .int x16]) := by
            intro H locs ls x24 bx24 hG hl
            refine lv_iload_n X.1 X.2.1 dX10_cell_69 rfl (lv_at hl 1 rfl) ?_
            refine n_add X dX10_cell_70 (by omega) (by omega) (fun x25 t25 => ?_)
            refine tg_iald X hG h22 rfl (cI_in (n := 4261) (by omega)) dX10_cell_71 (fun x26 r26 => ?_)
            refine lv_iadd X.1 X.2.1 dX10_cell_72 ?_
            refine n_any (fun x27 => ?_)
            exact ret _ _ _ _ x27 _ hG ⟨rfl, trivial⟩ dX10_cell_73
          refine n_icmp_ne (tgt := 67) X dX10_cell_60 (by decide) (fun c28 => ?_) (fun c28 => ?_)
          · refine n_bp X dX10_cell_67 (by decide) (by decide) (fun x29 t29 => ?_)
            exact J69 _ _ _ x29 (by omega) hG (lv_sub hl [0, 1, 2] rfl)
          · refine n_ic X dX10_cell_63 (by decide) (by decide) (fun x30 t30 => ?_)
            refine lv_goto (tgt := 69) X.1 X.2.1 dX10_cell_64 (by decide) ?_
            exact J69 _ _ _ x30 (by omega) hG (lv_sub hl [0, 1, 2] rfl)
        · refine lv_aload_n X.1 X.2.1 dX10_cell_45 rfl (lv_at hl 0 rfl) ?_
          refine n_ic X dX10_cell_46 (by decide) (by decide) (fun x31 t31 => ?_)
          refine lv_iload_n X.1 X.2.1 dX10_cell_47 rfl (lv_at hl 1 rfl) ?_
          refine k_cVi X hG (c_X10_voltsOf l D cy τ _ hN hR (ty_Wf.sub (S' := []) hF (by decide)) h900 x31 (by omega) x901 hB (b := 0) (by omega) (Or.inl rfl)) h900 rfl yv_X10_voltsOf q_1075 ⟨rfl, rfl⟩ ⟨Nat.le_of_ble_eq_true rfl, Nat.le_of_ble_eq_true rfl⟩ rfl hl.1 rfl (Nat.le_of_ble_eq_true rfl) ⟨Nat.zero_le _, Nat.zero_le _⟩ dX10_cell_48 (fun x33 u34 H locs hG po32 => ?_)
          obtain ⟨eu34, po32⟩ := po32
          rw [eu34] at hG
          have g33 := cI_rng x33
          refine lv_goto (tgt := 72) X.1 X.2.1 dX10_cell_51 (by decide) ?_
          refine lv_iadd X.1 X.2.1 dX10_cell_72 ?_
          refine n_any (fun x35 => ?_)
          exact ret _ _ _ _ x35 _ hG ⟨rfl, trivial⟩ dX10_cell_73
      · refine n_ic X dX10_cell_37 (by decide) (by decide) (fun x36 t36 => ?_)
        refine lv_goto (tgt := 72) X.1 X.2.1 dX10_cell_38 (by decide) ?_
        refine n_add X dX10_cell_72 (by omega) (by omega) (fun x37 t37 => ?_)
        exact ret _ _ _ _ x37 _ hG ⟨rfl, trivial⟩ dX10_cell_73
    · refine n_ldc X q_960 (n := -1000000002) (by decide +kernel) dX10_cell_24 (fun x38 t38 => ?_)
      exact ret _ _ _ _ x38 _ hG ⟨rfl, trivial⟩ dX10_cell_26
set_option maxHeartbeats 4000000 in
set_option maxRecDepth 100000 in
theorem c_X10_place (l : Launch) (D : va_G) (cy : Nat → ClassId) (τ : ty_T) (ρ : ty_R) {M : md_T} (hN : ty_N τ ρ) (hR : ty_Rg M τ ρ) (hF : ty_Wf M τ ρ []) {a900 : Nat} (h900 : τ a900 = some (0, 10)) (x901 : Int32) {P N : Nat} (hB : HB M P N) : KI l D cy yX10_place cX10_place 2 .int (rL 2) τ ρ [.ref a900, .int x901] (fun r u => u = ρ ∧ True) := by
  refine k_metI "EdgeEchoesModel" rfl (by decide +kernel) (Nat.le_of_ble_eq_true rfl) (fun _ _ _ => rfl) ?_
  intro p e s m args below meth c Q ls X hG hl ret
  have hl : lv_has ls 2 [(0, .ref a900), (1, .int x901)] := hl
  obtain ⟨⟨⟨n9, m9, n9p⟩, ⟨n13, m13, n13p⟩, ⟨n3, m3, n3p⟩, m8⟩, ⟨mN, mP, ⟨gG, mG, lG⟩, mL, mF⟩, mO, ⟨mK, mS, mQ, mZ⟩, hN72, hP8, hNP⟩ := id hB
  have g901 := cI_rng x901
  refine lv_iload_n X.1 X.2.1 dX10_place_0 rfl (lv_at hl 1 rfl) ?_
  refine n_i2l X dX10_place_1 (fun w1 t1 => ?_)
  refine n_lc X dX10_place_2 (fun w2 t2 => ?_)
  have t2 : w2.toInt = 1 := t2
  refine n_ldl X q_1105 (n := 71) (by decide +kernel) dX10_place_3 (fun w3 e3 t3 => ?_)
  refine k_cSi X hG (c_X10_in l D cy τ _ hN hR (ty_Wf.sub (S' := []) hF (by decide)) w1 w2 w3 ) ys_X10_in q_957 ⟨rfl, rfl⟩ ⟨Nat.le_of_ble_eq_true rfl, Nat.le_of_ble_eq_true rfl⟩ rfl hl.1 rfl (Nat.le_of_ble_eq_true rfl) ⟨Nat.zero_le _, Nat.zero_le _⟩ dX10_place_6 (fun x5 u6 H locs hG po4 => ?_)
  obtain ⟨eu6, po4⟩ := po4
  rw [eu6] at hG
  refine n_if_ne (tgt := 17) X dX10_place_9 (by decide) (fun c7 => ?_) (fun c7 => ?_)
  · refine lv_aload_n X.1 X.2.1 dX10_place_17 rfl (lv_at hl 0 rfl) ?_
    refine lv_iload_n X.1 X.2.1 dX10_place_18 rfl (lv_at hl 1 rfl) ?_
    refine k_cVi X hG (c_X10_isPlace l D cy τ _ hN hR (ty_Wf.sub (S' := []) hF (by decide)) h900 x901 hB) h900 rfl yv_X10_isPlace q_1111 ⟨rfl, rfl⟩ ⟨Nat.le_of_ble_eq_true rfl, Nat.le_of_ble_eq_true rfl⟩ rfl hl.1 rfl (Nat.le_of_ble_eq_true rfl) ⟨Nat.zero_le _, Nat.zero_le _⟩ dX10_place_19 (fun x9 u10 H locs hG po8 => ?_)
    obtain ⟨eu10, po8⟩ := po8
    rw [eu10] at hG
    refine n_if_eq (tgt := 38) X dX10_place_22 (by decide) (fun c11 => ?_) (fun c11 => ?_)
    · refine n_ic X dX10_place_38 (by decide) (by decide) (fun x12 t12 => ?_)
      exact ret _ _ _ _ x12 _ hG ⟨rfl, trivial⟩ dX10_place_39
    · refine lv_aload_n X.1 X.2.1 dX10_place_25 rfl (lv_at hl 0 rfl) ?_
      refine gf_10_0 X hG h900 q_876 dX10_place_26 (hN _ _ _ h900) (fun a13 h13 r13 => ?_)
      refine n_sp X dX10_place_29 (by decide) (by decide) (fun x14 t14 => ?_)
      refine lv_iload_n X.1 X.2.1 dX10_place_32 rfl (lv_at hl 1 rfl) ?_
      refine n_add X dX10_place_33 (by omega) (by omega) (fun x15 t15 => ?_)
      refine tg_iald X hG h13 rfl (cI_in (n := 4261) (by omega)) dX10_place_34 (fun x16 r16 => ?_)
      refine lv_goto (tgt := 39) X.1 X.2.1 dX10_place_35 (by decide) ?_
      exact ret _ _ _ _ x16 _ hG ⟨rfl, trivial⟩ dX10_place_39
  · refine n_ldc X q_960 (n := -1000000002) (by decide +kernel) dX10_place_12 (fun x17 t17 => ?_)
    refine lv_goto (tgt := 39) X.1 X.2.1 dX10_place_14 (by decide) ?_
    exact ret _ _ _ _ x17 _ hG ⟨rfl, trivial⟩ dX10_place_39
set_option maxHeartbeats 4000000 in
set_option maxRecDepth 100000 in
theorem c_X10_judge (l : Launch) (D : va_G) (cy : Nat → ClassId) (τ : ty_T) (ρ : ty_R) {M : md_T} (hN : ty_N τ ρ) (hR : ty_Rg M τ ρ) (hF : ty_Wf M τ ρ []) {a900 : Nat} (h900 : τ a900 = some (0, 10)) {P N : Nat} (hB : HB M P N) : KI l D cy yX10_judge cX10_judge 2 .int (rL 0) τ ρ [.ref a900] (fun r u => u = ρ ∧ True) := by
  refine k_metI "EdgeEchoesModel" rfl (by decide +kernel) (Nat.le_of_ble_eq_true rfl) (fun _ _ _ => rfl) ?_
  intro p e s m args below meth c Q ls X hG hl ret
  have hl : lv_has ls 2 [(0, .ref a900)] := hl
  obtain ⟨⟨⟨n9, m9, n9p⟩, ⟨n13, m13, n13p⟩, ⟨n3, m3, n3p⟩, m8⟩, ⟨mN, mP, ⟨gG, mG, lG⟩, mL, mF⟩, mO, ⟨mK, mS, mQ, mZ⟩, hN72, hP8, hNP⟩ := id hB
  refine n_ic X dX10_judge_0 (by decide) (by decide) (fun x1 t1 => ?_)
  refine lv_istore_n (lv' := [(1, .int x1), (0, .ref a900)]) X.1 X.2.1 dX10_judge_1 rfl hl (by decide) rfl (fun ls hl => ?_)
  have J2 : ∀ (n : Nat) (H : Heap) (locs : List Loc) (ls : Array Slot) (x2 : Int32), (0 ≤ x2.toInt ∧ x2.toInt ≤ 20) → (20 - x2.toInt).toNat < n → TG D cy τ ρ (ty_d τ) s.heap H locs → lv_has ls 2 [(0, .ref a900), (1, .int x2)] → W p l e (rL 0) s m args below meth c H locs 0 0 Q (F0 m 2 ls []) := by
    intro n
    induction n with
    | zero => intro H locs ls x2 bx2 hm2 hG hl; exact absurd hm2 (Nat.not_lt_zero _)
    | succ n ih2 =>
      intro H locs ls x2 bx2 hm2 hG hl
      refine lv_iload_n X.1 X.2.1 dX10_judge_2 rfl (lv_at hl 1 rfl) ?_
      refine lv_aload_n X.1 X.2.1 dX10_judge_3 rfl (lv_at hl 0 rfl) ?_
      refine gf_10_13 X hG h900 q_889 dX10_judge_4 (fun x3 r3 => ?_)
      have b3 := (hR _ _ _ _ h900 r3) _ _ m13
      refine n_icmp_ge (tgt := 42) X dX10_judge_7 (by decide) (fun c4 => ?_) (fun c4 => ?_)
      · refine n_ic X dX10_judge_42 (by decide) (by decide) (fun x5 t5 => ?_)
        exact ret _ _ _ _ x5 _ hG ⟨rfl, trivial⟩ dX10_judge_43
      · refine lv_aload_n X.1 X.2.1 dX10_judge_10 rfl (lv_at hl 0 rfl) ?_
        refine gf_10_0 X hG h900 q_876 dX10_judge_11 (hN _ _ _ h900) (fun a6 h6 r6 => ?_)
        refine n_sp X dX10_judge_14 (by decide) (by decide) (fun x7 t7 => ?_)
        refine lv_aload_n X.1 X.2.1 dX10_judge_17 rfl (lv_at hl 0 rfl) ?_
        refine gf_10_14 X hG h900 q_890 dX10_judge_18 (hN _ _ _ h900) (fun a8 h8 r8 => ?_)
        refine lv_iload_n X.1 X.2.1 dX10_judge_21 rfl (lv_at hl 1 rfl) ?_
        refine tg_iald X hG h8 rfl (cI_in (n := 20) (by omega)) dX10_judge_22 (fun x9 r9 => ?_)
        have b9 := (hR _ _ _ _ h8 r9) _ _ (mK _)
        refine n_add X dX10_judge_23 (by omega) (by omega) (fun x10 t10 => ?_)
        refine tg_iald X hG h6 rfl (cI_in (n := 4261) (by omega)) dX10_judge_24 (fun x11 r11 => ?_)
        refine lv_aload_n X.1 X.2.1 dX10_judge_25 rfl (lv_at hl 0 rfl) ?_
        refine gf_10_15 X hG h900 q_891 dX10_judge_26 (hN _ _ _ h900) (fun a12 h12 r12 => ?_)
        refine lv_iload_n X.1 X.2.1 dX10_judge_29 rfl (lv_at hl 1 rfl) ?_
        refine tg_iald X hG h12 rfl (cI_in (n := 20) (by omega)) dX10_judge_30 (fun x13 r13 => ?_)
        refine n_icmp_eq (tgt := 36) X dX10_judge_31 (by decide) (fun c14 => ?_) (fun c14 => ?_)
        · refine n_inc X (fun z16 => [(1, .int z16), (0, .ref a900)]) dX10_judge_36 hl (k := 1) rfl (by decide) (by decide) (by omega) (by omega) (by decide) (fun _ => rfl) (fun x15 ls t15 hl => ?_)
          have hl : lv_has ls 2 [(1, .int x15), (0, .ref a900)] := hl
          refine lv_goto (tgt := 2) X.1 X.2.1 dX10_judge_39 (by decide) ?_
          exact ih2 _ _ _ x15 (by omega) (by omega) hG (lv_sub hl [1, 0] rfl)
        · refine lv_iload_n X.1 X.2.1 dX10_judge_34 rfl (lv_at hl 1 rfl) ?_
          exact ret _ _ _ _ x2 _ hG ⟨rfl, trivial⟩ dX10_judge_35
  exact J2 _ _ _ _ x1 (by omega) (Nat.lt_succ_self _) hG (lv_sub hl [1, 0] rfl)
set_option maxHeartbeats 4000000 in
set_option maxRecDepth 100000 in
theorem c_X10_latestSeen (l : Launch) (D : va_G) (cy : Nat → ClassId) (τ : ty_T) (ρ : ty_R) {M : md_T} (hN : ty_N τ ρ) (hR : ty_Rg M τ ρ) (hF : ty_Wf M τ ρ []) {a900 : Nat} (h900 : τ a900 = some (0, 10)) {P N : Nat} (hB : HB M P N) : KI l D cy yX10_latestSeen cX10_latestSeen 3 .int (rL 0) τ ρ [.ref a900] (fun r u => u = ρ ∧ (0 ≤ r.toInt ∧ r.toInt ≤ 150)) := by
  refine k_metI "EdgeEchoesModel" rfl (by decide +kernel) (Nat.le_of_ble_eq_true rfl) (fun _ _ _ => rfl) ?_
  intro p e s m args below meth c Q ls X hG hl ret
  have hl : lv_has ls 3 [(0, .ref a900)] := hl
  obtain ⟨⟨⟨n9, m9, n9p⟩, ⟨n13, m13, n13p⟩, ⟨n3, m3, n3p⟩, m8⟩, ⟨mN, mP, ⟨gG, mG, lG⟩, mL, mF⟩, mO, ⟨mK, mS, mQ, mZ⟩, hN72, hP8, hNP⟩ := id hB
  refine n_ic X dX10_latestSeen_0 (by decide) (by decide) (fun x1 t1 => ?_)
  refine lv_istore_n (lv' := [(1, .int x1), (0, .ref a900)]) X.1 X.2.1 dX10_latestSeen_1 rfl hl (by decide) rfl (fun ls hl => ?_)
  refine n_ic X dX10_latestSeen_2 (by decide) (by decide) (fun x2 t2 => ?_)
  refine lv_istore_n (lv' := [(2, .int x2), (1, .int x1), (0, .ref a900)]) X.1 X.2.1 dX10_latestSeen_3 rfl hl (by decide) rfl (fun ls hl => ?_)
  have J4 : ∀ (n : Nat) (H : Heap) (locs : List Loc) (ls : Array Slot) (x3 : Int32) (x4 : Int32), (0 ≤ x3.toInt ∧ x3.toInt ≤ 150) → (0 ≤ x4.toInt ∧ x4.toInt ≤ 6) → (6 - x4.toInt).toNat < n → TG D cy τ ρ (ty_d τ) s.heap H locs → lv_has ls 3 [(0, .ref a900), (1, .int x3), (2, .int x4)] → W p l e (rL 0) s m args below meth c H locs 0 0 Q (F0 m 4 ls []) := by
    intro n
    induction n with
    | zero => intro H locs ls x3 x4 bx3 bx4 hm4 hG hl; exact absurd hm4 (Nat.not_lt_zero _)
    | succ n ih4 =>
      intro H locs ls x3 x4 bx3 bx4 hm4 hG hl
      refine lv_iload_n X.1 X.2.1 dX10_latestSeen_4 rfl (lv_at hl 2 rfl) ?_
      refine lv_aload_n X.1 X.2.1 dX10_latestSeen_5 rfl (lv_at hl 0 rfl) ?_
      refine gf_10_9 X hG h900 q_885 dX10_latestSeen_6 (fun x5 r5 => ?_)
      have b5 := (hR _ _ _ _ h900 r5) _ _ m9
      refine n_icmp_ge (tgt := 39) X dX10_latestSeen_9 (by decide) (fun c6 => ?_) (fun c6 => ?_)
      · refine lv_iload_n X.1 X.2.1 dX10_latestSeen_39 rfl (lv_at hl 1 rfl) ?_
        exact ret _ _ _ _ x3 _ hG ⟨rfl, by omega⟩ dX10_latestSeen_40
      · refine lv_aload_n X.1 X.2.1 dX10_latestSeen_12 rfl (lv_at hl 0 rfl) ?_
        refine gf_10_10 X hG h900 q_886 dX10_latestSeen_13 (hN _ _ _ h900) (fun a7 h7 r7 => ?_)
        refine lv_iload_n X.1 X.2.1 dX10_latestSeen_16 rfl (lv_at hl 2 rfl) ?_
        refine tg_iald X hG h7 rfl (cI_in (n := 6) (by omega)) dX10_latestSeen_17 (fun x8 r8 => ?_)
        have b8 := (hR _ _ _ _ h7 r8) _ _ (mQ _)
        refine lv_iload_n X.1 X.2.1 dX10_latestSeen_18 rfl (lv_at hl 1 rfl) ?_
        have J32 : ∀ (H : Heap) (locs : List Loc) (ls : Array Slot) (x9 : Int32), (0 ≤ x9.toInt ∧ x9.toInt ≤ 150) → TG D cy τ ρ (ty_d τ) s.heap H locs → lv_has ls 3 [(0, .ref a900), (1, .int x3), (2, .int x4)] → W p l e (rL 0) s m args below meth c H locs 0 0 Q (F0 m 32 ls [.int x9]) := by
          intro H locs ls x9 bx9 hG hl
          refine lv_istore_n (lv' := [(1, .int x9), (0, .ref a900), (2, .int x4)]) X.1 X.2.1 dX10_latestSeen_32 rfl hl (by decide) rfl (fun ls hl => ?_)
          refine n_inc X (fun z11 => [(2, .int z11), (1, .int x9), (0, .ref a900)]) dX10_latestSeen_33 hl (k := 2) rfl (by decide) (by decide) (by omega) (by omega) (by decide) (fun _ => rfl) (fun x10 ls t10 hl => ?_)
          have hl : lv_has ls 3 [(2, .int x10), (1, .int x9), (0, .ref a900)] := hl
          refine lv_goto (tgt := 4) X.1 X.2.1 dX10_latestSeen_36 (by decide) ?_
          exact ih4 _ _ _ x9 x10 (by omega) (by omega) (by omega) hG (lv_sub hl [2, 1, 0] rfl)
        refine n_icmp_le (tgt := 31) X dX10_latestSeen_19 (by decide) (fun c12 => ?_) (fun c12 => ?_)
        · refine lv_iload_n X.1 X.2.1 dX10_latestSeen_31 rfl (lv_at hl 1 rfl) ?_
          exact J32 _ _ _ x3 (by omega) hG (lv_sub hl [0, 1, 2] rfl)
        · refine lv_aload_n X.1 X.2.1 dX10_latestSeen_22 rfl (lv_at hl 0 rfl) ?_
          refine gf_10_10 X hG h900 q_886 dX10_latestSeen_23 (hN _ _ _ h900) (fun a13 h13 r13 => ?_)
          refine lv_iload_n X.1 X.2.1 dX10_latestSeen_26 rfl (lv_at hl 2 rfl) ?_
          refine tg_iald X hG h13 rfl (cI_in (n := 6) (by omega)) dX10_latestSeen_27 (fun x14 r14 => ?_)
          have b14 := (hR _ _ _ _ h13 r14) _ _ (mQ _)
          refine lv_goto (tgt := 32) X.1 X.2.1 dX10_latestSeen_28 (by decide) ?_
          exact J32 _ _ _ x14 (by omega) hG (lv_sub hl [0, 1, 2] rfl)
  exact J4 _ _ _ _ x1 x2 (by omega) (by omega) (Nat.lt_succ_self _) hG (lv_sub hl [2, 1, 0] rfl)
