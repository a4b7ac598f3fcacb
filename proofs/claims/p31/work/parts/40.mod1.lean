set_option maxHeartbeats 4000000 in
set_option maxRecDepth 100000 in
theorem c_X10_in (l : Launch) (D : va_G) (cy : Nat → ClassId) (τ : ty_T) (ρ : ty_R) {M : md_T} (hN : ty_N τ ρ) (hR : ty_Rg M τ ρ) (hF : ty_Wf M τ ρ []) (w900 : Int64) (w902 : Int64) (w904 : Int64) : KI l D cy yX10_in cX10_in 6 .boolean (rL 0) τ ρ [.long w900, .long w902, .long w904] (fun r u => u = ρ ∧ (r.toInt = 0 ∨ r.toInt = 1) ∧ (r.toInt ≠ 0 → w902.toInt ≤ w900.toInt ∧ w900.toInt ≤ w904.toInt) ∧ (r.toInt = 0 → w900.toInt < w902.toInt ∨ w904.toInt < w900.toInt)) := by
  refine k_metI "EdgeEchoesModel" rfl (by decide +kernel) (Nat.le_of_ble_eq_true rfl) (fun r u h => (cI_nar (cI_01 h.2.1)).1) ?_
  intro p e s m args below meth c Q ls X hG hl ret
  have hl : lv_has ls 6 [(0, .long w900), (2, .long w902), (4, .long w904)] := hl
  refine lv_lload_n X.1 X.2.1 dX10_in_0 rfl (lv_at hl 0 rfl) ?_
  refine lv_lload_n X.1 X.2.1 dX10_in_1 rfl (lv_at hl 1 rfl) ?_
  refine n_lcmp X dX10_in_2 (fun x1 t1 => ?_)
  refine n_if_lt (tgt := 17) X dX10_in_3 (by decide) (fun c2 => ?_) (fun c2 => ?_)
  · refine n_ic X dX10_in_17 (by decide) (by decide) (fun x3 t3 => ?_)
    exact ret _ _ _ _ x3 _ hG ⟨rfl, by omega⟩ dX10_in_18
  · refine lv_lload_n X.1 X.2.1 dX10_in_6 rfl (lv_at hl 0 rfl) ?_
    refine lv_lload X.1 X.2.1 dX10_in_7 (lv_at hl 2 rfl) ?_
    refine n_lcmp X dX10_in_9 (fun x4 t4 => ?_)
    refine n_if_gt (tgt := 17) X dX10_in_10 (by decide) (fun c5 => ?_) (fun c5 => ?_)
    · refine n_ic X dX10_in_17 (by decide) (by decide) (fun x6 t6 => ?_)
      exact ret _ _ _ _ x6 _ hG ⟨rfl, by omega⟩ dX10_in_18
    · refine n_ic X dX10_in_13 (by decide) (by decide) (fun x7 t7 => ?_)
      refine lv_goto (tgt := 18) X.1 X.2.1 dX10_in_14 (by decide) ?_
      exact ret _ _ _ _ x7 _ hG ⟨rfl, by omega⟩ dX10_in_18
set_option maxHeartbeats 4000000 in
set_option maxRecDepth 100000 in
theorem c_X10_bound (l : Launch) (D : va_G) (cy : Nat → ClassId) (τ : ty_T) (ρ : ty_R) {M : md_T} (hN : ty_N τ ρ) (hR : ty_Rg M τ ρ) (hF : ty_Wf M τ ρ []) (x900 : Int32) : KI l D cy yX10_bound cX10_bound 1 .int (rL 0) τ ρ [.int x900] (fun r u => u = ρ ∧ True) := by
  refine k_metI "EdgeEchoesModel" rfl (by decide +kernel) (Nat.le_of_ble_eq_true rfl) (fun _ _ _ => rfl) ?_
  intro p e s m args below meth c Q ls X hG hl ret
  have hl : lv_has ls 1 [(0, .int x900)] := hl
  have g900 := cI_rng x900
  refine lv_iload_n X.1 X.2.1 dX10_bound_0 rfl (lv_at hl 0 rfl) ?_
  refine n_ldc X q_1069 (n := 400000) (by decide +kernel) dX10_bound_1 (fun x1 t1 => ?_)
  refine n_icmp_le (tgt := 11) X dX10_bound_3 (by decide) (fun c2 => ?_) (fun c2 => ?_)
  · refine lv_iload_n X.1 X.2.1 dX10_bound_11 rfl (lv_at hl 0 rfl) ?_
    refine n_ldc X q_1070 (n := -400000) (by decide +kernel) dX10_bound_12 (fun x3 t3 => ?_)
    refine n_icmp_ge (tgt := 22) X dX10_bound_14 (by decide) (fun c4 => ?_) (fun c4 => ?_)
    · refine lv_iload_n X.1 X.2.1 dX10_bound_22 rfl (lv_at hl 0 rfl) ?_
      exact ret _ _ _ _ x900 _ hG ⟨rfl, trivial⟩ dX10_bound_23
    · refine n_ldc X q_1070 (n := -400000) (by decide +kernel) dX10_bound_17 (fun x5 t5 => ?_)
      refine lv_goto (tgt := 23) X.1 X.2.1 dX10_bound_19 (by decide) ?_
      exact ret _ _ _ _ x5 _ hG ⟨rfl, trivial⟩ dX10_bound_23
  · refine n_ldc X q_1069 (n := 400000) (by decide +kernel) dX10_bound_6 (fun x6 t6 => ?_)
    refine lv_goto (tgt := 23) X.1 X.2.1 dX10_bound_8 (by decide) ?_
    exact ret _ _ _ _ x6 _ hG ⟨rfl, trivial⟩ dX10_bound_23
set_option maxHeartbeats 4000000 in
set_option maxRecDepth 100000 in
theorem c_X10_isLine (l : Launch) (D : va_G) (cy : Nat → ClassId) (τ : ty_T) (ρ : ty_R) {M : md_T} (hN : ty_N τ ρ) (hR : ty_Rg M τ ρ) (hF : ty_Wf M τ ρ []) {a900 : Nat} (h900 : τ a900 = some (0, 10)) {P N : Nat} (hB : HB M P N) : KI l D cy yX10_isLine cX10_isLine 1 .boolean (rL 0) τ ρ [.ref a900] (fun r u => u = ρ ∧ (r.toInt = 0 ∨ r.toInt = 1)) := by
  refine k_metI "EdgeEchoesModel" rfl (by decide +kernel) (Nat.le_of_ble_eq_true rfl) (fun r u h => (cI_nar (cI_01 h.2)).1) ?_
  intro p e s m args below meth c Q ls X hG hl ret
  have hl : lv_has ls 1 [(0, .ref a900)] := hl
  obtain ⟨⟨⟨n9, m9, n9p⟩, ⟨n13, m13, n13p⟩, ⟨n3, m3, n3p⟩, m8⟩, ⟨mN, mP, ⟨gG, mG, lG⟩, mL, mF⟩, mO, ⟨mK, mS, mQ, mZ⟩, hN72, hP8, hNP⟩ := id hB
  refine lv_aload_n X.1 X.2.1 dX10_isLine_0 rfl (lv_at hl 0 rfl) ?_
  refine gf_10_0 X hG h900 q_876 dX10_isLine_1 (hN _ _ _ h900) (fun a1 h1 r1 => ?_)
  refine n_sp X dX10_isLine_4 (by decide) (by decide) (fun x2 t2 => ?_)
  refine tg_iald X hG h1 rfl (cI_in (n := 4261) (by omega)) dX10_isLine_7 (fun x3 r3 => ?_)
  refine n_ic X dX10_isLine_8 (by decide) (by decide) (fun x4 t4 => ?_)
  refine n_icmp_ne (tgt := 16) X dX10_isLine_9 (by decide) (fun c5 => ?_) (fun c5 => ?_)
  · refine n_ic X dX10_isLine_16 (by decide) (by decide) (fun x6 t6 => ?_)
    exact ret _ _ _ _ x6 _ hG ⟨rfl, by omega⟩ dX10_isLine_17
  · refine n_ic X dX10_isLine_12 (by decide) (by decide) (fun x7 t7 => ?_)
    refine lv_goto (tgt := 17) X.1 X.2.1 dX10_isLine_13 (by decide) ?_
    exact ret _ _ _ _ x7 _ hG ⟨rfl, by omega⟩ dX10_isLine_17
set_option maxHeartbeats 4000000 in
set_option maxRecDepth 100000 in
theorem c_X10_isCell (l : Launch) (D : va_G) (cy : Nat → ClassId) (τ : ty_T) (ρ : ty_R) {M : md_T} (hN : ty_N τ ρ) (hR : ty_Rg M τ ρ) (hF : ty_Wf M τ ρ []) {a900 : Nat} (h900 : τ a900 = some (0, 10)) (x901 : Int32) {P N : Nat} (hB : HB M P N) : KI l D cy yX10_isCell cX10_isCell 2 .boolean (rL 1) τ ρ [.ref a900, .int x901] (fun r u => u = ρ ∧ (r.toInt = 0 ∨ r.toInt = 1) ∧ (r.toInt ≠ 0 → 0 ≤ x901.toInt ∧ x901.toInt ≤ 71) ∧ (r.toInt ≠ 0 → x901.toInt < (N : Int))) := by
  refine k_metI "EdgeEchoesModel" rfl (by decide +kernel) (Nat.le_of_ble_eq_true rfl) (fun r u h => (cI_nar (cI_01 h.2.1)).1) ?_
  intro p e s m args below meth c Q ls X hG hl ret
  have hl : lv_has ls 2 [(0, .ref a900), (1, .int x901)] := hl
  obtain ⟨⟨⟨n9, m9, n9p⟩, ⟨n13, m13, n13p⟩, ⟨n3, m3, n3p⟩, m8⟩, ⟨mN, mP, ⟨gG, mG, lG⟩, mL, mF⟩, mO, ⟨mK, mS, mQ, mZ⟩, hN72, hP8, hNP⟩ := id hB
  have g901 := cI_rng x901
  refine lv_iload_n X.1 X.2.1 dX10_isCell_0 rfl (lv_at hl 1 rfl) ?_
  refine n_i2l X dX10_isCell_1 (fun w1 t1 => ?_)
  refine n_lc X dX10_isCell_2 (fun w2 t2 => ?_)
  have t2 : w2.toInt = 0 := t2
  refine lv_aload_n X.1 X.2.1 dX10_isCell_3 rfl (lv_at hl 0 rfl) ?_
  refine gf_10_0 X hG h900 q_876 dX10_isCell_4 (hN _ _ _ h900) (fun a3 h3 r3 => ?_)
  refine n_sp X dX10_isCell_7 (by decide) (by decide) (fun x4 t4 => ?_)
  refine tg_iald X hG h3 rfl (cI_in (n := 4261) (by omega)) dX10_isCell_10 (fun x5 r5 => ?_)
  have b5 := rdR (hR _ _ _ _ h3 r5) (n := 258) (by omega) mN
  refine n_ic X dX10_isCell_11 (by decide) (by decide) (fun x6 t6 => ?_)
  refine n_sub X dX10_isCell_12 (by omega) (by omega) (fun x7 t7 => ?_)
  refine n_i2l X dX10_isCell_13 (fun w8 t8 => ?_)
  refine k_cSi X hG (c_X10_in l D cy τ _ hN hR (ty_Wf.sub (S' := []) hF (by decide)) w1 w2 w8 ) ys_X10_in q_957 ⟨rfl, rfl⟩ ⟨Nat.le_of_ble_eq_true rfl, Nat.le_of_ble_eq_true rfl⟩ rfl hl.1 rfl (Nat.le_of_ble_eq_true rfl) ⟨Nat.zero_le _, Nat.zero_le _⟩ dX10_isCell_14 (fun x10 u11 H locs hG po9 => ?_)
  obtain ⟨eu11, po9⟩ := po9
  rw [eu11] at hG
  exact ret _ _ _ _ x10 _ hG ⟨rfl, by omega⟩ dX10_isCell_17
set_option maxHeartbeats 4000000 in
set_option maxRecDepth 100000 in
theorem c_X10_isPlace (l : Launch) (D : va_G) (cy : Nat → ClassId) (τ : ty_T) (ρ : ty_R) {M : md_T} (hN : ty_N τ ρ) (hR : ty_Rg M τ ρ) (hF : ty_Wf M τ ρ []) {a900 : Nat} (h900 : τ a900 = some (0, 10)) (x901 : Int32) {P N : Nat} (hB : HB M P N) : KI l D cy yX10_isPlace cX10_isPlace 2 .boolean (rL 1) τ ρ [.ref a900, .int x901] (fun r u => u = ρ ∧ (r.toInt = 0 ∨ r.toInt = 1) ∧ (r.toInt ≠ 0 → 1 ≤ x901.toInt ∧ x901.toInt ≤ 71) ∧ (r.toInt ≠ 0 → x901.toInt < (N : Int))) := by
  refine k_metI "EdgeEchoesModel" rfl (by decide +kernel) (Nat.le_of_ble_eq_true rfl) (fun r u h => (cI_nar (cI_01 h.2.1)).1) ?_
  intro p e s m args below meth c Q ls X hG hl ret
  have hl : lv_has ls 2 [(0, .ref a900), (1, .int x901)] := hl
  obtain ⟨⟨⟨n9, m9, n9p⟩, ⟨n13, m13, n13p⟩, ⟨n3, m3, n3p⟩, m8⟩, ⟨mN, mP, ⟨gG, mG, lG⟩, mL, mF⟩, mO, ⟨mK, mS, mQ, mZ⟩, hN72, hP8, hNP⟩ := id hB
  have g901 := cI_rng x901
  refine lv_iload_n X.1 X.2.1 dX10_isPlace_0 rfl (lv_at hl 1 rfl) ?_
  refine n_i2l X dX10_isPlace_1 (fun w1 t1 => ?_)
  refine n_lc X dX10_isPlace_2 (fun w2 t2 => ?_)
  have t2 : w2.toInt = 1 := t2
  refine lv_aload_n X.1 X.2.1 dX10_isPlace_3 rfl (lv_at hl 0 rfl) ?_
  refine gf_10_0 X hG h900 q_876 dX10_isPlace_4 (hN _ _ _ h900) (fun a3 h3 r3 => ?_)
  refine n_sp X dX10_isPlace_7 (by decide) (by decide) (fun x4 t4 => ?_)
  refine tg_iald X hG h3 rfl (cI_in (n := 4261) (by omega)) dX10_isPlace_10 (fun x5 r5 => ?_)
  have b5 := rdR (hR _ _ _ _ h3 r5) (n := 258) (by omega) mN
  refine n_ic X dX10_isPlace_11 (by decide) (by decide) (fun x6 t6 => ?_)
  refine n_sub X dX10_isPlace_12 (by omega) (by omega) (fun x7 t7 => ?_)
  refine n_i2l X dX10_isPlace_13 (fun w8 t8 => ?_)
  refine k_cSi X hG (c_X10_in l D cy τ _ hN hR (ty_Wf.sub (S' := []) hF (by decide)) w1 w2 w8 ) ys_X10_in q_957 ⟨rfl, rfl⟩ ⟨Nat.le_of_ble_eq_true rfl, Nat.le_of_ble_eq_true rfl⟩ rfl hl.1 rfl (Nat.le_of_ble_eq_true rfl) ⟨Nat.zero_le _, Nat.zero_le _⟩ dX10_isPlace_14 (fun x10 u11 H locs hG po9 => ?_)
  obtain ⟨eu11, po9⟩ := po9
  rw [eu11] at hG
  exact ret _ _ _ _ x10 _ hG ⟨rfl, by omega⟩ dX10_isPlace_17
set_option maxHeartbeats 4000000 in
set_option maxRecDepth 100000 in
theorem c_X10_isGate (l : Launch) (D : va_G) (cy : Nat → ClassId) (τ : ty_T) (ρ : ty_R) {M : md_T} (hN : ty_N τ ρ) (hR : ty_Rg M τ ρ) (hF : ty_Wf M τ ρ []) {a900 : Nat} (h900 : τ a900 = some (0, 10)) (x901 : Int32) {P N : Nat} (hB : HB M P N) : KI l D cy yX10_isGate cX10_isGate 2 .boolean (rL 1) τ ρ [.ref a900, .int x901] (fun r u => u = ρ ∧ (r.toInt = 0 ∨ r.toInt = 1) ∧ (r.toInt ≠ 0 → 0 ≤ x901.toInt ∧ x901.toInt ≤ 5)) := by
  refine k_metI "EdgeEchoesModel" rfl (by decide +kernel) (Nat.le_of_ble_eq_true rfl) (fun r u h => (cI_nar (cI_01 h.2.1)).1) ?_
  intro p e s m args below meth c Q ls X hG hl ret
  have hl : lv_has ls 2 [(0, .ref a900), (1, .int x901)] := hl
  obtain ⟨⟨⟨n9, m9, n9p⟩, ⟨n13, m13, n13p⟩, ⟨n3, m3, n3p⟩, m8⟩, ⟨mN, mP, ⟨gG, mG, lG⟩, mL, mF⟩, mO, ⟨mK, mS, mQ, mZ⟩, hN72, hP8, hNP⟩ := id hB
  have g901 := cI_rng x901
  refine lv_iload_n X.1 X.2.1 dX10_isGate_0 rfl (lv_at hl 1 rfl) ?_
  refine n_i2l X dX10_isGate_1 (fun w1 t1 => ?_)
  refine n_lc X dX10_isGate_2 (fun w2 t2 => ?_)
  have t2 : w2.toInt = 0 := t2
  refine lv_aload_n X.1 X.2.1 dX10_isGate_3 rfl (lv_at hl 0 rfl) ?_
  refine gf_10_0 X hG h900 q_876 dX10_isGate_4 (hN _ _ _ h900) (fun a3 h3 r3 => ?_)
  refine n_sp X dX10_isGate_7 (by decide) (by decide) (fun x4 t4 => ?_)
  refine tg_iald X hG h3 rfl (cI_in (n := 4261) (by omega)) dX10_isGate_10 (fun x5 r5 => ?_)
  have b5 := rdR (hR _ _ _ _ h3 r5) (n := 259) (by omega) mG
  refine n_ic X dX10_isGate_11 (by decide) (by decide) (fun x6 t6 => ?_)
  refine n_sub X dX10_isGate_12 (by omega) (by omega) (fun x7 t7 => ?_)
  refine n_i2l X dX10_isGate_13 (fun w8 t8 => ?_)
  refine k_cSi X hG (c_X10_in l D cy τ _ hN hR (ty_Wf.sub (S' := []) hF (by decide)) w1 w2 w8 ) ys_X10_in q_957 ⟨rfl, rfl⟩ ⟨Nat.le_of_ble_eq_true rfl, Nat.le_of_ble_eq_true rfl⟩ rfl hl.1 rfl (Nat.le_of_ble_eq_true rfl) ⟨Nat.zero_le _, Nat.zero_le _⟩ dX10_isGate_14 (fun x10 u11 H locs hG po9 => ?_)
  obtain ⟨eu11, po9⟩ := po9
  rw [eu11] at hG
  exact ret _ _ _ _ x10 _ hG ⟨rfl, by omega⟩ dX10_isGate_17
set_option maxHeartbeats 4000000 in
set_option maxRecDepth 100000 in
theorem c_X10_isPiece (l : Launch) (D : va_G) (cy : Nat → ClassId) (τ : ty_T) (ρ : ty_R) {M : md_T} (hN : ty_N τ ρ) (hR : ty_Rg M τ ρ) (hF : ty_Wf M τ ρ []) {a900 : Nat} (h900 : τ a900 = some (0, 10)) (x901 : Int32) {P N : Nat} (hB : HB M P N) : KI l D cy yX10_isPiece cX10_isPiece 2 .boolean (rL 1) τ ρ [.ref a900, .int x901] (fun r u => u = ρ ∧ (r.toInt = 0 ∨ r.toInt = 1) ∧ (r.toInt ≠ 0 → 0 ≤ x901.toInt ∧ x901.toInt ≤ 7) ∧ (r.toInt ≠ 0 → x901.toInt < (P : Int))) := by
  refine k_metI "EdgeEchoesModel" rfl (by decide +kernel) (Nat.le_of_ble_eq_true rfl) (fun r u h => (cI_nar (cI_01 h.2.1)).1) ?_
  intro p e s m args below meth c Q ls X hG hl ret
  have hl : lv_has ls 2 [(0, .ref a900), (1, .int x901)] := hl
  obtain ⟨⟨⟨n9, m9, n9p⟩, ⟨n13, m13, n13p⟩, ⟨n3, m3, n3p⟩, m8⟩, ⟨mN, mP, ⟨gG, mG, lG⟩, mL, mF⟩, mO, ⟨mK, mS, mQ, mZ⟩, hN72, hP8, hNP⟩ := id hB
  have g901 := cI_rng x901
  refine lv_iload_n X.1 X.2.1 dX10_isPiece_0 rfl (lv_at hl 1 rfl) ?_
  refine n_i2l X dX10_isPiece_1 (fun w1 t1 => ?_)
  refine n_lc X dX10_isPiece_2 (fun w2 t2 => ?_)
  have t2 : w2.toInt = 0 := t2
  refine lv_aload_n X.1 X.2.1 dX10_isPiece_3 rfl (lv_at hl 0 rfl) ?_
  refine gf_10_0 X hG h900 q_876 dX10_isPiece_4 (hN _ _ _ h900) (fun a3 h3 r3 => ?_)
  refine n_sp X dX10_isPiece_7 (by decide) (by decide) (fun x4 t4 => ?_)
  refine tg_iald X hG h3 rfl (cI_in (n := 4261) (by omega)) dX10_isPiece_10 (fun x5 r5 => ?_)
  have b5 := rdR (hR _ _ _ _ h3 r5) (n := 249) (by omega) mP
  refine n_ic X dX10_isPiece_11 (by decide) (by decide) (fun x6 t6 => ?_)
  refine n_sub X dX10_isPiece_12 (by omega) (by omega) (fun x7 t7 => ?_)
  refine n_i2l X dX10_isPiece_13 (fun w8 t8 => ?_)
  refine k_cSi X hG (c_X10_in l D cy τ _ hN hR (ty_Wf.sub (S' := []) hF (by decide)) w1 w2 w8 ) ys_X10_in q_957 ⟨rfl, rfl⟩ ⟨Nat.le_of_ble_eq_true rfl, Nat.le_of_ble_eq_true rfl⟩ rfl hl.1 rfl (Nat.le_of_ble_eq_true rfl) ⟨Nat.zero_le _, Nat.zero_le _⟩ dX10_isPiece_14 (fun x10 u11 H locs hG po9 => ?_)
  obtain ⟨eu11, po9⟩ := po9
  rw [eu11] at hG
  exact ret _ _ _ _ x10 _ hG ⟨rfl, by omega⟩ dX10_isPiece_17
set_option maxHeartbeats 4000000 in
set_option maxRecDepth 100000 in
theorem c_X10_fault (l : Launch) (D : va_G) (cy : Nat → ClassId) (τ : ty_T) (ρ : ty_R) {M : md_T} (hN : ty_N τ ρ) (hR : ty_Rg M τ ρ) (hF : ty_Wf M τ ρ []) {a900 : Nat} (h900 : τ a900 = some (0, 10)) : KI l D cy yX10_fault cX10_fault 1 .int (rL 0) τ ρ [.ref a900] (fun r u => u = ρ ∧ True) := by
  refine k_metI "EdgeEchoesModel" rfl (by decide +kernel) (Nat.le_of_ble_eq_true rfl) (fun _ _ _ => rfl) ?_
  intro p e s m args below meth c Q ls X hG hl ret
  have hl : lv_has ls 1 [(0, .ref a900)] := hl
  refine lv_aload_n X.1 X.2.1 dX10_fault_0 rfl (lv_at hl 0 rfl) ?_
  refine gf_10_8 X hG h900 q_884 dX10_fault_1 (fun x1 r1 => ?_)
  have g1 := cI_rng x1
  exact ret _ _ _ _ x1 _ hG ⟨rfl, trivial⟩ dX10_fault_4
set_option maxHeartbeats 4000000 in
set_option maxRecDepth 100000 in
theorem c_X10_noNoise (l : Launch) (D : va_G) (cy : Nat → ClassId) (τ : ty_T) (ρ : ty_R) {M : md_T} (hN : ty_N τ ρ) (hR : ty_Rg M τ ρ) (hF : ty_Wf M τ ρ []) {a900 : Nat} (h900 : τ a900 = some (0, 10)) (x901 : Int32) (x902 : Int32) : KI l D cy yX10_noNoise cX10_noNoise 6 .int (rL 1) τ ρ [.ref a900, .int x901, .int x902] (fun r u => u = ρ ∧ True) := by
  refine k_metI "EdgeEchoesModel" rfl (by decide +kernel) (Nat.le_of_ble_eq_true rfl) (fun _ _ _ => rfl) ?_
  intro p e s m args below meth c Q ls X hG hl ret
  have hl : lv_has ls 6 [(0, .ref a900), (1, .int x901), (2, .int x902)] := hl
  have g901 := cI_rng x901
  have g902 := cI_rng x902
  refine lv_iload_n X.1 X.2.1 dX10_noNoise_0 rfl (lv_at hl 1 rfl) ?_
  refine n_i2l X dX10_noNoise_1 (fun w1 t1 => ?_)
  refine n_lc X dX10_noNoise_2 (fun w2 t2 => ?_)
  have t2 : w2.toInt = 0 := t2
  refine n_ldl X q_1223 (n := 60) (by decide +kernel) dX10_noNoise_3 (fun w3 e3 t3 => ?_)
  refine k_cSi X hG (c_X10_in l D cy τ _ hN hR (ty_Wf.sub (S' := []) hF (by decide)) w1 w2 w3 ) ys_X10_in q_957 ⟨rfl, rfl⟩ ⟨Nat.le_of_ble_eq_true rfl, Nat.le_of_ble_eq_true rfl⟩ rfl hl.1 rfl (Nat.le_of_ble_eq_true rfl) ⟨Nat.zero_le _, Nat.zero_le _⟩ dX10_noNoise_6 (fun x5 u6 H locs hG po4 => ?_)
  obtain ⟨eu6, po4⟩ := po4
  rw [eu6] at hG
  refine n_if_eq (tgt := 24) X dX10_noNoise_9 (by decide) (fun c7 => ?_) (fun c7 => ?_)
  · refine n_ldc X q_960 (n := -1000000002) (by decide +kernel) dX10_noNoise_24 (fun x8 t8 => ?_)
    exact ret _ _ _ _ x8 _ hG ⟨rfl, trivial⟩ dX10_noNoise_26
  · refine lv_iload_n X.1 X.2.1 dX10_noNoise_12 rfl (lv_at hl 2 rfl) ?_
    refine n_i2l X dX10_noNoise_13 (fun w9 t9 => ?_)
    refine n_lc X dX10_noNoise_14 (fun w10 t10 => ?_)
    have t10 : w10.toInt = 0 := t10
    refine n_ldl X q_1224 (n := 100) (by decide +kernel) dX10_noNoise_15 (fun w11 e11 t11 => ?_)
    refine k_cSi X hG (c_X10_in l D cy τ _ hN hR (ty_Wf.sub (S' := []) hF (by decide)) w9 w10 w11 ) ys_X10_in q_957 ⟨rfl, rfl⟩ ⟨Nat.le_of_ble_eq_true rfl, Nat.le_of_ble_eq_true rfl⟩ rfl hl.1 rfl (Nat.le_of_ble_eq_true rfl) ⟨Nat.zero_le _, Nat.zero_le _⟩ dX10_noNoise_18 (fun x13 u14 H locs hG po12 => ?_)
    obtain ⟨eu14, po12⟩ := po12
    rw [eu14] at hG
    refine n_if_ne (tgt := 27) X dX10_noNoise_21 (by decide) (fun c15 => ?_) (fun c15 => ?_)
    · refine n_ldl X q_1225 (n := 1000000000) (by decide +kernel) dX10_noNoise_27 (fun w16 e16 t16 => ?_)
      refine lv_lstore_n (lv' := [(3, .long w16), (0, .ref a900), (1, .int x901), (2, .int x902)]) X.1 X.2.1 dX10_noNoise_30 rfl hl (by decide) rfl (fun ls hl => ?_)
      refine n_ic X dX10_noNoise_31 (by decide) (by decide) (fun x17 t17 => ?_)
      refine lv_istore (lv' := [(5, .int x17), (3, .long w16), (0, .ref a900), (1, .int x901), (2, .int x902)]) X.1 X.2.1 dX10_noNoise_32 hl (by decide) rfl (fun ls hl => ?_)
      have J34 : ∀ (n : Nat) (H : Heap) (locs : List Loc) (ls : Array Slot) (w18 : Int64) (x19 : Int32), (0 ≤ x19.toInt ∧ x19.toInt ≤ 60) → (60 - x19.toInt).toNat < n → TG D cy τ ρ (ty_d τ) s.heap H locs → lv_has ls 6 [(0, .ref a900), (1, .int x901), (2, .int x902), (3, .long w18), (5, .int x19)] → W p l e (rL 1) s m args below meth c H locs 0 0 Q (F0 m 34 ls []) := by
        intro n
        induction n with
        | zero => intro H locs ls w18 x19 bx19 hm34 hG hl; exact absurd hm34 (Nat.not_lt_zero _)
        | succ n ih34 =>
          intro H locs ls w18 x19 bx19 hm34 hG hl
          refine lv_iload X.1 X.2.1 dX10_noNoise_34 (lv_at hl 4 rfl) ?_
          refine lv_iload_n X.1 X.2.1 dX10_noNoise_36 rfl (lv_at hl 1 rfl) ?_
          refine n_icmp_ge (tgt := 55) X dX10_noNoise_37 (by decide) (fun c20 => ?_) (fun c20 => ?_)
          · refine lv_lload_n X.1 X.2.1 dX10_noNoise_55 rfl (lv_at hl 3 rfl) ?_
            refine lv_l2i X.1 X.2.1 dX10_noNoise_56 rfl ?_
            refine n_any (fun x21 => ?_)
            exact ret _ _ _ _ x21 _ hG ⟨rfl, trivial⟩ dX10_noNoise_57
          · refine lv_lload_n X.1 X.2.1 dX10_noNoise_40 rfl (lv_at hl 3 rfl) ?_
            refine lv_iload_n X.1 X.2.1 dX10_noNoise_41 rfl (lv_at hl 2 rfl) ?_
            refine n_i2l X dX10_noNoise_42 (fun w22 t22 => ?_)
            refine lv_lmul X.1 X.2.1 dX10_noNoise_43 ?_
            refine n_anyl (fun w23 => ?_)
            refine n_ldl X q_1224 (n := 100) (by decide +kernel) dX10_noNoise_44 (fun w24 e24 t24 => ?_)
            refine lv_ldiv X.1 X.2.1 dX10_noNoise_47 (by rw [e24]; decide) ?_
            refine n_anyl (fun w25 => ?_)
            refine lv_lstore_n (lv' := [(3, .long w25), (0, .ref a900), (1, .int x901), (2, .int x902), (5, .int x19)]) X.1 X.2.1 dX10_noNoise_48 rfl hl (by decide) rfl (fun ls hl => ?_)
            refine n_inc X (fun z27 => [(5, .int z27), (3, .long w25), (0, .ref a900), (1, .int x901), (2, .int x902)]) dX10_noNoise_49 hl (k := 4) rfl (by decide) (by decide) (by omega) (by omega) (by decide) (fun _ => rfl) (fun x26 ls t26 hl => ?_)
            have hl : lv_has ls 6 [(5, .int x26), (3, .long w25), (0, .ref a900), (1, .int x901), (2, .int x902)] := hl
            refine lv_goto (tgt := 34) X.1 X.2.1 dX10_noNoise_52 (by decide) ?_
            exact ih34 _ _ _ w25 x26 (by omega) (by omega) hG (lv_sub hl [2, 3, 4, 1, 0] rfl)
      exact J34 _ _ _ _ w16 x17 (by omega) (Nat.lt_succ_self _) hG (lv_sub hl [2, 3, 4, 1, 0] rfl)
    · refine n_ldc X q_960 (n := -1000000002) (by decide +kernel) dX10_noNoise_24 (fun x28 t28 => ?_)
      exact ret _ _ _ _ x28 _ hG ⟨rfl, trivial⟩ dX10_noNoise_26
set_option maxHeartbeats 4000000 in
set_option maxRecDepth 100000 in
theorem c_X10_ohmsOf (l : Launch) (D : va_G) (cy : Nat → ClassId) (τ : ty_T) (ρ : ty_R) {M : md_T} (hN : ty_N τ ρ) (hR : ty_Rg M τ ρ) (hF : ty_Wf M τ ρ []) {a900 : Nat} (h900 : τ a900 = some (0, 10)) (x901 : Int32) (zx901 : 0 ≤ x901.toInt ∧ x901.toInt ≤ 3736) (x902 : Int32) (zx902 : 0 ≤ x902.toInt ∧ x902.toInt ≤ 71) {P N : Nat} (hB : HB M P N) {b : Nat} (eb : x901.toInt = (b : Int)) (hb : b = 0 ∨ b = 3736) (hL : LV M P b) (pre0 : x902.toInt < (N : Int)) : KI l D cy yX10_ohmsOf cX10_ohmsOf 3 .int (rL 0) τ ρ [.ref a900, .int x901, .int x902] (fun r u => u = ρ ∧ (1 ≤ r.toInt ∧ r.toInt ≤ 99)) := by
  refine k_metI "EdgeEchoesModel" rfl (by decide +kernel) (Nat.le_of_ble_eq_true rfl) (fun _ _ _ => rfl) ?_
  intro p e s m args below meth c Q ls X hG hl ret
  have hl : lv_has ls 3 [(0, .ref a900), (1, .int x901), (2, .int x902)] := hl
  obtain ⟨⟨⟨n9, m9, n9p⟩, ⟨n13, m13, n13p⟩, ⟨n3, m3, n3p⟩, m8⟩, ⟨mN, mP, ⟨gG, mG, lG⟩, mL, mF⟩, mO, ⟨mK, mS, mQ, mZ⟩, hN72, hP8, hNP⟩ := id hB
  refine lv_aload_n X.1 X.2.1 dX10_ohmsOf_0 rfl (lv_at hl 0 rfl) ?_
  refine gf_10_0 X hG h900 q_876 dX10_ohmsOf_1 (hN _ _ _ h900) (fun a1 h1 r1 => ?_)
  refine lv_iload_n X.1 X.2.1 dX10_ohmsOf_4 rfl (lv_at hl 1 rfl) ?_
  refine n_sp X dX10_ohmsOf_5 (by decide) (by decide) (fun x2 t2 => ?_)
  refine n_add X dX10_ohmsOf_8 (by omega) (by omega) (fun x3 t3 => ?_)
  refine lv_aload_n X.1 X.2.1 dX10_ohmsOf_9 rfl (lv_at hl 0 rfl) ?_
  refine gf_10_1 X hG h900 q_877 dX10_ohmsOf_10 (hN _ _ _ h900) (fun a4 h4 r4 => ?_)
  refine lv_iload_n X.1 X.2.1 dX10_ohmsOf_13 rfl (lv_at hl 2 rfl) ?_
  refine tg_iald X hG h4 rfl (cI_in (n := 72) (by omega)) dX10_ohmsOf_14 (fun x5 r5 => ?_)
  have b5 := rdO hB (hR _ _ _ _ h4 r5) (by omega)
  refine n_add X dX10_ohmsOf_15 (by omega) (by omega) (fun x6 t6 => ?_)
  refine tg_iald X hG h1 rfl (cI_in (n := 4261) (by omega)) dX10_ohmsOf_16 (fun x7 r7 => ?_)
  have b7 := rdV hL (hR _ _ _ _ h1 r7) (q := (x6.toInt - (b : Int) - 236).toNat) (by omega) (by omega)
  exact ret _ _ _ _ x7 _ hG ⟨rfl, by omega⟩ dX10_ohmsOf_17
set_option maxHeartbeats 4000000 in
set_option maxRecDepth 100000 in
theorem c_X10_meets (l : Launch) (D : va_G) (cy : Nat → ClassId) (τ : ty_T) (ρ : ty_R) {M : md_T} (hN : ty_N τ ρ) (hR : ty_Rg M τ ρ) (hF : ty_Wf M τ ρ [6031, 6032]) {a900 : Nat} (h900 : τ a900 = some (0, 10)) (x901 : Int32) (zx901 : 0 ≤ x901.toInt ∧ x901.toInt ≤ 3736) (x902 : Int32) (zx902 : 1 ≤ x902.toInt ∧ x902.toInt ≤ 71) {P N : Nat} (hB : HB M P N) {b : Nat} (eb : x901.toInt = (b : Int)) (hb : b = 0 ∨ b = 3736) (hL : LV M P b) (pre0 : x902.toInt < (N : Int)) : KV l D cy yX10_meets cX10_meets 7 (rL 1) τ ρ [.ref a900, .int x901, .int x902] (fun w => w = ρ) := by
  refine k_metV "EdgeEchoesModel" rfl (by decide +kernel) (Nat.le_of_ble_eq_true rfl) ?_
  intro p e s m args below meth c Q ls X hG hl ret
  have hl : lv_has ls 7 [(0, .ref a900), (1, .int x901), (2, .int x902)] := hl
  obtain ⟨⟨⟨n9, m9, n9p⟩, ⟨n13, m13, n13p⟩, ⟨n3, m3, n3p⟩, m8⟩, ⟨mN, mP, ⟨gG, mG, lG⟩, mL, mF⟩, mO, ⟨mK, mS, mQ, mZ⟩, hN72, hP8, hNP⟩ := id hB
  refine lv_aload_n X.1 X.2.1 dX10_meets_0 rfl (lv_at hl 0 rfl) ?_
  refine gf_10_0 X hG h900 q_876 dX10_meets_1 (hN _ _ _ h900) (fun a1 h1 r1 => ?_)
  refine lv_iload_n X.1 X.2.1 dX10_meets_4 rfl (lv_at hl 1 rfl) ?_
  refine n_ic X dX10_meets_5 (by decide) (by decide) (fun x2 t2 => ?_)
  refine n_add X dX10_meets_6 (by omega) (by omega) (fun x3 t3 => ?_)
  refine lv_iload_n X.1 X.2.1 dX10_meets_7 rfl (lv_at hl 2 rfl) ?_
  refine n_add X dX10_meets_8 (by omega) (by omega) (fun x4 t4 => ?_)
  refine n_ic X dX10_meets_9 (by decide) (by decide) (fun x5 t5 => ?_)
  refine n_sub X dX10_meets_10 (by omega) (by omega) (fun x6 t6 => ?_)
  refine tg_iald X hG h1 rfl (cI_in (n := 4261) (by omega)) dX10_meets_11 (fun x7 r7 => ?_)
  refine lv_istore_n (lv' := [(3, .int x7), (0, .ref a900), (1, .int x901), (2, .int x902)]) X.1 X.2.1 dX10_meets_12 rfl hl (by decide) rfl (fun ls hl => ?_)
  refine lv_aload_n X.1 X.2.1 dX10_meets_13 rfl (lv_at hl 1 rfl) ?_
  refine gf_10_0 X hG h900 q_876 dX10_meets_14 (hN _ _ _ h900) (fun a8 h8 r8 => ?_)
  refine lv_iload_n X.1 X.2.1 dX10_meets_17 rfl (lv_at hl 2 rfl) ?_
  refine n_bp X dX10_meets_18 (by decide) (by decide) (fun x9 t9 => ?_)
  refine n_add X dX10_meets_20 (by omega) (by omega) (fun x10 t10 => ?_)
  refine lv_iload_n X.1 X.2.1 dX10_meets_21 rfl (lv_at hl 3 rfl) ?_
  refine n_add X dX10_meets_22 (by omega) (by omega) (fun x11 t11 => ?_)
  refine tg_iald X hG h8 rfl (cI_in (n := 4261) (by omega)) dX10_meets_23 (fun x12 r12 => ?_)
  refine lv_istore (lv' := [(4, .int x12), (3, .int x7), (0, .ref a900), (1, .int x901), (2, .int x902)]) X.1 X.2.1 dX10_meets_24 hl (by decide) rfl (fun ls hl => ?_)
  refine lv_aload_n X.1 X.2.1 dX10_meets_26 rfl (lv_at hl 2 rfl) ?_
  refine lv_iload_n X.1 X.2.1 dX10_meets_27 rfl (lv_at hl 3 rfl) ?_
  refine lv_iload_n X.1 X.2.1 dX10_meets_28 rfl (lv_at hl 4 rfl) ?_
  refine n_ic X dX10_meets_29 (by decide) (by decide) (fun x13 t13 => ?_)
  refine n_sub X dX10_meets_30 (by omega) (by omega) (fun x14 t14 => ?_)
  refine k_cVi X hG (c_X10_ohmsOf l D cy τ _ hN hR (ty_Wf.sub (S' := []) hF (by decide)) h900 x901 (by omega) x14 (by omega) hB (b := b) (by omega) hb hL (by omega)) h900 rfl yv_X10_ohmsOf q_1054 ⟨rfl, rfl⟩ ⟨Nat.le_of_ble_eq_true rfl, Nat.le_of_ble_eq_true rfl⟩ rfl hl.1 rfl (Nat.le_of_ble_eq_true rfl) ⟨Nat.zero_le _, Nat.zero_le _⟩ dX10_meets_31 (fun x16 u17 H locs hG po15 => ?_)
  obtain ⟨eu17, po15⟩ := po15
  rw [eu17] at hG
  refine lv_istore (lv' := [(5, .int x16), (4, .int x12), (3, .int x7), (0, .ref a900), (1, .int x901), (2, .int x902)]) X.1 X.2.1 dX10_meets_34 hl (by decide) rfl (fun ls hl => ?_)
  refine lv_aload_n X.1 X.2.1 dX10_meets_36 rfl (lv_at hl 3 rfl) ?_
  refine lv_iload_n X.1 X.2.1 dX10_meets_37 rfl (lv_at hl 4 rfl) ?_
  refine lv_iload_n X.1 X.2.1 dX10_meets_38 rfl (lv_at hl 5 rfl) ?_
  refine k_cVi X hG (c_X10_ohmsOf l D cy τ _ hN hR (ty_Wf.sub (S' := []) hF (by decide)) h900 x901 (by omega) x902 (by omega) hB (b := b) (by omega) hb hL (by omega)) h900 rfl yv_X10_ohmsOf q_1054 ⟨rfl, rfl⟩ ⟨Nat.le_of_ble_eq_true rfl, Nat.le_of_ble_eq_true rfl⟩ rfl hl.1 rfl (Nat.le_of_ble_eq_true rfl) ⟨Nat.zero_le _, Nat.zero_le _⟩ dX10_meets_39 (fun x19 u20 H locs hG po18 => ?_)
  obtain ⟨eu20, po18⟩ := po18
  rw [eu20] at hG
  refine lv_istore (lv' := [(6, .int x19), (5, .int x16), (4, .int x12), (3, .int x7), (0, .ref a900), (1, .int x901), (2, .int x902)]) X.1 X.2.1 dX10_meets_42 hl (by decide) rfl (fun ls hl => ?_)
  refine lv_aload_n X.1 X.2.1 dX10_meets_44 rfl (lv_at hl 4 rfl) ?_
  refine gf_10_0 X hG h900 q_876 dX10_meets_45 (hN _ _ _ h900) (fun a21 h21 r21 => ?_)
  refine lv_iload_n X.1 X.2.1 dX10_meets_48 rfl (lv_at hl 5 rfl) ?_
  refine n_sp X dX10_meets_49 (by decide) (by decide) (fun x22 t22 => ?_)
  refine n_add X dX10_meets_52 (by omega) (by omega) (fun x23 t23 => ?_)
  refine lv_iload_n X.1 X.2.1 dX10_meets_53 rfl (lv_at hl 6 rfl) ?_
  refine n_add X dX10_meets_54 (by omega) (by omega) (fun x24 t24 => ?_)
  refine tg_iald X hG h21 rfl (cI_in (n := 4261) (by omega)) dX10_meets_55 (fun x25 r25 => ?_)
  rcases (show x25.toInt = 0 ∨ x25.toInt = 1 ∨ (x25.toInt ≠ 0 ∧ x25.toInt ≠ 1) by omega) with c26 | c26 | c26
  · refine lv_lookup (tgt := 84) (off := 28) X.1 X.2.1 dX10_meets_56 (by decide) (by rw [c26]; rfl) (by decide) ?_
    refine lv_aload_n X.1 X.2.1 dX10_meets_84 rfl (lv_at hl 4 rfl) ?_
    refine gf_10_22 X hG h900 q_898 dX10_meets_85 (hN _ _ _ h900) (fun a27 h27 r27 => ?_)
    refine lv_iload_n X.1 X.2.1 dX10_meets_88 rfl (lv_at hl 6 rfl) ?_
    refine n_ic X dX10_meets_89 (by decide) (by decide) (fun x28 t28 => ?_)
    refine n_sub X dX10_meets_90 (by omega) (by omega) (fun x29 t29 => ?_)
    refine lv_iload_n X.1 X.2.1 dX10_meets_91 rfl (lv_at hl 3 rfl) ?_
    refine lv_iload X.1 X.2.1 dX10_meets_92 (lv_at hl 0 rfl) ?_
    refine lv_iload X.1 X.2.1 dX10_meets_94 (lv_at hl 1 rfl) ?_
    refine n_sub X dX10_meets_96 (by omega) (by omega) (fun x30 t30 => ?_)
    refine lv_imul X.1 X.2.1 dX10_meets_97 ?_
    refine n_any (fun x31 => ?_)
    refine n_ic X dX10_meets_98 (by decide) (by decide) (fun x32 t32 => ?_)
    refine lv_iload X.1 X.2.1 dX10_meets_99 (lv_at hl 1 rfl) ?_
    refine n_mul X dX10_meets_101 (by rw [t32]; omega) (by rw [t32]; omega) (fun x33 t33 => ?_)
    rw [t32] at t33
    refine lv_iload X.1 X.2.1 dX10_meets_102 (lv_at hl 2 rfl) ?_
    refine lv_imul X.1 X.2.1 dX10_meets_104 ?_
    refine n_any (fun x34 => ?_)
    refine lv_iadd X.1 X.2.1 dX10_meets_105 ?_
    refine n_any (fun x35 => ?_)
    refine lv_iload X.1 X.2.1 dX10_meets_106 (lv_at hl 1 rfl) ?_
    refine lv_iload X.1 X.2.1 dX10_meets_108 (lv_at hl 0 rfl) ?_
    refine n_add X dX10_meets_110 (by omega) (by omega) (fun x36 t36 => ?_)
    refine lv_idiv X.1 X.2.1 dX10_meets_111 (n_nz (by omega)) ?_
    refine n_any (fun x37 => ?_)
    refine tg_iasf X hG h27 rfl (cI_in (n := 72) (by omega)) dX10_meets_112 (hF _ _ _ _ h27 (ty_in (n := 6032) rfl) (ty_rno (mZ 32 (by decide) _))) (fun H locs hG => ?_)
    refine lv_aload_n X.1 X.2.1 dX10_meets_113 rfl (lv_at hl 4 rfl) ?_
    refine gf_10_21 X hG h900 q_897 dX10_meets_114 (hN _ _ _ h900) (fun a38 h38 r38 => ?_)
    refine lv_iload_n X.1 X.2.1 dX10_meets_117 rfl (lv_at hl 6 rfl) ?_
    refine n_ic X dX10_meets_118 (by decide) (by decide) (fun x39 t39 => ?_)
    refine lv_iload X.1 X.2.1 dX10_meets_119 (lv_at hl 0 rfl) ?_
    refine n_mul X dX10_meets_121 (by rw [t39]; omega) (by rw [t39]; omega) (fun x40 t40 => ?_)
    rw [t39] at t40
    refine lv_iload_n X.1 X.2.1 dX10_meets_122 rfl (lv_at hl 3 rfl) ?_
    refine lv_imul X.1 X.2.1 dX10_meets_123 ?_
    refine n_any (fun x41 => ?_)
    refine lv_iload X.1 X.2.1 dX10_meets_124 (lv_at hl 2 rfl) ?_
    refine lv_iload X.1 X.2.1 dX10_meets_126 (lv_at hl 1 rfl) ?_
    refine lv_iload X.1 X.2.1 dX10_meets_128 (lv_at hl 0 rfl) ?_
    refine n_sub X dX10_meets_130 (by omega) (by omega) (fun x42 t42 => ?_)
    refine lv_imul X.1 X.2.1 dX10_meets_131 ?_
    refine n_any (fun x43 => ?_)
    refine lv_iadd X.1 X.2.1 dX10_meets_132 ?_
    refine n_any (fun x44 => ?_)
    refine lv_iload X.1 X.2.1 dX10_meets_133 (lv_at hl 1 rfl) ?_
    refine lv_iload X.1 X.2.1 dX10_meets_135 (lv_at hl 0 rfl) ?_
    refine n_add X dX10_meets_137 (by omega) (by omega) (fun x45 t45 => ?_)
    refine lv_idiv X.1 X.2.1 dX10_meets_138 (n_nz (by omega)) ?_
    refine n_any (fun x46 => ?_)
    refine tg_iasf X hG h38 rfl (cI_in (n := 72) (by omega)) dX10_meets_139 (hF _ _ _ _ h38 (ty_in (n := 6031) rfl) (ty_rno (mZ 31 (by decide) _))) (fun H locs hG => ?_)
    exact ret _ _ _ _ _ hG rfl dX10_meets_140
  · refine lv_lookup (tgt := 141) (off := 85) X.1 X.2.1 dX10_meets_56 (by decide) (by rw [c26]; rfl) (by decide) ?_
    refine lv_aload_n X.1 X.2.1 dX10_meets_141 rfl (lv_at hl 4 rfl) ?_
    refine gf_10_22 X hG h900 q_898 dX10_meets_142 (hN _ _ _ h900) (fun a47 h47 r47 => ?_)
    refine lv_iload_n X.1 X.2.1 dX10_meets_145 rfl (lv_at hl 6 rfl) ?_
    refine n_ic X dX10_meets_146 (by decide) (by decide) (fun x48 t48 => ?_)
    refine n_sub X dX10_meets_147 (by omega) (by omega) (fun x49 t49 => ?_)
    refine lv_iload_n X.1 X.2.1 dX10_meets_148 rfl (lv_at hl 3 rfl) ?_
    refine tg_iasf X hG h47 rfl (cI_in (n := 72) (by omega)) dX10_meets_149 (hF _ _ _ _ h47 (ty_in (n := 6032) rfl) (ty_rno (mZ 32 (by decide) _))) (fun H locs hG => ?_)
    refine lv_aload_n X.1 X.2.1 dX10_meets_150 rfl (lv_at hl 4 rfl) ?_
    refine gf_10_21 X hG h900 q_897 dX10_meets_151 (hN _ _ _ h900) (fun a50 h50 r50 => ?_)
    refine lv_iload_n X.1 X.2.1 dX10_meets_154 rfl (lv_at hl 6 rfl) ?_
    refine lv_iload X.1 X.2.1 dX10_meets_155 (lv_at hl 2 rfl) ?_
    refine tg_iasf X hG h50 rfl (cI_in (n := 72) (by omega)) dX10_meets_157 (hF _ _ _ _ h50 (ty_in (n := 6031) rfl) (ty_rno (mZ 31 (by decide) _))) (fun H locs hG => ?_)
    exact ret _ _ _ _ _ hG rfl dX10_meets_158
  · refine lv_lookup (tgt := 159) (off := 103) X.1 X.2.1 dX10_meets_56 (by decide) (by simp [Op.lookupswitch.offset, show ((0 : Int) = x25.toInt) = False from eq_false (by omega), show ((1 : Int) = x25.toInt) = False from eq_false (by omega)]) (by decide) ?_
    refine lv_aload_n X.1 X.2.1 dX10_meets_159 rfl (lv_at hl 4 rfl) ?_
    refine gf_10_22 X hG h900 q_898 dX10_meets_160 (hN _ _ _ h900) (fun a51 h51 r51 => ?_)
    refine lv_iload_n X.1 X.2.1 dX10_meets_163 rfl (lv_at hl 6 rfl) ?_
    refine n_ic X dX10_meets_164 (by decide) (by decide) (fun x52 t52 => ?_)
    refine n_sub X dX10_meets_165 (by omega) (by omega) (fun x53 t53 => ?_)
    refine lv_iload_n X.1 X.2.1 dX10_meets_166 rfl (lv_at hl 3 rfl) ?_
    refine lv_ineg X.1 X.2.1 dX10_meets_167 ?_
    refine n_any (fun x54 => ?_)
    refine tg_iasf X hG h51 rfl (cI_in (n := 72) (by omega)) dX10_meets_168 (hF _ _ _ _ h51 (ty_in (n := 6032) rfl) (ty_rno (mZ 32 (by decide) _))) (fun H locs hG => ?_)
    refine lv_aload_n X.1 X.2.1 dX10_meets_169 rfl (lv_at hl 4 rfl) ?_
    refine gf_10_21 X hG h900 q_897 dX10_meets_170 (hN _ _ _ h900) (fun a55 h55 r55 => ?_)
    refine lv_iload_n X.1 X.2.1 dX10_meets_173 rfl (lv_at hl 6 rfl) ?_
    refine lv_iload X.1 X.2.1 dX10_meets_174 (lv_at hl 2 rfl) ?_
    refine lv_ineg X.1 X.2.1 dX10_meets_176 ?_
    refine n_any (fun x56 => ?_)
    refine tg_iasf X hG h55 rfl (cI_in (n := 72) (by omega)) dX10_meets_177 (hF _ _ _ _ h55 (ty_in (n := 6031) rfl) (ty_rno (mZ 31 (by decide) _))) (fun H locs hG => ?_)
    exact ret _ _ _ _ _ hG rfl dX10_meets_178
set_option maxHeartbeats 4000000 in
set_option maxRecDepth 100000 in
theorem c_X10_source (l : Launch) (D : va_G) (cy : Nat → ClassId) (τ : ty_T) (ρ : ty_R) {M : md_T} (hN : ty_N τ ρ) (hR : ty_Rg M τ ρ) (hF : ty_Wf M τ ρ []) {a900 : Nat} (h900 : τ a900 = some (0, 10)) (x901 : Int32) (zx901 : 0 ≤ x901.toInt ∧ x901.toInt ≤ 3736) {P N : Nat} (hB : HB M P N) {b : Nat} (eb : x901.toInt = (b : Int)) (hb : b = 0 ∨ b = 3736) : KI l D cy yX10_source cX10_source 2 .int (rL 0) τ ρ [.ref a900, .int x901] (fun r u => u = ρ ∧ True) := by
  refine k_metI "EdgeEchoesModel" rfl (by decide +kernel) (Nat.le_of_ble_eq_true rfl) (fun _ _ _ => rfl) ?_
  intro p e s m args below meth c Q ls X hG hl ret
  have hl : lv_has ls 2 [(0, .ref a900), (1, .int x901)] := hl
  obtain ⟨⟨⟨n9, m9, n9p⟩, ⟨n13, m13, n13p⟩, ⟨n3, m3, n3p⟩, m8⟩, ⟨mN, mP, ⟨gG, mG, lG⟩, mL, mF⟩, mO, ⟨mK, mS, mQ, mZ⟩, hN72, hP8, hNP⟩ := id hB
  refine lv_aload_n X.1 X.2.1 dX10_source_0 rfl (lv_at hl 0 rfl) ?_
  refine gf_10_0 X hG h900 q_876 dX10_source_1 (hN _ _ _ h900) (fun a1 h1 r1 => ?_)
  refine lv_iload_n X.1 X.2.1 dX10_source_4 rfl (lv_at hl 1 rfl) ?_
  refine n_sp X dX10_source_5 (by decide) (by decide) (fun x2 t2 => ?_)
  refine n_add X dX10_source_8 (by omega) (by omega) (fun x3 t3 => ?_)
  refine tg_iald X hG h1 rfl (cI_in (n := 4261) (by omega)) dX10_source_9 (fun x4 r4 => ?_)
  refine n_ic X dX10_source_10 (by decide) (by decide) (fun x5 t5 => ?_)
  refine n_icmp_ne (tgt := 29) X dX10_source_11 (by decide) (fun c6 => ?_) (fun c6 => ?_)
  · refine n_ic X dX10_source_29 (by decide) (by decide) (fun x7 t7 => ?_)
    exact ret _ _ _ _ x7 _ hG ⟨rfl, trivial⟩ dX10_source_30
  · refine n_sp X dX10_source_14 (by decide) (by decide) (fun x8 t8 => ?_)
    refine lv_aload_n X.1 X.2.1 dX10_source_17 rfl (lv_at hl 0 rfl) ?_
    refine gf_10_0 X hG h900 q_876 dX10_source_18 (hN _ _ _ h900) (fun a9 h9 r9 => ?_)
    refine n_sp X dX10_source_21 (by decide) (by decide) (fun x10 t10 => ?_)
    refine tg_iald X hG h9 rfl (cI_in (n := 4261) (by omega)) dX10_source_24 (fun x11 r11 => ?_)
    refine lv_imul X.1 X.2.1 dX10_source_25 ?_
    refine n_any (fun x12 => ?_)
    refine lv_goto (tgt := 30) X.1 X.2.1 dX10_source_26 (by decide) ?_
    exact ret _ _ _ _ x12 _ hG ⟨rfl, trivial⟩ dX10_source_30
set_option maxHeartbeats 4000000 in
set_option maxRecDepth 100000 in
theorem c_X10_ends (l : Launch) (D : va_G) (cy : Nat → ClassId) (τ : ty_T) (ρ : ty_R) {M : md_T} (hN : ty_N τ ρ) (hR : ty_Rg M τ ρ) (hF : ty_Wf M τ ρ [6031, 6032]) {a900 : Nat} (h900 : τ a900 = some (0, 10)) (x901 : Int32) (zx901 : 0 ≤ x901.toInt ∧ x901.toInt ≤ 3736) {P N : Nat} (hB : HB M P N) {b : Nat} (eb : x901.toInt = (b : Int)) (hb : b = 0 ∨ b = 3736) (hL : LV M P b) (pre0 : 0 < N) : KV l D cy yX10_ends cX10_ends 9 (rL 1) τ ρ [.ref a900, .int x901] (fun w => w = ρ) := by
  refine k_metV "EdgeEchoesModel" rfl (by decide +kernel) (Nat.le_of_ble_eq_true rfl) ?_
  intro p e s m args below meth c Q ls X hG hl ret
  have hl : lv_has ls 9 [(0, .ref a900), (1, .int x901)] := hl
  obtain ⟨⟨⟨n9, m9, n9p⟩, ⟨n13, m13, n13p⟩, ⟨n3, m3, n3p⟩, m8⟩, ⟨mN, mP, ⟨gG, mG, lG⟩, mL, mF⟩, mO, ⟨mK, mS, mQ, mZ⟩, hN72, hP8, hNP⟩ := id hB
  refine lv_aload_n X.1 X.2.1 dX10_ends_0 rfl (lv_at hl 0 rfl) ?_
  refine gf_10_0 X hG h900 q_876 dX10_ends_1 (hN _ _ _ h900) (fun a1 h1 r1 => ?_)
  refine n_sp X dX10_ends_4 (by decide) (by decide) (fun x2 t2 => ?_)
  refine tg_iald X hG h1 rfl (cI_in (n := 4261) (by omega)) dX10_ends_7 (fun x3 r3 => ?_)
  have b3 := rdR (hR _ _ _ _ h1 r3) (n := 258) (by omega) mN
  refine lv_istore_n (lv' := [(2, .int x3), (0, .ref a900), (1, .int x901)]) X.1 X.2.1 dX10_ends_8 rfl hl (by decide) rfl (fun ls hl => ?_)
  refine lv_aload_n X.1 X.2.1 dX10_ends_9 rfl (lv_at hl 1 rfl) ?_
  refine lv_iload_n X.1 X.2.1 dX10_ends_10 rfl (lv_at hl 2 rfl) ?_
  refine n_ic X dX10_ends_11 (by decide) (by decide) (fun x4 t4 => ?_)
  refine k_cVi X hG (c_X10_ohmsOf l D cy τ _ hN hR (ty_Wf.sub (S' := []) hF (by decide)) h900 x901 (by omega) x4 (by omega) hB (b := b) (by omega) hb hL (by omega)) h900 rfl yv_X10_ohmsOf q_1054 ⟨rfl, rfl⟩ ⟨Nat.le_of_ble_eq_true rfl, Nat.le_of_ble_eq_true rfl⟩ rfl hl.1 rfl (Nat.le_of_ble_eq_true rfl) ⟨Nat.zero_le _, Nat.zero_le _⟩ dX10_ends_12 (fun x6 u7 H locs hG po5 => ?_)
  obtain ⟨eu7, po5⟩ := po5
  rw [eu7] at hG
  refine lv_istore_n (lv' := [(3, .int x6), (2, .int x3), (0, .ref a900), (1, .int x901)]) X.1 X.2.1 dX10_ends_15 rfl hl (by decide) rfl (fun ls hl => ?_)
  refine lv_aload_n X.1 X.2.1 dX10_ends_16 rfl (lv_at hl 2 rfl) ?_
  refine gf_10_0 X hG h900 q_876 dX10_ends_17 (hN _ _ _ h900) (fun a8 h8 r8 => ?_)
  refine lv_iload_n X.1 X.2.1 dX10_ends_20 rfl (lv_at hl 3 rfl) ?_
  refine n_sp X dX10_ends_21 (by decide) (by decide) (fun x9 t9 => ?_)
  refine n_add X dX10_ends_24 (by omega) (by omega) (fun x10 t10 => ?_)
  refine tg_iald X hG h8 rfl (cI_in (n := 4261) (by omega)) dX10_ends_25 (fun x11 r11 => ?_)
  have b11 := rdR (hR _ _ _ _ h8 r11) (n := b + 246) (by omega) hL.2.1
  refine lv_istore (lv' := [(4, .int x11), (3, .int x6), (2, .int x3), (0, .ref a900), (1, .int x901)]) X.1 X.2.1 dX10_ends_26 hl (by decide) rfl (fun ls hl => ?_)
  refine lv_aload_n X.1 X.2.1 dX10_ends_28 rfl (lv_at hl 3 rfl) ?_
  refine gf_10_21 X hG h900 q_897 dX10_ends_29 (hN _ _ _ h900) (fun a12 h12 r12 => ?_)
  refine n_ic X dX10_ends_32 (by decide) (by decide) (fun x13 t13 => ?_)
  refine lv_iload_n X.1 X.2.1 dX10_ends_33 rfl (lv_at hl 1 rfl) ?_
  refine lv_aload_n X.1 X.2.1 dX10_ends_34 rfl (lv_at hl 3 rfl) ?_
  refine lv_iload_n X.1 X.2.1 dX10_ends_35 rfl (lv_at hl 4 rfl) ?_
  refine k_cVi X hG (c_X10_source l D cy τ _ hN hR (ty_Wf.sub (S' := []) hF (by decide)) h900 x901 (by omega) hB (b := b) (by omega) hb) h900 rfl yv_X10_source q_1062 ⟨rfl, rfl⟩ ⟨Nat.le_of_ble_eq_true rfl, Nat.le_of_ble_eq_true rfl⟩ rfl hl.1 rfl (Nat.le_of_ble_eq_true rfl) ⟨Nat.zero_le _, Nat.zero_le _⟩ dX10_ends_36 (fun x15 u16 H locs hG po14 => ?_)
  obtain ⟨eu16, po14⟩ := po14
  rw [eu16] at hG
  have g15 := cI_rng x15
  refine lv_imul X.1 X.2.1 dX10_ends_39 ?_
  refine n_any (fun x17 => ?_)
  refine lv_iload X.1 X.2.1 dX10_ends_40 (lv_at hl 0 rfl) ?_
  refine lv_iload_n X.1 X.2.1 dX10_ends_42 rfl (lv_at hl 1 rfl) ?_
  refine n_sub X dX10_ends_43 (by omega) (by omega) (fun x18 t18 => ?_)
  refine lv_aload_n X.1 X.2.1 dX10_ends_44 rfl (lv_at hl 3 rfl) ?_
  refine gf_10_0 X hG h900 q_876 dX10_ends_45 (hN _ _ _ h900) (fun a19 h19 r19 => ?_)
  refine lv_iload_n X.1 X.2.1 dX10_ends_48 rfl (lv_at hl 4 rfl) ?_
  refine n_bp X dX10_ends_49 (by decide) (by decide) (fun x20 t20 => ?_)
  refine n_add X dX10_ends_51 (by omega) (by omega) (fun x21 t21 => ?_)
  refine tg_iald X hG h19 rfl (cI_in (n := 4261) (by omega)) dX10_ends_52 (fun x22 r22 => ?_)
  refine lv_imul X.1 X.2.1 dX10_ends_53 ?_
  refine n_any (fun x23 => ?_)
  refine lv_iadd X.1 X.2.1 dX10_ends_54 ?_
  refine n_any (fun x24 => ?_)
  refine lv_iload X.1 X.2.1 dX10_ends_55 (lv_at hl 0 rfl) ?_
  refine lv_iload_n X.1 X.2.1 dX10_ends_57 rfl (lv_at hl 1 rfl) ?_
  refine n_add X dX10_ends_58 (by omega) (by omega) (fun x25 t25 => ?_)
  refine lv_idiv X.1 X.2.1 dX10_ends_59 (n_nz (by omega)) ?_
  refine n_any (fun x26 => ?_)
  refine tg_iasf X hG h12 rfl (cI_in (n := 72) (by omega)) dX10_ends_60 (hF _ _ _ _ h12 (ty_in (n := 6031) rfl) (ty_rno (mZ 31 (by decide) _))) (fun H locs hG => ?_)
  refine lv_aload_n X.1 X.2.1 dX10_ends_61 rfl (lv_at hl 3 rfl) ?_
  refine gf_10_0 X hG h900 q_876 dX10_ends_62 (hN _ _ _ h900) (fun a27 h27 r27 => ?_)
  refine lv_iload_n X.1 X.2.1 dX10_ends_65 rfl (lv_at hl 4 rfl) ?_
  refine n_ic X dX10_ends_66 (by decide) (by decide) (fun x28 t28 => ?_)
  refine n_add X dX10_ends_67 (by omega) (by omega) (fun x29 t29 => ?_)
  refine lv_iload_n X.1 X.2.1 dX10_ends_68 rfl (lv_at hl 2 rfl) ?_
  refine n_add X dX10_ends_69 (by omega) (by omega) (fun x30 t30 => ?_)
  refine n_ic X dX10_ends_70 (by decide) (by decide) (fun x31 t31 => ?_)
  refine n_sub X dX10_ends_71 (by omega) (by omega) (fun x32 t32 => ?_)
  refine tg_iald X hG h27 rfl (cI_in (n := 4261) (by omega)) dX10_ends_72 (fun x33 r33 => ?_)
  refine lv_istore (lv' := [(5, .int x33), (4, .int x11), (3, .int x6), (2, .int x3), (0, .ref a900), (1, .int x901)]) X.1 X.2.1 dX10_ends_73 hl (by decide) rfl (fun ls hl => ?_)
  refine lv_aload_n X.1 X.2.1 dX10_ends_75 rfl (lv_at hl 4 rfl) ?_
  refine lv_iload_n X.1 X.2.1 dX10_ends_76 rfl (lv_at hl 5 rfl) ?_
  refine lv_iload_n X.1 X.2.1 dX10_ends_77 rfl (lv_at hl 3 rfl) ?_
  refine n_ic X dX10_ends_78 (by decide) (by decide) (fun x34 t34 => ?_)
  refine n_sub X dX10_ends_79 (by omega) (by omega) (fun x35 t35 => ?_)
  refine k_cVi X hG (c_X10_ohmsOf l D cy τ _ hN hR (ty_Wf.sub (S' := []) hF (by decide)) h900 x901 (by omega) x35 (by omega) hB (b := b) (by omega) hb hL (by omega)) h900 rfl yv_X10_ohmsOf q_1054 ⟨rfl, rfl⟩ ⟨Nat.le_of_ble_eq_true rfl, Nat.le_of_ble_eq_true rfl⟩ rfl hl.1 rfl (Nat.le_of_ble_eq_true rfl) ⟨Nat.zero_le _, Nat.zero_le _⟩ dX10_ends_80 (fun x37 u38 H locs hG po36 => ?_)
  obtain ⟨eu38, po36⟩ := po36
  rw [eu38] at hG
  refine lv_istore (lv' := [(6, .int x37), (5, .int x33), (4, .int x11), (3, .int x6), (2, .int x3), (0, .ref a900), (1, .int x901)]) X.1 X.2.1 dX10_ends_83 hl (by decide) rfl (fun ls hl => ?_)
  refine lv_aload_n X.1 X.2.1 dX10_ends_85 rfl (lv_at hl 5 rfl) ?_
  refine gf_10_0 X hG h900 q_876 dX10_ends_86 (hN _ _ _ h900) (fun a39 h39 r39 => ?_)
  refine lv_iload_n X.1 X.2.1 dX10_ends_89 rfl (lv_at hl 6 rfl) ?_
  refine n_sp X dX10_ends_90 (by decide) (by decide) (fun x40 t40 => ?_)
  refine n_add X dX10_ends_93 (by omega) (by omega) (fun x41 t41 => ?_)
  refine tg_iald X hG h39 rfl (cI_in (n := 4261) (by omega)) dX10_ends_94 (fun x42 r42 => ?_)
  have b42 := rdR (hR _ _ _ _ h39 r42) (n := b + 245) (by omega) hL.2.2
  refine lv_istore (lv' := [(7, .int x42), (6, .int x37), (5, .int x33), (4, .int x11), (3, .int x6), (2, .int x3), (0, .ref a900), (1, .int x901)]) X.1 X.2.1 dX10_ends_95 hl (by decide) rfl (fun ls hl => ?_)
  refine lv_aload_n X.1 X.2.1 dX10_ends_97 rfl (lv_at hl 6 rfl) ?_
  refine gf_10_0 X hG h900 q_876 dX10_ends_98 (hN _ _ _ h900) (fun a43 h43 r43 => ?_)
  refine lv_iload_n X.1 X.2.1 dX10_ends_101 rfl (lv_at hl 7 rfl) ?_
  refine n_sp X dX10_ends_102 (by decide) (by decide) (fun x44 t44 => ?_)
  refine n_add X dX10_ends_105 (by omega) (by omega) (fun x45 t45 => ?_)
  refine tg_iald X hG h43 rfl (cI_in (n := 4261) (by omega)) dX10_ends_106 (fun x46 r46 => ?_)
  refine lv_istore (lv' := [(8, .int x46), (7, .int x42), (6, .int x37), (5, .int x33), (4, .int x11), (3, .int x6), (2, .int x3), (0, .ref a900), (1, .int x901)]) X.1 X.2.1 dX10_ends_107 hl (by decide) rfl (fun ls hl => ?_)
  refine lv_aload_n X.1 X.2.1 dX10_ends_109 rfl (lv_at hl 7 rfl) ?_
  refine gf_10_22 X hG h900 q_898 dX10_ends_110 (hN _ _ _ h900) (fun a47 h47 r47 => ?_)
  refine lv_iload_n X.1 X.2.1 dX10_ends_113 rfl (lv_at hl 6 rfl) ?_
  refine n_ic X dX10_ends_114 (by decide) (by decide) (fun x48 t48 => ?_)
  refine n_sub X dX10_ends_115 (by omega) (by omega) (fun x49 t49 => ?_)
  refine lv_iload X.1 X.2.1 dX10_ends_116 (lv_at hl 0 rfl) ?_
  refine n_if_ne (tgt := 126) X dX10_ends_118 (by decide) (fun c50 => ?_) (fun c50 => ?_)
  · refine lv_iload X.1 X.2.1 dX10_ends_126 (lv_at hl 0 rfl) ?_
    refine n_ic X dX10_ends_128 (by decide) (by decide) (fun x51 t51 => ?_)
    refine n_icmp_ne (tgt := 138) X dX10_ends_129 (by decide) (fun c52 => ?_) (fun c52 => ?_)
    · refine lv_iload X.1 X.2.1 dX10_ends_138 (lv_at hl 3 rfl) ?_
      refine lv_iload X.1 X.2.1 dX10_ends_140 (lv_at hl 1 rfl) ?_
      refine lv_iload X.1 X.2.1 dX10_ends_142 (lv_at hl 2 rfl) ?_
      refine n_sub X dX10_ends_144 (by omega) (by omega) (fun x53 t53 => ?_)
      refine lv_imul X.1 X.2.1 dX10_ends_145 ?_
      refine n_any (fun x54 => ?_)
      refine lv_iload X.1 X.2.1 dX10_ends_146 (lv_at hl 1 rfl) ?_
      refine lv_iload X.1 X.2.1 dX10_ends_148 (lv_at hl 2 rfl) ?_
      refine n_add X dX10_ends_150 (by omega) (by omega) (fun x55 t55 => ?_)
      refine lv_idiv X.1 X.2.1 dX10_ends_151 (n_nz (by omega)) ?_
      refine n_any (fun x56 => ?_)
      refine tg_iasf X hG h47 rfl (cI_in (n := 72) (by omega)) dX10_ends_152 (hF _ _ _ _ h47 (ty_in (n := 6032) rfl) (ty_rno (mZ 32 (by decide) _))) (fun H locs hG => ?_)
      exact ret _ _ _ _ _ hG rfl dX10_ends_153
    · refine lv_iload X.1 X.2.1 dX10_ends_132 (lv_at hl 3 rfl) ?_
      refine lv_ineg X.1 X.2.1 dX10_ends_134 ?_
      refine n_any (fun x57 => ?_)
      refine lv_goto (tgt := 152) X.1 X.2.1 dX10_ends_135 (by decide) ?_
      refine tg_iasf X hG h47 rfl (cI_in (n := 72) (by omega)) dX10_ends_152 (hF _ _ _ _ h47 (ty_in (n := 6032) rfl) (ty_rno (mZ 32 (by decide) _))) (fun H locs hG => ?_)
      exact ret _ _ _ _ _ hG rfl dX10_ends_153
  · refine lv_iload X.1 X.2.1 dX10_ends_121 (lv_at hl 3 rfl) ?_
    refine lv_goto (tgt := 152) X.1 X.2.1 dX10_ends_123 (by decide) ?_
    refine tg_iasf X hG h47 rfl (cI_in (n := 72) (by omega)) dX10_ends_152 (hF _ _ _ _ h47 (ty_in (n := 6032) rfl) (ty_rno (mZ 32 (by decide) _))) (fun H locs hG => ?_)
    exact ret _ _ _ _ _ hG rfl dX10_ends_153
set_option maxHeartbeats 4000000 in
set_option maxRecDepth 100000 in
theorem c_X10_voltsOf (l : Launch) (D : va_G) (cy : Nat → ClassId) (τ : ty_T) (ρ : ty_R) {M : md_T} (hN : ty_N τ ρ) (hR : ty_Rg M τ ρ) (hF : ty_Wf M τ ρ []) {a900 : Nat} (h900 : τ a900 = some (0, 10)) (x901 : Int32) (zx901 : 0 ≤ x901.toInt ∧ x901.toInt ≤ 3736) (x902 : Int32) {P N : Nat} (hB : HB M P N) {b : Nat} (eb : x901.toInt = (b : Int)) (hb : b = 0 ∨ b = 3736) : KI l D cy yX10_voltsOf cX10_voltsOf 3 .int (rL 2) τ ρ [.ref a900, .int x901, .int x902] (fun r u => u = ρ ∧ True) := by
  refine k_metI "EdgeEchoesModel" rfl (by decide +kernel) (Nat.le_of_ble_eq_true rfl) (fun _ _ _ => rfl) ?_
  intro p e s m args below meth c Q ls X hG hl ret
  have hl : lv_has ls 3 [(0, .ref a900), (1, .int x901), (2, .int x902)] := hl
  obtain ⟨⟨⟨n9, m9, n9p⟩, ⟨n13, m13, n13p⟩, ⟨n3, m3, n3p⟩, m8⟩, ⟨mN, mP, ⟨gG, mG, lG⟩, mL, mF⟩, mO, ⟨mK, mS, mQ, mZ⟩, hN72, hP8, hNP⟩ := id hB
  have g902 := cI_rng x902
  refine lv_aload_n X.1 X.2.1 dX10_voltsOf_0 rfl (lv_at hl 0 rfl) ?_
  refine lv_iload_n X.1 X.2.1 dX10_voltsOf_1 rfl (lv_at hl 2 rfl) ?_
  refine k_cVi X hG (c_X10_isCell l D cy τ _ hN hR (ty_Wf.sub (S' := []) hF (by decide)) h900 x902 hB) h900 rfl yv_X10_isCell q_1079 ⟨rfl, rfl⟩ ⟨Nat.le_of_ble_eq_true rfl, Nat.le_of_ble_eq_true rfl⟩ rfl hl.1 rfl (Nat.le_of_ble_eq_true rfl) ⟨Nat.zero_le _, Nat.zero_le _⟩ dX10_voltsOf_2 (fun x2 u3 H locs hG po1 => ?_)
  obtain ⟨eu3, po1⟩ := po1
  rw [eu3] at hG
  refine n_if_eq (tgt := 33) X dX10_voltsOf_5 (by decide) (fun c4 => ?_) (fun c4 => ?_)
  · refine n_ic X dX10_voltsOf_33 (by decide) (by decide) (fun x5 t5 => ?_)
    exact ret _ _ _ _ x5 _ hG ⟨rfl, trivial⟩ dX10_voltsOf_34
  · refine lv_aload_n X.1 X.2.1 dX10_voltsOf_8 rfl (lv_at hl 0 rfl) ?_
    refine gf_10_0 X hG h900 q_876 dX10_voltsOf_9 (hN _ _ _ h900) (fun a6 h6 r6 => ?_)
    refine lv_iload_n X.1 X.2.1 dX10_voltsOf_12 rfl (lv_at hl 1 rfl) ?_
    refine n_ic X dX10_voltsOf_13 (by decide) (by decide) (fun x7 t7 => ?_)
    refine n_add X dX10_voltsOf_14 (by omega) (by omega) (fun x8 t8 => ?_)
    refine lv_iload_n X.1 X.2.1 dX10_voltsOf_15 rfl (lv_at hl 2 rfl) ?_
    refine n_add X dX10_voltsOf_16 (by omega) (by omega) (fun x9 t9 => ?_)
    refine tg_iald X hG h6 rfl (cI_in (n := 4261) (by omega)) dX10_voltsOf_17 (fun x10 r10 => ?_)
    refine lv_aload_n X.1 X.2.1 dX10_voltsOf_18 rfl (lv_at hl 0 rfl) ?_
    refine gf_10_0 X hG h900 q_876 dX10_voltsOf_19 (hN _ _ _ h900) (fun a11 h11 r11 => ?_)
    refine lv_iload_n X.1 X.2.1 dX10_voltsOf_22 rfl (lv_at hl 1 rfl) ?_
    refine n_bp X dX10_voltsOf_23 (by decide) (by decide) (fun x12 t12 => ?_)
    refine n_add X dX10_voltsOf_25 (by omega) (by omega) (fun x13 t13 => ?_)
    refine lv_iload_n X.1 X.2.1 dX10_voltsOf_26 rfl (lv_at hl 2 rfl) ?_
    refine n_add X dX10_voltsOf_27 (by omega) (by omega) (fun x14 t14 => ?_)
    refine tg_iald X hG h11 rfl (cI_in (n := 4261) (by omega)) dX10_voltsOf_28 (fun x15 r15 => ?_)
    refine lv_iadd X.1 X.2.1 dX10_voltsOf_29 ?_
    refine n_any (fun x16 => ?_)
    refine lv_goto (tgt := 34) X.1 X.2.1 dX10_voltsOf_30 (by decide) ?_
    exact ret _ _ _ _ x16 _ hG ⟨rfl, trivial⟩ dX10_voltsOf_34
set_option maxHeartbeats 4000000 in
set_option maxRecDepth 100000 in
theorem c_X10_looks (l : Launch) (D : va_G) (cy : Nat → ClassId) (τ : ty_T) (ρ : ty_R) {M : md_T} (hN : ty_N τ ρ) (hR : ty_Rg M τ ρ) (hF : ty_Wf M τ ρ [6010]) {a900 : Nat} (h900 : τ a900 = some (0, 10)) (x901 : Int32) (zx901 : 0 ≤ x901.toInt ∧ x901.toInt ≤ 3736) (x902 : Int32) (zx902 : 0 ≤ x902.toInt ∧ x902.toInt ≤ 5) {P N : Nat} (hB : HB M P N) {b : Nat} (eb : x901.toInt = (b : Int)) (hb : b = 0 ∨ b = 3736) : KV l D cy yX10_looks cX10_looks 8 (rL 3) τ ρ [.ref a900, .int x901, .int x902] (fun w => w = ρ) := by
  refine k_metV "EdgeEchoesModel" rfl (by decide +kernel) (Nat.le_of_ble_eq_true rfl) ?_
  intro p e s m args below meth c Q ls X hG hl ret
  have hl : lv_has ls 8 [(0, .ref a900), (1, .int x901), (2, .int x902)] := hl
  obtain ⟨⟨⟨n9, m9, n9p⟩, ⟨n13, m13, n13p⟩, ⟨n3, m3, n3p⟩, m8⟩, ⟨mN, mP, ⟨gG, mG, lG⟩, mL, mF⟩, mO, ⟨mK, mS, mQ, mZ⟩, hN72, hP8, hNP⟩ := id hB
  refine lv_aload_n X.1 X.2.1 dX10_looks_0 rfl (lv_at hl 0 rfl) ?_
  refine lv_iload_n X.1 X.2.1 dX10_looks_1 rfl (lv_at hl 1 rfl) ?_
  refine lv_aload_n X.1 X.2.1 dX10_looks_2 rfl (lv_at hl 0 rfl) ?_
  refine gf_10_0 X hG h900 q_876 dX10_looks_3 (hN _ _ _ h900) (fun a1 h1 r1 => ?_)
  refine n_sp X dX10_looks_6 (by decide) (by decide) (fun x2 t2 => ?_)
  refine n_ic X dX10_looks_9 (by decide) (by decide) (fun x3 t3 => ?_)
  refine lv_iload_n X.1 X.2.1 dX10_looks_10 rfl (lv_at hl 2 rfl) ?_
  refine n_mul X dX10_looks_11 (by rw [t3]; omega) (by rw [t3]; omega) (fun x4 t4 => ?_)
  rw [t3] at t4
  refine n_add X dX10_looks_12 (by omega) (by omega) (fun x5 t5 => ?_)
  refine n_ic X dX10_looks_13 (by decide) (by decide) (fun x6 t6 => ?_)
  refine n_add X dX10_looks_14 (by omega) (by omega) (fun x7 t7 => ?_)
  refine tg_iald X hG h1 rfl (cI_in (n := 4261) (by omega)) dX10_looks_15 (fun x8 r8 => ?_)
  refine k_cVi X hG (c_X10_voltsOf l D cy τ _ hN hR (ty_Wf.sub (S' := []) hF (by decide)) h900 x901 (by omega) x8 hB (b := b) (by omega) hb) h900 rfl yv_X10_voltsOf q_1075 ⟨rfl, rfl⟩ ⟨Nat.le_of_ble_eq_true rfl, Nat.le_of_ble_eq_true rfl⟩ rfl hl.1 rfl (Nat.le_of_ble_eq_true rfl) ⟨Nat.zero_le _, Nat.zero_le _⟩ dX10_looks_16 (fun x10 u11 H locs hG po9 => ?_)
  obtain ⟨eu11, po9⟩ := po9
  rw [eu11] at hG
  have g10 := cI_rng x10
  refine lv_istore_n (lv' := [(3, .int x10), (0, .ref a900), (1, .int x901), (2, .int x902)]) X.1 X.2.1 dX10_looks_19 rfl hl (by decide) rfl (fun ls hl => ?_)
  refine n_sp X dX10_looks_20 (by decide) (by decide) (fun x12 t12 => ?_)
  refine lv_aload_n X.1 X.2.1 dX10_looks_23 rfl (lv_at hl 1 rfl) ?_
  refine gf_10_0 X hG h900 q_876 dX10_looks_24 (hN _ _ _ h900) (fun a13 h13 r13 => ?_)
  refine n_sp X dX10_looks_27 (by decide) (by decide) (fun x14 t14 => ?_)
  refine n_ic X dX10_looks_30 (by decide) (by decide) (fun x15 t15 => ?_)
  refine lv_iload_n X.1 X.2.1 dX10_looks_31 rfl (lv_at hl 3 rfl) ?_
  refine n_mul X dX10_looks_32 (by rw [t15]; omega) (by rw [t15]; omega) (fun x16 t16 => ?_)
  rw [t15] at t16
  refine n_add X dX10_looks_33 (by omega) (by omega) (fun x17 t17 => ?_)
  refine n_ic X dX10_looks_34 (by decide) (by decide) (fun x18 t18 => ?_)
  refine n_add X dX10_looks_35 (by omega) (by omega) (fun x19 t19 => ?_)
  refine tg_iald X hG h13 rfl (cI_in (n := 4261) (by omega)) dX10_looks_36 (fun x20 r20 => ?_)
  refine lv_imul X.1 X.2.1 dX10_looks_37 ?_
  refine n_any (fun x21 => ?_)
  refine lv_istore (lv' := [(4, .int x21), (3, .int x10), (0, .ref a900), (1, .int x901), (2, .int x902)]) X.1 X.2.1 dX10_looks_38 hl (by decide) rfl (fun ls hl => ?_)
  refine lv_aload_n X.1 X.2.1 dX10_looks_40 rfl (lv_at hl 2 rfl) ?_
  refine gf_10_0 X hG h900 q_876 dX10_looks_41 (hN _ _ _ h900) (fun a22 h22 r22 => ?_)
  refine lv_iload_n X.1 X.2.1 dX10_looks_44 rfl (lv_at hl 3 rfl) ?_
  refine n_sp X dX10_looks_45 (by decide) (by decide) (fun x23 t23 => ?_)
  refine n_add X dX10_looks_48 (by omega) (by omega) (fun x24 t24 => ?_)
  refine lv_iload_n X.1 X.2.1 dX10_looks_49 rfl (lv_at hl 4 rfl) ?_
  refine n_add X dX10_looks_50 (by omega) (by omega) (fun x25 t25 => ?_)
  refine tg_iald X hG h22 rfl (cI_in (n := 4261) (by omega)) dX10_looks_51 (fun x26 r26 => ?_)
  refine lv_istore (lv' := [(5, .int x26), (4, .int x21), (3, .int x10), (0, .ref a900), (1, .int x901), (2, .int x902)]) X.1 X.2.1 dX10_looks_52 hl (by decide) rfl (fun ls hl => ?_)
  refine lv_iload_n X.1 X.2.1 dX10_looks_54 rfl (lv_at hl 2 rfl) ?_
  refine lv_iload X.1 X.2.1 dX10_looks_55 (lv_at hl 1 rfl) ?_
  have J65 : ∀ (H : Heap) (locs : List Loc) (ls : Array Slot) (x27 : Int32), (0 ≤ x27.toInt ∧ x27.toInt ≤ 1) → TG D cy τ ρ (ty_d τ) s.heap H locs → lv_has ls 8 [(0, .ref a900), (1, .int x901), (2, .int x902), (3, .int x10), (4, .int x21), (5, .int x26)] → W p l e (rL 3) s m args below meth c H locs 0 0 Q (F0 m 65 ls [.int x27]) := by
    intro H locs ls x27 bx27 hG hl
    refine lv_istore (lv' := [(6, .int x27), (0, .ref a900), (1, .int x901), (2, .int x902), (3, .int x10), (4, .int x21), (5, .int x26)]) X.1 X.2.1 dX10_looks_65 hl (by decide) rfl (fun ls hl => ?_)
    refine lv_iload X.1 X.2.1 dX10_looks_67 (lv_at hl 6 rfl) ?_
    refine lv_istore (lv' := [(7, .int x26), (6, .int x27), (0, .ref a900), (1, .int x901), (2, .int x902), (3, .int x10), (4, .int x21), (5, .int x26)]) X.1 X.2.1 dX10_looks_69 hl (by decide) rfl (fun ls hl => ?_)
    refine lv_aload_n X.1 X.2.1 dX10_looks_71 rfl (lv_at hl 2 rfl) ?_
    refine gf_10_0 X hG h900 q_876 dX10_looks_72 (hN _ _ _ h900) (fun a28 h28 r28 => ?_)
    refine n_sp X dX10_looks_75 (by decide) (by decide) (fun x29 t29 => ?_)
    refine n_ic X dX10_looks_78 (by decide) (by decide) (fun x30 t30 => ?_)
    refine lv_iload_n X.1 X.2.1 dX10_looks_79 rfl (lv_at hl 4 rfl) ?_
    refine n_mul X dX10_looks_80 (by rw [t30]; omega) (by rw [t30]; omega) (fun x31 t31 => ?_)
    rw [t30] at t31
    refine n_add X dX10_looks_81 (by omega) (by omega) (fun x32 t32 => ?_)
    refine tg_iald X hG h28 rfl (cI_in (n := 4261) (by omega)) dX10_looks_82 (fun x33 r33 => ?_)
    have J259 : ∀ (H : Heap) (locs : List Loc) (ls : Array Slot) (x34 : Int32), TG D cy τ ρ (ty_d τ) s.heap H locs → lv_has ls 8 [(0, .ref a900), (1, .int x901), (2, .int x902), (3, .int x10), (4, .int x21), (5, .int x26), (6, .int x27), (7, .int x34)] → W p l e (rL 3) s m args below meth c H locs 0 0 Q (F0 m 259 ls []) := by
      intro H locs ls x34 hG hl
      have gx34 := cI_rng x34
      refine lv_aload_n X.1 X.2.1 dX10_looks_259 rfl (lv_at hl 0 rfl) ?_
      refine gf_10_0 X hG h900 q_876 dX10_looks_260 (hN _ _ _ h900) (fun a35 h35 r35 => ?_)
      refine lv_iload_n X.1 X.2.1 dX10_looks_263 rfl (lv_at hl 1 rfl) ?_
      refine n_sp X dX10_looks_264 (by decide) (by decide) (fun x36 t36 => ?_)
      refine n_add X dX10_looks_267 (by omega) (by omega) (fun x37 t37 => ?_)
      refine lv_iload_n X.1 X.2.1 dX10_looks_268 rfl (lv_at hl 2 rfl) ?_
      refine n_add X dX10_looks_269 (by omega) (by omega) (fun x38 t38 => ?_)
      refine lv_dup2_11 X.1 X.2.1 dX10_looks_270 rfl rfl ?_
      refine tg_iald X hG h35 rfl (cI_in (n := 4261) (by omega)) dX10_looks_271 (fun x39 r39 => ?_)
      refine lv_iload X.1 X.2.1 dX10_looks_272 (lv_at hl 7 rfl) ?_
      refine lv_iload X.1 X.2.1 dX10_looks_274 (lv_at hl 5 rfl) ?_
      have J302 : ∀ (H : Heap) (locs : List Loc) (ls : Array Slot) (x40 : Int32), (0 ≤ x40.toInt ∧ x40.toInt ≤ 1) → TG D cy τ ρ (ty_d τ) s.heap H locs → lv_has ls 8 [(0, .ref a900), (1, .int x901), (2, .int x902), (3, .int x10), (4, .int x21), (5, .int x26), (6, .int x27), (7, .int x34)] → W p l e (rL 3) s m args below meth c H locs 0 0 Q (F0 m 302 ls [.int x40, .int x39, .int x38, .ref a35]) := by
        intro H locs ls x40 bx40 hG hl
        refine lv_iadd X.1 X.2.1 dX10_looks_302 ?_
        refine n_any (fun x41 => ?_)
        refine tg_iasf X hG h35 rfl (cI_in (n := 4261) (by omega)) dX10_looks_303 (hF _ _ _ _ h35 (ty_in (n := 6010) rfl) (ty_rno (wFr hB (by omega)))) (fun H locs hG => ?_)
        refine lv_aload_n X.1 X.2.1 dX10_looks_304 rfl (lv_at hl 0 rfl) ?_
        refine gf_10_0 X hG h900 q_876 dX10_looks_305 (hN _ _ _ h900) (fun a42 h42 r42 => ?_)
        refine lv_iload_n X.1 X.2.1 dX10_looks_308 rfl (lv_at hl 1 rfl) ?_
        refine n_sp X dX10_looks_309 (by decide) (by decide) (fun x43 t43 => ?_)
        refine n_add X dX10_looks_312 (by omega) (by omega) (fun x44 t44 => ?_)
        refine lv_iload_n X.1 X.2.1 dX10_looks_313 rfl (lv_at hl 2 rfl) ?_
        refine n_add X dX10_looks_314 (by omega) (by omega) (fun x45 t45 => ?_)
        refine lv_iload X.1 X.2.1 dX10_looks_315 (lv_at hl 7 rfl) ?_
        refine tg_iasf X hG h42 rfl (cI_in (n := 4261) (by omega)) dX10_looks_317 (hF _ _ _ _ h42 (ty_in (n := 6010) rfl) (ty_rno (wFr hB (by omega)))) (fun H locs hG => ?_)
        exact ret _ _ _ _ _ hG rfl dX10_looks_318
      have J301 : ∀ (H : Heap) (locs : List Loc) (ls : Array Slot), TG D cy τ ρ (ty_d τ) s.heap H locs → lv_has ls 8 [(0, .ref a900), (1, .int x901), (2, .int x902), (3, .int x10), (4, .int x21), (5, .int x26), (6, .int x27), (7, .int x34)] → W p l e (rL 3) s m args below meth c H locs 0 0 Q (F0 m 301 ls [.int x39, .int x38, .ref a35]) := by
        intro H locs ls hG hl
        refine n_ic X dX10_looks_301 (by decide) (by decide) (fun x46 t46 => ?_)
        exact J302 _ _ _ x46 (by omega) hG (lv_sub hl [0, 1, 2, 3, 4, 5, 6, 7] rfl)
      refine n_icmp_eq (tgt := 301) X dX10_looks_276 (by decide) (fun c47 => ?_) (fun c47 => ?_)
      · exact J301 _ _ _  hG (lv_sub hl [0, 1, 2, 3, 4, 5, 6, 7] rfl)
      · refine lv_aload_n X.1 X.2.1 dX10_looks_279 rfl (lv_at hl 0 rfl) ?_
        refine gf_10_0 X hG h900 q_876 dX10_looks_280 (hN _ _ _ h900) (fun a48 h48 r48 => ?_)
        refine lv_iload_n X.1 X.2.1 dX10_looks_283 rfl (lv_at hl 1 rfl) ?_
        refine n_sp X dX10_looks_284 (by decide) (by decide) (fun x49 t49 => ?_)
        refine n_add X dX10_looks_287 (by omega) (by omega) (fun x50 t50 => ?_)
        refine lv_iload_n X.1 X.2.1 dX10_looks_288 rfl (lv_at hl 2 rfl) ?_
        refine n_add X dX10_looks_289 (by omega) (by omega) (fun x51 t51 => ?_)
        refine tg_iald X hG h48 rfl (cI_in (n := 4261) (by omega)) dX10_looks_290 (fun x52 r52 => ?_)
        refine n_sp X dX10_looks_291 (by decide) (by decide) (fun x53 t53 => ?_)
        refine n_icmp_ge (tgt := 301) X dX10_looks_294 (by decide) (fun c54 => ?_) (fun c54 => ?_)
        · exact J301 _ _ _  hG (lv_sub hl [0, 1, 2, 3, 4, 5, 6, 7] rfl)
        · refine n_ic X dX10_looks_297 (by decide) (by decide) (fun x55 t55 => ?_)
          refine lv_goto (tgt := 302) X.1 X.2.1 dX10_looks_298 (by decide) ?_
          exact J302 _ _ _ x55 (by omega) hG (lv_sub hl [0, 1, 2, 3, 4, 5, 6, 7] rfl)
    rcases (show x33.toInt = 0 ∨ x33.toInt = 1 ∨ x33.toInt = 2 ∨ (x33.toInt < 0 ∨ 2 < x33.toInt) by omega) with c56 | c56 | c56 | c56
    · refine lv_tableIn (tgt := 108) (off := 25) X.1 X.2.1 dX10_looks_83 (by omega) (by omega) (by rw [c56]; rfl) (by decide) ?_
      refine lv_iload X.1 X.2.1 dX10_looks_108 (lv_at hl 1 rfl) ?_
      refine lv_istore (lv' := [(7, .int x27), (6, .int x27), (0, .ref a900), (1, .int x901), (2, .int x902), (3, .int x10), (4, .int x21), (5, .int x26)]) X.1 X.2.1 dX10_looks_110 hl (by decide) rfl (fun ls hl => ?_)
      refine lv_goto (tgt := 259) X.1 X.2.1 dX10_looks_112 (by decide) ?_
      exact J259 _ _ _ x27 hG (lv_sub hl [2, 3, 4, 5, 6, 7, 1, 0] rfl)
    · refine lv_tableIn (tgt := 115) (off := 32) X.1 X.2.1 dX10_looks_83 (by omega) (by omega) (by rw [c56]; rfl) (by decide) ?_
      refine lv_iload X.1 X.2.1 dX10_looks_115 (lv_at hl 1 rfl) ?_
      refine n_ic X dX10_looks_117 (by decide) (by decide) (fun x57 t57 => ?_)
      have J139 : ∀ (H : Heap) (locs : List Loc) (ls : Array Slot) (x58 : Int32), TG D cy τ ρ (ty_d τ) s.heap H locs → lv_has ls 8 [(0, .ref a900), (1, .int x901), (2, .int x902), (3, .int x10), (4, .int x21), (5, .int x26), (6, .int x27), (7, .int x26)] → W p l e (rL 3) s m args below meth c H locs 0 0 Q (F0 m 139 ls [.int x58]) := by
        intro H locs ls x58 hG hl
        have gx58 := cI_rng x58
        refine lv_istore (lv' := [(7, .int x58), (0, .ref a900), (1, .int x901), (2, .int x902), (3, .int x10), (4, .int x21), (5, .int x26), (6, .int x27)]) X.1 X.2.1 dX10_looks_139 hl (by decide) rfl (fun ls hl => ?_)
        refine lv_goto (tgt := 259) X.1 X.2.1 dX10_looks_141 (by decide) ?_
        exact J259 _ _ _ x58 hG (lv_sub hl [1, 2, 3, 4, 5, 6, 7, 0] rfl)
      refine n_icmp_ne (tgt := 125) X dX10_looks_118 (by decide) (fun c59 => ?_) (fun c59 => ?_)
      · refine lv_iload_n X.1 X.2.1 dX10_looks_125 rfl (lv_at hl 5 rfl) ?_
        refine lv_iload X.1 X.2.1 dX10_looks_126 (lv_at hl 6 rfl) ?_
        refine n_ic X dX10_looks_128 (by decide) (by decide) (fun x60 t60 => ?_)
        refine lv_idiv X.1 X.2.1 dX10_looks_129 (n_nz (by omega)) ?_
        refine n_any (fun x61 => ?_)
        refine n_icmp_ge (tgt := 137) X dX10_looks_130 (by decide) (fun c62 => ?_) (fun c62 => ?_)
        · refine lv_iload X.1 X.2.1 dX10_looks_137 (lv_at hl 7 rfl) ?_
          exact J139 _ _ _ x26 hG (lv_sub hl [2, 3, 4, 5, 6, 7, 1, 0] rfl)
        · refine n_ic X dX10_looks_133 (by decide) (by decide) (fun x63 t63 => ?_)
          refine lv_goto (tgt := 139) X.1 X.2.1 dX10_looks_134 (by decide) ?_
          exact J139 _ _ _ x63 hG (lv_sub hl [2, 3, 4, 5, 6, 7, 1, 0] rfl)
      · refine n_ic X dX10_looks_121 (by decide) (by decide) (fun x64 t64 => ?_)
        refine lv_goto (tgt := 139) X.1 X.2.1 dX10_looks_122 (by decide) ?_
        exact J139 _ _ _ x64 hG (lv_sub hl [2, 3, 4, 5, 6, 7, 1, 0] rfl)
    · refine lv_tableIn (tgt := 144) (off := 61) X.1 X.2.1 dX10_looks_83 (by omega) (by omega) (by rw [c56]; rfl) (by decide) ?_
      refine lv_aload_n X.1 X.2.1 dX10_looks_144 rfl (lv_at hl 2 rfl) ?_
      refine gf_10_0 X hG h900 q_876 dX10_looks_145 (hN _ _ _ h900) (fun a65 h65 r65 => ?_)
      refine lv_iload_n X.1 X.2.1 dX10_looks_148 rfl (lv_at hl 3 rfl) ?_
      refine n_sp X dX10_looks_149 (by decide) (by decide) (fun x66 t66 => ?_)
      refine n_add X dX10_looks_152 (by omega) (by omega) (fun x67 t67 => ?_)
      refine lv_iload_n X.1 X.2.1 dX10_looks_153 rfl (lv_at hl 4 rfl) ?_
      refine n_add X dX10_looks_154 (by omega) (by omega) (fun x68 t68 => ?_)
      refine lv_iload X.1 X.2.1 dX10_looks_155 (lv_at hl 1 rfl) ?_
      refine lv_iload X.1 X.2.1 dX10_looks_157 (lv_at hl 7 rfl) ?_
      have J180 : ∀ (H : Heap) (locs : List Loc) (ls : Array Slot) (x69 : Int32), TG D cy τ ρ (ty_d τ) s.heap H locs → lv_has ls 8 [(0, .ref a900), (1, .int x901), (2, .int x902), (3, .int x10), (4, .int x21), (5, .int x26), (6, .int x27), (7, .int x26)] → W p l e (rL 3) s m args below meth c H locs 0 0 Q (F0 m 180 ls [.int x69, .int x68, .ref a65]) := by
        intro H locs ls x69 hG hl
        have gx69 := cI_rng x69
        refine tg_iasf X hG h65 rfl (cI_in (n := 4261) (by omega)) dX10_looks_180 (hF _ _ _ _ h65 (ty_in (n := 6010) rfl) (ty_rno (wFr hB (by omega)))) (fun H locs hG => ?_)
        refine lv_aload_n X.1 X.2.1 dX10_looks_181 rfl (lv_at hl 0 rfl) ?_
        refine gf_10_0 X hG h900 q_876 dX10_looks_182 (hN _ _ _ h900) (fun a70 h70 r70 => ?_)
        refine lv_iload_n X.1 X.2.1 dX10_looks_185 rfl (lv_at hl 1 rfl) ?_
        refine n_sp X dX10_looks_186 (by decide) (by decide) (fun x71 t71 => ?_)
        refine n_add X dX10_looks_189 (by omega) (by omega) (fun x72 t72 => ?_)
        refine lv_iload_n X.1 X.2.1 dX10_looks_190 rfl (lv_at hl 2 rfl) ?_
        refine n_add X dX10_looks_191 (by omega) (by omega) (fun x73 t73 => ?_)
        refine tg_iald X hG h70 rfl (cI_in (n := 4261) (by omega)) dX10_looks_192 (fun x74 r74 => ?_)
        refine n_ic X dX10_looks_193 (by decide) (by decide) (fun x75 t75 => ?_)
        have J204 : ∀ (H : Heap) (locs : List Loc) (ls : Array Slot) (x76 : Int32), TG D cy τ ρ (ty_d τ) s.heap H locs → lv_has ls 8 [(0, .ref a900), (1, .int x901), (2, .int x902), (3, .int x10), (4, .int x21), (5, .int x26), (6, .int x27), (7, .int x26)] → W p l e (rL 3) s m args below meth c H locs 0 0 Q (F0 m 204 ls [.int x76]) := by
          intro H locs ls x76 hG hl
          have gx76 := cI_rng x76
          refine lv_istore (lv' := [(7, .int x76), (0, .ref a900), (1, .int x901), (2, .int x902), (3, .int x10), (4, .int x21), (5, .int x26), (6, .int x27)]) X.1 X.2.1 dX10_looks_204 hl (by decide) rfl (fun ls hl => ?_)
          refine lv_aload_n X.1 X.2.1 dX10_looks_206 rfl (lv_at hl 1 rfl) ?_
          refine gf_10_0 X hG h900 q_876 dX10_looks_207 (hN _ _ _ h900) (fun a77 h77 r77 => ?_)
          refine lv_iload_n X.1 X.2.1 dX10_looks_210 rfl (lv_at hl 2 rfl) ?_
          refine n_sp X dX10_looks_211 (by decide) (by decide) (fun x78 t78 => ?_)
          refine n_add X dX10_looks_214 (by omega) (by omega) (fun x79 t79 => ?_)
          refine lv_iload_n X.1 X.2.1 dX10_looks_215 rfl (lv_at hl 3 rfl) ?_
          refine n_add X dX10_looks_216 (by omega) (by omega) (fun x80 t80 => ?_)
          refine lv_aload_n X.1 X.2.1 dX10_looks_217 rfl (lv_at hl 1 rfl) ?_
          refine gf_10_0 X hG h900 q_876 dX10_looks_218 (hN _ _ _ h900) (fun a81 h81 r81 => ?_)
          refine lv_iload_n X.1 X.2.1 dX10_looks_221 rfl (lv_at hl 2 rfl) ?_
          refine n_sp X dX10_looks_222 (by decide) (by decide) (fun x82 t82 => ?_)
          refine n_add X dX10_looks_225 (by omega) (by omega) (fun x83 t83 => ?_)
          refine lv_iload_n X.1 X.2.1 dX10_looks_226 rfl (lv_at hl 3 rfl) ?_
          refine n_add X dX10_looks_227 (by omega) (by omega) (fun x84 t84 => ?_)
          refine tg_iald X hG h81 rfl (cI_in (n := 4261) (by omega)) dX10_looks_228 (fun x85 r85 => ?_)
          refine n_ic X dX10_looks_229 (by decide) (by decide) (fun x86 t86 => ?_)
          have J249 : ∀ (H : Heap) (locs : List Loc) (ls : Array Slot) (x87 : Int32), TG D cy τ ρ (ty_d τ) s.heap H locs → lv_has ls 8 [(0, .ref a900), (1, .int x901), (2, .int x902), (3, .int x10), (4, .int x21), (5, .int x26), (6, .int x27), (7, .int x76)] → W p l e (rL 3) s m args below meth c H locs 0 0 Q (F0 m 249 ls [.int x87, .int x80, .ref a77]) := by
            intro H locs ls x87 hG hl
            have gx87 := cI_rng x87
            refine tg_iasf X hG h77 rfl (cI_in (n := 4261) (by omega)) dX10_looks_249 (hF _ _ _ _ h77 (ty_in (n := 6010) rfl) (ty_rno (wFr hB (by omega)))) (fun H locs hG => ?_)
            refine lv_goto (tgt := 259) X.1 X.2.1 dX10_looks_250 (by decide) ?_
            exact J259 _ _ _ x76 hG (lv_sub hl [0, 1, 2, 3, 4, 5, 6, 7] rfl)
          refine n_icmp_ne (tgt := 237) X dX10_looks_230 (by decide) (fun c88 => ?_) (fun c88 => ?_)
          · refine lv_aload_n X.1 X.2.1 dX10_looks_237 rfl (lv_at hl 1 rfl) ?_
            refine gf_10_0 X hG h900 q_876 dX10_looks_238 (hN _ _ _ h900) (fun a89 h89 r89 => ?_)
            refine lv_iload_n X.1 X.2.1 dX10_looks_241 rfl (lv_at hl 2 rfl) ?_
            refine n_sp X dX10_looks_242 (by decide) (by decide) (fun x90 t90 => ?_)
            refine n_add X dX10_looks_245 (by omega) (by omega) (fun x91 t91 => ?_)
            refine lv_iload_n X.1 X.2.1 dX10_looks_246 rfl (lv_at hl 3 rfl) ?_
            refine n_add X dX10_looks_247 (by omega) (by omega) (fun x92 t92 => ?_)
            refine tg_iald X hG h89 rfl (cI_in (n := 4261) (by omega)) dX10_looks_248 (fun x93 r93 => ?_)
            exact J249 _ _ _ x93 hG (lv_sub hl [1, 2, 3, 4, 5, 6, 7, 0] rfl)
          · refine n_ic X dX10_looks_233 (by decide) (by decide) (fun x94 t94 => ?_)
            refine lv_goto (tgt := 249) X.1 X.2.1 dX10_looks_234 (by decide) ?_
            exact J249 _ _ _ x94 hG (lv_sub hl [1, 2, 3, 4, 5, 6, 7, 0] rfl)
        refine n_icmp_ne (tgt := 202) X dX10_looks_194 (by decide) (fun c95 => ?_) (fun c95 => ?_)
        · refine lv_iload X.1 X.2.1 dX10_looks_202 (lv_at hl 5 rfl) ?_
          exact J204 _ _ _ x26 hG (lv_sub hl [0, 1, 2, 3, 4, 5, 6, 7] rfl)
        · refine lv_iload X.1 X.2.1 dX10_looks_197 (lv_at hl 6 rfl) ?_
          refine lv_goto (tgt := 204) X.1 X.2.1 dX10_looks_199 (by decide) ?_
          exact J204 _ _ _ x27 hG (lv_sub hl [0, 1, 2, 3, 4, 5, 6, 7] rfl)
      refine n_icmp_ne (tgt := 166) X dX10_looks_159 (by decide) (fun c96 => ?_) (fun c96 => ?_)
      · refine lv_aload_n X.1 X.2.1 dX10_looks_166 rfl (lv_at hl 2 rfl) ?_
        refine gf_10_0 X hG h900 q_876 dX10_looks_167 (hN _ _ _ h900) (fun a97 h97 r97 => ?_)
        refine lv_iload_n X.1 X.2.1 dX10_looks_170 rfl (lv_at hl 3 rfl) ?_
        refine n_sp X dX10_looks_171 (by decide) (by decide) (fun x98 t98 => ?_)
        refine n_add X dX10_looks_174 (by omega) (by omega) (fun x99 t99 => ?_)
        refine lv_iload_n X.1 X.2.1 dX10_looks_175 rfl (lv_at hl 4 rfl) ?_
        refine n_add X dX10_looks_176 (by omega) (by omega) (fun x100 t100 => ?_)
        refine tg_iald X hG h97 rfl (cI_in (n := 4261) (by omega)) dX10_looks_177 (fun x101 r101 => ?_)
        refine n_ic X dX10_looks_178 (by decide) (by decide) (fun x102 t102 => ?_)
        refine lv_iadd X.1 X.2.1 dX10_looks_179 ?_
        refine n_any (fun x103 => ?_)
        exact J180 _ _ _ x103 hG (lv_sub hl [2, 3, 4, 5, 6, 7, 1, 0] rfl)
      · refine n_ic X dX10_looks_162 (by decide) (by decide) (fun x104 t104 => ?_)
        refine lv_goto (tgt := 180) X.1 X.2.1 dX10_looks_163 (by decide) ?_
        exact J180 _ _ _ x104 hG (lv_sub hl [2, 3, 4, 5, 6, 7, 1, 0] rfl)
    · refine lv_tableOut (tgt := 253) X.1 X.2.1 dX10_looks_83 c56 (by decide) ?_
      refine n_ic X dX10_looks_253 (by decide) (by decide) (fun x105 t105 => ?_)
      refine lv_iload X.1 X.2.1 dX10_looks_254 (lv_at hl 1 rfl) ?_
      refine n_sub X dX10_looks_256 (by omega) (by omega) (fun x106 t106 => ?_)
      refine lv_istore (lv' := [(7, .int x106), (6, .int x27), (0, .ref a900), (1, .int x901), (2, .int x902), (3, .int x10), (4, .int x21), (5, .int x26)]) X.1 X.2.1 dX10_looks_257 hl (by decide) rfl (fun ls hl => ?_)
      exact J259 _ _ _ x106 hG (lv_sub hl [2, 3, 4, 5, 6, 7, 1, 0] rfl)
  refine n_icmp_lt (tgt := 64) X dX10_looks_57 (by decide) (fun c107 => ?_) (fun c107 => ?_)
  · refine n_ic X dX10_looks_64 (by decide) (by decide) (fun x108 t108 => ?_)
    exact J65 _ _ _ x108 (by omega) hG (lv_sub hl [3, 4, 5, 2, 1, 0] rfl)
  · refine n_ic X dX10_looks_60 (by decide) (by decide) (fun x109 t109 => ?_)
    refine lv_goto (tgt := 65) X.1 X.2.1 dX10_looks_61 (by decide) ?_
    exact J65 _ _ _ x109 (by omega) hG (lv_sub hl [3, 4, 5, 2, 1, 0] rfl)
set_option maxHeartbeats 4000000 in
set_option maxRecDepth 100000 in
theorem c_X10_ticks (l : Launch) (D : va_G) (cy : Nat → ClassId) (τ : ty_T) (ρ : ty_R) {M : md_T} (hN : ty_N τ ρ) (hR : ty_Rg M τ ρ) (hF : ty_Wf M τ ρ [6010, 6031, 6032]) {a900 : Nat} (h900 : τ a900 = some (0, 10)) (x901 : Int32) (zx901 : 0 ≤ x901.toInt ∧ x901.toInt ≤ 3736) (x902 : Int32) {P N : Nat} (hB : HB M P N) {b : Nat} (eb : x901.toInt = (b : Int)) (hb : b = 3736) (hL : LV M P b) : KV l D cy yX10_ticks cX10_ticks 5 (rL 4) τ ρ [.ref a900, .int x901, .int x902] (fun w => w = ρ) := by
  refine k_metV "EdgeEchoesModel" rfl (by decide +kernel) (Nat.le_of_ble_eq_true rfl) ?_
  intro p e s m args below meth c Q ls X hG hl ret
  have hl : lv_has ls 5 [(0, .ref a900), (1, .int x901), (2, .int x902)] := hl
  obtain ⟨⟨⟨n9, m9, n9p⟩, ⟨n13, m13, n13p⟩, ⟨n3, m3, n3p⟩, m8⟩, ⟨mN, mP, ⟨gG, mG, lG⟩, mL, mF⟩, mO, ⟨mK, mS, mQ, mZ⟩, hN72, hP8, hNP⟩ := id hB
  have g902 := cI_rng x902
  refine n_ic X dX10_ticks_0 (by decide) (by decide) (fun x1 t1 => ?_)
  refine lv_istore_n (lv' := [(3, .int x1), (0, .ref a900), (1, .int x901), (2, .int x902)]) X.1 X.2.1 dX10_ticks_1 rfl hl (by decide) rfl (fun ls hl => ?_)
  have J2 : ∀ (n : Nat) (H : Heap) (locs : List Loc) (ls : Array Slot) (x2 : Int32), (0 ≤ x2.toInt) → (2147483647 - x2.toInt).toNat < n → TG D cy τ ρ (ty_d τ) s.heap H locs → lv_has ls 5 [(0, .ref a900), (1, .int x901), (2, .int x902), (3, .int x2)] → W p l e (rL 4) s m args below meth c H locs 0 0 Q (F0 m 2 ls []) := by
    intro n
    induction n with
    | zero => intro H locs ls x2 bx2 hm2 hG hl; exact absurd hm2 (Nat.not_lt_zero _)
    | succ n ih2 =>
      intro H locs ls x2 bx2 hm2 hG hl
      have gx2 := cI_rng x2
      refine lv_iload_n X.1 X.2.1 dX10_ticks_2 rfl (lv_at hl 3 rfl) ?_
      refine lv_iload_n X.1 X.2.1 dX10_ticks_3 rfl (lv_at hl 2 rfl) ?_
      refine n_icmp_ge (tgt := 166) X dX10_ticks_4 (by decide) (fun c3 => ?_) (fun c3 => ?_)
      · exact ret _ _ _ _ _ hG rfl dX10_ticks_166
      · refine lv_aload_n X.1 X.2.1 dX10_ticks_7 rfl (lv_at hl 0 rfl) ?_
        refine gf_10_0 X hG h900 q_876 dX10_ticks_8 (hN _ _ _ h900) (fun a4 h4 r4 => ?_)
        refine n_sp X dX10_ticks_11 (by decide) (by decide) (fun x5 t5 => ?_)
        refine tg_iald X hG h4 rfl (cI_in (n := 4261) (by omega)) dX10_ticks_14 (fun x6 r6 => ?_)
        have b6 := rdR (hR _ _ _ _ h4 r6) (n := 258) (by omega) mN
        have J117 : ∀ (H : Heap) (locs : List Loc) (ls : Array Slot), TG D cy τ ρ (ty_d τ) s.heap H locs → lv_has ls 5 [(0, .ref a900), (1, .int x901), (2, .int x902), (3, .int x2)] → W p l e (rL 4) s m args below meth c H locs 0 0 Q (F0 m 117 ls []) := by
          intro H locs ls hG hl
          refine n_ic X dX10_ticks_117 (by decide) (by decide) (fun x7 t7 => ?_)
          refine lv_istore (lv' := [(4, .int x7), (0, .ref a900), (1, .int x901), (2, .int x902), (3, .int x2)]) X.1 X.2.1 dX10_ticks_118 hl (by decide) rfl (fun ls hl => ?_)
          have J120 : ∀ (n : Nat) (H : Heap) (locs : List Loc) (ls : Array Slot) (x8 : Int32), (0 ≤ x8.toInt ∧ x8.toInt ≤ 6) → (6 - x8.toInt).toNat < n → TG D cy τ ρ (ty_d τ) s.heap H locs → lv_has ls 5 [(0, .ref a900), (1, .int x901), (2, .int x902), (3, .int x2), (4, .int x8)] → W p l e (rL 4) s m args below meth c H locs 0 0 Q (F0 m 120 ls []) := by
            intro n
            induction n with
            | zero => intro H locs ls x8 bx8 hm120 hG hl; exact absurd hm120 (Nat.not_lt_zero _)
            | succ n ih120 =>
              intro H locs ls x8 bx8 hm120 hG hl
              refine lv_iload X.1 X.2.1 dX10_ticks_120 (lv_at hl 4 rfl) ?_
              refine lv_aload_n X.1 X.2.1 dX10_ticks_122 rfl (lv_at hl 0 rfl) ?_
              refine gf_10_0 X hG h900 q_876 dX10_ticks_123 (hN _ _ _ h900) (fun a9 h9 r9 => ?_)
              refine n_sp X dX10_ticks_126 (by decide) (by decide) (fun x10 t10 => ?_)
              refine tg_iald X hG h9 rfl (cI_in (n := 4261) (by omega)) dX10_ticks_129 (fun x11 r11 => ?_)
              have b11 := rdR (hR _ _ _ _ h9 r11) (n := 259) (by omega) mG
              refine n_icmp_ge (tgt := 146) X dX10_ticks_130 (by decide) (fun c12 => ?_) (fun c12 => ?_)
              · refine lv_aload_n X.1 X.2.1 dX10_ticks_146 rfl (lv_at hl 0 rfl) ?_
                refine gf_10_0 X hG h900 q_876 dX10_ticks_147 (hN _ _ _ h900) (fun a13 h13 r13 => ?_)
                refine lv_iload_n X.1 X.2.1 dX10_ticks_150 rfl (lv_at hl 1 rfl) ?_
                refine n_sp X dX10_ticks_151 (by decide) (by decide) (fun x14 t14 => ?_)
                refine n_add X dX10_ticks_154 (by omega) (by omega) (fun x15 t15 => ?_)
                refine lv_dup2_11 X.1 X.2.1 dX10_ticks_155 rfl rfl ?_
                refine tg_iald X hG h13 rfl (cI_in (n := 4261) (by omega)) dX10_ticks_156 (fun x16 r16 => ?_)
                refine n_ic X dX10_ticks_157 (by decide) (by decide) (fun x17 t17 => ?_)
                refine lv_iadd X.1 X.2.1 dX10_ticks_158 ?_
                refine n_any (fun x18 => ?_)
                refine tg_iasf X hG h13 rfl (cI_in (n := 4261) (by omega)) dX10_ticks_159 (hF _ _ _ _ h13 (ty_in (n := 6010) rfl) (ty_rno (wFr hB (by omega)))) (fun H locs hG => ?_)
                refine n_inc X (fun z20 => [(3, .int z20), (0, .ref a900), (1, .int x901), (2, .int x902), (4, .int x8)]) dX10_ticks_160 hl (k := 3) rfl (by decide) (by decide) (by omega) (by omega) (by decide) (fun _ => rfl) (fun x19 ls t19 hl => ?_)
                have hl : lv_has ls 5 [(3, .int x19), (0, .ref a900), (1, .int x901), (2, .int x902), (4, .int x8)] := hl
                refine lv_goto (tgt := 2) X.1 X.2.1 dX10_ticks_163 (by decide) ?_
                exact ih2 _ _ _ x19 (by omega) (by omega) hG (lv_sub hl [1, 2, 3, 0] rfl)
              · refine lv_aload_n X.1 X.2.1 dX10_ticks_133 rfl (lv_at hl 0 rfl) ?_
                refine lv_iload_n X.1 X.2.1 dX10_ticks_134 rfl (lv_at hl 1 rfl) ?_
                refine lv_iload X.1 X.2.1 dX10_ticks_135 (lv_at hl 4 rfl) ?_
                refine k_cVv X hG (c_X10_looks l D cy τ _ hN hR (ty_Wf.sub (S' := [6010]) hF (by decide)) h900 x901 (by omega) x8 (by omega) hB (b := b) (by omega) (Or.inr hb)) h900 rfl yv_X10_looks q_1071 ⟨rfl, rfl⟩ ⟨Nat.le_of_ble_eq_true rfl, Nat.le_of_ble_eq_true rfl⟩ rfl hl.1 rfl (Nat.le_of_ble_eq_true rfl) ⟨Nat.zero_le _, Nat.zero_le _⟩ dX10_ticks_137 (fun u23 H locs hG po21 => ?_)
                rw [po21] at hG
                refine n_inc X (fun z25 => [(4, .int z25), (0, .ref a900), (1, .int x901), (2, .int x902), (3, .int x2)]) dX10_ticks_140 hl (k := 4) rfl (by decide) (by decide) (by omega) (by omega) (by decide) (fun _ => rfl) (fun x24 ls t24 hl => ?_)
                have hl : lv_has ls 5 [(4, .int x24), (0, .ref a900), (1, .int x901), (2, .int x902), (3, .int x2)] := hl
                refine lv_goto (tgt := 120) X.1 X.2.1 dX10_ticks_143 (by decide) ?_
                exact ih120 _ _ _ x24 (by omega) (by omega) hG (lv_sub hl [1, 2, 3, 4, 0] rfl)
          exact J120 _ _ _ _ x7 (by omega) (Nat.lt_succ_self _) hG (lv_sub hl [1, 2, 3, 4, 0] rfl)
        refine n_if_le (tgt := 117) X dX10_ticks_15 (by decide) (fun c26 => ?_) (fun c26 => ?_)
        · exact J117 _ _ _  hG (lv_sub hl [0, 1, 2, 3] rfl)
        · refine n_ic X dX10_ticks_18 (by decide) (by decide) (fun x27 t27 => ?_)
          refine lv_istore (lv' := [(4, .int x27), (0, .ref a900), (1, .int x901), (2, .int x902), (3, .int x2)]) X.1 X.2.1 dX10_ticks_19 hl (by decide) rfl (fun ls hl => ?_)
          have J21 : ∀ (n : Nat) (H : Heap) (locs : List Loc) (ls : Array Slot) (x28 : Int32), (1 ≤ x28.toInt ∧ x28.toInt ≤ 72) → (72 - x28.toInt).toNat < n → TG D cy τ ρ (ty_d τ) s.heap H locs → lv_has ls 5 [(0, .ref a900), (1, .int x901), (2, .int x902), (3, .int x2), (4, .int x28)] → W p l e (rL 4) s m args below meth c H locs 0 0 Q (F0 m 21 ls []) := by
            intro n
            induction n with
            | zero => intro H locs ls x28 bx28 hm21 hG hl; exact absurd hm21 (Nat.not_lt_zero _)
            | succ n ih21 =>
              intro H locs ls x28 bx28 hm21 hG hl
              refine lv_iload X.1 X.2.1 dX10_ticks_21 (lv_at hl 4 rfl) ?_
              refine lv_aload_n X.1 X.2.1 dX10_ticks_23 rfl (lv_at hl 0 rfl) ?_
              refine gf_10_0 X hG h900 q_876 dX10_ticks_24 (hN _ _ _ h900) (fun a29 h29 r29 => ?_)
              refine n_sp X dX10_ticks_27 (by decide) (by decide) (fun x30 t30 => ?_)
              refine tg_iald X hG h29 rfl (cI_in (n := 4261) (by omega)) dX10_ticks_30 (fun x31 r31 => ?_)
              have b31 := rdR (hR _ _ _ _ h29 r31) (n := 258) (by omega) mN
              refine n_icmp_ge (tgt := 47) X dX10_ticks_31 (by decide) (fun c32 => ?_) (fun c32 => ?_)
              · refine lv_aload_n X.1 X.2.1 dX10_ticks_47 rfl (lv_at hl 0 rfl) ?_
                refine lv_iload_n X.1 X.2.1 dX10_ticks_48 rfl (lv_at hl 1 rfl) ?_
                refine k_cVv X hG (c_X10_ends l D cy τ _ hN hR (ty_Wf.sub (S' := [6031, 6032]) hF (by decide)) h900 x901 (by omega) hB (b := b) (by omega) (Or.inr hb) hL (by omega)) h900 rfl yv_X10_ends q_1058 ⟨rfl, rfl⟩ ⟨Nat.le_of_ble_eq_true rfl, Nat.le_of_ble_eq_true rfl⟩ rfl hl.1 rfl (Nat.le_of_ble_eq_true rfl) ⟨Nat.zero_le _, Nat.zero_le _⟩ dX10_ticks_49 (fun u35 H locs hG po33 => ?_)
                rw [po33] at hG
                refine n_ic X dX10_ticks_52 (by decide) (by decide) (fun x36 t36 => ?_)
                refine lv_istore (lv' := [(4, .int x36), (0, .ref a900), (1, .int x901), (2, .int x902), (3, .int x2)]) X.1 X.2.1 dX10_ticks_53 hl (by decide) rfl (fun ls hl => ?_)
                have J55 : ∀ (n : Nat) (H : Heap) (locs : List Loc) (ls : Array Slot) (x37 : Int32), (0 ≤ x37.toInt ∧ x37.toInt ≤ 72) → (72 - x37.toInt).toNat < n → TG D cy τ ρ (ty_d τ) s.heap H locs → lv_has ls 5 [(0, .ref a900), (1, .int x901), (2, .int x902), (3, .int x2), (4, .int x37)] → W p l e (rL 4) s m args below meth c H locs 0 0 Q (F0 m 55 ls []) := by
                  intro n
                  induction n with
                  | zero => intro H locs ls x37 bx37 hm55 hG hl; exact absurd hm55 (Nat.not_lt_zero _)
                  | succ n ih55 =>
                    intro H locs ls x37 bx37 hm55 hG hl
                    refine lv_iload X.1 X.2.1 dX10_ticks_55 (lv_at hl 4 rfl) ?_
                    refine lv_aload_n X.1 X.2.1 dX10_ticks_57 rfl (lv_at hl 0 rfl) ?_
                    refine gf_10_0 X hG h900 q_876 dX10_ticks_58 (hN _ _ _ h900) (fun a38 h38 r38 => ?_)
                    refine n_sp X dX10_ticks_61 (by decide) (by decide) (fun x39 t39 => ?_)
                    refine tg_iald X hG h38 rfl (cI_in (n := 4261) (by omega)) dX10_ticks_64 (fun x40 r40 => ?_)
                    have b40 := rdR (hR _ _ _ _ h38 r40) (n := 258) (by omega) mN
                    refine n_icmp_ge (tgt := 117) X dX10_ticks_65 (by decide) (fun c41 => ?_) (fun c41 => ?_)
                    · exact J117 _ _ _  hG (lv_sub hl [0, 1, 2, 3] rfl)
                    · refine lv_aload_n X.1 X.2.1 dX10_ticks_68 rfl (lv_at hl 0 rfl) ?_
                      refine gf_10_0 X hG h900 q_876 dX10_ticks_69 (hN _ _ _ h900) (fun a42 h42 r42 => ?_)
                      refine lv_iload_n X.1 X.2.1 dX10_ticks_72 rfl (lv_at hl 1 rfl) ?_
                      refine n_ic X dX10_ticks_73 (by decide) (by decide) (fun x43 t43 => ?_)
                      refine n_add X dX10_ticks_74 (by omega) (by omega) (fun x44 t44 => ?_)
                      refine lv_iload X.1 X.2.1 dX10_ticks_75 (lv_at hl 4 rfl) ?_
                      refine n_add X dX10_ticks_77 (by omega) (by omega) (fun x45 t45 => ?_)
                      refine lv_aload_n X.1 X.2.1 dX10_ticks_78 rfl (lv_at hl 0 rfl) ?_
                      refine gf_10_21 X hG h900 q_897 dX10_ticks_79 (hN _ _ _ h900) (fun a46 h46 r46 => ?_)
                      refine lv_iload X.1 X.2.1 dX10_ticks_82 (lv_at hl 4 rfl) ?_
                      refine tg_iald X hG h46 rfl (cI_in (n := 72) (by omega)) dX10_ticks_84 (fun x47 r47 => ?_)
                      refine k_cSi X hG (c_X10_bound l D cy τ _ hN hR (ty_Wf.sub (S' := []) hF (by decide)) x47 ) ys_X10_bound q_1066 ⟨rfl, rfl⟩ ⟨Nat.le_of_ble_eq_true rfl, Nat.le_of_ble_eq_true rfl⟩ rfl hl.1 rfl (Nat.le_of_ble_eq_true rfl) ⟨Nat.zero_le _, Nat.zero_le _⟩ dX10_ticks_85 (fun x49 u50 H locs hG po48 => ?_)
                      obtain ⟨eu50, po48⟩ := po48
                      rw [eu50] at hG
                      have g49 := cI_rng x49
                      refine tg_iasf X hG h42 rfl (cI_in (n := 4261) (by omega)) dX10_ticks_88 (hF _ _ _ _ h42 (ty_in (n := 6010) rfl) (ty_rno (wFr hB (by omega)))) (fun H locs hG => ?_)
                      refine lv_aload_n X.1 X.2.1 dX10_ticks_89 rfl (lv_at hl 0 rfl) ?_
                      refine gf_10_0 X hG h900 q_876 dX10_ticks_90 (hN _ _ _ h900) (fun a51 h51 r51 => ?_)
                      refine lv_iload_n X.1 X.2.1 dX10_ticks_93 rfl (lv_at hl 1 rfl) ?_
                      refine n_bp X dX10_ticks_94 (by decide) (by decide) (fun x52 t52 => ?_)
                      refine n_add X dX10_ticks_96 (by omega) (by omega) (fun x53 t53 => ?_)
                      refine lv_iload X.1 X.2.1 dX10_ticks_97 (lv_at hl 4 rfl) ?_
                      refine n_add X dX10_ticks_99 (by omega) (by omega) (fun x54 t54 => ?_)
                      refine lv_aload_n X.1 X.2.1 dX10_ticks_100 rfl (lv_at hl 0 rfl) ?_
                      refine gf_10_22 X hG h900 q_898 dX10_ticks_101 (hN _ _ _ h900) (fun a55 h55 r55 => ?_)
                      refine lv_iload X.1 X.2.1 dX10_ticks_104 (lv_at hl 4 rfl) ?_
                      refine tg_iald X hG h55 rfl (cI_in (n := 72) (by omega)) dX10_ticks_106 (fun x56 r56 => ?_)
                      refine k_cSi X hG (c_X10_bound l D cy τ _ hN hR (ty_Wf.sub (S' := []) hF (by decide)) x56 ) ys_X10_bound q_1066 ⟨rfl, rfl⟩ ⟨Nat.le_of_ble_eq_true rfl, Nat.le_of_ble_eq_true rfl⟩ rfl hl.1 rfl (Nat.le_of_ble_eq_true rfl) ⟨Nat.zero_le _, Nat.zero_le _⟩ dX10_ticks_107 (fun x58 u59 H locs hG po57 => ?_)
                      obtain ⟨eu59, po57⟩ := po57
                      rw [eu59] at hG
                      have g58 := cI_rng x58
                      refine tg_iasf X hG h51 rfl (cI_in (n := 4261) (by omega)) dX10_ticks_110 (hF _ _ _ _ h51 (ty_in (n := 6010) rfl) (ty_rno (wFr hB (by omega)))) (fun H locs hG => ?_)
                      refine n_inc X (fun z61 => [(4, .int z61), (0, .ref a900), (1, .int x901), (2, .int x902), (3, .int x2)]) dX10_ticks_111 hl (k := 4) rfl (by decide) (by decide) (by omega) (by omega) (by decide) (fun _ => rfl) (fun x60 ls t60 hl => ?_)
                      have hl : lv_has ls 5 [(4, .int x60), (0, .ref a900), (1, .int x901), (2, .int x902), (3, .int x2)] := hl
                      refine lv_goto (tgt := 55) X.1 X.2.1 dX10_ticks_114 (by decide) ?_
                      exact ih55 _ _ _ x60 (by omega) (by omega) hG (lv_sub hl [1, 2, 3, 4, 0] rfl)
                exact J55 _ _ _ _ x36 (by omega) (Nat.lt_succ_self _) hG (lv_sub hl [1, 2, 3, 4, 0] rfl)
              · refine lv_aload_n X.1 X.2.1 dX10_ticks_34 rfl (lv_at hl 0 rfl) ?_
                refine lv_iload_n X.1 X.2.1 dX10_ticks_35 rfl (lv_at hl 1 rfl) ?_
                refine lv_iload X.1 X.2.1 dX10_ticks_36 (lv_at hl 4 rfl) ?_
                refine k_cVv X hG (c_X10_meets l D cy τ _ hN hR (ty_Wf.sub (S' := [6031, 6032]) hF (by decide)) h900 x901 (by omega) x28 (by omega) hB (b := b) (by omega) (Or.inr hb) hL (by omega)) h900 rfl yv_X10_meets q_1050 ⟨rfl, rfl⟩ ⟨Nat.le_of_ble_eq_true rfl, Nat.le_of_ble_eq_true rfl⟩ rfl hl.1 rfl (Nat.le_of_ble_eq_true rfl) ⟨Nat.zero_le _, Nat.zero_le _⟩ dX10_ticks_38 (fun u64 H locs hG po62 => ?_)
                rw [po62] at hG
                refine n_inc X (fun z66 => [(4, .int z66), (0, .ref a900), (1, .int x901), (2, .int x902), (3, .int x2)]) dX10_ticks_41 hl (k := 4) rfl (by decide) (by decide) (by omega) (by omega) (by decide) (fun _ => rfl) (fun x65 ls t65 hl => ?_)
                have hl : lv_has ls 5 [(4, .int x65), (0, .ref a900), (1, .int x901), (2, .int x902), (3, .int x2)] := hl
                refine lv_goto (tgt := 21) X.1 X.2.1 dX10_ticks_44 (by decide) ?_
                exact ih21 _ _ _ x65 (by omega) (by omega) hG (lv_sub hl [1, 2, 3, 4, 0] rfl)
          exact J21 _ _ _ _ x27 (by omega) (Nat.lt_succ_self _) hG (lv_sub hl [1, 2, 3, 4, 0] rfl)
  exact J2 _ _ _ _ x1 (by omega) (Nat.lt_succ_self _) hG (lv_sub hl [1, 2, 3, 0] rfl)
set_option maxHeartbeats 4000000 in
set_option maxRecDepth 100000 in
theorem c_X10_allEdges (l : Launch) (D : va_G) (cy : Nat → ClassId) (τ : ty_T) (ρ : ty_R) {M : md_T} (hN : ty_N τ ρ) (hR : ty_Rg M τ ρ) (hF : ty_Wf M τ ρ []) {a900 : Nat} (h900 : τ a900 = some (0, 10)) (x901 : Int32) (zx901 : 0 ≤ x901.toInt ∧ x901.toInt ≤ 3736) {P N : Nat} (hB : HB M P N) {b : Nat} (eb : x901.toInt = (b : Int)) (hb : b = 0 ∨ b = 3736) : KI l D cy yX10_allEdges cX10_allEdges 4 .int (rL 0) τ ρ [.ref a900, .int x901] (fun r u => u = ρ ∧ True) := by
  refine k_metI "EdgeEchoesModel" rfl (by decide +kernel) (Nat.le_of_ble_eq_true rfl) (fun _ _ _ => rfl) ?_
  intro p e s m args below meth c Q ls X hG hl ret
  have hl : lv_has ls 4 [(0, .ref a900), (1, .int x901)] := hl
  obtain ⟨⟨⟨n9, m9, n9p⟩, ⟨n13, m13, n13p⟩, ⟨n3, m3, n3p⟩, m8⟩, ⟨mN, mP, ⟨gG, mG, lG⟩, mL, mF⟩, mO, ⟨mK, mS, mQ, mZ⟩, hN72, hP8, hNP⟩ := id hB
  refine n_ic X dX10_allEdges_0 (by decide) (by decide) (fun x1 t1 => ?_)
  refine lv_istore_n (lv' := [(2, .int x1), (0, .ref a900), (1, .int x901)]) X.1 X.2.1 dX10_allEdges_1 rfl hl (by decide) rfl (fun ls hl => ?_)
  refine n_ic X dX10_allEdges_2 (by decide) (by decide) (fun x2 t2 => ?_)
  refine lv_istore_n (lv' := [(3, .int x2), (2, .int x1), (0, .ref a900), (1, .int x901)]) X.1 X.2.1 dX10_allEdges_3 rfl hl (by decide) rfl (fun ls hl => ?_)
  have J4 : ∀ (n : Nat) (H : Heap) (locs : List Loc) (ls : Array Slot) (x3 : Int32) (x4 : Int32), (0 ≤ x4.toInt ∧ x4.toInt ≤ 6) → (6 - x4.toInt).toNat < n → TG D cy τ ρ (ty_d τ) s.heap H locs → lv_has ls 4 [(0, .ref a900), (1, .int x901), (2, .int x3), (3, .int x4)] → W p l e (rL 0) s m args below meth c H locs 0 0 Q (F0 m 4 ls []) := by
    intro n
    induction n with
    | zero => intro H locs ls x3 x4 bx4 hm4 hG hl; exact absurd hm4 (Nat.not_lt_zero _)
    | succ n ih4 =>
      intro H locs ls x3 x4 bx4 hm4 hG hl
      have gx3 := cI_rng x3
      refine lv_iload_n X.1 X.2.1 dX10_allEdges_4 rfl (lv_at hl 3 rfl) ?_
      refine n_bp X dX10_allEdges_5 (by decide) (by decide) (fun x5 t5 => ?_)
      refine n_icmp_ge (tgt := 31) X dX10_allEdges_7 (by decide) (fun c6 => ?_) (fun c6 => ?_)
      · refine lv_iload_n X.1 X.2.1 dX10_allEdges_31 rfl (lv_at hl 2 rfl) ?_
        exact ret _ _ _ _ x3 _ hG ⟨rfl, trivial⟩ dX10_allEdges_32
      · refine lv_iload_n X.1 X.2.1 dX10_allEdges_10 rfl (lv_at hl 2 rfl) ?_
        refine lv_aload_n X.1 X.2.1 dX10_allEdges_11 rfl (lv_at hl 0 rfl) ?_
        refine gf_10_0 X hG h900 q_876 dX10_allEdges_12 (hN _ _ _ h900) (fun a7 h7 r7 => ?_)
        refine lv_iload_n X.1 X.2.1 dX10_allEdges_15 rfl (lv_at hl 1 rfl) ?_
        refine n_sp X dX10_allEdges_16 (by decide) (by decide) (fun x8 t8 => ?_)
        refine n_add X dX10_allEdges_19 (by omega) (by omega) (fun x9 t9 => ?_)
        refine lv_iload_n X.1 X.2.1 dX10_allEdges_20 rfl (lv_at hl 3 rfl) ?_
        refine n_add X dX10_allEdges_21 (by omega) (by omega) (fun x10 t10 => ?_)
        refine tg_iald X hG h7 rfl (cI_in (n := 4261) (by omega)) dX10_allEdges_22 (fun x11 r11 => ?_)
        refine lv_iadd X.1 X.2.1 dX10_allEdges_23 ?_
        refine n_any (fun x12 => ?_)
        refine lv_istore_n (lv' := [(2, .int x12), (0, .ref a900), (1, .int x901), (3, .int x4)]) X.1 X.2.1 dX10_allEdges_24 rfl hl (by decide) rfl (fun ls hl => ?_)
        refine n_inc X (fun z14 => [(3, .int z14), (2, .int x12), (0, .ref a900), (1, .int x901)]) dX10_allEdges_25 hl (k := 3) rfl (by decide) (by decide) (by omega) (by omega) (by decide) (fun _ => rfl) (fun x13 ls t13 hl => ?_)
        have hl : lv_has ls 4 [(3, .int x13), (2, .int x12), (0, .ref a900), (1, .int x901)] := hl
        refine lv_goto (tgt := 4) X.1 X.2.1 dX10_allEdges_28 (by decide) ?_
        exact ih4 _ _ _ x12 x13 (by omega) (by omega) hG (lv_sub hl [2, 3, 1, 0] rfl)
  exact J4 _ _ _ _ x1 x2 (by omega) (Nat.lt_succ_self _) hG (lv_sub hl [2, 3, 1, 0] rfl)
set_option maxHeartbeats 4000000 in
set_option maxRecDepth 100000 in
theorem c_X10_hush (l : Launch) (D : va_G) (cy : Nat → ClassId) (τ : ty_T) (ρ : ty_R) {M : md_T} (hN : ty_N τ ρ) (hR : ty_Rg M τ ρ) (hF : ty_Wf M τ ρ [6010]) {a900 : Nat} (h900 : τ a900 = some (0, 10)) (x901 : Int32) (zx901 : 0 ≤ x901.toInt ∧ x901.toInt ≤ 3736) {P N : Nat} (hB : HB M P N) {b : Nat} (eb : x901.toInt = (b : Int)) (hb : b = 0 ∨ b = 3736) : KV l D cy yX10_hush cX10_hush 3 (rL 1) τ ρ [.ref a900, .int x901] (fun w => w = ρ) := by
  refine k_metV "EdgeEchoesModel" rfl (by decide +kernel) (Nat.le_of_ble_eq_true rfl) ?_
  intro p e s m args below meth c Q ls X hG hl ret
  have hl : lv_has ls 3 [(0, .ref a900), (1, .int x901)] := hl
  obtain ⟨⟨⟨n9, m9, n9p⟩, ⟨n13, m13, n13p⟩, ⟨n3, m3, n3p⟩, m8⟩, ⟨mN, mP, ⟨gG, mG, lG⟩, mL, mF⟩, mO, ⟨mK, mS, mQ, mZ⟩, hN72, hP8, hNP⟩ := id hB
  refine n_ic X dX10_hush_0 (by decide) (by decide) (fun x1 t1 => ?_)
  refine lv_istore_n (lv' := [(2, .int x1), (0, .ref a900), (1, .int x901)]) X.1 X.2.1 dX10_hush_1 rfl hl (by decide) rfl (fun ls hl => ?_)
  have J2 : ∀ (n : Nat) (H : Heap) (locs : List Loc) (ls : Array Slot) (x2 : Int32), (0 ≤ x2.toInt ∧ x2.toInt ≤ 234) → (234 - x2.toInt).toNat < n → TG D cy τ ρ (ty_d τ) s.heap H locs → lv_has ls 3 [(0, .ref a900), (1, .int x901), (2, .int x2)] → W p l e (rL 1) s m args below meth c H locs 0 0 Q (F0 m 2 ls []) := by
    intro n
    induction n with
    | zero => intro H locs ls x2 bx2 hm2 hG hl; exact absurd hm2 (Nat.not_lt_zero _)
    | succ n ih2 =>
      intro H locs ls x2 bx2 hm2 hG hl
      refine lv_iload_n X.1 X.2.1 dX10_hush_2 rfl (lv_at hl 2 rfl) ?_
      refine n_sp X dX10_hush_3 (by decide) (by decide) (fun x3 t3 => ?_)
      refine n_icmp_ge (tgt := 49) X dX10_hush_6 (by decide) (fun c4 => ?_) (fun c4 => ?_)
      · exact ret _ _ _ _ _ hG rfl dX10_hush_49
      · refine lv_aload_n X.1 X.2.1 dX10_hush_9 rfl (lv_at hl 0 rfl) ?_
        refine gf_10_0 X hG h900 q_876 dX10_hush_10 (hN _ _ _ h900) (fun a5 h5 r5 => ?_)
        refine lv_iload_n X.1 X.2.1 dX10_hush_13 rfl (lv_at hl 1 rfl) ?_
        refine lv_iload_n X.1 X.2.1 dX10_hush_14 rfl (lv_at hl 2 rfl) ?_
        refine n_add X dX10_hush_15 (by omega) (by omega) (fun x6 t6 => ?_)
        refine lv_iload_n X.1 X.2.1 dX10_hush_16 rfl (lv_at hl 2 rfl) ?_
        refine n_i2l X dX10_hush_17 (fun w7 t7 => ?_)
        refine n_ldl X q_1044 (n := 144) (by decide +kernel) dX10_hush_18 (fun w8 e8 t8 => ?_)
        refine n_ldl X q_1045 (n := 215) (by decide +kernel) dX10_hush_21 (fun w9 e9 t9 => ?_)
        refine k_cSi X hG (c_X10_in l D cy τ _ hN hR (ty_Wf.sub (S' := []) hF (by decide)) w7 w8 w9 ) ys_X10_in q_957 ⟨rfl, rfl⟩ ⟨Nat.le_of_ble_eq_true rfl, Nat.le_of_ble_eq_true rfl⟩ rfl hl.1 rfl (Nat.le_of_ble_eq_true rfl) ⟨Nat.zero_le _, Nat.zero_le _⟩ dX10_hush_24 (fun x11 u12 H locs hG po10 => ?_)
        obtain ⟨eu12, po10⟩ := po10
        rw [eu12] at hG
        have J42 : ∀ (H : Heap) (locs : List Loc) (ls : Array Slot) (x13 : Int32), TG D cy τ ρ (ty_d τ) s.heap H locs → lv_has ls 3 [(0, .ref a900), (1, .int x901), (2, .int x2)] → W p l e (rL 1) s m args below meth c H locs 0 0 Q (F0 m 42 ls [.int x13, .int x6, .ref a5]) := by
          intro H locs ls x13 hG hl
          have gx13 := cI_rng x13
          refine tg_iasf X hG h5 rfl (cI_in (n := 4261) (by omega)) dX10_hush_42 (hF _ _ _ _ h5 (ty_in (n := 6010) rfl) (ty_rno (wFr hB (by omega)))) (fun H locs hG => ?_)
          refine n_inc X (fun z15 => [(2, .int z15), (0, .ref a900), (1, .int x901)]) dX10_hush_43 hl (k := 2) rfl (by decide) (by decide) (by omega) (by omega) (by decide) (fun _ => rfl) (fun x14 ls t14 hl => ?_)
          have hl : lv_has ls 3 [(2, .int x14), (0, .ref a900), (1, .int x901)] := hl
          refine lv_goto (tgt := 2) X.1 X.2.1 dX10_hush_46 (by decide) ?_
          exact ih2 _ _ _ x14 (by omega) (by omega) hG (lv_sub hl [1, 2, 0] rfl)
        refine n_if_eq (tgt := 41) X dX10_hush_27 (by decide) (fun c16 => ?_) (fun c16 => ?_)
        · refine n_ic X dX10_hush_41 (by decide) (by decide) (fun x17 t17 => ?_)
          exact J42 _ _ _ x17 hG (lv_sub hl [0, 1, 2] rfl)
        · refine lv_aload_n X.1 X.2.1 dX10_hush_30 rfl (lv_at hl 0 rfl) ?_
          refine gf_10_0 X hG h900 q_876 dX10_hush_31 (hN _ _ _ h900) (fun a18 h18 r18 => ?_)
          refine lv_iload_n X.1 X.2.1 dX10_hush_34 rfl (lv_at hl 1 rfl) ?_
          refine lv_iload_n X.1 X.2.1 dX10_hush_35 rfl (lv_at hl 2 rfl) ?_
          refine n_add X dX10_hush_36 (by omega) (by omega) (fun x19 t19 => ?_)
          refine tg_iald X hG h18 rfl (cI_in (n := 4261) (by omega)) dX10_hush_37 (fun x20 r20 => ?_)
          refine lv_goto (tgt := 42) X.1 X.2.1 dX10_hush_38 (by decide) ?_
          exact J42 _ _ _ x20 hG (lv_sub hl [0, 1, 2] rfl)
  exact J2 _ _ _ _ x1 (by omega) (Nat.lt_succ_self _) hG (lv_sub hl [1, 2, 0] rfl)
set_option maxHeartbeats 4000000 in
set_option maxRecDepth 100000 in
theorem c_X10_seesAll (l : Launch) (D : va_G) (cy : Nat → ClassId) (τ : ty_T) (ρ : ty_R) {M : md_T} (hN : ty_N τ ρ) (hR : ty_Rg M τ ρ) (hF : ty_Wf M τ ρ []) {a900 : Nat} (h900 : τ a900 = some (0, 10)) {P N : Nat} (hB : HB M P N) : KI l D cy yX10_seesAll cX10_seesAll 3 .int (rL 0) τ ρ [.ref a900] (fun r u => u = ρ ∧ True) := by
  refine k_metI "EdgeEchoesModel" rfl (by decide +kernel) (Nat.le_of_ble_eq_true rfl) (fun _ _ _ => rfl) ?_
  intro p e s m args below meth c Q ls X hG hl ret
  have hl : lv_has ls 3 [(0, .ref a900)] := hl
  obtain ⟨⟨⟨n9, m9, n9p⟩, ⟨n13, m13, n13p⟩, ⟨n3, m3, n3p⟩, m8⟩, ⟨mN, mP, ⟨gG, mG, lG⟩, mL, mF⟩, mO, ⟨mK, mS, mQ, mZ⟩, hN72, hP8, hNP⟩ := id hB
  refine n_ic X dX10_seesAll_0 (by decide) (by decide) (fun x1 t1 => ?_)
  refine lv_istore_n (lv' := [(1, .int x1), (0, .ref a900)]) X.1 X.2.1 dX10_seesAll_1 rfl hl (by decide) rfl (fun ls hl => ?_)
  refine n_ic X dX10_seesAll_2 (by decide) (by decide) (fun x2 t2 => ?_)
  refine lv_istore_n (lv' := [(2, .int x2), (1, .int x1), (0, .ref a900)]) X.1 X.2.1 dX10_seesAll_3 rfl hl (by decide) rfl (fun ls hl => ?_)
  have J4 : ∀ (n : Nat) (H : Heap) (locs : List Loc) (ls : Array Slot) (x3 : Int32) (x4 : Int32), (0 ≤ x4.toInt ∧ x4.toInt ≤ 6) → (6 - x4.toInt).toNat < n → TG D cy τ ρ (ty_d τ) s.heap H locs → lv_has ls 3 [(0, .ref a900), (1, .int x3), (2, .int x4)] → W p l e (rL 0) s m args below meth c H locs 0 0 Q (F0 m 4 ls []) := by
    intro n
    induction n with
    | zero => intro H locs ls x3 x4 bx4 hm4 hG hl; exact absurd hm4 (Nat.not_lt_zero _)
    | succ n ih4 =>
      intro H locs ls x3 x4 bx4 hm4 hG hl
      have gx3 := cI_rng x3
      refine lv_iload_n X.1 X.2.1 dX10_seesAll_4 rfl (lv_at hl 2 rfl) ?_
      refine lv_aload_n X.1 X.2.1 dX10_seesAll_5 rfl (lv_at hl 0 rfl) ?_
      refine gf_10_0 X hG h900 q_876 dX10_seesAll_6 (hN _ _ _ h900) (fun a5 h5 r5 => ?_)
      refine n_sp X dX10_seesAll_9 (by decide) (by decide) (fun x6 t6 => ?_)
      refine tg_iald X hG h5 rfl (cI_in (n := 4261) (by omega)) dX10_seesAll_12 (fun x7 r7 => ?_)
      have b7 := rdR (hR _ _ _ _ h5 r7) (n := 259) (by omega) mG
      refine n_icmp_ge (tgt := 37) X dX10_seesAll_13 (by decide) (fun c8 => ?_) (fun c8 => ?_)
      · refine lv_iload_n X.1 X.2.1 dX10_seesAll_37 rfl (lv_at hl 1 rfl) ?_
        exact ret _ _ _ _ x3 _ hG ⟨rfl, trivial⟩ dX10_seesAll_38
      · refine lv_iload_n X.1 X.2.1 dX10_seesAll_16 rfl (lv_at hl 1 rfl) ?_
        refine lv_aload_n X.1 X.2.1 dX10_seesAll_17 rfl (lv_at hl 0 rfl) ?_
        refine gf_10_0 X hG h900 q_876 dX10_seesAll_18 (hN _ _ _ h900) (fun a9 h9 r9 => ?_)
        refine n_sp X dX10_seesAll_21 (by decide) (by decide) (fun x10 t10 => ?_)
        refine lv_iload_n X.1 X.2.1 dX10_seesAll_24 rfl (lv_at hl 2 rfl) ?_
        refine n_add X dX10_seesAll_25 (by omega) (by omega) (fun x11 t11 => ?_)
        refine tg_iald X hG h9 rfl (cI_in (n := 4261) (by omega)) dX10_seesAll_26 (fun x12 r12 => ?_)
        refine lv_iload_n X.1 X.2.1 dX10_seesAll_27 rfl (lv_at hl 2 rfl) ?_
        refine lv_ishl X.1 X.2.1 dX10_seesAll_28 ?_
        refine n_any (fun x13 => ?_)
        refine lv_ior X.1 X.2.1 dX10_seesAll_29 ?_
        refine n_any (fun x14 => ?_)
        refine lv_istore_n (lv' := [(1, .int x14), (0, .ref a900), (2, .int x4)]) X.1 X.2.1 dX10_seesAll_30 rfl hl (by decide) rfl (fun ls hl => ?_)
        refine n_inc X (fun z16 => [(2, .int z16), (1, .int x14), (0, .ref a900)]) dX10_seesAll_31 hl (k := 2) rfl (by decide) (by decide) (by omega) (by omega) (by decide) (fun _ => rfl) (fun x15 ls t15 hl => ?_)
        have hl : lv_has ls 3 [(2, .int x15), (1, .int x14), (0, .ref a900)] := hl
        refine lv_goto (tgt := 4) X.1 X.2.1 dX10_seesAll_34 (by decide) ?_
        exact ih4 _ _ _ x14 x15 (by omega) (by omega) hG (lv_sub hl [2, 1, 0] rfl)
  exact J4 _ _ _ _ x1 x2 (by omega) (Nat.lt_succ_self _) hG (lv_sub hl [2, 1, 0] rfl)
