set_option maxHeartbeats 4000000 in
set_option maxRecDepth 100000 in
theorem c_X10_become (l : Launch) (D : va_G) (cy : Nat → ClassId) (τ : ty_T) (hU : UQ τ) {K : KT} {P N u : Nat} {k0 k1 : Bool} (ok : OKG K P N u) {a900 : Nat} (h900 : τ a900 = some (0, 10)) (x901 : Int32) (zx901 : 0 ≤ x901.toInt ∧ x901.toInt ≤ 246) (x902 : Int32) (pre0 : ∀ w, ty_rng (MM K P N w k0 k1) (10, 4261) x901.toNatClampNeg x902) : KI l D cy yX10_become cX10_become 4 .int (rL 2) τ (cn (MM K P N u k0 k1) τ) [.ref a900, .int x901, .int x902] (fun r w => w = (cn (MM K P N (upN u) k0 k1) τ) ∧ True) := by
  refine k_metI "EdgeEchoesModel" rfl (by decide +kernel) (Nat.le_of_ble_eq_true rfl) (fun _ _ _ => rfl) ?_
  intro p e s m args below meth c Q ls X hG hl ret
  have hl : lv_has ls 4 [(0, .ref a900), (1, .int x901), (2, .int x902)] := hl
  obtain ⟨⟨⟨n9, m9, n9p⟩, ⟨n13, m13, n13p⟩, ⟨n3, m3, n3p⟩, m8⟩, ⟨mN, mP, ⟨gG, mG, lG⟩, mL, mF⟩, mO, ⟨mK, mS, mQ, mZ⟩, hN72, hP8, hNP⟩ := id (MM_HB (k0 := k0) (k1 := k1) ok)
  have hu12 := ok.2.2.2
  have g902 := cI_rng x902
  refine lv_aload_n X.1 X.2.1 dX10_become_0 rfl (lv_at hl 0 rfl) ?_
  refine gf_10_0 X hG h900 q_876 dX10_become_1 (cn_N _ _ _ h900) (fun a1 h1 r1 => ?_)
  refine lv_iload_n X.1 X.2.1 dX10_become_4 rfl (lv_at hl 1 rfl) ?_
  refine tg_iald X hG h1 rfl (cI_in (n := 4261) (by omega)) dX10_become_5 (fun x2 r2 => ?_)
  refine lv_istore_n (lv' := [(3, .int x2), (0, .ref a900), (1, .int x901), (2, .int x902)]) X.1 X.2.1 dX10_become_6 rfl hl (by decide) rfl (fun ls hl => ?_)
  refine lv_aload_n X.1 X.2.1 dX10_become_7 rfl (lv_at hl 1 rfl) ?_
  refine k_cVv X hG (c_X10_keepPast l D cy τ hU ok h900 ) h900 rfl yv_X10_keepPast q_1134 ⟨rfl, rfl⟩ ⟨Nat.le_of_ble_eq_true rfl, Nat.le_of_ble_eq_true rfl⟩ rfl hl.1 rfl (Nat.le_of_ble_eq_true rfl) ⟨Nat.zero_le _, Nat.zero_le _⟩ dX10_become_8 (fun u5 H locs hG po3 => ?_)
  rw [po3] at hG
  obtain ⟨⟨⟨n9, m9, n9p⟩, ⟨n13, m13, n13p⟩, ⟨n3, m3, n3p⟩, m8⟩, ⟨mN, mP, ⟨gG, mG, lG⟩, mL, mF⟩, mO, ⟨mK, mS, mQ, mZ⟩, hN72, hP8, hNP⟩ := id (MM_HB (k0 := k0) (k1 := k1) (OKG.up ok))
  refine lv_aload_n X.1 X.2.1 dX10_become_11 rfl (lv_at hl 1 rfl) ?_
  refine gf_10_0 X hG h900 q_876 dX10_become_12 (cn_N _ _ _ h900) (fun a6 h6 r6 => ?_)
  refine lv_iload_n X.1 X.2.1 dX10_become_15 rfl (lv_at hl 2 rfl) ?_
  refine lv_iload_n X.1 X.2.1 dX10_become_16 rfl (lv_at hl 3 rfl) ?_
  refine tg_iasf X hG h6 rfl (cI_in (n := 4261) (by omega)) dX10_become_17 (cn_F (S := [6010]) _ _ _ _ h6 (ty_in (n := 6010) rfl) (pre0 _)) (fun H locs hG => ?_)
  refine lv_iload_n X.1 X.2.1 dX10_become_18 rfl (lv_at hl 0 rfl) ?_
  exact ret _ _ _ _ x2 _ hG ⟨rfl, trivial⟩ dX10_become_19
set_option maxHeartbeats 4000000 in
set_option maxRecDepth 100000 in
theorem c_X10_quiet (l : Launch) (D : va_G) (cy : Nat → ClassId) (τ : ty_T) (hU : UQ τ) {K : KT} {P N u : Nat} {k0 k1 : Bool} (ok : OKG K P N u) {a900 : Nat} (h900 : τ a900 = some (0, 10)) : KI l D cy yX10_quiet cX10_quiet 2 .int (rL 2) τ (cn (MM K P N u k0 k1) τ) [.ref a900] (fun r w => GS K τ P N k0 k1 w ∧ True) := by
  refine k_metI "EdgeEchoesModel" rfl (by decide +kernel) (Nat.le_of_ble_eq_true rfl) (fun _ _ _ => rfl) ?_
  intro p e s m args below meth c Q ls X hG hl ret
  have hl : lv_has ls 2 [(0, .ref a900)] := hl
  obtain ⟨⟨⟨n9, m9, n9p⟩, ⟨n13, m13, n13p⟩, ⟨n3, m3, n3p⟩, m8⟩, ⟨mN, mP, ⟨gG, mG, lG⟩, mL, mF⟩, mO, ⟨mK, mS, mQ, mZ⟩, hN72, hP8, hNP⟩ := id (MM_HB (k0 := k0) (k1 := k1) ok)
  have hu12 := ok.2.2.2
  refine lv_aload_n X.1 X.2.1 dX10_quiet_0 rfl (lv_at hl 0 rfl) ?_
  refine k_cVi X hG (c_X10_isLine l D cy τ _ cn_N cn_R (cn_F (S := [])) h900 (MM_HB (k0 := k0) (k1 := k1) ok)) h900 rfl yv_X10_isLine q_1028 ⟨rfl, rfl⟩ ⟨Nat.le_of_ble_eq_true rfl, Nat.le_of_ble_eq_true rfl⟩ rfl hl.1 rfl (Nat.le_of_ble_eq_true rfl) ⟨Nat.zero_le _, Nat.zero_le _⟩ dX10_quiet_1 (fun x2 u3 H locs hG po1 => ?_)
  obtain ⟨eu3, po1⟩ := po1
  rw [eu3] at hG
  refine n_if_ne (tgt := 10) X dX10_quiet_4 (by decide) (fun c4 => ?_) (fun c4 => ?_)
  · refine lv_aload_n X.1 X.2.1 dX10_quiet_10 rfl (lv_at hl 0 rfl) ?_
    refine k_cVv X hG (c_X10_keepPast l D cy τ hU ok h900 ) h900 rfl yv_X10_keepPast q_1134 ⟨rfl, rfl⟩ ⟨Nat.le_of_ble_eq_true rfl, Nat.le_of_ble_eq_true rfl⟩ rfl hl.1 rfl (Nat.le_of_ble_eq_true rfl) ⟨Nat.zero_le _, Nat.zero_le _⟩ dX10_quiet_11 (fun u7 H locs hG po5 => ?_)
    rw [po5] at hG
    obtain ⟨⟨⟨n9, m9, n9p⟩, ⟨n13, m13, n13p⟩, ⟨n3, m3, n3p⟩, m8⟩, ⟨mN, mP, ⟨gG, mG, lG⟩, mL, mF⟩, mO, ⟨mK, mS, mQ, mZ⟩, hN72, hP8, hNP⟩ := id (MM_HB (k0 := k0) (k1 := k1) (OKG.up ok))
    refine lv_aload_n X.1 X.2.1 dX10_quiet_14 rfl (lv_at hl 0 rfl) ?_
    refine n_ic X dX10_quiet_15 (by decide) (by decide) (fun x8 t8 => ?_)
    refine k_cVi X hG (c_X10_allEdges l D cy τ _ cn_N cn_R (cn_F (S := [])) h900 x8 (by omega) (MM_HB (k0 := k0) (k1 := k1) (OKG.up ok)) (b := 0) (by omega) (Or.inl rfl)) h900 rfl yv_X10_allEdges q_1179 ⟨rfl, rfl⟩ ⟨Nat.le_of_ble_eq_true rfl, Nat.le_of_ble_eq_true rfl⟩ rfl hl.1 rfl (Nat.le_of_ble_eq_true rfl) ⟨Nat.zero_le _, Nat.zero_le _⟩ dX10_quiet_16 (fun x10 u11 H locs hG po9 => ?_)
    obtain ⟨eu11, po9⟩ := po9
    rw [eu11] at hG
    have g10 := cI_rng x10
    refine lv_istore_n (lv' := [(1, .int x10), (0, .ref a900)]) X.1 X.2.1 dX10_quiet_19 rfl hl (by decide) rfl (fun ls hl => ?_)
    refine lv_aload_n X.1 X.2.1 dX10_quiet_20 rfl (lv_at hl 1 rfl) ?_
    refine n_ic X dX10_quiet_21 (by decide) (by decide) (fun x12 t12 => ?_)
    refine k_cVv X hG (c_X10_hush l D cy τ _ cn_N cn_R (cn_F (S := [6010])) h900 x12 (by omega) (MM_HB (k0 := k0) (k1 := k1) (OKG.up ok)) (b := 0) (by omega) (Or.inl rfl)) h900 rfl yv_X10_hush q_1040 ⟨rfl, rfl⟩ ⟨Nat.le_of_ble_eq_true rfl, Nat.le_of_ble_eq_true rfl⟩ rfl hl.1 rfl (Nat.le_of_ble_eq_true rfl) ⟨Nat.zero_le _, Nat.zero_le _⟩ dX10_quiet_22 (fun u15 H locs hG po13 => ?_)
    rw [po13] at hG
    refine lv_iload_n X.1 X.2.1 dX10_quiet_25 rfl (lv_at hl 0 rfl) ?_
    exact ret _ _ _ _ x10 _ hG ⟨⟨_, (OKG.up ok), rfl⟩, trivial⟩ dX10_quiet_26
  · refine n_ldc X q_1132 (n := -1000000003) (by decide +kernel) dX10_quiet_7 (fun x16 t16 => ?_)
    exact ret _ _ _ _ x16 _ hG ⟨⟨_, ok, rfl⟩, trivial⟩ dX10_quiet_9
set_option maxHeartbeats 4000000 in
set_option maxRecDepth 100000 in
theorem c_X10_drive (l : Launch) (D : va_G) (cy : Nat → ClassId) (τ : ty_T) (hU : UQ τ) {K : KT} {P N u : Nat} {k0 k1 : Bool} (ok : OKG K P N u) {a900 : Nat} (h900 : τ a900 = some (0, 10)) (x901 : Int32) (zx901 : x901.toInt = 0 ∨ x901.toInt = 1) : KI l D cy yX10_drive cX10_drive 2 .int (rL 3) τ (cn (MM K P N u k0 k1) τ) [.ref a900, .int x901] (fun r w => GS K τ P N k0 k1 w ∧ True) := by
  refine k_metI "EdgeEchoesModel" rfl (by decide +kernel) (Nat.le_of_ble_eq_true rfl) (fun _ _ _ => rfl) ?_
  intro p e s m args below meth c Q ls X hG hl ret
  have hl : lv_has ls 2 [(0, .ref a900), (1, .int x901)] := hl
  obtain ⟨⟨⟨n9, m9, n9p⟩, ⟨n13, m13, n13p⟩, ⟨n3, m3, n3p⟩, m8⟩, ⟨mN, mP, ⟨gG, mG, lG⟩, mL, mF⟩, mO, ⟨mK, mS, mQ, mZ⟩, hN72, hP8, hNP⟩ := id (MM_HB (k0 := k0) (k1 := k1) ok)
  have hu12 := ok.2.2.2
  refine lv_aload_n X.1 X.2.1 dX10_drive_0 rfl (lv_at hl 0 rfl) ?_
  refine k_cVi X hG (c_X10_isLine l D cy τ _ cn_N cn_R (cn_F (S := [])) h900 (MM_HB (k0 := k0) (k1 := k1) ok)) h900 rfl yv_X10_isLine q_1028 ⟨rfl, rfl⟩ ⟨Nat.le_of_ble_eq_true rfl, Nat.le_of_ble_eq_true rfl⟩ rfl hl.1 rfl (Nat.le_of_ble_eq_true rfl) ⟨Nat.zero_le _, Nat.zero_le _⟩ dX10_drive_1 (fun x2 u3 H locs hG po1 => ?_)
  obtain ⟨eu3, po1⟩ := po1
  rw [eu3] at hG
  refine n_if_eq (tgt := 26) X dX10_drive_4 (by decide) (fun c4 => ?_) (fun c4 => ?_)
  · refine n_ldc X q_1132 (n := -1000000003) (by decide +kernel) dX10_drive_26 (fun x5 t5 => ?_)
    exact ret _ _ _ _ x5 _ hG ⟨⟨_, ok, rfl⟩, trivial⟩ dX10_drive_28
  · refine lv_aload_n X.1 X.2.1 dX10_drive_7 rfl (lv_at hl 0 rfl) ?_
    refine n_sp X dX10_drive_8 (by decide) (by decide) (fun x6 t6 => ?_)
    refine lv_iload_n X.1 X.2.1 dX10_drive_11 rfl (lv_at hl 1 rfl) ?_
    refine n_if_eq (tgt := 19) X dX10_drive_12 (by decide) (fun c7 => ?_) (fun c7 => ?_)
    · refine n_ic X dX10_drive_19 (by decide) (by decide) (fun x8 t8 => ?_)
      refine k_cVi X hG (c_X10_become l D cy τ hU ok h900 x6 (by omega) x8 (fun w => ty_rno (mm_no ok (by omega) w))) h900 rfl yv_X10_become q_1142 ⟨rfl, rfl⟩ ⟨Nat.le_of_ble_eq_true rfl, Nat.le_of_ble_eq_true rfl⟩ rfl hl.1 rfl (Nat.le_of_ble_eq_true rfl) ⟨Nat.zero_le _, Nat.zero_le _⟩ dX10_drive_20 (fun x10 u11 H locs hG po9 => ?_)
      obtain ⟨eu11, po9⟩ := po9
      rw [eu11] at hG
      have g10 := cI_rng x10
      obtain ⟨⟨⟨n9, m9, n9p⟩, ⟨n13, m13, n13p⟩, ⟨n3, m3, n3p⟩, m8⟩, ⟨mN, mP, ⟨gG, mG, lG⟩, mL, mF⟩, mO, ⟨mK, mS, mQ, mZ⟩, hN72, hP8, hNP⟩ := id (MM_HB (k0 := k0) (k1 := k1) (OKG.up ok))
      refine lv_goto (tgt := 28) X.1 X.2.1 dX10_drive_23 (by decide) ?_
      exact ret _ _ _ _ x10 _ hG ⟨⟨_, (OKG.up ok), rfl⟩, trivial⟩ dX10_drive_28
    · refine n_ic X dX10_drive_15 (by decide) (by decide) (fun x12 t12 => ?_)
      refine lv_goto (tgt := 20) X.1 X.2.1 dX10_drive_16 (by decide) ?_
      refine k_cVi X hG (c_X10_become l D cy τ hU ok h900 x6 (by omega) x12 (fun w => ty_rno (mm_no ok (by omega) w))) h900 rfl yv_X10_become q_1142 ⟨rfl, rfl⟩ ⟨Nat.le_of_ble_eq_true rfl, Nat.le_of_ble_eq_true rfl⟩ rfl hl.1 rfl (Nat.le_of_ble_eq_true rfl) ⟨Nat.zero_le _, Nat.zero_le _⟩ dX10_drive_20 (fun x14 u15 H locs hG po13 => ?_)
      obtain ⟨eu15, po13⟩ := po13
      rw [eu15] at hG
      have g14 := cI_rng x14
      obtain ⟨⟨⟨n9, m9, n9p⟩, ⟨n13, m13, n13p⟩, ⟨n3, m3, n3p⟩, m8⟩, ⟨mN, mP, ⟨gG, mG, lG⟩, mL, mF⟩, mO, ⟨mK, mS, mQ, mZ⟩, hN72, hP8, hNP⟩ := id (MM_HB (k0 := k0) (k1 := k1) (OKG.up ok))
      refine lv_goto (tgt := 28) X.1 X.2.1 dX10_drive_23 (by decide) ?_
      exact ret _ _ _ _ x14 _ hG ⟨⟨_, (OKG.up ok), rfl⟩, trivial⟩ dX10_drive_28
set_option maxHeartbeats 4000000 in
set_option maxRecDepth 100000 in
theorem c_X10_makePlace (l : Launch) (D : va_G) (cy : Nat → ClassId) (τ : ty_T) (hU : UQ τ) {K : KT} {P N u : Nat} {k0 k1 : Bool} (ok : OKG K P N u) {a900 : Nat} (h900 : τ a900 = some (0, 10)) (x901 : Int32) (x902 : Int32) (zx902 : 0 ≤ x902.toInt ∧ x902.toInt ≤ 2) : KI l D cy yX10_makePlace cX10_makePlace 3 .int (rL 3) τ (cn (MM K P N u k0 k1) τ) [.ref a900, .int x901, .int x902] (fun r w => GS K τ P N k0 k1 w ∧ True) := by
  refine k_metI "EdgeEchoesModel" rfl (by decide +kernel) (Nat.le_of_ble_eq_true rfl) (fun _ _ _ => rfl) ?_
  intro p e s m args below meth c Q ls X hG hl ret
  have hl : lv_has ls 3 [(0, .ref a900), (1, .int x901), (2, .int x902)] := hl
  obtain ⟨⟨⟨n9, m9, n9p⟩, ⟨n13, m13, n13p⟩, ⟨n3, m3, n3p⟩, m8⟩, ⟨mN, mP, ⟨gG, mG, lG⟩, mL, mF⟩, mO, ⟨mK, mS, mQ, mZ⟩, hN72, hP8, hNP⟩ := id (MM_HB (k0 := k0) (k1 := k1) ok)
  have hu12 := ok.2.2.2
  have g901 := cI_rng x901
  refine lv_iload_n X.1 X.2.1 dX10_makePlace_0 rfl (lv_at hl 1 rfl) ?_
  refine n_i2l X dX10_makePlace_1 (fun w1 t1 => ?_)
  refine n_lc X dX10_makePlace_2 (fun w2 t2 => ?_)
  have t2 : w2.toInt = 1 := t2
  refine n_ldl X q_1105 (n := 71) (by decide +kernel) dX10_makePlace_3 (fun w3 e3 t3 => ?_)
  refine k_cSi X hG (c_X10_in l D cy τ _ cn_N cn_R (cn_F (S := [])) w1 w2 w3 ) ys_X10_in q_957 ⟨rfl, rfl⟩ ⟨Nat.le_of_ble_eq_true rfl, Nat.le_of_ble_eq_true rfl⟩ rfl hl.1 rfl (Nat.le_of_ble_eq_true rfl) ⟨Nat.zero_le _, Nat.zero_le _⟩ dX10_makePlace_6 (fun x5 u6 H locs hG po4 => ?_)
  obtain ⟨eu6, po4⟩ := po4
  rw [eu6] at hG
  refine n_if_ne (tgt := 15) X dX10_makePlace_9 (by decide) (fun c7 => ?_) (fun c7 => ?_)
  · refine lv_aload_n X.1 X.2.1 dX10_makePlace_15 rfl (lv_at hl 0 rfl) ?_
    refine lv_iload_n X.1 X.2.1 dX10_makePlace_16 rfl (lv_at hl 1 rfl) ?_
    refine k_cVi X hG (c_X10_isPlace l D cy τ _ cn_N cn_R (cn_F (S := [])) h900 x901 (MM_HB (k0 := k0) (k1 := k1) ok)) h900 rfl yv_X10_isPlace q_1111 ⟨rfl, rfl⟩ ⟨Nat.le_of_ble_eq_true rfl, Nat.le_of_ble_eq_true rfl⟩ rfl hl.1 rfl (Nat.le_of_ble_eq_true rfl) ⟨Nat.zero_le _, Nat.zero_le _⟩ dX10_makePlace_17 (fun x9 u10 H locs hG po8 => ?_)
    obtain ⟨eu10, po8⟩ := po8
    rw [eu10] at hG
    refine n_if_eq (tgt := 37) X dX10_makePlace_20 (by decide) (fun c11 => ?_) (fun c11 => ?_)
    · refine n_ldc X q_1132 (n := -1000000003) (by decide +kernel) dX10_makePlace_37 (fun x12 t12 => ?_)
      refine lv_goto (tgt := 52) X.1 X.2.1 dX10_makePlace_39 (by decide) ?_
      exact ret _ _ _ _ x12 _ hG ⟨⟨_, ok, rfl⟩, trivial⟩ dX10_makePlace_52
    · refine lv_aload_n X.1 X.2.1 dX10_makePlace_23 rfl (lv_at hl 0 rfl) ?_
      refine gf_10_0 X hG h900 q_876 dX10_makePlace_24 (cn_N _ _ _ h900) (fun a13 h13 r13 => ?_)
      refine n_sp X dX10_makePlace_27 (by decide) (by decide) (fun x14 t14 => ?_)
      refine lv_iload_n X.1 X.2.1 dX10_makePlace_30 rfl (lv_at hl 1 rfl) ?_
      refine n_add X dX10_makePlace_31 (by omega) (by omega) (fun x15 t15 => ?_)
      refine tg_iald X hG h13 rfl (cI_in (n := 4261) (by omega)) dX10_makePlace_32 (fun x16 r16 => ?_)
      refine lv_iload_n X.1 X.2.1 dX10_makePlace_33 rfl (lv_at hl 2 rfl) ?_
      refine n_icmp_ne (tgt := 42) X dX10_makePlace_34 (by decide) (fun c17 => ?_) (fun c17 => ?_)
      · refine lv_aload_n X.1 X.2.1 dX10_makePlace_42 rfl (lv_at hl 0 rfl) ?_
        refine n_sp X dX10_makePlace_43 (by decide) (by decide) (fun x18 t18 => ?_)
        refine lv_iload_n X.1 X.2.1 dX10_makePlace_46 rfl (lv_at hl 1 rfl) ?_
        refine n_add X dX10_makePlace_47 (by omega) (by omega) (fun x19 t19 => ?_)
        refine lv_iload_n X.1 X.2.1 dX10_makePlace_48 rfl (lv_at hl 2 rfl) ?_
        refine k_cVi X hG (c_X10_become l D cy τ hU ok h900 x19 (by omega) x902 (fun w => ty_rno (mm_no ok (by omega) w))) h900 rfl yv_X10_become q_1142 ⟨rfl, rfl⟩ ⟨Nat.le_of_ble_eq_true rfl, Nat.le_of_ble_eq_true rfl⟩ rfl hl.1 rfl (Nat.le_of_ble_eq_true rfl) ⟨Nat.zero_le _, Nat.zero_le _⟩ dX10_makePlace_49 (fun x21 u22 H locs hG po20 => ?_)
        obtain ⟨eu22, po20⟩ := po20
        rw [eu22] at hG
        have g21 := cI_rng x21
        obtain ⟨⟨⟨n9, m9, n9p⟩, ⟨n13, m13, n13p⟩, ⟨n3, m3, n3p⟩, m8⟩, ⟨mN, mP, ⟨gG, mG, lG⟩, mL, mF⟩, mO, ⟨mK, mS, mQ, mZ⟩, hN72, hP8, hNP⟩ := id (MM_HB (k0 := k0) (k1 := k1) (OKG.up ok))
        exact ret _ _ _ _ x21 _ hG ⟨⟨_, (OKG.up ok), rfl⟩, trivial⟩ dX10_makePlace_52
      · refine n_ldc X q_1132 (n := -1000000003) (by decide +kernel) dX10_makePlace_37 (fun x23 t23 => ?_)
        refine lv_goto (tgt := 52) X.1 X.2.1 dX10_makePlace_39 (by decide) ?_
        exact ret _ _ _ _ x23 _ hG ⟨⟨_, ok, rfl⟩, trivial⟩ dX10_makePlace_52
  · refine n_ldc X q_960 (n := -1000000002) (by decide +kernel) dX10_makePlace_12 (fun x24 t24 => ?_)
    exact ret _ _ _ _ x24 _ hG ⟨⟨_, ok, rfl⟩, trivial⟩ dX10_makePlace_14
set_option maxHeartbeats 4000000 in
set_option maxRecDepth 100000 in
theorem c_X10_cut (l : Launch) (D : va_G) (cy : Nat → ClassId) (τ : ty_T) (hU : UQ τ) {K : KT} {P N u : Nat} {k0 k1 : Bool} (ok : OKG K P N u) {a900 : Nat} (h900 : τ a900 = some (0, 10)) (x901 : Int32) : KI l D cy yX10_cut cX10_cut 2 .int (rL 4) τ (cn (MM K P N u k0 k1) τ) [.ref a900, .int x901] (fun r w => GS K τ P N k0 k1 w ∧ True) := by
  refine k_metI "EdgeEchoesModel" rfl (by decide +kernel) (Nat.le_of_ble_eq_true rfl) (fun _ _ _ => rfl) ?_
  intro p e s m args below meth c Q ls X hG hl ret
  have hl : lv_has ls 2 [(0, .ref a900), (1, .int x901)] := hl
  obtain ⟨⟨⟨n9, m9, n9p⟩, ⟨n13, m13, n13p⟩, ⟨n3, m3, n3p⟩, m8⟩, ⟨mN, mP, ⟨gG, mG, lG⟩, mL, mF⟩, mO, ⟨mK, mS, mQ, mZ⟩, hN72, hP8, hNP⟩ := id (MM_HB (k0 := k0) (k1 := k1) ok)
  have hu12 := ok.2.2.2
  have g901 := cI_rng x901
  refine lv_aload_n X.1 X.2.1 dX10_cut_0 rfl (lv_at hl 0 rfl) ?_
  refine lv_iload_n X.1 X.2.1 dX10_cut_1 rfl (lv_at hl 1 rfl) ?_
  refine n_ic X dX10_cut_2 (by decide) (by decide) (fun x1 t1 => ?_)
  refine k_cVi X hG (c_X10_makePlace l D cy τ hU ok h900 x901 x1 (by omega) ) h900 rfl yv_X10_makePlace q_1150 ⟨rfl, rfl⟩ ⟨Nat.le_of_ble_eq_true rfl, Nat.le_of_ble_eq_true rfl⟩ rfl hl.1 rfl (Nat.le_of_ble_eq_true rfl) ⟨Nat.zero_le _, Nat.zero_le _⟩ dX10_cut_3 (fun x3 u4 H locs hG po2 => ?_)
  obtain ⟨⟨vv4, okv4, eu4⟩, po2⟩ := po2
  rw [eu4] at hG
  have g3 := cI_rng x3
  exact ret _ _ _ _ x3 _ hG ⟨⟨_, okv4, rfl⟩, trivial⟩ dX10_cut_6
set_option maxHeartbeats 4000000 in
set_option maxRecDepth 100000 in
theorem c_X10_brief (l : Launch) (D : va_G) (cy : Nat → ClassId) (τ : ty_T) (hU : UQ τ) {K : KT} {P N u : Nat} {k0 k1 : Bool} (ok : OKG K P N u) {a900 : Nat} (h900 : τ a900 = some (0, 10)) (x901 : Int32) : KI l D cy yX10_brief cX10_brief 2 .int (rL 4) τ (cn (MM K P N u k0 k1) τ) [.ref a900, .int x901] (fun r w => GS K τ P N k0 k1 w ∧ True) := by
  refine k_metI "EdgeEchoesModel" rfl (by decide +kernel) (Nat.le_of_ble_eq_true rfl) (fun _ _ _ => rfl) ?_
  intro p e s m args below meth c Q ls X hG hl ret
  have hl : lv_has ls 2 [(0, .ref a900), (1, .int x901)] := hl
  obtain ⟨⟨⟨n9, m9, n9p⟩, ⟨n13, m13, n13p⟩, ⟨n3, m3, n3p⟩, m8⟩, ⟨mN, mP, ⟨gG, mG, lG⟩, mL, mF⟩, mO, ⟨mK, mS, mQ, mZ⟩, hN72, hP8, hNP⟩ := id (MM_HB (k0 := k0) (k1 := k1) ok)
  have hu12 := ok.2.2.2
  have g901 := cI_rng x901
  refine lv_aload_n X.1 X.2.1 dX10_brief_0 rfl (lv_at hl 0 rfl) ?_
  refine lv_iload_n X.1 X.2.1 dX10_brief_1 rfl (lv_at hl 1 rfl) ?_
  refine n_ic X dX10_brief_2 (by decide) (by decide) (fun x1 t1 => ?_)
  refine k_cVi X hG (c_X10_makePlace l D cy τ hU ok h900 x901 x1 (by omega) ) h900 rfl yv_X10_makePlace q_1150 ⟨rfl, rfl⟩ ⟨Nat.le_of_ble_eq_true rfl, Nat.le_of_ble_eq_true rfl⟩ rfl hl.1 rfl (Nat.le_of_ble_eq_true rfl) ⟨Nat.zero_le _, Nat.zero_le _⟩ dX10_brief_3 (fun x3 u4 H locs hG po2 => ?_)
  obtain ⟨⟨vv4, okv4, eu4⟩, po2⟩ := po2
  rw [eu4] at hG
  have g3 := cI_rng x3
  exact ret _ _ _ _ x3 _ hG ⟨⟨_, okv4, rfl⟩, trivial⟩ dX10_brief_6
set_option maxHeartbeats 4000000 in
set_option maxRecDepth 100000 in
theorem c_X10_mend (l : Launch) (D : va_G) (cy : Nat → ClassId) (τ : ty_T) (hU : UQ τ) {K : KT} {P N u : Nat} {k0 k1 : Bool} (ok : OKG K P N u) {a900 : Nat} (h900 : τ a900 = some (0, 10)) (x901 : Int32) : KI l D cy yX10_mend cX10_mend 2 .int (rL 4) τ (cn (MM K P N u k0 k1) τ) [.ref a900, .int x901] (fun r w => GS K τ P N k0 k1 w ∧ True) := by
  refine k_metI "EdgeEchoesModel" rfl (by decide +kernel) (Nat.le_of_ble_eq_true rfl) (fun _ _ _ => rfl) ?_
  intro p e s m args below meth c Q ls X hG hl ret
  have hl : lv_has ls 2 [(0, .ref a900), (1, .int x901)] := hl
  obtain ⟨⟨⟨n9, m9, n9p⟩, ⟨n13, m13, n13p⟩, ⟨n3, m3, n3p⟩, m8⟩, ⟨mN, mP, ⟨gG, mG, lG⟩, mL, mF⟩, mO, ⟨mK, mS, mQ, mZ⟩, hN72, hP8, hNP⟩ := id (MM_HB (k0 := k0) (k1 := k1) ok)
  have hu12 := ok.2.2.2
  have g901 := cI_rng x901
  refine lv_aload_n X.1 X.2.1 dX10_mend_0 rfl (lv_at hl 0 rfl) ?_
  refine lv_iload_n X.1 X.2.1 dX10_mend_1 rfl (lv_at hl 1 rfl) ?_
  refine n_ic X dX10_mend_2 (by decide) (by decide) (fun x1 t1 => ?_)
  refine k_cVi X hG (c_X10_makePlace l D cy τ hU ok h900 x901 x1 (by omega) ) h900 rfl yv_X10_makePlace q_1150 ⟨rfl, rfl⟩ ⟨Nat.le_of_ble_eq_true rfl, Nat.le_of_ble_eq_true rfl⟩ rfl hl.1 rfl (Nat.le_of_ble_eq_true rfl) ⟨Nat.zero_le _, Nat.zero_le _⟩ dX10_mend_3 (fun x3 u4 H locs hG po2 => ?_)
  obtain ⟨⟨vv4, okv4, eu4⟩, po2⟩ := po2
  rw [eu4] at hG
  have g3 := cI_rng x3
  exact ret _ _ _ _ x3 _ hG ⟨⟨_, okv4, rfl⟩, trivial⟩ dX10_mend_6
set_option maxHeartbeats 4000000 in
set_option maxRecDepth 100000 in
theorem c_X10_piece (l : Launch) (D : va_G) (cy : Nat → ClassId) (τ : ty_T) (hU : UQ τ) {K : KT} {P N u : Nat} {k0 k1 : Bool} (ok : OKG K P N u) {a900 : Nat} (h900 : τ a900 = some (0, 10)) (x901 : Int32) (x902 : Int32) : KI l D cy yX10_piece cX10_piece 3 .int (rL 3) τ (cn (MM K P N u k0 k1) τ) [.ref a900, .int x901, .int x902] (fun r w => GS K τ P N k0 k1 w ∧ True) := by
  refine k_metI "EdgeEchoesModel" rfl (by decide +kernel) (Nat.le_of_ble_eq_true rfl) (fun _ _ _ => rfl) ?_
  intro p e s m args below meth c Q ls X hG hl ret
  have hl : lv_has ls 3 [(0, .ref a900), (1, .int x901), (2, .int x902)] := hl
  obtain ⟨⟨⟨n9, m9, n9p⟩, ⟨n13, m13, n13p⟩, ⟨n3, m3, n3p⟩, m8⟩, ⟨mN, mP, ⟨gG, mG, lG⟩, mL, mF⟩, mO, ⟨mK, mS, mQ, mZ⟩, hN72, hP8, hNP⟩ := id (MM_HB (k0 := k0) (k1 := k1) ok)
  have hu12 := ok.2.2.2
  have g901 := cI_rng x901
  have g902 := cI_rng x902
  refine lv_aload_n X.1 X.2.1 dX10_piece_0 rfl (lv_at hl 0 rfl) ?_
  refine lv_iload_n X.1 X.2.1 dX10_piece_1 rfl (lv_at hl 1 rfl) ?_
  refine k_cVi X hG (c_X10_isPiece l D cy τ _ cn_N cn_R (cn_F (S := [])) h900 x901 (MM_HB (k0 := k0) (k1 := k1) ok)) h900 rfl yv_X10_isPiece q_1095 ⟨rfl, rfl⟩ ⟨Nat.le_of_ble_eq_true rfl, Nat.le_of_ble_eq_true rfl⟩ rfl hl.1 rfl (Nat.le_of_ble_eq_true rfl) ⟨Nat.zero_le _, Nat.zero_le _⟩ dX10_piece_2 (fun x2 u3 H locs hG po1 => ?_)
  obtain ⟨eu3, po1⟩ := po1
  rw [eu3] at hG
  refine n_if_ne (tgt := 13) X dX10_piece_5 (by decide) (fun c4 => ?_) (fun c4 => ?_)
  · refine lv_iload_n X.1 X.2.1 dX10_piece_13 rfl (lv_at hl 2 rfl) ?_
    refine n_i2l X dX10_piece_14 (fun w5 t5 => ?_)
    refine n_lc X dX10_piece_15 (fun w6 t6 => ?_)
    have t6 : w6.toInt = 1 := t6
    refine n_ldl X q_1166 (n := 99) (by decide +kernel) dX10_piece_16 (fun w7 e7 t7 => ?_)
    refine k_cSi X hG (c_X10_in l D cy τ _ cn_N cn_R (cn_F (S := [])) w5 w6 w7 ) ys_X10_in q_957 ⟨rfl, rfl⟩ ⟨Nat.le_of_ble_eq_true rfl, Nat.le_of_ble_eq_true rfl⟩ rfl hl.1 rfl (Nat.le_of_ble_eq_true rfl) ⟨Nat.zero_le _, Nat.zero_le _⟩ dX10_piece_19 (fun x9 u10 H locs hG po8 => ?_)
    obtain ⟨eu10, po8⟩ := po8
    rw [eu10] at hG
    refine n_if_ne (tgt := 30) X dX10_piece_22 (by decide) (fun c11 => ?_) (fun c11 => ?_)
    · refine lv_aload_n X.1 X.2.1 dX10_piece_30 rfl (lv_at hl 0 rfl) ?_
      refine n_sp X dX10_piece_31 (by decide) (by decide) (fun x12 t12 => ?_)
      refine lv_iload_n X.1 X.2.1 dX10_piece_34 rfl (lv_at hl 1 rfl) ?_
      refine n_add X dX10_piece_35 (by omega) (by omega) (fun x13 t13 => ?_)
      refine lv_iload_n X.1 X.2.1 dX10_piece_36 rfl (lv_at hl 2 rfl) ?_
      refine k_cVi X hG (c_X10_become l D cy τ hU ok h900 x13 (by omega) x902 (fun w => ty_ryes (mm_oh ok (by omega) w) (by omega))) h900 rfl yv_X10_become q_1142 ⟨rfl, rfl⟩ ⟨Nat.le_of_ble_eq_true rfl, Nat.le_of_ble_eq_true rfl⟩ rfl hl.1 rfl (Nat.le_of_ble_eq_true rfl) ⟨Nat.zero_le _, Nat.zero_le _⟩ dX10_piece_37 (fun x15 u16 H locs hG po14 => ?_)
      obtain ⟨eu16, po14⟩ := po14
      rw [eu16] at hG
      have g15 := cI_rng x15
      obtain ⟨⟨⟨n9, m9, n9p⟩, ⟨n13, m13, n13p⟩, ⟨n3, m3, n3p⟩, m8⟩, ⟨mN, mP, ⟨gG, mG, lG⟩, mL, mF⟩, mO, ⟨mK, mS, mQ, mZ⟩, hN72, hP8, hNP⟩ := id (MM_HB (k0 := k0) (k1 := k1) (OKG.up ok))
      exact ret _ _ _ _ x15 _ hG ⟨⟨_, (OKG.up ok), rfl⟩, trivial⟩ dX10_piece_40
    · refine n_ldc X q_960 (n := -1000000002) (by decide +kernel) dX10_piece_25 (fun x17 t17 => ?_)
      refine lv_goto (tgt := 40) X.1 X.2.1 dX10_piece_27 (by decide) ?_
      exact ret _ _ _ _ x17 _ hG ⟨⟨_, ok, rfl⟩, trivial⟩ dX10_piece_40
  · refine n_ldc X q_1099 (n := -1000000001) (by decide +kernel) dX10_piece_8 (fun x18 t18 => ?_)
    refine lv_goto (tgt := 40) X.1 X.2.1 dX10_piece_10 (by decide) ?_
    exact ret _ _ _ _ x18 _ hG ⟨⟨_, ok, rfl⟩, trivial⟩ dX10_piece_40
set_option maxHeartbeats 4000000 in
set_option maxRecDepth 100000 in
theorem c_X10_end (l : Launch) (D : va_G) (cy : Nat → ClassId) (τ : ty_T) (hU : UQ τ) {K : KT} {P N u : Nat} {k0 k1 : Bool} (ok : OKG K P N u) {a900 : Nat} (h900 : τ a900 = some (0, 10)) (x901 : Int32) (x902 : Int32) : KI l D cy yX10_end cX10_end 4 .int (rL 3) τ (cn (MM K P N u k0 k1) τ) [.ref a900, .int x901, .int x902] (fun r w => GS K τ P N k0 k1 w ∧ True) := by
  refine k_metI "EdgeEchoesModel" rfl (by decide +kernel) (Nat.le_of_ble_eq_true rfl) (fun _ _ _ => rfl) ?_
  intro p e s m args below meth c Q ls X hG hl ret
  have hl : lv_has ls 4 [(0, .ref a900), (1, .int x901), (2, .int x902)] := hl
  obtain ⟨⟨⟨n9, m9, n9p⟩, ⟨n13, m13, n13p⟩, ⟨n3, m3, n3p⟩, m8⟩, ⟨mN, mP, ⟨gG, mG, lG⟩, mL, mF⟩, mO, ⟨mK, mS, mQ, mZ⟩, hN72, hP8, hNP⟩ := id (MM_HB (k0 := k0) (k1 := k1) ok)
  have hu12 := ok.2.2.2
  have g901 := cI_rng x901
  have g902 := cI_rng x902
  refine lv_iload_n X.1 X.2.1 dX10_end_0 rfl (lv_at hl 1 rfl) ?_
  refine n_i2l X dX10_end_1 (fun w1 t1 => ?_)
  refine n_lc X dX10_end_2 (fun w2 t2 => ?_)
  have t2 : w2.toInt = 0 := t2
  refine n_ldl X q_1100 (n := 2) (by decide +kernel) dX10_end_3 (fun w3 e3 t3 => ?_)
  refine k_cSi X hG (c_X10_in l D cy τ _ cn_N cn_R (cn_F (S := [])) w1 w2 w3 ) ys_X10_in q_957 ⟨rfl, rfl⟩ ⟨Nat.le_of_ble_eq_true rfl, Nat.le_of_ble_eq_true rfl⟩ rfl hl.1 rfl (Nat.le_of_ble_eq_true rfl) ⟨Nat.zero_le _, Nat.zero_le _⟩ dX10_end_6 (fun x5 u6 H locs hG po4 => ?_)
  obtain ⟨eu6, po4⟩ := po4
  rw [eu6] at hG
  refine n_if_eq (tgt := 24) X dX10_end_9 (by decide) (fun c7 => ?_) (fun c7 => ?_)
  · refine n_ldc X q_960 (n := -1000000002) (by decide +kernel) dX10_end_24 (fun x8 t8 => ?_)
    exact ret _ _ _ _ x8 _ hG ⟨⟨_, ok, rfl⟩, trivial⟩ dX10_end_26
  · refine lv_iload_n X.1 X.2.1 dX10_end_12 rfl (lv_at hl 2 rfl) ?_
    refine n_i2l X dX10_end_13 (fun w9 t9 => ?_)
    refine n_lc X dX10_end_14 (fun w10 t10 => ?_)
    have t10 : w10.toInt = 1 := t10
    refine n_ldl X q_1166 (n := 99) (by decide +kernel) dX10_end_15 (fun w11 e11 t11 => ?_)
    refine k_cSi X hG (c_X10_in l D cy τ _ cn_N cn_R (cn_F (S := [])) w9 w10 w11 ) ys_X10_in q_957 ⟨rfl, rfl⟩ ⟨Nat.le_of_ble_eq_true rfl, Nat.le_of_ble_eq_true rfl⟩ rfl hl.1 rfl (Nat.le_of_ble_eq_true rfl) ⟨Nat.zero_le _, Nat.zero_le _⟩ dX10_end_18 (fun x13 u14 H locs hG po12 => ?_)
    obtain ⟨eu14, po12⟩ := po12
    rw [eu14] at hG
    refine n_if_ne (tgt := 27) X dX10_end_21 (by decide) (fun c15 => ?_) (fun c15 => ?_)
    · refine lv_aload_n X.1 X.2.1 dX10_end_27 rfl (lv_at hl 0 rfl) ?_
      refine k_cVi X hG (c_X10_isLine l D cy τ _ cn_N cn_R (cn_F (S := [])) h900 (MM_HB (k0 := k0) (k1 := k1) ok)) h900 rfl yv_X10_isLine q_1028 ⟨rfl, rfl⟩ ⟨Nat.le_of_ble_eq_true rfl, Nat.le_of_ble_eq_true rfl⟩ rfl hl.1 rfl (Nat.le_of_ble_eq_true rfl) ⟨Nat.zero_le _, Nat.zero_le _⟩ dX10_end_28 (fun x17 u18 H locs hG po16 => ?_)
      obtain ⟨eu18, po16⟩ := po16
      rw [eu18] at hG
      refine n_if_ne (tgt := 37) X dX10_end_31 (by decide) (fun c19 => ?_) (fun c19 => ?_)
      · refine lv_aload_n X.1 X.2.1 dX10_end_37 rfl (lv_at hl 0 rfl) ?_
        refine n_sp X dX10_end_38 (by decide) (by decide) (fun x20 t20 => ?_)
        refine lv_iload_n X.1 X.2.1 dX10_end_41 rfl (lv_at hl 1 rfl) ?_
        refine k_cVi X hG (c_X10_become l D cy τ hU ok h900 x20 (by omega) x901 (fun w => ty_rno (mm_no ok (by omega) w))) h900 rfl yv_X10_become q_1142 ⟨rfl, rfl⟩ ⟨Nat.le_of_ble_eq_true rfl, Nat.le_of_ble_eq_true rfl⟩ rfl hl.1 rfl (Nat.le_of_ble_eq_true rfl) ⟨Nat.zero_le _, Nat.zero_le _⟩ dX10_end_42 (fun x22 u23 H locs hG po21 => ?_)
        obtain ⟨eu23, po21⟩ := po21
        rw [eu23] at hG
        have g22 := cI_rng x22
        obtain ⟨⟨⟨n9, m9, n9p⟩, ⟨n13, m13, n13p⟩, ⟨n3, m3, n3p⟩, m8⟩, ⟨mN, mP, ⟨gG, mG, lG⟩, mL, mF⟩, mO, ⟨mK, mS, mQ, mZ⟩, hN72, hP8, hNP⟩ := id (MM_HB (k0 := k0) (k1 := k1) (OKG.up ok))
        refine lv_istore_n (lv' := [(3, .int x22), (0, .ref a900), (1, .int x901), (2, .int x902)]) X.1 X.2.1 dX10_end_45 rfl hl (by decide) rfl (fun ls hl => ?_)
        refine lv_aload_n X.1 X.2.1 dX10_end_46 rfl (lv_at hl 1 rfl) ?_
        refine gf_10_0 X hG h900 q_876 dX10_end_47 (cn_N _ _ _ h900) (fun a24 h24 r24 => ?_)
        refine n_sp X dX10_end_50 (by decide) (by decide) (fun x25 t25 => ?_)
        refine lv_iload_n X.1 X.2.1 dX10_end_53 rfl (lv_at hl 3 rfl) ?_
        refine tg_iasf X hG h24 rfl (cI_in (n := 4261) (by omega)) dX10_end_54 (cn_F (S := [6010]) _ _ _ _ h24 (ty_in (n := 6010) rfl) (ty_ryes (mm_dr ok (Or.inl (by omega)) _) (by omega))) (fun H locs hG => ?_)
        refine lv_iload_n X.1 X.2.1 dX10_end_55 rfl (lv_at hl 0 rfl) ?_
        exact ret _ _ _ _ x22 _ hG ⟨⟨_, (OKG.up ok), rfl⟩, trivial⟩ dX10_end_56
      · refine n_ldc X q_1132 (n := -1000000003) (by decide +kernel) dX10_end_34 (fun x26 t26 => ?_)
        exact ret _ _ _ _ x26 _ hG ⟨⟨_, ok, rfl⟩, trivial⟩ dX10_end_36
    · refine n_ldc X q_960 (n := -1000000002) (by decide +kernel) dX10_end_24 (fun x27 t27 => ?_)
      exact ret _ _ _ _ x27 _ hG ⟨⟨_, ok, rfl⟩, trivial⟩ dX10_end_26
set_option maxHeartbeats 4000000 in
set_option maxRecDepth 100000 in
theorem c_X10_ohms (l : Launch) (D : va_G) (cy : Nat → ClassId) (τ : ty_T) (hU : UQ τ) {K : KT} {P N u : Nat} {k0 k1 : Bool} (ok : OKG K P N u) {a900 : Nat} (h900 : τ a900 = some (0, 10)) (x901 : Int32) : KI l D cy yX10_ohms cX10_ohms 2 .int (rL 3) τ (cn (MM K P N u k0 k1) τ) [.ref a900, .int x901] (fun r w => GS K τ P N k0 k1 w ∧ True) := by
  refine k_metI "EdgeEchoesModel" rfl (by decide +kernel) (Nat.le_of_ble_eq_true rfl) (fun _ _ _ => rfl) ?_
  intro p e s m args below meth c Q ls X hG hl ret
  have hl : lv_has ls 2 [(0, .ref a900), (1, .int x901)] := hl
  obtain ⟨⟨⟨n9, m9, n9p⟩, ⟨n13, m13, n13p⟩, ⟨n3, m3, n3p⟩, m8⟩, ⟨mN, mP, ⟨gG, mG, lG⟩, mL, mF⟩, mO, ⟨mK, mS, mQ, mZ⟩, hN72, hP8, hNP⟩ := id (MM_HB (k0 := k0) (k1 := k1) ok)
  have hu12 := ok.2.2.2
  have g901 := cI_rng x901
  refine lv_iload_n X.1 X.2.1 dX10_ohms_0 rfl (lv_at hl 1 rfl) ?_
  refine n_i2l X dX10_ohms_1 (fun w1 t1 => ?_)
  refine n_lc X dX10_ohms_2 (fun w2 t2 => ?_)
  have t2 : w2.toInt = 0 := t2
  refine n_ldl X q_1166 (n := 99) (by decide +kernel) dX10_ohms_3 (fun w3 e3 t3 => ?_)
  refine k_cSi X hG (c_X10_in l D cy τ _ cn_N cn_R (cn_F (S := [])) w1 w2 w3 ) ys_X10_in q_957 ⟨rfl, rfl⟩ ⟨Nat.le_of_ble_eq_true rfl, Nat.le_of_ble_eq_true rfl⟩ rfl hl.1 rfl (Nat.le_of_ble_eq_true rfl) ⟨Nat.zero_le _, Nat.zero_le _⟩ dX10_ohms_6 (fun x5 u6 H locs hG po4 => ?_)
  obtain ⟨eu6, po4⟩ := po4
  rw [eu6] at hG
  refine n_if_ne (tgt := 17) X dX10_ohms_9 (by decide) (fun c7 => ?_) (fun c7 => ?_)
  · refine lv_aload_n X.1 X.2.1 dX10_ohms_17 rfl (lv_at hl 0 rfl) ?_
    refine k_cVi X hG (c_X10_isLine l D cy τ _ cn_N cn_R (cn_F (S := [])) h900 (MM_HB (k0 := k0) (k1 := k1) ok)) h900 rfl yv_X10_isLine q_1028 ⟨rfl, rfl⟩ ⟨Nat.le_of_ble_eq_true rfl, Nat.le_of_ble_eq_true rfl⟩ rfl hl.1 rfl (Nat.le_of_ble_eq_true rfl) ⟨Nat.zero_le _, Nat.zero_le _⟩ dX10_ohms_18 (fun x9 u10 H locs hG po8 => ?_)
    obtain ⟨eu10, po8⟩ := po8
    rw [eu10] at hG
    refine n_if_eq (tgt := 35) X dX10_ohms_21 (by decide) (fun c11 => ?_) (fun c11 => ?_)
    · refine n_ldc X q_1132 (n := -1000000003) (by decide +kernel) dX10_ohms_35 (fun x12 t12 => ?_)
      exact ret _ _ _ _ x12 _ hG ⟨⟨_, ok, rfl⟩, trivial⟩ dX10_ohms_37
    · refine lv_aload_n X.1 X.2.1 dX10_ohms_24 rfl (lv_at hl 0 rfl) ?_
      refine n_sp X dX10_ohms_25 (by decide) (by decide) (fun x13 t13 => ?_)
      refine lv_iload_n X.1 X.2.1 dX10_ohms_28 rfl (lv_at hl 1 rfl) ?_
      refine k_cVi X hG (c_X10_become l D cy τ hU ok h900 x13 (by omega) x901 (fun w => ty_ryes (mm_dr ok (Or.inr (by omega)) w) (by omega))) h900 rfl yv_X10_become q_1142 ⟨rfl, rfl⟩ ⟨Nat.le_of_ble_eq_true rfl, Nat.le_of_ble_eq_true rfl⟩ rfl hl.1 rfl (Nat.le_of_ble_eq_true rfl) ⟨Nat.zero_le _, Nat.zero_le _⟩ dX10_ohms_29 (fun x15 u16 H locs hG po14 => ?_)
      obtain ⟨eu16, po14⟩ := po14
      rw [eu16] at hG
      have g15 := cI_rng x15
      obtain ⟨⟨⟨n9, m9, n9p⟩, ⟨n13, m13, n13p⟩, ⟨n3, m3, n3p⟩, m8⟩, ⟨mN, mP, ⟨gG, mG, lG⟩, mL, mF⟩, mO, ⟨mK, mS, mQ, mZ⟩, hN72, hP8, hNP⟩ := id (MM_HB (k0 := k0) (k1 := k1) (OKG.up ok))
      refine lv_goto (tgt := 37) X.1 X.2.1 dX10_ohms_32 (by decide) ?_
      exact ret _ _ _ _ x15 _ hG ⟨⟨_, (OKG.up ok), rfl⟩, trivial⟩ dX10_ohms_37
  · refine n_ldc X q_960 (n := -1000000002) (by decide +kernel) dX10_ohms_12 (fun x17 t17 => ?_)
    refine lv_goto (tgt := 37) X.1 X.2.1 dX10_ohms_14 (by decide) ?_
    exact ret _ _ _ _ x17 _ hG ⟨⟨_, ok, rfl⟩, trivial⟩ dX10_ohms_37
