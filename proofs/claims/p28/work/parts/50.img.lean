set_option maxHeartbeats 4000000 in
set_option maxRecDepth 100000 in
theorem c_X10_undo (l : Launch) (D : va_G) (cy : Nat → ClassId) (τ : ty_T) (hU : UQ τ) {K : KT} {P N u : Nat} {k0 k1 : Bool} (ok : OKG K P N u) {a900 : Nat} (h900 : τ a900 = some (0, 10)) (x901 : Int32) : KI l D cy yX10_undo cX10_undo 2 .int (rL 1) τ (cn (MM K P N u k0 k1) τ) [.ref a900, .int x901] (fun r w => GS K τ P N k0 k1 w ∧ True) := by
  refine k_metI "EdgeEchoesModel" rfl (by decide +kernel) (Nat.le_of_ble_eq_true rfl) (fun _ _ _ => rfl) ?_
  intro p e s m args below meth c Q ls X hG hl ret
  have hl : lv_has ls 2 [(0, .ref a900), (1, .int x901)] := hl
  obtain ⟨⟨⟨n9, m9, n9p⟩, ⟨n13, m13, n13p⟩, m3, m8⟩, ⟨mN, mP, ⟨gG, mG, lG⟩, mL, mF⟩, mO, ⟨mK, mS, mQ, mZ⟩, hN72, hP8, hNP⟩ := id (MM_HB (k0 := k0) (k1 := k1) ok)
  have hu12 := ok.2.2.2
  have g901 := cI_rng x901
  refine lv_iload_n X.1 X.2.1 dX10_undo_0 rfl (lv_at hl 1 rfl) ?_
  refine n_i2l X dX10_undo_1 (fun w1 t1 => ?_)
  refine n_lc X dX10_undo_2 (fun w2 t2 => ?_)
  have t2 : w2.toInt = 1 := t2
  refine n_ldl X q_1203 (n := 12) (by decide +kernel) dX10_undo_3 (fun w3 e3 t3 => ?_)
  refine k_cSi X hG (c_X10_in l D cy τ _ cn_N cn_R (cn_F (S := [])) w1 w2 w3 ) ys_X10_in q_957 ⟨rfl, rfl⟩ ⟨Nat.le_of_ble_eq_true rfl, Nat.le_of_ble_eq_true rfl⟩ rfl hl.1 rfl (Nat.le_of_ble_eq_true rfl) ⟨Nat.zero_le _, Nat.zero_le _⟩ dX10_undo_6 (fun x5 u6 H locs hG po4 => ?_)
  obtain ⟨eu6, po4⟩ := po4
  rw [eu6] at hG
  refine n_if_ne (tgt := 15) X dX10_undo_9 (by decide) (fun c7 => ?_) (fun c7 => ?_)
  · refine lv_iload_n X.1 X.2.1 dX10_undo_15 rfl (lv_at hl 1 rfl) ?_
    refine lv_aload_n X.1 X.2.1 dX10_undo_16 rfl (lv_at hl 0 rfl) ?_
    refine gf_10_2 X hG h900 q_878 dX10_undo_17 (fun x8 r8 => ?_)
    have b8 := (cn_R _ _ _ _ h900 r8) _ _ mm_u
    refine n_icmp_le (tgt := 26) X dX10_undo_20 (by decide) (fun c9 => ?_) (fun c9 => ?_)
    · obtain ⟨v, ev, hv⟩ : ∃ v : Nat, (v : Int) = (u : Int) - x901.toInt ∧ v < u := ⟨u - x901.toInt.toNat, by omega, by omega⟩
      refine lv_aload_n X.1 X.2.1 dX10_undo_26 rfl (lv_at hl 0 rfl) ?_
      refine lv_dup X.1 X.2.1 dX10_undo_27 rfl ?_
      refine gf_10_2 X hG h900 q_878 dX10_undo_28 (fun x10 r10 => ?_)
      have b10 := (cn_R _ _ _ _ h900 r10) _ _ mm_u
      refine lv_iload_n X.1 X.2.1 dX10_undo_31 rfl (lv_at hl 1 rfl) ?_
      refine n_sub X dX10_undo_32 (by omega) (by omega) (fun x11 t11 => ?_)
      refine pg_10_2 X hG h900 q_878 dX10_undo_33 (cn (fsM (MM K P N u k0 k1) 2 ((v : Int), (v : Int))) τ) (cf_off hU h900 fsM_ne) (cf_oth fsM_ne) (cw_new h900 (ty_ryes fsM_at (by omega))) (fun H locs hG => ?_)
      refine lv_aload_n X.1 X.2.1 dX10_undo_36 rfl (lv_at hl 0 rfl) ?_
      refine n_sp X dX10_undo_37 (by decide) (by decide) (fun x12 t12 => ?_)
      refine n_sp X dX10_undo_40 (by decide) (by decide) (fun x13 t13 => ?_)
      refine lv_aload_n X.1 X.2.1 dX10_undo_43 rfl (lv_at hl 0 rfl) ?_
      refine gf_10_2 X hG h900 q_878 dX10_undo_44 (fun x14 r14 => ?_)
      have b14 := (cn_R _ _ _ _ h900 r14) _ _ fsM_at
      refine n_mul X dX10_undo_47 (by rw [t13]; omega) (by rw [t13]; omega) (fun x15 t15 => ?_)
      rw [t13] at t15
      refine n_add X dX10_undo_48 (by omega) (by omega) (fun x16 t16 => ?_)
      refine n_ic X dX10_undo_49 (by decide) (by decide) (fun x17 t17 => ?_)
      refine n_sp X dX10_undo_50 (by decide) (by decide) (fun x18 t18 => ?_)
      refine k_cVv X hG (c_X10_copyRow l D cy τ _ hU h900 x16 x17 x18 (278 + 247 * v) (0) (247) (by omega) (by omega) (by omega) (by omega) (by omega) (by omega)) h900 rfl yv_X10_copyRow q_1012 ⟨rfl, rfl⟩ ⟨Nat.le_of_ble_eq_true rfl, Nat.le_of_ble_eq_true rfl⟩ rfl hl.1 rfl (Nat.le_of_ble_eq_true rfl) ⟨Nat.zero_le _, Nat.zero_le _⟩ dX10_undo_53 (fun u20 H locs hG po19 => ?_)
      rw [po19] at hG
      have hG := TG.sub hG (ud_a hv ok.2.2.2)
      refine lv_aload_n X.1 X.2.1 dX10_undo_56 rfl (lv_at hl 0 rfl) ?_
      refine gf_10_0 X hG h900 q_876 dX10_undo_57 (cn_N _ _ _ h900) (fun a21 h21 r21 => ?_)
      refine n_sp X dX10_undo_60 (by decide) (by decide) (fun x22 t22 => ?_)
      refine tg_iald X hG h21 rfl (cI_in (n := 4261) (by omega)) dX10_undo_63 (fun x23 r23 => ?_)
      exact ret _ _ _ _ _ _ hG ⟨⟨v, OKG.to ok (by omega), rfl⟩, trivial⟩ dX10_undo_64
    · refine n_ldc X q_1132 (n := -1000000003) (by decide +kernel) dX10_undo_23 (fun x24 t24 => ?_)
      exact ret _ _ _ _ x24 _ hG ⟨⟨_, ok, rfl⟩, trivial⟩ dX10_undo_25
  · refine n_ldc X q_960 (n := -1000000002) (by decide +kernel) dX10_undo_12 (fun x25 t25 => ?_)
    exact ret _ _ _ _ x25 _ hG ⟨⟨_, ok, rfl⟩, trivial⟩ dX10_undo_14
set_option maxHeartbeats 4000000 in
set_option maxRecDepth 100000 in
theorem c_X10_keep (l : Launch) (D : va_G) (cy : Nat → ClassId) (τ : ty_T) (hU : UQ τ) {K : KT} {P N u : Nat} {k0 k1 : Bool} (ok : OKG K P N u) {a900 : Nat} (h900 : τ a900 = some (0, 10)) (x901 : Int32) : KI l D cy yX10_keep cX10_keep 2 .int (rL 1) τ (cn (MM K P N u k0 k1) τ) [.ref a900, .int x901] (fun r w => GSk K τ P N w ∧ (0 ≤ x901.toInt ∧ x901.toInt ≤ 1 → r.toInt = 1) ∧ (x901.toInt < 0 ∨ 1 < x901.toInt → r.toInt = -1000000001)) := by
  refine k_metI "EdgeEchoesModel" rfl (by decide +kernel) (Nat.le_of_ble_eq_true rfl) (fun _ _ _ => rfl) ?_
  intro p e s m args below meth c Q ls X hG hl ret
  have hl : lv_has ls 2 [(0, .ref a900), (1, .int x901)] := hl
  obtain ⟨⟨⟨n9, m9, n9p⟩, ⟨n13, m13, n13p⟩, m3, m8⟩, ⟨mN, mP, ⟨gG, mG, lG⟩, mL, mF⟩, mO, ⟨mK, mS, mQ, mZ⟩, hN72, hP8, hNP⟩ := id (MM_HB (k0 := k0) (k1 := k1) ok)
  have hu12 := ok.2.2.2
  have g901 := cI_rng x901
  refine lv_iload_n X.1 X.2.1 dX10_keep_0 rfl (lv_at hl 1 rfl) ?_
  refine n_i2l X dX10_keep_1 (fun w1 t1 => ?_)
  refine n_lc X dX10_keep_2 (fun w2 t2 => ?_)
  have t2 : w2.toInt = 0 := t2
  refine n_lc X dX10_keep_3 (fun w3 t3 => ?_)
  have t3 : w3.toInt = 1 := t3
  refine k_cSi X hG (c_X10_in l D cy τ _ cn_N cn_R (cn_F (S := [])) w1 w2 w3 ) ys_X10_in q_957 ⟨rfl, rfl⟩ ⟨Nat.le_of_ble_eq_true rfl, Nat.le_of_ble_eq_true rfl⟩ rfl hl.1 rfl (Nat.le_of_ble_eq_true rfl) ⟨Nat.zero_le _, Nat.zero_le _⟩ dX10_keep_4 (fun x5 u6 H locs hG po4 => ?_)
  obtain ⟨eu6, po4⟩ := po4
  rw [eu6] at hG
  refine n_if_ne (tgt := 13) X dX10_keep_7 (by decide) (fun c7 => ?_) (fun c7 => ?_)
  · rcases (show x901.toInt = 0 ∨ x901.toInt = 1 by omega) with ci | ci
    · refine lv_aload_n X.1 X.2.1 dX10_keep_13 rfl (lv_at hl 0 rfl) ?_
      refine n_ic X dX10_keep_14 (by decide) (by decide) (fun x8 t8 => ?_)
      refine n_sp X dX10_keep_15 (by decide) (by decide) (fun x9 t9 => ?_)
      refine n_sp X dX10_keep_18 (by decide) (by decide) (fun x10 t10 => ?_)
      refine lv_iload_n X.1 X.2.1 dX10_keep_21 rfl (lv_at hl 1 rfl) ?_
      refine n_mul X dX10_keep_22 (by rw [t10]; omega) (by rw [t10]; omega) (fun x11 t11 => ?_)
      rw [t10] at t11
      refine n_add X dX10_keep_23 (by omega) (by omega) (fun x12 t12 => ?_)
      refine n_sp X dX10_keep_24 (by decide) (by decide) (fun x13 t13 => ?_)
      refine k_cVv X hG (c_X10_copyRow l D cy τ _ hU h900 x8 x12 x13 (0) (3242) (247) (by omega) (by omega) (by omega) (by omega) (by omega) (by omega)) h900 rfl yv_X10_copyRow q_1012 ⟨rfl, rfl⟩ ⟨Nat.le_of_ble_eq_true rfl, Nat.le_of_ble_eq_true rfl⟩ rfl hl.1 rfl (Nat.le_of_ble_eq_true rfl) ⟨Nat.zero_le _, Nat.zero_le _⟩ dX10_keep_27 (fun u15 H locs hG po14 => ?_)
      rw [po14] at hG
      have m15 : ∀ j, (cpM (MM K P N u k0 k1) 0 3242 247) 15 j = some (0, 2147483647) := fun j => by rw [cpM_ne (by decide)]; rfl
      have m3c : (cpM (MM K P N u k0 k1) 0 3242 247) 0 3 = some (0, 2147483647) := by rw [cpM_ne (by decide)]; rfl
      refine lv_aload_n X.1 X.2.1 dX10_keep_30 rfl (lv_at hl 0 rfl) ?_
      refine gf_10_5 X hG h900 q_881 dX10_keep_31 (cn_N _ _ _ h900) (fun a16 h16 r16 => ?_)
      refine lv_iload_n X.1 X.2.1 dX10_keep_34 rfl (lv_at hl 1 rfl) ?_
      refine lv_aload_n X.1 X.2.1 dX10_keep_35 rfl (lv_at hl 0 rfl) ?_
      refine gf_10_3 X hG h900 q_879 dX10_keep_36 (fun x17 r17 => ?_)
      have b17 := (cn_R _ _ _ _ h900 r17) _ _ m3c
      refine tg_iasf X hG h16 rfl (cI_in (n := 2) (by omega)) dX10_keep_39 (cn_F (S := [6015]) _ _ _ _ h16 (ty_in (n := 6015) rfl) (ty_ryes (m15 _) (by omega))) (fun H locs hG => ?_)
      refine lv_aload_n X.1 X.2.1 dX10_keep_40 rfl (lv_at hl 0 rfl) ?_
      refine gf_10_4 X hG h900 q_880 dX10_keep_41 (cn_N _ _ _ h900) (fun a18 h18 r18 => ?_)
      refine lv_iload_n X.1 X.2.1 dX10_keep_44 rfl (lv_at hl 1 rfl) ?_
      refine n_ic X dX10_keep_45 (by decide) (by decide) (fun x19 t19 => ?_)
      have i14 : x901.toNatClampNeg = 0 := by have := cI_clamp (x := x901) (by omega); omega
      refine tg_zast X hG h18 rfl (cI_in (n := 2) (by omega)) (by omega) dX10_keep_46 (cn (bsM (cpM (MM K P N u k0 k1) 0 3242 247) 0 (1, 1)) τ) (cw_off hU h18 (by decide) (j0 := 0) bsM_ne) (by rw [i14]; exact cw_oth h18 bsM_ne) (by rw [i14]; exact cw_new h18 (ty_ryes bsM_at (by omega))) (fun H locs hG => ?_)
      refine lv_aload_n X.1 X.2.1 dX10_keep_47 rfl (lv_at hl 0 rfl) ?_
      refine n_ic X dX10_keep_48 (by decide) (by decide) (fun x20 t20 => ?_)
      refine pg_10_2 X hG h900 q_878 dX10_keep_49 (cn (fsM (bsM (cpM (MM K P N u k0 k1) 0 3242 247) 0 (1, 1)) 2 (0, 0)) τ) (cf_off hU h900 fsM_ne) (cf_oth fsM_ne) (cw_new h900 (ty_ryes fsM_at (by omega))) (fun H locs hG => ?_)
      have hG := TG.sub hG (im_k (k0' := true) (k1' := k1) (b := 3242) (i := 0) ok.2.2.2 (Or.inl ⟨rfl, rfl, rfl, rfl⟩))
      refine n_ic X dX10_keep_52 (by decide) (by decide) (fun x21 t21 => ?_)
      exact ret _ _ _ _ x21 _ hG ⟨⟨0, true, k1, OKG.to ok (by omega), rfl⟩, by omega⟩ dX10_keep_53
    · refine lv_aload_n X.1 X.2.1 dX10_keep_13 rfl (lv_at hl 0 rfl) ?_
      refine n_ic X dX10_keep_14 (by decide) (by decide) (fun x22 t22 => ?_)
      refine n_sp X dX10_keep_15 (by decide) (by decide) (fun x23 t23 => ?_)
      refine n_sp X dX10_keep_18 (by decide) (by decide) (fun x24 t24 => ?_)
      refine lv_iload_n X.1 X.2.1 dX10_keep_21 rfl (lv_at hl 1 rfl) ?_
      refine n_mul X dX10_keep_22 (by rw [t24]; omega) (by rw [t24]; omega) (fun x25 t25 => ?_)
      rw [t24] at t25
      refine n_add X dX10_keep_23 (by omega) (by omega) (fun x26 t26 => ?_)
      refine n_sp X dX10_keep_24 (by decide) (by decide) (fun x27 t27 => ?_)
      refine k_cVv X hG (c_X10_copyRow l D cy τ _ hU h900 x22 x26 x27 (0) (3489) (247) (by omega) (by omega) (by omega) (by omega) (by omega) (by omega)) h900 rfl yv_X10_copyRow q_1012 ⟨rfl, rfl⟩ ⟨Nat.le_of_ble_eq_true rfl, Nat.le_of_ble_eq_true rfl⟩ rfl hl.1 rfl (Nat.le_of_ble_eq_true rfl) ⟨Nat.zero_le _, Nat.zero_le _⟩ dX10_keep_27 (fun u29 H locs hG po28 => ?_)
      rw [po28] at hG
      have m15 : ∀ j, (cpM (MM K P N u k0 k1) 0 3489 247) 15 j = some (0, 2147483647) := fun j => by rw [cpM_ne (by decide)]; rfl
      have m3c : (cpM (MM K P N u k0 k1) 0 3489 247) 0 3 = some (0, 2147483647) := by rw [cpM_ne (by decide)]; rfl
      refine lv_aload_n X.1 X.2.1 dX10_keep_30 rfl (lv_at hl 0 rfl) ?_
      refine gf_10_5 X hG h900 q_881 dX10_keep_31 (cn_N _ _ _ h900) (fun a30 h30 r30 => ?_)
      refine lv_iload_n X.1 X.2.1 dX10_keep_34 rfl (lv_at hl 1 rfl) ?_
      refine lv_aload_n X.1 X.2.1 dX10_keep_35 rfl (lv_at hl 0 rfl) ?_
      refine gf_10_3 X hG h900 q_879 dX10_keep_36 (fun x31 r31 => ?_)
      have b31 := (cn_R _ _ _ _ h900 r31) _ _ m3c
      refine tg_iasf X hG h30 rfl (cI_in (n := 2) (by omega)) dX10_keep_39 (cn_F (S := [6015]) _ _ _ _ h30 (ty_in (n := 6015) rfl) (ty_ryes (m15 _) (by omega))) (fun H locs hG => ?_)
      refine lv_aload_n X.1 X.2.1 dX10_keep_40 rfl (lv_at hl 0 rfl) ?_
      refine gf_10_4 X hG h900 q_880 dX10_keep_41 (cn_N _ _ _ h900) (fun a32 h32 r32 => ?_)
      refine lv_iload_n X.1 X.2.1 dX10_keep_44 rfl (lv_at hl 1 rfl) ?_
      refine n_ic X dX10_keep_45 (by decide) (by decide) (fun x33 t33 => ?_)
      have i14 : x901.toNatClampNeg = 1 := by have := cI_clamp (x := x901) (by omega); omega
      refine tg_zast X hG h32 rfl (cI_in (n := 2) (by omega)) (by omega) dX10_keep_46 (cn (bsM (cpM (MM K P N u k0 k1) 0 3489 247) 1 (1, 1)) τ) (cw_off hU h32 (by decide) (j0 := 1) bsM_ne) (by rw [i14]; exact cw_oth h32 bsM_ne) (by rw [i14]; exact cw_new h32 (ty_ryes bsM_at (by omega))) (fun H locs hG => ?_)
      refine lv_aload_n X.1 X.2.1 dX10_keep_47 rfl (lv_at hl 0 rfl) ?_
      refine n_ic X dX10_keep_48 (by decide) (by decide) (fun x34 t34 => ?_)
      refine pg_10_2 X hG h900 q_878 dX10_keep_49 (cn (fsM (bsM (cpM (MM K P N u k0 k1) 0 3489 247) 1 (1, 1)) 2 (0, 0)) τ) (cf_off hU h900 fsM_ne) (cf_oth fsM_ne) (cw_new h900 (ty_ryes fsM_at (by omega))) (fun H locs hG => ?_)
      have hG := TG.sub hG (im_k (k0' := k0) (k1' := true) (b := 3489) (i := 1) ok.2.2.2 (Or.inr ⟨rfl, rfl, rfl, rfl⟩))
      refine n_ic X dX10_keep_52 (by decide) (by decide) (fun x35 t35 => ?_)
      exact ret _ _ _ _ x35 _ hG ⟨⟨0, k0, true, OKG.to ok (by omega), rfl⟩, by omega⟩ dX10_keep_53
  · refine n_ldc X q_1099 (n := -1000000001) (by decide +kernel) dX10_keep_10 (fun x36 t36 => ?_)
    exact ret _ _ _ _ x36 _ hG ⟨⟨_, _, _, ok, rfl⟩, by omega⟩ dX10_keep_12
set_option maxHeartbeats 4000000 in
set_option maxRecDepth 100000 in
theorem c_X10_goBack (l : Launch) (D : va_G) (cy : Nat → ClassId) (τ : ty_T) (hU : UQ τ) {K : KT} {P N u : Nat} {k0 k1 : Bool} (ok : OKG K P N u) {a900 : Nat} (h900 : τ a900 = some (0, 10)) (x901 : Int32) : KI l D cy yX10_goBack cX10_goBack 2 .int (rL 1) τ (cn (MM K P N u k0 k1) τ) [.ref a900, .int x901] (fun r w => GSk K τ P N w ∧ True) := by
  refine k_metI "EdgeEchoesModel" rfl (by decide +kernel) (Nat.le_of_ble_eq_true rfl) (fun _ _ _ => rfl) ?_
  intro p e s m args below meth c Q ls X hG hl ret
  have hl : lv_has ls 2 [(0, .ref a900), (1, .int x901)] := hl
  obtain ⟨⟨⟨n9, m9, n9p⟩, ⟨n13, m13, n13p⟩, m3, m8⟩, ⟨mN, mP, ⟨gG, mG, lG⟩, mL, mF⟩, mO, ⟨mK, mS, mQ, mZ⟩, hN72, hP8, hNP⟩ := id (MM_HB (k0 := k0) (k1 := k1) ok)
  have hu12 := ok.2.2.2
  have g901 := cI_rng x901
  refine lv_iload_n X.1 X.2.1 dX10_goBack_0 rfl (lv_at hl 1 rfl) ?_
  refine n_i2l X dX10_goBack_1 (fun w1 t1 => ?_)
  refine n_lc X dX10_goBack_2 (fun w2 t2 => ?_)
  have t2 : w2.toInt = 0 := t2
  refine n_lc X dX10_goBack_3 (fun w3 t3 => ?_)
  have t3 : w3.toInt = 1 := t3
  refine k_cSi X hG (c_X10_in l D cy τ _ cn_N cn_R (cn_F (S := [])) w1 w2 w3 ) ys_X10_in q_957 ⟨rfl, rfl⟩ ⟨Nat.le_of_ble_eq_true rfl, Nat.le_of_ble_eq_true rfl⟩ rfl hl.1 rfl (Nat.le_of_ble_eq_true rfl) ⟨Nat.zero_le _, Nat.zero_le _⟩ dX10_goBack_4 (fun x5 u6 H locs hG po4 => ?_)
  obtain ⟨eu6, po4⟩ := po4
  rw [eu6] at hG
  refine n_if_ne (tgt := 13) X dX10_goBack_7 (by decide) (fun c7 => ?_) (fun c7 => ?_)
  · rcases (show x901.toInt = 0 ∨ x901.toInt = 1 by omega) with ci | ci
    · refine lv_aload_n X.1 X.2.1 dX10_goBack_13 rfl (lv_at hl 0 rfl) ?_
      refine gf_10_4 X hG h900 q_880 dX10_goBack_14 (cn_N _ _ _ h900) (fun a8 h8 r8 => ?_)
      refine lv_iload_n X.1 X.2.1 dX10_goBack_17 rfl (lv_at hl 1 rfl) ?_
      refine tg_zald X hG h8 rfl (cI_in (n := 2) (by omega)) dX10_goBack_18 (fun x9 b9 r9 => ?_)
      have b9 := cI_10 b9
      have i14 : x901.toNatClampNeg = 0 := by have := cI_clamp (x := x901) (by omega); omega
      rw [i14] at r9
      have f9 := (cn_R _ _ _ _ h8 r9) (biM k0) (biM k0) rfl
      refine n_if_ne (tgt := 25) X dX10_goBack_19 (by decide) (fun c10 => ?_) (fun c10 => ?_)
      · have hk : k0 = true := by cases hq : k0 with | true => rfl | false => (rw [hq] at f9; exact absurd (show x9.toInt = 0 by have : biM false = 0 := rfl; omega) c10)
        refine lv_aload_n X.1 X.2.1 dX10_goBack_25 rfl (lv_at hl 0 rfl) ?_
        refine n_sp X dX10_goBack_26 (by decide) (by decide) (fun x11 t11 => ?_)
        refine n_sp X dX10_goBack_29 (by decide) (by decide) (fun x12 t12 => ?_)
        refine lv_iload_n X.1 X.2.1 dX10_goBack_32 rfl (lv_at hl 1 rfl) ?_
        refine n_mul X dX10_goBack_33 (by rw [t12]; omega) (by rw [t12]; omega) (fun x13 t13 => ?_)
        rw [t12] at t13
        refine n_add X dX10_goBack_34 (by omega) (by omega) (fun x14 t14 => ?_)
        refine n_ic X dX10_goBack_35 (by decide) (by decide) (fun x15 t15 => ?_)
        refine n_sp X dX10_goBack_36 (by decide) (by decide) (fun x16 t16 => ?_)
        refine k_cVv X hG (c_X10_copyRow l D cy τ _ hU h900 x14 x15 x16 (3242) (0) (247) (by omega) (by omega) (by omega) (by omega) (by omega) (by omega)) h900 rfl yv_X10_copyRow q_1012 ⟨rfl, rfl⟩ ⟨Nat.le_of_ble_eq_true rfl, Nat.le_of_ble_eq_true rfl⟩ rfl hl.1 rfl (Nat.le_of_ble_eq_true rfl) ⟨Nat.zero_le _, Nat.zero_le _⟩ dX10_goBack_39 (fun u18 H locs hG po17 => ?_)
        rw [po17] at hG
        have m15 : ∀ j, (cpM (MM K P N u k0 k1) 3242 0 247) 15 j = some (0, 2147483647) := fun j => by rw [cpM_ne (by decide)]; rfl
        have m3c : (cpM (MM K P N u k0 k1) 3242 0 247) 0 3 = some (0, 2147483647) := by rw [cpM_ne (by decide)]; rfl
        refine lv_aload_n X.1 X.2.1 dX10_goBack_42 rfl (lv_at hl 0 rfl) ?_
        refine lv_aload_n X.1 X.2.1 dX10_goBack_43 rfl (lv_at hl 0 rfl) ?_
        refine gf_10_5 X hG h900 q_881 dX10_goBack_44 (cn_N _ _ _ h900) (fun a19 h19 r19 => ?_)
        refine lv_iload_n X.1 X.2.1 dX10_goBack_47 rfl (lv_at hl 1 rfl) ?_
        refine tg_iald X hG h19 rfl (cI_in (n := 2) (by omega)) dX10_goBack_48 (fun x20 r20 => ?_)
        have b20 := (cn_R _ _ _ _ h19 r20) _ _ (m15 _)
        refine pf_10_3 X hG h900 q_879 dX10_goBack_49 (cn_F (S := [1003]) _ _ _ _ h900 (ty_in (n := 1003) rfl) (ty_ryes m3c (by omega))) (fun H locs hG => ?_)
        refine lv_aload_n X.1 X.2.1 dX10_goBack_52 rfl (lv_at hl 0 rfl) ?_
        refine n_ic X dX10_goBack_53 (by decide) (by decide) (fun x21 t21 => ?_)
        refine pg_10_2 X hG h900 q_878 dX10_goBack_54 (cn (fsM (cpM (MM K P N u k0 k1) 3242 0 247) 2 (0, 0)) τ) (cf_off hU h900 fsM_ne) (cf_oth fsM_ne) (cw_new h900 (ty_ryes fsM_at (by omega))) (fun H locs hG => ?_)
        have hG := TG.sub hG (gb_k ok.2.2.2 (Or.inl ⟨rfl, hk⟩))
        refine n_ic X dX10_goBack_57 (by decide) (by decide) (fun x22 t22 => ?_)
        exact ret _ _ _ _ x22 _ hG ⟨⟨0, k0, k1, OKG.to ok (by omega), rfl⟩, trivial⟩ dX10_goBack_58
      · refine n_ldc X q_1132 (n := -1000000003) (by decide +kernel) dX10_goBack_22 (fun x23 t23 => ?_)
        exact ret _ _ _ _ x23 _ hG ⟨⟨u, k0, k1, ok, rfl⟩, trivial⟩ dX10_goBack_24
    · refine lv_aload_n X.1 X.2.1 dX10_goBack_13 rfl (lv_at hl 0 rfl) ?_
      refine gf_10_4 X hG h900 q_880 dX10_goBack_14 (cn_N _ _ _ h900) (fun a24 h24 r24 => ?_)
      refine lv_iload_n X.1 X.2.1 dX10_goBack_17 rfl (lv_at hl 1 rfl) ?_
      refine tg_zald X hG h24 rfl (cI_in (n := 2) (by omega)) dX10_goBack_18 (fun x25 b25 r25 => ?_)
      have b25 := cI_10 b25
      have i14 : x901.toNatClampNeg = 1 := by have := cI_clamp (x := x901) (by omega); omega
      rw [i14] at r25
      have f25 := (cn_R _ _ _ _ h24 r25) (biM k1) (biM k1) rfl
      refine n_if_ne (tgt := 25) X dX10_goBack_19 (by decide) (fun c26 => ?_) (fun c26 => ?_)
      · have hk : k1 = true := by cases hq : k1 with | true => rfl | false => (rw [hq] at f25; exact absurd (show x25.toInt = 0 by have : biM false = 0 := rfl; omega) c26)
        refine lv_aload_n X.1 X.2.1 dX10_goBack_25 rfl (lv_at hl 0 rfl) ?_
        refine n_sp X dX10_goBack_26 (by decide) (by decide) (fun x27 t27 => ?_)
        refine n_sp X dX10_goBack_29 (by decide) (by decide) (fun x28 t28 => ?_)
        refine lv_iload_n X.1 X.2.1 dX10_goBack_32 rfl (lv_at hl 1 rfl) ?_
        refine n_mul X dX10_goBack_33 (by rw [t28]; omega) (by rw [t28]; omega) (fun x29 t29 => ?_)
        rw [t28] at t29
        refine n_add X dX10_goBack_34 (by omega) (by omega) (fun x30 t30 => ?_)
        refine n_ic X dX10_goBack_35 (by decide) (by decide) (fun x31 t31 => ?_)
        refine n_sp X dX10_goBack_36 (by decide) (by decide) (fun x32 t32 => ?_)
        refine k_cVv X hG (c_X10_copyRow l D cy τ _ hU h900 x30 x31 x32 (3489) (0) (247) (by omega) (by omega) (by omega) (by omega) (by omega) (by omega)) h900 rfl yv_X10_copyRow q_1012 ⟨rfl, rfl⟩ ⟨Nat.le_of_ble_eq_true rfl, Nat.le_of_ble_eq_true rfl⟩ rfl hl.1 rfl (Nat.le_of_ble_eq_true rfl) ⟨Nat.zero_le _, Nat.zero_le _⟩ dX10_goBack_39 (fun u34 H locs hG po33 => ?_)
        rw [po33] at hG
        have m15 : ∀ j, (cpM (MM K P N u k0 k1) 3489 0 247) 15 j = some (0, 2147483647) := fun j => by rw [cpM_ne (by decide)]; rfl
        have m3c : (cpM (MM K P N u k0 k1) 3489 0 247) 0 3 = some (0, 2147483647) := by rw [cpM_ne (by decide)]; rfl
        refine lv_aload_n X.1 X.2.1 dX10_goBack_42 rfl (lv_at hl 0 rfl) ?_
        refine lv_aload_n X.1 X.2.1 dX10_goBack_43 rfl (lv_at hl 0 rfl) ?_
        refine gf_10_5 X hG h900 q_881 dX10_goBack_44 (cn_N _ _ _ h900) (fun a35 h35 r35 => ?_)
        refine lv_iload_n X.1 X.2.1 dX10_goBack_47 rfl (lv_at hl 1 rfl) ?_
        refine tg_iald X hG h35 rfl (cI_in (n := 2) (by omega)) dX10_goBack_48 (fun x36 r36 => ?_)
        have b36 := (cn_R _ _ _ _ h35 r36) _ _ (m15 _)
        refine pf_10_3 X hG h900 q_879 dX10_goBack_49 (cn_F (S := [1003]) _ _ _ _ h900 (ty_in (n := 1003) rfl) (ty_ryes m3c (by omega))) (fun H locs hG => ?_)
        refine lv_aload_n X.1 X.2.1 dX10_goBack_52 rfl (lv_at hl 0 rfl) ?_
        refine n_ic X dX10_goBack_53 (by decide) (by decide) (fun x37 t37 => ?_)
        refine pg_10_2 X hG h900 q_878 dX10_goBack_54 (cn (fsM (cpM (MM K P N u k0 k1) 3489 0 247) 2 (0, 0)) τ) (cf_off hU h900 fsM_ne) (cf_oth fsM_ne) (cw_new h900 (ty_ryes fsM_at (by omega))) (fun H locs hG => ?_)
        have hG := TG.sub hG (gb_k ok.2.2.2 (Or.inr ⟨rfl, hk⟩))
        refine n_ic X dX10_goBack_57 (by decide) (by decide) (fun x38 t38 => ?_)
        exact ret _ _ _ _ x38 _ hG ⟨⟨0, k0, k1, OKG.to ok (by omega), rfl⟩, trivial⟩ dX10_goBack_58
      · refine n_ldc X q_1132 (n := -1000000003) (by decide +kernel) dX10_goBack_22 (fun x39 t39 => ?_)
        exact ret _ _ _ _ x39 _ hG ⟨⟨u, k0, k1, ok, rfl⟩, trivial⟩ dX10_goBack_24
  · refine n_ldc X q_1099 (n := -1000000001) (by decide +kernel) dX10_goBack_10 (fun x40 t40 => ?_)
    exact ret _ _ _ _ x40 _ hG ⟨⟨_, _, _, ok, rfl⟩, trivial⟩ dX10_goBack_12
