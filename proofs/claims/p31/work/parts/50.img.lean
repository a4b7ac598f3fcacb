set_option maxHeartbeats 4000000 in
set_option maxRecDepth 100000 in
theorem c_X10_undo (l : Launch) (D : va_G) (cy : Nat → ClassId) (τ : ty_T) (hU : UQ τ) {K : KT} {P N u : Nat} {k0 k1 : Bool} (ok : OKG K P N u) {a900 : Nat} (h900 : τ a900 = some (0, 10)) (x901 : Int32) : KI l D cy yX10_undo cX10_undo 2 .int (rL 1) τ (cn (MM K P N u k0 k1) τ) [.ref a900, .int x901] (fun r w => GS K τ P N k0 k1 w ∧ True) := by
  refine k_metI "EdgeEchoesModel" rfl (by decide +kernel) (Nat.le_of_ble_eq_true rfl) (fun _ _ _ => rfl) ?_
  intro p e s m args below meth c Q ls X hG hl ret
  have hl : lv_has ls 2 [(0, .ref a900), (1, .int x901)] := hl
  obtain ⟨⟨⟨n9, m9, n9p⟩, ⟨n13, m13, n13p⟩, ⟨n3, m3, n3p⟩, m8⟩, ⟨mN, mP, ⟨gG, mG, lG⟩, mL, mF⟩, mO, ⟨mK, mS, mQ, mZ⟩, hN72, hP8, hNP⟩ := id (MM_HB (k0 := k0) (k1 := k1) ok)
  have hu12 := ok.2.2.2
  have g901 := cI_rng x901
  refine lv_iload_n X.1 X.2.1 dX10_undo_0 rfl (lv_at hl 1 rfl) ?_
  refine n_i2l X dX10_undo_1 (fun w1 t1 => ?_)
  refine n_lc X dX10_undo_2 (fun w2 t2 => ?_)
  have t2 : w2.toInt = 1 := t2
  refine n_ldl X q_1203 (n := 12) (by decide +kernel) dX10_undo_3 (fun w3 e3 t3 => ?_)
  refine k_cSi X hG (c_X10_in l D cy τ _ cn_N cn_R (cn_F (S := [])) w1 w2 w3 ) ys_X10_in q_957 ⟨rfl, rfl⟩ ⟨Nat.le_of_ble_eq_true rfl, Nat.le_of_ble_eq_true rfl⟩ rfl hl.1 rfl (Nat.le_of_ble_eq_true rfl) ⟨Nat.zero_le _, Nat.zero_le _⟩ dX10_undo_6 (fun x5 u6 H locs hG po4 => ?_)
  obtain ⟨eu6, po4⟩ := po4
  rw [eu6] at hG
  refine n_if_ne (tgt := 15) X dX10_undo_9 (by decide) (fun c7 => ?_) (fun c7 => ?_)
  · refine lv_iload_n X.1 X.2.1 dX10_undo_15 rfl (lv_at hl 1 rfl) ?_
    refine lv_aload_n X.1 X.2.1 dX10_undo_16 rfl (lv_at hl 0 rfl) ?_
    refine gf_10_2 X hG h900 q_878 dX10_undo_17 (fun x8 r8 => ?_)
    have b8 := (cn_R _ _ _ _ h900 r8) _ _ mm_u
    refine n_icmp_le (tgt := 26) X dX10_undo_20 (by decide) (fun c9 => ?_) (fun c9 => ?_)
    · obtain ⟨v, ev, hv⟩ : ∃ v : Nat, (v : Int) = (u : Int) - x901.toInt ∧ v < u := ⟨u - x901.toInt.toNat, by omega, by omega⟩
      refine lv_aload_n X.1 X.2.1 dX10_undo_26 rfl (lv_at hl 0 rfl) ?_
      refine lv_dup X.1 X.2.1 dX10_undo_27 rfl ?_
      refine gf_10_2 X hG h900 q_878 dX10_undo_28 (fun x10 r10 => ?_)
      have b10 := (cn_R _ _ _ _ h900 r10) _ _ mm_u
      refine lv_iload_n X.1 X.2.1 dX10_undo_31 rfl (lv_at hl 1 rfl) ?_
      refine n_sub X dX10_undo_32 (by omega) (by omega) (fun x11 t11 => ?_)
      refine pg_10_2 X hG h900 q_878 dX10_undo_33 (cn (fsM (MM K P N u k0 k1) 2 ((v : Int), (v : Int))) τ) (cf_off hU h900 fsM_ne) (cf_oth fsM_ne) (cw_new h900 (ty_ryes fsM_at (by omega))) (fun H locs hG => ?_)
      refine lv_aload_n X.1 X.2.1 dX10_undo_36 rfl (lv_at hl 0 rfl) ?_
      refine n_sp X dX10_undo_37 (by decide) (by decide) (fun x12 t12 => ?_)
      refine n_sp X dX10_undo_40 (by decide) (by decide) (fun x13 t13 => ?_)
      refine lv_aload_n X.1 X.2.1 dX10_undo_43 rfl (lv_at hl 0 rfl) ?_
      refine gf_10_2 X hG h900 q_878 dX10_undo_44 (fun x14 r14 => ?_)
      have b14 := (cn_R _ _ _ _ h900 r14) _ _ fsM_at
      refine n_mul X dX10_undo_47 (by rw [t13]; omega) (by rw [t13]; omega) (fun x15 t15 => ?_)
      rw [t13] at t15
      refine n_add X dX10_undo_48 (by omega) (by omega) (fun x16 t16 => ?_)
      refine n_ic X dX10_undo_49 (by decide) (by decide) (fun x17 t17 => ?_)
      refine n_sp X dX10_undo_50 (by decide) (by decide) (fun x18 t18 => ?_)
      refine k_cVv X hG (c_X10_copyRow l D cy τ _ hU h900 x16 x17 x18 (278 + 247 * v) (0) (247) (by omega) (by omega) (by omega) (by omega) (by omega) (by omega)) h900 rfl yv_X10_copyRow q_1012 ⟨rfl, rfl⟩ ⟨Nat.le_of_ble_eq_true rfl, Nat.le_of_ble_eq_true rfl⟩ rfl hl.1 rfl (Nat.le_of_ble_eq_true rfl) ⟨Nat.zero_le _, Nat.zero_le _⟩ dX10_undo_53 (fun u20 H locs hG po19 => ?_)
      rw [po19] at hG
      have hG := TG.sub hG (ud_a hv ok.2.2.2)
      refine lv_aload_n X.1 X.2.1 dX10_undo_56 rfl (lv_at hl 0 rfl) ?_
      refine gf_10_0 X hG h900 q_876 dX10_undo_57 (cn_N _ _ _ h900) (fun a21 h21 r21 => ?_)
      refine n_sp X dX10_undo_60 (by decide) (by decide) (fun x22 t22 => ?_)
      refine tg_iald X hG h21 rfl (cI_in (n := 4261) (by omega)) dX10_undo_63 (fun x23 r23 => ?_)
      exact ret _ _ _ _ _ _ hG ⟨⟨v, OKG.to ok (by omega), rfl⟩, trivial⟩ dX10_undo_64
    · refine n_ldc X q_1132 (n := -1000000003) (by decide +kernel) dX10_undo_23 (fun x24 t24 => ?_)
      exact ret _ _ _ _ x24 _ hG ⟨⟨_, ok, rfl⟩, trivial⟩ dX10_undo_25
  · refine n_ldc X q_960 (n := -1000000002) (by decide +kernel) dX10_undo_12 (fun x25 t25 => ?_)
    exact ret _ _ _ _ x25 _ hG ⟨⟨_, ok, rfl⟩, trivial⟩ dX10_undo_14
