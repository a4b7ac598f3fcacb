set_option maxHeartbeats 4000000 in
set_option maxRecDepth 100000 in
theorem e_X10_drifts (l : Launch) (D : va_G) (cy : Nat → ClassId) (τ : ty_T) (hU : UQ τ) {M : md_T} {P N : Nat} (hB0 : HB M P N) (hL0 : LV M P 0) {v : Int32} (hv : 0 ≤ v.toInt) {B : Nat} (hBB : B ≤ 1000000) {a900 : Nat} (h900 : τ a900 = some (0, 10)) : KV l D cy yX10_drifts cX10_drifts 3 (rL 5) τ (cn (SDM M v B) τ) [.ref a900] (fun w => w = cn (SDM M (dr1 N v) (B + 1)) τ) := by
  have lg := lcg_0 (v := v)
  have lg2 := lcg_0 (v := lcg v)
  have hd1 : (lcg v).toInt / 65536 % 8 = 3 ∧ 1 < N → dr1 N v = lcg (lcg v) := fun h => if_pos h
  have hd2 : ¬ ((lcg v).toInt / 65536 % 8 = 3 ∧ 1 < N) → dr1 N v = lcg v := fun h => if_neg h
  have dg : 0 ≤ (dr1 N v).toInt := by unfold dr1; split; exact lg2; exact lg
  generalize dr1 N v = dv at hd1 hd2 dg ⊢
  generalize elc : lcg v = lv at hd1 hd2 lg lg2
  generalize elc2 : lcg lv = lw at hd1 lg2
  refine k_metV "EdgeEchoesModel" rfl (by decide +kernel) (Nat.le_of_ble_eq_true rfl) ?_
  intro p e s m args below meth c Q ls X hG hl ret
  have hl : lv_has ls 3 [(0, .ref a900)] := hl
  have hB := SD_HB (B := B) hB0 lg
  obtain ⟨⟨⟨n9, m9, n9p⟩, ⟨n13, m13, n13p⟩, ⟨n3, m3, n3p⟩, m8⟩, ⟨mN, mP, ⟨gG, mG, lG⟩, mL, mF⟩, mO, ⟨mK, mS, mQ, mZ⟩, hN72, hP8, hNP⟩ := id hB
  refine lv_aload_n X.1 X.2.1 dX10_drifts_0 rfl (lv_at hl 0 rfl) ?_
  refine n_bp X dX10_drifts_1 (by decide) (by decide) (fun x1 t1 => ?_)
  refine k_cVi X hG (e_X10_draw l D cy τ hU hB0 hv h900 x1 (by omega)) h900 rfl yv_X10_draw q_1191 ⟨rfl, rfl⟩ ⟨Nat.le_of_ble_eq_true rfl, Nat.le_of_ble_eq_true rfl⟩ rfl hl.1 rfl (Nat.le_of_ble_eq_true rfl) ⟨Nat.zero_le _, Nat.zero_le _⟩ dX10_drifts_3 (fun x3 u4 H locs hG po2 => ?_)
  obtain ⟨eu4, po2⟩ := po2
  rw [elc] at eu4 po2
  have po2 : x3.toInt = lv.toInt / 65536 % 8 := by rw [po2, t1]
  rw [eu4] at hG
  refine lv_istore_n (lv' := [(1, .int x3), (0, .ref a900)]) X.1 X.2.1 dX10_drifts_6 rfl hl (by decide) rfl (fun ls hl => ?_)
  refine lv_aload_n X.1 X.2.1 dX10_drifts_7 rfl (lv_at hl 1 rfl) ?_
  refine gf_10_0 X hG h900 q_876 dX10_drifts_8 (cn_N _ _ _ h900) (fun a5 h5 r5 => ?_)
  refine n_sp X dX10_drifts_11 (by decide) (by decide) (fun x6 t6 => ?_)
  refine lv_iload_n X.1 X.2.1 dX10_drifts_14 rfl (lv_at hl 0 rfl) ?_
  refine n_ic X dX10_drifts_15 (by decide) (by decide) (fun x7 t7 => ?_)
  have J40 : ∀ (H : Heap) (locs : List Loc) (ls : Array Slot) (x8 : Int32), TG D cy τ (cn (SDM M lv B) τ) (ty_d τ) s.heap H locs → lv_has ls 3 [(0, .ref a900), (1, .int x3)] → W p l e (rL 5) s m args below meth c H locs 0 0 Q (F0 m 40 ls [.int x8, .int x6, .ref a5]) := by
    intro H locs ls x8 hG hl
    have gx8 := cI_rng x8
    refine tg_iasf X hG h5 rfl (cI_in (n := 4261) (by omega)) dX10_drifts_40 (cn_F (S := [6010]) _ _ _ _ h5 (ty_in (n := 6010) rfl) (ty_rno (wFr hB (by omega)))) (fun H locs hG => ?_)
    refine lv_iload_n X.1 X.2.1 dX10_drifts_41 rfl (lv_at hl 1 rfl) ?_
    refine n_ic X dX10_drifts_42 (by decide) (by decide) (fun x9 t9 => ?_)
    have J103 : ∀ (H : Heap) (locs : List Loc) (ls : Array Slot), TG D cy τ (cn (SDM M dv B) τ) (ty_d τ) s.heap H locs → lv_has ls 3 [(0, .ref a900), (1, .int x3)] → W p l e (rL 5) s m args below meth c H locs 0 0 Q (F0 m 103 ls []) := by
      intro H locs ls hG hl
      refine lv_aload_n X.1 X.2.1 dX10_drifts_103 rfl (lv_at hl 0 rfl) ?_
      refine n_ic X dX10_drifts_104 (by decide) (by decide) (fun x10 t10 => ?_)
      refine n_ic X dX10_drifts_105 (by decide) (by decide) (fun x11 t11 => ?_)
      refine k_cVv X hG (e_X10_ticks0 l D cy τ hU hB0 hL0 dg hBB h900 x10 (by omega) x11 (by omega)) h900 rfl yv_X10_ticks q_1046 ⟨rfl, rfl⟩ ⟨Nat.le_of_ble_eq_true rfl, Nat.le_of_ble_eq_true rfl⟩ rfl hl.1 rfl (Nat.le_of_ble_eq_true rfl) ⟨Nat.zero_le _, Nat.zero_le _⟩ dX10_drifts_106 (fun u14 H locs hG po12 => ?_)
      rw [po12, show x11.toInt.toNat = 1 by omega] at hG
      exact ret _ _ _ _ _ hG rfl dX10_drifts_109
    refine n_icmp_ne (tgt := 103) X dX10_drifts_43 (by decide) (fun c15 => ?_) (fun c15 => ?_)
    · have ed : dv = lv := hd2 (fun z => c15 (by omega))
      rw [← ed] at hG
      exact J103 _ _ _  hG (lv_sub hl [0, 1] rfl)
    · refine lv_aload_n X.1 X.2.1 dX10_drifts_46 rfl (lv_at hl 0 rfl) ?_
      refine gf_10_0 X hG h900 q_876 dX10_drifts_47 (cn_N _ _ _ h900) (fun a16 h16 r16 => ?_)
      refine n_sp X dX10_drifts_50 (by decide) (by decide) (fun x17 t17 => ?_)
      refine tg_iald X hG h16 rfl (cI_in (n := 4261) (by omega)) dX10_drifts_53 (fun x18 r18 => ?_)
      have b18 := rdR (cn_R _ _ _ _ h16 r18) (n := 258) (by omega) mN
      refine n_ic X dX10_drifts_54 (by decide) (by decide) (fun x19 t19 => ?_)
      refine n_icmp_le (tgt := 103) X dX10_drifts_55 (by decide) (fun c20 => ?_) (fun c20 => ?_)
      · have ed : dv = lv := hd2 (fun z => by omega)
        rw [← ed] at hG
        exact J103 _ _ _  hG (lv_sub hl [0, 1] rfl)
      · have ed : dv = lw := hd1 ⟨by omega, by omega⟩
        have hB2 := SD_HB (B := B) hB0 lg2
        refine n_ic X dX10_drifts_58 (by decide) (by decide) (fun x21 t21 => ?_)
        refine lv_aload_n X.1 X.2.1 dX10_drifts_59 rfl (lv_at hl 0 rfl) ?_
        refine lv_aload_n X.1 X.2.1 dX10_drifts_60 rfl (lv_at hl 0 rfl) ?_
        refine gf_10_0 X hG h900 q_876 dX10_drifts_61 (cn_N _ _ _ h900) (fun a22 h22 r22 => ?_)
        refine n_sp X dX10_drifts_64 (by decide) (by decide) (fun x23 t23 => ?_)
        refine tg_iald X hG h22 rfl (cI_in (n := 4261) (by omega)) dX10_drifts_67 (fun x24 r24 => ?_)
        have b24 := rdR (cn_R _ _ _ _ h22 r24) (n := 258) (by omega) mN
        refine n_ic X dX10_drifts_68 (by decide) (by decide) (fun x25 t25 => ?_)
        refine n_sub X dX10_drifts_69 (by omega) (by omega) (fun x26 t26 => ?_)
        refine k_cVi X hG (e_X10_draw l D cy τ hU hB0 lg h900 x26 (by omega)) h900 rfl yv_X10_draw q_1191 ⟨rfl, rfl⟩ ⟨Nat.le_of_ble_eq_true rfl, Nat.le_of_ble_eq_true rfl⟩ rfl hl.1 rfl (Nat.le_of_ble_eq_true rfl) ⟨Nat.zero_le _, Nat.zero_le _⟩ dX10_drifts_70 (fun x28 u29 H locs hG po27 => ?_)
        obtain ⟨eu29, po27⟩ := po27
        rw [elc2] at eu29 po27
        have p27a := Int.emod_nonneg (lw.toInt / 65536) (show x26.toInt ≠ 0 by omega)
        have p27b := Int.emod_lt_of_pos (lw.toInt / 65536) (show 0 < x26.toInt by omega)
        rw [← po27] at p27a p27b
        clear po27
        rw [eu29] at hG
        refine n_add X dX10_drifts_73 (by omega) (by omega) (fun x30 t30 => ?_)
        refine lv_istore_n (lv' := [(2, .int x30), (0, .ref a900), (1, .int x3)]) X.1 X.2.1 dX10_drifts_74 rfl hl (by decide) rfl (fun ls hl => ?_)
        refine lv_aload_n X.1 X.2.1 dX10_drifts_75 rfl (lv_at hl 1 rfl) ?_
        refine gf_10_0 X hG h900 q_876 dX10_drifts_76 (cn_N _ _ _ h900) (fun a31 h31 r31 => ?_)
        refine n_sp X dX10_drifts_79 (by decide) (by decide) (fun x32 t32 => ?_)
        refine lv_iload_n X.1 X.2.1 dX10_drifts_82 rfl (lv_at hl 0 rfl) ?_
        refine n_add X dX10_drifts_83 (by omega) (by omega) (fun x33 t33 => ?_)
        refine lv_aload_n X.1 X.2.1 dX10_drifts_84 rfl (lv_at hl 1 rfl) ?_
        refine gf_10_0 X hG h900 q_876 dX10_drifts_85 (cn_N _ _ _ h900) (fun a34 h34 r34 => ?_)
        refine n_sp X dX10_drifts_88 (by decide) (by decide) (fun x35 t35 => ?_)
        refine lv_iload_n X.1 X.2.1 dX10_drifts_91 rfl (lv_at hl 0 rfl) ?_
        refine n_add X dX10_drifts_92 (by omega) (by omega) (fun x36 t36 => ?_)
        refine tg_iald X hG h34 rfl (cI_in (n := 4261) (by omega)) dX10_drifts_93 (fun x37 r37 => ?_)
        have J102 : ∀ (H : Heap) (locs : List Loc) (ls : Array Slot) (x38 : Int32), (0 ≤ x38.toInt ∧ x38.toInt ≤ 1) → TG D cy τ (cn (SDM M lw B) τ) (ty_d τ) s.heap H locs → lv_has ls 3 [(0, .ref a900), (1, .int x3), (2, .int x30)] → W p l e (rL 5) s m args below meth c H locs 0 0 Q (F0 m 102 ls [.int x38, .int x33, .ref a31]) := by
          intro H locs ls x38 bx38 hG hl
          refine tg_iasf X hG h31 rfl (cI_in (n := 4261) (by omega)) dX10_drifts_102 (cn_F (S := [6010]) _ _ _ _ h31 (ty_in (n := 6010) rfl) (ty_rno (wFr hB2 (by omega)))) (fun H locs hG => ?_)
          rw [← ed] at hG
          exact J103 _ _ _  hG (lv_sub hl [0, 1] rfl)
        refine n_if_ne (tgt := 101) X dX10_drifts_94 (by decide) (fun c39 => ?_) (fun c39 => ?_)
        · refine n_ic X dX10_drifts_101 (by decide) (by decide) (fun x40 t40 => ?_)
          exact J102 _ _ _ x40 (by omega) hG (lv_sub hl [1, 2, 0] rfl)
        · refine n_ic X dX10_drifts_97 (by decide) (by decide) (fun x41 t41 => ?_)
          refine lv_goto (tgt := 102) X.1 X.2.1 dX10_drifts_98 (by decide) ?_
          exact J102 _ _ _ x41 (by omega) hG (lv_sub hl [1, 2, 0] rfl)
  refine n_icmp_ge (tgt := 23) X dX10_drifts_16 (by decide) (fun c42 => ?_) (fun c42 => ?_)
  · refine lv_iload_n X.1 X.2.1 dX10_drifts_23 rfl (lv_at hl 0 rfl) ?_
    refine n_ic X dX10_drifts_24 (by decide) (by decide) (fun x43 t43 => ?_)
    refine n_icmp_ne (tgt := 32) X dX10_drifts_25 (by decide) (fun c44 => ?_) (fun c44 => ?_)
    · refine lv_aload_n X.1 X.2.1 dX10_drifts_32 rfl (lv_at hl 1 rfl) ?_
      refine gf_10_0 X hG h900 q_876 dX10_drifts_33 (cn_N _ _ _ h900) (fun a45 h45 r45 => ?_)
      refine n_sp X dX10_drifts_36 (by decide) (by decide) (fun x46 t46 => ?_)
      refine tg_iald X hG h45 rfl (cI_in (n := 4261) (by omega)) dX10_drifts_39 (fun x47 r47 => ?_)
      exact J40 _ _ _ x47 hG (lv_sub hl [1, 0] rfl)
    · refine n_ic X dX10_drifts_28 (by decide) (by decide) (fun x48 t48 => ?_)
      refine lv_goto (tgt := 40) X.1 X.2.1 dX10_drifts_29 (by decide) ?_
      exact J40 _ _ _ x48 hG (lv_sub hl [1, 0] rfl)
  · refine n_ic X dX10_drifts_19 (by decide) (by decide) (fun x49 t49 => ?_)
    refine lv_goto (tgt := 40) X.1 X.2.1 dX10_drifts_20 (by decide) ?_
    exact J40 _ _ _ x49 hG (lv_sub hl [1, 0] rfl)
