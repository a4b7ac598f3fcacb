set_option maxHeartbeats 4000000 in
set_option maxRecDepth 100000 in
theorem c_X10_readsGate (l : Launch) (D : va_G) (cy : Nat → ClassId) (τ : ty_T) (hU : UQ τ) {M0 : md_T} {Lg lo pc gc : Nat} {f : Nat → Nat} (h0 : M0k M0) (hL : Lg ≤ 240) (hp : pc ≤ 8) (hg : gc ≤ 6) (hf : ∀ i, f i ≤ 9) {a900 : Nat} (h900 : τ a900 = some (0, 10)) : KI l D cy yX10_readsGate cX10_readsGate 2 .boolean (rL 3) τ (cn (RMM M0 Lg lo pc gc f) τ) [.ref a900] (fun r u => RDS τ M0 Lg lo u ∧ (r.toInt = 0 ∨ r.toInt = 1)) := by
  refine k_metI "EdgeEchoesModel" rfl (by decide +kernel) (Nat.le_of_ble_eq_true rfl) (fun r u h => (cI_nar (cI_01 h.2)).1) ?_
  intro p e s m args below meth c Q ls X hG hl ret
  have hl : lv_has ls 2 [(0, .ref a900)] := hl
  have hR7 := RMM_hr (lo := lo) (pc := pc) (gc := gc) (f := f) h0 hL
  have hRw := RMM_rw (M0 := M0) (Lg := Lg) (lo := lo) (gc := gc) (f := f) hp
  obtain ⟨m7, m16, m17, m18, m19, m20, mT, hLg⟩ := id hR7
  obtain ⟨w27, w28, w29, w30, w31, w43⟩ := id hRw
  refine lv_aload_n X.1 X.2.1 dX10_readsGate_0 rfl (lv_at hl 0 rfl) ?_
  refine gf_10_0 X hG h900 q_876 dX10_readsGate_1 (cn_N _ _ _ h900) (fun a1 h1 r1 => ?_)
  refine n_sp X dX10_readsGate_4 (by decide) (by decide) (fun x2 t2 => ?_)
  refine tg_iald X hG h1 rfl (cI_in (n := 4261) (by omega)) dX10_readsGate_7 (fun x3 r3 => ?_)
  have b3 := rdR (cn_R _ _ _ _ h1 r3) (n := 4242) (by omega) (RMM_G hp)
  refine lv_istore_n (lv' := [(1, .int x3), (0, .ref a900)]) X.1 X.2.1 dX10_readsGate_8 rfl hl (by decide) rfl (fun ls hl => ?_)
  refine lv_iload_n X.1 X.2.1 dX10_readsGate_9 rfl (lv_at hl 0 rfl) ?_
  refine n_bp X dX10_readsGate_10 (by decide) (by decide) (fun x4 t4 => ?_)
  refine n_icmp_ne (tgt := 27) X dX10_readsGate_12 (by decide) (fun c5 => ?_) (fun c5 => ?_)
  · refine lv_aload_n X.1 X.2.1 dX10_readsGate_27 rfl (lv_at hl 1 rfl) ?_
    refine n_ic X dX10_readsGate_28 (by decide) (by decide) (fun x6 t6 => ?_)
    refine n_ic X dX10_readsGate_29 (by decide) (by decide) (fun x7 t7 => ?_)
    refine k_cVi X hG (c_X10_readsNumber l D cy τ _ hU h900 x6 (by omega) x7 (by omega) hR7) h900 rfl yv_X10_readsNumber q_986 ⟨rfl, rfl⟩ ⟨Nat.le_of_ble_eq_true rfl, Nat.le_of_ble_eq_true rfl⟩ rfl hl.1 rfl (Nat.le_of_ble_eq_true rfl) ⟨Nat.zero_le _, Nat.zero_le _⟩ dX10_readsGate_30 (fun x9 u10 H locs hG po8 => ?_)
    rcases (show x9.toInt = 0 ∨ x9.toInt ≠ 0 by omega) with cz | cz
    · rw [po8.1.2 cz] at hG
      refine n_if_ne (tgt := 38) X dX10_readsGate_33 (by decide) (fun c11 => ?_) (fun c11 => ?_)
      · exact absurd c11 (by omega)
      · refine n_ic X dX10_readsGate_36 (by decide) (by decide) (fun x12 t12 => ?_)
        exact ret _ _ _ _ x12 _ hG ⟨⟨pc, gc, f, hp, hg, hf, rfl⟩, by omega⟩ dX10_readsGate_37
    · rw [po8.1.1 cz] at hG
      refine n_if_ne (tgt := 38) X dX10_readsGate_33 (by decide) (fun c13 => ?_) (fun c13 => ?_)
      · refine lv_aload_n X.1 X.2.1 dX10_readsGate_38 rfl (lv_at hl 1 rfl) ?_
        refine gf_10_0 X hG h900 q_876 dX10_readsGate_39 (cn_N _ _ _ h900) (fun a14 h14 r14 => ?_)
        refine n_sp X dX10_readsGate_42 (by decide) (by decide) (fun x15 t15 => ?_)
        refine n_ic X dX10_readsGate_45 (by decide) (by decide) (fun x16 t16 => ?_)
        refine lv_iload_n X.1 X.2.1 dX10_readsGate_46 rfl (lv_at hl 0 rfl) ?_
        refine n_mul X dX10_readsGate_47 (by rw [t16]; omega) (by rw [t16]; omega) (fun x17 t17 => ?_)
        rw [t16] at t17
        refine n_add X dX10_readsGate_48 (by omega) (by omega) (fun x18 t18 => ?_)
        refine lv_aload_n X.1 X.2.1 dX10_readsGate_49 rfl (lv_at hl 1 rfl) ?_
        refine gf_10_19 X hG h900 q_895 dX10_readsGate_50 (fun x19 r19 => ?_)
        have b19 := (cn_R _ _ _ _ h900 r19) _ _ fsM_at
        have hG := TG.sub hG (fs_back m19)
        refine tg_iasf X hG h14 rfl (cI_in (n := 4261) (by omega)) dX10_readsGate_53 (cn_F (S := [6010]) _ _ _ _ h14 (ty_in (n := 6010) rfl) (ty_rno (wGt hRw (by omega)))) (fun H locs hG => ?_)
        refine lv_aload_n X.1 X.2.1 dX10_readsGate_54 rfl (lv_at hl 1 rfl) ?_
        refine n_ic X dX10_readsGate_55 (by decide) (by decide) (fun x20 t20 => ?_)
        refine n_bp X dX10_readsGate_56 (by decide) (by decide) (fun x21 t21 => ?_)
        refine k_cVi X hG (c_X10_readsNumber l D cy τ _ hU h900 x20 (by omega) x21 (by omega) hR7) h900 rfl yv_X10_readsNumber q_986 ⟨rfl, rfl⟩ ⟨Nat.le_of_ble_eq_true rfl, Nat.le_of_ble_eq_true rfl⟩ rfl hl.1 rfl (Nat.le_of_ble_eq_true rfl) ⟨Nat.zero_le _, Nat.zero_le _⟩ dX10_readsGate_58 (fun x23 u24 H locs hG po22 => ?_)
        rcases (show x23.toInt = 0 ∨ x23.toInt ≠ 0 by omega) with cz | cz
        · rw [po22.1.2 cz] at hG
          refine n_if_ne (tgt := 66) X dX10_readsGate_61 (by decide) (fun c25 => ?_) (fun c25 => ?_)
          · exact absurd c25 (by omega)
          · refine n_ic X dX10_readsGate_64 (by decide) (by decide) (fun x26 t26 => ?_)
            exact ret _ _ _ _ x26 _ hG ⟨⟨pc, gc, f, hp, hg, hf, rfl⟩, by omega⟩ dX10_readsGate_65
        · rw [po22.1.1 cz] at hG
          refine n_if_ne (tgt := 66) X dX10_readsGate_61 (by decide) (fun c27 => ?_) (fun c27 => ?_)
          · refine lv_aload_n X.1 X.2.1 dX10_readsGate_66 rfl (lv_at hl 1 rfl) ?_
            refine gf_10_0 X hG h900 q_876 dX10_readsGate_67 (cn_N _ _ _ h900) (fun a28 h28 r28 => ?_)
            refine n_sp X dX10_readsGate_70 (by decide) (by decide) (fun x29 t29 => ?_)
            refine n_ic X dX10_readsGate_73 (by decide) (by decide) (fun x30 t30 => ?_)
            refine lv_iload_n X.1 X.2.1 dX10_readsGate_74 rfl (lv_at hl 0 rfl) ?_
            refine n_mul X dX10_readsGate_75 (by rw [t30]; omega) (by rw [t30]; omega) (fun x31 t31 => ?_)
            rw [t30] at t31
            refine n_add X dX10_readsGate_76 (by omega) (by omega) (fun x32 t32 => ?_)
            refine n_ic X dX10_readsGate_77 (by decide) (by decide) (fun x33 t33 => ?_)
            refine n_add X dX10_readsGate_78 (by omega) (by omega) (fun x34 t34 => ?_)
            refine lv_aload_n X.1 X.2.1 dX10_readsGate_79 rfl (lv_at hl 1 rfl) ?_
            refine gf_10_19 X hG h900 q_895 dX10_readsGate_80 (fun x35 r35 => ?_)
            have b35 := (cn_R _ _ _ _ h900 r35) _ _ fsM_at
            have hG := TG.sub hG (fs_back m19)
            refine tg_iasf X hG h28 rfl (cI_in (n := 4261) (by omega)) dX10_readsGate_83 (cn_F (S := [6010]) _ _ _ _ h28 (ty_in (n := 6010) rfl) (ty_rno (wGt hRw (by omega)))) (fun H locs hG => ?_)
            refine lv_aload_n X.1 X.2.1 dX10_readsGate_84 rfl (lv_at hl 1 rfl) ?_
            refine n_ic X dX10_readsGate_85 (by decide) (by decide) (fun x36 t36 => ?_)
            refine n_bp X dX10_readsGate_86 (by decide) (by decide) (fun x37 t37 => ?_)
            refine k_cVi X hG (c_X10_readsNumber l D cy τ _ hU h900 x36 (by omega) x37 (by omega) hR7) h900 rfl yv_X10_readsNumber q_986 ⟨rfl, rfl⟩ ⟨Nat.le_of_ble_eq_true rfl, Nat.le_of_ble_eq_true rfl⟩ rfl hl.1 rfl (Nat.le_of_ble_eq_true rfl) ⟨Nat.zero_le _, Nat.zero_le _⟩ dX10_readsGate_88 (fun x39 u40 H locs hG po38 => ?_)
            rcases (show x39.toInt = 0 ∨ x39.toInt ≠ 0 by omega) with cz | cz
            · rw [po38.1.2 cz] at hG
              refine n_if_ne (tgt := 96) X dX10_readsGate_91 (by decide) (fun c41 => ?_) (fun c41 => ?_)
              · exact absurd c41 (by omega)
              · refine n_ic X dX10_readsGate_94 (by decide) (by decide) (fun x42 t42 => ?_)
                exact ret _ _ _ _ x42 _ hG ⟨⟨pc, gc, f, hp, hg, hf, rfl⟩, by omega⟩ dX10_readsGate_95
            · rw [po38.1.1 cz] at hG
              refine n_if_ne (tgt := 96) X dX10_readsGate_91 (by decide) (fun c43 => ?_) (fun c43 => ?_)
              · refine lv_aload_n X.1 X.2.1 dX10_readsGate_96 rfl (lv_at hl 1 rfl) ?_
                refine gf_10_0 X hG h900 q_876 dX10_readsGate_97 (cn_N _ _ _ h900) (fun a44 h44 r44 => ?_)
                refine n_sp X dX10_readsGate_100 (by decide) (by decide) (fun x45 t45 => ?_)
                refine n_ic X dX10_readsGate_103 (by decide) (by decide) (fun x46 t46 => ?_)
                refine lv_iload_n X.1 X.2.1 dX10_readsGate_104 rfl (lv_at hl 0 rfl) ?_
                refine n_mul X dX10_readsGate_105 (by rw [t46]; omega) (by rw [t46]; omega) (fun x47 t47 => ?_)
                rw [t46] at t47
                refine n_add X dX10_readsGate_106 (by omega) (by omega) (fun x48 t48 => ?_)
                refine n_ic X dX10_readsGate_107 (by decide) (by decide) (fun x49 t49 => ?_)
                refine n_add X dX10_readsGate_108 (by omega) (by omega) (fun x50 t50 => ?_)
                refine lv_aload_n X.1 X.2.1 dX10_readsGate_109 rfl (lv_at hl 1 rfl) ?_
                refine gf_10_19 X hG h900 q_895 dX10_readsGate_110 (fun x51 r51 => ?_)
                have b51 := (cn_R _ _ _ _ h900 r51) _ _ fsM_at
                have hG := TG.sub hG (fs_back m19)
                refine tg_iasf X hG h44 rfl (cI_in (n := 4261) (by omega)) dX10_readsGate_113 (cn_F (S := [6010]) _ _ _ _ h44 (ty_in (n := 6010) rfl) (ty_rno (wGt hRw (by omega)))) (fun H locs hG => ?_)
                refine lv_aload_n X.1 X.2.1 dX10_readsGate_114 rfl (lv_at hl 1 rfl) ?_
                refine gf_10_0 X hG h900 q_876 dX10_readsGate_115 (cn_N _ _ _ h900) (fun a52 h52 r52 => ?_)
                refine n_sp X dX10_readsGate_118 (by decide) (by decide) (fun x53 t53 => ?_)
                refine lv_dup2_11 X.1 X.2.1 dX10_readsGate_121 rfl rfl ?_
                refine tg_iald X hG h52 rfl (cI_in (n := 4261) (by omega)) dX10_readsGate_122 (fun x54 r54 => ?_)
                have b54 := rdR (cn_R _ _ _ _ h52 r54) (n := 4242) (by omega) (RMM_G hp)
                refine n_ic X dX10_readsGate_123 (by decide) (by decide) (fun x55 t55 => ?_)
                refine n_add X dX10_readsGate_124 (by omega) (by omega) (fun x56 t56 => ?_)
                have i57 : x53.toNatClampNeg = 4242 := by have := cI_clamp (x := x53) (by omega); omega
                refine tg_iast X hG h52 rfl (cI_in (n := 4261) (by omega)) dX10_readsGate_125 (cn (RMM M0 Lg lo pc (gc + 1) f) τ) (cw_off hU h52 (by decide) (j0 := 4242) RMM_g1) (by rw [i57]; exact cw_oth h52 RMM_g1) (by rw [i57]; exact cw_new h52 (ty_ryes (RMM_G hp) (by omega))) (fun H locs hG => ?_)
                refine lv_aload_n X.1 X.2.1 dX10_readsGate_126 rfl (lv_at hl 1 rfl) ?_
                refine k_cVi X hG (c_X10_readsEnd l D cy τ _ cn_N cn_R (cn_F (S := [1016, 1017, 1018])) h900 (RMM_hr h0 hL)) h900 rfl yv_X10_readsEnd q_996 ⟨rfl, rfl⟩ ⟨Nat.le_of_ble_eq_true rfl, Nat.le_of_ble_eq_true rfl⟩ rfl hl.1 rfl (Nat.le_of_ble_eq_true rfl) ⟨Nat.zero_le _, Nat.zero_le _⟩ dX10_readsGate_127 (fun x59 u60 H locs hG po58 => ?_)
                obtain ⟨eu60, po58⟩ := po58
                rw [eu60] at hG
                exact ret _ _ _ _ x59 _ hG ⟨⟨pc, gc + 1, f, hp, by omega, hf, rfl⟩, by omega⟩ dX10_readsGate_130
              · exact absurd c43 (by omega)
          · exact absurd c27 (by omega)
      · exact absurd c13 (by omega)
  · refine lv_aload_n X.1 X.2.1 dX10_readsGate_15 rfl (lv_at hl 1 rfl) ?_
    refine n_ic X dX10_readsGate_16 (by decide) (by decide) (fun x61 t61 => ?_)
    refine lv_aload_n X.1 X.2.1 dX10_readsGate_17 rfl (lv_at hl 1 rfl) ?_
    refine gf_10_16 X hG h900 q_892 dX10_readsGate_18 (fun x62 r62 => ?_)
    have b62 := (cn_R _ _ _ _ h900 r62) _ _ m16
    refine n_ic X dX10_readsGate_21 (by decide) (by decide) (fun x63 t63 => ?_)
    refine n_sub X dX10_readsGate_22 (by omega) (by omega) (fun x64 t64 => ?_)
    refine k_cVi X hG (c_X10_refuse l D cy τ _ cn_N cn_R (cn_F (S := [1017, 1018])) h900 x61 x64 hR7) h900 rfl yv_X10_refuse q_978 ⟨rfl, rfl⟩ ⟨Nat.le_of_ble_eq_true rfl, Nat.le_of_ble_eq_true rfl⟩ rfl hl.1 rfl (Nat.le_of_ble_eq_true rfl) ⟨Nat.zero_le _, Nat.zero_le _⟩ dX10_readsGate_23 (fun x66 u67 H locs hG po65 => ?_)
    obtain ⟨eu67, po65⟩ := po65
    rw [eu67] at hG
    exact ret _ _ _ _ x66 _ hG ⟨⟨pc, gc, f, hp, hg, hf, rfl⟩, by omega⟩ dX10_readsGate_26
set_option maxHeartbeats 4000000 in
set_option maxRecDepth 100000 in
theorem c_X10_readsPiece (l : Launch) (D : va_G) (cy : Nat → ClassId) (τ : ty_T) (hU : UQ τ) {M0 : md_T} {Lg lo pc gc : Nat} {f : Nat → Nat} (h0 : M0k M0) (hL : Lg ≤ 240) (hp : pc ≤ 8) (hg : gc ≤ 6) (hf : ∀ i, f i ≤ 9) {a900 : Nat} (h900 : τ a900 = some (0, 10)) : KI l D cy yX10_readsPiece cX10_readsPiece 2 .boolean (rL 3) τ (cn (RMM M0 Lg lo pc gc f) τ) [.ref a900] (fun r u => RDS τ M0 Lg lo u ∧ (r.toInt = 0 ∨ r.toInt = 1)) := by
  refine k_metI "EdgeEchoesModel" rfl (by decide +kernel) (Nat.le_of_ble_eq_true rfl) (fun r u h => (cI_nar (cI_01 h.2)).1) ?_
  intro p e s m args below meth c Q ls X hG hl ret
  have hl : lv_has ls 2 [(0, .ref a900)] := hl
  have hR7 := RMM_hr (lo := lo) (pc := pc) (gc := gc) (f := f) h0 hL
  have hRw := RMM_rw (M0 := M0) (Lg := Lg) (lo := lo) (gc := gc) (f := f) hp
  obtain ⟨m7, m16, m17, m18, m19, m20, mT, hLg⟩ := id hR7
  obtain ⟨w27, w28, w29, w30, w31, w43⟩ := id hRw
  refine lv_aload_n X.1 X.2.1 dX10_readsPiece_0 rfl (lv_at hl 0 rfl) ?_
  refine gf_10_0 X hG h900 q_876 dX10_readsPiece_1 (cn_N _ _ _ h900) (fun a1 h1 r1 => ?_)
  refine n_sp X dX10_readsPiece_4 (by decide) (by decide) (fun x2 t2 => ?_)
  refine tg_iald X hG h1 rfl (cI_in (n := 4261) (by omega)) dX10_readsPiece_7 (fun x3 r3 => ?_)
  have b3 := rdR (cn_R _ _ _ _ h1 r3) (n := 4232) (by omega) (RMM_P hp)
  refine lv_istore_n (lv' := [(1, .int x3), (0, .ref a900)]) X.1 X.2.1 dX10_readsPiece_8 rfl hl (by decide) rfl (fun ls hl => ?_)
  refine lv_iload_n X.1 X.2.1 dX10_readsPiece_9 rfl (lv_at hl 0 rfl) ?_
  refine n_bp X dX10_readsPiece_10 (by decide) (by decide) (fun x4 t4 => ?_)
  refine n_icmp_ne (tgt := 27) X dX10_readsPiece_12 (by decide) (fun c5 => ?_) (fun c5 => ?_)
  · refine lv_aload_n X.1 X.2.1 dX10_readsPiece_27 rfl (lv_at hl 1 rfl) ?_
    refine n_ic X dX10_readsPiece_28 (by decide) (by decide) (fun x6 t6 => ?_)
    refine n_bp X dX10_readsPiece_29 (by decide) (by decide) (fun x7 t7 => ?_)
    refine k_cVi X hG (c_X10_readsNumber l D cy τ _ hU h900 x6 (by omega) x7 (by omega) hR7) h900 rfl yv_X10_readsNumber q_986 ⟨rfl, rfl⟩ ⟨Nat.le_of_ble_eq_true rfl, Nat.le_of_ble_eq_true rfl⟩ rfl hl.1 rfl (Nat.le_of_ble_eq_true rfl) ⟨Nat.zero_le _, Nat.zero_le _⟩ dX10_readsPiece_31 (fun x9 u10 H locs hG po8 => ?_)
    rcases (show x9.toInt = 0 ∨ x9.toInt ≠ 0 by omega) with cz | cz
    · rw [po8.1.2 cz] at hG
      refine n_if_ne (tgt := 39) X dX10_readsPiece_34 (by decide) (fun c11 => ?_) (fun c11 => ?_)
      · exact absurd c11 (by omega)
      · refine n_ic X dX10_readsPiece_37 (by decide) (by decide) (fun x12 t12 => ?_)
        exact ret _ _ _ _ x12 _ hG ⟨⟨pc, gc, f, hp, hg, hf, rfl⟩, by omega⟩ dX10_readsPiece_38
    · rw [po8.1.1 cz] at hG
      refine n_if_ne (tgt := 39) X dX10_readsPiece_34 (by decide) (fun c13 => ?_) (fun c13 => ?_)
      · refine lv_aload_n X.1 X.2.1 dX10_readsPiece_39 rfl (lv_at hl 1 rfl) ?_
        refine gf_10_0 X hG h900 q_876 dX10_readsPiece_40 (cn_N _ _ _ h900) (fun a14 h14 r14 => ?_)
        refine n_sp X dX10_readsPiece_43 (by decide) (by decide) (fun x15 t15 => ?_)
        refine lv_iload_n X.1 X.2.1 dX10_readsPiece_46 rfl (lv_at hl 0 rfl) ?_
        refine n_add X dX10_readsPiece_47 (by omega) (by omega) (fun x16 t16 => ?_)
        refine lv_aload_n X.1 X.2.1 dX10_readsPiece_48 rfl (lv_at hl 1 rfl) ?_
        refine gf_10_19 X hG h900 q_895 dX10_readsPiece_49 (fun x17 r17 => ?_)
        have b17 := (cn_R _ _ _ _ h900 r17) _ _ fsM_at
        have hG := TG.sub hG (fs_back m19)
        have i18 : x16.toNatClampNeg = (4219 + pc) := by have := cI_clamp (x := x16) (by omega); omega
        refine tg_iast X hG h14 rfl (cI_in (n := 4261) (by omega)) dX10_readsPiece_52 (cn (rsM (RMM M0 Lg lo pc gc f) (4219 + pc) (1, 99)) τ) (cw_off hU h14 (by decide) (j0 := (4219 + pc)) rs_ne) (by rw [i18]; exact cw_oth h14 rs_ne) (by rw [i18]; exact cw_new h14 (ty_ryes rs_at (by omega))) (fun H locs hG => ?_)
        refine lv_aload_n X.1 X.2.1 dX10_readsPiece_53 rfl (lv_at hl 1 rfl) ?_
        refine n_ic X dX10_readsPiece_54 (by decide) (by decide) (fun x19 t19 => ?_)
        refine n_bp X dX10_readsPiece_55 (by decide) (by decide) (fun x20 t20 => ?_)
        refine k_cVi X hG (c_X10_readsNumber l D cy τ _ hU h900 x19 (by omega) x20 (by omega) (HRd.rs hR7)) h900 rfl yv_X10_readsNumber q_986 ⟨rfl, rfl⟩ ⟨Nat.le_of_ble_eq_true rfl, Nat.le_of_ble_eq_true rfl⟩ rfl hl.1 rfl (Nat.le_of_ble_eq_true rfl) ⟨Nat.zero_le _, Nat.zero_le _⟩ dX10_readsPiece_57 (fun x22 u23 H locs hG po21 => ?_)
        rcases (show x22.toInt = 0 ∨ x22.toInt ≠ 0 by omega) with cz | cz
        · rw [po21.1.2 cz] at hG
          have hG := TG.sub hG (RMM_o (by omega))
          refine n_if_ne (tgt := 65) X dX10_readsPiece_60 (by decide) (fun c24 => ?_) (fun c24 => ?_)
          · exact absurd c24 (by omega)
          · refine n_ic X dX10_readsPiece_63 (by decide) (by decide) (fun x25 t25 => ?_)
            exact ret _ _ _ _ x25 _ hG ⟨⟨pc, gc, f, hp, hg, hf, rfl⟩, by omega⟩ dX10_readsPiece_64
        · rw [po21.1.1 cz] at hG
          refine n_if_ne (tgt := 65) X dX10_readsPiece_60 (by decide) (fun c26 => ?_) (fun c26 => ?_)
          · obtain ⟨xn, rn, hG⟩ := tg_pin hG h900 19 rfl
            have bn := (cn_R _ _ _ _ h900 rn) _ _ fsM_at
            obtain ⟨xv, exv⟩ : ∃ v : Nat, xn.toInt = (v : Int) := ⟨xn.toInt.toNat, by omega⟩
            have hsum := sumF_le hf pc
            have hG := TG.sub (exs_p1 hU h900 hG exv) fs_fs
            refine lv_aload_n X.1 X.2.1 dX10_readsPiece_65 rfl (lv_at hl 1 rfl) ?_
            refine gf_10_0 X hG h900 q_876 dX10_readsPiece_66 (cn_N _ _ _ h900) (fun a27 h27 r27 => ?_)
            refine n_sp X dX10_readsPiece_69 (by decide) (by decide) (fun x28 t28 => ?_)
            refine lv_iload_n X.1 X.2.1 dX10_readsPiece_72 rfl (lv_at hl 0 rfl) ?_
            refine n_add X dX10_readsPiece_73 (by omega) (by omega) (fun x29 t29 => ?_)
            refine lv_aload_n X.1 X.2.1 dX10_readsPiece_74 rfl (lv_at hl 1 rfl) ?_
            refine gf_10_19 X hG h900 q_895 dX10_readsPiece_75 (fun x30 r30 => ?_)
            have b30 := (cn_R _ _ _ _ h900 r30) _ _ fsM_at
            have i31 : x29.toNatClampNeg = (4233 + pc) := by have := cI_clamp (x := x29) (by omega); omega
            refine tg_iast X hG h27 rfl (cI_in (n := 4261) (by omega)) dX10_readsPiece_78 (cn (rsM (fsM (rsM (RMM M0 Lg lo pc gc f) (4219 + pc) (1, 99)) 19 ((xv : Int), (xv : Int))) (4233 + pc) ((xv : Int), (xv : Int))) τ) (cw_off hU h27 (by decide) (j0 := (4233 + pc)) rs_ne) (by rw [i31]; exact cw_oth h27 rs_ne) (by rw [i31]; exact cw_new h27 (ty_ryes rs_at (by omega))) (fun H locs hG => ?_)
            refine lv_aload_n X.1 X.2.1 dX10_readsPiece_79 rfl (lv_at hl 1 rfl) ?_
            refine gf_10_0 X hG h900 q_876 dX10_readsPiece_80 (cn_N _ _ _ h900) (fun a32 h32 r32 => ?_)
            refine n_sp X dX10_readsPiece_83 (by decide) (by decide) (fun x33 t33 => ?_)
            refine lv_dup2_11 X.1 X.2.1 dX10_readsPiece_86 rfl rfl ?_
            refine tg_iald X hG h32 rfl (cI_in (n := 4261) (by omega)) dX10_readsPiece_87 (fun x34 r34 => ?_)
            have b34 := rdR (cn_R _ _ _ _ h32 r34) (n := 4241) (by omega) (by change rsM _ _ _ 10 4241 = _; rw [rs_ne _ _ (Or.inr (by omega)), fsM_ne _ _ (Or.inl (by decide)), rs_ne _ _ (Or.inr (by omega))]; exact RMM_N hp)
            refine lv_aload_n X.1 X.2.1 dX10_readsPiece_88 rfl (lv_at hl 1 rfl) ?_
            refine gf_10_19 X hG h900 q_895 dX10_readsPiece_89 (fun x35 r35 => ?_)
            have b35 := (cn_R _ _ _ _ h900 r35) _ _ ((rs_ne _ _ (Or.inl (by decide))).trans fsM_at)
            refine n_add X dX10_readsPiece_92 (by omega) (by omega) (fun x36 t36 => ?_)
            have i37 : x33.toNatClampNeg = 4241 := by have := cI_clamp (x := x33) (by omega); omega
            refine tg_iast X hG h32 rfl (cI_in (n := 4261) (by omega)) dX10_readsPiece_93 (cn (rsM (rsM (fsM (rsM (RMM M0 Lg lo pc gc f) (4219 + pc) (1, 99)) 19 ((xv : Int), (xv : Int))) (4233 + pc) ((xv : Int), (xv : Int))) 4241 (((sumF f pc + xv : Nat) : Int), ((sumF f pc + xv : Nat) : Int))) τ) (cw_off hU h32 (by decide) (j0 := 4241) rs_ne) (by rw [i37]; exact cw_oth h32 rs_ne) (by rw [i37]; exact cw_new h32 (ty_ryes rs_at (by omega))) (fun H locs hG => ?_)
            refine lv_aload_n X.1 X.2.1 dX10_readsPiece_94 rfl (lv_at hl 1 rfl) ?_
            refine gf_10_0 X hG h900 q_876 dX10_readsPiece_95 (cn_N _ _ _ h900) (fun a38 h38 r38 => ?_)
            refine n_sp X dX10_readsPiece_98 (by decide) (by decide) (fun x39 t39 => ?_)
            refine lv_dup2_11 X.1 X.2.1 dX10_readsPiece_101 rfl rfl ?_
            refine tg_iald X hG h38 rfl (cI_in (n := 4261) (by omega)) dX10_readsPiece_102 (fun x40 r40 => ?_)
            have b40 := rdR (cn_R _ _ _ _ h38 r40) (n := 4232) (by omega) (by change rsM _ _ _ 10 4232 = _; rw [rs_ne _ _ (Or.inr (by omega)), rs_ne _ _ (Or.inr (by omega)), fsM_ne _ _ (Or.inl (by decide)), rs_ne _ _ (Or.inr (by omega))]; exact RMM_P hp)
            refine n_ic X dX10_readsPiece_103 (by decide) (by decide) (fun x41 t41 => ?_)
            refine n_add X dX10_readsPiece_104 (by omega) (by omega) (fun x42 t42 => ?_)
            have i43 : x39.toNatClampNeg = 4232 := by have := cI_clamp (x := x39) (by omega); omega
            refine tg_iast X hG h38 rfl (cI_in (n := 4261) (by omega)) dX10_readsPiece_105 (cn (rsM (rsM (rsM (fsM (rsM (RMM M0 Lg lo pc gc f) (4219 + pc) (1, 99)) 19 ((xv : Int), (xv : Int))) (4233 + pc) ((xv : Int), (xv : Int))) 4241 (((sumF f pc + xv : Nat) : Int), ((sumF f pc + xv : Nat) : Int))) 4232 (((pc + 1 : Nat) : Int), ((pc + 1 : Nat) : Int))) τ) (cw_off hU h38 (by decide) (j0 := 4232) rs_ne) (by rw [i43]; exact cw_oth h38 rs_ne) (by rw [i43]; exact cw_new h38 (ty_ryes rs_at (by omega))) (fun H locs hG => ?_)
            have hG := TG.sub hG (RMM_p1 (by omega) h0.2.2.1)
            refine lv_aload_n X.1 X.2.1 dX10_readsPiece_106 rfl (lv_at hl 1 rfl) ?_
            refine k_cVi X hG (c_X10_readsEnd l D cy τ _ cn_N cn_R (cn_F (S := [1016, 1017, 1018])) h900 (RMM_hr h0 hL)) h900 rfl yv_X10_readsEnd q_996 ⟨rfl, rfl⟩ ⟨Nat.le_of_ble_eq_true rfl, Nat.le_of_ble_eq_true rfl⟩ rfl hl.1 rfl (Nat.le_of_ble_eq_true rfl) ⟨Nat.zero_le _, Nat.zero_le _⟩ dX10_readsPiece_107 (fun x45 u46 H locs hG po44 => ?_)
            obtain ⟨eu46, po44⟩ := po44
            rw [eu46] at hG
            exact ret _ _ _ _ x45 _ hG ⟨⟨pc + 1, gc, _, by omega, hg, RMM_fl hf (by omega), rfl⟩, by omega⟩ dX10_readsPiece_110
          · exact absurd c26 (by omega)
      · exact absurd c13 (by omega)
  · refine lv_aload_n X.1 X.2.1 dX10_readsPiece_15 rfl (lv_at hl 1 rfl) ?_
    refine n_ic X dX10_readsPiece_16 (by decide) (by decide) (fun x47 t47 => ?_)
    refine lv_aload_n X.1 X.2.1 dX10_readsPiece_17 rfl (lv_at hl 1 rfl) ?_
    refine gf_10_16 X hG h900 q_892 dX10_readsPiece_18 (fun x48 r48 => ?_)
    have b48 := (cn_R _ _ _ _ h900 r48) _ _ m16
    refine n_ic X dX10_readsPiece_21 (by decide) (by decide) (fun x49 t49 => ?_)
    refine n_sub X dX10_readsPiece_22 (by omega) (by omega) (fun x50 t50 => ?_)
    refine k_cVi X hG (c_X10_refuse l D cy τ _ cn_N cn_R (cn_F (S := [1017, 1018])) h900 x47 x50 hR7) h900 rfl yv_X10_refuse q_978 ⟨rfl, rfl⟩ ⟨Nat.le_of_ble_eq_true rfl, Nat.le_of_ble_eq_true rfl⟩ rfl hl.1 rfl (Nat.le_of_ble_eq_true rfl) ⟨Nat.zero_le _, Nat.zero_le _⟩ dX10_readsPiece_23 (fun x52 u53 H locs hG po51 => ?_)
    obtain ⟨eu53, po51⟩ := po51
    rw [eu53] at hG
    exact ret _ _ _ _ x52 _ hG ⟨⟨pc, gc, f, hp, hg, hf, rfl⟩, by omega⟩ dX10_readsPiece_26
set_option maxHeartbeats 4000000 in
set_option maxRecDepth 100000 in
theorem c_X10_readsClause (l : Launch) (D : va_G) (cy : Nat → ClassId) (τ : ty_T) (hU : UQ τ) {M0 : md_T} {Lg lo pc gc : Nat} {f : Nat → Nat} (h0 : M0k M0) (hL : Lg ≤ 240) (hp : pc ≤ 8) (hg : gc ≤ 6) (hf : ∀ i, f i ≤ 9) {a900 : Nat} (h900 : τ a900 = some (0, 10)) : KI l D cy yX10_readsClause cX10_readsClause 3 .boolean (rL 4) τ (cn (RMM M0 Lg lo pc gc f) τ) [.ref a900] (fun r u => (∃ lo', (r.toInt ≠ 0 → lo' = lo + 1) ∧ RDS τ M0 Lg lo' u) ∧ (r.toInt = 0 ∨ r.toInt = 1)) := by
  refine k_metI "EdgeEchoesModel" rfl (by decide +kernel) (Nat.le_of_ble_eq_true rfl) (fun r u h => (cI_nar (cI_01 h.2)).1) ?_
  intro p e s m args below meth c Q ls X hG hl ret
  have hl : lv_has ls 3 [(0, .ref a900)] := hl
  have hR7 := RMM_hr (lo := lo) (pc := pc) (gc := gc) (f := f) h0 hL
  have hRw := RMM_rw (M0 := M0) (Lg := Lg) (lo := lo) (gc := gc) (f := f) hp
  obtain ⟨m7, m16, m17, m18, m19, m20, mT, hLg⟩ := id hR7
  obtain ⟨w27, w28, w29, w30, w31, w43⟩ := id hRw
  obtain ⟨x1, r1, hG⟩ := tg_pin hG h900 16 rfl
  have b1 := (cn_R _ _ _ _ h900 r1) _ _ m16
  refine lv_aload_n X.1 X.2.1 dX10_readsClause_0 rfl (lv_at hl 0 rfl) ?_
  refine gf_10_16 X hG h900 q_892 dX10_readsClause_1 (fun x2 r2 => ?_)
  have e2 := exs_rd r2 (y := x1) rfl
  subst e2
  refine lv_aload_n X.1 X.2.1 dX10_readsClause_4 rfl (lv_at hl 0 rfl) ?_
  refine gf_10_7 X hG h900 q_883 dX10_readsClause_5 (fun x3 r3 => ?_)
  have b3 := ((exs_R cn_R) _ _ _ _ h900 r3) _ _ m7
  refine n_icmp_ge (tgt := 23) X dX10_readsClause_8 (by decide) (fun c4 => ?_) (fun c4 => ?_)
  · refine n_ic X dX10_readsClause_23 (by decide) (by decide) (fun x5 t5 => ?_)
    refine lv_istore_n (lv' := [(1, .int x5), (0, .ref a900)]) X.1 X.2.1 dX10_readsClause_24 rfl hl (by decide) rfl (fun ls hl => ?_)
    refine lv_aload_n X.1 X.2.1 dX10_readsClause_25 rfl (lv_at hl 1 rfl) ?_
    refine gf_10_0 X hG h900 q_876 dX10_readsClause_26 ((exs_N cn_N) _ _ _ h900) (fun a6 h6 r6 => ?_)
    refine n_sp X dX10_readsClause_29 (by decide) (by decide) (fun x7 t7 => ?_)
    refine tg_iald X hG h6 rfl (cI_in (n := 4261) (by omega)) dX10_readsClause_32 (fun x8 r8 => ?_)
    refine n_if_ne (tgt := 40) X dX10_readsClause_33 (by decide) (fun c9 => ?_) (fun c9 => ?_)
    · refine n_ic X dX10_readsClause_40 (by decide) (by decide) (fun x10 t10 => ?_)
      refine lv_istore_n (lv' := [(2, .int x10), (1, .int x5), (0, .ref a900)]) X.1 X.2.1 dX10_readsClause_41 rfl hl (by decide) rfl (fun ls hl => ?_)
      refine lv_iload_n X.1 X.2.1 dX10_readsClause_42 rfl (lv_at hl 1 rfl) ?_
      refine n_bp X dX10_readsClause_43 (by decide) (by decide) (fun x11 t11 => ?_)
      have J76 : ∀ (H : Heap) (locs : List Loc) (ls : Array Slot), TG D cy τ (exs (cn (RMM M0 Lg lo pc gc f) τ) a900 (P1 16 x1)) (ty_d τ) s.heap H locs → lv_has ls 3 [(0, .ref a900), (1, .int x5), (2, .int x10)] → W p l e (rL 4) s m args below meth c H locs 0 0 Q (F0 m 76 ls []) := by
        intro H locs ls hG hl
        refine lv_aload_n X.1 X.2.1 dX10_readsClause_76 rfl (lv_at hl 0 rfl) ?_
        refine n_ic X dX10_readsClause_77 (by decide) (by decide) (fun x12 t12 => ?_)
        refine lv_aload_n X.1 X.2.1 dX10_readsClause_78 rfl (lv_at hl 0 rfl) ?_
        refine gf_10_16 X hG h900 q_892 dX10_readsClause_79 (fun x13 r13 => ?_)
        have e13 := exs_rd r13 (y := x1) rfl
        subst e13
        refine k_cVi X hG (c_X10_refuse l D cy τ _ (exs_N cn_N) (exs_R cn_R) (exs_F1 (cn_F (S := [1017, 1018])) h900 (by decide)) h900 x12 x1 hR7) h900 rfl yv_X10_refuse q_978 ⟨rfl, rfl⟩ ⟨Nat.le_of_ble_eq_true rfl, Nat.le_of_ble_eq_true rfl⟩ rfl hl.1 rfl (Nat.le_of_ble_eq_true rfl) ⟨Nat.zero_le _, Nat.zero_le _⟩ dX10_readsClause_82 (fun x15 u16 H locs hG po14 => ?_)
        obtain ⟨eu16, po14⟩ := po14
        rw [eu16] at hG
        exact ret _ _ _ _ x15 _ (exs_cl hG) ⟨⟨lo, fun h => absurd h (by omega), pc, gc, f, hp, hg, hf, rfl⟩, by omega⟩ dX10_readsClause_85
      have J66 : ∀ (H : Heap) (locs : List Loc) (ls : Array Slot), (100 ≤ x5.toInt ∧ x5.toInt ≤ 0) → (x1.toInt < (Lg : Int)) → TG D cy τ (exs (cn (RMM M0 Lg lo pc gc f) τ) a900 (P1 16 x1)) (ty_d τ) s.heap H locs → lv_has ls 3 [(0, .ref a900), (1, .int x5), (2, .int x10)] → W p l e (rL 4) s m args below meth c H locs 0 0 Q (F0 m 66 ls []) := by
        intro H locs ls kx5_66 iv66_0 hG hl
        refine lv_iload_n X.1 X.2.1 dX10_readsClause_66 rfl (lv_at hl 2 rfl) ?_
        have J86 : ∀ (H : Heap) (locs : List Loc) (ls : Array Slot), (x1.toInt < (Lg : Int)) → TG D cy τ (exs (cn (RMM M0 Lg lo pc gc f) τ) a900 (P1 16 x1)) (ty_d τ) s.heap H locs → lv_has ls 3 [(0, .ref a900), (1, .int x5), (2, .int x10)] → W p l e (rL 4) s m args below meth c H locs 0 0 Q (F0 m 86 ls []) := by
          intro H locs ls iv86_0 hG hl
          refine lv_aload_n X.1 X.2.1 dX10_readsClause_86 rfl (lv_at hl 0 rfl) ?_
          refine lv_dup X.1 X.2.1 dX10_readsClause_87 rfl ?_
          refine gf_10_16 X hG h900 q_892 dX10_readsClause_88 (fun x17 r17 => ?_)
          have e17 := exs_rd r17 (y := x1) rfl
          subst e17
          refine n_ic X dX10_readsClause_91 (by decide) (by decide) (fun x18 t18 => ?_)
          refine n_add X dX10_readsClause_92 (by omega) (by omega) (fun x19 t19 => ?_)
          refine pg_10_16 X hG h900 q_892 dX10_readsClause_93 (cn (RMM M0 Lg (lo + 1) pc gc f) τ) (fun b i v hb q => cf_off hU h900 RMM_lo b i v hb q.1) (fun i v hi q => cf_oth RMM_lo i v hi q.1) (cw_new h900 (ty_ryes rfl (by omega))) (fun H locs hG => ?_)
          refine lv_aload_n X.1 X.2.1 dX10_readsClause_96 rfl (lv_at hl 0 rfl) ?_
          refine gf_10_0 X hG h900 q_876 dX10_readsClause_97 (cn_N _ _ _ h900) (fun a20 h20 r20 => ?_)
          refine n_sp X dX10_readsClause_100 (by decide) (by decide) (fun x21 t21 => ?_)
          refine n_ic X dX10_readsClause_103 (by decide) (by decide) (fun x22 t22 => ?_)
          refine tg_iasf X hG h20 rfl (cI_in (n := 4261) (by omega)) dX10_readsClause_104 (cn_F (S := [6010]) _ _ _ _ h20 (ty_in (n := 6010) rfl) (ty_rno (wNo (n := 4230) (by omega) (RMM_rw hp).2.2.2.1))) (fun H locs hG => ?_)
          refine lv_iload_n X.1 X.2.1 dX10_readsClause_105 rfl (lv_at hl 1 rfl) ?_
          refine n_bp X dX10_readsClause_106 (by decide) (by decide) (fun x23 t23 => ?_)
          refine n_icmp_ne (tgt := 118) X dX10_readsClause_108 (by decide) (fun c24 => ?_) (fun c24 => ?_)
          · exact absurd c24 (by omega)
          · exact absurd c24 (by omega)
        refine n_if_eq (tgt := 86) X dX10_readsClause_67 (by decide) (fun c25 => ?_) (fun c25 => ?_)
        · exact absurd c25 (by omega)
        · exact absurd c25 (by omega)
      refine n_icmp_eq (tgt := 66) X dX10_readsClause_45 (by decide) (fun c26 => ?_) (fun c26 => ?_)
      · exact absurd c26 (by omega)
      · refine lv_iload_n X.1 X.2.1 dX10_readsClause_48 rfl (lv_at hl 1 rfl) ?_
        refine n_bp X dX10_readsClause_49 (by decide) (by decide) (fun x27 t27 => ?_)
        refine n_icmp_eq (tgt := 66) X dX10_readsClause_51 (by decide) (fun c28 => ?_) (fun c28 => ?_)
        · exact absurd c28 (by omega)
        · refine lv_iload_n X.1 X.2.1 dX10_readsClause_54 rfl (lv_at hl 1 rfl) ?_
          refine n_bp X dX10_readsClause_55 (by decide) (by decide) (fun x29 t29 => ?_)
          refine n_icmp_eq (tgt := 66) X dX10_readsClause_57 (by decide) (fun c30 => ?_) (fun c30 => ?_)
          · exact absurd c30 (by omega)
          · refine lv_iload_n X.1 X.2.1 dX10_readsClause_60 rfl (lv_at hl 1 rfl) ?_
            refine n_bp X dX10_readsClause_61 (by decide) (by decide) (fun x31 t31 => ?_)
            refine n_icmp_ne (tgt := 76) X dX10_readsClause_63 (by decide) (fun c32 => ?_) (fun c32 => ?_)
            · exact J76 _ _ _  hG (lv_sub hl [2, 1, 0] rfl)
            · exact absurd c32 (by omega)
    · refine n_ic X dX10_readsClause_36 (by decide) (by decide) (fun x33 t33 => ?_)
      refine lv_goto (tgt := 41) X.1 X.2.1 dX10_readsClause_37 (by decide) ?_
      refine lv_istore_n (lv' := [(2, .int x33), (1, .int x5), (0, .ref a900)]) X.1 X.2.1 dX10_readsClause_41 rfl hl (by decide) rfl (fun ls hl => ?_)
      refine lv_iload_n X.1 X.2.1 dX10_readsClause_42 rfl (lv_at hl 1 rfl) ?_
      refine n_bp X dX10_readsClause_43 (by decide) (by decide) (fun x34 t34 => ?_)
      have J76 : ∀ (H : Heap) (locs : List Loc) (ls : Array Slot), TG D cy τ (exs (cn (RMM M0 Lg lo pc gc f) τ) a900 (P1 16 x1)) (ty_d τ) s.heap H locs → lv_has ls 3 [(0, .ref a900), (1, .int x5), (2, .int x33)] → W p l e (rL 4) s m args below meth c H locs 0 0 Q (F0 m 76 ls []) := by
        intro H locs ls hG hl
        refine lv_aload_n X.1 X.2.1 dX10_readsClause_76 rfl (lv_at hl 0 rfl) ?_
        refine n_ic X dX10_readsClause_77 (by decide) (by decide) (fun x35 t35 => ?_)
        refine lv_aload_n X.1 X.2.1 dX10_readsClause_78 rfl (lv_at hl 0 rfl) ?_
        refine gf_10_16 X hG h900 q_892 dX10_readsClause_79 (fun x36 r36 => ?_)
        have e36 := exs_rd r36 (y := x1) rfl
        subst e36
        refine k_cVi X hG (c_X10_refuse l D cy τ _ (exs_N cn_N) (exs_R cn_R) (exs_F1 (cn_F (S := [1017, 1018])) h900 (by decide)) h900 x35 x1 hR7) h900 rfl yv_X10_refuse q_978 ⟨rfl, rfl⟩ ⟨Nat.le_of_ble_eq_true rfl, Nat.le_of_ble_eq_true rfl⟩ rfl hl.1 rfl (Nat.le_of_ble_eq_true rfl) ⟨Nat.zero_le _, Nat.zero_le _⟩ dX10_readsClause_82 (fun x38 u39 H locs hG po37 => ?_)
        obtain ⟨eu39, po37⟩ := po37
        rw [eu39] at hG
        exact ret _ _ _ _ x38 _ (exs_cl hG) ⟨⟨lo, fun h => absurd h (by omega), pc, gc, f, hp, hg, hf, rfl⟩, by omega⟩ dX10_readsClause_85
      have J66 : ∀ (H : Heap) (locs : List Loc) (ls : Array Slot), (100 ≤ x5.toInt ∧ x5.toInt ≤ 0) → (x1.toInt < (Lg : Int)) → TG D cy τ (exs (cn (RMM M0 Lg lo pc gc f) τ) a900 (P1 16 x1)) (ty_d τ) s.heap H locs → lv_has ls 3 [(0, .ref a900), (1, .int x5), (2, .int x33)] → W p l e (rL 4) s m args below meth c H locs 0 0 Q (F0 m 66 ls []) := by
        intro H locs ls kx5_66 iv66_0 hG hl
        refine lv_iload_n X.1 X.2.1 dX10_readsClause_66 rfl (lv_at hl 2 rfl) ?_
        have J86 : ∀ (H : Heap) (locs : List Loc) (ls : Array Slot), (x1.toInt < (Lg : Int)) → TG D cy τ (exs (cn (RMM M0 Lg lo pc gc f) τ) a900 (P1 16 x1)) (ty_d τ) s.heap H locs → lv_has ls 3 [(0, .ref a900), (1, .int x5), (2, .int x33)] → W p l e (rL 4) s m args below meth c H locs 0 0 Q (F0 m 86 ls []) := by
          intro H locs ls iv86_0 hG hl
          refine lv_aload_n X.1 X.2.1 dX10_readsClause_86 rfl (lv_at hl 0 rfl) ?_
          refine lv_dup X.1 X.2.1 dX10_readsClause_87 rfl ?_
          refine gf_10_16 X hG h900 q_892 dX10_readsClause_88 (fun x40 r40 => ?_)
          have e40 := exs_rd r40 (y := x1) rfl
          subst e40
          refine n_ic X dX10_readsClause_91 (by decide) (by decide) (fun x41 t41 => ?_)
          refine n_add X dX10_readsClause_92 (by omega) (by omega) (fun x42 t42 => ?_)
          refine pg_10_16 X hG h900 q_892 dX10_readsClause_93 (cn (RMM M0 Lg (lo + 1) pc gc f) τ) (fun b i v hb q => cf_off hU h900 RMM_lo b i v hb q.1) (fun i v hi q => cf_oth RMM_lo i v hi q.1) (cw_new h900 (ty_ryes rfl (by omega))) (fun H locs hG => ?_)
          refine lv_aload_n X.1 X.2.1 dX10_readsClause_96 rfl (lv_at hl 0 rfl) ?_
          refine gf_10_0 X hG h900 q_876 dX10_readsClause_97 (cn_N _ _ _ h900) (fun a43 h43 r43 => ?_)
          refine n_sp X dX10_readsClause_100 (by decide) (by decide) (fun x44 t44 => ?_)
          refine n_ic X dX10_readsClause_103 (by decide) (by decide) (fun x45 t45 => ?_)
          refine tg_iasf X hG h43 rfl (cI_in (n := 4261) (by omega)) dX10_readsClause_104 (cn_F (S := [6010]) _ _ _ _ h43 (ty_in (n := 6010) rfl) (ty_rno (wNo (n := 4230) (by omega) (RMM_rw hp).2.2.2.1))) (fun H locs hG => ?_)
          refine lv_iload_n X.1 X.2.1 dX10_readsClause_105 rfl (lv_at hl 1 rfl) ?_
          refine n_bp X dX10_readsClause_106 (by decide) (by decide) (fun x46 t46 => ?_)
          refine n_icmp_ne (tgt := 118) X dX10_readsClause_108 (by decide) (fun c47 => ?_) (fun c47 => ?_)
          · exact absurd c47 (by omega)
          · exact absurd c47 (by omega)
        refine n_if_eq (tgt := 86) X dX10_readsClause_67 (by decide) (fun c48 => ?_) (fun c48 => ?_)
        · exact absurd c48 (by omega)
        · exact absurd c48 (by omega)
      refine n_icmp_eq (tgt := 66) X dX10_readsClause_45 (by decide) (fun c49 => ?_) (fun c49 => ?_)
      · exact absurd c49 (by omega)
      · refine lv_iload_n X.1 X.2.1 dX10_readsClause_48 rfl (lv_at hl 1 rfl) ?_
        refine n_bp X dX10_readsClause_49 (by decide) (by decide) (fun x50 t50 => ?_)
        refine n_icmp_eq (tgt := 66) X dX10_readsClause_51 (by decide) (fun c51 => ?_) (fun c51 => ?_)
        · exact absurd c51 (by omega)
        · refine lv_iload_n X.1 X.2.1 dX10_readsClause_54 rfl (lv_at hl 1 rfl) ?_
          refine n_bp X dX10_readsClause_55 (by decide) (by decide) (fun x52 t52 => ?_)
          refine n_icmp_eq (tgt := 66) X dX10_readsClause_57 (by decide) (fun c53 => ?_) (fun c53 => ?_)
          · exact absurd c53 (by omega)
          · refine lv_iload_n X.1 X.2.1 dX10_readsClause_60 rfl (lv_at hl 1 rfl) ?_
            refine n_bp X dX10_readsClause_61 (by decide) (by decide) (fun x54 t54 => ?_)
            refine n_icmp_ne (tgt := 76) X dX10_readsClause_63 (by decide) (fun c55 => ?_) (fun c55 => ?_)
            · exact J76 _ _ _  hG (lv_sub hl [2, 1, 0] rfl)
            · exact absurd c55 (by omega)
  · refine lv_aload_n X.1 X.2.1 dX10_readsClause_11 rfl (lv_at hl 0 rfl) ?_
    refine gf_10_6 X hG h900 q_882 dX10_readsClause_12 ((exs_N cn_N) _ _ _ h900) (fun a56 h56 r56 => ?_)
    refine lv_aload_n X.1 X.2.1 dX10_readsClause_15 rfl (lv_at hl 0 rfl) ?_
    refine gf_10_16 X hG h900 q_892 dX10_readsClause_16 (fun x57 r57 => ?_)
    have e57 := exs_rd r57 (y := x1) rfl
    subst e57
    refine tg_iald X hG h56 rfl (cI_in (n := 240) (by omega)) dX10_readsClause_19 (fun x58 r58 => ?_)
    refine lv_goto (tgt := 24) X.1 X.2.1 dX10_readsClause_20 (by decide) ?_
    refine lv_istore_n (lv' := [(1, .int x58), (0, .ref a900)]) X.1 X.2.1 dX10_readsClause_24 rfl hl (by decide) rfl (fun ls hl => ?_)
    refine lv_aload_n X.1 X.2.1 dX10_readsClause_25 rfl (lv_at hl 1 rfl) ?_
    refine gf_10_0 X hG h900 q_876 dX10_readsClause_26 ((exs_N cn_N) _ _ _ h900) (fun a59 h59 r59 => ?_)
    refine n_sp X dX10_readsClause_29 (by decide) (by decide) (fun x60 t60 => ?_)
    refine tg_iald X hG h59 rfl (cI_in (n := 4261) (by omega)) dX10_readsClause_32 (fun x61 r61 => ?_)
    refine n_if_ne (tgt := 40) X dX10_readsClause_33 (by decide) (fun c62 => ?_) (fun c62 => ?_)
    · refine n_ic X dX10_readsClause_40 (by decide) (by decide) (fun x63 t63 => ?_)
      refine lv_istore_n (lv' := [(2, .int x63), (1, .int x58), (0, .ref a900)]) X.1 X.2.1 dX10_readsClause_41 rfl hl (by decide) rfl (fun ls hl => ?_)
      refine lv_iload_n X.1 X.2.1 dX10_readsClause_42 rfl (lv_at hl 1 rfl) ?_
      refine n_bp X dX10_readsClause_43 (by decide) (by decide) (fun x64 t64 => ?_)
      have J76 : ∀ (H : Heap) (locs : List Loc) (ls : Array Slot), TG D cy τ (exs (cn (RMM M0 Lg lo pc gc f) τ) a900 (P1 16 x1)) (ty_d τ) s.heap H locs → lv_has ls 3 [(0, .ref a900), (1, .int x58), (2, .int x63)] → W p l e (rL 4) s m args below meth c H locs 0 0 Q (F0 m 76 ls []) := by
        intro H locs ls hG hl
        refine lv_aload_n X.1 X.2.1 dX10_readsClause_76 rfl (lv_at hl 0 rfl) ?_
        refine n_ic X dX10_readsClause_77 (by decide) (by decide) (fun x65 t65 => ?_)
        refine lv_aload_n X.1 X.2.1 dX10_readsClause_78 rfl (lv_at hl 0 rfl) ?_
        refine gf_10_16 X hG h900 q_892 dX10_readsClause_79 (fun x66 r66 => ?_)
        have e66 := exs_rd r66 (y := x1) rfl
        subst e66
        refine k_cVi X hG (c_X10_refuse l D cy τ _ (exs_N cn_N) (exs_R cn_R) (exs_F1 (cn_F (S := [1017, 1018])) h900 (by decide)) h900 x65 x1 hR7) h900 rfl yv_X10_refuse q_978 ⟨rfl, rfl⟩ ⟨Nat.le_of_ble_eq_true rfl, Nat.le_of_ble_eq_true rfl⟩ rfl hl.1 rfl (Nat.le_of_ble_eq_true rfl) ⟨Nat.zero_le _, Nat.zero_le _⟩ dX10_readsClause_82 (fun x68 u69 H locs hG po67 => ?_)
        obtain ⟨eu69, po67⟩ := po67
        rw [eu69] at hG
        exact ret _ _ _ _ x68 _ (exs_cl hG) ⟨⟨lo, fun h => absurd h (by omega), pc, gc, f, hp, hg, hf, rfl⟩, by omega⟩ dX10_readsClause_85
      have J66 : ∀ (H : Heap) (locs : List Loc) (ls : Array Slot), (100 ≤ x58.toInt ∧ x58.toInt ≤ 112) → (x1.toInt < (Lg : Int)) → TG D cy τ (exs (cn (RMM M0 Lg lo pc gc f) τ) a900 (P1 16 x1)) (ty_d τ) s.heap H locs → lv_has ls 3 [(0, .ref a900), (1, .int x58), (2, .int x63)] → W p l e (rL 4) s m args below meth c H locs 0 0 Q (F0 m 66 ls []) := by
        intro H locs ls kx58_66 iv66_0 hG hl
        refine lv_iload_n X.1 X.2.1 dX10_readsClause_66 rfl (lv_at hl 2 rfl) ?_
        have J86 : ∀ (H : Heap) (locs : List Loc) (ls : Array Slot), (x1.toInt < (Lg : Int)) → TG D cy τ (exs (cn (RMM M0 Lg lo pc gc f) τ) a900 (P1 16 x1)) (ty_d τ) s.heap H locs → lv_has ls 3 [(0, .ref a900), (1, .int x58), (2, .int x63)] → W p l e (rL 4) s m args below meth c H locs 0 0 Q (F0 m 86 ls []) := by
          intro H locs ls iv86_0 hG hl
          refine lv_aload_n X.1 X.2.1 dX10_readsClause_86 rfl (lv_at hl 0 rfl) ?_
          refine lv_dup X.1 X.2.1 dX10_readsClause_87 rfl ?_
          refine gf_10_16 X hG h900 q_892 dX10_readsClause_88 (fun x70 r70 => ?_)
          have e70 := exs_rd r70 (y := x1) rfl
          subst e70
          refine n_ic X dX10_readsClause_91 (by decide) (by decide) (fun x71 t71 => ?_)
          refine n_add X dX10_readsClause_92 (by omega) (by omega) (fun x72 t72 => ?_)
          refine pg_10_16 X hG h900 q_892 dX10_readsClause_93 (cn (RMM M0 Lg (lo + 1) pc gc f) τ) (fun b i v hb q => cf_off hU h900 RMM_lo b i v hb q.1) (fun i v hi q => cf_oth RMM_lo i v hi q.1) (cw_new h900 (ty_ryes rfl (by omega))) (fun H locs hG => ?_)
          refine lv_aload_n X.1 X.2.1 dX10_readsClause_96 rfl (lv_at hl 0 rfl) ?_
          refine gf_10_0 X hG h900 q_876 dX10_readsClause_97 (cn_N _ _ _ h900) (fun a73 h73 r73 => ?_)
          refine n_sp X dX10_readsClause_100 (by decide) (by decide) (fun x74 t74 => ?_)
          refine n_ic X dX10_readsClause_103 (by decide) (by decide) (fun x75 t75 => ?_)
          refine tg_iasf X hG h73 rfl (cI_in (n := 4261) (by omega)) dX10_readsClause_104 (cn_F (S := [6010]) _ _ _ _ h73 (ty_in (n := 6010) rfl) (ty_rno (wNo (n := 4230) (by omega) (RMM_rw hp).2.2.2.1))) (fun H locs hG => ?_)
          refine lv_iload_n X.1 X.2.1 dX10_readsClause_105 rfl (lv_at hl 1 rfl) ?_
          refine n_bp X dX10_readsClause_106 (by decide) (by decide) (fun x76 t76 => ?_)
          refine n_icmp_ne (tgt := 118) X dX10_readsClause_108 (by decide) (fun c77 => ?_) (fun c77 => ?_)
          · refine lv_iload_n X.1 X.2.1 dX10_readsClause_118 rfl (lv_at hl 1 rfl) ?_
            refine n_bp X dX10_readsClause_119 (by decide) (by decide) (fun x78 t78 => ?_)
            refine n_icmp_ne (tgt := 131) X dX10_readsClause_121 (by decide) (fun c79 => ?_) (fun c79 => ?_)
            · refine lv_iload_n X.1 X.2.1 dX10_readsClause_131 rfl (lv_at hl 1 rfl) ?_
              refine n_bp X dX10_readsClause_132 (by decide) (by decide) (fun x80 t80 => ?_)
              refine n_icmp_ne (tgt := 144) X dX10_readsClause_134 (by decide) (fun c81 => ?_) (fun c81 => ?_)
              · refine lv_iload_n X.1 X.2.1 dX10_readsClause_144 rfl (lv_at hl 2 rfl) ?_
                refine n_if_eq (tgt := 155) X dX10_readsClause_145 (by decide) (fun c82 => ?_) (fun c82 => ?_)
                · refine lv_aload_n X.1 X.2.1 dX10_readsClause_155 rfl (lv_at hl 0 rfl) ?_
                  refine n_ic X dX10_readsClause_156 (by decide) (by decide) (fun x83 t83 => ?_)
                  refine lv_aload_n X.1 X.2.1 dX10_readsClause_157 rfl (lv_at hl 0 rfl) ?_
                  refine gf_10_16 X hG h900 q_892 dX10_readsClause_158 (fun x84 r84 => ?_)
                  have b84 := (cn_R _ _ _ _ h900 r84) _ _ rfl
                  refine n_ic X dX10_readsClause_161 (by decide) (by decide) (fun x85 t85 => ?_)
                  refine n_sub X dX10_readsClause_162 (by omega) (by omega) (fun x86 t86 => ?_)
                  refine k_cVi X hG (c_X10_refuse l D cy τ _ cn_N cn_R (cn_F (S := [1017, 1018])) h900 x83 x86 (RMM_hr h0 hL)) h900 rfl yv_X10_refuse q_978 ⟨rfl, rfl⟩ ⟨Nat.le_of_ble_eq_true rfl, Nat.le_of_ble_eq_true rfl⟩ rfl hl.1 rfl (Nat.le_of_ble_eq_true rfl) ⟨Nat.zero_le _, Nat.zero_le _⟩ dX10_readsClause_163 (fun x88 u89 H locs hG po87 => ?_)
                  obtain ⟨eu89, po87⟩ := po87
                  rw [eu89] at hG
                  exact ret _ _ _ _ x88 _ hG ⟨⟨lo + 1, fun _ => rfl, pc, gc, f, hp, hg, hf, rfl⟩, by omega⟩ dX10_readsClause_166
                · exact absurd c82 (by omega)
              · refine lv_aload_n X.1 X.2.1 dX10_readsClause_137 rfl (lv_at hl 0 rfl) ?_
                refine k_cVi X hG (c_X10_readsGate l D cy τ hU h0 hL hp hg hf h900) h900 rfl yv_X10_readsGate q_1004 ⟨rfl, rfl⟩ ⟨Nat.le_of_ble_eq_true rfl, Nat.le_of_ble_eq_true rfl⟩ rfl hl.1 rfl (Nat.le_of_ble_eq_true rfl) ⟨Nat.zero_le _, Nat.zero_le _⟩ dX10_readsClause_138 (fun x91 u92 H locs hG po90 => ?_)
                obtain ⟨⟨pc92, gc92, f92, hp92, hg92, hf92, eu92⟩, po90⟩ := po90
                rw [eu92] at hG
                refine lv_goto (tgt := 166) X.1 X.2.1 dX10_readsClause_141 (by decide) ?_
                exact ret _ _ _ _ x91 _ hG ⟨⟨lo + 1, fun _ => rfl, pc92, gc92, f92, hp92, hg92, hf92, rfl⟩, by omega⟩ dX10_readsClause_166
            · refine lv_aload_n X.1 X.2.1 dX10_readsClause_124 rfl (lv_at hl 0 rfl) ?_
              refine k_cVi X hG (c_X10_readsTheEnd l D cy τ _ hU h900 (RMM_hr h0 hL) (RMM_rw hp)) h900 rfl yv_X10_readsTheEnd q_1000 ⟨rfl, rfl⟩ ⟨Nat.le_of_ble_eq_true rfl, Nat.le_of_ble_eq_true rfl⟩ rfl hl.1 rfl (Nat.le_of_ble_eq_true rfl) ⟨Nat.zero_le _, Nat.zero_le _⟩ dX10_readsClause_125 (fun x94 u95 H locs hG po93 => ?_)
              obtain ⟨eu95, po93⟩ := po93
              rw [eu95] at hG
              refine lv_goto (tgt := 166) X.1 X.2.1 dX10_readsClause_128 (by decide) ?_
              exact ret _ _ _ _ x94 _ hG ⟨⟨lo + 1, fun _ => rfl, pc, gc, f, hp, hg, hf, rfl⟩, by omega⟩ dX10_readsClause_166
          · refine lv_aload_n X.1 X.2.1 dX10_readsClause_111 rfl (lv_at hl 0 rfl) ?_
            refine k_cVi X hG (c_X10_readsPiece l D cy τ hU h0 hL hp hg hf h900) h900 rfl yv_X10_readsPiece q_982 ⟨rfl, rfl⟩ ⟨Nat.le_of_ble_eq_true rfl, Nat.le_of_ble_eq_true rfl⟩ rfl hl.1 rfl (Nat.le_of_ble_eq_true rfl) ⟨Nat.zero_le _, Nat.zero_le _⟩ dX10_readsClause_112 (fun x97 u98 H locs hG po96 => ?_)
            obtain ⟨⟨pc98, gc98, f98, hp98, hg98, hf98, eu98⟩, po96⟩ := po96
            rw [eu98] at hG
            refine lv_goto (tgt := 166) X.1 X.2.1 dX10_readsClause_115 (by decide) ?_
            exact ret _ _ _ _ x97 _ hG ⟨⟨lo + 1, fun _ => rfl, pc98, gc98, f98, hp98, hg98, hf98, rfl⟩, by omega⟩ dX10_readsClause_166
        refine n_if_eq (tgt := 86) X dX10_readsClause_67 (by decide) (fun c99 => ?_) (fun c99 => ?_)
        · exact J86 _ _ _ (by omega) hG (lv_sub hl [0, 1, 2] rfl)
        · exact absurd c99 (by omega)
      refine n_icmp_eq (tgt := 66) X dX10_readsClause_45 (by decide) (fun c100 => ?_) (fun c100 => ?_)
      · exact J66 _ _ _ (by omega) (by omega) hG (lv_sub hl [2, 1, 0] rfl)
      · refine lv_iload_n X.1 X.2.1 dX10_readsClause_48 rfl (lv_at hl 1 rfl) ?_
        refine n_bp X dX10_readsClause_49 (by decide) (by decide) (fun x101 t101 => ?_)
        refine n_icmp_eq (tgt := 66) X dX10_readsClause_51 (by decide) (fun c102 => ?_) (fun c102 => ?_)
        · exact J66 _ _ _ (by omega) (by omega) hG (lv_sub hl [2, 1, 0] rfl)
        · refine lv_iload_n X.1 X.2.1 dX10_readsClause_54 rfl (lv_at hl 1 rfl) ?_
          refine n_bp X dX10_readsClause_55 (by decide) (by decide) (fun x103 t103 => ?_)
          refine n_icmp_eq (tgt := 66) X dX10_readsClause_57 (by decide) (fun c104 => ?_) (fun c104 => ?_)
          · exact J66 _ _ _ (by omega) (by omega) hG (lv_sub hl [2, 1, 0] rfl)
          · refine lv_iload_n X.1 X.2.1 dX10_readsClause_60 rfl (lv_at hl 1 rfl) ?_
            refine n_bp X dX10_readsClause_61 (by decide) (by decide) (fun x105 t105 => ?_)
            refine n_icmp_ne (tgt := 76) X dX10_readsClause_63 (by decide) (fun c106 => ?_) (fun c106 => ?_)
            · exact J76 _ _ _  hG (lv_sub hl [2, 1, 0] rfl)
            · exact J66 _ _ _ (by omega) (by omega) hG (lv_sub hl [2, 1, 0] rfl)
    · refine n_ic X dX10_readsClause_36 (by decide) (by decide) (fun x107 t107 => ?_)
      refine lv_goto (tgt := 41) X.1 X.2.1 dX10_readsClause_37 (by decide) ?_
      refine lv_istore_n (lv' := [(2, .int x107), (1, .int x58), (0, .ref a900)]) X.1 X.2.1 dX10_readsClause_41 rfl hl (by decide) rfl (fun ls hl => ?_)
      refine lv_iload_n X.1 X.2.1 dX10_readsClause_42 rfl (lv_at hl 1 rfl) ?_
      refine n_bp X dX10_readsClause_43 (by decide) (by decide) (fun x108 t108 => ?_)
      have J76 : ∀ (H : Heap) (locs : List Loc) (ls : Array Slot), TG D cy τ (exs (cn (RMM M0 Lg lo pc gc f) τ) a900 (P1 16 x1)) (ty_d τ) s.heap H locs → lv_has ls 3 [(0, .ref a900), (1, .int x58), (2, .int x107)] → W p l e (rL 4) s m args below meth c H locs 0 0 Q (F0 m 76 ls []) := by
        intro H locs ls hG hl
        refine lv_aload_n X.1 X.2.1 dX10_readsClause_76 rfl (lv_at hl 0 rfl) ?_
        refine n_ic X dX10_readsClause_77 (by decide) (by decide) (fun x109 t109 => ?_)
        refine lv_aload_n X.1 X.2.1 dX10_readsClause_78 rfl (lv_at hl 0 rfl) ?_
        refine gf_10_16 X hG h900 q_892 dX10_readsClause_79 (fun x110 r110 => ?_)
        have e110 := exs_rd r110 (y := x1) rfl
        subst e110
        refine k_cVi X hG (c_X10_refuse l D cy τ _ (exs_N cn_N) (exs_R cn_R) (exs_F1 (cn_F (S := [1017, 1018])) h900 (by decide)) h900 x109 x1 hR7) h900 rfl yv_X10_refuse q_978 ⟨rfl, rfl⟩ ⟨Nat.le_of_ble_eq_true rfl, Nat.le_of_ble_eq_true rfl⟩ rfl hl.1 rfl (Nat.le_of_ble_eq_true rfl) ⟨Nat.zero_le _, Nat.zero_le _⟩ dX10_readsClause_82 (fun x112 u113 H locs hG po111 => ?_)
        obtain ⟨eu113, po111⟩ := po111
        rw [eu113] at hG
        exact ret _ _ _ _ x112 _ (exs_cl hG) ⟨⟨lo, fun h => absurd h (by omega), pc, gc, f, hp, hg, hf, rfl⟩, by omega⟩ dX10_readsClause_85
      have J66 : ∀ (H : Heap) (locs : List Loc) (ls : Array Slot), (100 ≤ x58.toInt ∧ x58.toInt ≤ 112) → (x1.toInt < (Lg : Int)) → TG D cy τ (exs (cn (RMM M0 Lg lo pc gc f) τ) a900 (P1 16 x1)) (ty_d τ) s.heap H locs → lv_has ls 3 [(0, .ref a900), (1, .int x58), (2, .int x107)] → W p l e (rL 4) s m args below meth c H locs 0 0 Q (F0 m 66 ls []) := by
        intro H locs ls kx58_66 iv66_0 hG hl
        refine lv_iload_n X.1 X.2.1 dX10_readsClause_66 rfl (lv_at hl 2 rfl) ?_
        have J86 : ∀ (H : Heap) (locs : List Loc) (ls : Array Slot), (x1.toInt < (Lg : Int)) → TG D cy τ (exs (cn (RMM M0 Lg lo pc gc f) τ) a900 (P1 16 x1)) (ty_d τ) s.heap H locs → lv_has ls 3 [(0, .ref a900), (1, .int x58), (2, .int x107)] → W p l e (rL 4) s m args below meth c H locs 0 0 Q (F0 m 86 ls []) := by
          intro H locs ls iv86_0 hG hl
          refine lv_aload_n X.1 X.2.1 dX10_readsClause_86 rfl (lv_at hl 0 rfl) ?_
          refine lv_dup X.1 X.2.1 dX10_readsClause_87 rfl ?_
          refine gf_10_16 X hG h900 q_892 dX10_readsClause_88 (fun x114 r114 => ?_)
          have e114 := exs_rd r114 (y := x1) rfl
          subst e114
          refine n_ic X dX10_readsClause_91 (by decide) (by decide) (fun x115 t115 => ?_)
          refine n_add X dX10_readsClause_92 (by omega) (by omega) (fun x116 t116 => ?_)
          refine pg_10_16 X hG h900 q_892 dX10_readsClause_93 (cn (RMM M0 Lg (lo + 1) pc gc f) τ) (fun b i v hb q => cf_off hU h900 RMM_lo b i v hb q.1) (fun i v hi q => cf_oth RMM_lo i v hi q.1) (cw_new h900 (ty_ryes rfl (by omega))) (fun H locs hG => ?_)
          refine lv_aload_n X.1 X.2.1 dX10_readsClause_96 rfl (lv_at hl 0 rfl) ?_
          refine gf_10_0 X hG h900 q_876 dX10_readsClause_97 (cn_N _ _ _ h900) (fun a117 h117 r117 => ?_)
          refine n_sp X dX10_readsClause_100 (by decide) (by decide) (fun x118 t118 => ?_)
          refine n_ic X dX10_readsClause_103 (by decide) (by decide) (fun x119 t119 => ?_)
          refine tg_iasf X hG h117 rfl (cI_in (n := 4261) (by omega)) dX10_readsClause_104 (cn_F (S := [6010]) _ _ _ _ h117 (ty_in (n := 6010) rfl) (ty_rno (wNo (n := 4230) (by omega) (RMM_rw hp).2.2.2.1))) (fun H locs hG => ?_)
          refine lv_iload_n X.1 X.2.1 dX10_readsClause_105 rfl (lv_at hl 1 rfl) ?_
          refine n_bp X dX10_readsClause_106 (by decide) (by decide) (fun x120 t120 => ?_)
          refine n_icmp_ne (tgt := 118) X dX10_readsClause_108 (by decide) (fun c121 => ?_) (fun c121 => ?_)
          · refine lv_iload_n X.1 X.2.1 dX10_readsClause_118 rfl (lv_at hl 1 rfl) ?_
            refine n_bp X dX10_readsClause_119 (by decide) (by decide) (fun x122 t122 => ?_)
            refine n_icmp_ne (tgt := 131) X dX10_readsClause_121 (by decide) (fun c123 => ?_) (fun c123 => ?_)
            · refine lv_iload_n X.1 X.2.1 dX10_readsClause_131 rfl (lv_at hl 1 rfl) ?_
              refine n_bp X dX10_readsClause_132 (by decide) (by decide) (fun x124 t124 => ?_)
              refine n_icmp_ne (tgt := 144) X dX10_readsClause_134 (by decide) (fun c125 => ?_) (fun c125 => ?_)
              · refine lv_iload_n X.1 X.2.1 dX10_readsClause_144 rfl (lv_at hl 2 rfl) ?_
                refine n_if_eq (tgt := 155) X dX10_readsClause_145 (by decide) (fun c126 => ?_) (fun c126 => ?_)
                · exact absurd c126 (by omega)
                · refine lv_aload_n X.1 X.2.1 dX10_readsClause_148 rfl (lv_at hl 0 rfl) ?_
                  refine k_cVi X hG (c_X10_readsDriver l D cy τ _ hU h900 (RMM_hr h0 hL) (RMM_rw hp)) h900 rfl yv_X10_readsDriver q_1008 ⟨rfl, rfl⟩ ⟨Nat.le_of_ble_eq_true rfl, Nat.le_of_ble_eq_true rfl⟩ rfl hl.1 rfl (Nat.le_of_ble_eq_true rfl) ⟨Nat.zero_le _, Nat.zero_le _⟩ dX10_readsClause_149 (fun x128 u129 H locs hG po127 => ?_)
                  obtain ⟨eu129, po127⟩ := po127
                  rw [eu129] at hG
                  refine lv_goto (tgt := 166) X.1 X.2.1 dX10_readsClause_152 (by decide) ?_
                  exact ret _ _ _ _ x128 _ hG ⟨⟨lo + 1, fun _ => rfl, pc, gc, f, hp, hg, hf, rfl⟩, by omega⟩ dX10_readsClause_166
              · refine lv_aload_n X.1 X.2.1 dX10_readsClause_137 rfl (lv_at hl 0 rfl) ?_
                refine k_cVi X hG (c_X10_readsGate l D cy τ hU h0 hL hp hg hf h900) h900 rfl yv_X10_readsGate q_1004 ⟨rfl, rfl⟩ ⟨Nat.le_of_ble_eq_true rfl, Nat.le_of_ble_eq_true rfl⟩ rfl hl.1 rfl (Nat.le_of_ble_eq_true rfl) ⟨Nat.zero_le _, Nat.zero_le _⟩ dX10_readsClause_138 (fun x131 u132 H locs hG po130 => ?_)
                obtain ⟨⟨pc132, gc132, f132, hp132, hg132, hf132, eu132⟩, po130⟩ := po130
                rw [eu132] at hG
                refine lv_goto (tgt := 166) X.1 X.2.1 dX10_readsClause_141 (by decide) ?_
                exact ret _ _ _ _ x131 _ hG ⟨⟨lo + 1, fun _ => rfl, pc132, gc132, f132, hp132, hg132, hf132, rfl⟩, by omega⟩ dX10_readsClause_166
            · refine lv_aload_n X.1 X.2.1 dX10_readsClause_124 rfl (lv_at hl 0 rfl) ?_
              refine k_cVi X hG (c_X10_readsTheEnd l D cy τ _ hU h900 (RMM_hr h0 hL) (RMM_rw hp)) h900 rfl yv_X10_readsTheEnd q_1000 ⟨rfl, rfl⟩ ⟨Nat.le_of_ble_eq_true rfl, Nat.le_of_ble_eq_true rfl⟩ rfl hl.1 rfl (Nat.le_of_ble_eq_true rfl) ⟨Nat.zero_le _, Nat.zero_le _⟩ dX10_readsClause_125 (fun x134 u135 H locs hG po133 => ?_)
              obtain ⟨eu135, po133⟩ := po133
              rw [eu135] at hG
              refine lv_goto (tgt := 166) X.1 X.2.1 dX10_readsClause_128 (by decide) ?_
              exact ret _ _ _ _ x134 _ hG ⟨⟨lo + 1, fun _ => rfl, pc, gc, f, hp, hg, hf, rfl⟩, by omega⟩ dX10_readsClause_166
          · refine lv_aload_n X.1 X.2.1 dX10_readsClause_111 rfl (lv_at hl 0 rfl) ?_
            refine k_cVi X hG (c_X10_readsPiece l D cy τ hU h0 hL hp hg hf h900) h900 rfl yv_X10_readsPiece q_982 ⟨rfl, rfl⟩ ⟨Nat.le_of_ble_eq_true rfl, Nat.le_of_ble_eq_true rfl⟩ rfl hl.1 rfl (Nat.le_of_ble_eq_true rfl) ⟨Nat.zero_le _, Nat.zero_le _⟩ dX10_readsClause_112 (fun x137 u138 H locs hG po136 => ?_)
            obtain ⟨⟨pc138, gc138, f138, hp138, hg138, hf138, eu138⟩, po136⟩ := po136
            rw [eu138] at hG
            refine lv_goto (tgt := 166) X.1 X.2.1 dX10_readsClause_115 (by decide) ?_
            exact ret _ _ _ _ x137 _ hG ⟨⟨lo + 1, fun _ => rfl, pc138, gc138, f138, hp138, hg138, hf138, rfl⟩, by omega⟩ dX10_readsClause_166
        refine n_if_eq (tgt := 86) X dX10_readsClause_67 (by decide) (fun c139 => ?_) (fun c139 => ?_)
        · exact absurd c139 (by omega)
        · refine lv_iload_n X.1 X.2.1 dX10_readsClause_70 rfl (lv_at hl 1 rfl) ?_
          refine n_bp X dX10_readsClause_71 (by decide) (by decide) (fun x140 t140 => ?_)
          refine n_icmp_eq (tgt := 86) X dX10_readsClause_73 (by decide) (fun c141 => ?_) (fun c141 => ?_)
          · exact J86 _ _ _ (by omega) hG (lv_sub hl [0, 1, 2] rfl)
          · exact J76 _ _ _  hG (lv_sub hl [0, 1, 2] rfl)
      refine n_icmp_eq (tgt := 66) X dX10_readsClause_45 (by decide) (fun c142 => ?_) (fun c142 => ?_)
      · exact J66 _ _ _ (by omega) (by omega) hG (lv_sub hl [2, 1, 0] rfl)
      · refine lv_iload_n X.1 X.2.1 dX10_readsClause_48 rfl (lv_at hl 1 rfl) ?_
        refine n_bp X dX10_readsClause_49 (by decide) (by decide) (fun x143 t143 => ?_)
        refine n_icmp_eq (tgt := 66) X dX10_readsClause_51 (by decide) (fun c144 => ?_) (fun c144 => ?_)
        · exact J66 _ _ _ (by omega) (by omega) hG (lv_sub hl [2, 1, 0] rfl)
        · refine lv_iload_n X.1 X.2.1 dX10_readsClause_54 rfl (lv_at hl 1 rfl) ?_
          refine n_bp X dX10_readsClause_55 (by decide) (by decide) (fun x145 t145 => ?_)
          refine n_icmp_eq (tgt := 66) X dX10_readsClause_57 (by decide) (fun c146 => ?_) (fun c146 => ?_)
          · exact J66 _ _ _ (by omega) (by omega) hG (lv_sub hl [2, 1, 0] rfl)
          · refine lv_iload_n X.1 X.2.1 dX10_readsClause_60 rfl (lv_at hl 1 rfl) ?_
            refine n_bp X dX10_readsClause_61 (by decide) (by decide) (fun x147 t147 => ?_)
            refine n_icmp_ne (tgt := 76) X dX10_readsClause_63 (by decide) (fun c148 => ?_) (fun c148 => ?_)
            · exact J76 _ _ _  hG (lv_sub hl [2, 1, 0] rfl)
            · exact J66 _ _ _ (by omega) (by omega) hG (lv_sub hl [2, 1, 0] rfl)
