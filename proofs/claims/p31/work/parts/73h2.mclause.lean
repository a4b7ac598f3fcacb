set_option maxHeartbeats 4000000 in
set_option maxRecDepth 100000 in
theorem e_X10_readsTheEnd (l : Launch) (D : va_G) (cy : Nat → ClassId) (τ : ty_T) (hU : UQ τ) {M : md_T} {ma : Nat} (hma : τ ma = some (0, 10)) {c : Nat} {T : Nat → Int32} (hc : c ≤ 240) (hX : MX M c T) {f : Nat → Nat} {st : ST} {a : Nat} (ha : a < c) (hO : OKS st) (hM : MS M (true, st.2) f) (h16 : M 0 16 = some (((a + 1 : Nat) : Int), ((a + 1 : Nat) : Int))) (hk1 : ¬ (4 ≤ wd (T a) ∨ (st.1 = false ∧ wd (T a) ≠ 0))) (hw : wd (T a) = 2) : KI l D cy yX10_readsTheEnd cX10_readsTheEnd 1 .boolean (rL 3) τ (cn M τ) [.ref ma] (fun r w => (r.toInt = 0 ∨ r.toInt = 1) ∧ ∃ M2, w = cn M2 τ ∧ CR T c st a M M2 r) := by
  refine k_metI "EdgeEchoesModel" rfl (by decide +kernel) (Nat.le_of_ble_eq_true rfl) (fun r u h => (cI_nar (cI_01 h.1)).1) ?_
  intro p e s m args below meth cod Q ls X hG hl ret
  have hl : lv_has ls 1 [(0, .ref ma)] := hl
  obtain ⟨o1, o2, o3⟩ := hO
  obtain ⟨nb1, nb2, nb3, nb4, nb5, nb6, nb7, nb8, nb9, nb10, nb11, nb12, nb13, nb14, nb15, nb16, nb17, nb18⟩ := nb_t
  have hst : st.1 = true := by
    cases hh : st.1
    · exact absurd (Or.inr ⟨hh, by omega⟩) hk1
    · rfl
  have hcl0 : cnF T c 2 2 0 (a + 1) = cln T c a := by unfold cln; rw [hw]; rfl
  have hm0 : FR M M := fr_rf
  have ha1 : a + 1 ≤ c := ha
  refine lv_aload_n X.1 X.2.1 dX10_readsTheEnd_0 rfl (lv_at hl 0 rfl) ?_
  refine gf_10_20 X hG hma q_896 dX10_readsTheEnd_1 (fun x1 z1 r1 => ?_)
  have b1 := (cn_R _ _ _ _ hma r1) _ _ hM.1
  have em : many st 2 = st.2.2.2.1 := rfl
  refine n_if_eq (tgt := 19) X dX10_readsTheEnd_4 (by decide) (fun c2 => ?_) (fun c2 => ?_)
  · have hm : many st 2 = false := by
      rw [em]
      cases hh : st.2.2.2.1
      · rfl
      · have b9 := b1
        rw [show ((true, st.2) : ST).2.2.2.1 = st.2.2.2.1 from rfl, hh] at b9
        have b9 : (1 : Int) ≤ x1.toInt := b9.1
        omega
    refine lv_aload_n X.1 X.2.1 dX10_readsTheEnd_19 rfl (lv_at hl 0 rfl) ?_
    refine n_ic X dX10_readsTheEnd_20 (by decide) (by decide) (fun x3 t3 => ?_)
    refine pg_10_20 X hG hma q_896 (Or.inr (by omega)) dX10_readsTheEnd_21 (cn (fsM M 20 (1, 1)) τ) (cf_off hU hma fsM_ne) (cf_oth fsM_ne) (cw_new hma (ty_ryes fsM_at (by omega))) (fun H locs hG => ?_)
    have hM2 : MS (fsM M 20 (1, 1)) (true, st.2.1, st.2.2.1, true, st.2.2.2.2) f := ⟨fsM_at, (fsM_ne _ _ (Or.inl (by decide))).trans hM.2.1, fun o ho => (fsM_ne _ _ (Or.inl (by decide))).trans (hM.2.2.1 o ho), hM.2.2.2.1, hM.2.2.2.2⟩
    have hm0 : FR (fsM M 20 (1, 1)) M := fr_fs fr_rf (by omega)
    refine lv_aload_n X.1 X.2.1 dX10_readsTheEnd_24 rfl (lv_at hl 0 rfl) ?_
    refine n_ic X dX10_readsTheEnd_25 (by decide) (by decide) (fun x4 t4 => ?_)
    refine n_ic X dX10_readsTheEnd_26 (by decide) (by decide) (fun x5 t5 => ?_)
    refine k_cVi X hG (e_X10_readsNumber l D cy τ hU hma hc (mx_f hX hm0) ha1 ((fsM_ne _ _ (by omega)).trans h16) x4 x5 (lo := nlo 2 0) (hi := nhi 2 0) (by omega) (by omega)) hma rfl yv_X10_readsNumber q_986 ⟨rfl, rfl⟩ ⟨Nat.le_of_ble_eq_true rfl, Nat.le_of_ble_eq_true rfl⟩ rfl hl.1 rfl (Nat.le_of_ble_eq_true rfl) ⟨Nat.zero_le _, Nat.zero_le _⟩ dX10_readsTheEnd_27 (fun x6 u6 H locs hG po => ?_)
    obtain ⟨pb0, N0, eu0, fr0, pk0, pk1⟩ := po
    rw [eu0] at hG
    refine n_if_ne (tgt := 35) X dX10_readsTheEnd_30 (by decide) (fun cq => ?_) (fun cq => ?_)
    · have hk0n0 : nk T c (a + 1) (nlo 2 0) (nhi 2 0) = 0 := by
        rcases nk_c (T := T) (c := c) (a := (a + 1)) (lo := nlo 2 0) (hi := nhi 2 0) with y | y | y
        · exact y
        · exact absurd (pk1 (by rw [y]; decide)).1 cq
        · exact absurd (pk1 (by rw [y]; decide)).1 cq
      obtain ⟨-, q16_0, q19_0⟩ := pk0 hk0n0
      clear pk0 pk1
      have hin0 := nk_in hk0n0
      have hcl1 : cnF T c 2 1 1 (na T c (a + 1)) = cln T c a := by rw [← hcl0, cnF_y hk0n0]
      have hle1 : na T c (a + 1) ≤ c := na_le ha1
      have frm1 : FR N0 M := fr_tr (fr_1 fr0) hm0
      refine lv_aload_n X.1 X.2.1 dX10_readsTheEnd_35 rfl (lv_at hl 0 rfl) ?_
      refine gf_10_0 X hG hma q_876 dX10_readsTheEnd_36 (cn_N _ _ _ hma) (fun a8 h8 r8 => ?_)
      refine n_sp X dX10_readsTheEnd_39 (by decide) (by decide) (fun x9 t9 => ?_)
      refine lv_aload_n X.1 X.2.1 dX10_readsTheEnd_42 rfl (lv_at hl 0 rfl) ?_
      refine gf_10_19 X hG hma q_895 dX10_readsTheEnd_43 (fun x10 r10 => ?_)
      have b10 := (cn_R _ _ _ _ hma r10) _ _ (q19_0)
      refine tg_iasf X hG h8 rfl (cI_in (n := 4261) (by omega)) dX10_readsTheEnd_46 (cn_F (S := [6010]) _ _ _ _ h8 (ty_in (n := 6010) rfl) (rwn (k := 3983 + 244) (by omega) (((ms_1 hM2 fr0).2.2.1 244 (by decide)).trans (rd_244 o1)))) (fun H locs hG => ?_)
      have hm1 := frm1
      refine lv_aload_n X.1 X.2.1 dX10_readsTheEnd_47 rfl (lv_at hl 0 rfl) ?_
      refine n_ic X dX10_readsTheEnd_48 (by decide) (by decide) (fun x11 t11 => ?_)
      refine n_bp X dX10_readsTheEnd_49 (by decide) (by decide) (fun x12 t12 => ?_)
      refine k_cVi X hG (e_X10_readsNumber l D cy τ hU hma hc (mx_fr (mx_f hX hm0) fr0) hle1 q16_0 x11 x12 (lo := nlo 2 1) (hi := nhi 2 1) (by omega) (by omega)) hma rfl yv_X10_readsNumber q_986 ⟨rfl, rfl⟩ ⟨Nat.le_of_ble_eq_true rfl, Nat.le_of_ble_eq_true rfl⟩ rfl hl.1 rfl (Nat.le_of_ble_eq_true rfl) ⟨Nat.zero_le _, Nat.zero_le _⟩ dX10_readsTheEnd_51 (fun x13 u13 H locs hG po => ?_)
      obtain ⟨pb1, N1, eu1, fr1, pk0, pk1⟩ := po
      rw [eu1] at hG
      refine n_if_ne (tgt := 59) X dX10_readsTheEnd_54 (by decide) (fun cq => ?_) (fun cq => ?_)
      · have hk0n1 : nk T c (na T c (a + 1)) (nlo 2 1) (nhi 2 1) = 0 := by
          rcases nk_c (T := T) (c := c) (a := (na T c (a + 1))) (lo := nlo 2 1) (hi := nhi 2 1) with y | y | y
          · exact y
          · exact absurd (pk1 (by rw [y]; decide)).1 cq
          · exact absurd (pk1 (by rw [y]; decide)).1 cq
        obtain ⟨-, q16_1, q19_1⟩ := pk0 hk0n1
        clear pk0 pk1
        have hin1 := nk_in hk0n1
        have hcl2 : cnF T c 2 0 2 (na T c (na T c (a + 1))) = cln T c a := by rw [← hcl1, cnF_y hk0n1]
        have hle2 : na T c (na T c (a + 1)) ≤ c := na_le hle1
        have frm2 : FR N1 M := fr_tr (fr_1 fr1) hm1
        refine lv_aload_n X.1 X.2.1 dX10_readsTheEnd_59 rfl (lv_at hl 0 rfl) ?_
        refine gf_10_0 X hG hma q_876 dX10_readsTheEnd_60 (cn_N _ _ _ hma) (fun a15 h15 r15 => ?_)
        refine n_sp X dX10_readsTheEnd_63 (by decide) (by decide) (fun x16 t16 => ?_)
        refine lv_aload_n X.1 X.2.1 dX10_readsTheEnd_66 rfl (lv_at hl 0 rfl) ?_
        refine gf_10_19 X hG hma q_895 dX10_readsTheEnd_67 (fun x17 r17 => ?_)
        have b17 := (cn_R _ _ _ _ hma r17) _ _ (q19_1)
        refine tg_iasf X hG h15 rfl (cI_in (n := 4261) (by omega)) dX10_readsTheEnd_70 (cn_F (S := [6010]) _ _ _ _ h15 (ty_in (n := 6010) rfl) (rwr (k := 3983 + 245) (by omega) (((ms_1 (ms_1 hM2 fr0) fr1).2.2.1 245 (by decide)).trans (rd_245 o1)) (by omega))) (fun H locs hG => ?_)
        have hfin := frm2
        refine lv_aload_n X.1 X.2.1 dX10_readsTheEnd_71 rfl (lv_at hl 0 rfl) ?_
        refine k_cVi X hG (e_X10_readsEnd l D cy τ hU hma hc (mx_fr (mx_fr (mx_f hX hm0) fr0) fr1) hle2 q16_1) hma rfl yv_X10_readsEnd q_996 ⟨rfl, rfl⟩ ⟨Nat.le_of_ble_eq_true rfl, Nat.le_of_ble_eq_true rfl⟩ rfl hl.1 rfl (Nat.le_of_ble_eq_true rfl) ⟨Nat.zero_le _, Nat.zero_le _⟩ dX10_readsTheEnd_72 (fun x18 u18 H locs hG po => ?_)
        obtain ⟨pbE, NE, euE, frE, pe1, pe2⟩ := po
        rw [euE] at hG
        have ecl1 : (cln T c a).1 = 0 := by rw [← hcl2]; rfl
        have ecl2 : (cln T c a).2 = (na T c (na T c (a + 1))) := by rw [← hcl2]; rfl
        by_cases hs : sk T c (na T c (na T c (a + 1))) < c ∧ (T (sk T c (na T c (na T c (a + 1))))).toInt = 59
        · obtain ⟨r1, q16⟩ := pe1 hs
          have hck := clk_y hk1 (by rw [hw]; exact hm) ecl1 (by rw [ecl2]; exact hs)
          rw [ecl2] at hck
          have hms : MS NE (nst T c st a) f := by
            rw [nst_tk, hw]
            show MS NE (st.1, st.2.1, st.2.2.1, true, st.2.2.2.2) f
            rw [hst]
            exact ms_1 (ms_1 (ms_1 hM2 fr0) fr1) frE
          exact ret _ _ _ _ x18 _ hG ⟨pbE, _, rfl, cr_yes hck (fr_tr (fr_1 frE) hfin) r1 q16 hms⟩ dX10_readsTheEnd_75
        · obtain ⟨r0, q17, q18, qb⟩ := pe2 hs
          have hck := clk_e hk1 (by rw [hw]; exact hm) ecl1 (by rw [ecl2]; exact hs)
          rw [ecl2] at hck
          exact ret _ _ _ _ x18 _ hG ⟨pbE, _, rfl, cr_no hck (by decide) (fr_tr (fr_1 frE) hfin) r0 q17 q18 qb⟩ dX10_readsTheEnd_75
      · have hkn : nk T c (na T c (a + 1)) (nlo 2 1) (nhi 2 1) ≠ 0 := by
          intro y
          exact absurd (pk0 y).1 (by omega)
        obtain ⟨-, q17, q18, qb⟩ := pk1 hkn
        clear pk0 pk1
        have hcl : cln T c a = (nk T c (na T c (a + 1)) (nlo 2 1) (nhi 2 1), sk T c (na T c (a + 1))) := by rw [← hcl1, cnF_n hkn]
        refine n_ic X dX10_readsTheEnd_57 (by decide) (by decide) (fun x19 t19 => ?_)
        exact ret _ _ _ _ x19 _ hG ⟨by omega, _, rfl, cr_no ((clk_n hk1 (by rw [hw]; exact hm) (by rw [hcl]; exact hkn)).trans hcl) hkn (fr_tr (fr_1 fr1) hm1) (by omega) q17 q18 qb⟩ dX10_readsTheEnd_58
    · have hkn : nk T c (a + 1) (nlo 2 0) (nhi 2 0) ≠ 0 := by
        intro y
        exact absurd (pk0 y).1 (by omega)
      obtain ⟨-, q17, q18, qb⟩ := pk1 hkn
      clear pk0 pk1
      have hcl : cln T c a = (nk T c (a + 1) (nlo 2 0) (nhi 2 0), sk T c (a + 1)) := by rw [← hcl0, cnF_n hkn]
      refine n_ic X dX10_readsTheEnd_33 (by decide) (by decide) (fun x20 t20 => ?_)
      exact ret _ _ _ _ x20 _ hG ⟨by omega, _, rfl, cr_no ((clk_n hk1 (by rw [hw]; exact hm) (by rw [hcl]; exact hkn)).trans hcl) hkn (fr_tr (fr_1 fr0) hm0) (by omega) q17 q18 qb⟩ dX10_readsTheEnd_34
  · have hm : many st 2 = true := by
      rw [em]
      cases hh : st.2.2.2.1
      · have b9 := b1
        rw [show ((true, st.2) : ST).2.2.2.1 = st.2.2.2.1 from rfl, hh] at b9
        have b9 : x1.toInt ≤ 0 := b9.2
        omega
      · rfl
    refine lv_aload_n X.1 X.2.1 dX10_readsTheEnd_7 rfl (lv_at hl 0 rfl) ?_
    refine n_ic X dX10_readsTheEnd_8 (by decide) (by decide) (fun x21 t21 => ?_)
    refine lv_aload_n X.1 X.2.1 dX10_readsTheEnd_9 rfl (lv_at hl 0 rfl) ?_
    refine gf_10_16 X hG hma q_892 dX10_readsTheEnd_10 (fun x22 r22 => ?_)
    have b22 := (cn_R _ _ _ _ hma r22) _ _ (h16)
    refine n_ic X dX10_readsTheEnd_13 (by decide) (by decide) (fun x23 t23 => ?_)
    refine n_sub X dX10_readsTheEnd_14 (by omega) (by omega) (fun x24 t24 => ?_)
    refine k_cVi X hG (e_X10_refuse l D cy τ hU hma x21 x24 (y := 3) (z := (a : Int)) (by omega) (by omega)) hma rfl yv_X10_refuse q_978 ⟨rfl, rfl⟩ ⟨Nat.le_of_ble_eq_true rfl, Nat.le_of_ble_eq_true rfl⟩ rfl hl.1 rfl (Nat.le_of_ble_eq_true rfl) ⟨Nat.zero_le _, Nat.zero_le _⟩ dX10_readsTheEnd_15 (fun x25 u25 H locs hG po => ?_)
    obtain ⟨tr, eu⟩ := po
    rw [eu] at hG
    exact ret _ _ _ _ x25 _ hG ⟨by omega, _, rfl, cr_no (clk_3 hk1 (by rw [hw]; exact hm)) (by decide) (fr_fs (fr_fs fr_rf (by omega)) (by omega)) tr (by rw [fsM_ne _ _ (by omega), fsM_at]; rfl) fsM_at ⟨a + 1, ha, by rw [fsM_ne _ _ (by omega), fsM_ne _ _ (by omega)]; exact h16⟩⟩ dX10_readsTheEnd_18
