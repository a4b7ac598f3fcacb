set_option maxHeartbeats 4000000 in
set_option maxRecDepth 100000 in
theorem e_X10_readsDriver (l : Launch) (D : va_G) (cy : Nat → ClassId) (τ : ty_T) (hU : UQ τ) {M : md_T} {ma : Nat} (hma : τ ma = some (0, 10)) {c : Nat} {T : Nat → Int32} (hc : c ≤ 240) (hX : MX M c T) {f : Nat → Nat} {st : ST} {a : Nat} (ha : a < c) (hO : OKS st) (hM : MS M (true, st.2) f) (h16 : M 0 16 = some (((a + 1 : Nat) : Int), ((a + 1 : Nat) : Int))) (hk1 : ¬ (4 ≤ wd (T a) ∨ (st.1 = false ∧ wd (T a) ≠ 0))) (hw : wd (T a) = 0) (hm : many st 0 = false) : KI l D cy yX10_readsDriver cX10_readsDriver 1 .boolean (rL 3) τ (cn M τ) [.ref ma] (fun r w => (r.toInt = 0 ∨ r.toInt = 1) ∧ ∃ M2, w = cn M2 τ ∧ CR T c st a M M2 r) := by
  refine k_metI "EdgeEchoesModel" rfl (by decide +kernel) (Nat.le_of_ble_eq_true rfl) (fun r u h => (cI_nar (cI_01 h.1)).1) ?_
  intro p e s m args below meth cod Q ls X hG hl ret
  have hl : lv_has ls 1 [(0, .ref ma)] := hl
  obtain ⟨o1, o2, o3⟩ := hO
  obtain ⟨nb1, nb2, nb3, nb4, nb5, nb6, nb7, nb8, nb9, nb10, nb11, nb12, nb13, nb14, nb15, nb16, nb17, nb18⟩ := nb_t
  have hcl0 : cnF T c 0 2 0 (a + 1) = cln T c a := by unfold cln; rw [hw]; rfl
  have hm0 : FR M M := fr_rf
  have ha1 : a + 1 ≤ c := ha
  refine lv_aload_n X.1 X.2.1 dX10_readsDriver_0 rfl (lv_at hl 0 rfl) ?_
  refine n_ic X dX10_readsDriver_1 (by decide) (by decide) (fun x1 t1 => ?_)
  refine n_bp X dX10_readsDriver_2 (by decide) (by decide) (fun x2 t2 => ?_)
  refine k_cVi X hG (e_X10_readsNumber l D cy τ hU hma hc hX ha1 h16 x1 x2 (lo := nlo 0 0) (hi := nhi 0 0) (by omega) (by omega)) hma rfl yv_X10_readsNumber q_986 ⟨rfl, rfl⟩ ⟨Nat.le_of_ble_eq_true rfl, Nat.le_of_ble_eq_true rfl⟩ rfl hl.1 rfl (Nat.le_of_ble_eq_true rfl) ⟨Nat.zero_le _, Nat.zero_le _⟩ dX10_readsDriver_4 (fun x3 u3 H locs hG po => ?_)
  obtain ⟨pb0, N0, eu0, fr0, pk0, pk1⟩ := po
  rw [eu0] at hG
  refine n_if_ne (tgt := 12) X dX10_readsDriver_7 (by decide) (fun cq => ?_) (fun cq => ?_)
  · have hk0n0 : nk T c (a + 1) (nlo 0 0) (nhi 0 0) = 0 := by
      rcases nk_c (T := T) (c := c) (a := (a + 1)) (lo := nlo 0 0) (hi := nhi 0 0) with y | y | y
      · exact y
      · exact absurd (pk1 (by rw [y]; decide)).1 cq
      · exact absurd (pk1 (by rw [y]; decide)).1 cq
    obtain ⟨-, q16_0, q19_0⟩ := pk0 hk0n0
    clear pk0 pk1
    have hin0 := nk_in hk0n0
    have hcl1 : cnF T c 0 1 1 (na T c (a + 1)) = cln T c a := by rw [← hcl0, cnF_y hk0n0]
    have hle1 : na T c (a + 1) ≤ c := na_le ha1
    have frm1 : FR N0 M := fr_tr (fr_1 fr0) hm0
    refine lv_aload_n X.1 X.2.1 dX10_readsDriver_12 rfl (lv_at hl 0 rfl) ?_
    refine gf_10_0 X hG hma q_876 dX10_readsDriver_13 (cn_N _ _ _ hma) (fun a5 h5 r5 => ?_)
    refine n_sp X dX10_readsDriver_16 (by decide) (by decide) (fun x6 t6 => ?_)
    refine lv_aload_n X.1 X.2.1 dX10_readsDriver_19 rfl (lv_at hl 0 rfl) ?_
    refine gf_10_19 X hG hma q_895 dX10_readsDriver_20 (fun x7 r7 => ?_)
    have b7 := (cn_R _ _ _ _ hma r7) _ _ (q19_0)
    refine tg_iasf X hG h5 rfl (cI_in (n := 4261) (by omega)) dX10_readsDriver_23 (cn_F (S := [6010]) _ _ _ _ h5 (ty_in (n := 6010) rfl) (rwr (k := 3983 + 246) (by omega) (((ms_1 hM fr0).2.2.1 246 (by decide)).trans (rd_246 o1)) (by omega))) (fun H locs hG => ?_)
    have hm1 := frm1
    refine lv_aload_n X.1 X.2.1 dX10_readsDriver_24 rfl (lv_at hl 0 rfl) ?_
    refine n_ic X dX10_readsDriver_25 (by decide) (by decide) (fun x8 t8 => ?_)
    refine n_bp X dX10_readsDriver_26 (by decide) (by decide) (fun x9 t9 => ?_)
    refine k_cVi X hG (e_X10_readsNumber l D cy τ hU hma hc (mx_fr hX fr0) hle1 q16_0 x8 x9 (lo := nlo 0 1) (hi := nhi 0 1) (by omega) (by omega)) hma rfl yv_X10_readsNumber q_986 ⟨rfl, rfl⟩ ⟨Nat.le_of_ble_eq_true rfl, Nat.le_of_ble_eq_true rfl⟩ rfl hl.1 rfl (Nat.le_of_ble_eq_true rfl) ⟨Nat.zero_le _, Nat.zero_le _⟩ dX10_readsDriver_28 (fun x10 u10 H locs hG po => ?_)
    obtain ⟨pb1, N1, eu1, fr1, pk0, pk1⟩ := po
    rw [eu1] at hG
    refine n_if_ne (tgt := 36) X dX10_readsDriver_31 (by decide) (fun cq => ?_) (fun cq => ?_)
    · have hk0n1 : nk T c (na T c (a + 1)) (nlo 0 1) (nhi 0 1) = 0 := by
        rcases nk_c (T := T) (c := c) (a := (na T c (a + 1))) (lo := nlo 0 1) (hi := nhi 0 1) with y | y | y
        · exact y
        · exact absurd (pk1 (by rw [y]; decide)).1 cq
        · exact absurd (pk1 (by rw [y]; decide)).1 cq
      obtain ⟨-, q16_1, q19_1⟩ := pk0 hk0n1
      clear pk0 pk1
      have hin1 := nk_in hk0n1
      have hcl2 : cnF T c 0 0 2 (na T c (na T c (a + 1))) = cln T c a := by rw [← hcl1, cnF_y hk0n1]
      have hle2 : na T c (na T c (a + 1)) ≤ c := na_le hle1
      have frm2 : FR N1 M := fr_tr (fr_1 fr1) hm1
      refine lv_aload_n X.1 X.2.1 dX10_readsDriver_36 rfl (lv_at hl 0 rfl) ?_
      refine gf_10_0 X hG hma q_876 dX10_readsDriver_37 (cn_N _ _ _ hma) (fun a12 h12 r12 => ?_)
      refine n_sp X dX10_readsDriver_40 (by decide) (by decide) (fun x13 t13 => ?_)
      refine lv_aload_n X.1 X.2.1 dX10_readsDriver_43 rfl (lv_at hl 0 rfl) ?_
      refine gf_10_19 X hG hma q_895 dX10_readsDriver_44 (fun x14 r14 => ?_)
      have b14 := (cn_R _ _ _ _ hma r14) _ _ (q19_1)
      refine tg_iasf X hG h12 rfl (cI_in (n := 4261) (by omega)) dX10_readsDriver_47 (cn_F (S := [6010]) _ _ _ _ h12 (ty_in (n := 6010) rfl) (rwn (k := 3983 + 248) (by omega) (((ms_1 (ms_1 hM fr0) fr1).2.2.1 248 (by decide)).trans (rd_248 o1)))) (fun H locs hG => ?_)
      have hfin := frm2
      refine lv_aload_n X.1 X.2.1 dX10_readsDriver_48 rfl (lv_at hl 0 rfl) ?_
      refine k_cVi X hG (e_X10_readsEnd l D cy τ hU hma hc (mx_fr (mx_fr hX fr0) fr1) hle2 q16_1) hma rfl yv_X10_readsEnd q_996 ⟨rfl, rfl⟩ ⟨Nat.le_of_ble_eq_true rfl, Nat.le_of_ble_eq_true rfl⟩ rfl hl.1 rfl (Nat.le_of_ble_eq_true rfl) ⟨Nat.zero_le _, Nat.zero_le _⟩ dX10_readsDriver_49 (fun x15 u15 H locs hG po => ?_)
      obtain ⟨pbE, NE, euE, frE, pe1, pe2⟩ := po
      rw [euE] at hG
      have ecl1 : (cln T c a).1 = 0 := by rw [← hcl2]; rfl
      have ecl2 : (cln T c a).2 = (na T c (na T c (a + 1))) := by rw [← hcl2]; rfl
      by_cases hs : sk T c (na T c (na T c (a + 1))) < c ∧ (T (sk T c (na T c (na T c (a + 1))))).toInt = 59
      · obtain ⟨r1, q16⟩ := pe1 hs
        have hck := clk_y hk1 (by rw [hw]; exact hm) ecl1 (by rw [ecl2]; exact hs)
        rw [ecl2] at hck
        have hms : MS NE (nst T c st a) f := by
          rw [nst_tk, hw]
          exact ms_1 (ms_1 (ms_1 hM fr0) fr1) frE
        exact ret _ _ _ _ x15 _ hG ⟨pbE, _, rfl, cr_yes hck (fr_tr (fr_1 frE) hfin) r1 q16 hms⟩ dX10_readsDriver_52
      · obtain ⟨r0, q17, q18, qb⟩ := pe2 hs
        have hck := clk_e hk1 (by rw [hw]; exact hm) ecl1 (by rw [ecl2]; exact hs)
        rw [ecl2] at hck
        exact ret _ _ _ _ x15 _ hG ⟨pbE, _, rfl, cr_no hck (by decide) (fr_tr (fr_1 frE) hfin) r0 q17 q18 qb⟩ dX10_readsDriver_52
    · have hkn : nk T c (na T c (a + 1)) (nlo 0 1) (nhi 0 1) ≠ 0 := by
        intro y
        exact absurd (pk0 y).1 (by omega)
      obtain ⟨-, q17, q18, qb⟩ := pk1 hkn
      clear pk0 pk1
      have hcl : cln T c a = (nk T c (na T c (a + 1)) (nlo 0 1) (nhi 0 1), sk T c (na T c (a + 1))) := by rw [← hcl1, cnF_n hkn]
      refine n_ic X dX10_readsDriver_34 (by decide) (by decide) (fun x16 t16 => ?_)
      exact ret _ _ _ _ x16 _ hG ⟨by omega, _, rfl, cr_no ((clk_n hk1 (by rw [hw]; exact hm) (by rw [hcl]; exact hkn)).trans hcl) hkn (fr_tr (fr_1 fr1) hm1) (by omega) q17 q18 qb⟩ dX10_readsDriver_35
  · have hkn : nk T c (a + 1) (nlo 0 0) (nhi 0 0) ≠ 0 := by
      intro y
      exact absurd (pk0 y).1 (by omega)
    obtain ⟨-, q17, q18, qb⟩ := pk1 hkn
    clear pk0 pk1
    have hcl : cln T c a = (nk T c (a + 1) (nlo 0 0) (nhi 0 0), sk T c (a + 1)) := by rw [← hcl0, cnF_n hkn]
    refine n_ic X dX10_readsDriver_10 (by decide) (by decide) (fun x17 t17 => ?_)
    exact ret _ _ _ _ x17 _ hG ⟨by omega, _, rfl, cr_no ((clk_n hk1 (by rw [hw]; exact hm) (by rw [hcl]; exact hkn)).trans hcl) hkn (fr_tr (fr_1 fr0) hm0) (by omega) q17 q18 qb⟩ dX10_readsDriver_11
