set_option maxHeartbeats 4000000 in
set_option maxRecDepth 100000 in
theorem e_X10_readsGate (l : Launch) (D : va_G) (cy : Nat → ClassId) (τ : ty_T) (hU : UQ τ) {M : md_T} {ma : Nat} (hma : τ ma = some (0, 10)) {c : Nat} {T : Nat → Int32} (hc : c ≤ 240) (hX : MX M c T) {f : Nat → Nat} {st : ST} {a : Nat} (ha : a < c) (hO : OKS st) (hM : MS M (true, st.2) f) (h16 : M 0 16 = some (((a + 1 : Nat) : Int), ((a + 1 : Nat) : Int))) (hk1 : ¬ (4 ≤ wd (T a) ∨ (st.1 = false ∧ wd (T a) ≠ 0))) (hw : wd (T a) = 3) : KI l D cy yX10_readsGate cX10_readsGate 2 .boolean (rL 3) τ (cn M τ) [.ref ma] (fun r w => (r.toInt = 0 ∨ r.toInt = 1) ∧ ∃ M2, w = cn M2 τ ∧ CR T c st a M M2 r) := by
  refine k_metI "EdgeEchoesModel" rfl (by decide +kernel) (Nat.le_of_ble_eq_true rfl) (fun r u h => (cI_nar (cI_01 h.1)).1) ?_
  intro p e s m args below meth cod Q ls X hG hl ret
  have hl : lv_has ls 2 [(0, .ref ma)] := hl
  obtain ⟨o1, o2, o3⟩ := hO
  obtain ⟨nb1, nb2, nb3, nb4, nb5, nb6, nb7, nb8, nb9, nb10, nb11, nb12, nb13, nb14, nb15, nb16, nb17, nb18⟩ := nb_t
  have hst : st.1 = true := by
    cases hh : st.1
    · exact absurd (Or.inr ⟨hh, by omega⟩) hk1
    · rfl
  have hcl0 : cnF T c 3 3 0 (a + 1) = cln T c a := by unfold cln; rw [hw]; rfl
  have hm0 : FR M M := fr_rf
  have ha1 : a + 1 ≤ c := ha
  refine lv_aload_n X.1 X.2.1 dX10_readsGate_0 rfl (lv_at hl 0 rfl) ?_
  refine gf_10_0 X hG hma q_876 dX10_readsGate_1 (cn_N _ _ _ hma) (fun a1 h1 r1 => ?_)
  refine n_sp X dX10_readsGate_4 (by decide) (by decide) (fun x2 t2 => ?_)
  refine tg_iald X hG h1 rfl (cI_in (n := 4261) (by omega)) dX10_readsGate_7 (fun x3 r3 => ?_)
  have b3 := rdR (cn_R _ _ _ _ h1 r3) (n := 4242) (by omega) ((hM.2.2.1 259 (by decide)).trans (rd_259 o1))
  have em : many st 3 = decide (6 ≤ st.2.2.2.2) := rfl
  refine lv_istore_n (lv' := [(1, .int x3), (0, .ref ma)]) X.1 X.2.1 dX10_readsGate_8 rfl hl (by decide) rfl (fun ls hl => ?_)
  refine lv_iload_n X.1 X.2.1 dX10_readsGate_9 rfl (lv_at hl 0 rfl) ?_
  refine n_bp X dX10_readsGate_10 (by decide) (by decide) (fun x4 t4 => ?_)
  have bG : x3.toInt = (st.2.2.2.2 : Int) := by have h1 := b3.1; have h2 := b3.2; exact Int.le_antisymm h2 h1
  refine n_icmp_ne (tgt := 27) X dX10_readsGate_12 (by decide) (fun c5 => ?_) (fun c5 => ?_)
  · have hm : many st 3 = false := by rw [em]; exact decide_eq_false (by omega)
    have hG6 : st.2.2.2.2 < 6 := by omega
    refine lv_aload_n X.1 X.2.1 dX10_readsGate_27 rfl (lv_at hl 1 rfl) ?_
    refine n_ic X dX10_readsGate_28 (by decide) (by decide) (fun x6 t6 => ?_)
    refine n_ic X dX10_readsGate_29 (by decide) (by decide) (fun x7 t7 => ?_)
    refine k_cVi X hG (e_X10_readsNumber l D cy τ hU hma hc hX ha1 h16 x6 x7 (lo := nlo 3 0) (hi := nhi 3 0) (by omega) (by omega)) hma rfl yv_X10_readsNumber q_986 ⟨rfl, rfl⟩ ⟨Nat.le_of_ble_eq_true rfl, Nat.le_of_ble_eq_true rfl⟩ rfl hl.1 rfl (Nat.le_of_ble_eq_true rfl) ⟨Nat.zero_le _, Nat.zero_le _⟩ dX10_readsGate_30 (fun x8 u8 H locs hG po => ?_)
    obtain ⟨pb0, N0, eu0, fr0, pk0, pk1⟩ := po
    rw [eu0] at hG
    refine n_if_ne (tgt := 38) X dX10_readsGate_33 (by decide) (fun cq => ?_) (fun cq => ?_)
    · have hk0n0 : nk T c (a + 1) (nlo 3 0) (nhi 3 0) = 0 := by
        rcases nk_c (T := T) (c := c) (a := (a + 1)) (lo := nlo 3 0) (hi := nhi 3 0) with y | y | y
        · exact y
        · exact absurd (pk1 (by rw [y]; decide)).1 cq
        · exact absurd (pk1 (by rw [y]; decide)).1 cq
      obtain ⟨-, q16_0, q19_0⟩ := pk0 hk0n0
      clear pk0 pk1
      have hin0 := nk_in hk0n0
      have hcl1 : cnF T c 3 2 1 (na T c (a + 1)) = cln T c a := by rw [← hcl0, cnF_y hk0n0]
      have hle1 : na T c (a + 1) ≤ c := na_le ha1
      have frm1 : FR N0 M := fr_tr (fr_1 fr0) hm0
      refine lv_aload_n X.1 X.2.1 dX10_readsGate_38 rfl (lv_at hl 1 rfl) ?_
      refine gf_10_0 X hG hma q_876 dX10_readsGate_39 (cn_N _ _ _ hma) (fun a10 h10 r10 => ?_)
      refine n_sp X dX10_readsGate_42 (by decide) (by decide) (fun x11 t11 => ?_)
      refine n_ic X dX10_readsGate_45 (by decide) (by decide) (fun x12 t12 => ?_)
      refine lv_iload_n X.1 X.2.1 dX10_readsGate_46 rfl (lv_at hl 0 rfl) ?_
      refine n_mul X dX10_readsGate_47 (by rw [t12]; omega) (by rw [t12]; omega) (fun x13 t13 => ?_)
      rw [t12] at t13
      refine n_add X dX10_readsGate_48 (by omega) (by omega) (fun x14 t14 => ?_)
      refine lv_aload_n X.1 X.2.1 dX10_readsGate_49 rfl (lv_at hl 1 rfl) ?_
      refine gf_10_19 X hG hma q_895 dX10_readsGate_50 (fun x15 r15 => ?_)
      have b15 := (cn_R _ _ _ _ hma r15) _ _ (q19_0)
      refine tg_iasf X hG h10 rfl (cI_in (n := 4261) (by omega)) dX10_readsGate_53 (cn_F (S := [6010]) _ _ _ _ h10 (ty_in (n := 6010) rfl) (rwn (k := 3983 + (260 + (3 * st.2.2.2.2 + 0))) (by omega) (((ms_1 hM fr0).2.2.1 _ (by omega)).trans (rd_no o1 (by omega))))) (fun H locs hG => ?_)
      have hm1 := frm1
      refine lv_aload_n X.1 X.2.1 dX10_readsGate_54 rfl (lv_at hl 1 rfl) ?_
      refine n_ic X dX10_readsGate_55 (by decide) (by decide) (fun x16 t16 => ?_)
      refine n_bp X dX10_readsGate_56 (by decide) (by decide) (fun x17 t17 => ?_)
      refine k_cVi X hG (e_X10_readsNumber l D cy τ hU hma hc (mx_fr hX fr0) hle1 q16_0 x16 x17 (lo := nlo 3 1) (hi := nhi 3 1) (by omega) (by omega)) hma rfl yv_X10_readsNumber q_986 ⟨rfl, rfl⟩ ⟨Nat.le_of_ble_eq_true rfl, Nat.le_of_ble_eq_true rfl⟩ rfl hl.1 rfl (Nat.le_of_ble_eq_true rfl) ⟨Nat.zero_le _, Nat.zero_le _⟩ dX10_readsGate_58 (fun x18 u18 H locs hG po => ?_)
      obtain ⟨pb1, N1, eu1, fr1, pk0, pk1⟩ := po
      rw [eu1] at hG
      refine n_if_ne (tgt := 66) X dX10_readsGate_61 (by decide) (fun cq => ?_) (fun cq => ?_)
      · have hk0n1 : nk T c (na T c (a + 1)) (nlo 3 1) (nhi 3 1) = 0 := by
          rcases nk_c (T := T) (c := c) (a := (na T c (a + 1))) (lo := nlo 3 1) (hi := nhi 3 1) with y | y | y
          · exact y
          · exact absurd (pk1 (by rw [y]; decide)).1 cq
          · exact absurd (pk1 (by rw [y]; decide)).1 cq
        obtain ⟨-, q16_1, q19_1⟩ := pk0 hk0n1
        clear pk0 pk1
        have hin1 := nk_in hk0n1
        have hcl2 : cnF T c 3 1 2 (na T c (na T c (a + 1))) = cln T c a := by rw [← hcl1, cnF_y hk0n1]
        have hle2 : na T c (na T c (a + 1)) ≤ c := na_le hle1
        have frm2 : FR N1 M := fr_tr (fr_1 fr1) hm1
        refine lv_aload_n X.1 X.2.1 dX10_readsGate_66 rfl (lv_at hl 1 rfl) ?_
        refine gf_10_0 X hG hma q_876 dX10_readsGate_67 (cn_N _ _ _ hma) (fun a20 h20 r20 => ?_)
        refine n_sp X dX10_readsGate_70 (by decide) (by decide) (fun x21 t21 => ?_)
        refine n_ic X dX10_readsGate_73 (by decide) (by decide) (fun x22 t22 => ?_)
        refine lv_iload_n X.1 X.2.1 dX10_readsGate_74 rfl (lv_at hl 0 rfl) ?_
        refine n_mul X dX10_readsGate_75 (by rw [t22]; omega) (by rw [t22]; omega) (fun x23 t23 => ?_)
        rw [t22] at t23
        refine n_add X dX10_readsGate_76 (by omega) (by omega) (fun x24 t24 => ?_)
        refine n_ic X dX10_readsGate_77 (by decide) (by decide) (fun x25 t25 => ?_)
        refine n_add X dX10_readsGate_78 (by omega) (by omega) (fun x26 t26 => ?_)
        refine lv_aload_n X.1 X.2.1 dX10_readsGate_79 rfl (lv_at hl 1 rfl) ?_
        refine gf_10_19 X hG hma q_895 dX10_readsGate_80 (fun x27 r27 => ?_)
        have b27 := (cn_R _ _ _ _ hma r27) _ _ (q19_1)
        refine tg_iasf X hG h20 rfl (cI_in (n := 4261) (by omega)) dX10_readsGate_83 (cn_F (S := [6010]) _ _ _ _ h20 (ty_in (n := 6010) rfl) (rwn (k := 3983 + (260 + (3 * st.2.2.2.2 + 1))) (by omega) (((ms_1 (ms_1 hM fr0) fr1).2.2.1 _ (by omega)).trans (rd_no o1 (by omega))))) (fun H locs hG => ?_)
        have hm2 := frm2
        refine lv_aload_n X.1 X.2.1 dX10_readsGate_84 rfl (lv_at hl 1 rfl) ?_
        refine n_ic X dX10_readsGate_85 (by decide) (by decide) (fun x28 t28 => ?_)
        refine n_bp X dX10_readsGate_86 (by decide) (by decide) (fun x29 t29 => ?_)
        refine k_cVi X hG (e_X10_readsNumber l D cy τ hU hma hc (mx_fr (mx_fr hX fr0) fr1) hle2 q16_1 x28 x29 (lo := nlo 3 2) (hi := nhi 3 2) (by omega) (by omega)) hma rfl yv_X10_readsNumber q_986 ⟨rfl, rfl⟩ ⟨Nat.le_of_ble_eq_true rfl, Nat.le_of_ble_eq_true rfl⟩ rfl hl.1 rfl (Nat.le_of_ble_eq_true rfl) ⟨Nat.zero_le _, Nat.zero_le _⟩ dX10_readsGate_88 (fun x30 u30 H locs hG po => ?_)
        obtain ⟨pb2, N2, eu2, fr2, pk0, pk1⟩ := po
        rw [eu2] at hG
        refine n_if_ne (tgt := 96) X dX10_readsGate_91 (by decide) (fun cq => ?_) (fun cq => ?_)
        · have hk0n2 : nk T c (na T c (na T c (a + 1))) (nlo 3 2) (nhi 3 2) = 0 := by
            rcases nk_c (T := T) (c := c) (a := (na T c (na T c (a + 1)))) (lo := nlo 3 2) (hi := nhi 3 2) with y | y | y
            · exact y
            · exact absurd (pk1 (by rw [y]; decide)).1 cq
            · exact absurd (pk1 (by rw [y]; decide)).1 cq
          obtain ⟨-, q16_2, q19_2⟩ := pk0 hk0n2
          clear pk0 pk1
          have hin2 := nk_in hk0n2
          have hcl3 : cnF T c 3 0 3 (na T c (na T c (na T c (a + 1)))) = cln T c a := by rw [← hcl2, cnF_y hk0n2]
          have hle3 : na T c (na T c (na T c (a + 1))) ≤ c := na_le hle2
          have frm3 : FR N2 M := fr_tr (fr_1 fr2) hm2
          refine lv_aload_n X.1 X.2.1 dX10_readsGate_96 rfl (lv_at hl 1 rfl) ?_
          refine gf_10_0 X hG hma q_876 dX10_readsGate_97 (cn_N _ _ _ hma) (fun a32 h32 r32 => ?_)
          refine n_sp X dX10_readsGate_100 (by decide) (by decide) (fun x33 t33 => ?_)
          refine n_ic X dX10_readsGate_103 (by decide) (by decide) (fun x34 t34 => ?_)
          refine lv_iload_n X.1 X.2.1 dX10_readsGate_104 rfl (lv_at hl 0 rfl) ?_
          refine n_mul X dX10_readsGate_105 (by rw [t34]; omega) (by rw [t34]; omega) (fun x35 t35 => ?_)
          rw [t34] at t35
          refine n_add X dX10_readsGate_106 (by omega) (by omega) (fun x36 t36 => ?_)
          refine n_ic X dX10_readsGate_107 (by decide) (by decide) (fun x37 t37 => ?_)
          refine n_add X dX10_readsGate_108 (by omega) (by omega) (fun x38 t38 => ?_)
          refine lv_aload_n X.1 X.2.1 dX10_readsGate_109 rfl (lv_at hl 1 rfl) ?_
          refine gf_10_19 X hG hma q_895 dX10_readsGate_110 (fun x39 r39 => ?_)
          have b39 := (cn_R _ _ _ _ hma r39) _ _ (q19_2)
          refine tg_iasf X hG h32 rfl (cI_in (n := 4261) (by omega)) dX10_readsGate_113 (cn_F (S := [6010]) _ _ _ _ h32 (ty_in (n := 6010) rfl) (rwn (k := 3983 + (260 + (3 * st.2.2.2.2 + 2))) (by omega) (((ms_1 (ms_1 (ms_1 hM fr0) fr1) fr2).2.2.1 _ (by omega)).trans (rd_no o1 (by omega))))) (fun H locs hG => ?_)
          have g259 : N2 10 4242 = some ((st.2.2.2.2 : Int), (st.2.2.2.2 : Int)) := ((ms_1 (ms_1 (ms_1 hM fr0) fr1) fr2).2.2.1 259 (by decide)).trans (rd_259 o1)
          refine lv_aload_n X.1 X.2.1 dX10_readsGate_114 rfl (lv_at hl 1 rfl) ?_
          refine gf_10_0 X hG hma q_876 dX10_readsGate_115 (cn_N _ _ _ hma) (fun a40 h40 r40 => ?_)
          refine n_sp X dX10_readsGate_118 (by decide) (by decide) (fun x41 t41 => ?_)
          refine lv_dup2_11 X.1 X.2.1 dX10_readsGate_121 rfl rfl ?_
          refine tg_iald X hG h40 rfl (cI_in (n := 4261) (by omega)) dX10_readsGate_122 (fun x42 r42 => ?_)
          have b42 := rdR (cn_R _ _ _ _ h40 r42) (n := 4242) (by omega) (g259)
          refine n_ic X dX10_readsGate_123 (by decide) (by decide) (fun x43 t43 => ?_)
          refine n_add X dX10_readsGate_124 (by omega) (by omega) (fun x44 t44 => ?_)
          have i45 : x41.toNatClampNeg = 4242 := by have := cI_clamp (x := x41) (by omega); omega
          refine tg_iast X hG h40 rfl (cI_in (n := 4261) (by omega)) dX10_readsGate_125 (cn (rsM N2 (4242) (((st.2.2.2.2 + 1 : Nat) : Int), ((st.2.2.2.2 + 1 : Nat) : Int))) τ) (cw_off hU h40 (by decide) (j0 := 4242) rs_ne) (by rw [i45]; exact cw_oth h40 rs_ne) (by rw [i45]; exact cw_new h40 (ty_ryes rs_at (by omega))) (fun H locs hG => ?_)
          have hfin : FR (rsM N2 4242 (((st.2.2.2.2 + 1 : Nat) : Int), ((st.2.2.2.2 + 1 : Nat) : Int))) M := fr_rs frm3 (by omega)
          have hM3 := (ms_1 (ms_1 (ms_1 hM fr0) fr1) fr2)
          refine lv_aload_n X.1 X.2.1 dX10_readsGate_126 rfl (lv_at hl 1 rfl) ?_
          refine k_cVi X hG (e_X10_readsEnd l D cy τ hU hma hc (mx_f hX hfin) hle3 ((rs_ne _ _ (Or.inl (by decide))).trans q16_2)) hma rfl yv_X10_readsEnd q_996 ⟨rfl, rfl⟩ ⟨Nat.le_of_ble_eq_true rfl, Nat.le_of_ble_eq_true rfl⟩ rfl hl.1 rfl (Nat.le_of_ble_eq_true rfl) ⟨Nat.zero_le _, Nat.zero_le _⟩ dX10_readsGate_127 (fun x46 u46 H locs hG po => ?_)
          obtain ⟨pbE, NE, euE, frE, pe1, pe2⟩ := po
          rw [euE] at hG
          have ecl1 : (cln T c a).1 = 0 := by rw [← hcl3]; rfl
          have ecl2 : (cln T c a).2 = (na T c (na T c (na T c (a + 1)))) := by rw [← hcl3]; rfl
          by_cases hs : sk T c (na T c (na T c (na T c (a + 1)))) < c ∧ (T (sk T c (na T c (na T c (na T c (a + 1)))))).toInt = 59
          · obtain ⟨r1, q16⟩ := pe1 hs
            have hck := clk_y hk1 (by rw [hw]; exact hm) ecl1 (by rw [ecl2]; exact hs)
            rw [ecl2] at hck
            have hms : MS NE (nst T c st a) f := by
              rw [nst_tk, hw]
              show MS NE (st.1, st.2.1, st.2.2.1, st.2.2.2.1, st.2.2.2.2 + 1) _
              rw [hst]
              refine ⟨?_, ?_, fun o ho => ?_, hM3.2.2.2.1, hM3.2.2.2.2⟩
              · rw [frE 0 20 (by omega), rs_ne _ _ (by omega)]; exact hM3.1
              · rw [frE 10 4230 (by omega), rs_ne _ _ (by omega)]; exact hM3.2.1
              · show NE 10 (3983 + o) = rdM st.2.1 (st.2.2.2.2 + 1) _ o
                rw [frE 10 _ (by omega)]
                by_cases a1 : o = 259
                · subst a1; rw [rd_259 o1]; exact rs_at
                rw [rs_ne _ _ (by omega), rd_g0 a1]
                exact hM3.2.2.1 o ho
            exact ret _ _ _ _ x46 _ hG ⟨pbE, _, rfl, cr_yes hck (fr_tr (fr_1 frE) hfin) r1 q16 hms⟩ dX10_readsGate_130
          · obtain ⟨r0, q17, q18, qb⟩ := pe2 hs
            have hck := clk_e hk1 (by rw [hw]; exact hm) ecl1 (by rw [ecl2]; exact hs)
            rw [ecl2] at hck
            exact ret _ _ _ _ x46 _ hG ⟨pbE, _, rfl, cr_no hck (by decide) (fr_tr (fr_1 frE) hfin) r0 q17 q18 qb⟩ dX10_readsGate_130
        · have hkn : nk T c (na T c (na T c (a + 1))) (nlo 3 2) (nhi 3 2) ≠ 0 := by
            intro y
            exact absurd (pk0 y).1 (by omega)
          obtain ⟨-, q17, q18, qb⟩ := pk1 hkn
          clear pk0 pk1
          have hcl : cln T c a = (nk T c (na T c (na T c (a + 1))) (nlo 3 2) (nhi 3 2), sk T c (na T c (na T c (a + 1)))) := by rw [← hcl2, cnF_n hkn]
          refine n_ic X dX10_readsGate_94 (by decide) (by decide) (fun x47 t47 => ?_)
          exact ret _ _ _ _ x47 _ hG ⟨by omega, _, rfl, cr_no ((clk_n hk1 (by rw [hw]; exact hm) (by rw [hcl]; exact hkn)).trans hcl) hkn (fr_tr (fr_1 fr2) hm2) (by omega) q17 q18 qb⟩ dX10_readsGate_95
      · have hkn : nk T c (na T c (a + 1)) (nlo 3 1) (nhi 3 1) ≠ 0 := by
          intro y
          exact absurd (pk0 y).1 (by omega)
        obtain ⟨-, q17, q18, qb⟩ := pk1 hkn
        clear pk0 pk1
        have hcl : cln T c a = (nk T c (na T c (a + 1)) (nlo 3 1) (nhi 3 1), sk T c (na T c (a + 1))) := by rw [← hcl1, cnF_n hkn]
        refine n_ic X dX10_readsGate_64 (by decide) (by decide) (fun x48 t48 => ?_)
        exact ret _ _ _ _ x48 _ hG ⟨by omega, _, rfl, cr_no ((clk_n hk1 (by rw [hw]; exact hm) (by rw [hcl]; exact hkn)).trans hcl) hkn (fr_tr (fr_1 fr1) hm1) (by omega) q17 q18 qb⟩ dX10_readsGate_65
    · have hkn : nk T c (a + 1) (nlo 3 0) (nhi 3 0) ≠ 0 := by
        intro y
        exact absurd (pk0 y).1 (by omega)
      obtain ⟨-, q17, q18, qb⟩ := pk1 hkn
      clear pk0 pk1
      have hcl : cln T c a = (nk T c (a + 1) (nlo 3 0) (nhi 3 0), sk T c (a + 1)) := by rw [← hcl0, cnF_n hkn]
      refine n_ic X dX10_readsGate_36 (by decide) (by decide) (fun x49 t49 => ?_)
      exact ret _ _ _ _ x49 _ hG ⟨by omega, _, rfl, cr_no ((clk_n hk1 (by rw [hw]; exact hm) (by rw [hcl]; exact hkn)).trans hcl) hkn (fr_tr (fr_1 fr0) hm0) (by omega) q17 q18 qb⟩ dX10_readsGate_37
  · have hm : many st 3 = true := by rw [em]; exact decide_eq_true (by omega)
    refine lv_aload_n X.1 X.2.1 dX10_readsGate_15 rfl (lv_at hl 1 rfl) ?_
    refine n_ic X dX10_readsGate_16 (by decide) (by decide) (fun x50 t50 => ?_)
    refine lv_aload_n X.1 X.2.1 dX10_readsGate_17 rfl (lv_at hl 1 rfl) ?_
    refine gf_10_16 X hG hma q_892 dX10_readsGate_18 (fun x51 r51 => ?_)
    have b51 := (cn_R _ _ _ _ hma r51) _ _ (h16)
    refine n_ic X dX10_readsGate_21 (by decide) (by decide) (fun x52 t52 => ?_)
    refine n_sub X dX10_readsGate_22 (by omega) (by omega) (fun x53 t53 => ?_)
    refine k_cVi X hG (e_X10_refuse l D cy τ hU hma x50 x53 (y := 3) (z := (a : Int)) (by omega) (by omega)) hma rfl yv_X10_refuse q_978 ⟨rfl, rfl⟩ ⟨Nat.le_of_ble_eq_true rfl, Nat.le_of_ble_eq_true rfl⟩ rfl hl.1 rfl (Nat.le_of_ble_eq_true rfl) ⟨Nat.zero_le _, Nat.zero_le _⟩ dX10_readsGate_23 (fun x54 u54 H locs hG po => ?_)
    obtain ⟨tr, eu⟩ := po
    rw [eu] at hG
    exact ret _ _ _ _ x54 _ hG ⟨by omega, _, rfl, cr_no (clk_3 hk1 (by rw [hw]; exact hm)) (by decide) (fr_fs (fr_fs fr_rf (by omega)) (by omega)) tr (by rw [fsM_ne _ _ (by omega), fsM_at]; rfl) fsM_at ⟨a + 1, ha, by rw [fsM_ne _ _ (by omega), fsM_ne _ _ (by omega)]; exact h16⟩⟩ dX10_readsGate_26
