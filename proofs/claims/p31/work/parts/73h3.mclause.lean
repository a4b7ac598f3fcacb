set_option maxHeartbeats 4000000 in
set_option maxRecDepth 100000 in
theorem e_X10_readsPiece (l : Launch) (D : va_G) (cy : Nat → ClassId) (τ : ty_T) (hU : UQ τ) {M : md_T} {ma : Nat} (hma : τ ma = some (0, 10)) {c : Nat} {T : Nat → Int32} (hc : c ≤ 240) (hX : MX M c T) {f : Nat → Nat} {st : ST} {a : Nat} (ha : a < c) (hO : OKS st) (hM : MS M (true, st.2) f) (h16 : M 0 16 = some (((a + 1 : Nat) : Int), ((a + 1 : Nat) : Int))) (hk1 : ¬ (4 ≤ wd (T a) ∨ (st.1 = false ∧ wd (T a) ≠ 0))) (hw : wd (T a) = 1) : KI l D cy yX10_readsPiece cX10_readsPiece 2 .boolean (rL 3) τ (cn M τ) [.ref ma] (fun r w => (r.toInt = 0 ∨ r.toInt = 1) ∧ ∃ M2, w = cn M2 τ ∧ CR T c st a M M2 r) := by
  refine k_metI "EdgeEchoesModel" rfl (by decide +kernel) (Nat.le_of_ble_eq_true rfl) (fun r u h => (cI_nar (cI_01 h.1)).1) ?_
  intro p e s m args below meth cod Q ls X hG hl ret
  have hl : lv_has ls 2 [(0, .ref ma)] := hl
  obtain ⟨o1, o2, o3⟩ := hO
  obtain ⟨nb1, nb2, nb3, nb4, nb5, nb6, nb7, nb8, nb9, nb10, nb11, nb12, nb13, nb14, nb15, nb16, nb17, nb18⟩ := nb_t
  have hst : st.1 = true := by
    cases hh : st.1
    · exact absurd (Or.inr ⟨hh, by omega⟩) hk1
    · rfl
  have hcl0 : cnF T c 1 2 0 (a + 1) = cln T c a := by unfold cln; rw [hw]; rfl
  have hm0 : FR M M := fr_rf
  have ha1 : a + 1 ≤ c := ha
  refine lv_aload_n X.1 X.2.1 dX10_readsPiece_0 rfl (lv_at hl 0 rfl) ?_
  refine gf_10_0 X hG hma q_876 dX10_readsPiece_1 (cn_N _ _ _ hma) (fun a1 h1 r1 => ?_)
  refine n_sp X dX10_readsPiece_4 (by decide) (by decide) (fun x2 t2 => ?_)
  refine tg_iald X hG h1 rfl (cI_in (n := 4261) (by omega)) dX10_readsPiece_7 (fun x3 r3 => ?_)
  have b3 := rdR (cn_R _ _ _ _ h1 r3) (n := 4232) (by omega) ((hM.2.2.1 249 (by decide)).trans (rd_249 o1))
  have em : many st 1 = decide (8 ≤ st.2.1) := rfl
  refine lv_istore_n (lv' := [(1, .int x3), (0, .ref ma)]) X.1 X.2.1 dX10_readsPiece_8 rfl hl (by decide) rfl (fun ls hl => ?_)
  refine lv_iload_n X.1 X.2.1 dX10_readsPiece_9 rfl (lv_at hl 0 rfl) ?_
  refine n_bp X dX10_readsPiece_10 (by decide) (by decide) (fun x4 t4 => ?_)
  have bP : x3.toInt = (st.2.1 : Int) := by have h1 := b3.1; have h2 := b3.2; exact Int.le_antisymm h2 h1
  refine n_icmp_ne (tgt := 27) X dX10_readsPiece_12 (by decide) (fun c5 => ?_) (fun c5 => ?_)
  · have hm : many st 1 = false := by rw [em]; exact decide_eq_false (by omega)
    have hP8 : st.2.1 < 8 := by omega
    refine lv_aload_n X.1 X.2.1 dX10_readsPiece_27 rfl (lv_at hl 1 rfl) ?_
    refine n_ic X dX10_readsPiece_28 (by decide) (by decide) (fun x6 t6 => ?_)
    refine n_bp X dX10_readsPiece_29 (by decide) (by decide) (fun x7 t7 => ?_)
    refine k_cVi X hG (e_X10_readsNumber l D cy τ hU hma hc hX ha1 h16 x6 x7 (lo := nlo 1 0) (hi := nhi 1 0) (by omega) (by omega)) hma rfl yv_X10_readsNumber q_986 ⟨rfl, rfl⟩ ⟨Nat.le_of_ble_eq_true rfl, Nat.le_of_ble_eq_true rfl⟩ rfl hl.1 rfl (Nat.le_of_ble_eq_true rfl) ⟨Nat.zero_le _, Nat.zero_le _⟩ dX10_readsPiece_31 (fun x8 u8 H locs hG po => ?_)
    obtain ⟨pb0, N0, eu0, fr0, pk0, pk1⟩ := po
    rw [eu0] at hG
    refine n_if_ne (tgt := 39) X dX10_readsPiece_34 (by decide) (fun cq => ?_) (fun cq => ?_)
    · have hk0n0 : nk T c (a + 1) (nlo 1 0) (nhi 1 0) = 0 := by
        rcases nk_c (T := T) (c := c) (a := (a + 1)) (lo := nlo 1 0) (hi := nhi 1 0) with y | y | y
        · exact y
        · exact absurd (pk1 (by rw [y]; decide)).1 cq
        · exact absurd (pk1 (by rw [y]; decide)).1 cq
      obtain ⟨-, q16_0, q19_0⟩ := pk0 hk0n0
      clear pk0 pk1
      have hin0 := nk_in hk0n0
      have hcl1 : cnF T c 1 1 1 (na T c (a + 1)) = cln T c a := by rw [← hcl0, cnF_y hk0n0]
      have hle1 : na T c (a + 1) ≤ c := na_le ha1
      have frm1 : FR N0 M := fr_tr (fr_1 fr0) hm0
      refine lv_aload_n X.1 X.2.1 dX10_readsPiece_39 rfl (lv_at hl 1 rfl) ?_
      refine gf_10_0 X hG hma q_876 dX10_readsPiece_40 (cn_N _ _ _ hma) (fun a10 h10 r10 => ?_)
      refine n_sp X dX10_readsPiece_43 (by decide) (by decide) (fun x11 t11 => ?_)
      refine lv_iload_n X.1 X.2.1 dX10_readsPiece_46 rfl (lv_at hl 0 rfl) ?_
      refine n_add X dX10_readsPiece_47 (by omega) (by omega) (fun x12 t12 => ?_)
      refine lv_aload_n X.1 X.2.1 dX10_readsPiece_48 rfl (lv_at hl 1 rfl) ?_
      refine gf_10_19 X hG hma q_895 dX10_readsPiece_49 (fun x13 r13 => ?_)
      have b13 := (cn_R _ _ _ _ hma r13) _ _ (q19_0)
      have i14 : x12.toNatClampNeg = 4219 + st.2.1 := by have := cI_clamp (x := x12) (by omega); omega
      refine tg_iast X hG h10 rfl (cI_in (n := 4261) (by omega)) dX10_readsPiece_52 (cn (rsM N0 (4219 + st.2.1) (1, 99)) τ) (cw_off hU h10 (by decide) (j0 := 4219 + st.2.1) rs_ne) (by rw [i14]; exact cw_oth h10 rs_ne) (by rw [i14]; exact cw_new h10 (ty_ryes rs_at (by omega))) (fun H locs hG => ?_)
      have hm1 : FR (rsM N0 (4219 + st.2.1) (1, 99)) M := fr_rs frm1 (by omega)
      refine lv_aload_n X.1 X.2.1 dX10_readsPiece_53 rfl (lv_at hl 1 rfl) ?_
      refine n_ic X dX10_readsPiece_54 (by decide) (by decide) (fun x15 t15 => ?_)
      refine n_bp X dX10_readsPiece_55 (by decide) (by decide) (fun x16 t16 => ?_)
      refine k_cVi X hG (e_X10_readsNumber l D cy τ hU hma hc (mx_f hX hm1) hle1 ((rs_ne _ _ (Or.inl (by decide))).trans q16_0) x15 x16 (lo := nlo 1 1) (hi := nhi 1 1) (by omega) (by omega)) hma rfl yv_X10_readsNumber q_986 ⟨rfl, rfl⟩ ⟨Nat.le_of_ble_eq_true rfl, Nat.le_of_ble_eq_true rfl⟩ rfl hl.1 rfl (Nat.le_of_ble_eq_true rfl) ⟨Nat.zero_le _, Nat.zero_le _⟩ dX10_readsPiece_57 (fun x17 u17 H locs hG po => ?_)
      obtain ⟨pb1, N1, eu1, fr1, pk0, pk1⟩ := po
      rw [eu1] at hG
      refine n_if_ne (tgt := 65) X dX10_readsPiece_60 (by decide) (fun cq => ?_) (fun cq => ?_)
      · have hk0n1 : nk T c (na T c (a + 1)) (nlo 1 1) (nhi 1 1) = 0 := by
          rcases nk_c (T := T) (c := c) (a := (na T c (a + 1))) (lo := nlo 1 1) (hi := nhi 1 1) with y | y | y
          · exact y
          · exact absurd (pk1 (by rw [y]; decide)).1 cq
          · exact absurd (pk1 (by rw [y]; decide)).1 cq
        obtain ⟨-, q16_1, q19_1⟩ := pk0 hk0n1
        clear pk0 pk1
        have hin1 := nk_in hk0n1
        have hcl2 : cnF T c 1 0 2 (na T c (na T c (a + 1))) = cln T c a := by rw [← hcl1, cnF_y hk0n1]
        have hle2 : na T c (na T c (a + 1)) ≤ c := na_le hle1
        have frm2 : FR N1 M := fr_tr (fr_1 fr1) hm1
        obtain ⟨L, eL⟩ : ∃ L : Nat, nv T c (na T c (a + 1)) = (L : Int) := ⟨(nv T c (na T c (a + 1))).toNat, by omega⟩
        have hL9 : L ≤ 9 := by omega
        rw [eL] at q19_1
        refine lv_aload_n X.1 X.2.1 dX10_readsPiece_65 rfl (lv_at hl 1 rfl) ?_
        refine gf_10_0 X hG hma q_876 dX10_readsPiece_66 (cn_N _ _ _ hma) (fun a19 h19 r19 => ?_)
        refine n_sp X dX10_readsPiece_69 (by decide) (by decide) (fun x20 t20 => ?_)
        refine lv_iload_n X.1 X.2.1 dX10_readsPiece_72 rfl (lv_at hl 0 rfl) ?_
        refine n_add X dX10_readsPiece_73 (by omega) (by omega) (fun x21 t21 => ?_)
        refine lv_aload_n X.1 X.2.1 dX10_readsPiece_74 rfl (lv_at hl 1 rfl) ?_
        refine gf_10_19 X hG hma q_895 dX10_readsPiece_75 (fun x22 r22 => ?_)
        have b22 := (cn_R _ _ _ _ hma r22) _ _ (q19_1)
        have i23 : x21.toNatClampNeg = 4233 + st.2.1 := by have := cI_clamp (x := x21) (by omega); omega
        refine tg_iast X hG h19 rfl (cI_in (n := 4261) (by omega)) dX10_readsPiece_78 (cn (rsM N1 (4233 + st.2.1) ((L : Int), (L : Int))) τ) (cw_off hU h19 (by decide) (j0 := 4233 + st.2.1) rs_ne) (by rw [i23]; exact cw_oth h19 rs_ne) (by rw [i23]; exact cw_new h19 (ty_ryes rs_at (by omega))) (fun H locs hG => ?_)
        have g258 : (rsM N1 (4233 + st.2.1) ((L : Int), (L : Int))) 10 4241 = some ((st.2.2.1 : Int), (st.2.2.1 : Int)) := by
          rw [rs_ne _ _ (by omega), fr1 10 4241 (by omega), rs_ne _ _ (by omega), fr0 10 4241 (by omega), hM.2.2.2.1]
          exact (hM.2.2.1 258 (by decide)).trans (rd_258 o1)
        refine lv_aload_n X.1 X.2.1 dX10_readsPiece_79 rfl (lv_at hl 1 rfl) ?_
        refine gf_10_0 X hG hma q_876 dX10_readsPiece_80 (cn_N _ _ _ hma) (fun a24 h24 r24 => ?_)
        refine n_sp X dX10_readsPiece_83 (by decide) (by decide) (fun x25 t25 => ?_)
        refine lv_dup2_11 X.1 X.2.1 dX10_readsPiece_86 rfl rfl ?_
        refine tg_iald X hG h24 rfl (cI_in (n := 4261) (by omega)) dX10_readsPiece_87 (fun x26 r26 => ?_)
        have b26 := rdR (cn_R _ _ _ _ h24 r26) (n := 4241) (by omega) (g258)
        refine lv_aload_n X.1 X.2.1 dX10_readsPiece_88 rfl (lv_at hl 1 rfl) ?_
        refine gf_10_19 X hG hma q_895 dX10_readsPiece_89 (fun x27 r27 => ?_)
        have b27 := (cn_R _ _ _ _ hma r27) _ _ ((rs_ne _ _ (Or.inl (by decide))).trans q19_1)
        refine n_add X dX10_readsPiece_92 (by omega) (by omega) (fun x28 t28 => ?_)
        have i29 : x25.toNatClampNeg = 4241 := by have := cI_clamp (x := x25) (by omega); omega
        refine tg_iast X hG h24 rfl (cI_in (n := 4261) (by omega)) dX10_readsPiece_93 (cn (rsM (rsM N1 (4233 + st.2.1) ((L : Int), (L : Int))) (4241) (((st.2.2.1 + L : Nat) : Int), ((st.2.2.1 + L : Nat) : Int))) τ) (cw_off hU h24 (by decide) (j0 := 4241) rs_ne) (by rw [i29]; exact cw_oth h24 rs_ne) (by rw [i29]; exact cw_new h24 (ty_ryes rs_at (by omega))) (fun H locs hG => ?_)
        have g249 : (rsM (rsM N1 (4233 + st.2.1) ((L : Int), (L : Int))) 4241 (((st.2.2.1 + L : Nat) : Int), ((st.2.2.1 + L : Nat) : Int))) 10 4232 = some ((st.2.1 : Int), (st.2.1 : Int)) := by
          rw [rs_ne _ _ (by omega), rs_ne _ _ (by omega), fr1 10 4232 (by omega), rs_ne _ _ (by omega), fr0 10 4232 (by omega)]
          exact (hM.2.2.1 249 (by decide)).trans (rd_249 o1)
        refine lv_aload_n X.1 X.2.1 dX10_readsPiece_94 rfl (lv_at hl 1 rfl) ?_
        refine gf_10_0 X hG hma q_876 dX10_readsPiece_95 (cn_N _ _ _ hma) (fun a30 h30 r30 => ?_)
        refine n_sp X dX10_readsPiece_98 (by decide) (by decide) (fun x31 t31 => ?_)
        refine lv_dup2_11 X.1 X.2.1 dX10_readsPiece_101 rfl rfl ?_
        refine tg_iald X hG h30 rfl (cI_in (n := 4261) (by omega)) dX10_readsPiece_102 (fun x32 r32 => ?_)
        have b32 := rdR (cn_R _ _ _ _ h30 r32) (n := 4232) (by omega) (g249)
        refine n_ic X dX10_readsPiece_103 (by decide) (by decide) (fun x33 t33 => ?_)
        refine n_add X dX10_readsPiece_104 (by omega) (by omega) (fun x34 t34 => ?_)
        have i35 : x31.toNatClampNeg = 4232 := by have := cI_clamp (x := x31) (by omega); omega
        refine tg_iast X hG h30 rfl (cI_in (n := 4261) (by omega)) dX10_readsPiece_105 (cn (rsM (rsM (rsM N1 (4233 + st.2.1) ((L : Int), (L : Int))) 4241 (((st.2.2.1 + L : Nat) : Int), ((st.2.2.1 + L : Nat) : Int))) (4232) (((st.2.1 + 1 : Nat) : Int), ((st.2.1 + 1 : Nat) : Int))) τ) (cw_off hU h30 (by decide) (j0 := 4232) rs_ne) (by rw [i35]; exact cw_oth h30 rs_ne) (by rw [i35]; exact cw_new h30 (ty_ryes rs_at (by omega))) (fun H locs hG => ?_)
        have hfin : FR (rsM (rsM (rsM N1 (4233 + st.2.1) ((L : Int), (L : Int))) 4241 (((st.2.2.1 + L : Nat) : Int), ((st.2.2.1 + L : Nat) : Int))) 4232 (((st.2.1 + 1 : Nat) : Int), ((st.2.1 + 1 : Nat) : Int))) M := fr_rs (fr_rs (fr_rs frm2 (by omega)) (by omega)) (by omega)
        refine lv_aload_n X.1 X.2.1 dX10_readsPiece_106 rfl (lv_at hl 1 rfl) ?_
        refine k_cVi X hG (e_X10_readsEnd l D cy τ hU hma hc (mx_f hX hfin) hle2 ((rs_ne _ _ (Or.inl (by decide))).trans ((rs_ne _ _ (Or.inl (by decide))).trans ((rs_ne _ _ (Or.inl (by decide))).trans q16_1)))) hma rfl yv_X10_readsEnd q_996 ⟨rfl, rfl⟩ ⟨Nat.le_of_ble_eq_true rfl, Nat.le_of_ble_eq_true rfl⟩ rfl hl.1 rfl (Nat.le_of_ble_eq_true rfl) ⟨Nat.zero_le _, Nat.zero_le _⟩ dX10_readsPiece_107 (fun x36 u36 H locs hG po => ?_)
        obtain ⟨pbE, NE, euE, frE, pe1, pe2⟩ := po
        rw [euE] at hG
        have ecl1 : (cln T c a).1 = 0 := by rw [← hcl2]; rfl
        have ecl2 : (cln T c a).2 = (na T c (na T c (a + 1))) := by rw [← hcl2]; rfl
        by_cases hs : sk T c (na T c (na T c (a + 1))) < c ∧ (T (sk T c (na T c (na T c (a + 1))))).toInt = 59
        · obtain ⟨r1, q16⟩ := pe1 hs
          have hck := clk_y hk1 (by rw [hw]; exact hm) ecl1 (by rw [ecl2]; exact hs)
          rw [ecl2] at hck
          have hms : MS NE (nst T c st a) (fun i => if i = st.2.1 then L else f i) := by
            rw [nst_tk, hw, eL]
            show MS NE (st.1, st.2.1 + 1, st.2.2.1 + ((L : Int)).toNat, st.2.2.2) _
            rw [hst, Int.toNat_natCast]
            refine ⟨?_, ?_, fun o ho => ?_, ?_, fun i => ?_⟩
            · rw [frE 0 20 (by omega), rs_ne _ _ (by omega), rs_ne _ _ (by omega), rs_ne _ _ (by omega), fr1 0 20 (by omega), rs_ne _ _ (by omega), fr0 0 20 (by omega)]; exact hM.1
            · rw [frE 10 4230 (by omega), rs_ne _ _ (by omega), rs_ne _ _ (by omega), rs_ne _ _ (by omega), fr1 10 4230 (by omega), rs_ne _ _ (by omega), fr0 10 4230 (by omega)]; exact hM.2.1
            · show NE 10 (3983 + o) = rdM (st.2.1 + 1) st.2.2.2.2 _ o
              rw [frE 10 _ (by omega)]
              by_cases a1 : o = 249
              · subst a1; rw [rd_249 (by omega)]; exact rs_at
              rw [rs_ne _ _ (by omega)]
              by_cases a2 : o = 258
              · subst a2; rw [rd_258 (by omega), sumF_p, ← show st.2.2.1 = sumF f st.2.1 from hM.2.2.2.1]; exact rs_at
              rw [rs_ne _ _ (by omega)]
              by_cases a3 : o = 250 + st.2.1
              · subst a3
                rw [rd_L (by omega) (by omega), show 3983 + (250 + st.2.1) = 4233 + st.2.1 by omega, rs_at]
                show _ = some (((if st.2.1 = st.2.1 then L else f st.2.1 : Nat) : Int), ((if st.2.1 = st.2.1 then L else f st.2.1 : Nat) : Int))
                rw [if_pos rfl]
              rw [rs_ne _ _ (by omega), fr1 10 _ (by omega)]
              by_cases a4 : o = 236 + st.2.1
              · subst a4; rw [rd_o, show 3983 + (236 + st.2.1) = 4219 + st.2.1 by omega, rs_at]
              rw [rs_ne _ _ (by omega), fr0 10 _ (by omega), rd_p0 hP8 a1 a2 a3 a4]
              exact hM.2.2.1 o ho
            · show st.2.2.1 + L = sumF _ (st.2.1 + 1)
              rw [sumF_p, show st.2.2.1 = sumF f st.2.1 from hM.2.2.2.1]
            · show (if i = st.2.1 then L else f i) ≤ 9
              by_cases e : i = st.2.1
              · rw [if_pos e]; exact hL9
              · rw [if_neg e]; exact hM.2.2.2.2 i
          exact ret _ _ _ _ x36 _ hG ⟨pbE, _, rfl, cr_yes hck (fr_tr (fr_1 frE) hfin) r1 q16 hms⟩ dX10_readsPiece_110
        · obtain ⟨r0, q17, q18, qb⟩ := pe2 hs
          have hck := clk_e hk1 (by rw [hw]; exact hm) ecl1 (by rw [ecl2]; exact hs)
          rw [ecl2] at hck
          exact ret _ _ _ _ x36 _ hG ⟨pbE, _, rfl, cr_no hck (by decide) (fr_tr (fr_1 frE) hfin) r0 q17 q18 qb⟩ dX10_readsPiece_110
      · have hkn : nk T c (na T c (a + 1)) (nlo 1 1) (nhi 1 1) ≠ 0 := by
          intro y
          exact absurd (pk0 y).1 (by omega)
        obtain ⟨-, q17, q18, qb⟩ := pk1 hkn
        clear pk0 pk1
        have hcl : cln T c a = (nk T c (na T c (a + 1)) (nlo 1 1) (nhi 1 1), sk T c (na T c (a + 1))) := by rw [← hcl1, cnF_n hkn]
        refine n_ic X dX10_readsPiece_63 (by decide) (by decide) (fun x37 t37 => ?_)
        exact ret _ _ _ _ x37 _ hG ⟨by omega, _, rfl, cr_no ((clk_n hk1 (by rw [hw]; exact hm) (by rw [hcl]; exact hkn)).trans hcl) hkn (fr_tr (fr_1 fr1) hm1) (by omega) q17 q18 qb⟩ dX10_readsPiece_64
    · have hkn : nk T c (a + 1) (nlo 1 0) (nhi 1 0) ≠ 0 := by
        intro y
        exact absurd (pk0 y).1 (by omega)
      obtain ⟨-, q17, q18, qb⟩ := pk1 hkn
      clear pk0 pk1
      have hcl : cln T c a = (nk T c (a + 1) (nlo 1 0) (nhi 1 0), sk T c (a + 1)) := by rw [← hcl0, cnF_n hkn]
      refine n_ic X dX10_readsPiece_37 (by decide) (by decide) (fun x38 t38 => ?_)
      exact ret _ _ _ _ x38 _ hG ⟨by omega, _, rfl, cr_no ((clk_n hk1 (by rw [hw]; exact hm) (by rw [hcl]; exact hkn)).trans hcl) hkn (fr_tr (fr_1 fr0) hm0) (by omega) q17 q18 qb⟩ dX10_readsPiece_38
  · have hm : many st 1 = true := by rw [em]; exact decide_eq_true (by omega)
    refine lv_aload_n X.1 X.2.1 dX10_readsPiece_15 rfl (lv_at hl 1 rfl) ?_
    refine n_ic X dX10_readsPiece_16 (by decide) (by decide) (fun x39 t39 => ?_)
    refine lv_aload_n X.1 X.2.1 dX10_readsPiece_17 rfl (lv_at hl 1 rfl) ?_
    refine gf_10_16 X hG hma q_892 dX10_readsPiece_18 (fun x40 r40 => ?_)
    have b40 := (cn_R _ _ _ _ hma r40) _ _ (h16)
    refine n_ic X dX10_readsPiece_21 (by decide) (by decide) (fun x41 t41 => ?_)
    refine n_sub X dX10_readsPiece_22 (by omega) (by omega) (fun x42 t42 => ?_)
    refine k_cVi X hG (e_X10_refuse l D cy τ hU hma x39 x42 (y := 3) (z := (a : Int)) (by omega) (by omega)) hma rfl yv_X10_refuse q_978 ⟨rfl, rfl⟩ ⟨Nat.le_of_ble_eq_true rfl, Nat.le_of_ble_eq_true rfl⟩ rfl hl.1 rfl (Nat.le_of_ble_eq_true rfl) ⟨Nat.zero_le _, Nat.zero_le _⟩ dX10_readsPiece_23 (fun x43 u43 H locs hG po => ?_)
    obtain ⟨tr, eu⟩ := po
    rw [eu] at hG
    exact ret _ _ _ _ x43 _ hG ⟨by omega, _, rfl, cr_no (clk_3 hk1 (by rw [hw]; exact hm)) (by decide) (fr_fs (fr_fs fr_rf (by omega)) (by omega)) tr (by rw [fsM_ne _ _ (by omega), fsM_at]; rfl) fsM_at ⟨a + 1, ha, by rw [fsM_ne _ _ (by omega), fsM_ne _ _ (by omega)]; exact h16⟩⟩ dX10_readsPiece_26
