theorem cr_fr {T : Nat → Int32} {c a : Nat} {st : ST} {M M1 M2 : md_T} {r : Int32} (h : CR T c st a M1 M2 r) (hf : FR M1 M) : CR T c st a M M2 r := ⟨fr_tr h.1 hf, h.2⟩
theorem wd_4 {x : Int32} (h : x.toInt ≠ 100 ∧ x.toInt ≠ 112 ∧ x.toInt ≠ 101 ∧ x.toInt ≠ 103) : wd x = 4 := by
  unfold wd
  rw [if_neg h.1, if_neg h.2.1, if_neg h.2.2.1, if_neg h.2.2.2]
set_option maxHeartbeats 4000000 in
set_option maxRecDepth 100000 in
theorem e_X10_readsClause (l : Launch) (D : va_G) (cy : Nat → ClassId) (τ : ty_T) (hU : UQ τ) {M : md_T} {ma : Nat} (hma : τ ma = some (0, 10)) {c : Nat} {T : Nat → Int32} (hc : c ≤ 240) (hX : MX M c T) {f : Nat → Nat} {st : ST} {a : Nat} (ha : a < c) (hO : OKS st) (hM : MS M st f) (h16 : M 0 16 = some ((a : Int), (a : Int))) : KI l D cy yX10_readsClause cX10_readsClause 3 .boolean (rL 4) τ (cn M τ) [.ref ma] (fun r w => (r.toInt = 0 ∨ r.toInt = 1) ∧ ∃ M2, w = cn M2 τ ∧ CR T c st a M M2 r) := by
  refine k_metI "EdgeEchoesModel" rfl (by decide +kernel) (Nat.le_of_ble_eq_true rfl) (fun r u h => (cI_nar (cI_01 h.1)).1) ?_
  intro p e s m args below meth cod Q ls X hG hl ret
  have hl : lv_has ls 3 [(0, .ref ma)] := hl
  refine lv_aload_n X.1 X.2.1 dX10_readsClause_0 rfl (lv_at hl 0 rfl) ?_
  refine gf_10_16 X hG hma q_892 dX10_readsClause_1 (fun x1 r1 => ?_)
  have b1 := (cn_R _ _ _ _ hma r1) _ _ (h16)
  refine lv_aload_n X.1 X.2.1 dX10_readsClause_4 rfl (lv_at hl 0 rfl) ?_
  refine gf_10_7 X hG hma q_883 dX10_readsClause_5 (fun x2 r2 => ?_)
  have b2 := (cn_R _ _ _ _ hma r2) _ _ (hX.1)
  refine n_icmp_ge (tgt := 23) X dX10_readsClause_8 (by decide) (fun cq => ?_) (fun cq => ?_)
  · exact absurd cq (by omega)
  · refine lv_aload_n X.1 X.2.1 dX10_readsClause_11 rfl (lv_at hl 0 rfl) ?_
    refine gf_10_6 X hG hma q_882 dX10_readsClause_12 (cn_N _ _ _ hma) (fun a4 h4 r4 => ?_)
    refine lv_aload_n X.1 X.2.1 dX10_readsClause_15 rfl (lv_at hl 0 rfl) ?_
    refine gf_10_16 X hG hma q_892 dX10_readsClause_16 (fun x5 r5 => ?_)
    have b5 := (cn_R _ _ _ _ hma r5) _ _ (h16)
    refine tg_iald X hG h4 rfl (cI_in (n := 240) (by omega)) dX10_readsClause_19 (fun x6 r6 => ?_)
    have b6 := rdR (cn_R _ _ _ _ h4 r6) (n := a) (by omega) (hX.2 a ha)
    have eW : x6.toInt = (T a).toInt := by omega
    refine lv_goto (tgt := 24) X.1 X.2.1 dX10_readsClause_20 (by decide) ?_
    refine lv_istore_n (lv' := [(1, .int x6), (0, .ref ma)]) X.1 X.2.1 dX10_readsClause_24 rfl hl (by decide) rfl (fun ls hl => ?_)
    have hl : lv_has ls 3 [(0, .ref ma), (1, .int x6)] := lv_sub hl [1, 0] rfl
    have J42 : ∀ (H : Heap) (locs : List Loc) (ls : Array Slot) (y2 : Int32), y2.toInt = (if st.1 = true then 0 else 1) → TG D cy τ (cn M τ) (ty_d τ) s.heap H locs → lv_has ls 3 [(0, .ref ma), (1, .int x6), (2, .int y2)] → W p l e (rL 4) s m args below meth cod H locs 0 0 Q (F0 m 42 ls []) := by
      intro H locs ls y2 ty2 hG hl
      have J86 : ∀ (H : Heap) (locs : List Loc) (ls : Array Slot), ¬ (4 ≤ wd (T a) ∨ (st.1 = false ∧ wd (T a) ≠ 0)) → TG D cy τ (cn M τ) (ty_d τ) s.heap H locs → lv_has ls 3 [(0, .ref ma), (1, .int x6), (2, .int y2)] → W p l e (rL 4) s m args below meth cod H locs 0 0 Q (F0 m 86 ls []) := by
        intro H locs ls hk1 hG hl
        refine lv_aload_n X.1 X.2.1 dX10_readsClause_86 rfl (lv_at hl 0 rfl) ?_
        refine lv_dup X.1 X.2.1 dX10_readsClause_87 rfl ?_
        refine gf_10_16 X hG hma q_892 dX10_readsClause_88 (fun x7 r7 => ?_)
        have b7 := (cn_R _ _ _ _ hma r7) _ _ (h16)
        refine n_ic X dX10_readsClause_91 (by decide) (by decide) (fun x8 t8 => ?_)
        refine n_add X dX10_readsClause_92 (by omega) (by omega) (fun x9 t9 => ?_)
        refine pg_10_16 X hG hma q_892 dX10_readsClause_93 (cn (fsM M 16 (((a + 1 : Nat) : Int), ((a + 1 : Nat) : Int))) τ) (cf_off hU hma fsM_ne) (cf_oth fsM_ne) (cw_new hma (ty_ryes fsM_at (by omega))) (fun H locs hG => ?_)
        refine lv_aload_n X.1 X.2.1 dX10_readsClause_96 rfl (lv_at hl 0 rfl) ?_
        refine gf_10_0 X hG hma q_876 dX10_readsClause_97 (cn_N _ _ _ hma) (fun a10 h10 r10 => ?_)
        refine n_sp X dX10_readsClause_100 (by decide) (by decide) (fun x11 t11 => ?_)
        refine n_ic X dX10_readsClause_103 (by decide) (by decide) (fun x12 t12 => ?_)
        have i13 : x11.toNatClampNeg = 4230 := by have := cI_clamp (x := x11) (by omega); omega
        refine tg_iast X hG h10 rfl (cI_in (n := 4261) (by omega)) dX10_readsClause_104 (cn (rsM (fsM M 16 (((a + 1 : Nat) : Int), ((a + 1 : Nat) : Int))) (4230) (1, 1)) τ) (cw_off hU h10 (by decide) (j0 := 4230) rs_ne) (by rw [i13]; exact cw_oth h10 rs_ne) (by rw [i13]; exact cw_new h10 (ty_ryes rs_at (by omega))) (fun H locs hG => ?_)
        have hf2 : FR (rsM (fsM M 16 (((a + 1 : Nat) : Int), ((a + 1 : Nat) : Int))) 4230 (1, 1)) M := fr_rs (fr_fs fr_rf (by omega)) (by omega)
        have hM2 : MS (rsM (fsM M 16 (((a + 1 : Nat) : Int), ((a + 1 : Nat) : Int))) 4230 (1, 1)) (true, st.2) f := ⟨(rs_ne _ _ (by omega)).trans ((fsM_ne _ _ (by omega)).trans hM.1), rs_at, fun o ho => (rs_ne _ _ (by omega)).trans ((fsM_ne _ _ (by omega)).trans (hM.2.2.1 o ho)), hM.2.2.2.1, hM.2.2.2.2⟩
        have h162 : (rsM (fsM M 16 (((a + 1 : Nat) : Int), ((a + 1 : Nat) : Int))) 4230 (1, 1)) 0 16 = some (((a + 1 : Nat) : Int), ((a + 1 : Nat) : Int)) := (rs_ne _ _ (by omega)).trans fsM_at
        have hX2 := mx_f hX hf2
        refine lv_iload_n X.1 X.2.1 dX10_readsClause_105 rfl (lv_at hl 1 rfl) ?_
        refine n_bp X dX10_readsClause_106 (by decide) (by decide) (fun x14 t14 => ?_)
        refine n_icmp_ne (tgt := 118) X dX10_readsClause_108 (by decide) (fun c15 => ?_) (fun c15 => ?_)
        · refine lv_iload_n X.1 X.2.1 dX10_readsClause_118 rfl (lv_at hl 1 rfl) ?_
          refine n_bp X dX10_readsClause_119 (by decide) (by decide) (fun x16 t16 => ?_)
          refine n_icmp_ne (tgt := 131) X dX10_readsClause_121 (by decide) (fun c17 => ?_) (fun c17 => ?_)
          · refine lv_iload_n X.1 X.2.1 dX10_readsClause_131 rfl (lv_at hl 1 rfl) ?_
            refine n_bp X dX10_readsClause_132 (by decide) (by decide) (fun x18 t18 => ?_)
            refine n_icmp_ne (tgt := 144) X dX10_readsClause_134 (by decide) (fun c19 => ?_) (fun c19 => ?_)
            · have hw0 : wd (T a) = 0 := by
                by_cases z : (T a).toInt = 100
                · exact wd_0 z
                · exact absurd (Or.inl (by rw [wd_4 ⟨z, by omega, by omega, by omega⟩]; omega)) hk1
              refine lv_iload_n X.1 X.2.1 dX10_readsClause_144 rfl (lv_at hl 2 rfl) ?_
              refine n_if_eq (tgt := 155) X dX10_readsClause_145 (by decide) (fun cq => ?_) (fun cq => ?_)
              · have hst : st.1 = true := by
                  cases hh : st.1
                  · rw [hh] at ty2; exact absurd ty2 (by rw [cq]; decide)
                  · rfl
                refine lv_aload_n X.1 X.2.1 dX10_readsClause_155 rfl (lv_at hl 0 rfl) ?_
                refine n_ic X dX10_readsClause_156 (by decide) (by decide) (fun x21 t21 => ?_)
                refine lv_aload_n X.1 X.2.1 dX10_readsClause_157 rfl (lv_at hl 0 rfl) ?_
                refine gf_10_16 X hG hma q_892 dX10_readsClause_158 (fun x22 r22 => ?_)
                have b22 := (cn_R _ _ _ _ hma r22) _ _ (h162)
                refine n_ic X dX10_readsClause_161 (by decide) (by decide) (fun x23 t23 => ?_)
                refine n_sub X dX10_readsClause_162 (by omega) (by omega) (fun x24 t24 => ?_)
                refine k_cVi X hG (e_X10_refuse l D cy τ hU hma x21 x24 (y := 3) (z := (a : Int)) (by omega) (by omega)) hma rfl yv_X10_refuse q_978 ⟨rfl, rfl⟩ ⟨Nat.le_of_ble_eq_true rfl, Nat.le_of_ble_eq_true rfl⟩ rfl hl.1 rfl (Nat.le_of_ble_eq_true rfl) ⟨Nat.zero_le _, Nat.zero_le _⟩ dX10_readsClause_163 (fun x25 u25 H locs hG po => ?_)
                obtain ⟨tr, eu⟩ := po
                rw [eu] at hG
                exact ret _ _ _ _ x25 _ hG ⟨by omega, _, rfl, cr_no (clk_3 hk1 (by rw [hw0]; exact hst)) (by decide) (fr_fs (fr_fs hf2 (by omega)) (by omega)) tr (by rw [fsM_ne _ _ (by omega), fsM_at]; rfl) fsM_at⟩ dX10_readsClause_166
              · have hst : st.1 = false := by
                  cases hh : st.1
                  · rfl
                  · rw [hh] at ty2; exact absurd ty2 cq
                refine lv_aload_n X.1 X.2.1 dX10_readsClause_148 rfl (lv_at hl 0 rfl) ?_
                refine k_cVi X hG (e_X10_readsDriver l D cy τ hU hma hc hX2 ha hO hM2 h162 hk1 (hw0) hst) hma rfl yv_X10_readsDriver q_1008 ⟨rfl, rfl⟩ ⟨Nat.le_of_ble_eq_true rfl, Nat.le_of_ble_eq_true rfl⟩ rfl hl.1 rfl (Nat.le_of_ble_eq_true rfl) ⟨Nat.zero_le _, Nat.zero_le _⟩ dX10_readsClause_149 (fun x26 u26 H locs hG po => ?_)
                obtain ⟨pb, M3, eu, hcr⟩ := po
                rw [eu] at hG
                refine lv_goto (tgt := 166) X.1 X.2.1 dX10_readsClause_152 (by decide) ?_
                exact ret _ _ _ _ x26 _ hG ⟨pb, _, rfl, cr_fr hcr hf2⟩ dX10_readsClause_166
            · refine lv_aload_n X.1 X.2.1 dX10_readsClause_137 rfl (lv_at hl 0 rfl) ?_
              refine k_cVi X hG (e_X10_readsGate l D cy τ hU hma hc hX2 ha hO hM2 h162 hk1 (wd_3 (by omega))) hma rfl yv_X10_readsGate q_1004 ⟨rfl, rfl⟩ ⟨Nat.le_of_ble_eq_true rfl, Nat.le_of_ble_eq_true rfl⟩ rfl hl.1 rfl (Nat.le_of_ble_eq_true rfl) ⟨Nat.zero_le _, Nat.zero_le _⟩ dX10_readsClause_138 (fun x27 u27 H locs hG po => ?_)
              obtain ⟨pb, M3, eu, hcr⟩ := po
              rw [eu] at hG
              refine lv_goto (tgt := 166) X.1 X.2.1 dX10_readsClause_141 (by decide) ?_
              exact ret _ _ _ _ x27 _ hG ⟨pb, _, rfl, cr_fr hcr hf2⟩ dX10_readsClause_166
          · refine lv_aload_n X.1 X.2.1 dX10_readsClause_124 rfl (lv_at hl 0 rfl) ?_
            refine k_cVi X hG (e_X10_readsTheEnd l D cy τ hU hma hc hX2 ha hO hM2 h162 hk1 (wd_2 (by omega))) hma rfl yv_X10_readsTheEnd q_1000 ⟨rfl, rfl⟩ ⟨Nat.le_of_ble_eq_true rfl, Nat.le_of_ble_eq_true rfl⟩ rfl hl.1 rfl (Nat.le_of_ble_eq_true rfl) ⟨Nat.zero_le _, Nat.zero_le _⟩ dX10_readsClause_125 (fun x28 u28 H locs hG po => ?_)
            obtain ⟨pb, M3, eu, hcr⟩ := po
            rw [eu] at hG
            refine lv_goto (tgt := 166) X.1 X.2.1 dX10_readsClause_128 (by decide) ?_
            exact ret _ _ _ _ x28 _ hG ⟨pb, _, rfl, cr_fr hcr hf2⟩ dX10_readsClause_166
        · refine lv_aload_n X.1 X.2.1 dX10_readsClause_111 rfl (lv_at hl 0 rfl) ?_
          refine k_cVi X hG (e_X10_readsPiece l D cy τ hU hma hc hX2 ha hO hM2 h162 hk1 (wd_1 (by omega))) hma rfl yv_X10_readsPiece q_982 ⟨rfl, rfl⟩ ⟨Nat.le_of_ble_eq_true rfl, Nat.le_of_ble_eq_true rfl⟩ rfl hl.1 rfl (Nat.le_of_ble_eq_true rfl) ⟨Nat.zero_le _, Nat.zero_le _⟩ dX10_readsClause_112 (fun x29 u29 H locs hG po => ?_)
          obtain ⟨pb, M3, eu, hcr⟩ := po
          rw [eu] at hG
          refine lv_goto (tgt := 166) X.1 X.2.1 dX10_readsClause_115 (by decide) ?_
          exact ret _ _ _ _ x29 _ hG ⟨pb, _, rfl, cr_fr hcr hf2⟩ dX10_readsClause_166
      have J66 : ∀ (H : Heap) (locs : List Loc) (ls : Array Slot), wd (T a) ≤ 3 → TG D cy τ (cn M τ) (ty_d τ) s.heap H locs → lv_has ls 3 [(0, .ref ma), (1, .int x6), (2, .int y2)] → W p l e (rL 4) s m args below meth cod H locs 0 0 Q (F0 m 66 ls []) := by
        intro H locs ls hw3 hG hl
        refine lv_iload_n X.1 X.2.1 dX10_readsClause_66 rfl (lv_at hl 2 rfl) ?_
        refine n_if_eq (tgt := 86) X dX10_readsClause_67 (by decide) (fun cq => ?_) (fun cq => ?_)
        · exact J86 _ _ _ (by
            have : st.1 = true := by
              cases hh : st.1
              · rw [hh] at ty2; exact absurd ty2 (by rw [cq]; decide)
              · rfl
            rw [this]; intro h; rcases h with h | h
            · omega
            · exact absurd h.1 (by decide)) hG hl
        · have hst : st.1 = false := by
            cases hh : st.1
            · rfl
            · rw [hh] at ty2; exact absurd ty2 cq
          refine lv_iload_n X.1 X.2.1 dX10_readsClause_70 rfl (lv_at hl 1 rfl) ?_
          refine n_bp X dX10_readsClause_71 (by decide) (by decide) (fun x31 t31 => ?_)
          refine n_icmp_eq (tgt := 86) X dX10_readsClause_73 (by decide) (fun c32 => ?_) (fun c32 => ?_)
          · exact J86 _ _ _ (by rw [wd_0 (show (T a).toInt = 100 by omega)]; omega) hG hl
          · refine lv_aload_n X.1 X.2.1 dX10_readsClause_76 rfl (lv_at hl 0 rfl) ?_
            refine n_ic X dX10_readsClause_77 (by decide) (by decide) (fun x33 t33 => ?_)
            refine lv_aload_n X.1 X.2.1 dX10_readsClause_78 rfl (lv_at hl 0 rfl) ?_
            refine gf_10_16 X hG hma q_892 dX10_readsClause_79 (fun x34 r34 => ?_)
            have b34 := (cn_R _ _ _ _ hma r34) _ _ (h16)
            refine k_cVi X hG (e_X10_refuse l D cy τ hU hma x33 x34 (y := 1) (z := (a : Int)) (by omega) (by omega)) hma rfl yv_X10_refuse q_978 ⟨rfl, rfl⟩ ⟨Nat.le_of_ble_eq_true rfl, Nat.le_of_ble_eq_true rfl⟩ rfl hl.1 rfl (Nat.le_of_ble_eq_true rfl) ⟨Nat.zero_le _, Nat.zero_le _⟩ dX10_readsClause_82 (fun x35 u35 H locs hG po => ?_)
            obtain ⟨tr, eu⟩ := po
            rw [eu] at hG
            exact ret _ _ _ _ x35 _ hG ⟨by omega, _, rfl, cr_no (clk_1 (Or.inr ⟨hst, fun z => by
              unfold wd at z
              rw [if_neg (show ¬ (T a).toInt = 100 by omega)] at z
              split at z
              · cases z
              · split at z
                · cases z
                · split at z <;> cases z⟩)) (by decide) (fr_fs (fr_fs fr_rf (by omega)) (by omega)) tr (by rw [fsM_ne _ _ (by omega), fsM_at]; rfl) fsM_at⟩ dX10_readsClause_85
      refine lv_iload_n X.1 X.2.1 dX10_readsClause_42 rfl (lv_at hl 1 rfl) ?_
      refine n_bp X dX10_readsClause_43 (by decide) (by decide) (fun x36 t36 => ?_)
      refine n_icmp_eq (tgt := 66) X dX10_readsClause_45 (by decide) (fun c37 => ?_) (fun c37 => ?_)
      · exact J66 _ _ _ (by rw [wd_0 (by omega)]; omega) hG hl
      · refine lv_iload_n X.1 X.2.1 dX10_readsClause_48 rfl (lv_at hl 1 rfl) ?_
        refine n_bp X dX10_readsClause_49 (by decide) (by decide) (fun x38 t38 => ?_)
        refine n_icmp_eq (tgt := 66) X dX10_readsClause_51 (by decide) (fun c39 => ?_) (fun c39 => ?_)
        · exact J66 _ _ _ (by rw [wd_1 (by omega)]; omega) hG hl
        · refine lv_iload_n X.1 X.2.1 dX10_readsClause_54 rfl (lv_at hl 1 rfl) ?_
          refine n_bp X dX10_readsClause_55 (by decide) (by decide) (fun x40 t40 => ?_)
          refine n_icmp_eq (tgt := 66) X dX10_readsClause_57 (by decide) (fun c41 => ?_) (fun c41 => ?_)
          · exact J66 _ _ _ (by rw [wd_2 (by omega)]; omega) hG hl
          · refine lv_iload_n X.1 X.2.1 dX10_readsClause_60 rfl (lv_at hl 1 rfl) ?_
            refine n_bp X dX10_readsClause_61 (by decide) (by decide) (fun x42 t42 => ?_)
            refine n_icmp_ne (tgt := 76) X dX10_readsClause_63 (by decide) (fun c43 => ?_) (fun c43 => ?_)
            · refine lv_aload_n X.1 X.2.1 dX10_readsClause_76 rfl (lv_at hl 0 rfl) ?_
              refine n_ic X dX10_readsClause_77 (by decide) (by decide) (fun x44 t44 => ?_)
              refine lv_aload_n X.1 X.2.1 dX10_readsClause_78 rfl (lv_at hl 0 rfl) ?_
              refine gf_10_16 X hG hma q_892 dX10_readsClause_79 (fun x45 r45 => ?_)
              have b45 := (cn_R _ _ _ _ hma r45) _ _ (h16)
              refine k_cVi X hG (e_X10_refuse l D cy τ hU hma x44 x45 (y := 1) (z := (a : Int)) (by omega) (by omega)) hma rfl yv_X10_refuse q_978 ⟨rfl, rfl⟩ ⟨Nat.le_of_ble_eq_true rfl, Nat.le_of_ble_eq_true rfl⟩ rfl hl.1 rfl (Nat.le_of_ble_eq_true rfl) ⟨Nat.zero_le _, Nat.zero_le _⟩ dX10_readsClause_82 (fun x46 u46 H locs hG po => ?_)
              obtain ⟨tr, eu⟩ := po
              rw [eu] at hG
              exact ret _ _ _ _ x46 _ hG ⟨by omega, _, rfl, cr_no (clk_1 (Or.inl (by rw [wd_4 ⟨by omega, by omega, by omega, by omega⟩]; omega))) (by decide) (fr_fs (fr_fs fr_rf (by omega)) (by omega)) tr (by rw [fsM_ne _ _ (by omega), fsM_at]; rfl) fsM_at⟩ dX10_readsClause_85
            · exact J66 _ _ _ (by rw [wd_3 (by omega)]; omega) hG hl
    refine lv_aload_n X.1 X.2.1 dX10_readsClause_25 rfl (lv_at hl 0 rfl) ?_
    refine gf_10_0 X hG hma q_876 dX10_readsClause_26 (cn_N _ _ _ hma) (fun a47 h47 r47 => ?_)
    refine n_sp X dX10_readsClause_29 (by decide) (by decide) (fun x48 t48 => ?_)
    refine tg_iald X hG h47 rfl (cI_in (n := 4261) (by omega)) dX10_readsClause_32 (fun x49 r49 => ?_)
    have b49 := rdR (cn_R _ _ _ _ h47 r49) (n := 4230) (by omega) (hM.2.1)
    have tt : x49.toInt = if st.1 = true then 1 else 0 := Int.le_antisymm b49.2 b49.1
    refine n_if_ne (tgt := 40) X dX10_readsClause_33 (by decide) (fun cq => ?_) (fun cq => ?_)
    · refine n_ic X dX10_readsClause_40 (by decide) (by decide) (fun x51 t51 => ?_)
      refine lv_istore_n (lv' := [(2, .int x51), (0, .ref ma), (1, .int x6)]) X.1 X.2.1 dX10_readsClause_41 rfl hl (by decide) rfl (fun ls hl => ?_)
      exact J42 _ _ _ x51 (by
        cases hh : st.1
        · rw [hh] at tt; exact absurd tt cq
        · rw [if_pos rfl]; omega) hG (lv_sub hl [1, 2, 0] rfl)
    · refine n_ic X dX10_readsClause_36 (by decide) (by decide) (fun x52 t52 => ?_)
      refine lv_goto (tgt := 41) X.1 X.2.1 dX10_readsClause_37 (by decide) ?_
      refine lv_istore_n (lv' := [(2, .int x52), (0, .ref ma), (1, .int x6)]) X.1 X.2.1 dX10_readsClause_41 rfl hl (by decide) rfl (fun ls hl => ?_)
      exact J42 _ _ _ x52 (by
        cases hh : st.1
        · rw [if_neg (by decide)]; omega
        · rw [hh] at tt; exact absurd tt (by rw [cq]; decide)) hG (lv_sub hl [1, 2, 0] rfl)
