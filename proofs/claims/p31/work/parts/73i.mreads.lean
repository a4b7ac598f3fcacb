theorem cr_fr {T : Nat → Int32} {c a : Nat} {st : ST} {M M1 M2 : md_T} {r : Int32} (h : CR T c st a M1 M2 r) (hf : FR M1 M) : CR T c st a M M2 r := ⟨fr_tr h.1 hf, h.2⟩
theorem oks_c {T : Nat → Int32} {c a : Nat} {st : ST} (hO : OKS st) (h : (clk T c st a).1 = 0) : OKS (nst T c st a) := by
  have h0 := h
  unfold clk at h
  by_cases h1 : 4 ≤ wd (T a) ∨ (st.1 = false ∧ wd (T a) ≠ 0)
  · rw [if_pos h1] at h; cases h
  rw [if_neg h1] at h
  by_cases h2 : many st (wd (T a)) = true
  · rw [if_pos h2] at h; cases h
  rw [if_neg h2] at h
  have h2 : many st (wd (T a)) = false := by
    cases hh : many st (wd (T a))
    · rfl
    · exact absurd hh h2
  have h3 : (cln T c a).1 = 0 := by
    by_cases h3 : (cln T c a).1 = 0
    · exact h3
    · rw [if_neg h3] at h; exact absurd h h3
  refine oks_n hO h2 (fun hw => ?_) (by omega)
  have e : cln T c a = cnF T c 1 2 0 (a + 1) := by unfold cln; rw [hw]; rfl
  rw [e] at h3
  by_cases q0 : nk T c (a + 1) (nlo 1 0) (nhi 1 0) = 0
  · rw [cnF_y q0] at h3
    by_cases q1 : nk T c (na T c (a + 1)) (nlo 1 1) (nhi 1 1) = 0
    · have := nk_in q1
      rw [nlo_1.1, nlo_1.2] at this
      exact this
    · rw [cnF_n q1] at h3; exact absurd h3 q1
  · rw [cnF_n q0] at h3; exact absurd h3 q0
theorem wd_4 {x : Int32} (h : x.toInt ≠ 100 ∧ x.toInt ≠ 112 ∧ x.toInt ≠ 101 ∧ x.toInt ≠ 103) : wd x = 4 := by
  unfold wd
  rw [if_neg h.1, if_neg h.2.1, if_neg h.2.2.1, if_neg h.2.2.2]
set_option maxHeartbeats 4000000 in
set_option maxRecDepth 100000 in
theorem e_X10_readsClause (l : Launch) (D : va_G) (cy : Nat → ClassId) (τ : ty_T) (hU : UQ τ) {M : md_T} {ma : Nat} (hma : τ ma = some (0, 10)) {c : Nat} {T : Nat → Int32} (hc : c ≤ 240) (hX : MX M c T) {f : Nat → Nat} {st : ST} {a : Nat} (ha : a < c) (hO : OKS st) (hM : MS M st f) (h16 : M 0 16 = some ((a : Int), (a : Int))) : KI l D cy yX10_readsClause cX10_readsClause 3 .boolean (rL 4) τ (cn M τ) [.ref ma] (fun r w => (r.toInt = 0 ∨ r.toInt = 1) ∧ ∃ M2, w = cn M2 τ ∧ CR T c st a M M2 r) := by
  refine k_metI "EdgeEchoesModel" rfl (by decide +kernel) (Nat.le_of_ble_eq_true rfl) (fun r u h => (cI_nar (cI_01 h.1)).1) ?_
  intro p e s m args below meth cod Q ls X hG hl ret
  have hl : lv_has ls 3 [(0, .ref ma)] := hl
  refine lv_aload_n X.1 X.2.1 dX10_readsClause_0 rfl (lv_at hl 0 rfl) ?_
  refine gf_10_16 X hG hma q_892 dX10_readsClause_1 (fun x1 r1 => ?_)
  have b1 := (cn_R _ _ _ _ hma r1) _ _ (h16)
  refine lv_aload_n X.1 X.2.1 dX10_readsClause_4 rfl (lv_at hl 0 rfl) ?_
  refine gf_10_7 X hG hma q_883 dX10_readsClause_5 (fun x2 r2 => ?_)
  have b2 := (cn_R _ _ _ _ hma r2) _ _ (hX.1)
  refine n_icmp_ge (tgt := 23) X dX10_readsClause_8 (by decide) (fun cq => ?_) (fun cq => ?_)
  · exact absurd cq (by omega)
  · refine lv_aload_n X.1 X.2.1 dX10_readsClause_11 rfl (lv_at hl 0 rfl) ?_
    refine gf_10_6 X hG hma q_882 dX10_readsClause_12 (cn_N _ _ _ hma) (fun a4 h4 r4 => ?_)
    refine lv_aload_n X.1 X.2.1 dX10_readsClause_15 rfl (lv_at hl 0 rfl) ?_
    refine gf_10_16 X hG hma q_892 dX10_readsClause_16 (fun x5 r5 => ?_)
    have b5 := (cn_R _ _ _ _ hma r5) _ _ (h16)
    refine tg_iald X hG h4 rfl (cI_in (n := 240) (by omega)) dX10_readsClause_19 (fun x6 r6 => ?_)
    have b6 := rdR (cn_R _ _ _ _ h4 r6) (n := a) (by omega) (hX.2 a ha)
    have eW : x6.toInt = (T a).toInt := by omega
    refine lv_goto (tgt := 24) X.1 X.2.1 dX10_readsClause_20 (by decide) ?_
    refine lv_istore_n (lv' := [(1, .int x6), (0, .ref ma)]) X.1 X.2.1 dX10_readsClause_24 rfl hl (by decide) rfl (fun ls hl => ?_)
    have hl : lv_has ls 3 [(0, .ref ma), (1, .int x6)] := lv_sub hl [1, 0] rfl
    have J42 : ∀ (H : Heap) (locs : List Loc) (ls : Array Slot) (y2 : Int32), y2.toInt = (if st.1 = true then 0 else 1) → TG D cy τ (cn M τ) (ty_d τ) s.heap H locs → lv_has ls 3 [(0, .ref ma), (1, .int x6), (2, .int y2)] → W p l e (rL 4) s m args below meth cod H locs 0 0 Q (F0 m 42 ls []) := by
      intro H locs ls y2 ty2 hG hl
      have J86 : ∀ (H : Heap) (locs : List Loc) (ls : Array Slot), ¬ (4 ≤ wd (T a) ∨ (st.1 = false ∧ wd (T a) ≠ 0)) → TG D cy τ (cn M τ) (ty_d τ) s.heap H locs → lv_has ls 3 [(0, .ref ma), (1, .int x6), (2, .int y2)] → W p l e (rL 4) s m args below meth cod H locs 0 0 Q (F0 m 86 ls []) := by
        intro H locs ls hk1 hG hl
        refine lv_aload_n X.1 X.2.1 dX10_readsClause_86 rfl (lv_at hl 0 rfl) ?_
        refine lv_dup X.1 X.2.1 dX10_readsClause_87 rfl ?_
        refine gf_10_16 X hG hma q_892 dX10_readsClause_88 (fun x7 r7 => ?_)
        have b7 := (cn_R _ _ _ _ hma r7) _ _ (h16)
        refine n_ic X dX10_readsClause_91 (by decide) (by decide) (fun x8 t8 => ?_)
        refine n_add X dX10_readsClause_92 (by omega) (by omega) (fun x9 t9 => ?_)
        refine pg_10_16 X hG hma q_892 dX10_readsClause_93 (cn (fsM M 16 (((a + 1 : Nat) : Int), ((a + 1 : Nat) : Int))) τ) (cf_off hU hma fsM_ne) (cf_oth fsM_ne) (cw_new hma (ty_ryes fsM_at (by omega))) (fun H locs hG => ?_)
        refine lv_aload_n X.1 X.2.1 dX10_readsClause_96 rfl (lv_at hl 0 rfl) ?_
        refine gf_10_0 X hG hma q_876 dX10_readsClause_97 (cn_N _ _ _ hma) (fun a10 h10 r10 => ?_)
        refine n_sp X dX10_readsClause_100 (by decide) (by decide) (fun x11 t11 => ?_)
        refine n_ic X dX10_readsClause_103 (by decide) (by decide) (fun x12 t12 => ?_)
        have i13 : x11.toNatClampNeg = 4230 := by have := cI_clamp (x := x11) (by omega); omega
        refine tg_iast X hG h10 rfl (cI_in (n := 4261) (by omega)) dX10_readsClause_104 (cn (rsM (fsM M 16 (((a + 1 : Nat) : Int), ((a + 1 : Nat) : Int))) (4230) (1, 1)) τ) (cw_off hU h10 (by decide) (j0 := 4230) rs_ne) (by rw [i13]; exact cw_oth h10 rs_ne) (by rw [i13]; exact cw_new h10 (ty_ryes rs_at (by omega))) (fun H locs hG => ?_)
        have hf2 : FR (rsM (fsM M 16 (((a + 1 : Nat) : Int), ((a + 1 : Nat) : Int))) 4230 (1, 1)) M := fr_rs (fr_fs fr_rf (by omega)) (by omega)
        have hM2 : MS (rsM (fsM M 16 (((a + 1 : Nat) : Int), ((a + 1 : Nat) : Int))) 4230 (1, 1)) (true, st.2) f := ⟨(rs_ne _ _ (by omega)).trans ((fsM_ne _ _ (by omega)).trans hM.1), rs_at, fun o ho => (rs_ne _ _ (by omega)).trans ((fsM_ne _ _ (by omega)).trans (hM.2.2.1 o ho)), hM.2.2.2.1, hM.2.2.2.2⟩
        have h162 : (rsM (fsM M 16 (((a + 1 : Nat) : Int), ((a + 1 : Nat) : Int))) 4230 (1, 1)) 0 16 = some (((a + 1 : Nat) : Int), ((a + 1 : Nat) : Int)) := (rs_ne _ _ (by omega)).trans fsM_at
        have hX2 := mx_f hX hf2
        refine lv_iload_n X.1 X.2.1 dX10_readsClause_105 rfl (lv_at hl 1 rfl) ?_
        refine n_bp X dX10_readsClause_106 (by decide) (by decide) (fun x14 t14 => ?_)
        refine n_icmp_ne (tgt := 118) X dX10_readsClause_108 (by decide) (fun c15 => ?_) (fun c15 => ?_)
        · refine lv_iload_n X.1 X.2.1 dX10_readsClause_118 rfl (lv_at hl 1 rfl) ?_
          refine n_bp X dX10_readsClause_119 (by decide) (by decide) (fun x16 t16 => ?_)
          refine n_icmp_ne (tgt := 131) X dX10_readsClause_121 (by decide) (fun c17 => ?_) (fun c17 => ?_)
          · refine lv_iload_n X.1 X.2.1 dX10_readsClause_131 rfl (lv_at hl 1 rfl) ?_
            refine n_bp X dX10_readsClause_132 (by decide) (by decide) (fun x18 t18 => ?_)
            refine n_icmp_ne (tgt := 144) X dX10_readsClause_134 (by decide) (fun c19 => ?_) (fun c19 => ?_)
            · have hw0 : wd (T a) = 0 := by
                by_cases z : (T a).toInt = 100
                · exact wd_0 z
                · exact absurd (Or.inl (by rw [wd_4 ⟨z, by omega, by omega, by omega⟩]; omega)) hk1
              refine lv_iload_n X.1 X.2.1 dX10_readsClause_144 rfl (lv_at hl 2 rfl) ?_
              refine n_if_eq (tgt := 155) X dX10_readsClause_145 (by decide) (fun cq => ?_) (fun cq => ?_)
              · have hst : st.1 = true := by
                  cases hh : st.1
                  · rw [hh] at ty2; exact absurd ty2 (by rw [cq]; decide)
                  · rfl
                refine lv_aload_n X.1 X.2.1 dX10_readsClause_155 rfl (lv_at hl 0 rfl) ?_
                refine n_ic X dX10_readsClause_156 (by decide) (by decide) (fun x21 t21 => ?_)
                refine lv_aload_n X.1 X.2.1 dX10_readsClause_157 rfl (lv_at hl 0 rfl) ?_
                refine gf_10_16 X hG hma q_892 dX10_readsClause_158 (fun x22 r22 => ?_)
                have b22 := (cn_R _ _ _ _ hma r22) _ _ (h162)
                refine n_ic X dX10_readsClause_161 (by decide) (by decide) (fun x23 t23 => ?_)
                refine n_sub X dX10_readsClause_162 (by omega) (by omega) (fun x24 t24 => ?_)
                refine k_cVi X hG (e_X10_refuse l D cy τ hU hma x21 x24 (y := 3) (z := (a : Int)) (by omega) (by omega)) hma rfl yv_X10_refuse q_978 ⟨rfl, rfl⟩ ⟨Nat.le_of_ble_eq_true rfl, Nat.le_of_ble_eq_true rfl⟩ rfl hl.1 rfl (Nat.le_of_ble_eq_true rfl) ⟨Nat.zero_le _, Nat.zero_le _⟩ dX10_readsClause_163 (fun x25 u25 H locs hG po => ?_)
                obtain ⟨tr, eu⟩ := po
                rw [eu] at hG
                exact ret _ _ _ _ x25 _ hG ⟨by omega, _, rfl, cr_no (clk_3 hk1 (by rw [hw0]; exact hst)) (by decide) (fr_fs (fr_fs hf2 (by omega)) (by omega)) tr (by rw [fsM_ne _ _ (by omega), fsM_at]; rfl) fsM_at ⟨a + 1, ha, by rw [fsM_ne _ _ (by omega), fsM_ne _ _ (by omega)]; exact h162⟩⟩ dX10_readsClause_166
              · have hst : st.1 = false := by
                  cases hh : st.1
                  · rfl
                  · rw [hh] at ty2; exact absurd ty2 cq
                refine lv_aload_n X.1 X.2.1 dX10_readsClause_148 rfl (lv_at hl 0 rfl) ?_
                refine k_cVi X hG (e_X10_readsDriver l D cy τ hU hma hc hX2 ha hO hM2 h162 hk1 (hw0) hst) hma rfl yv_X10_readsDriver q_1008 ⟨rfl, rfl⟩ ⟨Nat.le_of_ble_eq_true rfl, Nat.le_of_ble_eq_true rfl⟩ rfl hl.1 rfl (Nat.le_of_ble_eq_true rfl) ⟨Nat.zero_le _, Nat.zero_le _⟩ dX10_readsClause_149 (fun x26 u26 H locs hG po => ?_)
                obtain ⟨pb, M3, eu, hcr⟩ := po
                rw [eu] at hG
                refine lv_goto (tgt := 166) X.1 X.2.1 dX10_readsClause_152 (by decide) ?_
                exact ret _ _ _ _ x26 _ hG ⟨pb, _, rfl, cr_fr hcr hf2⟩ dX10_readsClause_166
            · refine lv_aload_n X.1 X.2.1 dX10_readsClause_137 rfl (lv_at hl 0 rfl) ?_
              refine k_cVi X hG (e_X10_readsGate l D cy τ hU hma hc hX2 ha hO hM2 h162 hk1 (wd_3 (by omega))) hma rfl yv_X10_readsGate q_1004 ⟨rfl, rfl⟩ ⟨Nat.le_of_ble_eq_true rfl, Nat.le_of_ble_eq_true rfl⟩ rfl hl.1 rfl (Nat.le_of_ble_eq_true rfl) ⟨Nat.zero_le _, Nat.zero_le _⟩ dX10_readsClause_138 (fun x27 u27 H locs hG po => ?_)
              obtain ⟨pb, M3, eu, hcr⟩ := po
              rw [eu] at hG
              refine lv_goto (tgt := 166) X.1 X.2.1 dX10_readsClause_141 (by decide) ?_
              exact ret _ _ _ _ x27 _ hG ⟨pb, _, rfl, cr_fr hcr hf2⟩ dX10_readsClause_166
          · refine lv_aload_n X.1 X.2.1 dX10_readsClause_124 rfl (lv_at hl 0 rfl) ?_
            refine k_cVi X hG (e_X10_readsTheEnd l D cy τ hU hma hc hX2 ha hO hM2 h162 hk1 (wd_2 (by omega))) hma rfl yv_X10_readsTheEnd q_1000 ⟨rfl, rfl⟩ ⟨Nat.le_of_ble_eq_true rfl, Nat.le_of_ble_eq_true rfl⟩ rfl hl.1 rfl (Nat.le_of_ble_eq_true rfl) ⟨Nat.zero_le _, Nat.zero_le _⟩ dX10_readsClause_125 (fun x28 u28 H locs hG po => ?_)
            obtain ⟨pb, M3, eu, hcr⟩ := po
            rw [eu] at hG
            refine lv_goto (tgt := 166) X.1 X.2.1 dX10_readsClause_128 (by decide) ?_
            exact ret _ _ _ _ x28 _ hG ⟨pb, _, rfl, cr_fr hcr hf2⟩ dX10_readsClause_166
        · refine lv_aload_n X.1 X.2.1 dX10_readsClause_111 rfl (lv_at hl 0 rfl) ?_
          refine k_cVi X hG (e_X10_readsPiece l D cy τ hU hma hc hX2 ha hO hM2 h162 hk1 (wd_1 (by omega))) hma rfl yv_X10_readsPiece q_982 ⟨rfl, rfl⟩ ⟨Nat.le_of_ble_eq_true rfl, Nat.le_of_ble_eq_true rfl⟩ rfl hl.1 rfl (Nat.le_of_ble_eq_true rfl) ⟨Nat.zero_le _, Nat.zero_le _⟩ dX10_readsClause_112 (fun x29 u29 H locs hG po => ?_)
          obtain ⟨pb, M3, eu, hcr⟩ := po
          rw [eu] at hG
          refine lv_goto (tgt := 166) X.1 X.2.1 dX10_readsClause_115 (by decide) ?_
          exact ret _ _ _ _ x29 _ hG ⟨pb, _, rfl, cr_fr hcr hf2⟩ dX10_readsClause_166
      have J66 : ∀ (H : Heap) (locs : List Loc) (ls : Array Slot), wd (T a) ≤ 3 → TG D cy τ (cn M τ) (ty_d τ) s.heap H locs → lv_has ls 3 [(0, .ref ma), (1, .int x6), (2, .int y2)] → W p l e (rL 4) s m args below meth cod H locs 0 0 Q (F0 m 66 ls []) := by
        intro H locs ls hw3 hG hl
        refine lv_iload_n X.1 X.2.1 dX10_readsClause_66 rfl (lv_at hl 2 rfl) ?_
        refine n_if_eq (tgt := 86) X dX10_readsClause_67 (by decide) (fun cq => ?_) (fun cq => ?_)
        · exact J86 _ _ _ (by
            have : st.1 = true := by
              cases hh : st.1
              · rw [hh] at ty2; exact absurd ty2 (by rw [cq]; decide)
              · rfl
            rw [this]; intro h; rcases h with h | h
            · omega
            · exact absurd h.1 (by decide)) hG hl
        · have hst : st.1 = false := by
            cases hh : st.1
            · rfl
            · rw [hh] at ty2; exact absurd ty2 cq
          refine lv_iload_n X.1 X.2.1 dX10_readsClause_70 rfl (lv_at hl 1 rfl) ?_
          refine n_bp X dX10_readsClause_71 (by decide) (by decide) (fun x31 t31 => ?_)
          refine n_icmp_eq (tgt := 86) X dX10_readsClause_73 (by decide) (fun c32 => ?_) (fun c32 => ?_)
          · exact J86 _ _ _ (by rw [wd_0 (show (T a).toInt = 100 by omega)]; omega) hG hl
          · refine lv_aload_n X.1 X.2.1 dX10_readsClause_76 rfl (lv_at hl 0 rfl) ?_
            refine n_ic X dX10_readsClause_77 (by decide) (by decide) (fun x33 t33 => ?_)
            refine lv_aload_n X.1 X.2.1 dX10_readsClause_78 rfl (lv_at hl 0 rfl) ?_
            refine gf_10_16 X hG hma q_892 dX10_readsClause_79 (fun x34 r34 => ?_)
            have b34 := (cn_R _ _ _ _ hma r34) _ _ (h16)
            refine k_cVi X hG (e_X10_refuse l D cy τ hU hma x33 x34 (y := 1) (z := (a : Int)) (by omega) (by omega)) hma rfl yv_X10_refuse q_978 ⟨rfl, rfl⟩ ⟨Nat.le_of_ble_eq_true rfl, Nat.le_of_ble_eq_true rfl⟩ rfl hl.1 rfl (Nat.le_of_ble_eq_true rfl) ⟨Nat.zero_le _, Nat.zero_le _⟩ dX10_readsClause_82 (fun x35 u35 H locs hG po => ?_)
            obtain ⟨tr, eu⟩ := po
            rw [eu] at hG
            exact ret _ _ _ _ x35 _ hG ⟨by omega, _, rfl, cr_no (clk_1 (Or.inr ⟨hst, fun z => by
              unfold wd at z
              rw [if_neg (show ¬ (T a).toInt = 100 by omega)] at z
              split at z
              · cases z
              · split at z
                · cases z
                · split at z <;> cases z⟩)) (by decide) (fr_fs (fr_fs fr_rf (by omega)) (by omega)) tr (by rw [fsM_ne _ _ (by omega), fsM_at]; rfl) fsM_at ⟨a, Nat.le_of_lt ha, by rw [fsM_ne _ _ (by omega), fsM_ne _ _ (by omega)]; exact h16⟩⟩ dX10_readsClause_85
      refine lv_iload_n X.1 X.2.1 dX10_readsClause_42 rfl (lv_at hl 1 rfl) ?_
      refine n_bp X dX10_readsClause_43 (by decide) (by decide) (fun x36 t36 => ?_)
      refine n_icmp_eq (tgt := 66) X dX10_readsClause_45 (by decide) (fun c37 => ?_) (fun c37 => ?_)
      · exact J66 _ _ _ (by rw [wd_0 (by omega)]; omega) hG hl
      · refine lv_iload_n X.1 X.2.1 dX10_readsClause_48 rfl (lv_at hl 1 rfl) ?_
        refine n_bp X dX10_readsClause_49 (by decide) (by decide) (fun x38 t38 => ?_)
        refine n_icmp_eq (tgt := 66) X dX10_readsClause_51 (by decide) (fun c39 => ?_) (fun c39 => ?_)
        · exact J66 _ _ _ (by rw [wd_1 (by omega)]; omega) hG hl
        · refine lv_iload_n X.1 X.2.1 dX10_readsClause_54 rfl (lv_at hl 1 rfl) ?_
          refine n_bp X dX10_readsClause_55 (by decide) (by decide) (fun x40 t40 => ?_)
          refine n_icmp_eq (tgt := 66) X dX10_readsClause_57 (by decide) (fun c41 => ?_) (fun c41 => ?_)
          · exact J66 _ _ _ (by rw [wd_2 (by omega)]; omega) hG hl
          · refine lv_iload_n X.1 X.2.1 dX10_readsClause_60 rfl (lv_at hl 1 rfl) ?_
            refine n_bp X dX10_readsClause_61 (by decide) (by decide) (fun x42 t42 => ?_)
            refine n_icmp_ne (tgt := 76) X dX10_readsClause_63 (by decide) (fun c43 => ?_) (fun c43 => ?_)
            · refine lv_aload_n X.1 X.2.1 dX10_readsClause_76 rfl (lv_at hl 0 rfl) ?_
              refine n_ic X dX10_readsClause_77 (by decide) (by decide) (fun x44 t44 => ?_)
              refine lv_aload_n X.1 X.2.1 dX10_readsClause_78 rfl (lv_at hl 0 rfl) ?_
              refine gf_10_16 X hG hma q_892 dX10_readsClause_79 (fun x45 r45 => ?_)
              have b45 := (cn_R _ _ _ _ hma r45) _ _ (h16)
              refine k_cVi X hG (e_X10_refuse l D cy τ hU hma x44 x45 (y := 1) (z := (a : Int)) (by omega) (by omega)) hma rfl yv_X10_refuse q_978 ⟨rfl, rfl⟩ ⟨Nat.le_of_ble_eq_true rfl, Nat.le_of_ble_eq_true rfl⟩ rfl hl.1 rfl (Nat.le_of_ble_eq_true rfl) ⟨Nat.zero_le _, Nat.zero_le _⟩ dX10_readsClause_82 (fun x46 u46 H locs hG po => ?_)
              obtain ⟨tr, eu⟩ := po
              rw [eu] at hG
              exact ret _ _ _ _ x46 _ hG ⟨by omega, _, rfl, cr_no (clk_1 (Or.inl (by rw [wd_4 ⟨by omega, by omega, by omega, by omega⟩]; omega))) (by decide) (fr_fs (fr_fs fr_rf (by omega)) (by omega)) tr (by rw [fsM_ne _ _ (by omega), fsM_at]; rfl) fsM_at ⟨a, Nat.le_of_lt ha, by rw [fsM_ne _ _ (by omega), fsM_ne _ _ (by omega)]; exact h16⟩⟩ dX10_readsClause_85
            · exact J66 _ _ _ (by rw [wd_3 (by omega)]; omega) hG hl
    refine lv_aload_n X.1 X.2.1 dX10_readsClause_25 rfl (lv_at hl 0 rfl) ?_
    refine gf_10_0 X hG hma q_876 dX10_readsClause_26 (cn_N _ _ _ hma) (fun a47 h47 r47 => ?_)
    refine n_sp X dX10_readsClause_29 (by decide) (by decide) (fun x48 t48 => ?_)
    refine tg_iald X hG h47 rfl (cI_in (n := 4261) (by omega)) dX10_readsClause_32 (fun x49 r49 => ?_)
    have b49 := rdR (cn_R _ _ _ _ h47 r49) (n := 4230) (by omega) (hM.2.1)
    have tt : x49.toInt = if st.1 = true then 1 else 0 := Int.le_antisymm b49.2 b49.1
    refine n_if_ne (tgt := 40) X dX10_readsClause_33 (by decide) (fun cq => ?_) (fun cq => ?_)
    · refine n_ic X dX10_readsClause_40 (by decide) (by decide) (fun x51 t51 => ?_)
      refine lv_istore_n (lv' := [(2, .int x51), (0, .ref ma), (1, .int x6)]) X.1 X.2.1 dX10_readsClause_41 rfl hl (by decide) rfl (fun ls hl => ?_)
      exact J42 _ _ _ x51 (by
        cases hh : st.1
        · rw [hh] at tt; exact absurd tt cq
        · rw [if_pos rfl]; omega) hG (lv_sub hl [1, 2, 0] rfl)
    · refine n_ic X dX10_readsClause_36 (by decide) (by decide) (fun x52 t52 => ?_)
      refine lv_goto (tgt := 41) X.1 X.2.1 dX10_readsClause_37 (by decide) ?_
      refine lv_istore_n (lv' := [(2, .int x52), (0, .ref ma), (1, .int x6)]) X.1 X.2.1 dX10_readsClause_41 rfl hl (by decide) rfl (fun ls hl => ?_)
      exact J42 _ _ _ x52 (by
        cases hh : st.1
        · rw [if_neg (by decide)]; omega
        · rw [hh] at tt; exact absurd tt (by rw [cq]; decide)) hG (lv_sub hl [1, 2, 0] rfl)
/-- rows at nought, the word 'told' too -/
def zX (M : md_T) (k : Nat) : md_T := fun a j => if a = 10 ∧ 3983 ≤ j ∧ j < 3983 + k then (if j = 4230 then some (0, 0) else rdM 0 0 (fun _ => 0) (j - 3983)) else M a j
theorem zX_in {M : md_T} {k j : Nat} (h : 3983 ≤ j ∧ j < 3983 + k) : zX M k 10 j = if j = 4230 then some (0, 0) else rdM 0 0 (fun _ => 0) (j - 3983) := if_pos ⟨rfl, h⟩
theorem zX_out {M : md_T} {k a j : Nat} (h : ¬ (a = 10 ∧ 3983 ≤ j ∧ j < 3983 + k)) : zX M k a j = M a j := if_neg h
theorem zX_0 {M : md_T} : zX M 0 = M := by funext a j; exact if_neg (by omega)
theorem zX_s {M : md_T} {k : Nat} : ∀ n j, n ≠ 10 ∨ j ≠ 3983 + k → zX M (k + 1) n j = zX M k n j := by
  intro n j h
  unfold zX
  by_cases e : n = 10 ∧ 3983 ≤ j ∧ j < 3983 + k
  · rw [if_pos e, if_pos (show n = 10 ∧ 3983 ≤ j ∧ j < 3983 + (k + 1) by omega)]
  · rw [if_neg e, if_neg (show ¬ (n = 10 ∧ 3983 ≤ j ∧ j < 3983 + (k + 1)) by omega)]
abbrev rdT (K : KT) : Nat × Nat × ST := rdF K.2.2.2.2 K.1 (K.1 + 1) (false, 0, 0, false, 0) (sk K.2.2.2.2 K.1 0)
set_option maxHeartbeats 4000000 in
set_option maxRecDepth 100000 in
theorem e_X10_reads (l : Launch) (D : va_G) (cy : Nat → ClassId) (τ : ty_T) (hU : UQ τ) {K : KT} {P N u : Nat} {k0 k1 : Bool} (ok : OKG K P N u) {ma : Nat} (hma : τ ma = some (0, 10)) : KI l D cy yX10_reads cX10_reads 2 .boolean (rL 5) τ (cn (MM K P N u k0 k1) τ) [.ref ma] (fun r w => (r.toInt = 0 ∨ r.toInt = 1) ∧ ∃ M2, w = cn M2 τ ∧ FR M2 (MM K P N u k0 k1) ∧ ((rdT K).1 = 0 → r.toInt = 1 ∧ M2 0 16 = some (((rdT K).2.1 : Int), ((rdT K).2.1 : Int)) ∧ (rdT K).2.1 ≤ K.1 ∧ OKS (rdT K).2.2 ∧ ∃ g, MS M2 (rdT K).2.2 g) ∧ ((rdT K).1 ≠ 0 → r.toInt = 0 ∧ M2 0 17 = some (((rdT K).1 : Int), ((rdT K).1 : Int)) ∧ M2 0 18 = some (((rdT K).2.1 : Int), ((rdT K).2.1 : Int)))) := by
  refine k_metI "EdgeEchoesModel" rfl (by decide +kernel) (Nat.le_of_ble_eq_true rfl) (fun r u h => (cI_nar (cI_01 h.1)).1) ?_
  intro p e s m args below meth cod Q ls X hG hl ret
  have hl : lv_has ls 2 [(0, .ref ma)] := hl
  have hc : K.1 ≤ 240 := ok.1.2.1
  have hu := ok.2.2.2
  obtain ⟨R, eR⟩ : ∃ R, R = rdT K := ⟨_, rfl⟩
  have J42 : ∀ (n q : Nat) (st : ST) (M : md_T) (f : Nat → Nat) (H : Heap) (locs : List Loc) (ls : Array Slot) (x : Int32), q ≤ K.1 → rdF K.2.2.2.2 K.1 n st q = rdT K → MX M K.1 K.2.2.2.2 → MS M st f → M 0 16 = some ((q : Int), (q : Int)) → OKS st → FR M (MM K P N u k0 k1) → x.toInt = 1 → K.1 - q < n → TG D cy τ (cn M τ) (ty_d τ) s.heap H locs → lv_has ls 2 [(0, .ref ma), (1, .int x)] → W p l e (rL 5) s m args below meth cod H locs 0 0 Q (F0 m 42 ls []) := by
    intro n
    induction n with
    | zero => intro q st M f H locs ls x h1 h2 h3 h4 h5 h6 h7 h8 h9; exact absurd h9 (Nat.not_lt_zero _)
    | succ n ih =>
      intro q st M f H locs ls x hq hrd hX hM h16 hO hfr tx hm hG hl
      refine lv_iload_n X.1 X.2.1 dX10_reads_42 rfl (lv_at hl 1 rfl) ?_
      refine n_if_eq (tgt := 69) X dX10_reads_43 (by decide) (fun c1 => ?_) (fun c1 => ?_)
      · exact absurd c1 (by omega)
      · refine lv_aload_n X.1 X.2.1 dX10_reads_46 rfl (lv_at hl 0 rfl) ?_
        refine gf_10_16 X hG hma q_892 dX10_reads_47 (fun x1 r1 => ?_)
        have b1 := (cn_R _ _ _ _ hma r1) _ _ h16
        refine lv_aload_n X.1 X.2.1 dX10_reads_50 rfl (lv_at hl 0 rfl) ?_
        refine gf_10_7 X hG hma q_883 dX10_reads_51 (fun x2 r2 => ?_)
        have b2 := (cn_R _ _ _ _ hma r2) _ _ hX.1
        refine n_icmp_ge (tgt := 69) X dX10_reads_54 (by decide) (fun c2 => ?_) (fun c2 => ?_)
        · have hz : rdT K = (0, q, st) := by
            rw [← hrd]
            exact if_neg (by omega)
          refine lv_iload_n X.1 X.2.1 dX10_reads_69 rfl (lv_at hl 1 rfl) ?_
          exact ret _ _ _ _ x _ hG ⟨by omega, M, rfl, hfr, (fun _ => by rw [hz]; exact ⟨tx, h16, hq, hO, f, hM⟩), (fun h => absurd (by rw [hz]) h)⟩ dX10_reads_70
        · have hqc : q < K.1 := by omega
          refine lv_aload_n X.1 X.2.1 dX10_reads_57 rfl (lv_at hl 0 rfl) ?_
          refine k_cVi X hG (e_X10_readsClause l D cy τ hU hma hc hX hqc hO hM h16) hma rfl yv_X10_readsClause q_974 ⟨rfl, rfl⟩ ⟨Nat.le_of_ble_eq_true rfl, Nat.le_of_ble_eq_true rfl⟩ rfl hl.1 rfl (Nat.le_of_ble_eq_true rfl) ⟨Nat.zero_le _, Nat.zero_le _⟩ dX10_reads_58 (fun x3 u3 H locs hG po => ?_)
          obtain ⟨pb, M3, eu, hf3, hy, hn⟩ := po
          rw [eu] at hG
          refine lv_istore_n (lv' := [(1, .int x3), (0, .ref ma)]) X.1 X.2.1 dX10_reads_61 rfl hl (by decide) rfl (fun ls hl => ?_)
          refine lv_aload_n X.1 X.2.1 dX10_reads_62 rfl (lv_at hl 1 rfl) ?_
          have hX3 := mx_f hX hf3
          by_cases hk0 : (clk K.2.2.2.2 K.1 st q).1 = 0
          · obtain ⟨r1, h163, g, hM3⟩ := hy hk0
            obtain ⟨hgt, hle⟩ := clk_0 hk0
            refine k_cVv X hG (e_X10_pass l D cy τ hU hma hc hX3 hle h163) hma rfl yv_X10_pass q_970 ⟨rfl, rfl⟩ ⟨Nat.le_of_ble_eq_true rfl, Nat.le_of_ble_eq_true rfl⟩ rfl hl.1 rfl (Nat.le_of_ble_eq_true rfl) ⟨Nat.zero_le _, Nat.zero_le _⟩ dX10_reads_63 (fun u4 H locs hG po => ?_)
            rw [po] at hG
            refine lv_goto (tgt := 42) X.1 X.2.1 dX10_reads_66 (by decide) ?_
            have hs1 := sk_ge (T := K.2.2.2.2) (c := K.1) (a := (clk K.2.2.2.2 K.1 st q).2)
            have fr4 : FR1 (fsM M3 16 ((sk K.2.2.2.2 K.1 (clk K.2.2.2.2 K.1 st q).2 : Int), (sk K.2.2.2.2 K.1 (clk K.2.2.2.2 K.1 st q).2 : Int))) M3 := fr1_fs fr1_rf (by omega)
            refine ih (sk K.2.2.2.2 K.1 (clk K.2.2.2.2 K.1 st q).2) (nst K.2.2.2.2 K.1 st q) _ g _ _ _ x3 (sk_le hle) ?_ (mx_fr hX3 fr4) (ms_1 hM3 fr4) fsM_at ?_ (fr_tr (fr_1 fr4) (fr_tr hf3 hfr)) r1 (by omega) hG (lv_sub hl [1, 0] rfl)
            · rw [← hrd]
              show _ = (if q < K.1 then (if (clk K.2.2.2.2 K.1 st q).1 = 0 then _ else _) else _)
              rw [if_pos hqc, if_pos hk0]
            · exact oks_c hO hk0
          · obtain ⟨r0, h17, h18, b, hb, h16b⟩ := hn hk0
            have hz : rdT K = ((clk K.2.2.2.2 K.1 st q).1, (clk K.2.2.2.2 K.1 st q).2, st) := by
              rw [← hrd]
              show (if q < K.1 then (if (clk K.2.2.2.2 K.1 st q).1 = 0 then _ else _) else _) = _
              rw [if_pos hqc, if_neg hk0]
            refine k_cVv X hG (e_X10_pass l D cy τ hU hma hc hX3 hb h16b) hma rfl yv_X10_pass q_970 ⟨rfl, rfl⟩ ⟨Nat.le_of_ble_eq_true rfl, Nat.le_of_ble_eq_true rfl⟩ rfl hl.1 rfl (Nat.le_of_ble_eq_true rfl) ⟨Nat.zero_le _, Nat.zero_le _⟩ dX10_reads_63 (fun u4 H locs hG po => ?_)
            rw [po] at hG
            refine lv_goto (tgt := 42) X.1 X.2.1 dX10_reads_66 (by decide) ?_
            refine lv_iload_n X.1 X.2.1 dX10_reads_42 rfl (lv_at hl 0 rfl) ?_
            refine n_if_eq (tgt := 69) X dX10_reads_43 (by decide) (fun c3 => ?_) (fun c3 => ?_)
            · refine lv_iload_n X.1 X.2.1 dX10_reads_69 rfl (lv_at hl 0 rfl) ?_
              exact ret _ _ _ _ x3 _ hG ⟨pb, _, rfl, fr_fs (fr_tr hf3 hfr) (by omega), (fun h => absurd (by rw [hz] at h; exact h) hk0), (fun _ => by rw [hz]; exact ⟨r0, (fsM_ne _ _ (by omega)).trans h17, (fsM_ne _ _ (by omega)).trans h18⟩)⟩ dX10_reads_70
            · exact absurd r0 c3
  refine n_ic X dX10_reads_0 (by decide) (by decide) (fun y1 t1 => ?_)
  refine lv_istore_n (lv' := [(1, .int y1), (0, .ref ma)]) X.1 X.2.1 dX10_reads_1 rfl hl (by decide) rfl (fun ls hl => ?_)
  have J2 : ∀ (n : Nat) (k : Nat) (H : Heap) (locs : List Loc) (ls : Array Slot) (x : Int32), x.toInt = (k : Int) → k ≤ 278 → 278 - k < n → TG D cy τ (cn (zX (MM K P N u k0 k1) k) τ) (ty_d τ) s.heap H locs → lv_has ls 2 [(0, .ref ma), (1, .int x)] → W p l e (rL 5) s m args below meth cod H locs 0 0 Q (F0 m 2 ls []) := by
    intro n
    induction n with
    | zero => intro k H locs ls x ek hk hm hG hl; exact absurd hm (Nat.not_lt_zero _)
    | succ n ih =>
      intro k H locs ls x ek hk hm hG hl
      refine lv_iload_n X.1 X.2.1 dX10_reads_2 rfl (lv_at hl 1 rfl) ?_
      refine n_sp X dX10_reads_3 (by decide) (by decide) (fun x1 t1 => ?_)
      refine n_icmp_ge (tgt := 26) X dX10_reads_6 (by decide) (fun c1 => ?_) (fun c1 => ?_)
      · rw [show k = 278 by omega] at hG
        refine lv_aload_n X.1 X.2.1 dX10_reads_26 rfl (lv_at hl 0 rfl) ?_
        refine n_ic X dX10_reads_27 (by decide) (by decide) (fun x2 t2 => ?_)
        refine pg_10_16 X hG hma q_892 dX10_reads_28 (cn (fsM (zX (MM K P N u k0 k1) 278) 16 (((0 : Nat) : Int), ((0 : Nat) : Int))) τ) (cf_off hU hma fsM_ne) (cf_oth fsM_ne) (cw_new hma (ty_ryes fsM_at (by omega))) (fun H locs hG => ?_)
        refine lv_aload_n X.1 X.2.1 dX10_reads_31 rfl (lv_at hl 0 rfl) ?_
        refine n_ic X dX10_reads_32 (by decide) (by decide) (fun x3 t3 => ?_)
        refine pg_10_20 X hG hma q_896 (by omega) dX10_reads_33 (cn (fsM (fsM (zX (MM K P N u k0 k1) 278) 16 (((0 : Nat) : Int), ((0 : Nat) : Int))) 20 (0, 0)) τ) (cf_off hU hma fsM_ne) (cf_oth fsM_ne) (cw_new hma (ty_ryes fsM_at (by omega))) (fun H locs hG => ?_)
        refine n_ic X dX10_reads_36 (by decide) (by decide) (fun x4 t4 => ?_)
        refine lv_istore_n (lv' := [(1, .int x4), (0, .ref ma)]) X.1 X.2.1 dX10_reads_37 rfl hl (by decide) rfl (fun ls hl => ?_)
        refine lv_aload_n X.1 X.2.1 dX10_reads_38 rfl (lv_at hl 1 rfl) ?_
        have frz : FR (fsM (fsM (zX (MM K P N u k0 k1) 278) 16 (((0 : Nat) : Int), ((0 : Nat) : Int))) 20 (0, 0)) (MM K P N u k0 k1) := fr_fs (fr_fs (fun n j h1 h2 => zX_out (by omega)) (by omega)) (by omega)
        have hXz : MX (fsM (fsM (zX (MM K P N u k0 k1) 278) 16 (((0 : Nat) : Int), ((0 : Nat) : Int))) 20 (0, 0)) K.1 K.2.2.2.2 := mx_f ⟨rfl, fun j hj => by rw [MM_16]; unfold txM; rw [if_pos hj]⟩ frz
        have hMz : MS (fsM (fsM (zX (MM K P N u k0 k1) 278) 16 (((0 : Nat) : Int), ((0 : Nat) : Int))) 20 (0, 0)) (false, 0, 0, false, 0) (fun _ => 0) := by
          refine ⟨fsM_at, ?_, fun o ho => ?_, rfl, fun _ => Nat.zero_le _⟩
          · rw [fsM_ne _ _ (by omega), fsM_ne _ _ (by omega), zX_in (by omega), if_pos rfl]; rfl
          · rw [fsM_ne _ _ (by omega), fsM_ne _ _ (by omega)]
            by_cases ho2 : o < 278
            · rw [zX_in (by omega), if_neg (by omega), show 3983 + o - 3983 = o by omega]
            · rw [zX_out (by omega), MM_10, rw_hi hu (by omega)]
              exact (rd_no (Nat.zero_le _) (by omega)).symm
        refine k_cVv X hG (e_X10_pass l D cy τ hU hma hc hXz (Nat.zero_le _) ((fsM_ne _ _ (by omega)).trans fsM_at)) hma rfl yv_X10_pass q_970 ⟨rfl, rfl⟩ ⟨Nat.le_of_ble_eq_true rfl, Nat.le_of_ble_eq_true rfl⟩ rfl hl.1 rfl (Nat.le_of_ble_eq_true rfl) ⟨Nat.zero_le _, Nat.zero_le _⟩ dX10_reads_39 (fun u4 H locs hG po => ?_)
        rw [po] at hG
        have fr4 : FR1 (fsM (fsM (fsM (zX (MM K P N u k0 k1) 278) 16 (((0 : Nat) : Int), ((0 : Nat) : Int))) 20 (0, 0)) 16 ((sk K.2.2.2.2 K.1 0 : Int), (sk K.2.2.2.2 K.1 0 : Int))) (fsM (fsM (zX (MM K P N u k0 k1) 278) 16 (((0 : Nat) : Int), ((0 : Nat) : Int))) 20 (0, 0)) := fr1_fs fr1_rf (by omega)
        exact J42 (K.1 + 1) (sk K.2.2.2.2 K.1 0) _ _ _ _ _ _ x4 (sk_le (Nat.zero_le _)) rfl (mx_fr hXz fr4) (ms_1 hMz fr4) fsM_at ⟨Nat.zero_le _, Nat.zero_le _, Nat.zero_le _⟩ (fr_tr (fr_1 fr4) frz) t4 (by omega) hG (lv_sub hl [1, 0] rfl)
      · refine lv_aload_n X.1 X.2.1 dX10_reads_9 rfl (lv_at hl 0 rfl) ?_
        refine gf_10_0 X hG hma q_876 dX10_reads_10 (cn_N _ _ _ hma) (fun a2 h2 r2 => ?_)
        refine n_sp X dX10_reads_13 (by decide) (by decide) (fun x3 t3 => ?_)
        refine lv_iload_n X.1 X.2.1 dX10_reads_16 rfl (lv_at hl 1 rfl) ?_
        refine n_add X dX10_reads_17 (by omega) (by omega) (fun x4 t4 => ?_)
        refine n_ic X dX10_reads_18 (by decide) (by decide) (fun x5 t5 => ?_)
        have i4 : x4.toNatClampNeg = 3983 + k := by have := cI_clamp (x := x4) (by omega); omega
        refine tg_iast X hG h2 rfl (cI_in (n := 4261) (by omega)) dX10_reads_19 (cn (zX (MM K P N u k0 k1) (k + 1)) τ) (cw_off hU h2 (by decide) (j0 := 3983 + k) zX_s) (by rw [i4]; exact cw_oth h2 zX_s) (by
          rw [i4]
          refine cw_new h2 (fun lo hi hr => ?_)
          have q1 : zX (MM K P N u k0 k1) (k + 1) 10 (3983 + k) = some (lo, hi) := hr
          rw [zX_in (by omega)] at q1
          by_cases z : 3983 + k = 4230
          · rw [if_pos z] at q1
            cases q1
            omega
          · rw [if_neg z] at q1
            have := rd0 q1
            omega) (fun H locs hG => ?_)
        refine n_inc X (fun z => [(1, .int z), (0, .ref ma)]) dX10_reads_20 hl (k := 1) rfl (by decide) (by decide) (by omega) (by omega) (by decide) (fun _ => rfl) (fun x6 ls t6 hl => ?_)
        have hl : lv_has ls 2 [(1, .int x6), (0, .ref ma)] := hl
        refine lv_goto (tgt := 2) X.1 X.2.1 dX10_reads_23 (by decide) ?_
        exact ih (k + 1) _ _ _ x6 (by omega) (by omega) (by omega) hG (lv_sub hl [1, 0] rfl)
  exact J2 279 0 _ _ _ y1 (by omega) (by omega) (by omega) (by rw [zX_0]; exact hG) (lv_sub hl [1, 0] rfl)
