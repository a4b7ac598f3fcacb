set_option maxHeartbeats 4000000 in
set_option maxRecDepth 100000 in
theorem e_X10_ticks0 (l : Launch) (D : va_G) (cy : Nat → ClassId) (τ : ty_T) (hU : UQ τ) {M : md_T} {P N : Nat} (hB0 : HB M P N) (hL0 : LV M P 0) {v : Int32} (hv : 0 ≤ v.toInt) {B : Nat} (hBB : B ≤ 1000000) {a900 : Nat} (h900 : τ a900 = some (0, 10)) (x901 : Int32) (eb : x901.toInt = 0) (x902 : Int32) (z902 : 0 ≤ x902.toInt ∧ x902.toInt ≤ 50) : KV l D cy yX10_ticks cX10_ticks 5 (rL 4) τ (cn (SDM M v B) τ) [.ref a900, .int x901, .int x902] (fun w => w = cn (SDM M v (B + x902.toInt.toNat)) τ) := by
  refine k_metV "EdgeEchoesModel" rfl (by decide +kernel) (Nat.le_of_ble_eq_true rfl) ?_
  intro p e s m args below meth c Q ls X hG hl ret
  have hl : lv_has ls 5 [(0, .ref a900), (1, .int x901), (2, .int x902)] := hl
  have g902 := cI_rng x902
  refine n_ic X dX10_ticks_0 (by decide) (by decide) (fun x1 t1 => ?_)
  refine lv_istore_n (lv' := [(3, .int x1), (0, .ref a900), (1, .int x901), (2, .int x902)]) X.1 X.2.1 dX10_ticks_1 rfl hl (by decide) rfl (fun ls hl => ?_)
  have J2 : ∀ (n : Nat) (H : Heap) (locs : List Loc) (ls : Array Slot) (x2 : Int32), (0 ≤ x2.toInt ∧ x2.toInt ≤ x902.toInt) → (2147483647 - x2.toInt).toNat < n → TG D cy τ (cn (SDM M v (B + x2.toInt.toNat)) τ) (ty_d τ) s.heap H locs → lv_has ls 5 [(0, .ref a900), (1, .int x901), (2, .int x902), (3, .int x2)] → W p l e (rL 4) s m args below meth c H locs 0 0 Q (F0 m 2 ls []) := by
    intro n
    induction n with
    | zero => intro H locs ls x2 bx2 hm2 hG hl; exact absurd hm2 (Nat.not_lt_zero _)
    | succ n ih2 =>
      intro H locs ls x2 bx2 hm2 hG hl
      have gx2 := cI_rng x2
      have hN := cn_N (M := SDM M v (B + x2.toInt.toNat)) (τ := τ)
      have hR := cn_R (M := SDM M v (B + x2.toInt.toNat)) (τ := τ)
      have hF : ty_Wf (SDM M v (B + x2.toInt.toNat)) τ (cn (SDM M v (B + x2.toInt.toNat)) τ) [6010, 6031, 6032] := cn_F
      have hB := SD_HB (B := B + x2.toInt.toNat) hB0 hv
      have hL := SD_LV (v := v) (B := B + x2.toInt.toNat) hL0
      obtain ⟨⟨⟨n9, m9, n9p⟩, ⟨n13, m13, n13p⟩, ⟨n3, m3, n3p⟩, m8⟩, ⟨mN, mP, ⟨gG, mG, lG⟩, mL, mF⟩, mO, ⟨mK, mS, mQ, mZ⟩, hN72, hP8, hNP⟩ := id hB
      refine lv_iload_n X.1 X.2.1 dX10_ticks_2 rfl (lv_at hl 3 rfl) ?_
      refine lv_iload_n X.1 X.2.1 dX10_ticks_3 rfl (lv_at hl 2 rfl) ?_
      refine n_icmp_ge (tgt := 166) X dX10_ticks_4 (by decide) (fun c3 => ?_) (fun c3 => ?_)
      · exact ret _ _ _ _ _ hG (by rw [show x2.toInt.toNat = x902.toInt.toNat by omega]) dX10_ticks_166
      · refine lv_aload_n X.1 X.2.1 dX10_ticks_7 rfl (lv_at hl 0 rfl) ?_
        refine gf_10_0 X hG h900 q_876 dX10_ticks_8 (hN _ _ _ h900) (fun a4 h4 r4 => ?_)
        refine n_sp X dX10_ticks_11 (by decide) (by decide) (fun x5 t5 => ?_)
        refine tg_iald X hG h4 rfl (cI_in (n := 4261) (by omega)) dX10_ticks_14 (fun x6 r6 => ?_)
        have b6 := rdR (hR _ _ _ _ h4 r6) (n := 258) (by omega) mN
        have J117 : ∀ (H : Heap) (locs : List Loc) (ls : Array Slot), TG D cy τ (cn (SDM M v (B + x2.toInt.toNat)) τ) (ty_d τ) s.heap H locs → lv_has ls 5 [(0, .ref a900), (1, .int x901), (2, .int x902), (3, .int x2)] → W p l e (rL 4) s m args below meth c H locs 0 0 Q (F0 m 117 ls []) := by
          intro H locs ls hG hl
          refine n_ic X dX10_ticks_117 (by decide) (by decide) (fun x7 t7 => ?_)
          refine lv_istore (lv' := [(4, .int x7), (0, .ref a900), (1, .int x901), (2, .int x902), (3, .int x2)]) X.1 X.2.1 dX10_ticks_118 hl (by decide) rfl (fun ls hl => ?_)
          have J120 : ∀ (n : Nat) (H : Heap) (locs : List Loc) (ls : Array Slot) (x8 : Int32), (0 ≤ x8.toInt ∧ x8.toInt ≤ 6) → (6 - x8.toInt).toNat < n → TG D cy τ (cn (SDM M v (B + x2.toInt.toNat)) τ) (ty_d τ) s.heap H locs → lv_has ls 5 [(0, .ref a900), (1, .int x901), (2, .int x902), (3, .int x2), (4, .int x8)] → W p l e (rL 4) s m args below meth c H locs 0 0 Q (F0 m 120 ls []) := by
            intro n
            induction n with
            | zero => intro H locs ls x8 bx8 hm120 hG hl; exact absurd hm120 (Nat.not_lt_zero _)
            | succ n ih120 =>
              intro H locs ls x8 bx8 hm120 hG hl
              refine lv_iload X.1 X.2.1 dX10_ticks_120 (lv_at hl 4 rfl) ?_
              refine lv_aload_n X.1 X.2.1 dX10_ticks_122 rfl (lv_at hl 0 rfl) ?_
              refine gf_10_0 X hG h900 q_876 dX10_ticks_123 (hN _ _ _ h900) (fun a9 h9 r9 => ?_)
              refine n_sp X dX10_ticks_126 (by decide) (by decide) (fun x10 t10 => ?_)
              refine tg_iald X hG h9 rfl (cI_in (n := 4261) (by omega)) dX10_ticks_129 (fun x11 r11 => ?_)
              have b11 := rdR (hR _ _ _ _ h9 r11) (n := 259) (by omega) mG
              refine n_icmp_ge (tgt := 146) X dX10_ticks_130 (by decide) (fun c12 => ?_) (fun c12 => ?_)
              · refine lv_aload_n X.1 X.2.1 dX10_ticks_146 rfl (lv_at hl 0 rfl) ?_
                refine gf_10_0 X hG h900 q_876 dX10_ticks_147 (hN _ _ _ h900) (fun a13 h13 r13 => ?_)
                refine lv_iload_n X.1 X.2.1 dX10_ticks_150 rfl (lv_at hl 1 rfl) ?_
                refine n_sp X dX10_ticks_151 (by decide) (by decide) (fun x14 t14 => ?_)
                refine n_add X dX10_ticks_154 (by omega) (by omega) (fun x15 t15 => ?_)
                refine lv_dup2_11 X.1 X.2.1 dX10_ticks_155 rfl rfl ?_
                refine tg_iald X hG h13 rfl (cI_in (n := 4261) (by omega)) dX10_ticks_156 (fun x16 r16 => ?_)
                have b16 := rdR (hR _ _ _ _ h13 r16) (n := 235) (by omega) SD_235
                refine n_ic X dX10_ticks_157 (by decide) (by decide) (fun x17 t17 => ?_)
                refine n_add X dX10_ticks_158 (by omega) (by omega) (fun x18 t18 => ?_)
                have i35 : x15.toNatClampNeg = 235 := by have := cI_clamp (x := x15) (by omega); omega
                refine tg_iast X hG h13 rfl (cI_in (n := 4261) (by omega)) dX10_ticks_159 (cn (SDM M v (B + x2.toInt.toNat + 1)) τ) (cw_off hU h13 (by decide) (j0 := 235) SD_b) (by rw [i35]; exact cw_oth h13 SD_b) (by rw [i35]; exact cw_new h13 (ty_ryes SD_235 (by omega))) (fun H locs hG => ?_)
                refine n_inc X (fun z20 => [(3, .int z20), (0, .ref a900), (1, .int x901), (2, .int x902), (4, .int x8)]) dX10_ticks_160 hl (k := 3) rfl (by decide) (by decide) (by omega) (by omega) (by decide) (fun _ => rfl) (fun x19 ls t19 hl => ?_)
                have hl : lv_has ls 5 [(3, .int x19), (0, .ref a900), (1, .int x901), (2, .int x902), (4, .int x8)] := hl
                refine lv_goto (tgt := 2) X.1 X.2.1 dX10_ticks_163 (by decide) ?_
                have ee : B + x2.toInt.toNat + 1 = B + x19.toInt.toNat := by omega
                rw [ee] at hG
                exact ih2 _ _ _ x19 (by omega) (by omega) hG (lv_sub hl [1, 2, 3, 0] rfl)
              · refine lv_aload_n X.1 X.2.1 dX10_ticks_133 rfl (lv_at hl 0 rfl) ?_
                refine lv_iload_n X.1 X.2.1 dX10_ticks_134 rfl (lv_at hl 1 rfl) ?_
                refine lv_iload X.1 X.2.1 dX10_ticks_135 (lv_at hl 4 rfl) ?_
                refine k_cVv X hG (c_X10_looks l D cy τ _ hN hR (ty_Wf.sub (S' := [6010]) hF (by decide)) h900 x901 (by omega) x8 (by omega) hB (b := 0) (by omega) (Or.inl rfl)) h900 rfl yv_X10_looks q_1071 ⟨rfl, rfl⟩ ⟨Nat.le_of_ble_eq_true rfl, Nat.le_of_ble_eq_true rfl⟩ rfl hl.1 rfl (Nat.le_of_ble_eq_true rfl) ⟨Nat.zero_le _, Nat.zero_le _⟩ dX10_ticks_137 (fun u23 H locs hG po21 => ?_)
                rw [po21] at hG
                refine n_inc X (fun z25 => [(4, .int z25), (0, .ref a900), (1, .int x901), (2, .int x902), (3, .int x2)]) dX10_ticks_140 hl (k := 4) rfl (by decide) (by decide) (by omega) (by omega) (by decide) (fun _ => rfl) (fun x24 ls t24 hl => ?_)
                have hl : lv_has ls 5 [(4, .int x24), (0, .ref a900), (1, .int x901), (2, .int x902), (3, .int x2)] := hl
                refine lv_goto (tgt := 120) X.1 X.2.1 dX10_ticks_143 (by decide) ?_
                exact ih120 _ _ _ x24 (by omega) (by omega) hG (lv_sub hl [1, 2, 3, 4, 0] rfl)
          exact J120 _ _ _ _ x7 (by omega) (Nat.lt_succ_self _) hG (lv_sub hl [1, 2, 3, 4, 0] rfl)
        refine n_if_le (tgt := 117) X dX10_ticks_15 (by decide) (fun c26 => ?_) (fun c26 => ?_)
        · exact J117 _ _ _  hG (lv_sub hl [0, 1, 2, 3] rfl)
        · refine n_ic X dX10_ticks_18 (by decide) (by decide) (fun x27 t27 => ?_)
          refine lv_istore (lv' := [(4, .int x27), (0, .ref a900), (1, .int x901), (2, .int x902), (3, .int x2)]) X.1 X.2.1 dX10_ticks_19 hl (by decide) rfl (fun ls hl => ?_)
          have J21 : ∀ (n : Nat) (H : Heap) (locs : List Loc) (ls : Array Slot) (x28 : Int32), (1 ≤ x28.toInt ∧ x28.toInt ≤ 72) → (72 - x28.toInt).toNat < n → TG D cy τ (cn (SDM M v (B + x2.toInt.toNat)) τ) (ty_d τ) s.heap H locs → lv_has ls 5 [(0, .ref a900), (1, .int x901), (2, .int x902), (3, .int x2), (4, .int x28)] → W p l e (rL 4) s m args below meth c H locs 0 0 Q (F0 m 21 ls []) := by
            intro n
            induction n with
            | zero => intro H locs ls x28 bx28 hm21 hG hl; exact absurd hm21 (Nat.not_lt_zero _)
            | succ n ih21 =>
              intro H locs ls x28 bx28 hm21 hG hl
              refine lv_iload X.1 X.2.1 dX10_ticks_21 (lv_at hl 4 rfl) ?_
              refine lv_aload_n X.1 X.2.1 dX10_ticks_23 rfl (lv_at hl 0 rfl) ?_
              refine gf_10_0 X hG h900 q_876 dX10_ticks_24 (hN _ _ _ h900) (fun a29 h29 r29 => ?_)
              refine n_sp X dX10_ticks_27 (by decide) (by decide) (fun x30 t30 => ?_)
              refine tg_iald X hG h29 rfl (cI_in (n := 4261) (by omega)) dX10_ticks_30 (fun x31 r31 => ?_)
              have b31 := rdR (hR _ _ _ _ h29 r31) (n := 258) (by omega) mN
              refine n_icmp_ge (tgt := 47) X dX10_ticks_31 (by decide) (fun c32 => ?_) (fun c32 => ?_)
              · refine lv_aload_n X.1 X.2.1 dX10_ticks_47 rfl (lv_at hl 0 rfl) ?_
                refine lv_iload_n X.1 X.2.1 dX10_ticks_48 rfl (lv_at hl 1 rfl) ?_
                refine k_cVv X hG (c_X10_ends l D cy τ _ hN hR (ty_Wf.sub (S' := [6031, 6032]) hF (by decide)) h900 x901 (by omega) hB (b := 0) (by omega) (Or.inl rfl) hL (by omega)) h900 rfl yv_X10_ends q_1058 ⟨rfl, rfl⟩ ⟨Nat.le_of_ble_eq_true rfl, Nat.le_of_ble_eq_true rfl⟩ rfl hl.1 rfl (Nat.le_of_ble_eq_true rfl) ⟨Nat.zero_le _, Nat.zero_le _⟩ dX10_ticks_49 (fun u35 H locs hG po33 => ?_)
                rw [po33] at hG
                refine n_ic X dX10_ticks_52 (by decide) (by decide) (fun x36 t36 => ?_)
                refine lv_istore (lv' := [(4, .int x36), (0, .ref a900), (1, .int x901), (2, .int x902), (3, .int x2)]) X.1 X.2.1 dX10_ticks_53 hl (by decide) rfl (fun ls hl => ?_)
                have J55 : ∀ (n : Nat) (H : Heap) (locs : List Loc) (ls : Array Slot) (x37 : Int32), (0 ≤ x37.toInt ∧ x37.toInt ≤ 72) → (72 - x37.toInt).toNat < n → TG D cy τ (cn (SDM M v (B + x2.toInt.toNat)) τ) (ty_d τ) s.heap H locs → lv_has ls 5 [(0, .ref a900), (1, .int x901), (2, .int x902), (3, .int x2), (4, .int x37)] → W p l e (rL 4) s m args below meth c H locs 0 0 Q (F0 m 55 ls []) := by
                  intro n
                  induction n with
                  | zero => intro H locs ls x37 bx37 hm55 hG hl; exact absurd hm55 (Nat.not_lt_zero _)
                  | succ n ih55 =>
                    intro H locs ls x37 bx37 hm55 hG hl
                    refine lv_iload X.1 X.2.1 dX10_ticks_55 (lv_at hl 4 rfl) ?_
                    refine lv_aload_n X.1 X.2.1 dX10_ticks_57 rfl (lv_at hl 0 rfl) ?_
                    refine gf_10_0 X hG h900 q_876 dX10_ticks_58 (hN _ _ _ h900) (fun a38 h38 r38 => ?_)
                    refine n_sp X dX10_ticks_61 (by decide) (by decide) (fun x39 t39 => ?_)
                    refine tg_iald X hG h38 rfl (cI_in (n := 4261) (by omega)) dX10_ticks_64 (fun x40 r40 => ?_)
                    have b40 := rdR (hR _ _ _ _ h38 r40) (n := 258) (by omega) mN
                    refine n_icmp_ge (tgt := 117) X dX10_ticks_65 (by decide) (fun c41 => ?_) (fun c41 => ?_)
                    · exact J117 _ _ _  hG (lv_sub hl [0, 1, 2, 3] rfl)
                    · refine lv_aload_n X.1 X.2.1 dX10_ticks_68 rfl (lv_at hl 0 rfl) ?_
                      refine gf_10_0 X hG h900 q_876 dX10_ticks_69 (hN _ _ _ h900) (fun a42 h42 r42 => ?_)
                      refine lv_iload_n X.1 X.2.1 dX10_ticks_72 rfl (lv_at hl 1 rfl) ?_
                      refine n_ic X dX10_ticks_73 (by decide) (by decide) (fun x43 t43 => ?_)
                      refine n_add X dX10_ticks_74 (by omega) (by omega) (fun x44 t44 => ?_)
                      refine lv_iload X.1 X.2.1 dX10_ticks_75 (lv_at hl 4 rfl) ?_
                      refine n_add X dX10_ticks_77 (by omega) (by omega) (fun x45 t45 => ?_)
                      refine lv_aload_n X.1 X.2.1 dX10_ticks_78 rfl (lv_at hl 0 rfl) ?_
                      refine gf_10_21 X hG h900 q_897 dX10_ticks_79 (hN _ _ _ h900) (fun a46 h46 r46 => ?_)
                      refine lv_iload X.1 X.2.1 dX10_ticks_82 (lv_at hl 4 rfl) ?_
                      refine tg_iald X hG h46 rfl (cI_in (n := 72) (by omega)) dX10_ticks_84 (fun x47 r47 => ?_)
                      refine k_cSi X hG (c_X10_bound l D cy τ _ hN hR (ty_Wf.sub (S' := []) hF (by decide)) x47 ) ys_X10_bound q_1066 ⟨rfl, rfl⟩ ⟨Nat.le_of_ble_eq_true rfl, Nat.le_of_ble_eq_true rfl⟩ rfl hl.1 rfl (Nat.le_of_ble_eq_true rfl) ⟨Nat.zero_le _, Nat.zero_le _⟩ dX10_ticks_85 (fun x49 u50 H locs hG po48 => ?_)
                      obtain ⟨eu50, po48⟩ := po48
                      rw [eu50] at hG
                      have g49 := cI_rng x49
                      refine tg_iasf X hG h42 rfl (cI_in (n := 4261) (by omega)) dX10_ticks_88 (hF _ _ _ _ h42 (ty_in (n := 6010) rfl) (ty_rno (wFr hB (by omega)))) (fun H locs hG => ?_)
                      refine lv_aload_n X.1 X.2.1 dX10_ticks_89 rfl (lv_at hl 0 rfl) ?_
                      refine gf_10_0 X hG h900 q_876 dX10_ticks_90 (hN _ _ _ h900) (fun a51 h51 r51 => ?_)
                      refine lv_iload_n X.1 X.2.1 dX10_ticks_93 rfl (lv_at hl 1 rfl) ?_
                      refine n_bp X dX10_ticks_94 (by decide) (by decide) (fun x52 t52 => ?_)
                      refine n_add X dX10_ticks_96 (by omega) (by omega) (fun x53 t53 => ?_)
                      refine lv_iload X.1 X.2.1 dX10_ticks_97 (lv_at hl 4 rfl) ?_
                      refine n_add X dX10_ticks_99 (by omega) (by omega) (fun x54 t54 => ?_)
                      refine lv_aload_n X.1 X.2.1 dX10_ticks_100 rfl (lv_at hl 0 rfl) ?_
                      refine gf_10_22 X hG h900 q_898 dX10_ticks_101 (hN _ _ _ h900) (fun a55 h55 r55 => ?_)
                      refine lv_iload X.1 X.2.1 dX10_ticks_104 (lv_at hl 4 rfl) ?_
                      refine tg_iald X hG h55 rfl (cI_in (n := 72) (by omega)) dX10_ticks_106 (fun x56 r56 => ?_)
                      refine k_cSi X hG (c_X10_bound l D cy τ _ hN hR (ty_Wf.sub (S' := []) hF (by decide)) x56 ) ys_X10_bound q_1066 ⟨rfl, rfl⟩ ⟨Nat.le_of_ble_eq_true rfl, Nat.le_of_ble_eq_true rfl⟩ rfl hl.1 rfl (Nat.le_of_ble_eq_true rfl) ⟨Nat.zero_le _, Nat.zero_le _⟩ dX10_ticks_107 (fun x58 u59 H locs hG po57 => ?_)
                      obtain ⟨eu59, po57⟩ := po57
                      rw [eu59] at hG
                      have g58 := cI_rng x58
                      refine tg_iasf X hG h51 rfl (cI_in (n := 4261) (by omega)) dX10_ticks_110 (hF _ _ _ _ h51 (ty_in (n := 6010) rfl) (ty_rno (wFr hB (by omega)))) (fun H locs hG => ?_)
                      refine n_inc X (fun z61 => [(4, .int z61), (0, .ref a900), (1, .int x901), (2, .int x902), (3, .int x2)]) dX10_ticks_111 hl (k := 4) rfl (by decide) (by decide) (by omega) (by omega) (by decide) (fun _ => rfl) (fun x60 ls t60 hl => ?_)
                      have hl : lv_has ls 5 [(4, .int x60), (0, .ref a900), (1, .int x901), (2, .int x902), (3, .int x2)] := hl
                      refine lv_goto (tgt := 55) X.1 X.2.1 dX10_ticks_114 (by decide) ?_
                      exact ih55 _ _ _ x60 (by omega) (by omega) hG (lv_sub hl [1, 2, 3, 4, 0] rfl)
                exact J55 _ _ _ _ x36 (by omega) (Nat.lt_succ_self _) hG (lv_sub hl [1, 2, 3, 4, 0] rfl)
              · refine lv_aload_n X.1 X.2.1 dX10_ticks_34 rfl (lv_at hl 0 rfl) ?_
                refine lv_iload_n X.1 X.2.1 dX10_ticks_35 rfl (lv_at hl 1 rfl) ?_
                refine lv_iload X.1 X.2.1 dX10_ticks_36 (lv_at hl 4 rfl) ?_
                refine k_cVv X hG (c_X10_meets l D cy τ _ hN hR (ty_Wf.sub (S' := [6031, 6032]) hF (by decide)) h900 x901 (by omega) x28 (by omega) hB (b := 0) (by omega) (Or.inl rfl) hL (by omega)) h900 rfl yv_X10_meets q_1050 ⟨rfl, rfl⟩ ⟨Nat.le_of_ble_eq_true rfl, Nat.le_of_ble_eq_true rfl⟩ rfl hl.1 rfl (Nat.le_of_ble_eq_true rfl) ⟨Nat.zero_le _, Nat.zero_le _⟩ dX10_ticks_38 (fun u64 H locs hG po62 => ?_)
                rw [po62] at hG
                refine n_inc X (fun z66 => [(4, .int z66), (0, .ref a900), (1, .int x901), (2, .int x902), (3, .int x2)]) dX10_ticks_41 hl (k := 4) rfl (by decide) (by decide) (by omega) (by omega) (by decide) (fun _ => rfl) (fun x65 ls t65 hl => ?_)
                have hl : lv_has ls 5 [(4, .int x65), (0, .ref a900), (1, .int x901), (2, .int x902), (3, .int x2)] := hl
                refine lv_goto (tgt := 21) X.1 X.2.1 dX10_ticks_44 (by decide) ?_
                exact ih21 _ _ _ x65 (by omega) (by omega) hG (lv_sub hl [1, 2, 3, 4, 0] rfl)
          exact J21 _ _ _ _ x27 (by omega) (Nat.lt_succ_self _) hG (lv_sub hl [1, 2, 3, 4, 0] rfl)
  rw [show B = B + x1.toInt.toNat by omega] at hG
  exact J2 _ _ _ _ x1 (by omega) (Nat.lt_succ_self _) hG (lv_sub hl [1, 2, 3, 0] rfl)
