theorem dr1_0 {N : Nat} {v : Int32} : 0 ≤ (dr1 N v).toInt := by unfold dr1; split; exact lcg_0; exact lcg_0
theorem drN_0 {N : Nat} {v : Int32} (hv : 0 ≤ v.toInt) {n : Nat} : 0 ≤ (drN N n v).toInt := by
  cases n with
  | zero => exact hv
  | succ n => exact dr1_0
set_option maxHeartbeats 4000000 in
set_option maxRecDepth 100000 in
theorem e_X10_drift (l : Launch) (D : va_G) (cy : Nat → ClassId) (τ : ty_T) (hU : UQ τ) {K : KT} {P N u : Nat} {k0 k1 : Bool} (ok : OKG K P N u) {a900 : Nat} (h900 : τ a900 = some (0, 10)) (x901 : Int32) (hs0 : 0 ≤ (K.2.2.2.2 1002).toInt) (hbb : bK K ≤ 80000) {bb : Bool} (htk : tK K = bN bb) : KI l D cy yX10_drift cX10_drift 3 .int (rL 6) τ (cn (MM K P N u k0 k1) τ) [.ref a900, .int x901] (fun r w => (okN bb x901 → GS (KU (KU K 1005 (nI (bK K + 50))) 1002 (drN N x901.toInt.toNat (K.2.2.2.2 1002))) τ P N k0 k1 w) ∧ (¬ okN bb x901 → GS (KU K 1005 (nI (bK K + 50))) τ P N k0 k1 w)) := by
  refine k_metI "EdgeEchoesModel" rfl (by decide +kernel) (Nat.le_of_ble_eq_true rfl) (fun _ _ _ => rfl) ?_
  intro p e s m args below meth c Q ls X hG hl ret
  have hl : lv_has ls 3 [(0, .ref a900), (1, .int x901)] := hl
  obtain ⟨⟨⟨n9, m9, n9p⟩, ⟨n13, m13, n13p⟩, ⟨n3, m3, n3p⟩, m8⟩, ⟨mN, mP, ⟨gG, mG, lG⟩, mL, mF⟩, mO, ⟨mK, mS, mQ, mZ⟩, hN72, hP8, hNP⟩ := id (MM_HB (k0 := k0) (k1 := k1) ok)
  have hu12 := ok.2.2.2
  have hk7 := ok.1.2.1
  have hcl : (nI (bK K + 50)).toNatClampNeg = bK K + 50 := nI_clamp (by omega)
  have hb1 : bN bb = 1 ↔ bb = true := by cases bb <;> decide
  have g901 := cI_rng x901
  refine lv_iload_n X.1 X.2.1 dX10_drift_0 rfl (lv_at hl 1 rfl) ?_
  refine n_i2l X dX10_drift_1 (fun w1 t1 => ?_)
  refine n_lc X dX10_drift_2 (fun w2 t2 => ?_)
  have t2 : w2.toInt = 1 := t2
  refine n_ldl X q_1131 (n := 50) (by decide +kernel) dX10_drift_3 (fun w3 e3 t3 => ?_)
  refine k_cSi X hG (c_X10_in l D cy τ _ cn_N cn_R (cn_F (S := [])) w1 w2 w3 ) ys_X10_in q_957 ⟨rfl, rfl⟩ ⟨Nat.le_of_ble_eq_true rfl, Nat.le_of_ble_eq_true rfl⟩ rfl hl.1 rfl (Nat.le_of_ble_eq_true rfl) ⟨Nat.zero_le _, Nat.zero_le _⟩ dX10_drift_6 (fun x5 u6 H locs hG po4 => ?_)
  obtain ⟨eu6, po4⟩ := po4
  rw [eu6] at hG
  refine n_if_ne (tgt := 15) X dX10_drift_9 (by decide) (fun c7 => ?_) (fun c7 => ?_)
  · refine lv_aload_n X.1 X.2.1 dX10_drift_15 rfl (lv_at hl 0 rfl) ?_
    refine k_cVi X hG (e_X10_isLine l D cy τ _ cn_N cn_R (cn_F (S := [])) h900 (MM_HB (k0 := k0) (k1 := k1) ok) (tt := tK K) rfl) h900 rfl yv_X10_isLine q_1028 ⟨rfl, rfl⟩ ⟨Nat.le_of_ble_eq_true rfl, Nat.le_of_ble_eq_true rfl⟩ rfl hl.1 rfl (Nat.le_of_ble_eq_true rfl) ⟨Nat.zero_le _, Nat.zero_le _⟩ dX10_drift_16 (fun x9 u10 H locs hG po8 => ?_)
    obtain ⟨eu10, po8⟩ := po8
    rw [eu10] at hG
    refine n_if_ne (tgt := 25) X dX10_drift_19 (by decide) (fun c11 => ?_) (fun c11 => ?_)
    · refine lv_aload_n X.1 X.2.1 dX10_drift_25 rfl (lv_at hl 0 rfl) ?_
      refine gf_10_0 X hG h900 q_876 dX10_drift_26 (cn_N _ _ _ h900) (fun a12 h12 r12 => ?_)
      refine n_sp X dX10_drift_29 (by decide) (by decide) (fun x13 t13 => ?_)
      refine tg_iald X hG h12 rfl (cI_in (n := 4261) (by omega)) dX10_drift_32 (fun x14 r14 => ?_)
      have b14 := rdR (cn_R _ _ _ _ h12 r14) (n := 235) (by omega) MM_235
      refine n_ldc X q_1133 (n := 90000) (by decide +kernel) dX10_drift_33 (fun x15 t15 => ?_)
      refine n_icmp_le (tgt := 41) X dX10_drift_35 (by decide) (fun c16 => ?_) (fun c16 => ?_)
      · refine lv_aload_n X.1 X.2.1 dX10_drift_41 rfl (lv_at hl 0 rfl) ?_
        refine k_cVv X hG (c_X10_keepPast l D cy τ hU ok h900 ) h900 rfl yv_X10_keepPast q_1134 ⟨rfl, rfl⟩ ⟨Nat.le_of_ble_eq_true rfl, Nat.le_of_ble_eq_true rfl⟩ rfl hl.1 rfl (Nat.le_of_ble_eq_true rfl) ⟨Nat.zero_le _, Nat.zero_le _⟩ dX10_drift_42 (fun u19 H locs hG po17 => ?_)
        rw [po17] at hG
        obtain ⟨⟨⟨n9, m9, n9p⟩, ⟨n13, m13, n13p⟩, ⟨n3, m3, n3p⟩, m8⟩, ⟨mN, mP, ⟨gG, mG, lG⟩, mL, mF⟩, mO, ⟨mK, mS, mQ, mZ⟩, hN72, hP8, hNP⟩ := id (MM_HB (k0 := k0) (k1 := k1) (OKG.up ok))
        refine n_ic X dX10_drift_45 (by decide) (by decide) (fun x20 t20 => ?_)
        refine lv_istore_n (lv' := [(2, .int x20), (0, .ref a900), (1, .int x901)]) X.1 X.2.1 dX10_drift_46 rfl hl (by decide) rfl (fun ls hl => ?_)
        have okq : okN bb x901 := ⟨by omega, hb1.mp (by omega)⟩
        have J47 : ∀ (n : Nat) (H : Heap) (locs : List Loc) (ls : Array Slot) (x21 : Int32), (0 ≤ x21.toInt ∧ x21.toInt ≤ x901.toInt) → (50 - x21.toInt).toNat < n → TG D cy τ (cn (SDM (MM K P N (upN u) k0 k1) (drN N x21.toInt.toNat (K.2.2.2.2 1002)) (bK K + x21.toInt.toNat)) τ) (ty_d τ) s.heap H locs → lv_has ls 3 [(0, .ref a900), (1, .int x901), (2, .int x21)] → W p l e (rL 6) s m args below meth c H locs 0 0 Q (F0 m 47 ls []) := by
          intro n
          induction n with
          | zero => intro H locs ls x21 bx21 hm47 hG hl; exact absurd hm47 (Nat.not_lt_zero _)
          | succ n ih47 =>
            intro H locs ls x21 bx21 hm47 hG hl
            refine lv_iload_n X.1 X.2.1 dX10_drift_47 rfl (lv_at hl 2 rfl) ?_
            refine lv_iload_n X.1 X.2.1 dX10_drift_48 rfl (lv_at hl 1 rfl) ?_
            refine n_icmp_ge (tgt := 62) X dX10_drift_49 (by decide) (fun c22 => ?_) (fun c22 => ?_)
            · refine lv_aload_n X.1 X.2.1 dX10_drift_62 rfl (lv_at hl 0 rfl) ?_
              refine gf_10_0 X hG h900 q_876 dX10_drift_63 (cn_N _ _ _ h900) (fun a23 h23 r23 => ?_)
              refine n_sp X dX10_drift_66 (by decide) (by decide) (fun x24 t24 => ?_)
              refine tg_iald X hG h23 rfl (cI_in (n := 4261) (by omega)) dX10_drift_69 (fun x25 r25 => ?_)
              rw [show x21.toInt.toNat = x901.toInt.toNat by omega] at hG
              have hG := TG.le hG (SD_out (v := nI (bK K + 50)) hk7 (drN_0 hs0) (by omega) (by omega))
              exact ret _ _ _ _ x25 _ hG ⟨fun _ => ⟨_, KU_ok (KU_ok (OKG.up ok)), rfl⟩, fun q => absurd okq q⟩ dX10_drift_70
            · refine lv_aload_n X.1 X.2.1 dX10_drift_52 rfl (lv_at hl 0 rfl) ?_
              refine k_cVv X hG (e_X10_drifts l D cy τ hU (MM_HB (k0 := k0) (k1 := k1) (OKG.up ok)) (MM_LV (k0 := k0) (k1 := k1) (OKG.up ok)) (drN_0 hs0) (by omega) h900) h900 rfl yv_X10_drifts q_1187 ⟨rfl, rfl⟩ ⟨Nat.le_of_ble_eq_true rfl, Nat.le_of_ble_eq_true rfl⟩ rfl hl.1 rfl (Nat.le_of_ble_eq_true rfl) ⟨Nat.zero_le _, Nat.zero_le _⟩ dX10_drift_53 (fun u28 H locs hG po26 => ?_)
              rw [po26] at hG
              refine n_inc X (fun z30 => [(2, .int z30), (0, .ref a900), (1, .int x901)]) dX10_drift_56 hl (k := 2) rfl (by decide) (by decide) (by omega) (by omega) (by decide) (fun _ => rfl) (fun x29 ls t29 hl => ?_)
              have hl : lv_has ls 3 [(2, .int x29), (0, .ref a900), (1, .int x901)] := hl
              refine lv_goto (tgt := 47) X.1 X.2.1 dX10_drift_59 (by decide) ?_
              have hG : TG D cy τ (cn (SDM (MM K P N (upN u) k0 k1) (drN N x29.toInt.toNat (K.2.2.2.2 1002)) (bK K + x29.toInt.toNat)) τ) (ty_d τ) s.heap H locs := by
                rw [show x29.toInt.toNat = x21.toInt.toNat + 1 by omega, show drN N (x21.toInt.toNat + 1) (K.2.2.2.2 1002) = dr1 N (drN N x21.toInt.toNat (K.2.2.2.2 1002)) from rfl, ← Nat.add_assoc]
                exact hG
              exact ih47 _ _ _ x29 (by omega) (by omega) hG (lv_sub hl [1, 2, 0] rfl)
        have hG := TG.sub hG (SD_in (u := upN u) (k0 := k0) (k1 := k1) hs0)
        have hG : TG D cy τ (cn (SDM (MM K P N (upN u) k0 k1) (drN N x20.toInt.toNat (K.2.2.2.2 1002)) (bK K + x20.toInt.toNat)) τ) (ty_d τ) s.heap H locs := by
          rw [show x20.toInt.toNat = 0 by omega, show drN N 0 (K.2.2.2.2 1002) = K.2.2.2.2 1002 from rfl, Nat.add_zero]
          exact hG
        exact J47 _ _ _ _ x20 (by omega) (Nat.lt_succ_self _) hG (lv_sub hl [1, 2, 0] rfl)
      · exact absurd c16 (by omega)
    · refine n_ldc X q_1132 (n := -1000000003) (by decide +kernel) dX10_drift_22 (fun x32 t32 => ?_)
      have hG := TG.le hG (MM_B (v := nI (bK K + 50)) hk7 (by omega))
      exact ret _ _ _ _ x32 _ hG ⟨fun q => absurd (hb1.mpr q.2) (by omega), fun _ => ⟨_, KU_ok ok, rfl⟩⟩ dX10_drift_24
  · refine n_ldc X q_960 (n := -1000000002) (by decide +kernel) dX10_drift_12 (fun x33 t33 => ?_)
    have hG := TG.le hG (MM_B (v := nI (bK K + 50)) hk7 (by omega))
    exact ret _ _ _ _ x33 _ hG ⟨fun q => absurd q.1 (by omega), fun _ => ⟨_, KU_ok ok, rfl⟩⟩ dX10_drift_14
