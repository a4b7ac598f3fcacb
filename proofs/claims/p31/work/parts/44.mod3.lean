set_option maxHeartbeats 4000000 in
set_option maxRecDepth 100000 in
theorem c_X10_layQuiet (l : Launch) (D : va_G) (cy : Nat → ClassId) (τ : ty_T) (M : md_T) (hU : UQ τ) {P N : Nat} (hB : HB M P N) (hL0 : LV M P 0)  {a900 : Nat} (h900 : τ a900 = some (0, 10)) : KV l D cy yX10_layQuiet cX10_layQuiet 1 (rL 2) τ (cn M τ) [.ref a900] (fun w => w = (cn (MT M) τ)) := by
  refine k_metV "EdgeEchoesModel" rfl (by decide +kernel) (Nat.le_of_ble_eq_true rfl) ?_
  intro p e s m args below meth c Q ls X hG hl ret
  have hl : lv_has ls 1 [(0, .ref a900)] := hl
  obtain ⟨⟨⟨n9, m9, n9p⟩, ⟨n13, m13, n13p⟩, ⟨n3, m3, n3p⟩, m8⟩, ⟨mN, mP, ⟨gG, mG, lG⟩, mL, mF⟩, mO, ⟨mK, mS, mQ, mZ⟩, hN72, hP8, hNP⟩ := id hB
  refine lv_aload_n X.1 X.2.1 dX10_layQuiet_0 rfl (lv_at hl 0 rfl) ?_
  refine n_ic X dX10_layQuiet_1 (by decide) (by decide) (fun x1 t1 => ?_)
  refine n_sp X dX10_layQuiet_2 (by decide) (by decide) (fun x2 t2 => ?_)
  refine n_sp X dX10_layQuiet_5 (by decide) (by decide) (fun x3 t3 => ?_)
  refine k_cVv X hG (c_X10_copyRow l D cy τ _ hU h900 x1 x2 x3 0 3736 247 (by omega) (by omega) (by omega) (by omega) (by omega) (by omega)) h900 rfl yv_X10_copyRow q_1012 ⟨rfl, rfl⟩ ⟨Nat.le_of_ble_eq_true rfl, Nat.le_of_ble_eq_true rfl⟩ rfl hl.1 rfl (Nat.le_of_ble_eq_true rfl) ⟨Nat.zero_le _, Nat.zero_le _⟩ dX10_layQuiet_8 (fun u6 H locs hG po4 => ?_)
  rw [po4] at hG
  have hG := TG.sub hG MT_c
  obtain ⟨⟨⟨n9, m9, n9p⟩, ⟨n13, m13, n13p⟩, ⟨n3, m3, n3p⟩, m8⟩, ⟨mN, mP, ⟨gG, mG, lG⟩, mL, mF⟩, mO, ⟨mK, mS, mQ, mZ⟩, hN72, hP8, hNP⟩ := id (HB.cp hB)
  refine lv_aload_n X.1 X.2.1 dX10_layQuiet_11 rfl (lv_at hl 0 rfl) ?_
  refine n_sp X dX10_layQuiet_12 (by decide) (by decide) (fun x7 t7 => ?_)
  refine k_cVv X hG (c_X10_hush l D cy τ _ cn_N cn_R (cn_F (S := [6010])) h900 x7 (by omega) (HB.cp hB) (b := 3736) (by omega) (Or.inr rfl)) h900 rfl yv_X10_hush q_1040 ⟨rfl, rfl⟩ ⟨Nat.le_of_ble_eq_true rfl, Nat.le_of_ble_eq_true rfl⟩ rfl hl.1 rfl (Nat.le_of_ble_eq_true rfl) ⟨Nat.zero_le _, Nat.zero_le _⟩ dX10_layQuiet_15 (fun u10 H locs hG po8 => ?_)
  rw [po8] at hG
  refine lv_aload_n X.1 X.2.1 dX10_layQuiet_18 rfl (lv_at hl 0 rfl) ?_
  refine gf_10_0 X hG h900 q_876 dX10_layQuiet_19 (cn_N _ _ _ h900) (fun a11 h11 r11 => ?_)
  refine n_sp X dX10_layQuiet_22 (by decide) (by decide) (fun x12 t12 => ?_)
  refine n_ic X dX10_layQuiet_25 (by decide) (by decide) (fun x13 t13 => ?_)
  refine tg_iasf X hG h11 rfl (cI_in (n := 4261) (by omega)) dX10_layQuiet_26 (cn_F (S := [6010]) _ _ _ _ h11 (ty_in (n := 6010) rfl) (ty_rno (wFr (HB.cp hB) (by omega)))) (fun H locs hG => ?_)
  exact ret _ _ _ _ _ hG rfl dX10_layQuiet_27
set_option maxHeartbeats 4000000 in
set_option maxRecDepth 100000 in
theorem c_X10_overBy (l : Launch) (D : va_G) (cy : Nat → ClassId) (τ : ty_T) (M : md_T) (hU : UQ τ) {P N : Nat} (hB : HB M P N) (hL0 : LV M P 0) (hT : HT M) {a900 : Nat} (h900 : τ a900 = some (0, 10)) (x901 : Int32) (zx901 : 0 ≤ x901.toInt ∧ x901.toInt ≤ 99) : KI l D cy yX10_overBy cX10_overBy 5 .int (rL 5) τ (cn M τ) [.ref a900, .int x901] (fun r u => u = (cn M τ) ∧ True) := by
  refine k_metI "EdgeEchoesModel" rfl (by decide +kernel) (Nat.le_of_ble_eq_true rfl) (fun _ _ _ => rfl) ?_
  intro p e s m args below meth c Q ls X hG hl ret
  have hl : lv_has ls 5 [(0, .ref a900), (1, .int x901)] := hl
  obtain ⟨⟨⟨n9, m9, n9p⟩, ⟨n13, m13, n13p⟩, ⟨n3, m3, n3p⟩, m8⟩, ⟨mN, mP, ⟨gG, mG, lG⟩, mL, mF⟩, mO, ⟨mK, mS, mQ, mZ⟩, hN72, hP8, hNP⟩ := id hB
  refine lv_aload_n X.1 X.2.1 dX10_overBy_0 rfl (lv_at hl 0 rfl) ?_
  refine k_cVv X hG (c_X10_layQuiet l D cy τ M hU hB hL0  h900 ) h900 rfl yv_X10_layQuiet q_1036 ⟨rfl, rfl⟩ ⟨Nat.le_of_ble_eq_true rfl, Nat.le_of_ble_eq_true rfl⟩ rfl hl.1 rfl (Nat.le_of_ble_eq_true rfl) ⟨Nat.zero_le _, Nat.zero_le _⟩ dX10_overBy_1 (fun u3 H locs hG po1 => ?_)
  rw [po1] at hG
  obtain ⟨⟨⟨n9, m9, n9p⟩, ⟨n13, m13, n13p⟩, ⟨n3, m3, n3p⟩, m8⟩, ⟨mN, mP, ⟨gG, mG, lG⟩, mL, mF⟩, mO, ⟨mK, mS, mQ, mZ⟩, hN72, hP8, hNP⟩ := id (HB.cp hB)
  refine lv_aload_n X.1 X.2.1 dX10_overBy_4 rfl (lv_at hl 0 rfl) ?_
  refine gf_10_0 X hG h900 q_876 dX10_overBy_5 (cn_N _ _ _ h900) (fun a4 h4 r4 => ?_)
  refine n_sp X dX10_overBy_8 (by decide) (by decide) (fun x5 t5 => ?_)
  refine lv_iload_n X.1 X.2.1 dX10_overBy_11 rfl (lv_at hl 1 rfl) ?_
  refine tg_iasf X hG h4 rfl (cI_in (n := 4261) (by omega)) dX10_overBy_12 (cn_F (S := [6010]) _ _ _ _ h4 (ty_in (n := 6010) rfl) (ty_ryes (wAt (n := 3982) (by omega) (LV.cpT hL0 hB).2.1) (by omega))) (fun H locs hG => ?_)
  refine n_ic X dX10_overBy_13 (by decide) (by decide) (fun x6 t6 => ?_)
  refine lv_istore_n (lv' := [(2, .int x6), (0, .ref a900), (1, .int x901)]) X.1 X.2.1 dX10_overBy_14 rfl hl (by decide) rfl (fun ls hl => ?_)
  refine n_ic X dX10_overBy_15 (by decide) (by decide) (fun x7 t7 => ?_)
  refine lv_istore_n (lv' := [(3, .int x7), (2, .int x6), (0, .ref a900), (1, .int x901)]) X.1 X.2.1 dX10_overBy_16 rfl hl (by decide) rfl (fun ls hl => ?_)
  have J17 : ∀ (n : Nat) (H : Heap) (locs : List Loc) (ls : Array Slot) (x8 : Int32) (x9 : Int32), (0 ≤ x8.toInt) → (0 ≤ x9.toInt ∧ x9.toInt ≤ 200) → (200 - x9.toInt).toNat < n → TG D cy τ (cn (MT M) τ) (ty_d τ) s.heap H locs → lv_has ls 5 [(0, .ref a900), (1, .int x901), (2, .int x8), (3, .int x9)] → W p l e (rL 5) s m args below meth c H locs 0 0 Q (F0 m 17 ls []) := by
    intro n
    induction n with
    | zero => intro H locs ls x8 x9 bx8 bx9 hm17 hG hl; exact absurd hm17 (Nat.not_lt_zero _)
    | succ n ih17 =>
      intro H locs ls x8 x9 bx8 bx9 hm17 hG hl
      have gx8 := cI_rng x8
      refine lv_iload_n X.1 X.2.1 dX10_overBy_17 rfl (lv_at hl 3 rfl) ?_
      refine n_sp X dX10_overBy_18 (by decide) (by decide) (fun x10 t10 => ?_)
      refine n_icmp_ge (tgt := 78) X dX10_overBy_21 (by decide) (fun c11 => ?_) (fun c11 => ?_)
      · refine lv_aload_n X.1 X.2.1 dX10_overBy_78 rfl (lv_at hl 0 rfl) ?_
        refine gf_10_0 X hG h900 q_876 dX10_overBy_79 (cn_N _ _ _ h900) (fun a12 h12 r12 => ?_)
        refine n_sp X dX10_overBy_82 (by decide) (by decide) (fun x13 t13 => ?_)
        refine tg_iald X hG h12 rfl (cI_in (n := 4261) (by omega)) dX10_overBy_85 (fun x14 r14 => ?_)
        have b14 := rdR (cn_R _ _ _ _ h12 r14) (n := 258) (by omega) mN
        refine n_if_ne (tgt := 93) X dX10_overBy_86 (by decide) (fun c15 => ?_) (fun c15 => ?_)
        · refine lv_iload_n X.1 X.2.1 dX10_overBy_93 rfl (lv_at hl 2 rfl) ?_
          exact ret _ _ _ _ x8 _ (TG.sub hG (MT_back hT)) ⟨rfl, trivial⟩ dX10_overBy_94
        · refine n_ic X dX10_overBy_89 (by decide) (by decide) (fun x16 t16 => ?_)
          refine lv_goto (tgt := 94) X.1 X.2.1 dX10_overBy_90 (by decide) ?_
          exact ret _ _ _ _ x16 _ (TG.sub hG (MT_back hT)) ⟨rfl, trivial⟩ dX10_overBy_94
      · refine lv_aload_n X.1 X.2.1 dX10_overBy_24 rfl (lv_at hl 0 rfl) ?_
        refine n_sp X dX10_overBy_25 (by decide) (by decide) (fun x17 t17 => ?_)
        refine n_ic X dX10_overBy_28 (by decide) (by decide) (fun x18 t18 => ?_)
        refine k_cVv X hG (c_X10_ticks l D cy τ _ cn_N cn_R (cn_F (S := [6010, 6031, 6032])) h900 x17 (by omega) x18 (HB.cp hB) (b := 3736) (by omega) rfl (LV.cpT hL0 hB)) h900 rfl yv_X10_ticks q_1046 ⟨rfl, rfl⟩ ⟨Nat.le_of_ble_eq_true rfl, Nat.le_of_ble_eq_true rfl⟩ rfl hl.1 rfl (Nat.le_of_ble_eq_true rfl) ⟨Nat.zero_le _, Nat.zero_le _⟩ dX10_overBy_29 (fun u21 H locs hG po19 => ?_)
        rw [po19] at hG
        refine lv_aload_n X.1 X.2.1 dX10_overBy_32 rfl (lv_at hl 0 rfl) ?_
        refine n_sp X dX10_overBy_33 (by decide) (by decide) (fun x22 t22 => ?_)
        refine lv_aload_n X.1 X.2.1 dX10_overBy_36 rfl (lv_at hl 0 rfl) ?_
        refine gf_10_0 X hG h900 q_876 dX10_overBy_37 (cn_N _ _ _ h900) (fun a23 h23 r23 => ?_)
        refine n_sp X dX10_overBy_40 (by decide) (by decide) (fun x24 t24 => ?_)
        refine tg_iald X hG h23 rfl (cI_in (n := 4261) (by omega)) dX10_overBy_43 (fun x25 r25 => ?_)
        have b25 := rdR (cn_R _ _ _ _ h23 r25) (n := 258) (by omega) mN
        refine n_ic X dX10_overBy_44 (by decide) (by decide) (fun x26 t26 => ?_)
        refine n_sub X dX10_overBy_45 (by omega) (by omega) (fun x27 t27 => ?_)
        refine k_cVi X hG (c_X10_voltsOf l D cy τ _ cn_N cn_R (cn_F (S := [])) h900 x22 (by omega) x27 (HB.cp hB) (b := 3736) (by omega) (Or.inr rfl)) h900 rfl yv_X10_voltsOf q_1075 ⟨rfl, rfl⟩ ⟨Nat.le_of_ble_eq_true rfl, Nat.le_of_ble_eq_true rfl⟩ rfl hl.1 rfl (Nat.le_of_ble_eq_true rfl) ⟨Nat.zero_le _, Nat.zero_le _⟩ dX10_overBy_46 (fun x29 u30 H locs hG po28 => ?_)
        obtain ⟨eu30, po28⟩ := po28
        rw [eu30] at hG
        have g29 := cI_rng x29
        refine lv_aload_n X.1 X.2.1 dX10_overBy_49 rfl (lv_at hl 0 rfl) ?_
        refine n_sp X dX10_overBy_50 (by decide) (by decide) (fun x31 t31 => ?_)
        refine k_cVi X hG (c_X10_source l D cy τ _ cn_N cn_R (cn_F (S := [])) h900 x31 (by omega) (HB.cp hB) (b := 3736) (by omega) (Or.inr rfl)) h900 rfl yv_X10_source q_1062 ⟨rfl, rfl⟩ ⟨Nat.le_of_ble_eq_true rfl, Nat.le_of_ble_eq_true rfl⟩ rfl hl.1 rfl (Nat.le_of_ble_eq_true rfl) ⟨Nat.zero_le _, Nat.zero_le _⟩ dX10_overBy_53 (fun x33 u34 H locs hG po32 => ?_)
        obtain ⟨eu34, po32⟩ := po32
        rw [eu34] at hG
        have g33 := cI_rng x33
        refine lv_isub X.1 X.2.1 dX10_overBy_56 ?_
        refine n_any (fun x35 => ?_)
        refine lv_istore (lv' := [(4, .int x35), (0, .ref a900), (1, .int x901), (2, .int x8), (3, .int x9)]) X.1 X.2.1 dX10_overBy_57 hl (by decide) rfl (fun ls hl => ?_)
        refine lv_iload X.1 X.2.1 dX10_overBy_59 (lv_at hl 0 rfl) ?_
        refine lv_iload_n X.1 X.2.1 dX10_overBy_61 rfl (lv_at hl 3 rfl) ?_
        have J71 : ∀ (H : Heap) (locs : List Loc) (ls : Array Slot) (x36 : Int32), (0 ≤ x36.toInt) → TG D cy τ (cn (MT M) τ) (ty_d τ) s.heap H locs → lv_has ls 5 [(0, .ref a900), (1, .int x901), (2, .int x8), (3, .int x9), (4, .int x35)] → W p l e (rL 5) s m args below meth c H locs 0 0 Q (F0 m 71 ls [.int x36]) := by
          intro H locs ls x36 bx36 hG hl
          have gx36 := cI_rng x36
          refine lv_istore_n (lv' := [(2, .int x36), (0, .ref a900), (1, .int x901), (3, .int x9), (4, .int x35)]) X.1 X.2.1 dX10_overBy_71 rfl hl (by decide) rfl (fun ls hl => ?_)
          refine n_inc X (fun z38 => [(3, .int z38), (2, .int x36), (0, .ref a900), (1, .int x901), (4, .int x35)]) dX10_overBy_72 hl (k := 3) rfl (by decide) (by decide) (by omega) (by omega) (by decide) (fun _ => rfl) (fun x37 ls t37 hl => ?_)
          have hl : lv_has ls 5 [(3, .int x37), (2, .int x36), (0, .ref a900), (1, .int x901), (4, .int x35)] := hl
          refine lv_goto (tgt := 17) X.1 X.2.1 dX10_overBy_75 (by decide) ?_
          exact ih17 _ _ _ x36 x37 (by omega) (by omega) (by omega) hG (lv_sub hl [2, 3, 1, 0] rfl)
        refine n_icmp_le (tgt := 70) X dX10_overBy_62 (by decide) (fun c39 => ?_) (fun c39 => ?_)
        · refine lv_iload_n X.1 X.2.1 dX10_overBy_70 rfl (lv_at hl 3 rfl) ?_
          exact J71 _ _ _ x8 (by omega) hG (lv_sub hl [1, 2, 3, 4, 0] rfl)
        · refine lv_iload X.1 X.2.1 dX10_overBy_65 (lv_at hl 0 rfl) ?_
          refine lv_goto (tgt := 71) X.1 X.2.1 dX10_overBy_67 (by decide) ?_
          exact J71 _ _ _ x35 (by omega) hG (lv_sub hl [1, 2, 3, 4, 0] rfl)
  exact J17 _ _ _ _ x6 x7 (by omega) (by omega) (Nat.lt_succ_self _) hG (lv_sub hl [2, 3, 1, 0] rfl)
set_option maxHeartbeats 4000000 in
set_option maxRecDepth 100000 in
theorem c_X10_bestDriver (l : Launch) (D : va_G) (cy : Nat → ClassId) (τ : ty_T) (M : md_T) (hU : UQ τ) {P N : Nat} (hB : HB M P N) (hL0 : LV M P 0) (hT : HT M) {a900 : Nat} (h900 : τ a900 = some (0, 10)) : KI l D cy yX10_bestDriver cX10_bestDriver 5 .int (rL 6) τ (cn M τ) [.ref a900] (fun r u => u = (cn M τ) ∧ True) := by
  refine k_metI "EdgeEchoesModel" rfl (by decide +kernel) (Nat.le_of_ble_eq_true rfl) (fun _ _ _ => rfl) ?_
  intro p e s m args below meth c Q ls X hG hl ret
  have hl : lv_has ls 5 [(0, .ref a900)] := hl
  obtain ⟨⟨⟨n9, m9, n9p⟩, ⟨n13, m13, n13p⟩, ⟨n3, m3, n3p⟩, m8⟩, ⟨mN, mP, ⟨gG, mG, lG⟩, mL, mF⟩, mO, ⟨mK, mS, mQ, mZ⟩, hN72, hP8, hNP⟩ := id hB
  refine n_ic X dX10_bestDriver_0 (by decide) (by decide) (fun x1 t1 => ?_)
  refine lv_istore_n (lv' := [(1, .int x1), (0, .ref a900)]) X.1 X.2.1 dX10_bestDriver_1 rfl hl (by decide) rfl (fun ls hl => ?_)
  refine lv_aload_n X.1 X.2.1 dX10_bestDriver_2 rfl (lv_at hl 1 rfl) ?_
  refine n_ic X dX10_bestDriver_3 (by decide) (by decide) (fun x2 t2 => ?_)
  refine k_cVi X hG (c_X10_overBy l D cy τ M hU hB hL0 hT h900 x2 (by omega) ) h900 rfl yv_X10_overBy q_1032 ⟨rfl, rfl⟩ ⟨Nat.le_of_ble_eq_true rfl, Nat.le_of_ble_eq_true rfl⟩ rfl hl.1 rfl (Nat.le_of_ble_eq_true rfl) ⟨Nat.zero_le _, Nat.zero_le _⟩ dX10_bestDriver_4 (fun x4 u5 H locs hG po3 => ?_)
  obtain ⟨eu5, po3⟩ := po3
  rw [eu5] at hG
  have g4 := cI_rng x4
  refine lv_istore_n (lv' := [(2, .int x4), (1, .int x1), (0, .ref a900)]) X.1 X.2.1 dX10_bestDriver_7 rfl hl (by decide) rfl (fun ls hl => ?_)
  refine n_ic X dX10_bestDriver_8 (by decide) (by decide) (fun x6 t6 => ?_)
  refine lv_istore_n (lv' := [(3, .int x6), (2, .int x4), (1, .int x1), (0, .ref a900)]) X.1 X.2.1 dX10_bestDriver_9 rfl hl (by decide) rfl (fun ls hl => ?_)
  have J10 : ∀ (n : Nat) (H : Heap) (locs : List Loc) (ls : Array Slot) (x7 : Int32) (x8 : Int32) (x9 : Int32), (0 ≤ x7.toInt ∧ x7.toInt ≤ 99) → (1 ≤ x9.toInt ∧ x9.toInt ≤ 100) → (100 - x9.toInt).toNat < n → TG D cy τ (cn M τ) (ty_d τ) s.heap H locs → lv_has ls 5 [(0, .ref a900), (1, .int x7), (2, .int x8), (3, .int x9)] → W p l e (rL 6) s m args below meth c H locs 0 0 Q (F0 m 10 ls []) := by
    intro n
    induction n with
    | zero => intro H locs ls x7 x8 x9 bx7 bx9 hm10 hG hl; exact absurd hm10 (Nat.not_lt_zero _)
    | succ n ih10 =>
      intro H locs ls x7 x8 x9 bx7 bx9 hm10 hG hl
      have gx8 := cI_rng x8
      refine lv_iload_n X.1 X.2.1 dX10_bestDriver_10 rfl (lv_at hl 3 rfl) ?_
      refine n_bp X dX10_bestDriver_11 (by decide) (by decide) (fun x10 t10 => ?_)
      refine n_icmp_ge (tgt := 54) X dX10_bestDriver_13 (by decide) (fun c11 => ?_) (fun c11 => ?_)
      · refine lv_iload_n X.1 X.2.1 dX10_bestDriver_54 rfl (lv_at hl 1 rfl) ?_
        exact ret _ _ _ _ x7 _ hG ⟨rfl, trivial⟩ dX10_bestDriver_55
      · refine lv_aload_n X.1 X.2.1 dX10_bestDriver_16 rfl (lv_at hl 0 rfl) ?_
        refine lv_iload_n X.1 X.2.1 dX10_bestDriver_17 rfl (lv_at hl 3 rfl) ?_
        refine k_cVi X hG (c_X10_overBy l D cy τ M hU hB hL0 hT h900 x9 (by omega) ) h900 rfl yv_X10_overBy q_1032 ⟨rfl, rfl⟩ ⟨Nat.le_of_ble_eq_true rfl, Nat.le_of_ble_eq_true rfl⟩ rfl hl.1 rfl (Nat.le_of_ble_eq_true rfl) ⟨Nat.zero_le _, Nat.zero_le _⟩ dX10_bestDriver_18 (fun x13 u14 H locs hG po12 => ?_)
        obtain ⟨eu14, po12⟩ := po12
        rw [eu14] at hG
        have g13 := cI_rng x13
        refine lv_istore (lv' := [(4, .int x13), (0, .ref a900), (1, .int x7), (2, .int x8), (3, .int x9)]) X.1 X.2.1 dX10_bestDriver_21 hl (by decide) rfl (fun ls hl => ?_)
        refine lv_iload X.1 X.2.1 dX10_bestDriver_23 (lv_at hl 0 rfl) ?_
        refine lv_iload_n X.1 X.2.1 dX10_bestDriver_25 rfl (lv_at hl 3 rfl) ?_
        have J34 : ∀ (H : Heap) (locs : List Loc) (ls : Array Slot) (x15 : Int32), (0 ≤ x15.toInt ∧ x15.toInt ≤ 99) → TG D cy τ (cn M τ) (ty_d τ) s.heap H locs → lv_has ls 5 [(0, .ref a900), (1, .int x7), (2, .int x8), (3, .int x9), (4, .int x13)] → W p l e (rL 6) s m args below meth c H locs 0 0 Q (F0 m 34 ls [.int x15]) := by
          intro H locs ls x15 bx15 hG hl
          refine lv_istore_n (lv' := [(1, .int x15), (0, .ref a900), (2, .int x8), (3, .int x9), (4, .int x13)]) X.1 X.2.1 dX10_bestDriver_34 rfl hl (by decide) rfl (fun ls hl => ?_)
          refine lv_iload X.1 X.2.1 dX10_bestDriver_35 (lv_at hl 4 rfl) ?_
          refine lv_iload_n X.1 X.2.1 dX10_bestDriver_37 rfl (lv_at hl 2 rfl) ?_
          have J47 : ∀ (H : Heap) (locs : List Loc) (ls : Array Slot) (x16 : Int32), TG D cy τ (cn M τ) (ty_d τ) s.heap H locs → lv_has ls 5 [(0, .ref a900), (1, .int x15), (2, .int x8), (3, .int x9), (4, .int x13)] → W p l e (rL 6) s m args below meth c H locs 0 0 Q (F0 m 47 ls [.int x16]) := by
            intro H locs ls x16 hG hl
            have gx16 := cI_rng x16
            refine lv_istore_n (lv' := [(2, .int x16), (0, .ref a900), (1, .int x15), (3, .int x9), (4, .int x13)]) X.1 X.2.1 dX10_bestDriver_47 rfl hl (by decide) rfl (fun ls hl => ?_)
            refine n_inc X (fun z18 => [(3, .int z18), (2, .int x16), (0, .ref a900), (1, .int x15), (4, .int x13)]) dX10_bestDriver_48 hl (k := 3) rfl (by decide) (by decide) (by omega) (by omega) (by decide) (fun _ => rfl) (fun x17 ls t17 hl => ?_)
            have hl : lv_has ls 5 [(3, .int x17), (2, .int x16), (0, .ref a900), (1, .int x15), (4, .int x13)] := hl
            refine lv_goto (tgt := 10) X.1 X.2.1 dX10_bestDriver_51 (by decide) ?_
            exact ih10 _ _ _ x15 x16 x17 (by omega) (by omega) (by omega) hG (lv_sub hl [2, 3, 1, 0] rfl)
          refine n_icmp_ge (tgt := 46) X dX10_bestDriver_38 (by decide) (fun c19 => ?_) (fun c19 => ?_)
          · refine lv_iload_n X.1 X.2.1 dX10_bestDriver_46 rfl (lv_at hl 2 rfl) ?_
            exact J47 _ _ _ x8 hG (lv_sub hl [1, 0, 2, 3, 4] rfl)
          · refine lv_iload X.1 X.2.1 dX10_bestDriver_41 (lv_at hl 4 rfl) ?_
            refine lv_goto (tgt := 47) X.1 X.2.1 dX10_bestDriver_43 (by decide) ?_
            exact J47 _ _ _ x13 hG (lv_sub hl [1, 0, 2, 3, 4] rfl)
        refine n_icmp_ge (tgt := 33) X dX10_bestDriver_26 (by decide) (fun c20 => ?_) (fun c20 => ?_)
        · refine lv_iload_n X.1 X.2.1 dX10_bestDriver_33 rfl (lv_at hl 2 rfl) ?_
          exact J34 _ _ _ x7 (by omega) hG (lv_sub hl [1, 2, 3, 4, 0] rfl)
        · refine lv_iload_n X.1 X.2.1 dX10_bestDriver_29 rfl (lv_at hl 4 rfl) ?_
          refine lv_goto (tgt := 34) X.1 X.2.1 dX10_bestDriver_30 (by decide) ?_
          exact J34 _ _ _ x9 (by omega) hG (lv_sub hl [1, 2, 3, 4, 0] rfl)
  exact J10 _ _ _ _ x1 x4 x6 (by omega) (by omega) (Nat.lt_succ_self _) hG (lv_sub hl [3, 2, 1, 0] rfl)
set_option maxHeartbeats 4000000 in
set_option maxRecDepth 100000 in
theorem c_X10_comesBack (l : Launch) (D : va_G) (cy : Nat → ClassId) (τ : ty_T) (M : md_T) (hU : UQ τ) {P N : Nat} (hB : HB M P N) (hL0 : LV M P 0) (hT : HT M) {a900 : Nat} (h900 : τ a900 = some (0, 10)) : KI l D cy yX10_comesBack cX10_comesBack 2 .int (rL 5) τ (cn M τ) [.ref a900] (fun r u => u = (cn M τ) ∧ True) := by
  refine k_metI "EdgeEchoesModel" rfl (by decide +kernel) (Nat.le_of_ble_eq_true rfl) (fun _ _ _ => rfl) ?_
  intro p e s m args below meth c Q ls X hG hl ret
  have hl : lv_has ls 2 [(0, .ref a900)] := hl
  obtain ⟨⟨⟨n9, m9, n9p⟩, ⟨n13, m13, n13p⟩, ⟨n3, m3, n3p⟩, m8⟩, ⟨mN, mP, ⟨gG, mG, lG⟩, mL, mF⟩, mO, ⟨mK, mS, mQ, mZ⟩, hN72, hP8, hNP⟩ := id hB
  refine lv_aload_n X.1 X.2.1 dX10_comesBack_0 rfl (lv_at hl 0 rfl) ?_
  refine k_cVv X hG (c_X10_layQuiet l D cy τ M hU hB hL0  h900 ) h900 rfl yv_X10_layQuiet q_1036 ⟨rfl, rfl⟩ ⟨Nat.le_of_ble_eq_true rfl, Nat.le_of_ble_eq_true rfl⟩ rfl hl.1 rfl (Nat.le_of_ble_eq_true rfl) ⟨Nat.zero_le _, Nat.zero_le _⟩ dX10_comesBack_1 (fun u3 H locs hG po1 => ?_)
  rw [po1] at hG
  obtain ⟨⟨⟨n9, m9, n9p⟩, ⟨n13, m13, n13p⟩, ⟨n3, m3, n3p⟩, m8⟩, ⟨mN, mP, ⟨gG, mG, lG⟩, mL, mF⟩, mO, ⟨mK, mS, mQ, mZ⟩, hN72, hP8, hNP⟩ := id (HB.cp hB)
  refine n_ic X dX10_comesBack_4 (by decide) (by decide) (fun x4 t4 => ?_)
  refine lv_istore_n (lv' := [(1, .int x4), (0, .ref a900)]) X.1 X.2.1 dX10_comesBack_5 rfl hl (by decide) rfl (fun ls hl => ?_)
  have J6 : ∀ (n : Nat) (H : Heap) (locs : List Loc) (ls : Array Slot) (x5 : Int32), (1 ≤ x5.toInt ∧ x5.toInt ≤ 201) → (201 - x5.toInt).toNat < n → TG D cy τ (cn (MT M) τ) (ty_d τ) s.heap H locs → lv_has ls 2 [(0, .ref a900), (1, .int x5)] → W p l e (rL 5) s m args below meth c H locs 0 0 Q (F0 m 6 ls []) := by
    intro n
    induction n with
    | zero => intro H locs ls x5 bx5 hm6 hG hl; exact absurd hm6 (Nat.not_lt_zero _)
    | succ n ih6 =>
      intro H locs ls x5 bx5 hm6 hG hl
      refine lv_iload_n X.1 X.2.1 dX10_comesBack_6 rfl (lv_at hl 1 rfl) ?_
      refine n_sp X dX10_comesBack_7 (by decide) (by decide) (fun x6 t6 => ?_)
      refine n_icmp_ge (tgt := 40) X dX10_comesBack_10 (by decide) (fun c7 => ?_) (fun c7 => ?_)
      · refine n_ic X dX10_comesBack_40 (by decide) (by decide) (fun x8 t8 => ?_)
        exact ret _ _ _ _ x8 _ (TG.sub hG (MT_back hT)) ⟨rfl, trivial⟩ dX10_comesBack_41
      · refine lv_aload_n X.1 X.2.1 dX10_comesBack_13 rfl (lv_at hl 0 rfl) ?_
        refine n_sp X dX10_comesBack_14 (by decide) (by decide) (fun x9 t9 => ?_)
        refine n_ic X dX10_comesBack_17 (by decide) (by decide) (fun x10 t10 => ?_)
        refine k_cVv X hG (c_X10_ticks l D cy τ _ cn_N cn_R (cn_F (S := [6010, 6031, 6032])) h900 x9 (by omega) x10 (HB.cp hB) (b := 3736) (by omega) rfl (LV.cpT hL0 hB)) h900 rfl yv_X10_ticks q_1046 ⟨rfl, rfl⟩ ⟨Nat.le_of_ble_eq_true rfl, Nat.le_of_ble_eq_true rfl⟩ rfl hl.1 rfl (Nat.le_of_ble_eq_true rfl) ⟨Nat.zero_le _, Nat.zero_le _⟩ dX10_comesBack_18 (fun u13 H locs hG po11 => ?_)
        rw [po11] at hG
        refine lv_aload_n X.1 X.2.1 dX10_comesBack_21 rfl (lv_at hl 0 rfl) ?_
        refine gf_10_0 X hG h900 q_876 dX10_comesBack_22 (cn_N _ _ _ h900) (fun a14 h14 r14 => ?_)
        refine n_sp X dX10_comesBack_25 (by decide) (by decide) (fun x15 t15 => ?_)
        refine tg_iald X hG h14 rfl (cI_in (n := 4261) (by omega)) dX10_comesBack_28 (fun x16 r16 => ?_)
        refine n_if_eq (tgt := 34) X dX10_comesBack_29 (by decide) (fun c17 => ?_) (fun c17 => ?_)
        · refine n_inc X (fun z19 => [(1, .int z19), (0, .ref a900)]) dX10_comesBack_34 hl (k := 1) rfl (by decide) (by decide) (by omega) (by omega) (by decide) (fun _ => rfl) (fun x18 ls t18 hl => ?_)
          have hl : lv_has ls 2 [(1, .int x18), (0, .ref a900)] := hl
          refine lv_goto (tgt := 6) X.1 X.2.1 dX10_comesBack_37 (by decide) ?_
          exact ih6 _ _ _ x18 (by omega) (by omega) hG (lv_sub hl [1, 0] rfl)
        · refine lv_iload_n X.1 X.2.1 dX10_comesBack_32 rfl (lv_at hl 1 rfl) ?_
          exact ret _ _ _ _ x5 _ (TG.sub hG (MT_back hT)) ⟨rfl, trivial⟩ dX10_comesBack_33
  exact J6 _ _ _ _ x4 (by omega) (Nat.lt_succ_self _) hG (lv_sub hl [1, 0] rfl)
set_option maxHeartbeats 4000000 in
set_option maxRecDepth 100000 in
theorem c_X10_firstOne (l : Launch) (D : va_G) (cy : Nat → ClassId) (τ : ty_T) (M : md_T) (hU : UQ τ) {P N : Nat} (hB : HB M P N) (hL0 : LV M P 0) (hT : HT M) {a900 : Nat} (h900 : τ a900 = some (0, 10)) (x901 : Int32) (zx901 : 0 ≤ x901.toInt ∧ x901.toInt ≤ 5) : KI l D cy yX10_firstOne cX10_firstOne 3 .int (rL 5) τ (cn M τ) [.ref a900, .int x901] (fun r u => u = (cn M τ) ∧ True) := by
  refine k_metI "EdgeEchoesModel" rfl (by decide +kernel) (Nat.le_of_ble_eq_true rfl) (fun _ _ _ => rfl) ?_
  intro p e s m args below meth c Q ls X hG hl ret
  have hl : lv_has ls 3 [(0, .ref a900), (1, .int x901)] := hl
  obtain ⟨⟨⟨n9, m9, n9p⟩, ⟨n13, m13, n13p⟩, ⟨n3, m3, n3p⟩, m8⟩, ⟨mN, mP, ⟨gG, mG, lG⟩, mL, mF⟩, mO, ⟨mK, mS, mQ, mZ⟩, hN72, hP8, hNP⟩ := id hB
  refine lv_aload_n X.1 X.2.1 dX10_firstOne_0 rfl (lv_at hl 0 rfl) ?_
  refine n_ic X dX10_firstOne_1 (by decide) (by decide) (fun x1 t1 => ?_)
  refine n_sp X dX10_firstOne_2 (by decide) (by decide) (fun x2 t2 => ?_)
  refine n_sp X dX10_firstOne_5 (by decide) (by decide) (fun x3 t3 => ?_)
  refine k_cVv X hG (c_X10_copyRow l D cy τ _ hU h900 x1 x2 x3 0 3736 247 (by omega) (by omega) (by omega) (by omega) (by omega) (by omega)) h900 rfl yv_X10_copyRow q_1012 ⟨rfl, rfl⟩ ⟨Nat.le_of_ble_eq_true rfl, Nat.le_of_ble_eq_true rfl⟩ rfl hl.1 rfl (Nat.le_of_ble_eq_true rfl) ⟨Nat.zero_le _, Nat.zero_le _⟩ dX10_firstOne_8 (fun u6 H locs hG po4 => ?_)
  rw [po4] at hG
  have hG := TG.sub hG MT_c
  obtain ⟨⟨⟨n9, m9, n9p⟩, ⟨n13, m13, n13p⟩, ⟨n3, m3, n3p⟩, m8⟩, ⟨mN, mP, ⟨gG, mG, lG⟩, mL, mF⟩, mO, ⟨mK, mS, mQ, mZ⟩, hN72, hP8, hNP⟩ := id (HB.cp hB)
  refine n_ic X dX10_firstOne_11 (by decide) (by decide) (fun x7 t7 => ?_)
  refine lv_istore_n (lv' := [(2, .int x7), (0, .ref a900), (1, .int x901)]) X.1 X.2.1 dX10_firstOne_12 rfl hl (by decide) rfl (fun ls hl => ?_)
  have J13 : ∀ (n : Nat) (H : Heap) (locs : List Loc) (ls : Array Slot) (x8 : Int32), (0 ≤ x8.toInt ∧ x8.toInt ≤ 201) → (201 - x8.toInt).toNat < n → TG D cy τ (cn (MT M) τ) (ty_d τ) s.heap H locs → lv_has ls 3 [(0, .ref a900), (1, .int x901), (2, .int x8)] → W p l e (rL 5) s m args below meth c H locs 0 0 Q (F0 m 13 ls []) := by
    intro n
    induction n with
    | zero => intro H locs ls x8 bx8 hm13 hG hl; exact absurd hm13 (Nat.not_lt_zero _)
    | succ n ih13 =>
      intro H locs ls x8 bx8 hm13 hG hl
      refine lv_iload_n X.1 X.2.1 dX10_firstOne_13 rfl (lv_at hl 2 rfl) ?_
      refine n_sp X dX10_firstOne_14 (by decide) (by decide) (fun x9 t9 => ?_)
      refine n_icmp_ge (tgt := 50) X dX10_firstOne_17 (by decide) (fun c10 => ?_) (fun c10 => ?_)
      · refine n_ic X dX10_firstOne_50 (by decide) (by decide) (fun x11 t11 => ?_)
        exact ret _ _ _ _ x11 _ (TG.sub hG (MT_back hT)) ⟨rfl, trivial⟩ dX10_firstOne_51
      · refine lv_aload_n X.1 X.2.1 dX10_firstOne_20 rfl (lv_at hl 0 rfl) ?_
        refine gf_10_0 X hG h900 q_876 dX10_firstOne_21 (cn_N _ _ _ h900) (fun a12 h12 r12 => ?_)
        refine n_sp X dX10_firstOne_24 (by decide) (by decide) (fun x13 t13 => ?_)
        refine lv_iload_n X.1 X.2.1 dX10_firstOne_27 rfl (lv_at hl 1 rfl) ?_
        refine n_add X dX10_firstOne_28 (by omega) (by omega) (fun x14 t14 => ?_)
        refine tg_iald X hG h12 rfl (cI_in (n := 4261) (by omega)) dX10_firstOne_29 (fun x15 r15 => ?_)
        refine n_ic X dX10_firstOne_30 (by decide) (by decide) (fun x16 t16 => ?_)
        refine n_icmp_ne (tgt := 36) X dX10_firstOne_31 (by decide) (fun c17 => ?_) (fun c17 => ?_)
        · refine lv_aload_n X.1 X.2.1 dX10_firstOne_36 rfl (lv_at hl 0 rfl) ?_
          refine n_sp X dX10_firstOne_37 (by decide) (by decide) (fun x18 t18 => ?_)
          refine n_ic X dX10_firstOne_40 (by decide) (by decide) (fun x19 t19 => ?_)
          refine k_cVv X hG (c_X10_ticks l D cy τ _ cn_N cn_R (cn_F (S := [6010, 6031, 6032])) h900 x18 (by omega) x19 (HB.cp hB) (b := 3736) (by omega) rfl (LV.cpT hL0 hB)) h900 rfl yv_X10_ticks q_1046 ⟨rfl, rfl⟩ ⟨Nat.le_of_ble_eq_true rfl, Nat.le_of_ble_eq_true rfl⟩ rfl hl.1 rfl (Nat.le_of_ble_eq_true rfl) ⟨Nat.zero_le _, Nat.zero_le _⟩ dX10_firstOne_41 (fun u22 H locs hG po20 => ?_)
          rw [po20] at hG
          refine n_inc X (fun z24 => [(2, .int z24), (0, .ref a900), (1, .int x901)]) dX10_firstOne_44 hl (k := 2) rfl (by decide) (by decide) (by omega) (by omega) (by decide) (fun _ => rfl) (fun x23 ls t23 hl => ?_)
          have hl : lv_has ls 3 [(2, .int x23), (0, .ref a900), (1, .int x901)] := hl
          refine lv_goto (tgt := 13) X.1 X.2.1 dX10_firstOne_47 (by decide) ?_
          exact ih13 _ _ _ x23 (by omega) (by omega) hG (lv_sub hl [1, 2, 0] rfl)
        · refine lv_iload_n X.1 X.2.1 dX10_firstOne_34 rfl (lv_at hl 2 rfl) ?_
          exact ret _ _ _ _ x8 _ (TG.sub hG (MT_back hT)) ⟨rfl, trivial⟩ dX10_firstOne_35
  exact J13 _ _ _ _ x7 (by omega) (Nat.lt_succ_self _) hG (lv_sub hl [1, 2, 0] rfl)
set_option maxHeartbeats 4000000 in
set_option maxRecDepth 100000 in
theorem c_X10_told (l : Launch) (D : va_G) (cy : Nat → ClassId) (τ : ty_T) (M : md_T) (hU : UQ τ) {P N : Nat} (hB : HB M P N) (hL0 : LV M P 0) (hT : HT M) {a900 : Nat} (h900 : τ a900 = some (0, 10)) (x901 : Int32) : KI l D cy yX10_told cX10_told 2 .int (rL 7) τ (cn M τ) [.ref a900, .int x901] (fun r u => u = (cn M τ) ∧ True) := by
  refine k_metI "EdgeEchoesModel" rfl (by decide +kernel) (Nat.le_of_ble_eq_true rfl) (fun _ _ _ => rfl) ?_
  intro p e s m args below meth c Q ls X hG hl ret
  have hl : lv_has ls 2 [(0, .ref a900), (1, .int x901)] := hl
  obtain ⟨⟨⟨n9, m9, n9p⟩, ⟨n13, m13, n13p⟩, ⟨n3, m3, n3p⟩, m8⟩, ⟨mN, mP, ⟨gG, mG, lG⟩, mL, mF⟩, mO, ⟨mK, mS, mQ, mZ⟩, hN72, hP8, hNP⟩ := id hB
  have g901 := cI_rng x901
  refine lv_iload_n X.1 X.2.1 dX10_told_0 rfl (lv_at hl 1 rfl) ?_
  rcases (show x901.toInt = 0 ∨ x901.toInt = 1 ∨ x901.toInt = 2 ∨ x901.toInt = 3 ∨ x901.toInt = 4 ∨ x901.toInt = 5 ∨ x901.toInt = 6 ∨ x901.toInt = 7 ∨ x901.toInt = 8 ∨ x901.toInt = 9 ∨ x901.toInt = 10 ∨ x901.toInt = 11 ∨ x901.toInt = 12 ∨ x901.toInt = 13 ∨ x901.toInt = 14 ∨ x901.toInt = 15 ∨ x901.toInt = 16 ∨ x901.toInt = 17 ∨ (x901.toInt < 0 ∨ 17 < x901.toInt) by omega) with c1 | c1 | c1 | c1 | c1 | c1 | c1 | c1 | c1 | c1 | c1 | c1 | c1 | c1 | c1 | c1 | c1 | c1 | c1
  · refine lv_tableIn (tgt := 88) (off := 87) X.1 X.2.1 dX10_told_1 (by omega) (by omega) (by rw [c1]; rfl) (by decide) ?_
    refine lv_aload_n X.1 X.2.1 dX10_told_88 rfl (lv_at hl 0 rfl) ?_
    refine gf_10_0 X hG h900 q_876 dX10_told_89 (cn_N _ _ _ h900) (fun a2 h2 r2 => ?_)
    refine n_sp X dX10_told_92 (by decide) (by decide) (fun x3 t3 => ?_)
    refine tg_iald X hG h2 rfl (cI_in (n := 4261) (by omega)) dX10_told_95 (fun x4 r4 => ?_)
    exact ret _ _ _ _ x4 _ hG ⟨rfl, trivial⟩ dX10_told_96
  · refine lv_tableIn (tgt := 97) (off := 96) X.1 X.2.1 dX10_told_1 (by omega) (by omega) (by rw [c1]; rfl) (by decide) ?_
    refine lv_aload_n X.1 X.2.1 dX10_told_97 rfl (lv_at hl 0 rfl) ?_
    refine gf_10_0 X hG h900 q_876 dX10_told_98 (cn_N _ _ _ h900) (fun a5 h5 r5 => ?_)
    refine n_sp X dX10_told_101 (by decide) (by decide) (fun x6 t6 => ?_)
    refine tg_iald X hG h5 rfl (cI_in (n := 4261) (by omega)) dX10_told_104 (fun x7 r7 => ?_)
    have b7 := rdR (cn_R _ _ _ _ h5 r7) (n := 249) (by omega) mP
    exact ret _ _ _ _ x7 _ hG ⟨rfl, trivial⟩ dX10_told_105
  · refine lv_tableIn (tgt := 106) (off := 105) X.1 X.2.1 dX10_told_1 (by omega) (by omega) (by rw [c1]; rfl) (by decide) ?_
    refine lv_aload_n X.1 X.2.1 dX10_told_106 rfl (lv_at hl 0 rfl) ?_
    refine gf_10_0 X hG h900 q_876 dX10_told_107 (cn_N _ _ _ h900) (fun a8 h8 r8 => ?_)
    refine n_sp X dX10_told_110 (by decide) (by decide) (fun x9 t9 => ?_)
    refine tg_iald X hG h8 rfl (cI_in (n := 4261) (by omega)) dX10_told_113 (fun x10 r10 => ?_)
    have b10 := rdR (cn_R _ _ _ _ h8 r10) (n := 258) (by omega) mN
    exact ret _ _ _ _ x10 _ hG ⟨rfl, trivial⟩ dX10_told_114
  · refine lv_tableIn (tgt := 115) (off := 114) X.1 X.2.1 dX10_told_1 (by omega) (by omega) (by rw [c1]; rfl) (by decide) ?_
    refine lv_aload_n X.1 X.2.1 dX10_told_115 rfl (lv_at hl 0 rfl) ?_
    refine gf_10_0 X hG h900 q_876 dX10_told_116 (cn_N _ _ _ h900) (fun a11 h11 r11 => ?_)
    refine n_sp X dX10_told_119 (by decide) (by decide) (fun x12 t12 => ?_)
    refine tg_iald X hG h11 rfl (cI_in (n := 4261) (by omega)) dX10_told_122 (fun x13 r13 => ?_)
    have b13 := rdR (cn_R _ _ _ _ h11 r13) (n := 259) (by omega) mG
    exact ret _ _ _ _ x13 _ hG ⟨rfl, trivial⟩ dX10_told_123
  · refine lv_tableIn (tgt := 124) (off := 123) X.1 X.2.1 dX10_told_1 (by omega) (by omega) (by rw [c1]; rfl) (by decide) ?_
    refine lv_aload_n X.1 X.2.1 dX10_told_124 rfl (lv_at hl 0 rfl) ?_
    refine gf_10_7 X hG h900 q_883 dX10_told_125 (fun x14 r14 => ?_)
    have g14 := cI_rng x14
    exact ret _ _ _ _ x14 _ hG ⟨rfl, trivial⟩ dX10_told_128
  · refine lv_tableIn (tgt := 129) (off := 128) X.1 X.2.1 dX10_told_1 (by omega) (by omega) (by rw [c1]; rfl) (by decide) ?_
    refine lv_aload_n X.1 X.2.1 dX10_told_129 rfl (lv_at hl 0 rfl) ?_
    refine gf_10_0 X hG h900 q_876 dX10_told_130 (cn_N _ _ _ h900) (fun a15 h15 r15 => ?_)
    refine n_sp X dX10_told_133 (by decide) (by decide) (fun x16 t16 => ?_)
    refine tg_iald X hG h15 rfl (cI_in (n := 4261) (by omega)) dX10_told_136 (fun x17 r17 => ?_)
    exact ret _ _ _ _ x17 _ hG ⟨rfl, trivial⟩ dX10_told_137
  · refine lv_tableIn (tgt := 138) (off := 137) X.1 X.2.1 dX10_told_1 (by omega) (by omega) (by rw [c1]; rfl) (by decide) ?_
    refine lv_aload_n X.1 X.2.1 dX10_told_138 rfl (lv_at hl 0 rfl) ?_
    refine gf_10_0 X hG h900 q_876 dX10_told_139 (cn_N _ _ _ h900) (fun a18 h18 r18 => ?_)
    refine n_sp X dX10_told_142 (by decide) (by decide) (fun x19 t19 => ?_)
    refine tg_iald X hG h18 rfl (cI_in (n := 4261) (by omega)) dX10_told_145 (fun x20 r20 => ?_)
    exact ret _ _ _ _ x20 _ hG ⟨rfl, trivial⟩ dX10_told_146
  · refine lv_tableIn (tgt := 147) (off := 146) X.1 X.2.1 dX10_told_1 (by omega) (by omega) (by rw [c1]; rfl) (by decide) ?_
    refine lv_aload_n X.1 X.2.1 dX10_told_147 rfl (lv_at hl 0 rfl) ?_
    refine gf_10_0 X hG h900 q_876 dX10_told_148 (cn_N _ _ _ h900) (fun a21 h21 r21 => ?_)
    refine n_sp X dX10_told_151 (by decide) (by decide) (fun x22 t22 => ?_)
    refine tg_iald X hG h21 rfl (cI_in (n := 4261) (by omega)) dX10_told_154 (fun x23 r23 => ?_)
    exact ret _ _ _ _ x23 _ hG ⟨rfl, trivial⟩ dX10_told_155
  · refine lv_tableIn (tgt := 156) (off := 155) X.1 X.2.1 dX10_told_1 (by omega) (by omega) (by rw [c1]; rfl) (by decide) ?_
    refine lv_aload_n X.1 X.2.1 dX10_told_156 rfl (lv_at hl 0 rfl) ?_
    refine gf_10_0 X hG h900 q_876 dX10_told_157 (cn_N _ _ _ h900) (fun a24 h24 r24 => ?_)
    refine n_sp X dX10_told_160 (by decide) (by decide) (fun x25 t25 => ?_)
    refine tg_iald X hG h24 rfl (cI_in (n := 4261) (by omega)) dX10_told_163 (fun x26 r26 => ?_)
    exact ret _ _ _ _ x26 _ hG ⟨rfl, trivial⟩ dX10_told_164
  · refine lv_tableIn (tgt := 165) (off := 164) X.1 X.2.1 dX10_told_1 (by omega) (by omega) (by rw [c1]; rfl) (by decide) ?_
    refine lv_aload_n X.1 X.2.1 dX10_told_165 rfl (lv_at hl 0 rfl) ?_
    refine gf_10_0 X hG h900 q_876 dX10_told_166 (cn_N _ _ _ h900) (fun a27 h27 r27 => ?_)
    refine n_sp X dX10_told_169 (by decide) (by decide) (fun x28 t28 => ?_)
    refine tg_iald X hG h27 rfl (cI_in (n := 4261) (by omega)) dX10_told_172 (fun x29 r29 => ?_)
    refine n_ic X dX10_told_173 (by decide) (by decide) (fun x30 t30 => ?_)
    refine n_icmp_ne (tgt := 188) X dX10_told_174 (by decide) (fun c31 => ?_) (fun c31 => ?_)
    · refine n_ic X dX10_told_188 (by decide) (by decide) (fun x32 t32 => ?_)
      exact ret _ _ _ _ x32 _ hG ⟨rfl, trivial⟩ dX10_told_189
    · refine lv_aload_n X.1 X.2.1 dX10_told_177 rfl (lv_at hl 0 rfl) ?_
      refine gf_10_0 X hG h900 q_876 dX10_told_178 (cn_N _ _ _ h900) (fun a33 h33 r33 => ?_)
      refine n_sp X dX10_told_181 (by decide) (by decide) (fun x34 t34 => ?_)
      refine tg_iald X hG h33 rfl (cI_in (n := 4261) (by omega)) dX10_told_184 (fun x35 r35 => ?_)
      refine lv_goto (tgt := 189) X.1 X.2.1 dX10_told_185 (by decide) ?_
      exact ret _ _ _ _ x35 _ hG ⟨rfl, trivial⟩ dX10_told_189
  · refine lv_tableIn (tgt := 190) (off := 189) X.1 X.2.1 dX10_told_1 (by omega) (by omega) (by rw [c1]; rfl) (by decide) ?_
    refine lv_aload_n X.1 X.2.1 dX10_told_190 rfl (lv_at hl 0 rfl) ?_
    refine gf_10_0 X hG h900 q_876 dX10_told_191 (cn_N _ _ _ h900) (fun a36 h36 r36 => ?_)
    refine n_sp X dX10_told_194 (by decide) (by decide) (fun x37 t37 => ?_)
    refine tg_iald X hG h36 rfl (cI_in (n := 4261) (by omega)) dX10_told_197 (fun x38 r38 => ?_)
    exact ret _ _ _ _ x38 _ hG ⟨rfl, trivial⟩ dX10_told_198
  · refine lv_tableIn (tgt := 199) (off := 198) X.1 X.2.1 dX10_told_1 (by omega) (by omega) (by rw [c1]; rfl) (by decide) ?_
    refine lv_aload_n X.1 X.2.1 dX10_told_199 rfl (lv_at hl 0 rfl) ?_
    refine k_cVi X hG (c_X10_seesAll l D cy τ _ cn_N cn_R (cn_F (S := [])) h900 hB) h900 rfl yv_X10_seesAll q_1024 ⟨rfl, rfl⟩ ⟨Nat.le_of_ble_eq_true rfl, Nat.le_of_ble_eq_true rfl⟩ rfl hl.1 rfl (Nat.le_of_ble_eq_true rfl) ⟨Nat.zero_le _, Nat.zero_le _⟩ dX10_told_200 (fun x40 u41 H locs hG po39 => ?_)
    obtain ⟨eu41, po39⟩ := po39
    rw [eu41] at hG
    have g40 := cI_rng x40
    exact ret _ _ _ _ x40 _ hG ⟨rfl, trivial⟩ dX10_told_203
  · refine lv_tableIn (tgt := 204) (off := 203) X.1 X.2.1 dX10_told_1 (by omega) (by omega) (by rw [c1]; rfl) (by decide) ?_
    refine lv_aload_n X.1 X.2.1 dX10_told_204 rfl (lv_at hl 0 rfl) ?_
    refine k_cVi X hG (c_X10_isLine l D cy τ _ cn_N cn_R (cn_F (S := [])) h900 hB) h900 rfl yv_X10_isLine q_1028 ⟨rfl, rfl⟩ ⟨Nat.le_of_ble_eq_true rfl, Nat.le_of_ble_eq_true rfl⟩ rfl hl.1 rfl (Nat.le_of_ble_eq_true rfl) ⟨Nat.zero_le _, Nat.zero_le _⟩ dX10_told_205 (fun x43 u44 H locs hG po42 => ?_)
    obtain ⟨eu44, po42⟩ := po42
    rw [eu44] at hG
    refine n_if_eq (tgt := 226) X dX10_told_208 (by decide) (fun c45 => ?_) (fun c45 => ?_)
    · refine n_ic X dX10_told_226 (by decide) (by decide) (fun x46 t46 => ?_)
      exact ret _ _ _ _ x46 _ hG ⟨rfl, trivial⟩ dX10_told_227
    · refine lv_aload_n X.1 X.2.1 dX10_told_211 rfl (lv_at hl 0 rfl) ?_
      refine lv_aload_n X.1 X.2.1 dX10_told_212 rfl (lv_at hl 0 rfl) ?_
      refine gf_10_0 X hG h900 q_876 dX10_told_213 (cn_N _ _ _ h900) (fun a47 h47 r47 => ?_)
      refine n_sp X dX10_told_216 (by decide) (by decide) (fun x48 t48 => ?_)
      refine tg_iald X hG h47 rfl (cI_in (n := 4261) (by omega)) dX10_told_219 (fun x49 r49 => ?_)
      have b49 := rdR (cn_R _ _ _ _ h47 r49) (n := 246) (by omega) hL0.2.1
      refine k_cVi X hG (c_X10_overBy l D cy τ M hU hB hL0 hT h900 x49 (by omega) ) h900 rfl yv_X10_overBy q_1032 ⟨rfl, rfl⟩ ⟨Nat.le_of_ble_eq_true rfl, Nat.le_of_ble_eq_true rfl⟩ rfl hl.1 rfl (Nat.le_of_ble_eq_true rfl) ⟨Nat.zero_le _, Nat.zero_le _⟩ dX10_told_220 (fun x51 u52 H locs hG po50 => ?_)
      obtain ⟨eu52, po50⟩ := po50
      rw [eu52] at hG
      have g51 := cI_rng x51
      refine lv_goto (tgt := 227) X.1 X.2.1 dX10_told_223 (by decide) ?_
      exact ret _ _ _ _ x51 _ hG ⟨rfl, trivial⟩ dX10_told_227
  · refine lv_tableIn (tgt := 228) (off := 227) X.1 X.2.1 dX10_told_1 (by omega) (by omega) (by rw [c1]; rfl) (by decide) ?_
    refine lv_aload_n X.1 X.2.1 dX10_told_228 rfl (lv_at hl 0 rfl) ?_
    refine k_cVi X hG (c_X10_isLine l D cy τ _ cn_N cn_R (cn_F (S := [])) h900 hB) h900 rfl yv_X10_isLine q_1028 ⟨rfl, rfl⟩ ⟨Nat.le_of_ble_eq_true rfl, Nat.le_of_ble_eq_true rfl⟩ rfl hl.1 rfl (Nat.le_of_ble_eq_true rfl) ⟨Nat.zero_le _, Nat.zero_le _⟩ dX10_told_229 (fun x54 u55 H locs hG po53 => ?_)
    obtain ⟨eu55, po53⟩ := po53
    rw [eu55] at hG
    refine n_if_eq (tgt := 242) X dX10_told_232 (by decide) (fun c56 => ?_) (fun c56 => ?_)
    · refine n_ic X dX10_told_242 (by decide) (by decide) (fun x57 t57 => ?_)
      exact ret _ _ _ _ x57 _ hG ⟨rfl, trivial⟩ dX10_told_243
    · refine lv_aload_n X.1 X.2.1 dX10_told_235 rfl (lv_at hl 0 rfl) ?_
      refine k_cVi X hG (c_X10_bestDriver l D cy τ M hU hB hL0 hT h900 ) h900 rfl yv_X10_bestDriver q_1083 ⟨rfl, rfl⟩ ⟨Nat.le_of_ble_eq_true rfl, Nat.le_of_ble_eq_true rfl⟩ rfl hl.1 rfl (Nat.le_of_ble_eq_true rfl) ⟨Nat.zero_le _, Nat.zero_le _⟩ dX10_told_236 (fun x59 u60 H locs hG po58 => ?_)
      obtain ⟨eu60, po58⟩ := po58
      rw [eu60] at hG
      have g59 := cI_rng x59
      refine lv_goto (tgt := 243) X.1 X.2.1 dX10_told_239 (by decide) ?_
      exact ret _ _ _ _ x59 _ hG ⟨rfl, trivial⟩ dX10_told_243
  · refine lv_tableIn (tgt := 244) (off := 243) X.1 X.2.1 dX10_told_1 (by omega) (by omega) (by rw [c1]; rfl) (by decide) ?_
    refine lv_aload_n X.1 X.2.1 dX10_told_244 rfl (lv_at hl 0 rfl) ?_
    refine k_cVi X hG (c_X10_isLine l D cy τ _ cn_N cn_R (cn_F (S := [])) h900 hB) h900 rfl yv_X10_isLine q_1028 ⟨rfl, rfl⟩ ⟨Nat.le_of_ble_eq_true rfl, Nat.le_of_ble_eq_true rfl⟩ rfl hl.1 rfl (Nat.le_of_ble_eq_true rfl) ⟨Nat.zero_le _, Nat.zero_le _⟩ dX10_told_245 (fun x62 u63 H locs hG po61 => ?_)
    obtain ⟨eu63, po61⟩ := po61
    rw [eu63] at hG
    refine n_if_eq (tgt := 269) X dX10_told_248 (by decide) (fun c64 => ?_) (fun c64 => ?_)
    · refine n_ic X dX10_told_269 (by decide) (by decide) (fun x65 t65 => ?_)
      exact ret _ _ _ _ x65 _ hG ⟨rfl, trivial⟩ dX10_told_270
    · refine lv_aload_n X.1 X.2.1 dX10_told_251 rfl (lv_at hl 0 rfl) ?_
      refine gf_10_0 X hG h900 q_876 dX10_told_252 (cn_N _ _ _ h900) (fun a66 h66 r66 => ?_)
      refine n_sp X dX10_told_255 (by decide) (by decide) (fun x67 t67 => ?_)
      refine tg_iald X hG h66 rfl (cI_in (n := 4261) (by omega)) dX10_told_258 (fun x68 r68 => ?_)
      have b68 := rdR (cn_R _ _ _ _ h66 r68) (n := 258) (by omega) mN
      refine n_if_le (tgt := 269) X dX10_told_259 (by decide) (fun c69 => ?_) (fun c69 => ?_)
      · refine n_ic X dX10_told_269 (by decide) (by decide) (fun x70 t70 => ?_)
        exact ret _ _ _ _ x70 _ hG ⟨rfl, trivial⟩ dX10_told_270
      · refine lv_aload_n X.1 X.2.1 dX10_told_262 rfl (lv_at hl 0 rfl) ?_
        refine k_cVi X hG (c_X10_comesBack l D cy τ M hU hB hL0 hT h900 ) h900 rfl yv_X10_comesBack q_1087 ⟨rfl, rfl⟩ ⟨Nat.le_of_ble_eq_true rfl, Nat.le_of_ble_eq_true rfl⟩ rfl hl.1 rfl (Nat.le_of_ble_eq_true rfl) ⟨Nat.zero_le _, Nat.zero_le _⟩ dX10_told_263 (fun x72 u73 H locs hG po71 => ?_)
        obtain ⟨eu73, po71⟩ := po71
        rw [eu73] at hG
        have g72 := cI_rng x72
        refine lv_goto (tgt := 270) X.1 X.2.1 dX10_told_266 (by decide) ?_
        exact ret _ _ _ _ x72 _ hG ⟨rfl, trivial⟩ dX10_told_270
  · refine lv_tableIn (tgt := 271) (off := 270) X.1 X.2.1 dX10_told_1 (by omega) (by omega) (by rw [c1]; rfl) (by decide) ?_
    refine lv_aload_n X.1 X.2.1 dX10_told_271 rfl (lv_at hl 0 rfl) ?_
    refine gf_10_9 X hG h900 q_885 dX10_told_272 (fun x74 r74 => ?_)
    have b74 := (cn_R _ _ _ _ h900 r74) _ _ m9
    exact ret _ _ _ _ x74 _ hG ⟨rfl, trivial⟩ dX10_told_275
  · refine lv_tableIn (tgt := 276) (off := 275) X.1 X.2.1 dX10_told_1 (by omega) (by omega) (by rw [c1]; rfl) (by decide) ?_
    refine lv_aload_n X.1 X.2.1 dX10_told_276 rfl (lv_at hl 0 rfl) ?_
    refine gf_10_13 X hG h900 q_889 dX10_told_277 (fun x75 r75 => ?_)
    have b75 := (cn_R _ _ _ _ h900 r75) _ _ m13
    exact ret _ _ _ _ x75 _ hG ⟨rfl, trivial⟩ dX10_told_280
  · refine lv_tableIn (tgt := 281) (off := 280) X.1 X.2.1 dX10_told_1 (by omega) (by omega) (by rw [c1]; rfl) (by decide) ?_
    refine lv_aload_n X.1 X.2.1 dX10_told_281 rfl (lv_at hl 0 rfl) ?_
    refine gf_10_2 X hG h900 q_878 dX10_told_282 (fun x76 r76 => ?_)
    have g76 := cI_rng x76
    exact ret _ _ _ _ x76 _ hG ⟨rfl, trivial⟩ dX10_told_285
  · refine lv_tableOut (tgt := 286) X.1 X.2.1 dX10_told_1 c1 (by decide) ?_
    refine n_ldc X q_960 (n := -1000000002) (by decide +kernel) dX10_told_286 (fun x77 t77 => ?_)
    exact ret _ _ _ _ x77 _ hG ⟨rfl, trivial⟩ dX10_told_288
set_option maxHeartbeats 4000000 in
set_option maxRecDepth 100000 in
theorem c_X10_gate (l : Launch) (D : va_G) (cy : Nat → ClassId) (τ : ty_T) (M : md_T) (hU : UQ τ) {P N : Nat} (hB : HB M P N) (hL0 : LV M P 0) (hT : HT M) {a900 : Nat} (h900 : τ a900 = some (0, 10)) (x901 : Int32) (x902 : Int32) : KI l D cy yX10_gate cX10_gate 3 .int (rL 6) τ (cn M τ) [.ref a900, .int x901, .int x902] (fun r u => u = (cn M τ) ∧ True) := by
  refine k_metI "EdgeEchoesModel" rfl (by decide +kernel) (Nat.le_of_ble_eq_true rfl) (fun _ _ _ => rfl) ?_
  intro p e s m args below meth c Q ls X hG hl ret
  have hl : lv_has ls 3 [(0, .ref a900), (1, .int x901), (2, .int x902)] := hl
  obtain ⟨⟨⟨n9, m9, n9p⟩, ⟨n13, m13, n13p⟩, ⟨n3, m3, n3p⟩, m8⟩, ⟨mN, mP, ⟨gG, mG, lG⟩, mL, mF⟩, mO, ⟨mK, mS, mQ, mZ⟩, hN72, hP8, hNP⟩ := id hB
  have g901 := cI_rng x901
  have g902 := cI_rng x902
  refine lv_aload_n X.1 X.2.1 dX10_gate_0 rfl (lv_at hl 0 rfl) ?_
  refine lv_iload_n X.1 X.2.1 dX10_gate_1 rfl (lv_at hl 1 rfl) ?_
  refine k_cVi X hG (c_X10_isGate l D cy τ _ cn_N cn_R (cn_F (S := [])) h900 x901 hB) h900 rfl yv_X10_isGate q_1119 ⟨rfl, rfl⟩ ⟨Nat.le_of_ble_eq_true rfl, Nat.le_of_ble_eq_true rfl⟩ rfl hl.1 rfl (Nat.le_of_ble_eq_true rfl) ⟨Nat.zero_le _, Nat.zero_le _⟩ dX10_gate_2 (fun x2 u3 H locs hG po1 => ?_)
  obtain ⟨eu3, po1⟩ := po1
  rw [eu3] at hG
  refine n_if_ne (tgt := 11) X dX10_gate_5 (by decide) (fun c4 => ?_) (fun c4 => ?_)
  · refine lv_iload_n X.1 X.2.1 dX10_gate_11 rfl (lv_at hl 2 rfl) ?_
    have J52 : ∀ (H : Heap) (locs : List Loc) (ls : Array Slot), (0 ≤ x902.toInt ∧ x902.toInt ≤ 2) → TG D cy τ (cn M τ) (ty_d τ) s.heap H locs → lv_has ls 3 [(0, .ref a900), (1, .int x901), (2, .int x902)] → W p l e (rL 6) s m args below meth c H locs 0 0 Q (F0 m 52 ls []) := by
      intro H locs ls kx902_52 hG hl
      refine lv_aload_n X.1 X.2.1 dX10_gate_52 rfl (lv_at hl 0 rfl) ?_
      refine gf_10_0 X hG h900 q_876 dX10_gate_53 (cn_N _ _ _ h900) (fun a5 h5 r5 => ?_)
      refine n_sp X dX10_gate_56 (by decide) (by decide) (fun x6 t6 => ?_)
      refine n_ic X dX10_gate_59 (by decide) (by decide) (fun x7 t7 => ?_)
      refine lv_iload_n X.1 X.2.1 dX10_gate_60 rfl (lv_at hl 1 rfl) ?_
      refine n_mul X dX10_gate_61 (by rw [t7]; omega) (by rw [t7]; omega) (fun x8 t8 => ?_)
      rw [t7] at t8
      refine n_add X dX10_gate_62 (by omega) (by omega) (fun x9 t9 => ?_)
      refine lv_iload_n X.1 X.2.1 dX10_gate_63 rfl (lv_at hl 2 rfl) ?_
      refine n_add X dX10_gate_64 (by omega) (by omega) (fun x10 t10 => ?_)
      refine tg_iald X hG h5 rfl (cI_in (n := 4261) (by omega)) dX10_gate_65 (fun x11 r11 => ?_)
      exact ret _ _ _ _ x11 _ hG ⟨rfl, trivial⟩ dX10_gate_66
    rcases (show x902.toInt = 0 ∨ x902.toInt = 1 ∨ x902.toInt = 2 ∨ x902.toInt = 3 ∨ x902.toInt = 4 ∨ x902.toInt = 5 ∨ (x902.toInt < 0 ∨ 5 < x902.toInt) by omega) with c12 | c12 | c12 | c12 | c12 | c12 | c12
    · refine lv_tableIn (tgt := 52) (off := 40) X.1 X.2.1 dX10_gate_12 (by omega) (by omega) (by rw [c12]; rfl) (by decide) ?_
      exact J52 _ _ _ (by omega) hG (lv_sub hl [0, 1, 2] rfl)
    · refine lv_tableIn (tgt := 52) (off := 40) X.1 X.2.1 dX10_gate_12 (by omega) (by omega) (by rw [c12]; rfl) (by decide) ?_
      exact J52 _ _ _ (by omega) hG (lv_sub hl [0, 1, 2] rfl)
    · refine lv_tableIn (tgt := 52) (off := 40) X.1 X.2.1 dX10_gate_12 (by omega) (by omega) (by rw [c12]; rfl) (by decide) ?_
      exact J52 _ _ _ (by omega) hG (lv_sub hl [0, 1, 2] rfl)
    · refine lv_tableIn (tgt := 67) (off := 55) X.1 X.2.1 dX10_gate_12 (by omega) (by omega) (by rw [c12]; rfl) (by decide) ?_
      refine lv_aload_n X.1 X.2.1 dX10_gate_67 rfl (lv_at hl 0 rfl) ?_
      refine gf_10_0 X hG h900 q_876 dX10_gate_68 (cn_N _ _ _ h900) (fun a13 h13 r13 => ?_)
      refine n_sp X dX10_gate_71 (by decide) (by decide) (fun x14 t14 => ?_)
      refine lv_iload_n X.1 X.2.1 dX10_gate_74 rfl (lv_at hl 1 rfl) ?_
      refine n_add X dX10_gate_75 (by omega) (by omega) (fun x15 t15 => ?_)
      refine tg_iald X hG h13 rfl (cI_in (n := 4261) (by omega)) dX10_gate_76 (fun x16 r16 => ?_)
      exact ret _ _ _ _ x16 _ hG ⟨rfl, trivial⟩ dX10_gate_77
    · refine lv_tableIn (tgt := 78) (off := 66) X.1 X.2.1 dX10_gate_12 (by omega) (by omega) (by rw [c12]; rfl) (by decide) ?_
      refine lv_aload_n X.1 X.2.1 dX10_gate_78 rfl (lv_at hl 0 rfl) ?_
      refine gf_10_0 X hG h900 q_876 dX10_gate_79 (cn_N _ _ _ h900) (fun a17 h17 r17 => ?_)
      refine n_sp X dX10_gate_82 (by decide) (by decide) (fun x18 t18 => ?_)
      refine lv_iload_n X.1 X.2.1 dX10_gate_85 rfl (lv_at hl 1 rfl) ?_
      refine n_add X dX10_gate_86 (by omega) (by omega) (fun x19 t19 => ?_)
      refine tg_iald X hG h17 rfl (cI_in (n := 4261) (by omega)) dX10_gate_87 (fun x20 r20 => ?_)
      exact ret _ _ _ _ x20 _ hG ⟨rfl, trivial⟩ dX10_gate_88
    · refine lv_tableIn (tgt := 89) (off := 77) X.1 X.2.1 dX10_gate_12 (by omega) (by omega) (by rw [c12]; rfl) (by decide) ?_
      refine lv_aload_n X.1 X.2.1 dX10_gate_89 rfl (lv_at hl 0 rfl) ?_
      refine lv_iload_n X.1 X.2.1 dX10_gate_90 rfl (lv_at hl 1 rfl) ?_
      refine k_cVi X hG (c_X10_firstOne l D cy τ M hU hB hL0 hT h900 x901 (by omega) ) h900 rfl yv_X10_firstOne q_1123 ⟨rfl, rfl⟩ ⟨Nat.le_of_ble_eq_true rfl, Nat.le_of_ble_eq_true rfl⟩ rfl hl.1 rfl (Nat.le_of_ble_eq_true rfl) ⟨Nat.zero_le _, Nat.zero_le _⟩ dX10_gate_91 (fun x22 u23 H locs hG po21 => ?_)
      obtain ⟨eu23, po21⟩ := po21
      rw [eu23] at hG
      have g22 := cI_rng x22
      exact ret _ _ _ _ x22 _ hG ⟨rfl, trivial⟩ dX10_gate_94
    · refine lv_tableOut (tgt := 95) X.1 X.2.1 dX10_gate_12 c12 (by decide) ?_
      refine n_ldc X q_960 (n := -1000000002) (by decide +kernel) dX10_gate_95 (fun x24 t24 => ?_)
      exact ret _ _ _ _ x24 _ hG ⟨rfl, trivial⟩ dX10_gate_97
  · refine n_ldc X q_1099 (n := -1000000001) (by decide +kernel) dX10_gate_8 (fun x25 t25 => ?_)
    exact ret _ _ _ _ x25 _ hG ⟨rfl, trivial⟩ dX10_gate_10
set_option maxHeartbeats 4000000 in
set_option maxRecDepth 100000 in
theorem c_X10_volts (l : Launch) (D : va_G) (cy : Nat → ClassId) (τ : ty_T) (M : md_T) (hU : UQ τ) {P N : Nat} (hB : HB M P N) (hL0 : LV M P 0) (hT : HT M) {a900 : Nat} (h900 : τ a900 = some (0, 10)) (x901 : Int32) (x902 : Int32) (x903 : Int32) : KI l D cy yX10_volts cX10_volts 8 .int (rL 5) τ (cn M τ) [.ref a900, .int x901, .int x902, .int x903] (fun r u => u = (cn M τ) ∧ True) := by
  refine k_metI "EdgeEchoesModel" rfl (by decide +kernel) (Nat.le_of_ble_eq_true rfl) (fun _ _ _ => rfl) ?_
  intro p e s m args below meth c Q ls X hG hl ret
  have hl : lv_has ls 8 [(0, .ref a900), (1, .int x901), (2, .int x902), (3, .int x903)] := hl
  obtain ⟨⟨⟨n9, m9, n9p⟩, ⟨n13, m13, n13p⟩, ⟨n3, m3, n3p⟩, m8⟩, ⟨mN, mP, ⟨gG, mG, lG⟩, mL, mF⟩, mO, ⟨mK, mS, mQ, mZ⟩, hN72, hP8, hNP⟩ := id hB
  have g901 := cI_rng x901
  have g902 := cI_rng x902
  have g903 := cI_rng x903
  refine lv_iload_n X.1 X.2.1 dX10_volts_0 rfl (lv_at hl 1 rfl) ?_
  refine n_i2l X dX10_volts_1 (fun w1 t1 => ?_)
  refine n_lc X dX10_volts_2 (fun w2 t2 => ?_)
  have t2 : w2.toInt = 0 := t2
  refine n_ldl X q_1105 (n := 71) (by decide +kernel) dX10_volts_3 (fun w3 e3 t3 => ?_)
  refine k_cSi X hG (c_X10_in l D cy τ _ cn_N cn_R (cn_F (S := [])) w1 w2 w3 ) ys_X10_in q_957 ⟨rfl, rfl⟩ ⟨Nat.le_of_ble_eq_true rfl, Nat.le_of_ble_eq_true rfl⟩ rfl hl.1 rfl (Nat.le_of_ble_eq_true rfl) ⟨Nat.zero_le _, Nat.zero_le _⟩ dX10_volts_6 (fun x5 u6 H locs hG po4 => ?_)
  obtain ⟨eu6, po4⟩ := po4
  rw [eu6] at hG
  refine n_if_eq (tgt := 36) X dX10_volts_9 (by decide) (fun c7 => ?_) (fun c7 => ?_)
  · refine n_ldc X q_960 (n := -1000000002) (by decide +kernel) dX10_volts_36 (fun x8 t8 => ?_)
    exact ret _ _ _ _ x8 _ hG ⟨rfl, trivial⟩ dX10_volts_38
  · refine lv_iload_n X.1 X.2.1 dX10_volts_12 rfl (lv_at hl 2 rfl) ?_
    refine n_i2l X dX10_volts_13 (fun w9 t9 => ?_)
    refine n_lc X dX10_volts_14 (fun w10 t10 => ?_)
    have t10 : w10.toInt = 0 := t10
    refine n_ldl X q_1208 (n := 200) (by decide +kernel) dX10_volts_15 (fun w11 e11 t11 => ?_)
    refine k_cSi X hG (c_X10_in l D cy τ _ cn_N cn_R (cn_F (S := [])) w9 w10 w11 ) ys_X10_in q_957 ⟨rfl, rfl⟩ ⟨Nat.le_of_ble_eq_true rfl, Nat.le_of_ble_eq_true rfl⟩ rfl hl.1 rfl (Nat.le_of_ble_eq_true rfl) ⟨Nat.zero_le _, Nat.zero_le _⟩ dX10_volts_18 (fun x13 u14 H locs hG po12 => ?_)
    obtain ⟨eu14, po12⟩ := po12
    rw [eu14] at hG
    refine n_if_eq (tgt := 36) X dX10_volts_21 (by decide) (fun c15 => ?_) (fun c15 => ?_)
    · refine n_ldc X q_960 (n := -1000000002) (by decide +kernel) dX10_volts_36 (fun x16 t16 => ?_)
      exact ret _ _ _ _ x16 _ hG ⟨rfl, trivial⟩ dX10_volts_38
    · refine lv_iload_n X.1 X.2.1 dX10_volts_24 rfl (lv_at hl 3 rfl) ?_
      refine n_i2l X dX10_volts_25 (fun w17 t17 => ?_)
      refine n_lc X dX10_volts_26 (fun w18 t18 => ?_)
      have t18 : w18.toInt = 0 := t18
      refine n_ldl X q_1100 (n := 2) (by decide +kernel) dX10_volts_27 (fun w19 e19 t19 => ?_)
      refine k_cSi X hG (c_X10_in l D cy τ _ cn_N cn_R (cn_F (S := [])) w17 w18 w19 ) ys_X10_in q_957 ⟨rfl, rfl⟩ ⟨Nat.le_of_ble_eq_true rfl, Nat.le_of_ble_eq_true rfl⟩ rfl hl.1 rfl (Nat.le_of_ble_eq_true rfl) ⟨Nat.zero_le _, Nat.zero_le _⟩ dX10_volts_30 (fun x21 u22 H locs hG po20 => ?_)
      obtain ⟨eu22, po20⟩ := po20
      rw [eu22] at hG
      refine n_if_ne (tgt := 39) X dX10_volts_33 (by decide) (fun c23 => ?_) (fun c23 => ?_)
      · refine lv_aload_n X.1 X.2.1 dX10_volts_39 rfl (lv_at hl 0 rfl) ?_
        refine n_ic X dX10_volts_40 (by decide) (by decide) (fun x24 t24 => ?_)
        refine n_sp X dX10_volts_41 (by decide) (by decide) (fun x25 t25 => ?_)
        refine n_sp X dX10_volts_44 (by decide) (by decide) (fun x26 t26 => ?_)
        refine k_cVv X hG (c_X10_copyRow l D cy τ _ hU h900 x24 x25 x26 0 3736 247 (by omega) (by omega) (by omega) (by omega) (by omega) (by omega)) h900 rfl yv_X10_copyRow q_1012 ⟨rfl, rfl⟩ ⟨Nat.le_of_ble_eq_true rfl, Nat.le_of_ble_eq_true rfl⟩ rfl hl.1 rfl (Nat.le_of_ble_eq_true rfl) ⟨Nat.zero_le _, Nat.zero_le _⟩ dX10_volts_47 (fun u29 H locs hG po27 => ?_)
        rw [po27] at hG
        have hG := TG.sub hG MT_c
        obtain ⟨⟨⟨n9, m9, n9p⟩, ⟨n13, m13, n13p⟩, ⟨n3, m3, n3p⟩, m8⟩, ⟨mN, mP, ⟨gG, mG, lG⟩, mL, mF⟩, mO, ⟨mK, mS, mQ, mZ⟩, hN72, hP8, hNP⟩ := id (HB.cp hB)
        refine lv_aload_n X.1 X.2.1 dX10_volts_50 rfl (lv_at hl 0 rfl) ?_
        refine n_sp X dX10_volts_51 (by decide) (by decide) (fun x30 t30 => ?_)
        refine lv_iload_n X.1 X.2.1 dX10_volts_54 rfl (lv_at hl 1 rfl) ?_
        refine k_cVi X hG (c_X10_voltsOf l D cy τ _ cn_N cn_R (cn_F (S := [])) h900 x30 (by omega) x901 (HB.cp hB) (b := 3736) (by omega) (Or.inr rfl)) h900 rfl yv_X10_voltsOf q_1075 ⟨rfl, rfl⟩ ⟨Nat.le_of_ble_eq_true rfl, Nat.le_of_ble_eq_true rfl⟩ rfl hl.1 rfl (Nat.le_of_ble_eq_true rfl) ⟨Nat.zero_le _, Nat.zero_le _⟩ dX10_volts_55 (fun x32 u33 H locs hG po31 => ?_)
        obtain ⟨eu33, po31⟩ := po31
        rw [eu33] at hG
        have g32 := cI_rng x32
        refine lv_istore (lv' := [(4, .int x32), (0, .ref a900), (1, .int x901), (2, .int x902), (3, .int x903)]) X.1 X.2.1 dX10_volts_58 hl (by decide) rfl (fun ls hl => ?_)
        refine lv_iload X.1 X.2.1 dX10_volts_60 (lv_at hl 0 rfl) ?_
        refine lv_istore (lv' := [(5, .int x32), (4, .int x32), (0, .ref a900), (1, .int x901), (2, .int x902), (3, .int x903)]) X.1 X.2.1 dX10_volts_62 hl (by decide) rfl (fun ls hl => ?_)
        refine lv_iload X.1 X.2.1 dX10_volts_64 (lv_at hl 1 rfl) ?_
        refine lv_istore (lv' := [(6, .int x32), (5, .int x32), (4, .int x32), (0, .ref a900), (1, .int x901), (2, .int x902), (3, .int x903)]) X.1 X.2.1 dX10_volts_66 hl (by decide) rfl (fun ls hl => ?_)
        refine n_ic X dX10_volts_68 (by decide) (by decide) (fun x34 t34 => ?_)
        refine lv_istore (lv' := [(7, .int x34), (6, .int x32), (5, .int x32), (4, .int x32), (0, .ref a900), (1, .int x901), (2, .int x902), (3, .int x903)]) X.1 X.2.1 dX10_volts_69 hl (by decide) rfl (fun ls hl => ?_)
        have J71 : ∀ (n : Nat) (H : Heap) (locs : List Loc) (ls : Array Slot) (x35 : Int32) (x36 : Int32) (x37 : Int32) (x38 : Int32), (0 ≤ x38.toInt ∧ x38.toInt ≤ 200) → (200 - x38.toInt).toNat < n → TG D cy τ (cn (MT M) τ) (ty_d τ) s.heap H locs → lv_has ls 8 [(0, .ref a900), (1, .int x901), (2, .int x902), (3, .int x903), (4, .int x35), (5, .int x36), (6, .int x37), (7, .int x38)] → W p l e (rL 5) s m args below meth c H locs 0 0 Q (F0 m 71 ls []) := by
          intro n
          induction n with
          | zero => intro H locs ls x35 x36 x37 x38 bx38 hm71 hG hl; exact absurd hm71 (Nat.not_lt_zero _)
          | succ n ih71 =>
            intro H locs ls x35 x36 x37 x38 bx38 hm71 hG hl
            have gx35 := cI_rng x35
            have gx36 := cI_rng x36
            have gx37 := cI_rng x37
            refine lv_iload X.1 X.2.1 dX10_volts_71 (lv_at hl 7 rfl) ?_
            refine lv_iload_n X.1 X.2.1 dX10_volts_73 rfl (lv_at hl 2 rfl) ?_
            refine n_icmp_ge (tgt := 133) X dX10_volts_74 (by decide) (fun c39 => ?_) (fun c39 => ?_)
            · refine n_ldc X q_1106 (n := 1000000) (by decide +kernel) dX10_volts_133 (fun x40 t40 => ?_)
              refine lv_iload_n X.1 X.2.1 dX10_volts_135 rfl (lv_at hl 3 rfl) ?_
              refine n_if_ne (tgt := 144) X dX10_volts_136 (by decide) (fun c41 => ?_) (fun c41 => ?_)
              · refine lv_iload_n X.1 X.2.1 dX10_volts_144 rfl (lv_at hl 3 rfl) ?_
                refine n_ic X dX10_volts_145 (by decide) (by decide) (fun x42 t42 => ?_)
                refine n_icmp_ne (tgt := 154) X dX10_volts_146 (by decide) (fun c43 => ?_) (fun c43 => ?_)
                · refine lv_iload X.1 X.2.1 dX10_volts_154 (lv_at hl 6 rfl) ?_
                  refine lv_iadd X.1 X.2.1 dX10_volts_156 ?_
                  refine n_any (fun x44 => ?_)
                  exact ret _ _ _ _ x44 _ (TG.sub hG (MT_back hT)) ⟨rfl, trivial⟩ dX10_volts_157
                · refine lv_iload X.1 X.2.1 dX10_volts_149 (lv_at hl 5 rfl) ?_
                  refine lv_goto (tgt := 156) X.1 X.2.1 dX10_volts_151 (by decide) ?_
                  refine lv_iadd X.1 X.2.1 dX10_volts_156 ?_
                  refine n_any (fun x45 => ?_)
                  exact ret _ _ _ _ x45 _ (TG.sub hG (MT_back hT)) ⟨rfl, trivial⟩ dX10_volts_157
              · refine lv_iload X.1 X.2.1 dX10_volts_139 (lv_at hl 4 rfl) ?_
                refine lv_goto (tgt := 156) X.1 X.2.1 dX10_volts_141 (by decide) ?_
                refine lv_iadd X.1 X.2.1 dX10_volts_156 ?_
                refine n_any (fun x46 => ?_)
                exact ret _ _ _ _ x46 _ (TG.sub hG (MT_back hT)) ⟨rfl, trivial⟩ dX10_volts_157
            · refine lv_aload_n X.1 X.2.1 dX10_volts_77 rfl (lv_at hl 0 rfl) ?_
              refine n_sp X dX10_volts_78 (by decide) (by decide) (fun x47 t47 => ?_)
              refine n_ic X dX10_volts_81 (by decide) (by decide) (fun x48 t48 => ?_)
              refine k_cVv X hG (c_X10_ticks l D cy τ _ cn_N cn_R (cn_F (S := [6010, 6031, 6032])) h900 x47 (by omega) x48 (HB.cp hB) (b := 3736) (by omega) rfl (LV.cpT hL0 hB)) h900 rfl yv_X10_ticks q_1046 ⟨rfl, rfl⟩ ⟨Nat.le_of_ble_eq_true rfl, Nat.le_of_ble_eq_true rfl⟩ rfl hl.1 rfl (Nat.le_of_ble_eq_true rfl) ⟨Nat.zero_le _, Nat.zero_le _⟩ dX10_volts_82 (fun u51 H locs hG po49 => ?_)
              rw [po49] at hG
              refine lv_aload_n X.1 X.2.1 dX10_volts_85 rfl (lv_at hl 0 rfl) ?_
              refine n_sp X dX10_volts_86 (by decide) (by decide) (fun x52 t52 => ?_)
              refine lv_iload_n X.1 X.2.1 dX10_volts_89 rfl (lv_at hl 1 rfl) ?_
              refine k_cVi X hG (c_X10_voltsOf l D cy τ _ cn_N cn_R (cn_F (S := [])) h900 x52 (by omega) x901 (HB.cp hB) (b := 3736) (by omega) (Or.inr rfl)) h900 rfl yv_X10_voltsOf q_1075 ⟨rfl, rfl⟩ ⟨Nat.le_of_ble_eq_true rfl, Nat.le_of_ble_eq_true rfl⟩ rfl hl.1 rfl (Nat.le_of_ble_eq_true rfl) ⟨Nat.zero_le _, Nat.zero_le _⟩ dX10_volts_90 (fun x54 u55 H locs hG po53 => ?_)
              obtain ⟨eu55, po53⟩ := po53
              rw [eu55] at hG
              have g54 := cI_rng x54
              refine lv_istore (lv' := [(4, .int x54), (0, .ref a900), (1, .int x901), (2, .int x902), (3, .int x903), (5, .int x36), (6, .int x37), (7, .int x38)]) X.1 X.2.1 dX10_volts_93 hl (by decide) rfl (fun ls hl => ?_)
              refine lv_iload X.1 X.2.1 dX10_volts_95 (lv_at hl 0 rfl) ?_
              refine lv_iload X.1 X.2.1 dX10_volts_97 (lv_at hl 5 rfl) ?_
              have J109 : ∀ (H : Heap) (locs : List Loc) (ls : Array Slot) (x56 : Int32), TG D cy τ (cn (MT M) τ) (ty_d τ) s.heap H locs → lv_has ls 8 [(0, .ref a900), (1, .int x901), (2, .int x902), (3, .int x903), (4, .int x54), (5, .int x36), (6, .int x37), (7, .int x38)] → W p l e (rL 5) s m args below meth c H locs 0 0 Q (F0 m 109 ls [.int x56]) := by
                intro H locs ls x56 hG hl
                have gx56 := cI_rng x56
                refine lv_istore (lv' := [(5, .int x56), (0, .ref a900), (1, .int x901), (2, .int x902), (3, .int x903), (4, .int x54), (6, .int x37), (7, .int x38)]) X.1 X.2.1 dX10_volts_109 hl (by decide) rfl (fun ls hl => ?_)
                refine lv_iload X.1 X.2.1 dX10_volts_111 (lv_at hl 5 rfl) ?_
                refine lv_iload X.1 X.2.1 dX10_volts_113 (lv_at hl 6 rfl) ?_
                have J125 : ∀ (H : Heap) (locs : List Loc) (ls : Array Slot) (x57 : Int32), TG D cy τ (cn (MT M) τ) (ty_d τ) s.heap H locs → lv_has ls 8 [(0, .ref a900), (1, .int x901), (2, .int x902), (3, .int x903), (4, .int x54), (5, .int x56), (6, .int x37), (7, .int x38)] → W p l e (rL 5) s m args below meth c H locs 0 0 Q (F0 m 125 ls [.int x57]) := by
                  intro H locs ls x57 hG hl
                  have gx57 := cI_rng x57
                  refine lv_istore (lv' := [(6, .int x57), (0, .ref a900), (1, .int x901), (2, .int x902), (3, .int x903), (4, .int x54), (5, .int x56), (7, .int x38)]) X.1 X.2.1 dX10_volts_125 hl (by decide) rfl (fun ls hl => ?_)
                  refine n_inc X (fun z59 => [(7, .int z59), (6, .int x57), (0, .ref a900), (1, .int x901), (2, .int x902), (3, .int x903), (4, .int x54), (5, .int x56)]) dX10_volts_127 hl (k := 7) rfl (by decide) (by decide) (by omega) (by omega) (by decide) (fun _ => rfl) (fun x58 ls t58 hl => ?_)
                  have hl : lv_has ls 8 [(7, .int x58), (6, .int x57), (0, .ref a900), (1, .int x901), (2, .int x902), (3, .int x903), (4, .int x54), (5, .int x56)] := hl
                  refine lv_goto (tgt := 71) X.1 X.2.1 dX10_volts_130 (by decide) ?_
                  exact ih71 _ _ _ x54 x56 x57 x58 (by omega) (by omega) hG (lv_sub hl [2, 3, 4, 5, 6, 7, 1, 0] rfl)
                refine n_icmp_ge (tgt := 123) X dX10_volts_115 (by decide) (fun c60 => ?_) (fun c60 => ?_)
                · refine lv_iload X.1 X.2.1 dX10_volts_123 (lv_at hl 6 rfl) ?_
                  exact J125 _ _ _ x37 hG (lv_sub hl [1, 2, 3, 4, 5, 0, 6, 7] rfl)
                · refine lv_iload X.1 X.2.1 dX10_volts_118 (lv_at hl 5 rfl) ?_
                  refine lv_goto (tgt := 125) X.1 X.2.1 dX10_volts_120 (by decide) ?_
                  exact J125 _ _ _ x54 hG (lv_sub hl [1, 2, 3, 4, 5, 0, 6, 7] rfl)
              refine n_icmp_le (tgt := 107) X dX10_volts_99 (by decide) (fun c61 => ?_) (fun c61 => ?_)
              · refine lv_iload X.1 X.2.1 dX10_volts_107 (lv_at hl 5 rfl) ?_
                exact J109 _ _ _ x36 hG (lv_sub hl [1, 2, 3, 4, 0, 5, 6, 7] rfl)
              · refine lv_iload X.1 X.2.1 dX10_volts_102 (lv_at hl 0 rfl) ?_
                refine lv_goto (tgt := 109) X.1 X.2.1 dX10_volts_104 (by decide) ?_
                exact J109 _ _ _ x54 hG (lv_sub hl [1, 2, 3, 4, 0, 5, 6, 7] rfl)
        exact J71 _ _ _ _ x32 x32 x32 x34 (by omega) (Nat.lt_succ_self _) hG (lv_sub hl [4, 5, 6, 7, 3, 2, 1, 0] rfl)
      · refine n_ldc X q_960 (n := -1000000002) (by decide +kernel) dX10_volts_36 (fun x62 t62 => ?_)
        exact ret _ _ _ _ x62 _ hG ⟨rfl, trivial⟩ dX10_volts_38
set_option maxHeartbeats 4000000 in
set_option maxRecDepth 100000 in
theorem c_X10_rest (l : Launch) (D : va_G) (cy : Nat → ClassId) (τ : ty_T) (M : md_T) (hU : UQ τ) {P N : Nat} (hB : HB M P N) (hL0 : LV M P 0) (hT : HT M) {a900 : Nat} (h900 : τ a900 = some (0, 10)) (x901 : Int32) : KI l D cy yX10_rest cX10_rest 3 .int (rL 5) τ (cn M τ) [.ref a900, .int x901] (fun r u => u = (cn M τ) ∧ True) := by
  refine k_metI "EdgeEchoesModel" rfl (by decide +kernel) (Nat.le_of_ble_eq_true rfl) (fun _ _ _ => rfl) ?_
  intro p e s m args below meth c Q ls X hG hl ret
  have hl : lv_has ls 3 [(0, .ref a900), (1, .int x901)] := hl
  obtain ⟨⟨⟨n9, m9, n9p⟩, ⟨n13, m13, n13p⟩, ⟨n3, m3, n3p⟩, m8⟩, ⟨mN, mP, ⟨gG, mG, lG⟩, mL, mF⟩, mO, ⟨mK, mS, mQ, mZ⟩, hN72, hP8, hNP⟩ := id hB
  have g901 := cI_rng x901
  refine lv_iload_n X.1 X.2.1 dX10_rest_0 rfl (lv_at hl 1 rfl) ?_
  refine n_i2l X dX10_rest_1 (fun w1 t1 => ?_)
  refine n_lc X dX10_rest_2 (fun w2 t2 => ?_)
  have t2 : w2.toInt = 0 := t2
  refine n_ldl X q_1105 (n := 71) (by decide +kernel) dX10_rest_3 (fun w3 e3 t3 => ?_)
  refine k_cSi X hG (c_X10_in l D cy τ _ cn_N cn_R (cn_F (S := [])) w1 w2 w3 ) ys_X10_in q_957 ⟨rfl, rfl⟩ ⟨Nat.le_of_ble_eq_true rfl, Nat.le_of_ble_eq_true rfl⟩ rfl hl.1 rfl (Nat.le_of_ble_eq_true rfl) ⟨Nat.zero_le _, Nat.zero_le _⟩ dX10_rest_6 (fun x5 u6 H locs hG po4 => ?_)
  obtain ⟨eu6, po4⟩ := po4
  rw [eu6] at hG
  refine n_if_ne (tgt := 15) X dX10_rest_9 (by decide) (fun c7 => ?_) (fun c7 => ?_)
  · refine lv_aload_n X.1 X.2.1 dX10_rest_15 rfl (lv_at hl 0 rfl) ?_
    refine n_ic X dX10_rest_16 (by decide) (by decide) (fun x8 t8 => ?_)
    refine n_sp X dX10_rest_17 (by decide) (by decide) (fun x9 t9 => ?_)
    refine n_sp X dX10_rest_20 (by decide) (by decide) (fun x10 t10 => ?_)
    refine k_cVv X hG (c_X10_copyRow l D cy τ _ hU h900 x8 x9 x10 0 3736 247 (by omega) (by omega) (by omega) (by omega) (by omega) (by omega)) h900 rfl yv_X10_copyRow q_1012 ⟨rfl, rfl⟩ ⟨Nat.le_of_ble_eq_true rfl, Nat.le_of_ble_eq_true rfl⟩ rfl hl.1 rfl (Nat.le_of_ble_eq_true rfl) ⟨Nat.zero_le _, Nat.zero_le _⟩ dX10_rest_23 (fun u13 H locs hG po11 => ?_)
    rw [po11] at hG
    have hG := TG.sub hG MT_c
    obtain ⟨⟨⟨n9, m9, n9p⟩, ⟨n13, m13, n13p⟩, ⟨n3, m3, n3p⟩, m8⟩, ⟨mN, mP, ⟨gG, mG, lG⟩, mL, mF⟩, mO, ⟨mK, mS, mQ, mZ⟩, hN72, hP8, hNP⟩ := id (HB.cp hB)
    refine n_ic X dX10_rest_26 (by decide) (by decide) (fun x14 t14 => ?_)
    refine lv_istore_n (lv' := [(2, .int x14), (0, .ref a900), (1, .int x901)]) X.1 X.2.1 dX10_rest_27 rfl hl (by decide) rfl (fun ls hl => ?_)
    have J28 : ∀ (n : Nat) (H : Heap) (locs : List Loc) (ls : Array Slot) (x15 : Int32), (0 ≤ x15.toInt ∧ x15.toInt ≤ 201) → (201 - x15.toInt).toNat < n → TG D cy τ (cn (MT M) τ) (ty_d τ) s.heap H locs → lv_has ls 3 [(0, .ref a900), (1, .int x901), (2, .int x15)] → W p l e (rL 5) s m args below meth c H locs 0 0 Q (F0 m 28 ls []) := by
      intro n
      induction n with
      | zero => intro H locs ls x15 bx15 hm28 hG hl; exact absurd hm28 (Nat.not_lt_zero _)
      | succ n ih28 =>
        intro H locs ls x15 bx15 hm28 hG hl
        refine lv_iload_n X.1 X.2.1 dX10_rest_28 rfl (lv_at hl 2 rfl) ?_
        refine n_sp X dX10_rest_29 (by decide) (by decide) (fun x16 t16 => ?_)
        refine n_icmp_ge (tgt := 63) X dX10_rest_32 (by decide) (fun c17 => ?_) (fun c17 => ?_)
        · refine n_sp X dX10_rest_63 (by decide) (by decide) (fun x18 t18 => ?_)
          refine lv_istore_n (lv' := [(2, .int x18), (0, .ref a900), (1, .int x901)]) X.1 X.2.1 dX10_rest_66 rfl hl (by decide) rfl (fun ls hl => ?_)
          have J67 : ∀ (n : Nat) (H : Heap) (locs : List Loc) (ls : Array Slot) (x19 : Int32), (0 ≤ x19.toInt ∧ x19.toInt ≤ 200) → (x19.toInt - 0).toNat < n → TG D cy τ (cn (MT M) τ) (ty_d τ) s.heap H locs → lv_has ls 3 [(0, .ref a900), (1, .int x901), (2, .int x19)] → W p l e (rL 5) s m args below meth c H locs 0 0 Q (F0 m 67 ls []) := by
            intro n
            induction n with
            | zero => intro H locs ls x19 bx19 hm67 hG hl; exact absurd hm67 (Nat.not_lt_zero _)
            | succ n ih67 =>
              intro H locs ls x19 bx19 hm67 hG hl
              refine lv_iload_n X.1 X.2.1 dX10_rest_67 rfl (lv_at hl 2 rfl) ?_
              refine n_if_le (tgt := 107) X dX10_rest_68 (by decide) (fun c20 => ?_) (fun c20 => ?_)
              · refine lv_iload_n X.1 X.2.1 dX10_rest_107 rfl (lv_at hl 2 rfl) ?_
                exact ret _ _ _ _ x19 _ (TG.sub hG (MT_back hT)) ⟨rfl, trivial⟩ dX10_rest_108
              · refine lv_aload_n X.1 X.2.1 dX10_rest_71 rfl (lv_at hl 0 rfl) ?_
                refine gf_10_23 X hG h900 q_899 dX10_rest_72 (cn_N _ _ _ h900) (fun a21 h21 r21 => ?_)
                refine lv_iload_n X.1 X.2.1 dX10_rest_75 rfl (lv_at hl 2 rfl) ?_
                refine n_ic X dX10_rest_76 (by decide) (by decide) (fun x22 t22 => ?_)
                refine n_sub X dX10_rest_77 (by omega) (by omega) (fun x23 t23 => ?_)
                refine tg_iald X hG h21 rfl (cI_in (n := 201) (by omega)) dX10_rest_78 (fun x24 r24 => ?_)
                refine lv_aload_n X.1 X.2.1 dX10_rest_79 rfl (lv_at hl 0 rfl) ?_
                refine gf_10_23 X hG h900 q_899 dX10_rest_80 (cn_N _ _ _ h900) (fun a25 h25 r25 => ?_)
                refine n_sp X dX10_rest_83 (by decide) (by decide) (fun x26 t26 => ?_)
                refine tg_iald X hG h25 rfl (cI_in (n := 201) (by omega)) dX10_rest_86 (fun x27 r27 => ?_)
                refine lv_isub X.1 X.2.1 dX10_rest_87 ?_
                refine n_any (fun x28 => ?_)
                refine n_i2l X dX10_rest_88 (fun w29 t29 => ?_)
                refine n_ldl X q_1213 (n := -20) (by decide +kernel) dX10_rest_89 (fun w30 e30 t30 => ?_)
                refine n_ldl X q_1214 (n := 20) (by decide +kernel) dX10_rest_92 (fun w31 e31 t31 => ?_)
                refine k_cSi X hG (c_X10_in l D cy τ _ cn_N cn_R (cn_F (S := [])) w29 w30 w31 ) ys_X10_in q_957 ⟨rfl, rfl⟩ ⟨Nat.le_of_ble_eq_true rfl, Nat.le_of_ble_eq_true rfl⟩ rfl hl.1 rfl (Nat.le_of_ble_eq_true rfl) ⟨Nat.zero_le _, Nat.zero_le _⟩ dX10_rest_95 (fun x33 u34 H locs hG po32 => ?_)
                obtain ⟨eu34, po32⟩ := po32
                rw [eu34] at hG
                refine n_if_eq (tgt := 107) X dX10_rest_98 (by decide) (fun c35 => ?_) (fun c35 => ?_)
                · refine lv_iload_n X.1 X.2.1 dX10_rest_107 rfl (lv_at hl 2 rfl) ?_
                  exact ret _ _ _ _ x19 _ (TG.sub hG (MT_back hT)) ⟨rfl, trivial⟩ dX10_rest_108
                · refine n_inc X (fun z37 => [(2, .int z37), (0, .ref a900), (1, .int x901)]) dX10_rest_101 hl (k := 2) rfl (by decide) (by decide) (by omega) (by omega) (by decide) (fun _ => rfl) (fun x36 ls t36 hl => ?_)
                  have hl : lv_has ls 3 [(2, .int x36), (0, .ref a900), (1, .int x901)] := hl
                  refine lv_goto (tgt := 67) X.1 X.2.1 dX10_rest_104 (by decide) ?_
                  exact ih67 _ _ _ x36 (by omega) (by omega) hG (lv_sub hl [1, 2, 0] rfl)
          exact J67 _ _ _ _ x18 (by omega) (Nat.lt_succ_self _) hG (lv_sub hl [1, 2, 0] rfl)
        · refine lv_aload_n X.1 X.2.1 dX10_rest_35 rfl (lv_at hl 0 rfl) ?_
          refine gf_10_23 X hG h900 q_899 dX10_rest_36 (cn_N _ _ _ h900) (fun a38 h38 r38 => ?_)
          refine lv_iload_n X.1 X.2.1 dX10_rest_39 rfl (lv_at hl 2 rfl) ?_
          refine lv_aload_n X.1 X.2.1 dX10_rest_40 rfl (lv_at hl 0 rfl) ?_
          refine n_sp X dX10_rest_41 (by decide) (by decide) (fun x39 t39 => ?_)
          refine lv_iload_n X.1 X.2.1 dX10_rest_44 rfl (lv_at hl 1 rfl) ?_
          refine k_cVi X hG (c_X10_voltsOf l D cy τ _ cn_N cn_R (cn_F (S := [])) h900 x39 (by omega) x901 (HB.cp hB) (b := 3736) (by omega) (Or.inr rfl)) h900 rfl yv_X10_voltsOf q_1075 ⟨rfl, rfl⟩ ⟨Nat.le_of_ble_eq_true rfl, Nat.le_of_ble_eq_true rfl⟩ rfl hl.1 rfl (Nat.le_of_ble_eq_true rfl) ⟨Nat.zero_le _, Nat.zero_le _⟩ dX10_rest_45 (fun x41 u42 H locs hG po40 => ?_)
          obtain ⟨eu42, po40⟩ := po40
          rw [eu42] at hG
          have g41 := cI_rng x41
          refine tg_iasf X hG h38 rfl (cI_in (n := 201) (by omega)) dX10_rest_48 (cn_F (S := [6033]) _ _ _ _ h38 (ty_in (n := 6033) rfl) (ty_rno (mZ 33 (by decide) _))) (fun H locs hG => ?_)
          refine lv_aload_n X.1 X.2.1 dX10_rest_49 rfl (lv_at hl 0 rfl) ?_
          refine n_sp X dX10_rest_50 (by decide) (by decide) (fun x43 t43 => ?_)
          refine n_ic X dX10_rest_53 (by decide) (by decide) (fun x44 t44 => ?_)
          refine k_cVv X hG (c_X10_ticks l D cy τ _ cn_N cn_R (cn_F (S := [6010, 6031, 6032])) h900 x43 (by omega) x44 (HB.cp hB) (b := 3736) (by omega) rfl (LV.cpT hL0 hB)) h900 rfl yv_X10_ticks q_1046 ⟨rfl, rfl⟩ ⟨Nat.le_of_ble_eq_true rfl, Nat.le_of_ble_eq_true rfl⟩ rfl hl.1 rfl (Nat.le_of_ble_eq_true rfl) ⟨Nat.zero_le _, Nat.zero_le _⟩ dX10_rest_54 (fun u47 H locs hG po45 => ?_)
          rw [po45] at hG
          refine n_inc X (fun z49 => [(2, .int z49), (0, .ref a900), (1, .int x901)]) dX10_rest_57 hl (k := 2) rfl (by decide) (by decide) (by omega) (by omega) (by decide) (fun _ => rfl) (fun x48 ls t48 hl => ?_)
          have hl : lv_has ls 3 [(2, .int x48), (0, .ref a900), (1, .int x901)] := hl
          refine lv_goto (tgt := 28) X.1 X.2.1 dX10_rest_60 (by decide) ?_
          exact ih28 _ _ _ x48 (by omega) (by omega) hG (lv_sub hl [1, 2, 0] rfl)
    exact J28 _ _ _ _ x14 (by omega) (Nat.lt_succ_self _) hG (lv_sub hl [1, 2, 0] rfl)
  · refine n_ldc X q_960 (n := -1000000002) (by decide +kernel) dX10_rest_12 (fun x50 t50 => ?_)
    exact ret _ _ _ _ x50 _ hG ⟨rfl, trivial⟩ dX10_rest_14
set_option maxHeartbeats 4000000 in
set_option maxRecDepth 100000 in
theorem c_X10_sees (l : Launch) (D : va_G) (cy : Nat → ClassId) (τ : ty_T) (M : md_T) (hU : UQ τ) {P N : Nat} (hB : HB M P N) (hL0 : LV M P 0) (hT : HT M) {a900 : Nat} (h900 : τ a900 = some (0, 10)) (x901 : Int32) (x902 : Int32) (x903 : Int32) : KI l D cy yX10_sees cX10_sees 4 .int (rL 5) τ (cn M τ) [.ref a900, .int x901, .int x902, .int x903] (fun r u => u = (cn M τ) ∧ True) := by
  refine k_metI "EdgeEchoesModel" rfl (by decide +kernel) (Nat.le_of_ble_eq_true rfl) (fun _ _ _ => rfl) ?_
  intro p e s m args below meth c Q ls X hG hl ret
  have hl : lv_has ls 4 [(0, .ref a900), (1, .int x901), (2, .int x902), (3, .int x903)] := hl
  obtain ⟨⟨⟨n9, m9, n9p⟩, ⟨n13, m13, n13p⟩, ⟨n3, m3, n3p⟩, m8⟩, ⟨mN, mP, ⟨gG, mG, lG⟩, mL, mF⟩, mO, ⟨mK, mS, mQ, mZ⟩, hN72, hP8, hNP⟩ := id hB
  have g901 := cI_rng x901
  have g902 := cI_rng x902
  have g903 := cI_rng x903
  refine lv_aload_n X.1 X.2.1 dX10_sees_0 rfl (lv_at hl 0 rfl) ?_
  refine lv_iload_n X.1 X.2.1 dX10_sees_1 rfl (lv_at hl 1 rfl) ?_
  refine k_cVi X hG (c_X10_isGate l D cy τ _ cn_N cn_R (cn_F (S := [])) h900 x901 hB) h900 rfl yv_X10_isGate q_1119 ⟨rfl, rfl⟩ ⟨Nat.le_of_ble_eq_true rfl, Nat.le_of_ble_eq_true rfl⟩ rfl hl.1 rfl (Nat.le_of_ble_eq_true rfl) ⟨Nat.zero_le _, Nat.zero_le _⟩ dX10_sees_2 (fun x2 u3 H locs hG po1 => ?_)
  obtain ⟨eu3, po1⟩ := po1
  rw [eu3] at hG
  refine n_if_ne (tgt := 11) X dX10_sees_5 (by decide) (fun c4 => ?_) (fun c4 => ?_)
  · refine lv_iload_n X.1 X.2.1 dX10_sees_11 rfl (lv_at hl 2 rfl) ?_
    refine n_i2l X dX10_sees_12 (fun w5 t5 => ?_)
    refine n_lc X dX10_sees_13 (fun w6 t6 => ?_)
    have t6 : w6.toInt = 0 := t6
    refine n_ldl X q_1208 (n := 200) (by decide +kernel) dX10_sees_14 (fun w7 e7 t7 => ?_)
    refine k_cSi X hG (c_X10_in l D cy τ _ cn_N cn_R (cn_F (S := [])) w5 w6 w7 ) ys_X10_in q_957 ⟨rfl, rfl⟩ ⟨Nat.le_of_ble_eq_true rfl, Nat.le_of_ble_eq_true rfl⟩ rfl hl.1 rfl (Nat.le_of_ble_eq_true rfl) ⟨Nat.zero_le _, Nat.zero_le _⟩ dX10_sees_17 (fun x9 u10 H locs hG po8 => ?_)
    obtain ⟨eu10, po8⟩ := po8
    rw [eu10] at hG
    refine n_if_eq (tgt := 33) X dX10_sees_20 (by decide) (fun c11 => ?_) (fun c11 => ?_)
    · refine n_ldc X q_960 (n := -1000000002) (by decide +kernel) dX10_sees_33 (fun x12 t12 => ?_)
      exact ret _ _ _ _ x12 _ hG ⟨rfl, trivial⟩ dX10_sees_35
    · refine lv_iload_n X.1 X.2.1 dX10_sees_23 rfl (lv_at hl 3 rfl) ?_
      refine n_i2l X dX10_sees_24 (fun w13 t13 => ?_)
      refine n_lc X dX10_sees_25 (fun w14 t14 => ?_)
      have t14 : w14.toInt = 0 := t14
      refine n_lc X dX10_sees_26 (fun w15 t15 => ?_)
      have t15 : w15.toInt = 1 := t15
      refine k_cSi X hG (c_X10_in l D cy τ _ cn_N cn_R (cn_F (S := [])) w13 w14 w15 ) ys_X10_in q_957 ⟨rfl, rfl⟩ ⟨Nat.le_of_ble_eq_true rfl, Nat.le_of_ble_eq_true rfl⟩ rfl hl.1 rfl (Nat.le_of_ble_eq_true rfl) ⟨Nat.zero_le _, Nat.zero_le _⟩ dX10_sees_27 (fun x17 u18 H locs hG po16 => ?_)
      obtain ⟨eu18, po16⟩ := po16
      rw [eu18] at hG
      refine n_if_ne (tgt := 36) X dX10_sees_30 (by decide) (fun c19 => ?_) (fun c19 => ?_)
      · refine lv_aload_n X.1 X.2.1 dX10_sees_36 rfl (lv_at hl 0 rfl) ?_
        refine n_ic X dX10_sees_37 (by decide) (by decide) (fun x20 t20 => ?_)
        refine n_sp X dX10_sees_38 (by decide) (by decide) (fun x21 t21 => ?_)
        refine n_sp X dX10_sees_41 (by decide) (by decide) (fun x22 t22 => ?_)
        refine k_cVv X hG (c_X10_copyRow l D cy τ _ hU h900 x20 x21 x22 0 3736 247 (by omega) (by omega) (by omega) (by omega) (by omega) (by omega)) h900 rfl yv_X10_copyRow q_1012 ⟨rfl, rfl⟩ ⟨Nat.le_of_ble_eq_true rfl, Nat.le_of_ble_eq_true rfl⟩ rfl hl.1 rfl (Nat.le_of_ble_eq_true rfl) ⟨Nat.zero_le _, Nat.zero_le _⟩ dX10_sees_44 (fun u25 H locs hG po23 => ?_)
        rw [po23] at hG
        have hG := TG.sub hG MT_c
        obtain ⟨⟨⟨n9, m9, n9p⟩, ⟨n13, m13, n13p⟩, ⟨n3, m3, n3p⟩, m8⟩, ⟨mN, mP, ⟨gG, mG, lG⟩, mL, mF⟩, mO, ⟨mK, mS, mQ, mZ⟩, hN72, hP8, hNP⟩ := id (HB.cp hB)
        refine lv_aload_n X.1 X.2.1 dX10_sees_47 rfl (lv_at hl 0 rfl) ?_
        refine n_sp X dX10_sees_48 (by decide) (by decide) (fun x26 t26 => ?_)
        refine lv_iload_n X.1 X.2.1 dX10_sees_51 rfl (lv_at hl 2 rfl) ?_
        refine k_cVv X hG (c_X10_ticks l D cy τ _ cn_N cn_R (cn_F (S := [6010, 6031, 6032])) h900 x26 (by omega) x902 (HB.cp hB) (b := 3736) (by omega) rfl (LV.cpT hL0 hB)) h900 rfl yv_X10_ticks q_1046 ⟨rfl, rfl⟩ ⟨Nat.le_of_ble_eq_true rfl, Nat.le_of_ble_eq_true rfl⟩ rfl hl.1 rfl (Nat.le_of_ble_eq_true rfl) ⟨Nat.zero_le _, Nat.zero_le _⟩ dX10_sees_52 (fun u29 H locs hG po27 => ?_)
        rw [po27] at hG
        refine lv_iload_n X.1 X.2.1 dX10_sees_55 rfl (lv_at hl 3 rfl) ?_
        refine n_if_ne (tgt := 72) X dX10_sees_56 (by decide) (fun c30 => ?_) (fun c30 => ?_)
        · refine lv_aload_n X.1 X.2.1 dX10_sees_72 rfl (lv_at hl 0 rfl) ?_
          refine gf_10_0 X hG h900 q_876 dX10_sees_73 (cn_N _ _ _ h900) (fun a31 h31 r31 => ?_)
          refine n_sp X dX10_sees_76 (by decide) (by decide) (fun x32 t32 => ?_)
          refine lv_iload_n X.1 X.2.1 dX10_sees_79 rfl (lv_at hl 1 rfl) ?_
          refine n_add X dX10_sees_80 (by omega) (by omega) (fun x33 t33 => ?_)
          refine tg_iald X hG h31 rfl (cI_in (n := 4261) (by omega)) dX10_sees_81 (fun x34 r34 => ?_)
          refine lv_aload_n X.1 X.2.1 dX10_sees_82 rfl (lv_at hl 0 rfl) ?_
          refine gf_10_0 X hG h900 q_876 dX10_sees_83 (cn_N _ _ _ h900) (fun a35 h35 r35 => ?_)
          refine n_sp X dX10_sees_86 (by decide) (by decide) (fun x36 t36 => ?_)
          refine lv_iload_n X.1 X.2.1 dX10_sees_89 rfl (lv_at hl 1 rfl) ?_
          refine n_add X dX10_sees_90 (by omega) (by omega) (fun x37 t37 => ?_)
          refine tg_iald X hG h35 rfl (cI_in (n := 4261) (by omega)) dX10_sees_91 (fun x38 r38 => ?_)
          refine lv_isub X.1 X.2.1 dX10_sees_92 ?_
          refine n_any (fun x39 => ?_)
          exact ret _ _ _ _ x39 _ (TG.sub hG (MT_back hT)) ⟨rfl, trivial⟩ dX10_sees_93
        · refine lv_aload_n X.1 X.2.1 dX10_sees_59 rfl (lv_at hl 0 rfl) ?_
          refine gf_10_0 X hG h900 q_876 dX10_sees_60 (cn_N _ _ _ h900) (fun a40 h40 r40 => ?_)
          refine n_sp X dX10_sees_63 (by decide) (by decide) (fun x41 t41 => ?_)
          refine lv_iload_n X.1 X.2.1 dX10_sees_66 rfl (lv_at hl 1 rfl) ?_
          refine n_add X dX10_sees_67 (by omega) (by omega) (fun x42 t42 => ?_)
          refine tg_iald X hG h40 rfl (cI_in (n := 4261) (by omega)) dX10_sees_68 (fun x43 r43 => ?_)
          refine lv_goto (tgt := 93) X.1 X.2.1 dX10_sees_69 (by decide) ?_
          exact ret _ _ _ _ x43 _ (TG.sub hG (MT_back hT)) ⟨rfl, trivial⟩ dX10_sees_93
      · refine n_ldc X q_960 (n := -1000000002) (by decide +kernel) dX10_sees_33 (fun x44 t44 => ?_)
        exact ret _ _ _ _ x44 _ hG ⟨rfl, trivial⟩ dX10_sees_35
  · refine n_ldc X q_1099 (n := -1000000001) (by decide +kernel) dX10_sees_8 (fun x45 t45 => ?_)
    exact ret _ _ _ _ x45 _ hG ⟨rfl, trivial⟩ dX10_sees_10
set_option maxHeartbeats 4000000 in
set_option maxRecDepth 100000 in
theorem c_X10_laysFault (l : Launch) (D : va_G) (cy : Nat → ClassId) (τ : ty_T) (M : md_T) (hU : UQ τ) {P N : Nat} (hB : HB M P N) (hL0 : LV M P 0)  {a900 : Nat} (h900 : τ a900 = some (0, 10)) (x901 : Int32) (zx901 : 2 ≤ x901.toInt ∧ x901.toInt ≤ 143) : KI l D cy yX10_laysFault cX10_laysFault 3 .boolean (rL 3) τ (cn M τ) [.ref a900, .int x901] (fun r u => ((r.toInt ≠ 0 → u = cn (MT M) τ) ∧ (r.toInt = 0 → u = cn M τ)) ∧ (r.toInt = 0 ∨ r.toInt = 1)) := by
  refine k_metI "EdgeEchoesModel" rfl (by decide +kernel) (Nat.le_of_ble_eq_true rfl) (fun r u h => (cI_nar (cI_01 h.2)).1) ?_
  intro p e s m args below meth c Q ls X hG hl ret
  have hl : lv_has ls 3 [(0, .ref a900), (1, .int x901)] := hl
  obtain ⟨⟨⟨n9, m9, n9p⟩, ⟨n13, m13, n13p⟩, ⟨n3, m3, n3p⟩, m8⟩, ⟨mN, mP, ⟨gG, mG, lG⟩, mL, mF⟩, mO, ⟨mK, mS, mQ, mZ⟩, hN72, hP8, hNP⟩ := id hB
  refine lv_iload_n X.1 X.2.1 dX10_laysFault_0 rfl (lv_at hl 1 rfl) ?_
  refine n_ic X dX10_laysFault_1 (by decide) (by decide) (fun x1 t1 => ?_)
  refine n_div X dX10_laysFault_2 (by omega) (by omega) (fun x2 t2 => ?_)
  rw [t1] at t2
  refine lv_istore_n (lv' := [(2, .int x2), (0, .ref a900), (1, .int x901)]) X.1 X.2.1 dX10_laysFault_3 rfl hl (by decide) rfl (fun ls hl => ?_)
  refine lv_aload_n X.1 X.2.1 dX10_laysFault_4 rfl (lv_at hl 1 rfl) ?_
  refine lv_iload_n X.1 X.2.1 dX10_laysFault_5 rfl (lv_at hl 0 rfl) ?_
  refine k_cVi X hG (c_X10_isPlace l D cy τ _ cn_N cn_R (cn_F (S := [])) h900 x2 hB) h900 rfl yv_X10_isPlace q_1111 ⟨rfl, rfl⟩ ⟨Nat.le_of_ble_eq_true rfl, Nat.le_of_ble_eq_true rfl⟩ rfl hl.1 rfl (Nat.le_of_ble_eq_true rfl) ⟨Nat.zero_le _, Nat.zero_le _⟩ dX10_laysFault_6 (fun x4 u5 H locs hG po3 => ?_)
  obtain ⟨eu5, po3⟩ := po3
  rw [eu5] at hG
  refine n_if_eq (tgt := 25) X dX10_laysFault_9 (by decide) (fun c6 => ?_) (fun c6 => ?_)
  · refine n_ic X dX10_laysFault_25 (by decide) (by decide) (fun x7 t7 => ?_)
    exact ret _ _ _ _ x7 _ hG ⟨⟨(fun h => absurd (show x7.toInt = 0 by omega) h), fun _ => rfl⟩, by omega⟩ dX10_laysFault_26
  · refine lv_aload_n X.1 X.2.1 dX10_laysFault_12 rfl (lv_at hl 1 rfl) ?_
    refine gf_10_0 X hG h900 q_876 dX10_laysFault_13 (cn_N _ _ _ h900) (fun a8 h8 r8 => ?_)
    refine n_sp X dX10_laysFault_16 (by decide) (by decide) (fun x9 t9 => ?_)
    refine lv_iload_n X.1 X.2.1 dX10_laysFault_19 rfl (lv_at hl 0 rfl) ?_
    refine n_add X dX10_laysFault_20 (by omega) (by omega) (fun x10 t10 => ?_)
    refine tg_iald X hG h8 rfl (cI_in (n := 4261) (by omega)) dX10_laysFault_21 (fun x11 r11 => ?_)
    refine n_if_eq (tgt := 27) X dX10_laysFault_22 (by decide) (fun c12 => ?_) (fun c12 => ?_)
    · refine lv_aload_n X.1 X.2.1 dX10_laysFault_27 rfl (lv_at hl 1 rfl) ?_
      refine k_cVv X hG (c_X10_layQuiet l D cy τ M hU hB hL0  h900 ) h900 rfl yv_X10_layQuiet q_1036 ⟨rfl, rfl⟩ ⟨Nat.le_of_ble_eq_true rfl, Nat.le_of_ble_eq_true rfl⟩ rfl hl.1 rfl (Nat.le_of_ble_eq_true rfl) ⟨Nat.zero_le _, Nat.zero_le _⟩ dX10_laysFault_28 (fun u15 H locs hG po13 => ?_)
      rw [po13] at hG
      obtain ⟨⟨⟨n9, m9, n9p⟩, ⟨n13, m13, n13p⟩, ⟨n3, m3, n3p⟩, m8⟩, ⟨mN, mP, ⟨gG, mG, lG⟩, mL, mF⟩, mO, ⟨mK, mS, mQ, mZ⟩, hN72, hP8, hNP⟩ := id (HB.cp hB)
      refine lv_aload_n X.1 X.2.1 dX10_laysFault_31 rfl (lv_at hl 1 rfl) ?_
      refine gf_10_0 X hG h900 q_876 dX10_laysFault_32 (cn_N _ _ _ h900) (fun a16 h16 r16 => ?_)
      refine n_sp X dX10_laysFault_35 (by decide) (by decide) (fun x17 t17 => ?_)
      refine lv_iload_n X.1 X.2.1 dX10_laysFault_38 rfl (lv_at hl 0 rfl) ?_
      refine n_add X dX10_laysFault_39 (by omega) (by omega) (fun x18 t18 => ?_)
      refine lv_iload_n X.1 X.2.1 dX10_laysFault_40 rfl (lv_at hl 2 rfl) ?_
      refine n_ic X dX10_laysFault_41 (by decide) (by decide) (fun x19 t19 => ?_)
      refine n_rem X dX10_laysFault_42 (by omega) (by omega) (fun x20 t20 => ?_)
      refine n_if_ne (tgt := 50) X dX10_laysFault_43 (by decide) (fun c21 => ?_) (fun c21 => ?_)
      · refine n_ic X dX10_laysFault_50 (by decide) (by decide) (fun x22 t22 => ?_)
        refine tg_iasf X hG h16 rfl (cI_in (n := 4261) (by omega)) dX10_laysFault_51 (cn_F (S := [6010]) _ _ _ _ h16 (ty_in (n := 6010) rfl) (ty_rno (wFr (HB.cp hB) (by omega)))) (fun H locs hG => ?_)
        refine n_ic X dX10_laysFault_52 (by decide) (by decide) (fun x23 t23 => ?_)
        rcases (show x23.toInt = 0 ∨ x23.toInt ≠ 0 by omega) with cr | cr
        · exact ret _ _ _ _ x23 _ (TG.sub hG (MT_back (by exact absurd cr (by omega)))) ⟨⟨(fun h => absurd cr h), fun _ => rfl⟩, by omega⟩ dX10_laysFault_53
        · exact ret _ _ _ _ x23 _ hG ⟨⟨(fun _ => rfl), fun h => absurd h cr⟩, by omega⟩ dX10_laysFault_53
      · refine n_ic X dX10_laysFault_46 (by decide) (by decide) (fun x24 t24 => ?_)
        refine lv_goto (tgt := 51) X.1 X.2.1 dX10_laysFault_47 (by decide) ?_
        refine tg_iasf X hG h16 rfl (cI_in (n := 4261) (by omega)) dX10_laysFault_51 (cn_F (S := [6010]) _ _ _ _ h16 (ty_in (n := 6010) rfl) (ty_rno (wFr (HB.cp hB) (by omega)))) (fun H locs hG => ?_)
        refine n_ic X dX10_laysFault_52 (by decide) (by decide) (fun x25 t25 => ?_)
        rcases (show x25.toInt = 0 ∨ x25.toInt ≠ 0 by omega) with cr | cr
        · exact ret _ _ _ _ x25 _ (TG.sub hG (MT_back (by exact absurd cr (by omega)))) ⟨⟨(fun h => absurd cr h), fun _ => rfl⟩, by omega⟩ dX10_laysFault_53
        · exact ret _ _ _ _ x25 _ hG ⟨⟨(fun _ => rfl), fun h => absurd h cr⟩, by omega⟩ dX10_laysFault_53
    · refine n_ic X dX10_laysFault_25 (by decide) (by decide) (fun x26 t26 => ?_)
      exact ret _ _ _ _ x26 _ hG ⟨⟨(fun h => absurd (show x26.toInt = 0 by omega) h), fun _ => rfl⟩, by omega⟩ dX10_laysFault_26
set_option maxHeartbeats 4000000 in
set_option maxRecDepth 100000 in
theorem c_X10_isSo (l : Launch) (D : va_G) (cy : Nat → ClassId) (τ : ty_T) (ρ : ty_R) {M : md_T} (hN : ty_N τ ρ) (hR : ty_Rg M τ ρ) (hF : ty_Wf M τ ρ []) {a900 : Nat} (h900 : τ a900 = some (0, 10)) (x901 : Int32) {P N : Nat} (hB : HB M P N) : KI l D cy yX10_isSo cX10_isSo 5 .boolean (rL 3) τ ρ [.ref a900, .int x901] (fun r u => u = ρ ∧ (r.toInt = 0 ∨ r.toInt = 1)) := by
  refine k_metI "EdgeEchoesModel" rfl (by decide +kernel) (Nat.le_of_ble_eq_true rfl) (fun r u h => (cI_nar (cI_01 h.2)).1) ?_
  intro p e s m args below meth c Q ls X hG hl ret
  have hl : lv_has ls 5 [(0, .ref a900), (1, .int x901)] := hl
  obtain ⟨⟨⟨n9, m9, n9p⟩, ⟨n13, m13, n13p⟩, ⟨n3, m3, n3p⟩, m8⟩, ⟨mN, mP, ⟨gG, mG, lG⟩, mL, mF⟩, mO, ⟨mK, mS, mQ, mZ⟩, hN72, hP8, hNP⟩ := id hB
  have g901 := cI_rng x901
  refine n_ic X dX10_isSo_0 (by decide) (by decide) (fun x1 t1 => ?_)
  refine lv_istore_n (lv' := [(2, .int x1), (0, .ref a900), (1, .int x901)]) X.1 X.2.1 dX10_isSo_1 rfl hl (by decide) rfl (fun ls hl => ?_)
  refine lv_aload_n X.1 X.2.1 dX10_isSo_2 rfl (lv_at hl 1 rfl) ?_
  refine n_sp X dX10_isSo_3 (by decide) (by decide) (fun x2 t2 => ?_)
  refine n_ic X dX10_isSo_6 (by decide) (by decide) (fun x3 t3 => ?_)
  refine k_cVi X hG (c_X10_voltsOf l D cy τ _ hN hR (ty_Wf.sub (S' := []) hF (by decide)) h900 x2 (by omega) x3 hB (b := 3736) (by omega) (Or.inr rfl)) h900 rfl yv_X10_voltsOf q_1075 ⟨rfl, rfl⟩ ⟨Nat.le_of_ble_eq_true rfl, Nat.le_of_ble_eq_true rfl⟩ rfl hl.1 rfl (Nat.le_of_ble_eq_true rfl) ⟨Nat.zero_le _, Nat.zero_le _⟩ dX10_isSo_7 (fun x5 u6 H locs hG po4 => ?_)
  obtain ⟨eu6, po4⟩ := po4
  rw [eu6] at hG
  have g5 := cI_rng x5
  refine lv_istore_n (lv' := [(3, .int x5), (2, .int x1), (0, .ref a900), (1, .int x901)]) X.1 X.2.1 dX10_isSo_10 rfl hl (by decide) rfl (fun ls hl => ?_)
  refine n_ic X dX10_isSo_11 (by decide) (by decide) (fun x7 t7 => ?_)
  refine lv_istore (lv' := [(4, .int x7), (3, .int x5), (2, .int x1), (0, .ref a900), (1, .int x901)]) X.1 X.2.1 dX10_isSo_12 hl (by decide) rfl (fun ls hl => ?_)
  have J14 : ∀ (n : Nat) (H : Heap) (locs : List Loc) (ls : Array Slot) (x8 : Int32) (x9 : Int32), (0 ≤ x8.toInt ∧ x8.toInt ≤ 1) → (0 ≤ x9.toInt ∧ x9.toInt ≤ 6) → (6 - x9.toInt).toNat < n → TG D cy τ ρ (ty_d τ) s.heap H locs → lv_has ls 5 [(0, .ref a900), (1, .int x901), (2, .int x8), (3, .int x5), (4, .int x9)] → W p l e (rL 3) s m args below meth c H locs 0 0 Q (F0 m 14 ls []) := by
    intro n
    induction n with
    | zero => intro H locs ls x8 x9 bx8 bx9 hm14 hG hl; exact absurd hm14 (Nat.not_lt_zero _)
    | succ n ih14 =>
      intro H locs ls x8 x9 bx8 bx9 hm14 hG hl
      refine lv_iload X.1 X.2.1 dX10_isSo_14 (lv_at hl 4 rfl) ?_
      refine lv_aload_n X.1 X.2.1 dX10_isSo_16 rfl (lv_at hl 0 rfl) ?_
      refine gf_10_9 X hG h900 q_885 dX10_isSo_17 (fun x10 r10 => ?_)
      have b10 := (hR _ _ _ _ h900 r10) _ _ m9
      refine n_icmp_ge (tgt := 76) X dX10_isSo_20 (by decide) (fun c11 => ?_) (fun c11 => ?_)
      · refine lv_iload_n X.1 X.2.1 dX10_isSo_76 rfl (lv_at hl 2 rfl) ?_
        exact ret _ _ _ _ x8 _ hG ⟨rfl, by omega⟩ dX10_isSo_77
      · refine lv_iload_n X.1 X.2.1 dX10_isSo_23 rfl (lv_at hl 2 rfl) ?_
        have J69 : ∀ (H : Heap) (locs : List Loc) (ls : Array Slot) (x12 : Int32), (0 ≤ x12.toInt ∧ x12.toInt ≤ 1) → TG D cy τ ρ (ty_d τ) s.heap H locs → lv_has ls 5 [(0, .ref a900), (1, .int x901), (2, .int x8), (3, .int x5), (4, .int x9)] → W p l e (rL 3) s m args below meth c H locs 0 0 Q (F0 m 69 ls [.int x12]) := by
          intro H locs ls x12 bx12 hG hl
          refine lv_istore_n (lv' := [(2, .int x12), (0, .ref a900), (1, .int x901), (3, .int x5), (4, .int x9)]) X.1 X.2.1 dX10_isSo_69 rfl hl (by decide) rfl (fun ls hl => ?_)
          refine n_inc X (fun z14 => [(4, .int z14), (2, .int x12), (0, .ref a900), (1, .int x901), (3, .int x5)]) dX10_isSo_70 hl (k := 4) rfl (by decide) (by decide) (by omega) (by omega) (by decide) (fun _ => rfl) (fun x13 ls t13 hl => ?_)
          have hl : lv_has ls 5 [(4, .int x13), (2, .int x12), (0, .ref a900), (1, .int x901), (3, .int x5)] := hl
          refine lv_goto (tgt := 14) X.1 X.2.1 dX10_isSo_73 (by decide) ?_
          exact ih14 _ _ _ x12 x13 (by omega) (by omega) (by omega) hG (lv_sub hl [2, 3, 1, 4, 0] rfl)
        have J68 : ∀ (H : Heap) (locs : List Loc) (ls : Array Slot), TG D cy τ ρ (ty_d τ) s.heap H locs → lv_has ls 5 [(0, .ref a900), (1, .int x901), (2, .int x8), (3, .int x5), (4, .int x9)] → W p l e (rL 3) s m args below meth c H locs 0 0 Q (F0 m 68 ls []) := by
          intro H locs ls hG hl
          refine n_ic X dX10_isSo_68 (by decide) (by decide) (fun x15 t15 => ?_)
          exact J69 _ _ _ x15 (by omega) hG (lv_sub hl [0, 1, 2, 3, 4] rfl)
        refine n_if_eq (tgt := 68) X dX10_isSo_24 (by decide) (fun c16 => ?_) (fun c16 => ?_)
        · exact J68 _ _ _  hG (lv_sub hl [0, 1, 2, 3, 4] rfl)
        · refine lv_aload_n X.1 X.2.1 dX10_isSo_27 rfl (lv_at hl 0 rfl) ?_
          refine gf_10_10 X hG h900 q_886 dX10_isSo_28 (hN _ _ _ h900) (fun a17 h17 r17 => ?_)
          refine lv_iload X.1 X.2.1 dX10_isSo_31 (lv_at hl 4 rfl) ?_
          refine tg_iald X hG h17 rfl (cI_in (n := 6) (by omega)) dX10_isSo_33 (fun x18 r18 => ?_)
          have b18 := (hR _ _ _ _ h17 r18) _ _ (mQ _)
          refine lv_iload_n X.1 X.2.1 dX10_isSo_34 rfl (lv_at hl 1 rfl) ?_
          have J64 : ∀ (H : Heap) (locs : List Loc) (ls : Array Slot), TG D cy τ ρ (ty_d τ) s.heap H locs → lv_has ls 5 [(0, .ref a900), (1, .int x901), (2, .int x8), (3, .int x5), (4, .int x9)] → W p l e (rL 3) s m args below meth c H locs 0 0 Q (F0 m 64 ls []) := by
            intro H locs ls hG hl
            refine n_ic X dX10_isSo_64 (by decide) (by decide) (fun x19 t19 => ?_)
            refine lv_goto (tgt := 69) X.1 X.2.1 dX10_isSo_65 (by decide) ?_
            exact J69 _ _ _ x19 (by omega) hG (lv_sub hl [0, 1, 2, 3, 4] rfl)
          refine n_icmp_ne (tgt := 64) X dX10_isSo_35 (by decide) (fun c20 => ?_) (fun c20 => ?_)
          · exact J64 _ _ _  hG (lv_sub hl [0, 1, 2, 3, 4] rfl)
          · refine lv_iload_n X.1 X.2.1 dX10_isSo_38 rfl (lv_at hl 3 rfl) ?_
            refine lv_aload_n X.1 X.2.1 dX10_isSo_39 rfl (lv_at hl 0 rfl) ?_
            refine gf_10_11 X hG h900 q_887 dX10_isSo_40 (hN _ _ _ h900) (fun a21 h21 r21 => ?_)
            refine lv_iload X.1 X.2.1 dX10_isSo_43 (lv_at hl 4 rfl) ?_
            refine tg_iald X hG h21 rfl (cI_in (n := 6) (by omega)) dX10_isSo_45 (fun x22 r22 => ?_)
            have J54 : ∀ (H : Heap) (locs : List Loc) (ls : Array Slot) (x23 : Int32), (0 ≤ x23.toInt ∧ x23.toInt ≤ 1) → TG D cy τ ρ (ty_d τ) s.heap H locs → lv_has ls 5 [(0, .ref a900), (1, .int x901), (2, .int x8), (3, .int x5), (4, .int x9)] → W p l e (rL 3) s m args below meth c H locs 0 0 Q (F0 m 54 ls [.int x23]) := by
              intro H locs ls x23 bx23 hG hl
              refine lv_aload_n X.1 X.2.1 dX10_isSo_54 rfl (lv_at hl 0 rfl) ?_
              refine gf_10_12 X hG h900 q_888 dX10_isSo_55 (hN _ _ _ h900) (fun a24 h24 r24 => ?_)
              refine lv_iload X.1 X.2.1 dX10_isSo_58 (lv_at hl 4 rfl) ?_
              refine tg_zald X hG h24 rfl (cI_in (n := 6) (by omega)) dX10_isSo_60 (fun x25 b25 r25 => ?_)
              have b25 := cI_10 b25
              refine n_icmp_ne (tgt := 68) X dX10_isSo_61 (by decide) (fun c26 => ?_) (fun c26 => ?_)
              · exact J68 _ _ _  hG (lv_sub hl [0, 1, 2, 3, 4] rfl)
              · exact J64 _ _ _  hG (lv_sub hl [0, 1, 2, 3, 4] rfl)
            refine n_icmp_lt (tgt := 53) X dX10_isSo_46 (by decide) (fun c27 => ?_) (fun c27 => ?_)
            · refine n_ic X dX10_isSo_53 (by decide) (by decide) (fun x28 t28 => ?_)
              exact J54 _ _ _ x28 (by omega) hG (lv_sub hl [0, 1, 2, 3, 4] rfl)
            · refine n_ic X dX10_isSo_49 (by decide) (by decide) (fun x29 t29 => ?_)
              refine lv_goto (tgt := 54) X.1 X.2.1 dX10_isSo_50 (by decide) ?_
              exact J54 _ _ _ x29 (by omega) hG (lv_sub hl [0, 1, 2, 3, 4] rfl)
  exact J14 _ _ _ _ x1 x7 (by omega) (by omega) (Nat.lt_succ_self _) hG (lv_sub hl [3, 4, 2, 1, 0] rfl)
set_option maxHeartbeats 4000000 in
set_option maxRecDepth 100000 in
theorem c_X10_couldBeIt (l : Launch) (D : va_G) (cy : Nat → ClassId) (τ : ty_T) (M : md_T) (hU : UQ τ) {P N : Nat} (hB : HB M P N) (hL0 : LV M P 0) (hT : HT M) {a900 : Nat} (h900 : τ a900 = some (0, 10)) (x901 : Int32) (zx901 : 2 ≤ x901.toInt ∧ x901.toInt ≤ 143) : KI l D cy yX10_couldBeIt cX10_couldBeIt 5 .boolean (rL 5) τ (cn M τ) [.ref a900, .int x901] (fun r u => ((r.toInt ≠ 0 → u = cn (MT M) τ) ∧ (r.toInt = 0 → u = cn M τ)) ∧ (r.toInt = 0 ∨ r.toInt = 1)) := by
  refine k_metI "EdgeEchoesModel" rfl (by decide +kernel) (Nat.le_of_ble_eq_true rfl) (fun r u h => (cI_nar (cI_01 h.2)).1) ?_
  intro p e s m args below meth c Q ls X hG hl ret
  have hl : lv_has ls 5 [(0, .ref a900), (1, .int x901)] := hl
  obtain ⟨⟨⟨n9, m9, n9p⟩, ⟨n13, m13, n13p⟩, ⟨n3, m3, n3p⟩, m8⟩, ⟨mN, mP, ⟨gG, mG, lG⟩, mL, mF⟩, mO, ⟨mK, mS, mQ, mZ⟩, hN72, hP8, hNP⟩ := id hB
  refine lv_aload_n X.1 X.2.1 dX10_couldBeIt_0 rfl (lv_at hl 0 rfl) ?_
  refine lv_iload_n X.1 X.2.1 dX10_couldBeIt_1 rfl (lv_at hl 1 rfl) ?_
  refine k_cVi X hG (c_X10_laysFault l D cy τ M hU hB hL0  h900 x901 (by omega) ) h900 rfl yv_X10_laysFault q_1240 ⟨rfl, rfl⟩ ⟨Nat.le_of_ble_eq_true rfl, Nat.le_of_ble_eq_true rfl⟩ rfl hl.1 rfl (Nat.le_of_ble_eq_true rfl) ⟨Nat.zero_le _, Nat.zero_le _⟩ dX10_couldBeIt_2 (fun x2 u3 H locs hG po1 => ?_)
  rcases (show x2.toInt = 0 ∨ x2.toInt ≠ 0 by omega) with cz | cz
  · rw [po1.1.2 cz] at hG
    refine lv_istore_n (lv' := [(2, .int x2), (0, .ref a900), (1, .int x901)]) X.1 X.2.1 dX10_couldBeIt_5 rfl hl (by decide) rfl (fun ls hl => ?_)
    refine lv_aload_n X.1 X.2.1 dX10_couldBeIt_6 rfl (lv_at hl 1 rfl) ?_
    refine k_cVi X hG (c_X10_latestSeen l D cy τ _ cn_N cn_R (cn_F (S := [])) h900 hB) h900 rfl yv_X10_latestSeen q_1244 ⟨rfl, rfl⟩ ⟨Nat.le_of_ble_eq_true rfl, Nat.le_of_ble_eq_true rfl⟩ rfl hl.1 rfl (Nat.le_of_ble_eq_true rfl) ⟨Nat.zero_le _, Nat.zero_le _⟩ dX10_couldBeIt_7 (fun x5 u6 H locs hG po4 => ?_)
    obtain ⟨eu6, po4⟩ := po4
    rw [eu6] at hG
    refine lv_istore_n (lv' := [(3, .int x5), (2, .int x2), (0, .ref a900), (1, .int x901)]) X.1 X.2.1 dX10_couldBeIt_10 rfl hl (by decide) rfl (fun ls hl => ?_)
    refine n_ic X dX10_couldBeIt_11 (by decide) (by decide) (fun x7 t7 => ?_)
    refine lv_istore (lv' := [(4, .int x7), (3, .int x5), (2, .int x2), (0, .ref a900), (1, .int x901)]) X.1 X.2.1 dX10_couldBeIt_12 hl (by decide) rfl (fun ls hl => ?_)
    refine lv_iload X.1 X.2.1 dX10_couldBeIt_14 (lv_at hl 0 rfl) ?_
    refine lv_iload_n X.1 X.2.1 dX10_couldBeIt_16 rfl (lv_at hl 1 rfl) ?_
    refine n_icmp_gt (tgt := 45) X dX10_couldBeIt_17 (by decide) (fun c8 => ?_) (fun c8 => ?_)
    · refine lv_iload_n X.1 X.2.1 dX10_couldBeIt_45 rfl (lv_at hl 2 rfl) ?_
      exact ret _ _ _ _ x2 _ hG ⟨⟨(fun h => absurd (show x2.toInt = 0 by omega) h), fun _ => rfl⟩, by omega⟩ dX10_couldBeIt_46
    · refine lv_iload_n X.1 X.2.1 dX10_couldBeIt_20 rfl (lv_at hl 2 rfl) ?_
      refine n_if_eq (tgt := 45) X dX10_couldBeIt_21 (by decide) (fun c9 => ?_) (fun c9 => ?_)
      · refine lv_iload_n X.1 X.2.1 dX10_couldBeIt_45 rfl (lv_at hl 2 rfl) ?_
        exact ret _ _ _ _ x2 _ hG ⟨⟨(fun h => absurd (show x2.toInt = 0 by omega) h), fun _ => rfl⟩, by omega⟩ dX10_couldBeIt_46
      · exact absurd c9 (by omega)
  · rw [po1.1.1 cz] at hG
    obtain ⟨⟨⟨n9, m9, n9p⟩, ⟨n13, m13, n13p⟩, ⟨n3, m3, n3p⟩, m8⟩, ⟨mN, mP, ⟨gG, mG, lG⟩, mL, mF⟩, mO, ⟨mK, mS, mQ, mZ⟩, hN72, hP8, hNP⟩ := id (HB.cp hB)
    refine lv_istore_n (lv' := [(2, .int x2), (0, .ref a900), (1, .int x901)]) X.1 X.2.1 dX10_couldBeIt_5 rfl hl (by decide) rfl (fun ls hl => ?_)
    refine lv_aload_n X.1 X.2.1 dX10_couldBeIt_6 rfl (lv_at hl 1 rfl) ?_
    refine k_cVi X hG (c_X10_latestSeen l D cy τ _ cn_N cn_R (cn_F (S := [])) h900 (HB.cp hB)) h900 rfl yv_X10_latestSeen q_1244 ⟨rfl, rfl⟩ ⟨Nat.le_of_ble_eq_true rfl, Nat.le_of_ble_eq_true rfl⟩ rfl hl.1 rfl (Nat.le_of_ble_eq_true rfl) ⟨Nat.zero_le _, Nat.zero_le _⟩ dX10_couldBeIt_7 (fun x11 u12 H locs hG po10 => ?_)
    obtain ⟨eu12, po10⟩ := po10
    rw [eu12] at hG
    refine lv_istore_n (lv' := [(3, .int x11), (2, .int x2), (0, .ref a900), (1, .int x901)]) X.1 X.2.1 dX10_couldBeIt_10 rfl hl (by decide) rfl (fun ls hl => ?_)
    refine n_ic X dX10_couldBeIt_11 (by decide) (by decide) (fun x13 t13 => ?_)
    refine lv_istore (lv' := [(4, .int x13), (3, .int x11), (2, .int x2), (0, .ref a900), (1, .int x901)]) X.1 X.2.1 dX10_couldBeIt_12 hl (by decide) rfl (fun ls hl => ?_)
    have J14 : ∀ (n : Nat) (H : Heap) (locs : List Loc) (ls : Array Slot) (x14 : Int32) (x15 : Int32), (0 ≤ x14.toInt ∧ x14.toInt ≤ 1) → (1 ≤ x15.toInt ∧ x15.toInt ≤ 151) → (151 - x15.toInt).toNat < n → TG D cy τ (cn (MT M) τ) (ty_d τ) s.heap H locs → lv_has ls 5 [(0, .ref a900), (1, .int x901), (2, .int x14), (3, .int x11), (4, .int x15)] → W p l e (rL 5) s m args below meth c H locs 0 0 Q (F0 m 14 ls []) := by
      intro n
      induction n with
      | zero => intro H locs ls x14 x15 bx14 bx15 hm14 hG hl; exact absurd hm14 (Nat.not_lt_zero _)
      | succ n ih14 =>
        intro H locs ls x14 x15 bx14 bx15 hm14 hG hl
        refine lv_iload X.1 X.2.1 dX10_couldBeIt_14 (lv_at hl 4 rfl) ?_
        refine lv_iload_n X.1 X.2.1 dX10_couldBeIt_16 rfl (lv_at hl 3 rfl) ?_
        refine n_icmp_gt (tgt := 45) X dX10_couldBeIt_17 (by decide) (fun c16 => ?_) (fun c16 => ?_)
        · refine lv_iload_n X.1 X.2.1 dX10_couldBeIt_45 rfl (lv_at hl 2 rfl) ?_
          rcases (show x14.toInt = 0 ∨ x14.toInt ≠ 0 by omega) with cr | cr
          · exact ret _ _ _ _ x14 _ (TG.sub hG (MT_back hT)) ⟨⟨(fun h => absurd cr h), fun _ => rfl⟩, by omega⟩ dX10_couldBeIt_46
          · exact ret _ _ _ _ x14 _ hG ⟨⟨(fun _ => rfl), fun h => absurd h cr⟩, by omega⟩ dX10_couldBeIt_46
        · refine lv_iload_n X.1 X.2.1 dX10_couldBeIt_20 rfl (lv_at hl 2 rfl) ?_
          refine n_if_eq (tgt := 45) X dX10_couldBeIt_21 (by decide) (fun c17 => ?_) (fun c17 => ?_)
          · refine lv_iload_n X.1 X.2.1 dX10_couldBeIt_45 rfl (lv_at hl 2 rfl) ?_
            rcases (show x14.toInt = 0 ∨ x14.toInt ≠ 0 by omega) with cr | cr
            · exact ret _ _ _ _ x14 _ (TG.sub hG (MT_back hT)) ⟨⟨(fun h => absurd cr h), fun _ => rfl⟩, by omega⟩ dX10_couldBeIt_46
            · exact ret _ _ _ _ x14 _ hG ⟨⟨(fun _ => rfl), fun h => absurd h cr⟩, by omega⟩ dX10_couldBeIt_46
          · refine lv_aload_n X.1 X.2.1 dX10_couldBeIt_24 rfl (lv_at hl 0 rfl) ?_
            refine n_sp X dX10_couldBeIt_25 (by decide) (by decide) (fun x18 t18 => ?_)
            refine n_ic X dX10_couldBeIt_28 (by decide) (by decide) (fun x19 t19 => ?_)
            refine k_cVv X hG (c_X10_ticks l D cy τ _ cn_N cn_R (cn_F (S := [6010, 6031, 6032])) h900 x18 (by omega) x19 (HB.cp hB) (b := 3736) (by omega) rfl (LV.cpT hL0 hB)) h900 rfl yv_X10_ticks q_1046 ⟨rfl, rfl⟩ ⟨Nat.le_of_ble_eq_true rfl, Nat.le_of_ble_eq_true rfl⟩ rfl hl.1 rfl (Nat.le_of_ble_eq_true rfl) ⟨Nat.zero_le _, Nat.zero_le _⟩ dX10_couldBeIt_29 (fun u22 H locs hG po20 => ?_)
            rw [po20] at hG
            refine lv_aload_n X.1 X.2.1 dX10_couldBeIt_32 rfl (lv_at hl 0 rfl) ?_
            refine lv_iload X.1 X.2.1 dX10_couldBeIt_33 (lv_at hl 4 rfl) ?_
            refine k_cVi X hG (c_X10_isSo l D cy τ _ cn_N cn_R (cn_F (S := [])) h900 x15 (HB.cp hB)) h900 rfl yv_X10_isSo q_1248 ⟨rfl, rfl⟩ ⟨Nat.le_of_ble_eq_true rfl, Nat.le_of_ble_eq_true rfl⟩ rfl hl.1 rfl (Nat.le_of_ble_eq_true rfl) ⟨Nat.zero_le _, Nat.zero_le _⟩ dX10_couldBeIt_35 (fun x24 u25 H locs hG po23 => ?_)
            obtain ⟨eu25, po23⟩ := po23
            rw [eu25] at hG
            refine lv_istore_n (lv' := [(2, .int x24), (0, .ref a900), (1, .int x901), (3, .int x11), (4, .int x15)]) X.1 X.2.1 dX10_couldBeIt_38 rfl hl (by decide) rfl (fun ls hl => ?_)
            refine n_inc X (fun z27 => [(4, .int z27), (2, .int x24), (0, .ref a900), (1, .int x901), (3, .int x11)]) dX10_couldBeIt_39 hl (k := 4) rfl (by decide) (by decide) (by omega) (by omega) (by decide) (fun _ => rfl) (fun x26 ls t26 hl => ?_)
            have hl : lv_has ls 5 [(4, .int x26), (2, .int x24), (0, .ref a900), (1, .int x901), (3, .int x11)] := hl
            refine lv_goto (tgt := 14) X.1 X.2.1 dX10_couldBeIt_42 (by decide) ?_
            exact ih14 _ _ _ x24 x26 (by omega) (by omega) (by omega) hG (lv_sub hl [2, 3, 1, 4, 0] rfl)
    exact J14 _ _ _ _ x2 x13 (by omega) (by omega) (Nat.lt_succ_self _) hG (lv_sub hl [3, 4, 2, 1, 0] rfl)
set_option maxHeartbeats 4000000 in
set_option maxRecDepth 100000 in
theorem c_X10_couldBe (l : Launch) (D : va_G) (cy : Nat → ClassId) (τ : ty_T) (M : md_T) (hU : UQ τ) {P N : Nat} (hB : HB M P N) (hL0 : LV M P 0) (hT : HT M) {a900 : Nat} (h900 : τ a900 = some (0, 10)) (x901 : Int32) : KI l D cy yX10_couldBe cX10_couldBe 6 .int (rL 6) τ (cn M τ) [.ref a900, .int x901] (fun r u => u = (cn M τ) ∧ True) := by
  refine k_metI "EdgeEchoesModel" rfl (by decide +kernel) (Nat.le_of_ble_eq_true rfl) (fun _ _ _ => rfl) ?_
  intro p e s m args below meth c Q ls X hG hl ret
  have hl : lv_has ls 6 [(0, .ref a900), (1, .int x901)] := hl
  obtain ⟨⟨⟨n9, m9, n9p⟩, ⟨n13, m13, n13p⟩, ⟨n3, m3, n3p⟩, m8⟩, ⟨mN, mP, ⟨gG, mG, lG⟩, mL, mF⟩, mO, ⟨mK, mS, mQ, mZ⟩, hN72, hP8, hNP⟩ := id hB
  have g901 := cI_rng x901
  refine lv_iload_n X.1 X.2.1 dX10_couldBe_0 rfl (lv_at hl 1 rfl) ?_
  refine n_i2l X dX10_couldBe_1 (fun w1 t1 => ?_)
  refine n_lc X dX10_couldBe_2 (fun w2 t2 => ?_)
  have t2 : w2.toInt = 0 := t2
  refine n_ldl X q_1100 (n := 2) (by decide +kernel) dX10_couldBe_3 (fun w3 e3 t3 => ?_)
  refine k_cSi X hG (c_X10_in l D cy τ _ cn_N cn_R (cn_F (S := [])) w1 w2 w3 ) ys_X10_in q_957 ⟨rfl, rfl⟩ ⟨Nat.le_of_ble_eq_true rfl, Nat.le_of_ble_eq_true rfl⟩ rfl hl.1 rfl (Nat.le_of_ble_eq_true rfl) ⟨Nat.zero_le _, Nat.zero_le _⟩ dX10_couldBe_6 (fun x5 u6 H locs hG po4 => ?_)
  obtain ⟨eu6, po4⟩ := po4
  rw [eu6] at hG
  refine n_if_ne (tgt := 15) X dX10_couldBe_9 (by decide) (fun c7 => ?_) (fun c7 => ?_)
  · refine n_ic X dX10_couldBe_15 (by decide) (by decide) (fun x8 t8 => ?_)
    refine lv_istore_n (lv' := [(2, .int x8), (0, .ref a900), (1, .int x901)]) X.1 X.2.1 dX10_couldBe_16 rfl hl (by decide) rfl (fun ls hl => ?_)
    refine n_ic X dX10_couldBe_17 (by decide) (by decide) (fun x9 t9 => ?_)
    refine lv_istore_n (lv' := [(3, .int x9), (2, .int x8), (0, .ref a900), (1, .int x901)]) X.1 X.2.1 dX10_couldBe_18 rfl hl (by decide) rfl (fun ls hl => ?_)
    refine n_ic X dX10_couldBe_19 (by decide) (by decide) (fun x10 t10 => ?_)
    refine lv_istore (lv' := [(4, .int x10), (3, .int x9), (2, .int x8), (0, .ref a900), (1, .int x901)]) X.1 X.2.1 dX10_couldBe_20 hl (by decide) rfl (fun ls hl => ?_)
    refine n_ic X dX10_couldBe_22 (by decide) (by decide) (fun x11 t11 => ?_)
    refine lv_istore (lv' := [(5, .int x11), (4, .int x10), (3, .int x9), (2, .int x8), (0, .ref a900), (1, .int x901)]) X.1 X.2.1 dX10_couldBe_23 hl (by decide) rfl (fun ls hl => ?_)
    have J25 : ∀ (n : Nat) (H : Heap) (locs : List Loc) (ls : Array Slot) (x12 : Int32) (x13 : Int32) (x14 : Int32) (x15 : Int32), (-1 ≤ x13.toInt ∧ x13.toInt ≤ 143) → (-1 ≤ x14.toInt ∧ x14.toInt ≤ 143) → (2 ≤ x15.toInt ∧ x15.toInt ≤ 144) → (150 - x15.toInt).toNat < n → TG D cy τ (cn M τ) (ty_d τ) s.heap H locs → lv_has ls 6 [(0, .ref a900), (1, .int x901), (2, .int x12), (3, .int x13), (4, .int x14), (5, .int x15)] → W p l e (rL 6) s m args below meth c H locs 0 0 Q (F0 m 25 ls []) := by
      intro n
      induction n with
      | zero => intro H locs ls x12 x13 x14 x15 bx13 bx14 bx15 hm25 hG hl; exact absurd hm25 (Nat.not_lt_zero _)
      | succ n ih25 =>
        intro H locs ls x12 x13 x14 x15 bx13 bx14 bx15 hm25 hG hl
        have gx12 := cI_rng x12
        refine lv_iload X.1 X.2.1 dX10_couldBe_25 (lv_at hl 5 rfl) ?_
        refine n_ic X dX10_couldBe_27 (by decide) (by decide) (fun x16 t16 => ?_)
        refine lv_aload_n X.1 X.2.1 dX10_couldBe_28 rfl (lv_at hl 0 rfl) ?_
        refine gf_10_0 X hG h900 q_876 dX10_couldBe_29 (cn_N _ _ _ h900) (fun a17 h17 r17 => ?_)
        refine n_sp X dX10_couldBe_32 (by decide) (by decide) (fun x18 t18 => ?_)
        refine tg_iald X hG h17 rfl (cI_in (n := 4261) (by omega)) dX10_couldBe_35 (fun x19 r19 => ?_)
        have b19 := rdR (cn_R _ _ _ _ h17 r19) (n := 258) (by omega) mN
        refine n_mul X dX10_couldBe_36 (by rw [t16]; omega) (by rw [t16]; omega) (fun x20 t20 => ?_)
        rw [t16] at t20
        refine n_icmp_ge (tgt := 74) X dX10_couldBe_37 (by decide) (fun c21 => ?_) (fun c21 => ?_)
        · refine lv_iload_n X.1 X.2.1 dX10_couldBe_74 rfl (lv_at hl 1 rfl) ?_
          refine n_if_ne (tgt := 82) X dX10_couldBe_75 (by decide) (fun c22 => ?_) (fun c22 => ?_)
          · refine lv_iload_n X.1 X.2.1 dX10_couldBe_82 rfl (lv_at hl 1 rfl) ?_
            refine n_ic X dX10_couldBe_83 (by decide) (by decide) (fun x23 t23 => ?_)
            refine n_icmp_ne (tgt := 91) X dX10_couldBe_84 (by decide) (fun c24 => ?_) (fun c24 => ?_)
            · refine lv_iload X.1 X.2.1 dX10_couldBe_91 (lv_at hl 4 rfl) ?_
              exact ret _ _ _ _ x14 _ hG ⟨rfl, trivial⟩ dX10_couldBe_93
            · refine lv_iload_n X.1 X.2.1 dX10_couldBe_87 rfl (lv_at hl 3 rfl) ?_
              refine lv_goto (tgt := 93) X.1 X.2.1 dX10_couldBe_88 (by decide) ?_
              exact ret _ _ _ _ x13 _ hG ⟨rfl, trivial⟩ dX10_couldBe_93
          · refine lv_iload_n X.1 X.2.1 dX10_couldBe_78 rfl (lv_at hl 2 rfl) ?_
            refine lv_goto (tgt := 93) X.1 X.2.1 dX10_couldBe_79 (by decide) ?_
            exact ret _ _ _ _ x12 _ hG ⟨rfl, trivial⟩ dX10_couldBe_93
        · refine lv_aload_n X.1 X.2.1 dX10_couldBe_40 rfl (lv_at hl 0 rfl) ?_
          refine lv_iload X.1 X.2.1 dX10_couldBe_41 (lv_at hl 5 rfl) ?_
          refine k_cVi X hG (c_X10_couldBeIt l D cy τ M hU hB hL0 hT h900 x15 (by omega) ) h900 rfl yv_X10_couldBeIt q_1236 ⟨rfl, rfl⟩ ⟨Nat.le_of_ble_eq_true rfl, Nat.le_of_ble_eq_true rfl⟩ rfl hl.1 rfl (Nat.le_of_ble_eq_true rfl) ⟨Nat.zero_le _, Nat.zero_le _⟩ dX10_couldBe_43 (fun x26 u27 H locs hG po25 => ?_)
          have hG : TG D cy τ (cn M τ) (ty_d τ) s.heap H locs := by
            rcases (show x26.toInt = 0 ∨ x26.toInt ≠ 0 by omega) with cz | cz
            · rw [po25.1.2 cz] at hG; exact hG
            · rw [po25.1.1 cz] at hG; exact TG.sub hG (MT_back hT)
          have J68 : ∀ (H : Heap) (locs : List Loc) (ls : Array Slot) (x28 : Int32) (x29 : Int32) (x30 : Int32), (-1 ≤ x29.toInt ∧ x29.toInt ≤ 143) → (-1 ≤ x30.toInt ∧ x30.toInt ≤ 143) → TG D cy τ (cn M τ) (ty_d τ) s.heap H locs → lv_has ls 6 [(0, .ref a900), (1, .int x901), (2, .int x28), (3, .int x29), (4, .int x30), (5, .int x15)] → W p l e (rL 6) s m args below meth c H locs 0 0 Q (F0 m 68 ls []) := by
            intro H locs ls x28 x29 x30 bx29 bx30 hG hl
            have gx28 := cI_rng x28
            refine n_inc X (fun z32 => [(5, .int z32), (0, .ref a900), (1, .int x901), (2, .int x28), (3, .int x29), (4, .int x30)]) dX10_couldBe_68 hl (k := 5) rfl (by decide) (by decide) (by omega) (by omega) (by decide) (fun _ => rfl) (fun x31 ls t31 hl => ?_)
            have hl : lv_has ls 6 [(5, .int x31), (0, .ref a900), (1, .int x901), (2, .int x28), (3, .int x29), (4, .int x30)] := hl
            refine lv_goto (tgt := 25) X.1 X.2.1 dX10_couldBe_71 (by decide) ?_
            exact ih25 _ _ _ x28 x29 x30 x31 (by omega) (by omega) (by omega) (by omega) hG (lv_sub hl [1, 2, 3, 4, 5, 0] rfl)
          refine n_if_eq (tgt := 68) X dX10_couldBe_46 (by decide) (fun c33 => ?_) (fun c33 => ?_)
          · exact J68 _ _ _ x12 x13 x14 (by omega) (by omega) hG (lv_sub hl [0, 1, 2, 3, 4, 5] rfl)
          · refine n_incA X (fun z35 => [(2, .int z35), (0, .ref a900), (1, .int x901), (3, .int x13), (4, .int x14), (5, .int x15)]) dX10_couldBe_49 hl (k := 2) rfl (by decide) (fun _ => rfl) (fun x34 ls hl => ?_)
            have hl : lv_has ls 6 [(2, .int x34), (0, .ref a900), (1, .int x901), (3, .int x13), (4, .int x14), (5, .int x15)] := hl
            refine lv_iload_n X.1 X.2.1 dX10_couldBe_52 rfl (lv_at hl 3 rfl) ?_
            refine n_ic X dX10_couldBe_53 (by decide) (by decide) (fun x36 t36 => ?_)
            have J63 : ∀ (H : Heap) (locs : List Loc) (ls : Array Slot) (x37 : Int32), (0 ≤ x37.toInt ∧ x37.toInt ≤ 143) → TG D cy τ (cn M τ) (ty_d τ) s.heap H locs → lv_has ls 6 [(0, .ref a900), (1, .int x901), (2, .int x34), (3, .int x13), (4, .int x14), (5, .int x15)] → W p l e (rL 6) s m args below meth c H locs 0 0 Q (F0 m 63 ls [.int x37]) := by
              intro H locs ls x37 bx37 hG hl
              refine lv_istore_n (lv' := [(3, .int x37), (0, .ref a900), (1, .int x901), (2, .int x34), (4, .int x14), (5, .int x15)]) X.1 X.2.1 dX10_couldBe_63 rfl hl (by decide) rfl (fun ls hl => ?_)
              refine lv_iload X.1 X.2.1 dX10_couldBe_64 (lv_at hl 5 rfl) ?_
              refine lv_istore (lv' := [(4, .int x15), (3, .int x37), (0, .ref a900), (1, .int x901), (2, .int x34), (5, .int x15)]) X.1 X.2.1 dX10_couldBe_66 hl (by decide) rfl (fun ls hl => ?_)
              exact J68 _ _ _ x34 x37 x15 (by omega) (by omega) hG (lv_sub hl [2, 3, 4, 1, 0, 5] rfl)
            refine n_icmp_ne (tgt := 62) X dX10_couldBe_54 (by decide) (fun c38 => ?_) (fun c38 => ?_)
            · refine lv_iload_n X.1 X.2.1 dX10_couldBe_62 rfl (lv_at hl 3 rfl) ?_
              exact J63 _ _ _ x13 (by omega) hG (lv_sub hl [1, 2, 0, 3, 4, 5] rfl)
            · refine lv_iload X.1 X.2.1 dX10_couldBe_57 (lv_at hl 5 rfl) ?_
              refine lv_goto (tgt := 63) X.1 X.2.1 dX10_couldBe_59 (by decide) ?_
              exact J63 _ _ _ x15 (by omega) hG (lv_sub hl [1, 2, 0, 3, 4, 5] rfl)
    exact J25 _ _ _ _ x8 x9 x10 x11 (by omega) (by omega) (by omega) (Nat.lt_succ_self _) hG (lv_sub hl [4, 5, 3, 2, 1, 0] rfl)
  · refine n_ldc X q_960 (n := -1000000002) (by decide +kernel) dX10_couldBe_12 (fun x39 t39 => ?_)
    exact ret _ _ _ _ x39 _ hG ⟨rfl, trivial⟩ dX10_couldBe_14
set_option maxHeartbeats 4000000 in
set_option maxRecDepth 100000 in
theorem c_X10_look (l : Launch) (D : va_G) (cy : Nat → ClassId) (τ : ty_T) (M : md_T) (hU : UQ τ) {P N : Nat} (hB : HB M P N) (hL0 : LV M P 0) (hT : HT M) {a900 : Nat} (h900 : τ a900 = some (0, 10)) : KI l D cy yX10_look cX10_look 9 .int (rL 6) τ (cn M τ) [.ref a900] (fun r u => u = (cn M τ) ∧ True) := by
  refine k_metI "EdgeEchoesModel" rfl (by decide +kernel) (Nat.le_of_ble_eq_true rfl) (fun _ _ _ => rfl) ?_
  intro p e s m args below meth c Q ls X hG hl ret
  have hl : lv_has ls 9 [(0, .ref a900)] := hl
  obtain ⟨⟨⟨n9, m9, n9p⟩, ⟨n13, m13, n13p⟩, ⟨n3, m3, n3p⟩, m8⟩, ⟨mN, mP, ⟨gG, mG, lG⟩, mL, mF⟩, mO, ⟨mK, mS, mQ, mZ⟩, hN72, hP8, hNP⟩ := id hB
  refine n_ic X dX10_look_0 (by decide) (by decide) (fun x1 t1 => ?_)
  refine lv_istore_n (lv' := [(1, .int x1), (0, .ref a900)]) X.1 X.2.1 dX10_look_1 rfl hl (by decide) rfl (fun ls hl => ?_)
  refine n_ic X dX10_look_2 (by decide) (by decide) (fun x2 t2 => ?_)
  refine lv_istore_n (lv' := [(2, .int x2), (1, .int x1), (0, .ref a900)]) X.1 X.2.1 dX10_look_3 rfl hl (by decide) rfl (fun ls hl => ?_)
  have J4 : ∀ (n : Nat) (H : Heap) (locs : List Loc) (ls : Array Slot) (x3 : Int32) (x4 : Int32), (0 ≤ x3.toInt ∧ x3.toInt ≤ 142) → (2 ≤ x4.toInt ∧ x4.toInt ≤ 144) → (x3.toInt + 2 ≤ x4.toInt) → (150 - x4.toInt).toNat < n → TG D cy τ (cn M τ) (ty_d τ) s.heap H locs → lv_has ls 9 [(0, .ref a900), (1, .int x3), (2, .int x4)] → W p l e (rL 6) s m args below meth c H locs 0 0 Q (F0 m 4 ls []) := by
    intro n
    induction n with
    | zero => intro H locs ls x3 x4 bx3 bx4 iv4_0 hm4 hG hl; exact absurd hm4 (Nat.not_lt_zero _)
    | succ n ih4 =>
      intro H locs ls x3 x4 bx3 bx4 iv4_0 hm4 hG hl
      refine lv_iload_n X.1 X.2.1 dX10_look_4 rfl (lv_at hl 2 rfl) ?_
      refine n_ic X dX10_look_5 (by decide) (by decide) (fun x5 t5 => ?_)
      refine lv_aload_n X.1 X.2.1 dX10_look_6 rfl (lv_at hl 0 rfl) ?_
      refine gf_10_0 X hG h900 q_876 dX10_look_7 (cn_N _ _ _ h900) (fun a6 h6 r6 => ?_)
      refine n_sp X dX10_look_10 (by decide) (by decide) (fun x7 t7 => ?_)
      refine tg_iald X hG h6 rfl (cI_in (n := 4261) (by omega)) dX10_look_13 (fun x8 r8 => ?_)
      have b8 := rdR (cn_R _ _ _ _ h6 r8) (n := 258) (by omega) mN
      refine n_mul X dX10_look_14 (by rw [t5]; omega) (by rw [t5]; omega) (fun x9 t9 => ?_)
      rw [t5] at t9
      refine n_icmp_ge (tgt := 82) X dX10_look_15 (by decide) (fun c10 => ?_) (fun c10 => ?_)
      · refine n_ic X dX10_look_82 (by decide) (by decide) (fun x11 t11 => ?_)
        refine lv_istore_n (lv' := [(2, .int x11), (0, .ref a900), (1, .int x3)]) X.1 X.2.1 dX10_look_83 rfl hl (by decide) rfl (fun ls hl => ?_)
        refine lv_iload_n X.1 X.2.1 dX10_look_84 rfl (lv_at hl 2 rfl) ?_
        refine lv_istore_n (lv' := [(3, .int x3), (2, .int x11), (0, .ref a900), (1, .int x3)]) X.1 X.2.1 dX10_look_85 rfl hl (by decide) rfl (fun ls hl => ?_)
        refine n_ic X dX10_look_86 (by decide) (by decide) (fun x12 t12 => ?_)
        refine lv_istore (lv' := [(4, .int x12), (3, .int x3), (2, .int x11), (0, .ref a900), (1, .int x3)]) X.1 X.2.1 dX10_look_87 hl (by decide) rfl (fun ls hl => ?_)
        have J89 : ∀ (n : Nat) (H : Heap) (locs : List Loc) (ls : Array Slot) (x13 : Int32) (x14 : Int32) (x15 : Int32), (-1 ≤ x13.toInt ∧ x13.toInt ≤ 60) → (0 ≤ x14.toInt ∧ x14.toInt ≤ 142) → (0 ≤ x15.toInt ∧ x15.toInt ≤ 60) → (60 - x15.toInt).toNat < n → TG D cy τ (cn M τ) (ty_d τ) s.heap H locs → lv_has ls 9 [(0, .ref a900), (1, .int x3), (2, .int x13), (3, .int x14), (4, .int x15)] → W p l e (rL 6) s m args below meth c H locs 0 0 Q (F0 m 89 ls []) := by
          intro n
          induction n with
          | zero => intro H locs ls x13 x14 x15 bx13 bx14 bx15 hm89 hG hl; exact absurd hm89 (Nat.not_lt_zero _)
          | succ n ih89 =>
            intro H locs ls x13 x14 x15 bx13 bx14 bx15 hm89 hG hl
            refine lv_iload X.1 X.2.1 dX10_look_89 (lv_at hl 4 rfl) ?_
            refine n_bp X dX10_look_91 (by decide) (by decide) (fun x16 t16 => ?_)
            refine n_icmp_ge (tgt := 221) X dX10_look_93 (by decide) (fun c17 => ?_) (fun c17 => ?_)
            · refine lv_iload_n X.1 X.2.1 dX10_look_221 rfl (lv_at hl 2 rfl) ?_
              exact ret _ _ _ _ x13 _ hG ⟨rfl, trivial⟩ dX10_look_222
            · refine n_ic X dX10_look_96 (by decide) (by decide) (fun x18 t18 => ?_)
              refine lv_istore (lv' := [(5, .int x18), (0, .ref a900), (1, .int x3), (2, .int x13), (3, .int x14), (4, .int x15)]) X.1 X.2.1 dX10_look_97 hl (by decide) rfl (fun ls hl => ?_)
              refine n_ic X dX10_look_99 (by decide) (by decide) (fun x19 t19 => ?_)
              refine lv_istore (lv' := [(6, .int x19), (5, .int x18), (0, .ref a900), (1, .int x3), (2, .int x13), (3, .int x14), (4, .int x15)]) X.1 X.2.1 dX10_look_100 hl (by decide) rfl (fun ls hl => ?_)
              have J102 : ∀ (n : Nat) (H : Heap) (locs : List Loc) (ls : Array Slot) (x20 : Int32) (x21 : Int32), (0 ≤ x20.toInt) → (0 ≤ x21.toInt ∧ x21.toInt ≤ 142) → (142 - x21.toInt).toNat < n → TG D cy τ (cn M τ) (ty_d τ) s.heap H locs → lv_has ls 9 [(0, .ref a900), (1, .int x3), (2, .int x13), (3, .int x14), (4, .int x15), (5, .int x20), (6, .int x21)] → W p l e (rL 6) s m args below meth c H locs 0 0 Q (F0 m 102 ls []) := by
                intro n
                induction n with
                | zero => intro H locs ls x20 x21 bx20 bx21 hm102 hG hl; exact absurd hm102 (Nat.not_lt_zero _)
                | succ n ih102 =>
                  intro H locs ls x20 x21 bx20 bx21 hm102 hG hl
                  have gx20 := cI_rng x20
                  refine lv_iload X.1 X.2.1 dX10_look_102 (lv_at hl 6 rfl) ?_
                  refine lv_iload_n X.1 X.2.1 dX10_look_104 rfl (lv_at hl 1 rfl) ?_
                  refine n_icmp_ge (tgt := 187) X dX10_look_105 (by decide) (fun c22 => ?_) (fun c22 => ?_)
                  · refine lv_iload X.1 X.2.1 dX10_look_187 (lv_at hl 5 rfl) ?_
                    refine lv_iload_n X.1 X.2.1 dX10_look_189 rfl (lv_at hl 3 rfl) ?_
                    have J201 : ∀ (H : Heap) (locs : List Loc) (ls : Array Slot) (x23 : Int32), (-1 ≤ x23.toInt ∧ x23.toInt ≤ 60) → TG D cy τ (cn M τ) (ty_d τ) s.heap H locs → lv_has ls 9 [(0, .ref a900), (1, .int x3), (2, .int x13), (3, .int x14), (4, .int x15), (5, .int x20), (6, .int x21)] → W p l e (rL 6) s m args below meth c H locs 0 0 Q (F0 m 201 ls [.int x23]) := by
                      intro H locs ls x23 bx23 hG hl
                      refine lv_istore_n (lv' := [(2, .int x23), (0, .ref a900), (1, .int x3), (3, .int x14), (4, .int x15), (5, .int x20), (6, .int x21)]) X.1 X.2.1 dX10_look_201 rfl hl (by decide) rfl (fun ls hl => ?_)
                      refine lv_iload X.1 X.2.1 dX10_look_202 (lv_at hl 5 rfl) ?_
                      refine lv_iload_n X.1 X.2.1 dX10_look_204 rfl (lv_at hl 3 rfl) ?_
                      have J214 : ∀ (H : Heap) (locs : List Loc) (ls : Array Slot) (x24 : Int32), (0 ≤ x24.toInt ∧ x24.toInt ≤ 142) → TG D cy τ (cn M τ) (ty_d τ) s.heap H locs → lv_has ls 9 [(0, .ref a900), (1, .int x3), (2, .int x23), (3, .int x14), (4, .int x15), (5, .int x20), (6, .int x21)] → W p l e (rL 6) s m args below meth c H locs 0 0 Q (F0 m 214 ls [.int x24]) := by
                        intro H locs ls x24 bx24 hG hl
                        refine lv_istore_n (lv' := [(3, .int x24), (0, .ref a900), (1, .int x3), (2, .int x23), (4, .int x15), (5, .int x20), (6, .int x21)]) X.1 X.2.1 dX10_look_214 rfl hl (by decide) rfl (fun ls hl => ?_)
                        refine n_inc X (fun z26 => [(4, .int z26), (3, .int x24), (0, .ref a900), (1, .int x3), (2, .int x23), (5, .int x20), (6, .int x21)]) dX10_look_215 hl (k := 4) rfl (by decide) (by decide) (by omega) (by omega) (by decide) (fun _ => rfl) (fun x25 ls t25 hl => ?_)
                        have hl : lv_has ls 9 [(4, .int x25), (3, .int x24), (0, .ref a900), (1, .int x3), (2, .int x23), (5, .int x20), (6, .int x21)] := hl
                        refine lv_goto (tgt := 89) X.1 X.2.1 dX10_look_218 (by decide) ?_
                        exact ih89 _ _ _ x23 x24 x25 (by omega) (by omega) (by omega) (by omega) hG (lv_sub hl [2, 3, 4, 1, 0] rfl)
                      refine n_icmp_ge (tgt := 213) X dX10_look_205 (by decide) (fun c27 => ?_) (fun c27 => ?_)
                      · refine lv_iload_n X.1 X.2.1 dX10_look_213 rfl (lv_at hl 3 rfl) ?_
                        exact J214 _ _ _ x14 (by omega) hG (lv_sub hl [1, 2, 0, 3, 4, 5, 6] rfl)
                      · refine lv_iload X.1 X.2.1 dX10_look_208 (lv_at hl 5 rfl) ?_
                        refine lv_goto (tgt := 214) X.1 X.2.1 dX10_look_210 (by decide) ?_
                        exact J214 _ _ _ x20 (by omega) hG (lv_sub hl [1, 2, 0, 3, 4, 5, 6] rfl)
                    refine n_icmp_ge (tgt := 200) X dX10_look_190 (by decide) (fun c28 => ?_) (fun c28 => ?_)
                    · refine lv_iload_n X.1 X.2.1 dX10_look_200 rfl (lv_at hl 2 rfl) ?_
                      exact J201 _ _ _ x13 (by omega) hG (lv_sub hl [0, 1, 2, 3, 4, 5, 6] rfl)
                    · refine lv_iload X.1 X.2.1 dX10_look_193 (lv_at hl 4 rfl) ?_
                      refine n_ic X dX10_look_195 (by decide) (by decide) (fun x29 t29 => ?_)
                      refine n_add X dX10_look_196 (by omega) (by omega) (fun x30 t30 => ?_)
                      refine lv_goto (tgt := 201) X.1 X.2.1 dX10_look_197 (by decide) ?_
                      exact J201 _ _ _ x30 (by omega) hG (lv_sub hl [0, 1, 2, 3, 4, 5, 6] rfl)
                  · refine n_ic X dX10_look_108 (by decide) (by decide) (fun x31 t31 => ?_)
                    refine lv_istore (lv' := [(7, .int x31), (0, .ref a900), (1, .int x3), (2, .int x13), (3, .int x14), (4, .int x15), (5, .int x20), (6, .int x21)]) X.1 X.2.1 dX10_look_109 hl (by decide) rfl (fun ls hl => ?_)
                    refine n_ic X dX10_look_111 (by decide) (by decide) (fun x32 t32 => ?_)
                    refine lv_istore (lv' := [(8, .int x32), (7, .int x31), (0, .ref a900), (1, .int x3), (2, .int x13), (3, .int x14), (4, .int x15), (5, .int x20), (6, .int x21)]) X.1 X.2.1 dX10_look_112 hl (by decide) rfl (fun ls hl => ?_)
                    have J114 : ∀ (n : Nat) (H : Heap) (locs : List Loc) (ls : Array Slot) (x33 : Int32) (x34 : Int32), (0 ≤ x34.toInt ∧ x34.toInt ≤ 142) → (142 - x34.toInt).toNat < n → TG D cy τ (cn M τ) (ty_d τ) s.heap H locs → lv_has ls 9 [(0, .ref a900), (1, .int x3), (2, .int x13), (3, .int x14), (4, .int x15), (5, .int x20), (6, .int x21), (7, .int x33), (8, .int x34)] → W p l e (rL 6) s m args below meth c H locs 0 0 Q (F0 m 114 ls []) := by
                      intro n
                      induction n with
                      | zero => intro H locs ls x33 x34 bx34 hm114 hG hl; exact absurd hm114 (Nat.not_lt_zero _)
                      | succ n ih114 =>
                        intro H locs ls x33 x34 bx34 hm114 hG hl
                        have gx33 := cI_rng x33
                        refine lv_iload X.1 X.2.1 dX10_look_114 (lv_at hl 8 rfl) ?_
                        refine lv_iload_n X.1 X.2.1 dX10_look_116 rfl (lv_at hl 1 rfl) ?_
                        refine n_icmp_ge (tgt := 165) X dX10_look_117 (by decide) (fun c35 => ?_) (fun c35 => ?_)
                        · refine lv_iload X.1 X.2.1 dX10_look_165 (lv_at hl 7 rfl) ?_
                          refine lv_iload X.1 X.2.1 dX10_look_167 (lv_at hl 5 rfl) ?_
                          have J179 : ∀ (H : Heap) (locs : List Loc) (ls : Array Slot) (x36 : Int32), (0 ≤ x36.toInt) → TG D cy τ (cn M τ) (ty_d τ) s.heap H locs → lv_has ls 9 [(0, .ref a900), (1, .int x3), (2, .int x13), (3, .int x14), (4, .int x15), (5, .int x20), (6, .int x21), (7, .int x33), (8, .int x34)] → W p l e (rL 6) s m args below meth c H locs 0 0 Q (F0 m 179 ls [.int x36]) := by
                            intro H locs ls x36 bx36 hG hl
                            have gx36 := cI_rng x36
                            refine lv_istore (lv' := [(5, .int x36), (0, .ref a900), (1, .int x3), (2, .int x13), (3, .int x14), (4, .int x15), (6, .int x21), (7, .int x33), (8, .int x34)]) X.1 X.2.1 dX10_look_179 hl (by decide) rfl (fun ls hl => ?_)
                            refine n_inc X (fun z38 => [(6, .int z38), (5, .int x36), (0, .ref a900), (1, .int x3), (2, .int x13), (3, .int x14), (4, .int x15), (7, .int x33), (8, .int x34)]) dX10_look_181 hl (k := 6) rfl (by decide) (by decide) (by omega) (by omega) (by decide) (fun _ => rfl) (fun x37 ls t37 hl => ?_)
                            have hl : lv_has ls 9 [(6, .int x37), (5, .int x36), (0, .ref a900), (1, .int x3), (2, .int x13), (3, .int x14), (4, .int x15), (7, .int x33), (8, .int x34)] := hl
                            refine lv_goto (tgt := 102) X.1 X.2.1 dX10_look_184 (by decide) ?_
                            exact ih102 _ _ _ x36 x37 (by omega) (by omega) (by omega) hG (lv_sub hl [2, 3, 4, 5, 6, 1, 0] rfl)
                          refine n_icmp_le (tgt := 177) X dX10_look_169 (by decide) (fun c39 => ?_) (fun c39 => ?_)
                          · refine lv_iload X.1 X.2.1 dX10_look_177 (lv_at hl 5 rfl) ?_
                            exact J179 _ _ _ x20 (by omega) hG (lv_sub hl [0, 1, 2, 3, 4, 5, 6, 7, 8] rfl)
                          · refine lv_iload X.1 X.2.1 dX10_look_172 (lv_at hl 7 rfl) ?_
                            refine lv_goto (tgt := 179) X.1 X.2.1 dX10_look_174 (by decide) ?_
                            exact J179 _ _ _ x33 (by omega) hG (lv_sub hl [0, 1, 2, 3, 4, 5, 6, 7, 8] rfl)
                        · refine lv_iload X.1 X.2.1 dX10_look_120 (lv_at hl 7 rfl) ?_
                          refine lv_aload_n X.1 X.2.1 dX10_look_122 rfl (lv_at hl 0 rfl) ?_
                          refine gf_10_24 X hG h900 q_900 dX10_look_123 (cn_N _ _ _ h900) (fun a40 h40 r40 => ?_)
                          refine n_bp X dX10_look_126 (by decide) (by decide) (fun x41 t41 => ?_)
                          refine lv_iload X.1 X.2.1 dX10_look_128 (lv_at hl 6 rfl) ?_
                          refine n_mul X dX10_look_130 (by rw [t41]; omega) (by rw [t41]; omega) (fun x42 t42 => ?_)
                          rw [t41] at t42
                          refine lv_iload X.1 X.2.1 dX10_look_131 (lv_at hl 4 rfl) ?_
                          refine n_add X dX10_look_133 (by omega) (by omega) (fun x43 t43 => ?_)
                          refine tg_iald X hG h40 rfl (cI_in (n := 8520) (by omega)) dX10_look_134 (fun x44 r44 => ?_)
                          refine lv_aload_n X.1 X.2.1 dX10_look_135 rfl (lv_at hl 0 rfl) ?_
                          refine gf_10_24 X hG h900 q_900 dX10_look_136 (cn_N _ _ _ h900) (fun a45 h45 r45 => ?_)
                          refine n_bp X dX10_look_139 (by decide) (by decide) (fun x46 t46 => ?_)
                          refine lv_iload X.1 X.2.1 dX10_look_141 (lv_at hl 8 rfl) ?_
                          refine n_mul X dX10_look_143 (by rw [t46]; omega) (by rw [t46]; omega) (fun x47 t47 => ?_)
                          rw [t46] at t47
                          refine lv_iload X.1 X.2.1 dX10_look_144 (lv_at hl 4 rfl) ?_
                          refine n_add X dX10_look_146 (by omega) (by omega) (fun x48 t48 => ?_)
                          refine tg_iald X hG h45 rfl (cI_in (n := 8520) (by omega)) dX10_look_147 (fun x49 r49 => ?_)
                          have J156 : ∀ (H : Heap) (locs : List Loc) (ls : Array Slot) (x50 : Int32), (0 ≤ x50.toInt ∧ x50.toInt ≤ 1) → TG D cy τ (cn M τ) (ty_d τ) s.heap H locs → lv_has ls 9 [(0, .ref a900), (1, .int x3), (2, .int x13), (3, .int x14), (4, .int x15), (5, .int x20), (6, .int x21), (7, .int x33), (8, .int x34)] → W p l e (rL 6) s m args below meth c H locs 0 0 Q (F0 m 156 ls [.int x50, .int x33]) := by
                            intro H locs ls x50 bx50 hG hl
                            refine lv_iadd X.1 X.2.1 dX10_look_156 ?_
                            refine n_any (fun x51 => ?_)
                            refine lv_istore (lv' := [(7, .int x51), (0, .ref a900), (1, .int x3), (2, .int x13), (3, .int x14), (4, .int x15), (5, .int x20), (6, .int x21), (8, .int x34)]) X.1 X.2.1 dX10_look_157 hl (by decide) rfl (fun ls hl => ?_)
                            refine n_inc X (fun z53 => [(8, .int z53), (7, .int x51), (0, .ref a900), (1, .int x3), (2, .int x13), (3, .int x14), (4, .int x15), (5, .int x20), (6, .int x21)]) dX10_look_159 hl (k := 8) rfl (by decide) (by decide) (by omega) (by omega) (by decide) (fun _ => rfl) (fun x52 ls t52 hl => ?_)
                            have hl : lv_has ls 9 [(8, .int x52), (7, .int x51), (0, .ref a900), (1, .int x3), (2, .int x13), (3, .int x14), (4, .int x15), (5, .int x20), (6, .int x21)] := hl
                            refine lv_goto (tgt := 114) X.1 X.2.1 dX10_look_162 (by decide) ?_
                            exact ih114 _ _ _ x51 x52 (by omega) (by omega) hG (lv_sub hl [2, 3, 4, 5, 6, 7, 8, 1, 0] rfl)
                          refine n_icmp_ne (tgt := 155) X dX10_look_148 (by decide) (fun c54 => ?_) (fun c54 => ?_)
                          · refine n_ic X dX10_look_155 (by decide) (by decide) (fun x55 t55 => ?_)
                            exact J156 _ _ _ x55 (by omega) hG (lv_sub hl [0, 1, 2, 3, 4, 5, 6, 7, 8] rfl)
                          · refine n_ic X dX10_look_151 (by decide) (by decide) (fun x56 t56 => ?_)
                            refine lv_goto (tgt := 156) X.1 X.2.1 dX10_look_152 (by decide) ?_
                            exact J156 _ _ _ x56 (by omega) hG (lv_sub hl [0, 1, 2, 3, 4, 5, 6, 7, 8] rfl)
                    exact J114 _ _ _ _ x31 x32 (by omega) (Nat.lt_succ_self _) hG (lv_sub hl [2, 3, 4, 5, 6, 7, 8, 1, 0] rfl)
              exact J102 _ _ _ _ x18 x19 (by omega) (by omega) (Nat.lt_succ_self _) hG (lv_sub hl [2, 3, 4, 5, 6, 1, 0] rfl)
        exact J89 _ _ _ _ x11 x3 x12 (by omega) (by omega) (by omega) (Nat.lt_succ_self _) hG (lv_sub hl [3, 4, 2, 1, 0] rfl)
      · refine lv_aload_n X.1 X.2.1 dX10_look_18 rfl (lv_at hl 0 rfl) ?_
        refine lv_iload_n X.1 X.2.1 dX10_look_19 rfl (lv_at hl 2 rfl) ?_
        refine k_cVi X hG (c_X10_couldBeIt l D cy τ M hU hB hL0 hT h900 x4 (by omega) ) h900 rfl yv_X10_couldBeIt q_1236 ⟨rfl, rfl⟩ ⟨Nat.le_of_ble_eq_true rfl, Nat.le_of_ble_eq_true rfl⟩ rfl hl.1 rfl (Nat.le_of_ble_eq_true rfl) ⟨Nat.zero_le _, Nat.zero_le _⟩ dX10_look_20 (fun x58 u59 H locs hG po57 => ?_)
        rcases (show x58.toInt = 0 ∨ x58.toInt ≠ 0 by omega) with cz | cz
        · rw [po57.1.2 cz] at hG
          have J76 : ∀ (H : Heap) (locs : List Loc) (ls : Array Slot) (x60 : Int32), (0 ≤ x60.toInt ∧ x60.toInt ≤ 143) → (x60.toInt + 1 ≤ x4.toInt) → TG D cy τ (cn M τ) (ty_d τ) s.heap H locs → lv_has ls 9 [(0, .ref a900), (1, .int x60), (2, .int x4)] → W p l e (rL 6) s m args below meth c H locs 0 0 Q (F0 m 76 ls []) := by
            intro H locs ls x60 bx60 iv76_0 hG hl
            refine n_inc X (fun z62 => [(2, .int z62), (0, .ref a900), (1, .int x60)]) dX10_look_76 hl (k := 2) rfl (by decide) (by decide) (by omega) (by omega) (by decide) (fun _ => rfl) (fun x61 ls t61 hl => ?_)
            have hl : lv_has ls 9 [(2, .int x61), (0, .ref a900), (1, .int x60)] := hl
            refine lv_goto (tgt := 4) X.1 X.2.1 dX10_look_79 (by decide) ?_
            exact ih4 _ _ _ x60 x61 (by omega) (by omega) (by omega) (by omega) hG (lv_sub hl [1, 2, 0] rfl)
          refine n_if_eq (tgt := 76) X dX10_look_23 (by decide) (fun c63 => ?_) (fun c63 => ?_)
          · exact J76 _ _ _ x3 (by omega) (by omega) hG (lv_sub hl [0, 1, 2] rfl)
          · exact absurd c63 (by omega)
        · rw [po57.1.1 cz] at hG
          obtain ⟨⟨⟨n9, m9, n9p⟩, ⟨n13, m13, n13p⟩, ⟨n3, m3, n3p⟩, m8⟩, ⟨mN, mP, ⟨gG, mG, lG⟩, mL, mF⟩, mO, ⟨mK, mS, mQ, mZ⟩, hN72, hP8, hNP⟩ := id (HB.cp hB)
          have J76 : ∀ (H : Heap) (locs : List Loc) (ls : Array Slot) (x64 : Int32), (0 ≤ x64.toInt ∧ x64.toInt ≤ 143) → (x64.toInt + 1 ≤ x4.toInt) → TG D cy τ (cn (MT M) τ) (ty_d τ) s.heap H locs → lv_has ls 9 [(0, .ref a900), (1, .int x64), (2, .int x4)] → W p l e (rL 6) s m args below meth c H locs 0 0 Q (F0 m 76 ls []) := by
            intro H locs ls x64 bx64 iv76_0 hG hl
            refine n_inc X (fun z66 => [(2, .int z66), (0, .ref a900), (1, .int x64)]) dX10_look_76 hl (k := 2) rfl (by decide) (by decide) (by omega) (by omega) (by decide) (fun _ => rfl) (fun x65 ls t65 hl => ?_)
            have hl : lv_has ls 9 [(2, .int x65), (0, .ref a900), (1, .int x64)] := hl
            refine lv_goto (tgt := 4) X.1 X.2.1 dX10_look_79 (by decide) ?_
            have hG := TG.sub hG (MT_back hT)
            exact ih4 _ _ _ x64 x65 (by omega) (by omega) (by omega) (by omega) hG (lv_sub hl [1, 2, 0] rfl)
          refine n_if_eq (tgt := 76) X dX10_look_23 (by decide) (fun c67 => ?_) (fun c67 => ?_)
          · exact absurd c67 (by omega)
          · refine lv_aload_n X.1 X.2.1 dX10_look_26 rfl (lv_at hl 0 rfl) ?_
            refine lv_iload_n X.1 X.2.1 dX10_look_27 rfl (lv_at hl 2 rfl) ?_
            refine k_cVi X hG (c_X10_laysFault l D cy τ (MT M) hU (HB.cp hB) (LV.cp0 hL0 hB)  h900 x4 (by omega) ) h900 rfl yv_X10_laysFault q_1240 ⟨rfl, rfl⟩ ⟨Nat.le_of_ble_eq_true rfl, Nat.le_of_ble_eq_true rfl⟩ rfl hl.1 rfl (Nat.le_of_ble_eq_true rfl) ⟨Nat.zero_le _, Nat.zero_le _⟩ dX10_look_28 (fun x69 u70 H locs hG po68 => ?_)
            have hG : TG D cy τ (cn (MT M) τ) (ty_d τ) s.heap H locs := by
              rcases (show x69.toInt = 0 ∨ x69.toInt ≠ 0 by omega) with cz | cz
              · rw [po68.1.2 cz] at hG; exact hG
              · rw [po68.1.1 cz] at hG; exact TG.sub hG MT_MT
            refine lv_pop X.1 X.2.1 dX10_look_31 rfl ?_
            refine n_ic X dX10_look_32 (by decide) (by decide) (fun x71 t71 => ?_)
            refine lv_istore_n (lv' := [(3, .int x71), (0, .ref a900), (1, .int x3), (2, .int x4)]) X.1 X.2.1 dX10_look_33 rfl hl (by decide) rfl (fun ls hl => ?_)
            have J34 : ∀ (n : Nat) (H : Heap) (locs : List Loc) (ls : Array Slot) (x72 : Int32), (0 ≤ x72.toInt ∧ x72.toInt ≤ 60) → (60 - x72.toInt).toNat < n → TG D cy τ (cn (MT M) τ) (ty_d τ) s.heap H locs → lv_has ls 9 [(0, .ref a900), (1, .int x3), (2, .int x4), (3, .int x72)] → W p l e (rL 6) s m args below meth c H locs 0 0 Q (F0 m 34 ls []) := by
              intro n
              induction n with
              | zero => intro H locs ls x72 bx72 hm34 hG hl; exact absurd hm34 (Nat.not_lt_zero _)
              | succ n ih34 =>
                intro H locs ls x72 bx72 hm34 hG hl
                refine lv_iload_n X.1 X.2.1 dX10_look_34 rfl (lv_at hl 3 rfl) ?_
                refine n_bp X dX10_look_35 (by decide) (by decide) (fun x73 t73 => ?_)
                refine n_icmp_ge (tgt := 73) X dX10_look_37 (by decide) (fun c74 => ?_) (fun c74 => ?_)
                · refine n_inc X (fun z76 => [(1, .int z76), (0, .ref a900), (2, .int x4), (3, .int x72)]) dX10_look_73 hl (k := 1) rfl (by decide) (by decide) (by omega) (by omega) (by decide) (fun _ => rfl) (fun x75 ls t75 hl => ?_)
                  have hl : lv_has ls 9 [(1, .int x75), (0, .ref a900), (2, .int x4), (3, .int x72)] := hl
                  exact J76 _ _ _ x75 (by omega) (by omega) hG (lv_sub hl [1, 0, 2] rfl)
                · refine lv_aload_n X.1 X.2.1 dX10_look_40 rfl (lv_at hl 0 rfl) ?_
                  refine n_sp X dX10_look_41 (by decide) (by decide) (fun x77 t77 => ?_)
                  refine n_ic X dX10_look_44 (by decide) (by decide) (fun x78 t78 => ?_)
                  refine k_cVv X hG (c_X10_ticks l D cy τ _ cn_N cn_R (cn_F (S := [6010, 6031, 6032])) h900 x77 (by omega) x78 (HB.cp hB) (b := 3736) (by omega) rfl (LV.cpT hL0 hB)) h900 rfl yv_X10_ticks q_1046 ⟨rfl, rfl⟩ ⟨Nat.le_of_ble_eq_true rfl, Nat.le_of_ble_eq_true rfl⟩ rfl hl.1 rfl (Nat.le_of_ble_eq_true rfl) ⟨Nat.zero_le _, Nat.zero_le _⟩ dX10_look_45 (fun u81 H locs hG po79 => ?_)
                  rw [po79] at hG
                  refine lv_aload_n X.1 X.2.1 dX10_look_48 rfl (lv_at hl 0 rfl) ?_
                  refine gf_10_24 X hG h900 q_900 dX10_look_49 (cn_N _ _ _ h900) (fun a82 h82 r82 => ?_)
                  refine n_bp X dX10_look_52 (by decide) (by decide) (fun x83 t83 => ?_)
                  refine lv_iload_n X.1 X.2.1 dX10_look_54 rfl (lv_at hl 1 rfl) ?_
                  refine n_mul X dX10_look_55 (by rw [t83]; omega) (by rw [t83]; omega) (fun x84 t84 => ?_)
                  rw [t83] at t84
                  refine lv_iload_n X.1 X.2.1 dX10_look_56 rfl (lv_at hl 3 rfl) ?_
                  refine n_add X dX10_look_57 (by omega) (by omega) (fun x85 t85 => ?_)
                  refine lv_aload_n X.1 X.2.1 dX10_look_58 rfl (lv_at hl 0 rfl) ?_
                  refine n_sp X dX10_look_59 (by decide) (by decide) (fun x86 t86 => ?_)
                  refine n_ic X dX10_look_62 (by decide) (by decide) (fun x87 t87 => ?_)
                  refine k_cVi X hG (c_X10_voltsOf l D cy τ _ cn_N cn_R (cn_F (S := [])) h900 x86 (by omega) x87 (HB.cp hB) (b := 3736) (by omega) (Or.inr rfl)) h900 rfl yv_X10_voltsOf q_1075 ⟨rfl, rfl⟩ ⟨Nat.le_of_ble_eq_true rfl, Nat.le_of_ble_eq_true rfl⟩ rfl hl.1 rfl (Nat.le_of_ble_eq_true rfl) ⟨Nat.zero_le _, Nat.zero_le _⟩ dX10_look_63 (fun x89 u90 H locs hG po88 => ?_)
                  obtain ⟨eu90, po88⟩ := po88
                  rw [eu90] at hG
                  have g89 := cI_rng x89
                  refine tg_iasf X hG h82 rfl (cI_in (n := 8520) (by omega)) dX10_look_66 (cn_F (S := [6034]) _ _ _ _ h82 (ty_in (n := 6034) rfl) (ty_rno (mZ 34 (by decide) _))) (fun H locs hG => ?_)
                  refine n_inc X (fun z92 => [(3, .int z92), (0, .ref a900), (1, .int x3), (2, .int x4)]) dX10_look_67 hl (k := 3) rfl (by decide) (by decide) (by omega) (by omega) (by decide) (fun _ => rfl) (fun x91 ls t91 hl => ?_)
                  have hl : lv_has ls 9 [(3, .int x91), (0, .ref a900), (1, .int x3), (2, .int x4)] := hl
                  refine lv_goto (tgt := 34) X.1 X.2.1 dX10_look_70 (by decide) ?_
                  exact ih34 _ _ _ x91 (by omega) (by omega) hG (lv_sub hl [1, 2, 3, 0] rfl)
            exact J34 _ _ _ _ x71 (by omega) (Nat.lt_succ_self _) hG (lv_sub hl [1, 2, 3, 0] rfl)
  exact J4 _ _ _ _ x1 x2 (by omega) (by omega) (by omega) (Nat.lt_succ_self _) hG (lv_sub hl [2, 1, 0] rfl)
