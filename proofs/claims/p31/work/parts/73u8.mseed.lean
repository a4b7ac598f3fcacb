def s5M (M : md_T) (j : Nat) (r : Int × Int) : md_T := fun a i => if a = 15 ∧ i = j then some r else M a i
theorem s5_at {M : md_T} {j : Nat} {r : Int × Int} : s5M M j r 15 j = some r := if_pos ⟨rfl, rfl⟩
theorem s5_ne {M : md_T} {j : Nat} {r : Int × Int} : ∀ n i, n ≠ 15 ∨ i ≠ j → s5M M j r n i = M n i := fun n i h => if_neg (by omega)
theorem siO_t {v : Nat} : siO true v = some ((v : Int), (v : Int)) := rfl
set_option maxRecDepth 100000 in
theorem im_k {K : KT} {P N u : Nat} {k0 k1 k0' k1' : Bool} {b i : Nat} (hk : K.1 ≤ 240) (h0 : 0 ≤ (K.2.2.2.2 1002).toInt) (hu : u ≤ 12) (hb : (b = 3242 ∧ i = 0 ∧ k0' = true ∧ k1' = k1) ∨ (b = 3489 ∧ i = 1 ∧ k0' = k0 ∧ k1' = true)) : ∀ n j r, MM (KU K (1003 + i) (K.2.2.2.2 1002)) P N 0 k0' k1' n j = some r → fsM (bsM (s5M (cpM (MM K P N u k0 k1) 0 b 247) i ((K.2.2.2.2 1002).toInt, (K.2.2.2.2 1002).toInt)) i (1, 1)) 2 (0, 0) n j = some r := by
  intro n j r hK
  have hi1 : i ≤ 1 := by omega
  by_cases h15 : n = 15
  · subst h15
    rw [fsM_ne _ _ (Or.inl (by decide)), bsM_ne _ _ (Or.inl (by decide))]
    rw [MM_15] at hK
    rcases hb with ⟨rfl, rfl, rfl, rfl⟩ | ⟨rfl, rfl, rfl, rfl⟩
    · by_cases e : j = 0
      · subst e
        rw [if_pos rfl, siO_t, KU_i3, cI_clamp h0] at hK
        rw [s5_at]
        exact hK
      · rw [if_neg e, KU_i (by decide)] at hK
        rw [s5_ne _ _ (Or.inr e), cpM_ne (by decide), MM_15, if_neg e]
        exact hK
    · by_cases e : j = 1
      · subst e
        rw [if_neg (by decide), if_pos rfl, siO_t, KU_i3, cI_clamp h0] at hK
        rw [s5_at]
        exact hK
      · rw [KU_i (q := 0) (by decide), if_neg e] at hK
        rw [s5_ne _ _ (Or.inr e), cpM_ne (by decide), MM_15, if_neg e]
        exact hK
  have h : MM K P N 0 k0' k1' n j = some r := by
    by_cases a10 : n = 10
    · subst a10
      rw [MM_10, KU_g (by omega), KU_t (by omega), KU_b (by omega)] at hK
      exact hK
    · by_cases a3 : n = 0 ∧ j = 3
      · obtain ⟨rfl, rfl⟩ := a3
        rw [MM_3, KU_s (by omega)] at hK
        exact hK
      · rw [MM_KU hk (by omega) a10 h15 a3] at hK
        exact hK
  clear hK
  have e5 : ∀ n2 j2, n2 ≠ 15 → s5M (cpM (MM K P N u k0 k1) 0 b 247) i ((K.2.2.2.2 1002).toInt, (K.2.2.2.2 1002).toInt) n2 j2 = cpM (MM K P N u k0 k1) 0 b 247 n2 j2 := fun n2 j2 q => s5_ne n2 j2 (Or.inl q)
  by_cases hz0 : n = 0
  · subst hz0
    by_cases hj : j = 2
    · subst hj
      exact h
    · rw [fsM_ne _ _ (Or.inr hj), bsM_ne _ _ (Or.inl (by decide)), e5 _ _ (by decide), cpM_ne (by decide), MM_0, fl_sub (v := 0) hj]
      exact h
  · rw [fsM_ne _ _ (Or.inl hz0)]
    by_cases h4 : n = 14
    · subst h4
      by_cases hj : 2 ≤ j
      · have e2 : MM K P N 0 k0' k1' 14 j = none := by
          show (if j = 0 then _ else if j = 1 then _ else _) = _
          rw [if_neg (show ¬ j = 0 by omega), if_neg (show ¬ j = 1 by omega)]
        rw [e2] at h
        cases h
      · by_cases e : j = i
        · subst e
          rw [bsM_at]
          rcases hb with ⟨rfl, rfl, rfl, rfl⟩ | ⟨rfl, rfl, rfl, rfl⟩
          · exact h
          · exact h
        · rw [bsM_ne _ _ (Or.inr e), e5 _ _ (by decide), cpM_ne (by decide)]
          rcases hb with ⟨rfl, rfl, rfl, rfl⟩ | ⟨rfl, rfl, rfl, rfl⟩
          · have : j = 1 := by omega
            subst this
            exact h
          · have : j = 0 := by omega
            subst this
            exact h
    · rw [bsM_ne _ _ (Or.inl h4), e5 _ _ h15]
      by_cases h1 : n = 10
      · subst h1
        rw [MM_10] at h
        by_cases q : b ≤ j ∧ j < b + 247
        · rw [cpM_in q.1 q.2, MM_10, rw_lo (by omega), Nat.zero_add]
          rcases hb with ⟨rfl, rfl, rfl, rfl⟩ | ⟨rfl, rfl, rfl, rfl⟩
          · rw [show j = 3242 + (j - 3242) by omega, rw_im0 (by omega) (by omega)] at h
            exact h
          · rw [show j = 3489 + (j - 3489) by omega, rw_im1 (by omega) (by omega)] at h
            exact h
        · rw [cpM_out (by omega), MM_10]
          by_cases q2 : j < 247
          · rw [rw_lo q2] at h ⊢
            exact h
          · refine rw_cut (by omega) h (by omega) ?_ ?_ (by omega) hu
            · intro q3 q4
              rcases hb with ⟨rfl, rfl, rfl, rfl⟩ | ⟨rfl, rfl, rfl, rfl⟩
              · omega
              · exact q4
            · intro q3 q4
              rcases hb with ⟨rfl, rfl, rfl, rfl⟩ | ⟨rfl, rfl, rfl, rfl⟩
              · exact q4
              · omega
      · rw [cpM_ne h1, MM_el2 (v := 0) (k0' := k0') (k1' := k1') hz0 h1 h4 h15]
        exact h
set_option maxRecDepth 100000 in
theorem gb_k {K : KT} {P N u : Nat} {k0 k1 : Bool} {b : Nat} {v : Int32} (hk : K.1 ≤ 240) (hv : 0 ≤ v.toInt) (hu : u ≤ 12) (hb : (b = 3242 ∧ k0 = true) ∨ (b = 3489 ∧ k1 = true)) : ∀ n j r, MM (KU K 1002 v) P N 0 k0 k1 n j = some r → fsM (fsM (cpM (MM K P N u k0 k1) b 0 247) 3 (v.toInt, v.toInt)) 2 (0, 0) n j = some r := by
  intro n j r hK
  by_cases a3 : n = 0 ∧ j = 3
  · obtain ⟨rfl, rfl⟩ := a3
    rw [MM_3, KU_s2, cI_clamp hv] at hK
    rw [fsM_ne _ _ (Or.inr (by decide)), fsM_at]
    exact hK
  have h : MM K P N 0 k0 k1 n j = some r := by
    by_cases a10 : n = 10
    · subst a10
      rw [MM_10, KU_g (by decide), KU_t (by decide), KU_b (by decide)] at hK
      exact hK
    · by_cases a15 : n = 15
      · subst a15
        rw [MM_KU15 (by decide) (by decide)] at hK
        exact hK
      · rw [MM_KU hk (by decide) a10 a15 a3] at hK
        exact hK
  clear hK
  by_cases h0 : n = 0
  · subst h0
    by_cases hj : j = 2
    · subst hj
      exact h
    · rw [fsM_ne _ _ (Or.inr hj), fsM_ne _ _ (by omega), cpM_ne (by decide), MM_0, fl_sub (v := 0) hj]
      exact h
  · rw [fsM_ne _ _ (Or.inl h0), fsM_ne _ _ (Or.inl h0)]
    by_cases h1 : n = 10
    · subst h1
      rw [MM_10] at h
      by_cases q : j < 247
      · rw [cpM_in (by omega) (by omega), MM_10, show b + (j - 0) = b + j by omega]
        rw [rw_lo q] at h
        rcases hb with ⟨rfl, rfl⟩ | ⟨rfl, rfl⟩
        · rw [rw_im0 hu q]; exact h
        · rw [rw_im1 hu q]; exact h
      · rw [cpM_out (by omega), MM_10]
        exact rw_cut (by omega) h (by omega) (fun _ q => q) (fun _ q => q) (by omega) hu
    · rw [cpM_ne h1, MM_el (v := 0) h0 h1]
      exact h
set_option maxHeartbeats 4000000 in
set_option maxRecDepth 100000 in
theorem e_X10_keep (l : Launch) (D : va_G) (cy : Nat → ClassId) (τ : ty_T) (hU : UQ τ) {K : KT} {P N u : Nat} {k0 k1 : Bool} (ok : OKG K P N u) {a900 : Nat} (h900 : τ a900 = some (0, 10)) (x901 : Int32) (hs0 : 0 ≤ (K.2.2.2.2 1002).toInt) : KI l D cy yX10_keep cX10_keep 2 .int (rL 1) τ (cn (MM K P N u k0 k1) τ) [.ref a900, .int x901] (fun r w => (x901.toInt = 0 → r.toInt = 1 ∧ GS (KU K 1003 (K.2.2.2.2 1002)) τ P N true k1 w) ∧ (x901.toInt = 1 → r.toInt = 1 ∧ GS (KU K 1004 (K.2.2.2.2 1002)) τ P N k0 true w) ∧ (x901.toInt < 0 ∨ 1 < x901.toInt → r.toInt = -1000000001 ∧ GS K τ P N k0 k1 w)) := by
  refine k_metI "EdgeEchoesModel" rfl (by decide +kernel) (Nat.le_of_ble_eq_true rfl) (fun _ _ _ => rfl) ?_
  intro p e s m args below meth c Q ls X hG hl ret
  have hl : lv_has ls 2 [(0, .ref a900), (1, .int x901)] := hl
  obtain ⟨⟨⟨n9, m9, n9p⟩, ⟨n13, m13, n13p⟩, m3, m8⟩, ⟨mN, mP, mG, mL, mF⟩, mO, ⟨mK, mS, mQ, mZ⟩, hN72, hP8, hNP⟩ := id (MM_HB (k0 := k0) (k1 := k1) ok)
  have hu12 := ok.2.2.2
  have hk7 := ok.1.2.1
  have g901 := cI_rng x901
  refine lv_iload_n X.1 X.2.1 dX10_keep_0 rfl (lv_at hl 1 rfl) ?_
  refine n_i2l X dX10_keep_1 (fun w1 t1 => ?_)
  refine n_lc X dX10_keep_2 (fun w2 t2 => ?_)
  have t2 : w2.toInt = 0 := t2
  refine n_lc X dX10_keep_3 (fun w3 t3 => ?_)
  have t3 : w3.toInt = 1 := t3
  refine k_cSi X hG (c_X10_in l D cy τ _ cn_N cn_R (cn_F (S := [])) w1 w2 w3 ) ys_X10_in q_957 ⟨rfl, rfl⟩ ⟨Nat.le_of_ble_eq_true rfl, Nat.le_of_ble_eq_true rfl⟩ rfl hl.1 rfl (Nat.le_of_ble_eq_true rfl) ⟨Nat.zero_le _, Nat.zero_le _⟩ dX10_keep_4 (fun x5 u6 H locs hG po4 => ?_)
  obtain ⟨eu6, po4⟩ := po4
  rw [eu6] at hG
  refine n_if_ne (tgt := 13) X dX10_keep_7 (by decide) (fun c7 => ?_) (fun c7 => ?_)
  · rcases (show x901.toInt = 0 ∨ x901.toInt = 1 by omega) with ci | ci
    · refine lv_aload_n X.1 X.2.1 dX10_keep_13 rfl (lv_at hl 0 rfl) ?_
      refine n_ic X dX10_keep_14 (by decide) (by decide) (fun x8 t8 => ?_)
      refine n_sp X dX10_keep_15 (by decide) (by decide) (fun x9 t9 => ?_)
      refine n_sp X dX10_keep_18 (by decide) (by decide) (fun x10 t10 => ?_)
      refine lv_iload_n X.1 X.2.1 dX10_keep_21 rfl (lv_at hl 1 rfl) ?_
      refine n_mul X dX10_keep_22 (by rw [t10]; omega) (by rw [t10]; omega) (fun x11 t11 => ?_)
      rw [t10] at t11
      refine n_add X dX10_keep_23 (by omega) (by omega) (fun x12 t12 => ?_)
      refine n_sp X dX10_keep_24 (by decide) (by decide) (fun x13 t13 => ?_)
      refine k_cVv X hG (c_X10_copyRow l D cy τ _ hU h900 x8 x12 x13 (0) (3242) (247) (by omega) (by omega) (by omega) (by omega) (by omega) (by omega)) h900 rfl yv_X10_copyRow q_1012 ⟨rfl, rfl⟩ ⟨Nat.le_of_ble_eq_true rfl, Nat.le_of_ble_eq_true rfl⟩ rfl hl.1 rfl (Nat.le_of_ble_eq_true rfl) ⟨Nat.zero_le _, Nat.zero_le _⟩ dX10_keep_27 (fun u15 H locs hG po14 => ?_)
      rw [po14] at hG
      have m15 : True := trivial
      have m3c : (cpM (MM K P N u k0 k1) 0 3242 247) 0 3 = some ((K.2.2.2.2 1002).toInt, (K.2.2.2.2 1002).toInt) := by rw [cpM_ne (by decide), MM_3, sd_eq hs0]
      refine lv_aload_n X.1 X.2.1 dX10_keep_30 rfl (lv_at hl 0 rfl) ?_
      refine gf_10_5 X hG h900 q_881 dX10_keep_31 (cn_N _ _ _ h900) (fun a16 h16 r16 => ?_)
      refine lv_iload_n X.1 X.2.1 dX10_keep_34 rfl (lv_at hl 1 rfl) ?_
      refine lv_aload_n X.1 X.2.1 dX10_keep_35 rfl (lv_at hl 0 rfl) ?_
      refine gf_10_3 X hG h900 q_879 dX10_keep_36 (fun x17 r17 => ?_)
      have b17 := (cn_R _ _ _ _ h900 r17) _ _ m3c
      have i15 : x901.toNatClampNeg = 0 := by have := cI_clamp (x := x901) (by omega); omega
      refine tg_iast X hG h16 rfl (cI_in (n := 2) (by omega)) dX10_keep_39 (cn (s5M (cpM (MM K P N u k0 k1) 0 3242 247) 0 ((K.2.2.2.2 1002).toInt, (K.2.2.2.2 1002).toInt)) τ) (cw_off hU h16 (by decide) (j0 := 0) s5_ne) (by rw [i15]; exact cw_oth h16 s5_ne) (by rw [i15]; exact cw_new h16 (ty_ryes s5_at (by omega))) (fun H locs hG => ?_)
      refine lv_aload_n X.1 X.2.1 dX10_keep_40 rfl (lv_at hl 0 rfl) ?_
      refine gf_10_4 X hG h900 q_880 dX10_keep_41 (cn_N _ _ _ h900) (fun a18 h18 r18 => ?_)
      refine lv_iload_n X.1 X.2.1 dX10_keep_44 rfl (lv_at hl 1 rfl) ?_
      refine n_ic X dX10_keep_45 (by decide) (by decide) (fun x19 t19 => ?_)
      have i14 : x901.toNatClampNeg = 0 := by have := cI_clamp (x := x901) (by omega); omega
      refine tg_zast X hG h18 rfl (cI_in (n := 2) (by omega)) (by omega) dX10_keep_46 (cn (bsM (s5M (cpM (MM K P N u k0 k1) 0 3242 247) 0 ((K.2.2.2.2 1002).toInt, (K.2.2.2.2 1002).toInt)) 0 (1, 1)) τ) (cw_off hU h18 (by decide) (j0 := 0) bsM_ne) (by rw [i14]; exact cw_oth h18 bsM_ne) (by rw [i14]; exact cw_new h18 (ty_ryes bsM_at (by omega))) (fun H locs hG => ?_)
      refine lv_aload_n X.1 X.2.1 dX10_keep_47 rfl (lv_at hl 0 rfl) ?_
      refine n_ic X dX10_keep_48 (by decide) (by decide) (fun x20 t20 => ?_)
      refine pg_10_2 X hG h900 q_878 dX10_keep_49 (cn (fsM (bsM (s5M (cpM (MM K P N u k0 k1) 0 3242 247) 0 ((K.2.2.2.2 1002).toInt, (K.2.2.2.2 1002).toInt)) 0 (1, 1)) 2 (0, 0)) τ) (cf_off hU h900 fsM_ne) (cf_oth fsM_ne) (cw_new h900 (ty_ryes fsM_at (by omega))) (fun H locs hG => ?_)
      have hG := TG.sub hG (im_k (K := K) (P := P) (N := N) (u := u) (k0 := k0) (k1 := k1) (k0' := true) (k1' := k1) (b := 3242) (i := 0) hk7 hs0 ok.2.2.2 (Or.inl ⟨rfl, rfl, rfl, rfl⟩))
      refine n_ic X dX10_keep_52 (by decide) (by decide) (fun x21 t21 => ?_)
      exact ret _ _ _ _ x21 _ hG ⟨fun _ => ⟨by omega, 0, KU_ok (OKG.to ok (by omega)), rfl⟩, fun q => absurd q (by omega), fun q => absurd q (by omega)⟩ dX10_keep_53
    · refine lv_aload_n X.1 X.2.1 dX10_keep_13 rfl (lv_at hl 0 rfl) ?_
      refine n_ic X dX10_keep_14 (by decide) (by decide) (fun x22 t22 => ?_)
      refine n_sp X dX10_keep_15 (by decide) (by decide) (fun x23 t23 => ?_)
      refine n_sp X dX10_keep_18 (by decide) (by decide) (fun x24 t24 => ?_)
      refine lv_iload_n X.1 X.2.1 dX10_keep_21 rfl (lv_at hl 1 rfl) ?_
      refine n_mul X dX10_keep_22 (by rw [t24]; omega) (by rw [t24]; omega) (fun x25 t25 => ?_)
      rw [t24] at t25
      refine n_add X dX10_keep_23 (by omega) (by omega) (fun x26 t26 => ?_)
      refine n_sp X dX10_keep_24 (by decide) (by decide) (fun x27 t27 => ?_)
      refine k_cVv X hG (c_X10_copyRow l D cy τ _ hU h900 x22 x26 x27 (0) (3489) (247) (by omega) (by omega) (by omega) (by omega) (by omega) (by omega)) h900 rfl yv_X10_copyRow q_1012 ⟨rfl, rfl⟩ ⟨Nat.le_of_ble_eq_true rfl, Nat.le_of_ble_eq_true rfl⟩ rfl hl.1 rfl (Nat.le_of_ble_eq_true rfl) ⟨Nat.zero_le _, Nat.zero_le _⟩ dX10_keep_27 (fun u29 H locs hG po28 => ?_)
      rw [po28] at hG
      have m15 : True := trivial
      have m3c : (cpM (MM K P N u k0 k1) 0 3489 247) 0 3 = some ((K.2.2.2.2 1002).toInt, (K.2.2.2.2 1002).toInt) := by rw [cpM_ne (by decide), MM_3, sd_eq hs0]
      refine lv_aload_n X.1 X.2.1 dX10_keep_30 rfl (lv_at hl 0 rfl) ?_
      refine gf_10_5 X hG h900 q_881 dX10_keep_31 (cn_N _ _ _ h900) (fun a30 h30 r30 => ?_)
      refine lv_iload_n X.1 X.2.1 dX10_keep_34 rfl (lv_at hl 1 rfl) ?_
      refine lv_aload_n X.1 X.2.1 dX10_keep_35 rfl (lv_at hl 0 rfl) ?_
      refine gf_10_3 X hG h900 q_879 dX10_keep_36 (fun x31 r31 => ?_)
      have b31 := (cn_R _ _ _ _ h900 r31) _ _ m3c
      have i15 : x901.toNatClampNeg = 1 := by have := cI_clamp (x := x901) (by omega); omega
      refine tg_iast X hG h30 rfl (cI_in (n := 2) (by omega)) dX10_keep_39 (cn (s5M (cpM (MM K P N u k0 k1) 0 3489 247) 1 ((K.2.2.2.2 1002).toInt, (K.2.2.2.2 1002).toInt)) τ) (cw_off hU h30 (by decide) (j0 := 1) s5_ne) (by rw [i15]; exact cw_oth h30 s5_ne) (by rw [i15]; exact cw_new h30 (ty_ryes s5_at (by omega))) (fun H locs hG => ?_)
      refine lv_aload_n X.1 X.2.1 dX10_keep_40 rfl (lv_at hl 0 rfl) ?_
      refine gf_10_4 X hG h900 q_880 dX10_keep_41 (cn_N _ _ _ h900) (fun a32 h32 r32 => ?_)
      refine lv_iload_n X.1 X.2.1 dX10_keep_44 rfl (lv_at hl 1 rfl) ?_
      refine n_ic X dX10_keep_45 (by decide) (by decide) (fun x33 t33 => ?_)
      have i14 : x901.toNatClampNeg = 1 := by have := cI_clamp (x := x901) (by omega); omega
      refine tg_zast X hG h32 rfl (cI_in (n := 2) (by omega)) (by omega) dX10_keep_46 (cn (bsM (s5M (cpM (MM K P N u k0 k1) 0 3489 247) 1 ((K.2.2.2.2 1002).toInt, (K.2.2.2.2 1002).toInt)) 1 (1, 1)) τ) (cw_off hU h32 (by decide) (j0 := 1) bsM_ne) (by rw [i14]; exact cw_oth h32 bsM_ne) (by rw [i14]; exact cw_new h32 (ty_ryes bsM_at (by omega))) (fun H locs hG => ?_)
      refine lv_aload_n X.1 X.2.1 dX10_keep_47 rfl (lv_at hl 0 rfl) ?_
      refine n_ic X dX10_keep_48 (by decide) (by decide) (fun x34 t34 => ?_)
      refine pg_10_2 X hG h900 q_878 dX10_keep_49 (cn (fsM (bsM (s5M (cpM (MM K P N u k0 k1) 0 3489 247) 1 ((K.2.2.2.2 1002).toInt, (K.2.2.2.2 1002).toInt)) 1 (1, 1)) 2 (0, 0)) τ) (cf_off hU h900 fsM_ne) (cf_oth fsM_ne) (cw_new h900 (ty_ryes fsM_at (by omega))) (fun H locs hG => ?_)
      have hG := TG.sub hG (im_k (K := K) (P := P) (N := N) (u := u) (k0 := k0) (k1 := k1) (k0' := k0) (k1' := true) (b := 3489) (i := 1) hk7 hs0 ok.2.2.2 (Or.inr ⟨rfl, rfl, rfl, rfl⟩))
      refine n_ic X dX10_keep_52 (by decide) (by decide) (fun x35 t35 => ?_)
      exact ret _ _ _ _ x35 _ hG ⟨fun q => absurd q (by omega), fun _ => ⟨by omega, 0, KU_ok (OKG.to ok (by omega)), rfl⟩, fun q => absurd q (by omega)⟩ dX10_keep_53
  · refine n_ldc X q_1099 (n := -1000000001) (by decide +kernel) dX10_keep_10 (fun x36 t36 => ?_)
    exact ret _ _ _ _ x36 _ hG ⟨fun q => absurd q (by omega), fun q => absurd q (by omega), fun _ => ⟨by omega, u, ok, rfl⟩⟩ dX10_keep_12
