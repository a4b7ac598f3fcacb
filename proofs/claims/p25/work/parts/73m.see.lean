/-! append, see, tear of the class to the number -/
set_option maxHeartbeats 4000000 in
set_option maxRecDepth 100000 in
theorem e_X5_append (l : Launch) (D : va_G) (cy : Nat → ClassId) (τ : ty_T) {F : Nat → Nat → Option Value} (hs : SUP τ F) {n : Nat} (hn : n ≤ 6) {a900 : Nat} (h900 : τ a900 = some (0, 5)) (fn : F a900 4 = some (.int (nI n))) (x901 : Int32) (zx901 : 0 ≤ x901.toInt ∧ x901.toInt ≤ 150) (x902 : Int32) (x903 : Int32) (zx903 : x903.toInt = 0 ∨ x903.toInt = 1) : KI l D cy yX5_append cX5_append 4 .boolean (rL 0) τ (pv F (cn Mx τ)) [.ref a900, .int x901, .int x902, .int x903] (fun r u => (n = 6 → r.toInt = 0 ∧ u = pv F (cn Mx τ)) ∧ (n ≠ 6 → r.toInt = 1 ∧ u = pv (fu F a900 4 (.int (nI (n + 1)))) (cn Mx τ))) := by
  refine k_metI "EdgeEchoes$Suspects" rfl (by decide +kernel) (Nat.le_of_ble_eq_true rfl) (fun r u h => (cI_nar (cI_01 (by by_cases q : n = 6; exact Or.inl (h.1 q).1; exact Or.inr (h.2 q).1))).1) ?_
  intro p e s m args below meth c Q ls X hG hl ret
  have hl : lv_has ls 4 [(0, .ref a900), (1, .int x901), (2, .int x902), (3, .int x903)] := hl
  have g902 := cI_rng x902
  have hN : ty_N τ (pv F (cn Mx τ)) := pv_N cn_N
  have hF : ty_Wf Mx τ (pv F (cn Mx τ)) [5000, 5001, 6007] := sup_F hs (by decide)
  have en : (nI n).toInt = (n : Int) := cI_nI (by omega)
  refine lv_aload_n X.1 X.2.1 dX5_append_0 rfl (lv_at hl 0 rfl) ?_
  refine gf_5_4 X hG h900 q_232 dX5_append_1 (fun x2 r2 => ?_)
  have e2 := pv_i r2 fn
  subst e2
  refine n_if_lt (tgt := 16) X dX5_append_4 (by decide) (fun c3 => ?_) (fun c3 => ?_)
  · refine n_ic X dX5_append_16 (by decide) (by decide) (fun x4 t4 => ?_)
    exact ret _ _ _ _ x4 _ hG ⟨fun _ => ⟨by omega, rfl⟩, fun q => absurd (show n = 6 by omega) q⟩ dX5_append_17
  · refine lv_aload_n X.1 X.2.1 dX5_append_7 rfl (lv_at hl 0 rfl) ?_
    refine gf_5_4 X hG h900 q_232 dX5_append_8 (fun x5 r5 => ?_)
    have e5 := pv_i r5 fn
    subst e5
    refine n_bp X dX5_append_11 (by decide) (by decide) (fun x6 t6 => ?_)
    refine n_icmp_lt (tgt := 18) X dX5_append_13 (by decide) (fun c7 => ?_) (fun c7 => ?_)
    · refine lv_aload_n X.1 X.2.1 dX5_append_18 rfl (lv_at hl 0 rfl) ?_
      refine gf_5_0 X hG h900 q_228 dX5_append_19 (hN _ _ _ h900) (fun a8 h8 r8 => ?_)
      refine lv_aload_n X.1 X.2.1 dX5_append_22 rfl (lv_at hl 0 rfl) ?_
      refine gf_5_4 X hG h900 q_232 dX5_append_23 (fun x9 r9 => ?_)
      have e9 := pv_i r9 fn
      subst e9
      refine lv_iload_n X.1 X.2.1 dX5_append_26 rfl (lv_at hl 1 rfl) ?_
      refine tg_iasf X hG h8 rfl (cI_in (n := 6) (by omega)) dX5_append_27 ((ty_Wf.sub (S' := [6007]) hF (by decide)) _ _ _ _ h8 (ty_in (n := 6007) rfl) (ty_ryes rfl (by omega))) (fun H locs hG => ?_)
      refine lv_aload_n X.1 X.2.1 dX5_append_28 rfl (lv_at hl 0 rfl) ?_
      refine gf_5_1 X hG h900 q_229 dX5_append_29 (hN _ _ _ h900) (fun a10 h10 r10 => ?_)
      refine lv_aload_n X.1 X.2.1 dX5_append_32 rfl (lv_at hl 0 rfl) ?_
      refine gf_5_4 X hG h900 q_232 dX5_append_33 (fun x11 r11 => ?_)
      have e11 := pv_i r11 fn
      subst e11
      refine lv_iload_n X.1 X.2.1 dX5_append_36 rfl (lv_at hl 2 rfl) ?_
      refine tg_iasf X hG h10 rfl (cI_in (n := 6) (by omega)) dX5_append_37 ((ty_Wf.sub (S' := [5000]) hF (by decide)) _ _ _ _ h10 (ty_in (n := 5000) rfl) (ty_rno rfl)) (fun H locs hG => ?_)
      refine lv_aload_n X.1 X.2.1 dX5_append_38 rfl (lv_at hl 0 rfl) ?_
      refine gf_5_2 X hG h900 q_230 dX5_append_39 (hN _ _ _ h900) (fun a12 h12 r12 => ?_)
      refine lv_aload_n X.1 X.2.1 dX5_append_42 rfl (lv_at hl 0 rfl) ?_
      refine gf_5_4 X hG h900 q_232 dX5_append_43 (fun x13 r13 => ?_)
      have e13 := pv_i r13 fn
      subst e13
      refine lv_iload_n X.1 X.2.1 dX5_append_46 rfl (lv_at hl 3 rfl) ?_
      refine tg_zast X hG h12 rfl (cI_in (n := 6) (by omega)) (by omega) dX5_append_47 (pv F (cn Mx τ)) (fun _ _ _ _ h => h) (fun _ _ _ h => h) ((ty_Wf.sub (S' := [5001]) hF (by decide)) _ _ _ _ h12 (ty_in (n := 5001) rfl) (ty_rno rfl)) (fun H locs hG => ?_)
      refine lv_aload_n X.1 X.2.1 dX5_append_48 rfl (lv_at hl 0 rfl) ?_
      refine lv_dup X.1 X.2.1 dX5_append_49 rfl ?_
      refine gf_5_4 X hG h900 q_232 dX5_append_50 (fun x14 r14 => ?_)
      have e14 := pv_i r14 fn
      subst e14
      refine n_ic X dX5_append_53 (by decide) (by decide) (fun x15 t15 => ?_)
      refine n_add X dX5_append_54 (by omega) (by omega) (fun x16 t16 => ?_)
      have e16 : x16 = nI (n + 1) := cI_inj (by rw [cI_nI (by omega)]; omega)
      subst e16
      refine pg_5_4 X hG h900 q_232 dX5_append_55 (pv (fu F a900 4 (.int (nI (n + 1)))) (cn Mx τ)) pv_off pv_oth (pv_new (cn_F (S := [504]) _ _ _ _ h900 (ty_in (n := 504) rfl) (ty_rno rfl))) (fun H locs hG => ?_)
      refine n_ic X dX5_append_58 (by decide) (by decide) (fun x17 t17 => ?_)
      exact ret _ _ _ _ x17 _ hG ⟨fun q => absurd q (by omega), fun _ => ⟨by omega, rfl⟩⟩ dX5_append_59
    · refine n_ic X dX5_append_16 (by decide) (by decide) (fun x18 t18 => ?_)
      exact ret _ _ _ _ x18 _ hG ⟨fun _ => ⟨by omega, rfl⟩, fun q => absurd (show n = 6 by omega) q⟩ dX5_append_17
set_option maxHeartbeats 4000000 in
set_option maxRecDepth 100000 in
theorem e_X9_see (l : Launch) (D : va_G) (cy : Nat → ClassId) (τ : ty_T) {F : Nat → Nat → Option Value} (hs : SUP τ F) {a900 : Nat} (h900 : τ a900 = some (0, 9)) {su n : Nat} (hsu : τ su = some (0, 5)) (fsu : F a900 4 = some (.ref su)) (fn : F su 4 = some (.int (nI n))) (hn : n ≤ 6) (x901 : Int32) (x902 : Int32) (x903 : Int32) (zx903 : x903.toInt = 0 ∨ x903.toInt = 1) : KI l D cy yX9_see cX9_see 4 .int (rL 1) τ (pv F (cn Mx τ)) [.ref a900, .int x901, .int x902, .int x903] (fun r u => (seeO x901 x902 → r.toInt = -1000000002 ∧ u = pv F (cn Mx τ)) ∧ (¬ seeO x901 x902 → n = 6 → r.toInt = -1000000004 ∧ u = pv F (cn Mx τ)) ∧ (¬ seeO x901 x902 → n ≠ 6 → r.toInt = (n : Int) + 1 ∧ u = pv (fu F su 4 (.int (nI (n + 1)))) (cn Mx τ))) := by
  refine k_metI "EdgeEchoes" rfl (by decide +kernel) (Nat.le_of_ble_eq_true rfl) (fun _ _ _ => rfl) ?_
  intro p e s m args below meth c Q ls X hG hl ret
  have hl : lv_has ls 4 [(0, .ref a900), (1, .int x901), (2, .int x902), (3, .int x903)] := hl
  have hN : ty_N τ (pv F (cn Mx τ)) := pv_N cn_N
  have ns : a900 ≠ su := fun q => by rw [q, hsu] at h900; cases h900
  have g901 := cI_rng x901
  have g902 := cI_rng x902
  refine lv_iload_n X.1 X.2.1 dX9_see_0 rfl (lv_at hl 1 rfl) ?_
  refine n_ic X dX9_see_1 (by decide) (by decide) (fun x1 t1 => ?_)
  refine n_icmp_lt (tgt := 23) X dX9_see_2 (by decide) (fun c2 => ?_) (fun c2 => ?_)
  · refine n_ldc X q_327 (n := -1000000002) (by decide +kernel) dX9_see_23 (fun x3 t3 => ?_)
    exact ret _ _ _ _ x3 _ hG ⟨fun _ => ⟨by omega, rfl⟩, fun q => absurd (show seeO x901 x902 by unfold seeO; omega) q, fun q => absurd (show seeO x901 x902 by unfold seeO; omega) q⟩ dX9_see_25
  · refine lv_iload_n X.1 X.2.1 dX9_see_5 rfl (lv_at hl 1 rfl) ?_
    refine n_sp X dX9_see_6 (by decide) (by decide) (fun x4 t4 => ?_)
    refine n_icmp_gt (tgt := 23) X dX9_see_9 (by decide) (fun c5 => ?_) (fun c5 => ?_)
    · refine n_ldc X q_327 (n := -1000000002) (by decide +kernel) dX9_see_23 (fun x6 t6 => ?_)
      exact ret _ _ _ _ x6 _ hG ⟨fun _ => ⟨by omega, rfl⟩, fun q => absurd (show seeO x901 x902 by unfold seeO; omega) q, fun q => absurd (show seeO x901 x902 by unfold seeO; omega) q⟩ dX9_see_25
    · refine lv_iload_n X.1 X.2.1 dX9_see_12 rfl (lv_at hl 2 rfl) ?_
      refine n_if_lt (tgt := 23) X dX9_see_13 (by decide) (fun c7 => ?_) (fun c7 => ?_)
      · refine n_ldc X q_327 (n := -1000000002) (by decide +kernel) dX9_see_23 (fun x8 t8 => ?_)
        exact ret _ _ _ _ x8 _ hG ⟨fun _ => ⟨by omega, rfl⟩, fun q => absurd (show seeO x901 x902 by unfold seeO; omega) q, fun q => absurd (show seeO x901 x902 by unfold seeO; omega) q⟩ dX9_see_25
      · refine lv_iload_n X.1 X.2.1 dX9_see_16 rfl (lv_at hl 2 rfl) ?_
        refine n_ldcw X q_791 (n := 99000) (by decide +kernel) dX9_see_17 (fun x9 t9 => ?_)
        refine n_icmp_le (tgt := 26) X dX9_see_20 (by decide) (fun c10 => ?_) (fun c10 => ?_)
        · refine lv_aload_n X.1 X.2.1 dX9_see_26 rfl (lv_at hl 0 rfl) ?_
          refine gf_9_4 X hG h900 q_299 dX9_see_27 (hN _ _ _ h900) (fun a11 h11 r11 => ?_)
          have e11 := pv_rd r11 fsu
          cases e11
          refine lv_iload_n X.1 X.2.1 dX9_see_30 rfl (lv_at hl 1 rfl) ?_
          refine lv_iload_n X.1 X.2.1 dX9_see_31 rfl (lv_at hl 2 rfl) ?_
          refine lv_iload_n X.1 X.2.1 dX9_see_32 rfl (lv_at hl 3 rfl) ?_
          refine k_cVi X hG (e_X5_append l D cy τ hs hn h11 fn x901 (by omega) x902 x903 (by omega)) h11 rfl yv_X5_append q_792 ⟨rfl, rfl⟩ ⟨Nat.le_of_ble_eq_true rfl, Nat.le_of_ble_eq_true rfl⟩ rfl hl.1 rfl (Nat.le_of_ble_eq_true rfl) ⟨Nat.zero_le _, Nat.zero_le _⟩ dX9_see_33 (fun x13 u14 H locs hG po12 => ?_)
          obtain ⟨w1, w2⟩ := po12
          have hno : ¬ seeO x901 x902 := by unfold seeO; omega
          by_cases hn6 : n = 6
          · obtain ⟨w3, w4⟩ := w1 hn6
            rw [w4] at hG
            refine n_if_eq (tgt := 49) X dX9_see_36 (by decide) (fun c15 => ?_) (fun c15 => ?_)
            · refine n_ldc X q_332 (n := -1000000004) (by decide +kernel) dX9_see_49 (fun x16 t16 => ?_)
              exact ret _ _ _ _ x16 _ hG ⟨fun q => absurd q hno, fun _ _ => ⟨by omega, rfl⟩, fun _ q => absurd hn6 q⟩ dX9_see_51
            · exact absurd w3 c15
          · obtain ⟨w3, w4⟩ := w2 hn6
            rw [w4] at hG
            refine n_if_eq (tgt := 49) X dX9_see_36 (by decide) (fun c15 => ?_) (fun c15 => ?_)
            · exact absurd c15 (by omega)
            · refine lv_aload_n X.1 X.2.1 dX9_see_39 rfl (lv_at hl 0 rfl) ?_
              refine gf_9_4 X hG h900 q_299 dX9_see_40 (pv_N cn_N _ _ _ h900) (fun a17 h17 r17 => ?_)
              have e17 := pv_rd r17 ((fu_b ns).trans fsu)
              cases e17
              refine gf_5_4 X hG h17 q_233 dX9_see_43 (fun x18 r18 => ?_)
              have u18 := pv_i r18 fu_at
              subst u18
              refine lv_goto (tgt := 51) X.1 X.2.1 dX9_see_46 (by decide) ?_
              exact ret _ _ _ _ _ _ hG ⟨fun q => absurd q hno, fun _ q => absurd q hn6, fun _ _ => ⟨by rw [cI_nI (by omega)]; rfl, rfl⟩⟩ dX9_see_51
        · refine n_ldc X q_327 (n := -1000000002) (by decide +kernel) dX9_see_23 (fun x19 t19 => ?_)
          exact ret _ _ _ _ x19 _ hG ⟨fun _ => ⟨by omega, rfl⟩, fun q => absurd (show seeO x901 x902 by unfold seeO; omega) q, fun q => absurd (show seeO x901 x902 by unfold seeO; omega) q⟩ dX9_see_25
set_option maxHeartbeats 4000000 in
set_option maxRecDepth 100000 in
theorem e_X9_tear (l : Launch) (D : va_G) (cy : Nat → ClassId) (τ : ty_T) {F : Nat → Nat → Option Value} (hs : SUP τ F) {a900 : Nat} (h900 : τ a900 = some (0, 9)) {su : Nat} (hsu : τ su = some (0, 5)) (fsu : F a900 4 = some (.ref su)) : KI l D cy yX9_tear cX9_tear 2 .int (rL 0) τ (pv F (cn Mx τ)) [.ref a900] (fun r u => u = pv (fu F su 4 (.int (nI 0))) (cn Mx τ) ∧ True) := by
  refine k_metI "EdgeEchoes" rfl (by decide +kernel) (Nat.le_of_ble_eq_true rfl) (fun _ _ _ => rfl) ?_
  intro p e s m args below meth c Q ls X hG hl ret
  have hl : lv_has ls 2 [(0, .ref a900)] := hl
  have hN : ty_N τ (pv F (cn Mx τ)) := pv_N cn_N
  refine lv_aload_n X.1 X.2.1 dX9_tear_0 rfl (lv_at hl 0 rfl) ?_
  refine gf_9_4 X hG h900 q_299 dX9_tear_1 (hN _ _ _ h900) (fun a1 h1 r1 => ?_)
  refine gf_5_4 X hG h1 q_233 dX9_tear_4 (fun x2 r2 => ?_)
  have g2 := cI_rng x2
  refine lv_aload_n X.1 X.2.1 dX9_tear_7 rfl (lv_at hl 0 rfl) ?_
  refine gf_9_5 X hG h900 q_300 dX9_tear_8 (hN _ _ _ h900) (fun a3 h3 r3 => ?_)
  refine gf_0_2 X hG h3 q_267 dX9_tear_11 (fun x4 r4 => ?_)
  have g4 := cI_rng x4
  refine lv_iadd X.1 X.2.1 dX9_tear_14 ?_
  refine n_any (fun x5 => ?_)
  refine lv_istore_n (lv' := [(1, .int x5), (0, .ref a900)]) X.1 X.2.1 dX9_tear_15 rfl hl (by decide) rfl (fun ls hl => ?_)
  refine lv_aload_n X.1 X.2.1 dX9_tear_16 rfl (lv_at hl 1 rfl) ?_
  refine gf_9_4 X hG h900 q_299 dX9_tear_17 (hN _ _ _ h900) (fun a6 h6 r6 => ?_)
  refine n_ic X dX9_tear_20 (by decide) (by decide) (fun x7 t7 => ?_)
  have e7 : x7 = nI 0 := cI_inj (by rw [t7, cI_nI (by omega)]; rfl)
  subst e7
  have e6 := pv_rd r6 fsu
  cases e6
  refine pg_5_4 X hG h6 q_233 dX9_tear_21 (pv (fu F su 4 (.int (nI 0))) (cn Mx τ)) pv_off pv_oth (pv_new (cn_F (S := [504]) _ _ _ _ h6 (ty_in (n := 504) rfl) (ty_rno rfl))) (fun H locs hG => ?_)
  have hN2 : ty_N τ (pv (fu F su 4 (.int (nI 0))) (cn Mx τ)) := pv_N cn_N
  have hF2 : ty_Wf Mx τ (pv (fu F su 4 (.int (nI 0))) (cn Mx τ)) [2] := sup_F (sup_fu hs (x := .int (nI 0)) h6 (j := 4) (by decide)) (by decide)
  refine lv_aload_n X.1 X.2.1 dX9_tear_24 rfl (lv_at hl 1 rfl) ?_
  refine gf_9_5 X hG h900 q_300 dX9_tear_25 (hN2 _ _ _ h900) (fun a8 h8 r8 => ?_)
  refine n_ic X dX9_tear_28 (by decide) (by decide) (fun x9 t9 => ?_)
  refine pf_0_2 X hG h8 q_267 dX9_tear_29 (hF2 _ _ _ _ h8 (ty_in (n := 2) rfl) (ty_rno rfl)) (fun H locs hG => ?_)
  refine lv_iload_n X.1 X.2.1 dX9_tear_32 rfl (lv_at hl 0 rfl) ?_
  exact ret _ _ _ _ x5 _ hG ⟨rfl, trivial⟩ dX9_tear_33
