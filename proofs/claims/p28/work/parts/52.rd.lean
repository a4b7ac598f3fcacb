set_option maxHeartbeats 4000000 in
set_option maxRecDepth 100000 in
theorem c_X10_pass (l : Launch) (D : va_G) (cy : Nat → ClassId) (τ : ty_T) (ρ : ty_R) {M : md_T} (hN : ty_N τ ρ) (hR : ty_Rg M τ ρ) (hF : ty_Wf M τ ρ [1016]) {a900 : Nat} (h900 : τ a900 = some (0, 10)) {Lg lo : Nat} (hR7 : HRd M Lg lo) : KV l D cy yX10_pass cX10_pass 1 (rL 0) τ ρ [.ref a900] (fun w => w = ρ) := by
  refine k_metV "EdgeEchoesModel" rfl (by decide +kernel) (Nat.le_of_ble_eq_true rfl) ?_
  intro p e s m args below meth c Q ls X hG hl ret
  have hl : lv_has ls 1 [(0, .ref a900)] := hl
  obtain ⟨m7, m16, m17, m18, m19, m20, mT, hLg⟩ := id hR7
  obtain ⟨x1, r1, hG⟩ := tg_pin hG h900 16 rfl
  have b1 := (hR _ _ _ _ h900 r1) _ _ m16
  have J0 : ∀ (n : Nat) (H : Heap) (locs : List Loc) (ls : Array Slot) (x2 : Int32), (0 ≤ x2.toInt ∧ x2.toInt ≤ 240) → ((lo : Int) ≤ x2.toInt) → (240 - x2.toInt).toNat < n → TG D cy τ (exs ρ a900 (P1 16 x2)) (ty_d τ) s.heap H locs → lv_has ls 1 [(0, .ref a900)] → W p l e (rL 0) s m args below meth c H locs 0 0 Q (F0 m 0 ls []) := by
    intro n
    induction n with
    | zero => intro H locs ls x2 bx2 iv0_0 hm0 hG hl; exact absurd hm0 (Nat.not_lt_zero _)
    | succ n ih0 =>
      intro H locs ls x2 bx2 iv0_0 hm0 hG hl
      refine lv_aload_n X.1 X.2.1 dX10_pass_0 rfl (lv_at hl 0 rfl) ?_
      refine gf_10_16 X hG h900 q_892 dX10_pass_1 (fun x3 r3 => ?_)
      have e3 := exs_rd r3 (y := x2) rfl
      subst e3
      refine lv_aload_n X.1 X.2.1 dX10_pass_4 rfl (lv_at hl 0 rfl) ?_
      refine gf_10_7 X hG h900 q_883 dX10_pass_5 (fun x4 r4 => ?_)
      have b4 := ((exs_R hR) _ _ _ _ h900 r4) _ _ m7
      refine n_icmp_ge (tgt := 38) X dX10_pass_8 (by decide) (fun c5 => ?_) (fun c5 => ?_)
      · exact ret _ _ _ _ _ (exs_cl hG) rfl dX10_pass_38
      · refine lv_aload_n X.1 X.2.1 dX10_pass_11 rfl (lv_at hl 0 rfl) ?_
        refine gf_10_6 X hG h900 q_882 dX10_pass_12 ((exs_N hN) _ _ _ h900) (fun a6 h6 r6 => ?_)
        refine lv_aload_n X.1 X.2.1 dX10_pass_15 rfl (lv_at hl 0 rfl) ?_
        refine gf_10_16 X hG h900 q_892 dX10_pass_16 (fun x7 r7 => ?_)
        have e7 := exs_rd r7 (y := x2) rfl
        subst e7
        refine tg_iald X hG h6 rfl (cI_in (n := 240) (by omega)) dX10_pass_19 (fun x8 r8 => ?_)
        refine n_bp X dX10_pass_20 (by decide) (by decide) (fun x9 t9 => ?_)
        refine n_icmp_ne (tgt := 38) X dX10_pass_22 (by decide) (fun c10 => ?_) (fun c10 => ?_)
        · exact ret _ _ _ _ _ (exs_cl hG) rfl dX10_pass_38
        · refine lv_aload_n X.1 X.2.1 dX10_pass_25 rfl (lv_at hl 0 rfl) ?_
          refine lv_dup X.1 X.2.1 dX10_pass_26 rfl ?_
          refine gf_10_16 X hG h900 q_892 dX10_pass_27 (fun x11 r11 => ?_)
          have e11 := exs_rd r11 (y := x2) rfl
          subst e11
          refine n_ic X dX10_pass_30 (by decide) (by decide) (fun x12 t12 => ?_)
          refine n_add X dX10_pass_31 (by omega) (by omega) (fun x13 t13 => ?_)
          refine pg_10_16 X hG h900 q_892 dX10_pass_32 (exs ρ a900 (P1 16 x13)) exs_off (exs_oth exs_P1) (exs_new (hF _ _ _ _ h900 (ty_in (n := 1016) rfl) (ty_ryes m16 (by omega))) rfl) (fun H locs hG => ?_)
          refine lv_goto (tgt := 0) X.1 X.2.1 dX10_pass_35 (by decide) ?_
          exact ih0 _ _ _ x13 (by omega) (by omega) (by omega) hG (lv_sub hl [0] rfl)
  exact J0 _ _ _ _ x1 (by omega) (by omega) (Nat.lt_succ_self _) hG (lv_sub hl [0] rfl)
set_option maxHeartbeats 4000000 in
set_option maxRecDepth 100000 in
theorem c_X10_refuse (l : Launch) (D : va_G) (cy : Nat → ClassId) (τ : ty_T) (ρ : ty_R) {M : md_T} (hN : ty_N τ ρ) (hR : ty_Rg M τ ρ) (hF : ty_Wf M τ ρ [1017, 1018]) {a900 : Nat} (h900 : τ a900 = some (0, 10)) (x901 : Int32) (x902 : Int32) {Lg lo : Nat} (hR7 : HRd M Lg lo) : KI l D cy yX10_refuse cX10_refuse 3 .boolean (rL 0) τ ρ [.ref a900, .int x901, .int x902] (fun r u => u = ρ ∧ (r.toInt = 0 ∨ r.toInt = 1) ∧ (0 ≤ r.toInt ∧ r.toInt ≤ 0)) := by
  refine k_metI "EdgeEchoesModel" rfl (by decide +kernel) (Nat.le_of_ble_eq_true rfl) (fun r u h => (cI_nar (cI_01 h.2.1)).1) ?_
  intro p e s m args below meth c Q ls X hG hl ret
  have hl : lv_has ls 3 [(0, .ref a900), (1, .int x901), (2, .int x902)] := hl
  obtain ⟨m7, m16, m17, m18, m19, m20, mT, hLg⟩ := id hR7
  have g901 := cI_rng x901
  have g902 := cI_rng x902
  refine lv_aload_n X.1 X.2.1 dX10_refuse_0 rfl (lv_at hl 0 rfl) ?_
  refine lv_iload_n X.1 X.2.1 dX10_refuse_1 rfl (lv_at hl 1 rfl) ?_
  refine pf_10_17 X hG h900 q_893 dX10_refuse_2 (hF _ _ _ _ h900 (ty_in (n := 1017) rfl) (ty_rno m17)) (fun H locs hG => ?_)
  refine lv_aload_n X.1 X.2.1 dX10_refuse_5 rfl (lv_at hl 0 rfl) ?_
  refine lv_iload_n X.1 X.2.1 dX10_refuse_6 rfl (lv_at hl 2 rfl) ?_
  refine pf_10_18 X hG h900 q_894 dX10_refuse_7 (hF _ _ _ _ h900 (ty_in (n := 1018) rfl) (ty_rno m18)) (fun H locs hG => ?_)
  refine n_ic X dX10_refuse_10 (by decide) (by decide) (fun x1 t1 => ?_)
  exact ret _ _ _ _ x1 _ hG ⟨rfl, by omega⟩ dX10_refuse_11
set_option maxHeartbeats 4000000 in
set_option maxRecDepth 100000 in
theorem c_X10_isFigure (l : Launch) (D : va_G) (cy : Nat → ClassId) (τ : ty_T) (ρ : ty_R) {M : md_T} (hN : ty_N τ ρ) (hR : ty_Rg M τ ρ) (hF : ty_Wf M τ ρ []) {a900 : Nat} (h900 : τ a900 = some (0, 10)) (x901 : Int32) (zx901 : 0 ≤ x901.toInt ∧ x901.toInt ≤ 240) {Lg lo : Nat} (hR7 : HRd M Lg lo) : KI l D cy yX10_isFigure cX10_isFigure 2 .boolean (rL 1) τ ρ [.ref a900, .int x901] (fun r u => u = ρ ∧ (r.toInt = 0 ∨ r.toInt = 1) ∧ (r.toInt ≠ 0 → 0 ≤ x901.toInt ∧ x901.toInt ≤ 239) ∧ (r.toInt ≠ 0 → x901.toInt < (Lg : Int))) := by
  refine k_metI "EdgeEchoesModel" rfl (by decide +kernel) (Nat.le_of_ble_eq_true rfl) (fun r u h => (cI_nar (cI_01 h.2.1)).1) ?_
  intro p e s m args below meth c Q ls X hG hl ret
  have hl : lv_has ls 2 [(0, .ref a900), (1, .int x901)] := hl
  obtain ⟨m7, m16, m17, m18, m19, m20, mT, hLg⟩ := id hR7
  refine lv_iload_n X.1 X.2.1 dX10_isFigure_0 rfl (lv_at hl 1 rfl) ?_
  refine lv_aload_n X.1 X.2.1 dX10_isFigure_1 rfl (lv_at hl 0 rfl) ?_
  refine gf_10_7 X hG h900 q_883 dX10_isFigure_2 (fun x1 r1 => ?_)
  have b1 := (hR _ _ _ _ h900 r1) _ _ m7
  refine n_icmp_ge (tgt := 31) X dX10_isFigure_5 (by decide) (fun c2 => ?_) (fun c2 => ?_)
  · refine n_ic X dX10_isFigure_31 (by decide) (by decide) (fun x3 t3 => ?_)
    exact ret _ _ _ _ x3 _ hG ⟨rfl, by omega⟩ dX10_isFigure_32
  · refine lv_aload_n X.1 X.2.1 dX10_isFigure_8 rfl (lv_at hl 0 rfl) ?_
    refine gf_10_6 X hG h900 q_882 dX10_isFigure_9 (hN _ _ _ h900) (fun a4 h4 r4 => ?_)
    refine lv_iload_n X.1 X.2.1 dX10_isFigure_12 rfl (lv_at hl 1 rfl) ?_
    refine tg_iald X hG h4 rfl (cI_in (n := 240) (by omega)) dX10_isFigure_13 (fun x5 r5 => ?_)
    refine n_i2l X dX10_isFigure_14 (fun w6 t6 => ?_)
    refine n_ldl X q_994 (n := 48) (by decide +kernel) dX10_isFigure_15 (fun w7 e7 t7 => ?_)
    refine n_ldl X q_995 (n := 57) (by decide +kernel) dX10_isFigure_18 (fun w8 e8 t8 => ?_)
    refine k_cSi X hG (c_X10_in l D cy τ _ hN hR (ty_Wf.sub (S' := []) hF (by decide)) w6 w7 w8 ) ys_X10_in q_957 ⟨rfl, rfl⟩ ⟨Nat.le_of_ble_eq_true rfl, Nat.le_of_ble_eq_true rfl⟩ rfl hl.1 rfl (Nat.le_of_ble_eq_true rfl) ⟨Nat.zero_le _, Nat.zero_le _⟩ dX10_isFigure_21 (fun x10 u11 H locs hG po9 => ?_)
    obtain ⟨eu11, po9⟩ := po9
    rw [eu11] at hG
    refine n_if_eq (tgt := 31) X dX10_isFigure_24 (by decide) (fun c12 => ?_) (fun c12 => ?_)
    · refine n_ic X dX10_isFigure_31 (by decide) (by decide) (fun x13 t13 => ?_)
      exact ret _ _ _ _ x13 _ hG ⟨rfl, by omega⟩ dX10_isFigure_32
    · refine n_ic X dX10_isFigure_27 (by decide) (by decide) (fun x14 t14 => ?_)
      refine lv_goto (tgt := 32) X.1 X.2.1 dX10_isFigure_28 (by decide) ?_
      exact ret _ _ _ _ x14 _ hG ⟨rfl, by omega⟩ dX10_isFigure_32
set_option maxHeartbeats 4000000 in
set_option maxRecDepth 100000 in
theorem c_X10_readsEnd (l : Launch) (D : va_G) (cy : Nat → ClassId) (τ : ty_T) (ρ : ty_R) {M : md_T} (hN : ty_N τ ρ) (hR : ty_Rg M τ ρ) (hF : ty_Wf M τ ρ [1016, 1017, 1018]) {a900 : Nat} (h900 : τ a900 = some (0, 10)) {Lg lo : Nat} (hR7 : HRd M Lg lo) : KI l D cy yX10_readsEnd cX10_readsEnd 1 .boolean (rL 1) τ ρ [.ref a900] (fun r u => u = ρ ∧ (r.toInt = 0 ∨ r.toInt = 1)) := by
  refine k_metI "EdgeEchoesModel" rfl (by decide +kernel) (Nat.le_of_ble_eq_true rfl) (fun r u h => (cI_nar (cI_01 h.2)).1) ?_
  intro p e s m args below meth c Q ls X hG hl ret
  have hl : lv_has ls 1 [(0, .ref a900)] := hl
  obtain ⟨m7, m16, m17, m18, m19, m20, mT, hLg⟩ := id hR7
  refine lv_aload_n X.1 X.2.1 dX10_readsEnd_0 rfl (lv_at hl 0 rfl) ?_
  refine k_cVv X hG (c_X10_pass l D cy τ _ hN hR (ty_Wf.sub (S' := [1016]) hF (by decide)) h900 hR7) h900 rfl yv_X10_pass q_970 ⟨rfl, rfl⟩ ⟨Nat.le_of_ble_eq_true rfl, Nat.le_of_ble_eq_true rfl⟩ rfl hl.1 rfl (Nat.le_of_ble_eq_true rfl) ⟨Nat.zero_le _, Nat.zero_le _⟩ dX10_readsEnd_1 (fun u3 H locs hG po1 => ?_)
  rw [po1] at hG
  obtain ⟨x4, r4, hG⟩ := tg_pin hG h900 16 rfl
  have b4 := (hR _ _ _ _ h900 r4) _ _ m16
  refine lv_aload_n X.1 X.2.1 dX10_readsEnd_4 rfl (lv_at hl 0 rfl) ?_
  refine gf_10_16 X hG h900 q_892 dX10_readsEnd_5 (fun x5 r5 => ?_)
  have e5 := exs_rd r5 (y := x4) rfl
  subst e5
  refine lv_aload_n X.1 X.2.1 dX10_readsEnd_8 rfl (lv_at hl 0 rfl) ?_
  refine gf_10_7 X hG h900 q_883 dX10_readsEnd_9 (fun x6 r6 => ?_)
  have b6 := ((exs_R hR) _ _ _ _ h900 r6) _ _ m7
  have J29 : ∀ (H : Heap) (locs : List Loc) (ls : Array Slot), TG D cy τ (exs ρ a900 (P1 16 x4)) (ty_d τ) s.heap H locs → lv_has ls 1 [(0, .ref a900)] → W p l e (rL 1) s m args below meth c H locs 0 0 Q (F0 m 29 ls []) := by
    intro H locs ls hG hl
    refine lv_aload_n X.1 X.2.1 dX10_readsEnd_29 rfl (lv_at hl 0 rfl) ?_
    refine n_ic X dX10_readsEnd_30 (by decide) (by decide) (fun x7 t7 => ?_)
    refine lv_aload_n X.1 X.2.1 dX10_readsEnd_31 rfl (lv_at hl 0 rfl) ?_
    refine gf_10_16 X hG h900 q_892 dX10_readsEnd_32 (fun x8 r8 => ?_)
    have e8 := exs_rd r8 (y := x4) rfl
    subst e8
    refine k_cVi X hG (c_X10_refuse l D cy τ _ (exs_N hN) (exs_R hR) (exs_F1 (ty_Wf.sub (S' := [1017, 1018]) hF (by decide)) h900 (by decide)) h900 x7 x4 hR7) h900 rfl yv_X10_refuse q_978 ⟨rfl, rfl⟩ ⟨Nat.le_of_ble_eq_true rfl, Nat.le_of_ble_eq_true rfl⟩ rfl hl.1 rfl (Nat.le_of_ble_eq_true rfl) ⟨Nat.zero_le _, Nat.zero_le _⟩ dX10_readsEnd_35 (fun x10 u11 H locs hG po9 => ?_)
    obtain ⟨eu11, po9⟩ := po9
    rw [eu11] at hG
    exact ret _ _ _ _ x10 _ (exs_cl hG) ⟨rfl, by omega⟩ dX10_readsEnd_38
  refine n_icmp_eq (tgt := 29) X dX10_readsEnd_12 (by decide) (fun c12 => ?_) (fun c12 => ?_)
  · exact J29 _ _ _  hG (lv_sub hl [0] rfl)
  · refine lv_aload_n X.1 X.2.1 dX10_readsEnd_15 rfl (lv_at hl 0 rfl) ?_
    refine gf_10_6 X hG h900 q_882 dX10_readsEnd_16 ((exs_N hN) _ _ _ h900) (fun a13 h13 r13 => ?_)
    refine lv_aload_n X.1 X.2.1 dX10_readsEnd_19 rfl (lv_at hl 0 rfl) ?_
    refine gf_10_16 X hG h900 q_892 dX10_readsEnd_20 (fun x14 r14 => ?_)
    have e14 := exs_rd r14 (y := x4) rfl
    subst e14
    refine tg_iald X hG h13 rfl (cI_in (n := 240) (by omega)) dX10_readsEnd_23 (fun x15 r15 => ?_)
    refine n_bp X dX10_readsEnd_24 (by decide) (by decide) (fun x16 t16 => ?_)
    refine n_icmp_eq (tgt := 39) X dX10_readsEnd_26 (by decide) (fun c17 => ?_) (fun c17 => ?_)
    · refine lv_aload_n X.1 X.2.1 dX10_readsEnd_39 rfl (lv_at hl 0 rfl) ?_
      refine lv_dup X.1 X.2.1 dX10_readsEnd_40 rfl ?_
      refine gf_10_16 X hG h900 q_892 dX10_readsEnd_41 (fun x18 r18 => ?_)
      have e18 := exs_rd r18 (y := x4) rfl
      subst e18
      refine n_ic X dX10_readsEnd_44 (by decide) (by decide) (fun x19 t19 => ?_)
      refine n_add X dX10_readsEnd_45 (by omega) (by omega) (fun x20 t20 => ?_)
      refine pg_10_16 X hG h900 q_892 dX10_readsEnd_46 (exs ρ a900 (P1 16 x20)) exs_off (exs_oth exs_P1) (exs_new (hF _ _ _ _ h900 (ty_in (n := 1016) rfl) (ty_ryes m16 (by omega))) rfl) (fun H locs hG => ?_)
      refine n_ic X dX10_readsEnd_49 (by decide) (by decide) (fun x21 t21 => ?_)
      exact ret _ _ _ _ x21 _ (exs_cl hG) ⟨rfl, by omega⟩ dX10_readsEnd_50
    · exact J29 _ _ _  hG (lv_sub hl [0] rfl)
set_option maxHeartbeats 4000000 in
set_option maxRecDepth 100000 in
theorem c_X10_readsNumber (l : Launch) (D : va_G) (cy : Nat → ClassId) (τ : ty_T) (M : md_T) (hU : UQ τ) {a900 : Nat} (h900 : τ a900 = some (0, 10)) (x901 : Int32) (zx901 : 0 ≤ x901.toInt ∧ x901.toInt ≤ 1) (x902 : Int32) (zx902 : 2 ≤ x902.toInt ∧ x902.toInt ≤ 99) {Lg lo : Nat} (hR7 : HRd M Lg lo) : KI l D cy yX10_readsNumber cX10_readsNumber 5 .boolean (rL 2) τ (cn M τ) [.ref a900, .int x901, .int x902] (fun r u => ((r.toInt ≠ 0 → u = cn (fsM M 19 (x901.toInt, x902.toInt)) τ) ∧ (r.toInt = 0 → u = cn M τ)) ∧ (r.toInt = 0 ∨ r.toInt = 1)) := by
  refine k_metI "EdgeEchoesModel" rfl (by decide +kernel) (Nat.le_of_ble_eq_true rfl) (fun r u h => (cI_nar (cI_01 h.2)).1) ?_
  intro p e s m args below meth c Q ls X hG hl ret
  have hl : lv_has ls 5 [(0, .ref a900), (1, .int x901), (2, .int x902)] := hl
  obtain ⟨m7, m16, m17, m18, m19, m20, mT, hLg⟩ := id hR7
  refine lv_aload_n X.1 X.2.1 dX10_readsNumber_0 rfl (lv_at hl 0 rfl) ?_
  refine k_cVv X hG (c_X10_pass l D cy τ _ cn_N cn_R (cn_F (S := [1016])) h900 hR7) h900 rfl yv_X10_pass q_970 ⟨rfl, rfl⟩ ⟨Nat.le_of_ble_eq_true rfl, Nat.le_of_ble_eq_true rfl⟩ rfl hl.1 rfl (Nat.le_of_ble_eq_true rfl) ⟨Nat.zero_le _, Nat.zero_le _⟩ dX10_readsNumber_1 (fun u3 H locs hG po1 => ?_)
  rw [po1] at hG
  obtain ⟨x4, x5, r4, r5, hG⟩ := tg_pin2 hG h900 16 19 rfl rfl
  have b4 := (cn_R _ _ _ _ h900 r4) _ _ m16
  have g5 := cI_rng x5
  refine lv_aload_n X.1 X.2.1 dX10_readsNumber_4 rfl (lv_at hl 0 rfl) ?_
  refine gf_10_16 X hG h900 q_892 dX10_readsNumber_5 (fun x6 r6 => ?_)
  have e6 := exs_rd r6 (y := x4) rfl
  subst e6
  refine lv_istore_n (lv' := [(3, .int x4), (0, .ref a900), (1, .int x901), (2, .int x902)]) X.1 X.2.1 dX10_readsNumber_8 rfl hl (by decide) rfl (fun ls hl => ?_)
  refine lv_aload_n X.1 X.2.1 dX10_readsNumber_9 rfl (lv_at hl 1 rfl) ?_
  refine lv_aload_n X.1 X.2.1 dX10_readsNumber_10 rfl (lv_at hl 1 rfl) ?_
  refine gf_10_16 X hG h900 q_892 dX10_readsNumber_11 (fun x7 r7 => ?_)
  have e7 := exs_rd r7 (y := x4) rfl
  subst e7
  refine k_cVi X hG (c_X10_isFigure l D cy τ _ (exs_N cn_N) (exs_R cn_R) (exs_F2 (cn_F (S := [])) h900 (by decide)) h900 x4 (by omega) hR7) h900 rfl yv_X10_isFigure q_990 ⟨rfl, rfl⟩ ⟨Nat.le_of_ble_eq_true rfl, Nat.le_of_ble_eq_true rfl⟩ rfl hl.1 rfl (Nat.le_of_ble_eq_true rfl) ⟨Nat.zero_le _, Nat.zero_le _⟩ dX10_readsNumber_14 (fun x9 u10 H locs hG po8 => ?_)
  obtain ⟨eu10, po8⟩ := po8
  rw [eu10] at hG
  refine n_if_ne (tgt := 30) X dX10_readsNumber_17 (by decide) (fun c11 => ?_) (fun c11 => ?_)
  · refine n_ic X dX10_readsNumber_30 (by decide) (by decide) (fun x12 t12 => ?_)
    refine lv_istore (lv' := [(4, .int x12), (3, .int x4), (0, .ref a900), (1, .int x901), (2, .int x902)]) X.1 X.2.1 dX10_readsNumber_31 hl (by decide) rfl (fun ls hl => ?_)
    have J33 : ∀ (n : Nat) (H : Heap) (locs : List Loc) (ls : Array Slot) (x13 : Int32) (x14 : Int32), (0 ≤ x14.toInt ∧ x14.toInt ≤ 240) → ((lo : Int) ≤ x14.toInt) → (240 - x14.toInt).toNat < n → TG D cy τ (exs (cn M τ) a900 (P2 16 x14 19 x5)) (ty_d τ) s.heap H locs → lv_has ls 5 [(0, .ref a900), (1, .int x901), (2, .int x902), (3, .int x4), (4, .int x13)] → W p l e (rL 2) s m args below meth c H locs 0 0 Q (F0 m 33 ls []) := by
      intro n
      induction n with
      | zero => intro H locs ls x13 x14 bx14 iv33_0 hm33 hG hl; exact absurd hm33 (Nat.not_lt_zero _)
      | succ n ih33 =>
        intro H locs ls x13 x14 bx14 iv33_0 hm33 hG hl
        have gx13 := cI_rng x13
        refine lv_aload_n X.1 X.2.1 dX10_readsNumber_33 rfl (lv_at hl 0 rfl) ?_
        refine lv_aload_n X.1 X.2.1 dX10_readsNumber_34 rfl (lv_at hl 0 rfl) ?_
        refine gf_10_16 X hG h900 q_892 dX10_readsNumber_35 (fun x15 r15 => ?_)
        have e15 := exs_rd r15 (y := x14) rfl
        subst e15
        refine k_cVi X hG (c_X10_isFigure l D cy τ _ (exs_N cn_N) (exs_R cn_R) (exs_F2 (cn_F (S := [])) h900 (by decide)) h900 x14 (by omega) hR7) h900 rfl yv_X10_isFigure q_990 ⟨rfl, rfl⟩ ⟨Nat.le_of_ble_eq_true rfl, Nat.le_of_ble_eq_true rfl⟩ rfl hl.1 rfl (Nat.le_of_ble_eq_true rfl) ⟨Nat.zero_le _, Nat.zero_le _⟩ dX10_readsNumber_38 (fun x17 u18 H locs hG po16 => ?_)
        obtain ⟨eu18, po16⟩ := po16
        rw [eu18] at hG
        refine n_if_eq (tgt := 92) X dX10_readsNumber_41 (by decide) (fun c19 => ?_) (fun c19 => ?_)
        · refine lv_aload_n X.1 X.2.1 dX10_readsNumber_92 rfl (lv_at hl 0 rfl) ?_
          refine lv_iload X.1 X.2.1 dX10_readsNumber_93 (lv_at hl 4 rfl) ?_
          refine pg_10_19 X hG h900 q_895 dX10_readsNumber_95 (exs (cn M τ) a900 (P2 16 x14 19 x13)) exs_off (exs_oth exs_P2b) (exs_new (cn_F (S := [1019]) _ _ _ _ h900 (ty_in (n := 1019) rfl) (ty_rno m19)) rfl) (fun H locs hG => ?_)
          refine lv_aload_n X.1 X.2.1 dX10_readsNumber_98 rfl (lv_at hl 0 rfl) ?_
          refine gf_10_16 X hG h900 q_892 dX10_readsNumber_99 (fun x20 r20 => ?_)
          have e20 := exs_rd r20 (y := x14) rfl
          subst e20
          refine lv_iload_n X.1 X.2.1 dX10_readsNumber_102 rfl (lv_at hl 3 rfl) ?_
          refine n_sub X dX10_readsNumber_103 (by omega) (by omega) (fun x21 t21 => ?_)
          refine n_ic X dX10_readsNumber_104 (by decide) (by decide) (fun x22 t22 => ?_)
          have J121 : ∀ (H : Heap) (locs : List Loc) (ls : Array Slot), TG D cy τ (exs (cn M τ) a900 (P2 16 x14 19 x13)) (ty_d τ) s.heap H locs → lv_has ls 5 [(0, .ref a900), (1, .int x901), (2, .int x902), (3, .int x4), (4, .int x13)] → W p l e (rL 2) s m args below meth c H locs 0 0 Q (F0 m 121 ls []) := by
            intro H locs ls hG hl
            refine lv_aload_n X.1 X.2.1 dX10_readsNumber_121 rfl (lv_at hl 0 rfl) ?_
            refine n_ic X dX10_readsNumber_122 (by decide) (by decide) (fun x23 t23 => ?_)
            refine lv_iload_n X.1 X.2.1 dX10_readsNumber_123 rfl (lv_at hl 3 rfl) ?_
            refine k_cVi X hG (c_X10_refuse l D cy τ _ (exs_N cn_N) (exs_R cn_R) (exs_F2 (cn_F (S := [1017, 1018])) h900 (by decide)) h900 x23 x4 hR7) h900 rfl yv_X10_refuse q_978 ⟨rfl, rfl⟩ ⟨Nat.le_of_ble_eq_true rfl, Nat.le_of_ble_eq_true rfl⟩ rfl hl.1 rfl (Nat.le_of_ble_eq_true rfl) ⟨Nat.zero_le _, Nat.zero_le _⟩ dX10_readsNumber_124 (fun x25 u26 H locs hG po24 => ?_)
            obtain ⟨eu26, po24⟩ := po24
            rw [eu26] at hG
            refine n_if_eq (tgt := 134) X dX10_readsNumber_127 (by decide) (fun c27 => ?_) (fun c27 => ?_)
            · refine n_ic X dX10_readsNumber_134 (by decide) (by decide) (fun x28 t28 => ?_)
              exact ret _ _ _ _ x28 _ (exs_cl hG) ⟨⟨(fun h => absurd (show x28.toInt = 0 by omega) h), fun _ => rfl⟩, by omega⟩ dX10_readsNumber_135
            · exact absurd c27 (by omega)
          refine n_icmp_ge (tgt := 121) X dX10_readsNumber_105 (by decide) (fun c29 => ?_) (fun c29 => ?_)
          · exact J121 _ _ _  hG (lv_sub hl [0, 1, 2, 3, 4] rfl)
          · refine lv_iload X.1 X.2.1 dX10_readsNumber_108 (lv_at hl 4 rfl) ?_
            refine n_i2l X dX10_readsNumber_110 (fun w30 t30 => ?_)
            refine lv_iload_n X.1 X.2.1 dX10_readsNumber_111 rfl (lv_at hl 1 rfl) ?_
            refine n_i2l X dX10_readsNumber_112 (fun w31 t31 => ?_)
            refine lv_iload_n X.1 X.2.1 dX10_readsNumber_113 rfl (lv_at hl 2 rfl) ?_
            refine n_i2l X dX10_readsNumber_114 (fun w32 t32 => ?_)
            refine k_cSi X hG (c_X10_in l D cy τ _ (exs_N cn_N) (exs_R cn_R) (exs_F2 (cn_F (S := [])) h900 (by decide)) w30 w31 w32 ) ys_X10_in q_957 ⟨rfl, rfl⟩ ⟨Nat.le_of_ble_eq_true rfl, Nat.le_of_ble_eq_true rfl⟩ rfl hl.1 rfl (Nat.le_of_ble_eq_true rfl) ⟨Nat.zero_le _, Nat.zero_le _⟩ dX10_readsNumber_115 (fun x34 u35 H locs hG po33 => ?_)
            obtain ⟨eu35, po33⟩ := po33
            rw [eu35] at hG
            refine n_if_ne (tgt := 130) X dX10_readsNumber_118 (by decide) (fun c36 => ?_) (fun c36 => ?_)
            · refine n_ic X dX10_readsNumber_130 (by decide) (by decide) (fun x37 t37 => ?_)
              refine lv_goto (tgt := 135) X.1 X.2.1 dX10_readsNumber_131 (by decide) ?_
              exact ret _ _ _ _ x37 _ (exs_fs hU h900 (lo := x901.toInt) (hi := x902.toInt) (by decide) hG (by omega)) ⟨⟨(fun _ => rfl), fun h => absurd h (by omega)⟩, by omega⟩ dX10_readsNumber_135
            · exact J121 _ _ _  hG (lv_sub hl [0, 1, 2, 3, 4] rfl)
        · refine lv_aload_n X.1 X.2.1 dX10_readsNumber_44 rfl (lv_at hl 0 rfl) ?_
          refine gf_10_16 X hG h900 q_892 dX10_readsNumber_45 (fun x38 r38 => ?_)
          have e38 := exs_rd r38 (y := x14) rfl
          subst e38
          refine lv_iload_n X.1 X.2.1 dX10_readsNumber_48 rfl (lv_at hl 3 rfl) ?_
          refine n_sub X dX10_readsNumber_49 (by omega) (by omega) (fun x39 t39 => ?_)
          refine n_ic X dX10_readsNumber_50 (by decide) (by decide) (fun x40 t40 => ?_)
          have J77 : ∀ (H : Heap) (locs : List Loc) (ls : Array Slot) (x41 : Int32), TG D cy τ (exs (cn M τ) a900 (P2 16 x14 19 x5)) (ty_d τ) s.heap H locs → lv_has ls 5 [(0, .ref a900), (1, .int x901), (2, .int x902), (3, .int x4), (4, .int x13)] → W p l e (rL 2) s m args below meth c H locs 0 0 Q (F0 m 77 ls [.int x41]) := by
            intro H locs ls x41 hG hl
            have gx41 := cI_rng x41
            refine lv_istore (lv' := [(4, .int x41), (0, .ref a900), (1, .int x901), (2, .int x902), (3, .int x4)]) X.1 X.2.1 dX10_readsNumber_77 hl (by decide) rfl (fun ls hl => ?_)
            refine lv_aload_n X.1 X.2.1 dX10_readsNumber_79 rfl (lv_at hl 1 rfl) ?_
            refine lv_dup X.1 X.2.1 dX10_readsNumber_80 rfl ?_
            refine gf_10_16 X hG h900 q_892 dX10_readsNumber_81 (fun x42 r42 => ?_)
            have e42 := exs_rd r42 (y := x14) rfl
            subst e42
            refine n_ic X dX10_readsNumber_84 (by decide) (by decide) (fun x43 t43 => ?_)
            refine n_add X dX10_readsNumber_85 (by omega) (by omega) (fun x44 t44 => ?_)
            refine pg_10_16 X hG h900 q_892 dX10_readsNumber_86 (exs (cn M τ) a900 (P2 16 x44 19 x5)) exs_off (exs_oth exs_P2a) (exs_new (cn_F (S := [1016]) _ _ _ _ h900 (ty_in (n := 1016) rfl) (ty_ryes m16 (by omega))) rfl) (fun H locs hG => ?_)
            refine lv_goto (tgt := 33) X.1 X.2.1 dX10_readsNumber_89 (by decide) ?_
            exact ih33 _ _ _ x41 x44 (by omega) (by omega) (by omega) hG (lv_sub hl [1, 2, 3, 4, 0] rfl)
          refine n_icmp_ge (tgt := 75) X dX10_readsNumber_51 (by decide) (fun c45 => ?_) (fun c45 => ?_)
          · refine lv_iload X.1 X.2.1 dX10_readsNumber_75 (lv_at hl 4 rfl) ?_
            exact J77 _ _ _ x13 hG (lv_sub hl [0, 1, 2, 3, 4] rfl)
          · refine n_bp X dX10_readsNumber_54 (by decide) (by decide) (fun x46 t46 => ?_)
            refine lv_iload X.1 X.2.1 dX10_readsNumber_56 (lv_at hl 4 rfl) ?_
            refine lv_imul X.1 X.2.1 dX10_readsNumber_58 ?_
            refine n_any (fun x47 => ?_)
            refine lv_aload_n X.1 X.2.1 dX10_readsNumber_59 rfl (lv_at hl 0 rfl) ?_
            refine gf_10_6 X hG h900 q_882 dX10_readsNumber_60 ((exs_N cn_N) _ _ _ h900) (fun a48 h48 r48 => ?_)
            refine lv_aload_n X.1 X.2.1 dX10_readsNumber_63 rfl (lv_at hl 0 rfl) ?_
            refine gf_10_16 X hG h900 q_892 dX10_readsNumber_64 (fun x49 r49 => ?_)
            have e49 := exs_rd r49 (y := x14) rfl
            subst e49
            refine tg_iald X hG h48 rfl (cI_in (n := 240) (by omega)) dX10_readsNumber_67 (fun x50 r50 => ?_)
            refine lv_iadd X.1 X.2.1 dX10_readsNumber_68 ?_
            refine n_any (fun x51 => ?_)
            refine n_bp X dX10_readsNumber_69 (by decide) (by decide) (fun x52 t52 => ?_)
            refine lv_isub X.1 X.2.1 dX10_readsNumber_71 ?_
            refine n_any (fun x53 => ?_)
            refine lv_goto (tgt := 77) X.1 X.2.1 dX10_readsNumber_72 (by decide) ?_
            exact J77 _ _ _ x53 hG (lv_sub hl [0, 1, 2, 3, 4] rfl)
    exact J33 _ _ _ _ x12 x4 (by omega) (by omega) (Nat.lt_succ_self _) hG (lv_sub hl [2, 3, 4, 1, 0] rfl)
  · refine lv_aload_n X.1 X.2.1 dX10_readsNumber_20 rfl (lv_at hl 1 rfl) ?_
    refine n_ic X dX10_readsNumber_21 (by decide) (by decide) (fun x54 t54 => ?_)
    refine lv_aload_n X.1 X.2.1 dX10_readsNumber_22 rfl (lv_at hl 1 rfl) ?_
    refine gf_10_16 X hG h900 q_892 dX10_readsNumber_23 (fun x55 r55 => ?_)
    have e55 := exs_rd r55 (y := x4) rfl
    subst e55
    refine k_cVi X hG (c_X10_refuse l D cy τ _ (exs_N cn_N) (exs_R cn_R) (exs_F2 (cn_F (S := [1017, 1018])) h900 (by decide)) h900 x54 x4 hR7) h900 rfl yv_X10_refuse q_978 ⟨rfl, rfl⟩ ⟨Nat.le_of_ble_eq_true rfl, Nat.le_of_ble_eq_true rfl⟩ rfl hl.1 rfl (Nat.le_of_ble_eq_true rfl) ⟨Nat.zero_le _, Nat.zero_le _⟩ dX10_readsNumber_26 (fun x57 u58 H locs hG po56 => ?_)
    obtain ⟨eu58, po56⟩ := po56
    rw [eu58] at hG
    exact ret _ _ _ _ x57 _ (exs_cl hG) ⟨⟨(fun h => absurd (show x57.toInt = 0 by omega) h), fun _ => rfl⟩, by omega⟩ dX10_readsNumber_29
set_option maxHeartbeats 4000000 in
set_option maxRecDepth 100000 in
theorem c_X10_readsDriver (l : Launch) (D : va_G) (cy : Nat → ClassId) (τ : ty_T) (M : md_T) (hU : UQ τ) {a900 : Nat} (h900 : τ a900 = some (0, 10)) {Lg lo : Nat} (hR7 : HRd M Lg lo) (hRw : HRw M) : KI l D cy yX10_readsDriver cX10_readsDriver 1 .boolean (rL 3) τ (cn M τ) [.ref a900] (fun r u => u = (cn M τ) ∧ (r.toInt = 0 ∨ r.toInt = 1)) := by
  refine k_metI "EdgeEchoesModel" rfl (by decide +kernel) (Nat.le_of_ble_eq_true rfl) (fun r u h => (cI_nar (cI_01 h.2)).1) ?_
  intro p e s m args below meth c Q ls X hG hl ret
  have hl : lv_has ls 1 [(0, .ref a900)] := hl
  obtain ⟨m7, m16, m17, m18, m19, m20, mT, hLg⟩ := id hR7
  obtain ⟨w27, w28, w29, w30, w31, w43⟩ := id hRw
  refine lv_aload_n X.1 X.2.1 dX10_readsDriver_0 rfl (lv_at hl 0 rfl) ?_
  refine n_ic X dX10_readsDriver_1 (by decide) (by decide) (fun x1 t1 => ?_)
  refine n_bp X dX10_readsDriver_2 (by decide) (by decide) (fun x2 t2 => ?_)
  refine k_cVi X hG (c_X10_readsNumber l D cy τ _ hU h900 x1 (by omega) x2 (by omega) hR7) h900 rfl yv_X10_readsNumber q_986 ⟨rfl, rfl⟩ ⟨Nat.le_of_ble_eq_true rfl, Nat.le_of_ble_eq_true rfl⟩ rfl hl.1 rfl (Nat.le_of_ble_eq_true rfl) ⟨Nat.zero_le _, Nat.zero_le _⟩ dX10_readsDriver_4 (fun x4 u5 H locs hG po3 => ?_)
  rcases (show x4.toInt = 0 ∨ x4.toInt ≠ 0 by omega) with cz | cz
  · rw [po3.1.2 cz] at hG
    refine n_if_ne (tgt := 12) X dX10_readsDriver_7 (by decide) (fun c6 => ?_) (fun c6 => ?_)
    · exact absurd c6 (by omega)
    · refine n_ic X dX10_readsDriver_10 (by decide) (by decide) (fun x7 t7 => ?_)
      exact ret _ _ _ _ x7 _ hG ⟨rfl, by omega⟩ dX10_readsDriver_11
  · rw [po3.1.1 cz] at hG
    refine n_if_ne (tgt := 12) X dX10_readsDriver_7 (by decide) (fun c8 => ?_) (fun c8 => ?_)
    · refine lv_aload_n X.1 X.2.1 dX10_readsDriver_12 rfl (lv_at hl 0 rfl) ?_
      refine gf_10_0 X hG h900 q_876 dX10_readsDriver_13 (cn_N _ _ _ h900) (fun a9 h9 r9 => ?_)
      refine n_sp X dX10_readsDriver_16 (by decide) (by decide) (fun x10 t10 => ?_)
      refine lv_aload_n X.1 X.2.1 dX10_readsDriver_19 rfl (lv_at hl 0 rfl) ?_
      refine gf_10_19 X hG h900 q_895 dX10_readsDriver_20 (fun x11 r11 => ?_)
      have b11 := (cn_R _ _ _ _ h900 r11) _ _ fsM_at
      have hG := TG.sub hG (fs_back m19)
      refine tg_iasf X hG h9 rfl (cI_in (n := 4261) (by omega)) dX10_readsDriver_23 (cn_F (S := [6010]) _ _ _ _ h9 (ty_in (n := 6010) rfl) (ty_ryes (wAt (n := 4229) (by omega) w29) (by omega))) (fun H locs hG => ?_)
      refine lv_aload_n X.1 X.2.1 dX10_readsDriver_24 rfl (lv_at hl 0 rfl) ?_
      refine n_ic X dX10_readsDriver_25 (by decide) (by decide) (fun x12 t12 => ?_)
      refine n_bp X dX10_readsDriver_26 (by decide) (by decide) (fun x13 t13 => ?_)
      refine k_cVi X hG (c_X10_readsNumber l D cy τ _ hU h900 x12 (by omega) x13 (by omega) hR7) h900 rfl yv_X10_readsNumber q_986 ⟨rfl, rfl⟩ ⟨Nat.le_of_ble_eq_true rfl, Nat.le_of_ble_eq_true rfl⟩ rfl hl.1 rfl (Nat.le_of_ble_eq_true rfl) ⟨Nat.zero_le _, Nat.zero_le _⟩ dX10_readsDriver_28 (fun x15 u16 H locs hG po14 => ?_)
      rcases (show x15.toInt = 0 ∨ x15.toInt ≠ 0 by omega) with cz | cz
      · rw [po14.1.2 cz] at hG
        refine n_if_ne (tgt := 36) X dX10_readsDriver_31 (by decide) (fun c17 => ?_) (fun c17 => ?_)
        · exact absurd c17 (by omega)
        · refine n_ic X dX10_readsDriver_34 (by decide) (by decide) (fun x18 t18 => ?_)
          exact ret _ _ _ _ x18 _ hG ⟨rfl, by omega⟩ dX10_readsDriver_35
      · rw [po14.1.1 cz] at hG
        refine n_if_ne (tgt := 36) X dX10_readsDriver_31 (by decide) (fun c19 => ?_) (fun c19 => ?_)
        · refine lv_aload_n X.1 X.2.1 dX10_readsDriver_36 rfl (lv_at hl 0 rfl) ?_
          refine gf_10_0 X hG h900 q_876 dX10_readsDriver_37 (cn_N _ _ _ h900) (fun a20 h20 r20 => ?_)
          refine n_sp X dX10_readsDriver_40 (by decide) (by decide) (fun x21 t21 => ?_)
          refine lv_aload_n X.1 X.2.1 dX10_readsDriver_43 rfl (lv_at hl 0 rfl) ?_
          refine gf_10_19 X hG h900 q_895 dX10_readsDriver_44 (fun x22 r22 => ?_)
          have b22 := (cn_R _ _ _ _ h900 r22) _ _ fsM_at
          have hG := TG.sub hG (fs_back m19)
          refine tg_iasf X hG h20 rfl (cI_in (n := 4261) (by omega)) dX10_readsDriver_47 (cn_F (S := [6010]) _ _ _ _ h20 (ty_in (n := 6010) rfl) (ty_rno (wNo (n := 4231) (by omega) w31))) (fun H locs hG => ?_)
          refine lv_aload_n X.1 X.2.1 dX10_readsDriver_48 rfl (lv_at hl 0 rfl) ?_
          refine k_cVi X hG (c_X10_readsEnd l D cy τ _ cn_N cn_R (cn_F (S := [1016, 1017, 1018])) h900 hR7) h900 rfl yv_X10_readsEnd q_996 ⟨rfl, rfl⟩ ⟨Nat.le_of_ble_eq_true rfl, Nat.le_of_ble_eq_true rfl⟩ rfl hl.1 rfl (Nat.le_of_ble_eq_true rfl) ⟨Nat.zero_le _, Nat.zero_le _⟩ dX10_readsDriver_49 (fun x24 u25 H locs hG po23 => ?_)
          obtain ⟨eu25, po23⟩ := po23
          rw [eu25] at hG
          exact ret _ _ _ _ x24 _ hG ⟨rfl, by omega⟩ dX10_readsDriver_52
        · exact absurd c19 (by omega)
    · exact absurd c8 (by omega)
set_option maxHeartbeats 4000000 in
set_option maxRecDepth 100000 in
theorem c_X10_readsTheEnd (l : Launch) (D : va_G) (cy : Nat → ClassId) (τ : ty_T) (M : md_T) (hU : UQ τ) {a900 : Nat} (h900 : τ a900 = some (0, 10)) {Lg lo : Nat} (hR7 : HRd M Lg lo) (hRw : HRw M) : KI l D cy yX10_readsTheEnd cX10_readsTheEnd 1 .boolean (rL 3) τ (cn M τ) [.ref a900] (fun r u => u = (cn M τ) ∧ (r.toInt = 0 ∨ r.toInt = 1)) := by
  refine k_metI "EdgeEchoesModel" rfl (by decide +kernel) (Nat.le_of_ble_eq_true rfl) (fun r u h => (cI_nar (cI_01 h.2)).1) ?_
  intro p e s m args below meth c Q ls X hG hl ret
  have hl : lv_has ls 1 [(0, .ref a900)] := hl
  obtain ⟨m7, m16, m17, m18, m19, m20, mT, hLg⟩ := id hR7
  obtain ⟨w27, w28, w29, w30, w31, w43⟩ := id hRw
  refine lv_aload_n X.1 X.2.1 dX10_readsTheEnd_0 rfl (lv_at hl 0 rfl) ?_
  refine gf_10_20 X hG h900 q_896 dX10_readsTheEnd_1 (fun x1 b1 r1 => ?_)
  refine n_if_eq (tgt := 19) X dX10_readsTheEnd_4 (by decide) (fun c2 => ?_) (fun c2 => ?_)
  · refine lv_aload_n X.1 X.2.1 dX10_readsTheEnd_19 rfl (lv_at hl 0 rfl) ?_
    refine n_ic X dX10_readsTheEnd_20 (by decide) (by decide) (fun x3 t3 => ?_)
    refine pf_10_20 X hG h900 q_896 (by omega) dX10_readsTheEnd_21 (cn_F (S := [1020]) _ _ _ _ h900 (ty_in (n := 1020) rfl) (ty_rno m20)) (fun H locs hG => ?_)
    refine lv_aload_n X.1 X.2.1 dX10_readsTheEnd_24 rfl (lv_at hl 0 rfl) ?_
    refine n_ic X dX10_readsTheEnd_25 (by decide) (by decide) (fun x4 t4 => ?_)
    refine n_ic X dX10_readsTheEnd_26 (by decide) (by decide) (fun x5 t5 => ?_)
    refine k_cVi X hG (c_X10_readsNumber l D cy τ _ hU h900 x4 (by omega) x5 (by omega) hR7) h900 rfl yv_X10_readsNumber q_986 ⟨rfl, rfl⟩ ⟨Nat.le_of_ble_eq_true rfl, Nat.le_of_ble_eq_true rfl⟩ rfl hl.1 rfl (Nat.le_of_ble_eq_true rfl) ⟨Nat.zero_le _, Nat.zero_le _⟩ dX10_readsTheEnd_27 (fun x7 u8 H locs hG po6 => ?_)
    rcases (show x7.toInt = 0 ∨ x7.toInt ≠ 0 by omega) with cz | cz
    · rw [po6.1.2 cz] at hG
      refine n_if_ne (tgt := 35) X dX10_readsTheEnd_30 (by decide) (fun c9 => ?_) (fun c9 => ?_)
      · exact absurd c9 (by omega)
      · refine n_ic X dX10_readsTheEnd_33 (by decide) (by decide) (fun x10 t10 => ?_)
        exact ret _ _ _ _ x10 _ hG ⟨rfl, by omega⟩ dX10_readsTheEnd_34
    · rw [po6.1.1 cz] at hG
      refine n_if_ne (tgt := 35) X dX10_readsTheEnd_30 (by decide) (fun c11 => ?_) (fun c11 => ?_)
      · refine lv_aload_n X.1 X.2.1 dX10_readsTheEnd_35 rfl (lv_at hl 0 rfl) ?_
        refine gf_10_0 X hG h900 q_876 dX10_readsTheEnd_36 (cn_N _ _ _ h900) (fun a12 h12 r12 => ?_)
        refine n_sp X dX10_readsTheEnd_39 (by decide) (by decide) (fun x13 t13 => ?_)
        refine lv_aload_n X.1 X.2.1 dX10_readsTheEnd_42 rfl (lv_at hl 0 rfl) ?_
        refine gf_10_19 X hG h900 q_895 dX10_readsTheEnd_43 (fun x14 r14 => ?_)
        have b14 := (cn_R _ _ _ _ h900 r14) _ _ fsM_at
        have hG := TG.sub hG (fs_back m19)
        refine tg_iasf X hG h12 rfl (cI_in (n := 4261) (by omega)) dX10_readsTheEnd_46 (cn_F (S := [6010]) _ _ _ _ h12 (ty_in (n := 6010) rfl) (ty_rno (wNo (n := 4227) (by omega) w27))) (fun H locs hG => ?_)
        refine lv_aload_n X.1 X.2.1 dX10_readsTheEnd_47 rfl (lv_at hl 0 rfl) ?_
        refine n_ic X dX10_readsTheEnd_48 (by decide) (by decide) (fun x15 t15 => ?_)
        refine n_bp X dX10_readsTheEnd_49 (by decide) (by decide) (fun x16 t16 => ?_)
        refine k_cVi X hG (c_X10_readsNumber l D cy τ _ hU h900 x15 (by omega) x16 (by omega) hR7) h900 rfl yv_X10_readsNumber q_986 ⟨rfl, rfl⟩ ⟨Nat.le_of_ble_eq_true rfl, Nat.le_of_ble_eq_true rfl⟩ rfl hl.1 rfl (Nat.le_of_ble_eq_true rfl) ⟨Nat.zero_le _, Nat.zero_le _⟩ dX10_readsTheEnd_51 (fun x18 u19 H locs hG po17 => ?_)
        rcases (show x18.toInt = 0 ∨ x18.toInt ≠ 0 by omega) with cz | cz
        · rw [po17.1.2 cz] at hG
          refine n_if_ne (tgt := 59) X dX10_readsTheEnd_54 (by decide) (fun c20 => ?_) (fun c20 => ?_)
          · exact absurd c20 (by omega)
          · refine n_ic X dX10_readsTheEnd_57 (by decide) (by decide) (fun x21 t21 => ?_)
            exact ret _ _ _ _ x21 _ hG ⟨rfl, by omega⟩ dX10_readsTheEnd_58
        · rw [po17.1.1 cz] at hG
          refine n_if_ne (tgt := 59) X dX10_readsTheEnd_54 (by decide) (fun c22 => ?_) (fun c22 => ?_)
          · refine lv_aload_n X.1 X.2.1 dX10_readsTheEnd_59 rfl (lv_at hl 0 rfl) ?_
            refine gf_10_0 X hG h900 q_876 dX10_readsTheEnd_60 (cn_N _ _ _ h900) (fun a23 h23 r23 => ?_)
            refine n_sp X dX10_readsTheEnd_63 (by decide) (by decide) (fun x24 t24 => ?_)
            refine lv_aload_n X.1 X.2.1 dX10_readsTheEnd_66 rfl (lv_at hl 0 rfl) ?_
            refine gf_10_19 X hG h900 q_895 dX10_readsTheEnd_67 (fun x25 r25 => ?_)
            have b25 := (cn_R _ _ _ _ h900 r25) _ _ fsM_at
            have hG := TG.sub hG (fs_back m19)
            refine tg_iasf X hG h23 rfl (cI_in (n := 4261) (by omega)) dX10_readsTheEnd_70 (cn_F (S := [6010]) _ _ _ _ h23 (ty_in (n := 6010) rfl) (ty_ryes (wAt (n := 4228) (by omega) w28) (by omega))) (fun H locs hG => ?_)
            refine lv_aload_n X.1 X.2.1 dX10_readsTheEnd_71 rfl (lv_at hl 0 rfl) ?_
            refine k_cVi X hG (c_X10_readsEnd l D cy τ _ cn_N cn_R (cn_F (S := [1016, 1017, 1018])) h900 hR7) h900 rfl yv_X10_readsEnd q_996 ⟨rfl, rfl⟩ ⟨Nat.le_of_ble_eq_true rfl, Nat.le_of_ble_eq_true rfl⟩ rfl hl.1 rfl (Nat.le_of_ble_eq_true rfl) ⟨Nat.zero_le _, Nat.zero_le _⟩ dX10_readsTheEnd_72 (fun x27 u28 H locs hG po26 => ?_)
            obtain ⟨eu28, po26⟩ := po26
            rw [eu28] at hG
            exact ret _ _ _ _ x27 _ hG ⟨rfl, by omega⟩ dX10_readsTheEnd_75
          · exact absurd c22 (by omega)
      · exact absurd c11 (by omega)
  · refine lv_aload_n X.1 X.2.1 dX10_readsTheEnd_7 rfl (lv_at hl 0 rfl) ?_
    refine n_ic X dX10_readsTheEnd_8 (by decide) (by decide) (fun x29 t29 => ?_)
    refine lv_aload_n X.1 X.2.1 dX10_readsTheEnd_9 rfl (lv_at hl 0 rfl) ?_
    refine gf_10_16 X hG h900 q_892 dX10_readsTheEnd_10 (fun x30 r30 => ?_)
    have b30 := (cn_R _ _ _ _ h900 r30) _ _ m16
    refine n_ic X dX10_readsTheEnd_13 (by decide) (by decide) (fun x31 t31 => ?_)
    refine n_sub X dX10_readsTheEnd_14 (by omega) (by omega) (fun x32 t32 => ?_)
    refine k_cVi X hG (c_X10_refuse l D cy τ _ cn_N cn_R (cn_F (S := [1017, 1018])) h900 x29 x32 hR7) h900 rfl yv_X10_refuse q_978 ⟨rfl, rfl⟩ ⟨Nat.le_of_ble_eq_true rfl, Nat.le_of_ble_eq_true rfl⟩ rfl hl.1 rfl (Nat.le_of_ble_eq_true rfl) ⟨Nat.zero_le _, Nat.zero_le _⟩ dX10_readsTheEnd_15 (fun x34 u35 H locs hG po33 => ?_)
    obtain ⟨eu35, po33⟩ := po33
    rw [eu35] at hG
    exact ret _ _ _ _ x34 _ hG ⟨rfl, by omega⟩ dX10_readsTheEnd_18
