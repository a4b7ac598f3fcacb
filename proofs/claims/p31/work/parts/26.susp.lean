set_option maxHeartbeats 4000000 in
set_option maxRecDepth 100000 in
theorem c_X5_append (l : Launch) (D : va_G) (cy : Nat → ClassId) (τ : ty_T) (ρ : ty_R) {M : md_T} (hN : ty_N τ ρ) (hR : ty_Rg M τ ρ) (hF : ty_Wf M τ ρ [504, 5000, 5001, 6007]) {a900 : Nat} (h900 : τ a900 = some (0, 5)) (x901 : Int32) (zx901 : 0 ≤ x901.toInt ∧ x901.toInt ≤ 150) (x902 : Int32) (x903 : Int32) (zx903 : x903.toInt = 0 ∨ x903.toInt = 1) : KI l D cy yX5_append cX5_append 4 .boolean (rL 0) τ ρ [.ref a900, .int x901, .int x902, .int x903] (fun r u => u = ρ ∧ (r.toInt = 0 ∨ r.toInt = 1)) := by
  refine k_metI "EdgeEchoes$Suspects" rfl (by decide +kernel) (Nat.le_of_ble_eq_true rfl) (fun r u h => (cI_nar (cI_01 h.2)).1) ?_
  intro p e s m args below meth c Q ls X hG hl ret
  have hl : lv_has ls 4 [(0, .ref a900), (1, .int x901), (2, .int x902), (3, .int x903)] := hl
  have g902 := cI_rng x902
  obtain ⟨x1, r1, hG⟩ := tg_pin hG h900 4 rfl
  have g1 := cI_rng x1
  refine lv_aload_n X.1 X.2.1 dX5_append_0 rfl (lv_at hl 0 rfl) ?_
  refine gf_5_4 X hG h900 q_232 dX5_append_1 (fun x2 r2 => ?_)
  have e2 := exs_rd r2 (y := x1) rfl
  subst e2
  refine n_if_lt (tgt := 16) X dX5_append_4 (by decide) (fun c3 => ?_) (fun c3 => ?_)
  · refine n_ic X dX5_append_16 (by decide) (by decide) (fun x4 t4 => ?_)
    exact ret _ _ _ _ x4 _ (exs_cl hG) ⟨rfl, by omega⟩ dX5_append_17
  · refine lv_aload_n X.1 X.2.1 dX5_append_7 rfl (lv_at hl 0 rfl) ?_
    refine gf_5_4 X hG h900 q_232 dX5_append_8 (fun x5 r5 => ?_)
    have e5 := exs_rd r5 (y := x1) rfl
    subst e5
    refine n_bp X dX5_append_11 (by decide) (by decide) (fun x6 t6 => ?_)
    refine n_icmp_lt (tgt := 18) X dX5_append_13 (by decide) (fun c7 => ?_) (fun c7 => ?_)
    · refine lv_aload_n X.1 X.2.1 dX5_append_18 rfl (lv_at hl 0 rfl) ?_
      refine gf_5_0 X hG h900 q_228 dX5_append_19 ((exs_N hN) _ _ _ h900) (fun a8 h8 r8 => ?_)
      refine lv_aload_n X.1 X.2.1 dX5_append_22 rfl (lv_at hl 0 rfl) ?_
      refine gf_5_4 X hG h900 q_232 dX5_append_23 (fun x9 r9 => ?_)
      have e9 := exs_rd r9 (y := x1) rfl
      subst e9
      refine lv_iload_n X.1 X.2.1 dX5_append_26 rfl (lv_at hl 1 rfl) ?_
      refine tg_iasf X hG h8 rfl (cI_in (n := 6) (by omega)) dX5_append_27 ((exs_F1 (ty_Wf.sub (S' := [6007]) hF (by decide)) h900 (by decide)) _ _ _ _ h8 (ty_in (n := 6007) rfl) (ty_ryes rfl (by omega))) (fun H locs hG => ?_)
      refine lv_aload_n X.1 X.2.1 dX5_append_28 rfl (lv_at hl 0 rfl) ?_
      refine gf_5_1 X hG h900 q_229 dX5_append_29 ((exs_N hN) _ _ _ h900) (fun a10 h10 r10 => ?_)
      refine lv_aload_n X.1 X.2.1 dX5_append_32 rfl (lv_at hl 0 rfl) ?_
      refine gf_5_4 X hG h900 q_232 dX5_append_33 (fun x11 r11 => ?_)
      have e11 := exs_rd r11 (y := x1) rfl
      subst e11
      refine lv_iload_n X.1 X.2.1 dX5_append_36 rfl (lv_at hl 2 rfl) ?_
      refine tg_iasf X hG h10 rfl (cI_in (n := 6) (by omega)) dX5_append_37 ((exs_F1 (ty_Wf.sub (S' := [5000]) hF (by decide)) h900 (by decide)) _ _ _ _ h10 (ty_in (n := 5000) rfl) (ty_rno rfl)) (fun H locs hG => ?_)
      refine lv_aload_n X.1 X.2.1 dX5_append_38 rfl (lv_at hl 0 rfl) ?_
      refine gf_5_2 X hG h900 q_230 dX5_append_39 ((exs_N hN) _ _ _ h900) (fun a12 h12 r12 => ?_)
      refine lv_aload_n X.1 X.2.1 dX5_append_42 rfl (lv_at hl 0 rfl) ?_
      refine gf_5_4 X hG h900 q_232 dX5_append_43 (fun x13 r13 => ?_)
      have e13 := exs_rd r13 (y := x1) rfl
      subst e13
      refine lv_iload_n X.1 X.2.1 dX5_append_46 rfl (lv_at hl 3 rfl) ?_
      refine tg_zast X hG h12 rfl (cI_in (n := 6) (by omega)) (by omega) dX5_append_47 (exs ρ a900 (P1 4 x1)) (fun _ _ _ _ h => h) (fun _ _ _ h => h) ((exs_F1 (ty_Wf.sub (S' := [5001]) hF (by decide)) h900 (by decide)) _ _ _ _ h12 (ty_in (n := 5001) rfl) (ty_rno rfl)) (fun H locs hG => ?_)
      refine lv_aload_n X.1 X.2.1 dX5_append_48 rfl (lv_at hl 0 rfl) ?_
      refine lv_dup X.1 X.2.1 dX5_append_49 rfl ?_
      refine gf_5_4 X hG h900 q_232 dX5_append_50 (fun x14 r14 => ?_)
      have e14 := exs_rd r14 (y := x1) rfl
      subst e14
      refine n_ic X dX5_append_53 (by decide) (by decide) (fun x15 t15 => ?_)
      refine n_add X dX5_append_54 (by omega) (by omega) (fun x16 t16 => ?_)
      refine pg_5_4 X hG h900 q_232 dX5_append_55 (exs ρ a900 (P1 4 x16)) exs_off (exs_oth exs_P1) (exs_new (hF _ _ _ _ h900 (ty_in (n := 504) rfl) (ty_rno rfl)) rfl) (fun H locs hG => ?_)
      refine n_ic X dX5_append_58 (by decide) (by decide) (fun x17 t17 => ?_)
      exact ret _ _ _ _ x17 _ (exs_cl hG) ⟨rfl, by omega⟩ dX5_append_59
    · refine n_ic X dX5_append_16 (by decide) (by decide) (fun x18 t18 => ?_)
      exact ret _ _ _ _ x18 _ (exs_cl hG) ⟨rfl, by omega⟩ dX5_append_17
set_option maxHeartbeats 4000000 in
set_option maxRecDepth 100000 in
theorem c_X5_lastSeenTick (l : Launch) (D : va_G) (cy : Nat → ClassId) (τ : ty_T) (ρ : ty_R) {M : md_T} (hN : ty_N τ ρ) (hR : ty_Rg M τ ρ) (hF : ty_Wf M τ ρ []) {a900 : Nat} (h900 : τ a900 = some (0, 5)) : KI l D cy yX5_lastSeenTick cX5_lastSeenTick 3 .int (rL 1) τ ρ [.ref a900] (fun r u => u = ρ ∧ (0 ≤ r.toInt ∧ r.toInt ≤ 150)) := by
  refine k_metI "EdgeEchoes$Suspects" rfl (by decide +kernel) (Nat.le_of_ble_eq_true rfl) (fun _ _ _ => rfl) ?_
  intro p e s m args below meth c Q ls X hG hl ret
  have hl : lv_has ls 3 [(0, .ref a900)] := hl
  refine n_ic X dX5_lastSeenTick_0 (by decide) (by decide) (fun x1 t1 => ?_)
  refine lv_istore_n (lv' := [(1, .int x1), (0, .ref a900)]) X.1 X.2.1 dX5_lastSeenTick_1 rfl hl (by decide) rfl (fun ls hl => ?_)
  refine n_ic X dX5_lastSeenTick_2 (by decide) (by decide) (fun x2 t2 => ?_)
  refine lv_istore_n (lv' := [(2, .int x2), (1, .int x1), (0, .ref a900)]) X.1 X.2.1 dX5_lastSeenTick_3 rfl hl (by decide) rfl (fun ls hl => ?_)
  have J4 : ∀ (n : Nat) (H : Heap) (locs : List Loc) (ls : Array Slot) (x3 : Int32) (x4 : Int32), (0 ≤ x3.toInt ∧ x3.toInt ≤ 150) → (0 ≤ x4.toInt ∧ x4.toInt ≤ 6) → (6 - x4.toInt).toNat < n → TG D cy τ ρ (ty_d τ) s.heap H locs → lv_has ls 3 [(0, .ref a900), (1, .int x3), (2, .int x4)] → W p l e (rL 1) s m args below meth c H locs 0 0 Q (F0 m 4 ls []) := by
    intro n
    induction n with
    | zero => intro H locs ls x3 x4 bx3 bx4 hm4 hG hl; exact absurd hm4 (Nat.not_lt_zero _)
    | succ n ih4 =>
      intro H locs ls x3 x4 bx3 bx4 hm4 hG hl
      refine lv_iload_n X.1 X.2.1 dX5_lastSeenTick_4 rfl (lv_at hl 2 rfl) ?_
      refine lv_aload_n X.1 X.2.1 dX5_lastSeenTick_5 rfl (lv_at hl 0 rfl) ?_
      refine gf_5_4 X hG h900 q_232 dX5_lastSeenTick_6 (fun x5 r5 => ?_)
      have g5 := cI_rng x5
      refine n_icmp_ge (tgt := 35) X dX5_lastSeenTick_9 (by decide) (fun c6 => ?_) (fun c6 => ?_)
      · refine lv_iload_n X.1 X.2.1 dX5_lastSeenTick_35 rfl (lv_at hl 1 rfl) ?_
        exact ret _ _ _ _ x3 _ hG ⟨rfl, by omega⟩ dX5_lastSeenTick_36
      · refine lv_iload_n X.1 X.2.1 dX5_lastSeenTick_12 rfl (lv_at hl 2 rfl) ?_
        refine n_bp X dX5_lastSeenTick_13 (by decide) (by decide) (fun x7 t7 => ?_)
        refine n_icmp_ge (tgt := 35) X dX5_lastSeenTick_15 (by decide) (fun c8 => ?_) (fun c8 => ?_)
        · refine lv_iload_n X.1 X.2.1 dX5_lastSeenTick_35 rfl (lv_at hl 1 rfl) ?_
          exact ret _ _ _ _ x3 _ hG ⟨rfl, by omega⟩ dX5_lastSeenTick_36
        · refine lv_iload_n X.1 X.2.1 dX5_lastSeenTick_18 rfl (lv_at hl 1 rfl) ?_
          refine lv_aload_n X.1 X.2.1 dX5_lastSeenTick_19 rfl (lv_at hl 0 rfl) ?_
          refine gf_5_0 X hG h900 q_228 dX5_lastSeenTick_20 (hN _ _ _ h900) (fun a9 h9 r9 => ?_)
          refine lv_iload_n X.1 X.2.1 dX5_lastSeenTick_23 rfl (lv_at hl 2 rfl) ?_
          refine tg_iald X hG h9 rfl (cI_in (n := 6) (by omega)) dX5_lastSeenTick_24 (fun x10 r10 => ?_)
          have b10 := (hR _ _ _ _ h9 r10) _ _ rfl
          refine n_max X hl.1 q_814 q_411 q_15 q_412 (Nat.le_of_ble_eq_true rfl) (Nat.le_of_ble_eq_true rfl) ⟨Nat.zero_le _, Nat.zero_le _⟩ dX5_lastSeenTick_25 (fun x11 t11 => ?_)
          refine lv_istore_n (lv' := [(1, .int x11), (0, .ref a900), (2, .int x4)]) X.1 X.2.1 dX5_lastSeenTick_28 rfl hl (by decide) rfl (fun ls hl => ?_)
          refine n_inc X (fun z13 => [(2, .int z13), (1, .int x11), (0, .ref a900)]) dX5_lastSeenTick_29 hl (k := 2) rfl (by decide) (by decide) (by omega) (by omega) (by decide) (fun _ => rfl) (fun x12 ls t12 hl => ?_)
          have hl : lv_has ls 3 [(2, .int x12), (1, .int x11), (0, .ref a900)] := hl
          refine lv_goto (tgt := 4) X.1 X.2.1 dX5_lastSeenTick_32 (by decide) ?_
          exact ih4 _ _ _ x11 x12 (by omega) (by omega) (by omega) hG (lv_sub hl [2, 1, 0] rfl)
  exact J4 _ _ _ _ x1 x2 (by omega) (by omega) (Nat.lt_succ_self _) hG (lv_sub hl [2, 1, 0] rfl)
set_option maxHeartbeats 4000000 in
set_option maxRecDepth 100000 in
theorem c_X5_isAgainst (l : Launch) (D : va_G) (cy : Nat → ClassId) (τ : ty_T) (ρ : ty_R) {M : md_T} (hN : ty_N τ ρ) (hR : ty_Rg M τ ρ) (hF : ty_Wf M τ ρ []) {a900 : Nat} (h900 : τ a900 = some (0, 5)) (x901 : Int32) (x902 : Int32) : KI l D cy yX5_isAgainst cX5_isAgainst 4 .boolean (rL 0) τ ρ [.ref a900, .int x901, .int x902] (fun r u => u = ρ ∧ (r.toInt = 0 ∨ r.toInt = 1)) := by
  refine k_metI "EdgeEchoes$Suspects" rfl (by decide +kernel) (Nat.le_of_ble_eq_true rfl) (fun r u h => (cI_nar (cI_01 h.2)).1) ?_
  intro p e s m args below meth c Q ls X hG hl ret
  have hl : lv_has ls 4 [(0, .ref a900), (1, .int x901), (2, .int x902)] := hl
  have g901 := cI_rng x901
  have g902 := cI_rng x902
  refine n_ic X dX5_isAgainst_0 (by decide) (by decide) (fun x1 t1 => ?_)
  refine lv_istore_n (lv' := [(3, .int x1), (0, .ref a900), (1, .int x901), (2, .int x902)]) X.1 X.2.1 dX5_isAgainst_1 rfl hl (by decide) rfl (fun ls hl => ?_)
  have J2 : ∀ (n : Nat) (H : Heap) (locs : List Loc) (ls : Array Slot) (x2 : Int32), (0 ≤ x2.toInt ∧ x2.toInt ≤ 6) → (6 - x2.toInt).toNat < n → TG D cy τ ρ (ty_d τ) s.heap H locs → lv_has ls 4 [(0, .ref a900), (1, .int x901), (2, .int x902), (3, .int x2)] → W p l e (rL 0) s m args below meth c H locs 0 0 Q (F0 m 2 ls []) := by
    intro n
    induction n with
    | zero => intro H locs ls x2 bx2 hm2 hG hl; exact absurd hm2 (Nat.not_lt_zero _)
    | succ n ih2 =>
      intro H locs ls x2 bx2 hm2 hG hl
      refine lv_iload_n X.1 X.2.1 dX5_isAgainst_2 rfl (lv_at hl 3 rfl) ?_
      refine lv_aload_n X.1 X.2.1 dX5_isAgainst_3 rfl (lv_at hl 0 rfl) ?_
      refine gf_5_4 X hG h900 q_232 dX5_isAgainst_4 (fun x3 r3 => ?_)
      have g3 := cI_rng x3
      refine n_icmp_ge (tgt := 58) X dX5_isAgainst_7 (by decide) (fun c4 => ?_) (fun c4 => ?_)
      · refine n_ic X dX5_isAgainst_58 (by decide) (by decide) (fun x5 t5 => ?_)
        exact ret _ _ _ _ x5 _ hG ⟨rfl, by omega⟩ dX5_isAgainst_59
      · refine lv_iload_n X.1 X.2.1 dX5_isAgainst_10 rfl (lv_at hl 3 rfl) ?_
        refine n_bp X dX5_isAgainst_11 (by decide) (by decide) (fun x6 t6 => ?_)
        refine n_icmp_ge (tgt := 58) X dX5_isAgainst_13 (by decide) (fun c7 => ?_) (fun c7 => ?_)
        · refine n_ic X dX5_isAgainst_58 (by decide) (by decide) (fun x8 t8 => ?_)
          exact ret _ _ _ _ x8 _ hG ⟨rfl, by omega⟩ dX5_isAgainst_59
        · refine lv_aload_n X.1 X.2.1 dX5_isAgainst_16 rfl (lv_at hl 0 rfl) ?_
          refine gf_5_0 X hG h900 q_228 dX5_isAgainst_17 (hN _ _ _ h900) (fun a9 h9 r9 => ?_)
          refine lv_iload_n X.1 X.2.1 dX5_isAgainst_20 rfl (lv_at hl 3 rfl) ?_
          refine tg_iald X hG h9 rfl (cI_in (n := 6) (by omega)) dX5_isAgainst_21 (fun x10 r10 => ?_)
          have b10 := (hR _ _ _ _ h9 r10) _ _ rfl
          refine lv_iload_n X.1 X.2.1 dX5_isAgainst_22 rfl (lv_at hl 1 rfl) ?_
          have J52 : ∀ (H : Heap) (locs : List Loc) (ls : Array Slot), TG D cy τ ρ (ty_d τ) s.heap H locs → lv_has ls 4 [(0, .ref a900), (1, .int x901), (2, .int x902), (3, .int x2)] → W p l e (rL 0) s m args below meth c H locs 0 0 Q (F0 m 52 ls []) := by
            intro H locs ls hG hl
            refine n_inc X (fun z12 => [(3, .int z12), (0, .ref a900), (1, .int x901), (2, .int x902)]) dX5_isAgainst_52 hl (k := 3) rfl (by decide) (by decide) (by omega) (by omega) (by decide) (fun _ => rfl) (fun x11 ls t11 hl => ?_)
            have hl : lv_has ls 4 [(3, .int x11), (0, .ref a900), (1, .int x901), (2, .int x902)] := hl
            refine lv_goto (tgt := 2) X.1 X.2.1 dX5_isAgainst_55 (by decide) ?_
            exact ih2 _ _ _ x11 (by omega) (by omega) hG (lv_sub hl [1, 2, 3, 0] rfl)
          refine n_icmp_ne (tgt := 52) X dX5_isAgainst_23 (by decide) (fun c13 => ?_) (fun c13 => ?_)
          · exact J52 _ _ _  hG (lv_sub hl [0, 1, 2, 3] rfl)
          · refine lv_iload_n X.1 X.2.1 dX5_isAgainst_26 rfl (lv_at hl 2 rfl) ?_
            refine lv_aload_n X.1 X.2.1 dX5_isAgainst_27 rfl (lv_at hl 0 rfl) ?_
            refine gf_5_1 X hG h900 q_229 dX5_isAgainst_28 (hN _ _ _ h900) (fun a14 h14 r14 => ?_)
            refine lv_iload_n X.1 X.2.1 dX5_isAgainst_31 rfl (lv_at hl 3 rfl) ?_
            refine tg_iald X hG h14 rfl (cI_in (n := 6) (by omega)) dX5_isAgainst_32 (fun x15 r15 => ?_)
            have J41 : ∀ (H : Heap) (locs : List Loc) (ls : Array Slot) (x16 : Int32), (0 ≤ x16.toInt ∧ x16.toInt ≤ 1) → TG D cy τ ρ (ty_d τ) s.heap H locs → lv_has ls 4 [(0, .ref a900), (1, .int x901), (2, .int x902), (3, .int x2)] → W p l e (rL 0) s m args below meth c H locs 0 0 Q (F0 m 41 ls [.int x16]) := by
              intro H locs ls x16 bx16 hG hl
              refine lv_aload_n X.1 X.2.1 dX5_isAgainst_41 rfl (lv_at hl 0 rfl) ?_
              refine gf_5_2 X hG h900 q_230 dX5_isAgainst_42 (hN _ _ _ h900) (fun a17 h17 r17 => ?_)
              refine lv_iload_n X.1 X.2.1 dX5_isAgainst_45 rfl (lv_at hl 3 rfl) ?_
              refine tg_zald X hG h17 rfl (cI_in (n := 6) (by omega)) dX5_isAgainst_46 (fun x18 b18 r18 => ?_)
              have b18 := cI_10 b18
              refine n_icmp_eq (tgt := 52) X dX5_isAgainst_47 (by decide) (fun c19 => ?_) (fun c19 => ?_)
              · exact J52 _ _ _  hG (lv_sub hl [0, 1, 2, 3] rfl)
              · refine n_ic X dX5_isAgainst_50 (by decide) (by decide) (fun x20 t20 => ?_)
                exact ret _ _ _ _ x20 _ hG ⟨rfl, by omega⟩ dX5_isAgainst_51
            refine n_icmp_lt (tgt := 40) X dX5_isAgainst_33 (by decide) (fun c21 => ?_) (fun c21 => ?_)
            · refine n_ic X dX5_isAgainst_40 (by decide) (by decide) (fun x22 t22 => ?_)
              exact J41 _ _ _ x22 (by omega) hG (lv_sub hl [0, 1, 2, 3] rfl)
            · refine n_ic X dX5_isAgainst_36 (by decide) (by decide) (fun x23 t23 => ?_)
              refine lv_goto (tgt := 41) X.1 X.2.1 dX5_isAgainst_37 (by decide) ?_
              exact J41 _ _ _ x23 (by omega) hG (lv_sub hl [0, 1, 2, 3] rfl)
  exact J2 _ _ _ _ x1 (by omega) (Nat.lt_succ_self _) hG (lv_sub hl [1, 2, 3, 0] rfl)
set_option maxHeartbeats 4000000 in
set_option maxRecDepth 100000 in
theorem c_X5_trace (l : Launch) (D : va_G) (cy : Nat → ClassId) (τ : ty_T) (ρ : ty_R) {M : md_T} (hN : ty_N τ ρ) (hR : ty_Rg M τ ρ) (hF : ty_Wf M τ ρ [5000]) {a900 : Nat} (h900 : τ a900 = some (0, 5)) (x901 : Int32) (x902 : Int32) {aT nT : Nat} (hT : ∀ v, ρ a900 3 v → v = .ref aT) (kT : τ aT = some (1, nT)) (lT : nT < 2147483648) : KV l D cy yX5_trace cX5_trace 4 (rL 0) τ ρ [.ref a900, .int x901, .int x902] (fun w => w = ρ) := by
  refine k_metV "EdgeEchoes$Suspects" rfl (by decide +kernel) (Nat.le_of_ble_eq_true rfl) ?_
  intro p e s m args below meth c Q ls X hG hl ret
  have hl : lv_has ls 4 [(0, .ref a900), (1, .int x901), (2, .int x902)] := hl
  have g901 := cI_rng x901
  have g902 := cI_rng x902
  refine lv_iload_n X.1 X.2.1 dX5_trace_0 rfl (lv_at hl 1 rfl) ?_
  refine n_ic X dX5_trace_1 (by decide) (by decide) (fun x1 t1 => ?_)
  refine lv_isub X.1 X.2.1 dX5_trace_2 ?_
  refine n_any (fun x2 => ?_)
  refine n_sp X dX5_trace_3 (by decide) (by decide) (fun x3 t3 => ?_)
  refine lv_imul X.1 X.2.1 dX5_trace_6 ?_
  refine n_any (fun x4 => ?_)
  refine lv_aload_n X.1 X.2.1 dX5_trace_7 rfl (lv_at hl 0 rfl) ?_
  refine gf_5_5 X hG h900 q_234 dX5_trace_8 (fun x5 r5 => ?_)
  have g5 := cI_rng x5
  refine lv_iadd X.1 X.2.1 dX5_trace_11 ?_
  refine n_any (fun x6 => ?_)
  refine lv_istore_n (lv' := [(3, .int x6), (0, .ref a900), (1, .int x901), (2, .int x902)]) X.1 X.2.1 dX5_trace_12 rfl hl (by decide) rfl (fun ls hl => ?_)
  refine lv_iload_n X.1 X.2.1 dX5_trace_13 rfl (lv_at hl 2 rfl) ?_
  refine n_ic X dX5_trace_14 (by decide) (by decide) (fun x7 t7 => ?_)
  refine n_icmp_lt (tgt := 44) X dX5_trace_15 (by decide) (fun c8 => ?_) (fun c8 => ?_)
  · exact ret _ _ _ _ _ hG rfl dX5_trace_44
  · refine lv_iload_n X.1 X.2.1 dX5_trace_18 rfl (lv_at hl 2 rfl) ?_
    refine n_bp X dX5_trace_19 (by decide) (by decide) (fun x9 t9 => ?_)
    refine n_icmp_gt (tgt := 44) X dX5_trace_21 (by decide) (fun c10 => ?_) (fun c10 => ?_)
    · exact ret _ _ _ _ _ hG rfl dX5_trace_44
    · refine lv_iload_n X.1 X.2.1 dX5_trace_24 rfl (lv_at hl 0 rfl) ?_
      refine n_if_lt (tgt := 44) X dX5_trace_25 (by decide) (fun c11 => ?_) (fun c11 => ?_)
      · exact ret _ _ _ _ _ hG rfl dX5_trace_44
      · refine lv_iload_n X.1 X.2.1 dX5_trace_28 rfl (lv_at hl 0 rfl) ?_
        refine lv_aload_n X.1 X.2.1 dX5_trace_29 rfl (lv_at hl 1 rfl) ?_
        refine gf_5_3 X hG h900 q_231 dX5_trace_30 (hN _ _ _ h900) (fun a12 nn12 h12 r12 => ?_)
        rw [show a12 = aT from Value.ref.inj (hT _ r12)]
        refine tg_alen X hG kT rfl dX5_trace_33 ?_
        refine lv_topi (fun x13 e13 => ?_)
        have t13 : x13.toInt = ((nT : Nat) : Int) := n_len e13 (by first | decide | omega)
        refine n_icmp_ge (tgt := 44) X dX5_trace_34 (by decide) (fun c14 => ?_) (fun c14 => ?_)
        · exact ret _ _ _ _ _ hG rfl dX5_trace_44
        · refine lv_aload_n X.1 X.2.1 dX5_trace_37 rfl (lv_at hl 1 rfl) ?_
          refine gf_5_3 X hG h900 q_231 dX5_trace_38 (hN _ _ _ h900) (fun a15 nn15 h15 r15 => ?_)
          rw [show a15 = aT from Value.ref.inj (hT _ r15)]
          refine lv_iload_n X.1 X.2.1 dX5_trace_41 rfl (lv_at hl 0 rfl) ?_
          refine lv_iload_n X.1 X.2.1 dX5_trace_42 rfl (lv_at hl 3 rfl) ?_
          refine tg_iasf X hG kT rfl (cI_in (n := nT) (by omega)) dX5_trace_43 (hF _ _ _ _ kT (ty_in (n := 5000) rfl) (ty_rno rfl)) (fun H locs hG => ?_)
          exact ret _ _ _ _ _ hG rfl dX5_trace_44
set_option maxHeartbeats 4000000 in
set_option maxRecDepth 100000 in
theorem c_X5_mostAlike (l : Launch) (D : va_G) (cy : Nat → ClassId) (τ : ty_T) (ρ : ty_R) {M : md_T} (hN : ty_N τ ρ) (hR : ty_Rg M τ ρ) (hF : ty_Wf M τ ρ []) {a900 : Nat} (h900 : τ a900 = some (0, 5)) (x901 : Int32) (zx901 : 1 ≤ x901.toInt ∧ x901.toInt ≤ 60) {aT nT : Nat} (hT : ∀ v, ρ a900 3 v → v = .ref aT) (kT : τ aT = some (1, nT)) (lT : nT < 2147483648) : KI l D cy yX5_mostAlike cX5_mostAlike 8 .int (rL 1) τ ρ [.ref a900, .int x901] (fun r u => u = ρ ∧ True) := by
  refine k_metI "EdgeEchoes$Suspects" rfl (by decide +kernel) (Nat.le_of_ble_eq_true rfl) (fun _ _ _ => rfl) ?_
  intro p e s m args below meth c Q ls X hG hl ret
  have hl : lv_has ls 8 [(0, .ref a900), (1, .int x901)] := hl
  refine lv_iload_n X.1 X.2.1 dX5_mostAlike_0 rfl (lv_at hl 1 rfl) ?_
  refine n_ic X dX5_mostAlike_1 (by decide) (by decide) (fun x1 t1 => ?_)
  refine n_sub X dX5_mostAlike_2 (by omega) (by omega) (fun x2 t2 => ?_)
  refine n_sp X dX5_mostAlike_3 (by decide) (by decide) (fun x3 t3 => ?_)
  refine n_mul X dX5_mostAlike_6 (by rw [t3]; omega) (by rw [t3]; omega) (fun x4 t4 => ?_)
  rw [t3] at t4
  refine lv_istore_n (lv' := [(2, .int x4), (0, .ref a900), (1, .int x901)]) X.1 X.2.1 dX5_mostAlike_7 rfl hl (by decide) rfl (fun ls hl => ?_)
  refine lv_iload_n X.1 X.2.1 dX5_mostAlike_8 rfl (lv_at hl 0 rfl) ?_
  refine lv_aload_n X.1 X.2.1 dX5_mostAlike_9 rfl (lv_at hl 1 rfl) ?_
  refine gf_5_5 X hG h900 q_234 dX5_mostAlike_10 (fun x5 r5 => ?_)
  have g5 := cI_rng x5
  refine lv_iadd X.1 X.2.1 dX5_mostAlike_13 ?_
  refine n_any (fun x6 => ?_)
  refine lv_istore_n (lv' := [(3, .int x6), (2, .int x4), (0, .ref a900), (1, .int x901)]) X.1 X.2.1 dX5_mostAlike_14 rfl hl (by decide) rfl (fun ls hl => ?_)
  refine lv_iload_n X.1 X.2.1 dX5_mostAlike_15 rfl (lv_at hl 1 rfl) ?_
  refine n_if_lt (tgt := 28) X dX5_mostAlike_16 (by decide) (fun c7 => ?_) (fun c7 => ?_)
  · exact absurd c7 (by omega)
  · refine lv_iload_n X.1 X.2.1 dX5_mostAlike_19 rfl (lv_at hl 0 rfl) ?_
    refine lv_aload_n X.1 X.2.1 dX5_mostAlike_20 rfl (lv_at hl 2 rfl) ?_
    refine gf_5_3 X hG h900 q_231 dX5_mostAlike_21 (hN _ _ _ h900) (fun a8 nn8 h8 r8 => ?_)
    rw [show a8 = aT from Value.ref.inj (hT _ r8)]
    refine tg_alen X hG kT rfl dX5_mostAlike_24 ?_
    refine lv_topi (fun x9 e9 => ?_)
    have t9 : x9.toInt = ((nT : Nat) : Int) := n_len e9 (by first | decide | omega)
    refine n_icmp_le (tgt := 33) X dX5_mostAlike_25 (by decide) (fun c10 => ?_) (fun c10 => ?_)
    · refine n_ic X dX5_mostAlike_33 (by decide) (by decide) (fun x11 t11 => ?_)
      refine lv_istore (lv' := [(4, .int x11), (3, .int x6), (2, .int x4), (0, .ref a900), (1, .int x901)]) X.1 X.2.1 dX5_mostAlike_34 hl (by decide) rfl (fun ls hl => ?_)
      refine lv_iload_n X.1 X.2.1 dX5_mostAlike_36 rfl (lv_at hl 2 rfl) ?_
      refine lv_istore (lv' := [(5, .int x4), (4, .int x11), (3, .int x6), (2, .int x4), (0, .ref a900), (1, .int x901)]) X.1 X.2.1 dX5_mostAlike_37 hl (by decide) rfl (fun ls hl => ?_)
      have J39 : ∀ (n : Nat) (H : Heap) (locs : List Loc) (ls : Array Slot) (x12 : Int32) (x13 : Int32), (0 ≤ x12.toInt) → (0 ≤ x13.toInt) → (2147483647 - x13.toInt).toNat < n → TG D cy τ ρ (ty_d τ) s.heap H locs → lv_has ls 8 [(0, .ref a900), (1, .int x901), (2, .int x4), (3, .int x6), (4, .int x12), (5, .int x13)] → W p l e (rL 1) s m args below meth c H locs 0 0 Q (F0 m 39 ls []) := by
        intro n
        induction n with
        | zero => intro H locs ls x12 x13 bx12 bx13 hm39 hG hl; exact absurd hm39 (Nat.not_lt_zero _)
        | succ n ih39 =>
          intro H locs ls x12 x13 bx12 bx13 hm39 hG hl
          have gx12 := cI_rng x12
          have gx13 := cI_rng x13
          refine lv_iload X.1 X.2.1 dX5_mostAlike_39 (lv_at hl 5 rfl) ?_
          refine lv_iload_n X.1 X.2.1 dX5_mostAlike_41 rfl (lv_at hl 3 rfl) ?_
          refine n_icmp_ge (tgt := 115) X dX5_mostAlike_42 (by decide) (fun c14 => ?_) (fun c14 => ?_)
          · refine lv_iload X.1 X.2.1 dX5_mostAlike_115 (lv_at hl 4 rfl) ?_
            exact ret _ _ _ _ x12 _ hG ⟨rfl, trivial⟩ dX5_mostAlike_117
          · refine lv_iload_n X.1 X.2.1 dX5_mostAlike_45 rfl (lv_at hl 3 rfl) ?_
            refine lv_iload X.1 X.2.1 dX5_mostAlike_46 (lv_at hl 5 rfl) ?_
            refine n_sub X dX5_mostAlike_48 (by omega) (by omega) (fun x15 t15 => ?_)
            refine lv_iload X.1 X.2.1 dX5_mostAlike_49 (lv_at hl 4 rfl) ?_
            refine n_icmp_le (tgt := 115) X dX5_mostAlike_51 (by decide) (fun c16 => ?_) (fun c16 => ?_)
            · refine lv_iload X.1 X.2.1 dX5_mostAlike_115 (lv_at hl 4 rfl) ?_
              exact ret _ _ _ _ x12 _ hG ⟨rfl, trivial⟩ dX5_mostAlike_117
            · refine n_ic X dX5_mostAlike_54 (by decide) (by decide) (fun x17 t17 => ?_)
              refine lv_istore (lv' := [(6, .int x17), (0, .ref a900), (1, .int x901), (2, .int x4), (3, .int x6), (4, .int x12), (5, .int x13)]) X.1 X.2.1 dX5_mostAlike_55 hl (by decide) rfl (fun ls hl => ?_)
              refine lv_iload X.1 X.2.1 dX5_mostAlike_57 (lv_at hl 6 rfl) ?_
              refine lv_istore (lv' := [(7, .int x13), (6, .int x17), (0, .ref a900), (1, .int x901), (2, .int x4), (3, .int x6), (4, .int x12), (5, .int x13)]) X.1 X.2.1 dX5_mostAlike_59 hl (by decide) rfl (fun ls hl => ?_)
              have J61 : ∀ (n : Nat) (H : Heap) (locs : List Loc) (ls : Array Slot) (x18 : Int32) (x19 : Int32), (0 ≤ x19.toInt) → (2147483647 - x19.toInt).toNat < n → TG D cy τ ρ (ty_d τ) s.heap H locs → lv_has ls 8 [(0, .ref a900), (1, .int x901), (2, .int x4), (3, .int x6), (4, .int x12), (5, .int x13), (6, .int x18), (7, .int x19)] → W p l e (rL 1) s m args below meth c H locs 0 0 Q (F0 m 61 ls []) := by
                intro n
                induction n with
                | zero => intro H locs ls x18 x19 bx19 hm61 hG hl; exact absurd hm61 (Nat.not_lt_zero _)
                | succ n ih61 =>
                  intro H locs ls x18 x19 bx19 hm61 hG hl
                  have gx18 := cI_rng x18
                  have gx19 := cI_rng x19
                  refine lv_iload X.1 X.2.1 dX5_mostAlike_61 (lv_at hl 7 rfl) ?_
                  refine lv_iload_n X.1 X.2.1 dX5_mostAlike_63 rfl (lv_at hl 3 rfl) ?_
                  refine n_icmp_ge (tgt := 100) X dX5_mostAlike_64 (by decide) (fun c20 => ?_) (fun c20 => ?_)
                  · refine lv_iload X.1 X.2.1 dX5_mostAlike_100 (lv_at hl 4 rfl) ?_
                    refine lv_iload X.1 X.2.1 dX5_mostAlike_102 (lv_at hl 6 rfl) ?_
                    refine n_max X hl.1 q_814 q_411 q_15 q_412 (Nat.le_of_ble_eq_true rfl) (Nat.le_of_ble_eq_true rfl) ⟨Nat.zero_le _, Nat.zero_le _⟩ dX5_mostAlike_104 (fun x21 t21 => ?_)
                    refine lv_istore (lv' := [(4, .int x21), (0, .ref a900), (1, .int x901), (2, .int x4), (3, .int x6), (5, .int x13), (6, .int x18), (7, .int x19)]) X.1 X.2.1 dX5_mostAlike_107 hl (by decide) rfl (fun ls hl => ?_)
                    refine n_inc X (fun z23 => [(5, .int z23), (4, .int x21), (0, .ref a900), (1, .int x901), (2, .int x4), (3, .int x6), (6, .int x18), (7, .int x19)]) dX5_mostAlike_109 hl (k := 5) rfl (by decide) (by decide) (by omega) (by omega) (by decide) (fun _ => rfl) (fun x22 ls t22 hl => ?_)
                    have hl : lv_has ls 8 [(5, .int x22), (4, .int x21), (0, .ref a900), (1, .int x901), (2, .int x4), (3, .int x6), (6, .int x18), (7, .int x19)] := hl
                    refine lv_goto (tgt := 39) X.1 X.2.1 dX5_mostAlike_112 (by decide) ?_
                    exact ih39 _ _ _ x21 x22 (by omega) (by omega) (by omega) hG (lv_sub hl [2, 3, 4, 5, 1, 0] rfl)
                  · refine lv_iload X.1 X.2.1 dX5_mostAlike_67 (lv_at hl 6 rfl) ?_
                    refine lv_aload_n X.1 X.2.1 dX5_mostAlike_69 rfl (lv_at hl 0 rfl) ?_
                    refine gf_5_3 X hG h900 q_231 dX5_mostAlike_70 (hN _ _ _ h900) (fun a24 nn24 h24 r24 => ?_)
                    rw [show a24 = aT from Value.ref.inj (hT _ r24)]
                    refine lv_iload X.1 X.2.1 dX5_mostAlike_73 (lv_at hl 7 rfl) ?_
                    refine tg_iald X hG kT rfl (cI_in (n := nT) (by omega)) dX5_mostAlike_75 (fun x25 r25 => ?_)
                    refine lv_aload_n X.1 X.2.1 dX5_mostAlike_76 rfl (lv_at hl 0 rfl) ?_
                    refine gf_5_3 X hG h900 q_231 dX5_mostAlike_77 (hN _ _ _ h900) (fun a26 nn26 h26 r26 => ?_)
                    rw [show a26 = aT from Value.ref.inj (hT _ r26)]
                    refine lv_iload X.1 X.2.1 dX5_mostAlike_80 (lv_at hl 5 rfl) ?_
                    refine tg_iald X hG kT rfl (cI_in (n := nT) (by omega)) dX5_mostAlike_82 (fun x27 r27 => ?_)
                    have J91 : ∀ (H : Heap) (locs : List Loc) (ls : Array Slot) (x28 : Int32), (0 ≤ x28.toInt ∧ x28.toInt ≤ 1) → TG D cy τ ρ (ty_d τ) s.heap H locs → lv_has ls 8 [(0, .ref a900), (1, .int x901), (2, .int x4), (3, .int x6), (4, .int x12), (5, .int x13), (6, .int x18), (7, .int x19)] → W p l e (rL 1) s m args below meth c H locs 0 0 Q (F0 m 91 ls [.int x28, .int x18]) := by
                      intro H locs ls x28 bx28 hG hl
                      refine lv_iadd X.1 X.2.1 dX5_mostAlike_91 ?_
                      refine n_any (fun x29 => ?_)
                      refine lv_istore (lv' := [(6, .int x29), (0, .ref a900), (1, .int x901), (2, .int x4), (3, .int x6), (4, .int x12), (5, .int x13), (7, .int x19)]) X.1 X.2.1 dX5_mostAlike_92 hl (by decide) rfl (fun ls hl => ?_)
                      refine n_inc X (fun z31 => [(7, .int z31), (6, .int x29), (0, .ref a900), (1, .int x901), (2, .int x4), (3, .int x6), (4, .int x12), (5, .int x13)]) dX5_mostAlike_94 hl (k := 7) rfl (by decide) (by decide) (by omega) (by omega) (by decide) (fun _ => rfl) (fun x30 ls t30 hl => ?_)
                      have hl : lv_has ls 8 [(7, .int x30), (6, .int x29), (0, .ref a900), (1, .int x901), (2, .int x4), (3, .int x6), (4, .int x12), (5, .int x13)] := hl
                      refine lv_goto (tgt := 61) X.1 X.2.1 dX5_mostAlike_97 (by decide) ?_
                      exact ih61 _ _ _ x29 x30 (by omega) (by omega) hG (lv_sub hl [2, 3, 4, 5, 6, 7, 1, 0] rfl)
                    refine n_icmp_ne (tgt := 90) X dX5_mostAlike_83 (by decide) (fun c32 => ?_) (fun c32 => ?_)
                    · refine n_ic X dX5_mostAlike_90 (by decide) (by decide) (fun x33 t33 => ?_)
                      exact J91 _ _ _ x33 (by omega) hG (lv_sub hl [0, 1, 2, 3, 4, 5, 6, 7] rfl)
                    · refine n_ic X dX5_mostAlike_86 (by decide) (by decide) (fun x34 t34 => ?_)
                      refine lv_goto (tgt := 91) X.1 X.2.1 dX5_mostAlike_87 (by decide) ?_
                      exact J91 _ _ _ x34 (by omega) hG (lv_sub hl [0, 1, 2, 3, 4, 5, 6, 7] rfl)
              exact J61 _ _ _ _ x17 x13 (by omega) (Nat.lt_succ_self _) hG (lv_sub hl [2, 3, 4, 5, 6, 7, 1, 0] rfl)
      exact J39 _ _ _ _ x11 x4 (by omega) (by omega) (Nat.lt_succ_self _) hG (lv_sub hl [4, 5, 3, 2, 1, 0] rfl)
    · refine lv_aload_n X.1 X.2.1 dX5_mostAlike_28 rfl (lv_at hl 2 rfl) ?_
      refine gf_5_5 X hG h900 q_234 dX5_mostAlike_29 (fun x35 r35 => ?_)
      have g35 := cI_rng x35
      exact ret _ _ _ _ x35 _ hG ⟨rfl, trivial⟩ dX5_mostAlike_32
set_option maxHeartbeats 4000000 in
set_option maxRecDepth 100000 in
theorem c_X5_bestLook (l : Launch) (D : va_G) (cy : Nat → ClassId) (τ : ty_T) (ρ : ty_R) {M : md_T} (hN : ty_N τ ρ) (hR : ty_Rg M τ ρ) (hF : ty_Wf M τ ρ []) {a900 : Nat} (h900 : τ a900 = some (0, 5)) {aT nT : Nat} (hT : ∀ v, ρ a900 3 v → v = .ref aT) (kT : τ aT = some (1, nT)) (lT : nT < 2147483648) : KI l D cy yX5_bestLook cX5_bestLook 5 .int (rL 2) τ ρ [.ref a900] (fun r u => u = ρ ∧ True) := by
  refine k_metI "EdgeEchoes$Suspects" rfl (by decide +kernel) (Nat.le_of_ble_eq_true rfl) (fun _ _ _ => rfl) ?_
  intro p e s m args below meth c Q ls X hG hl ret
  have hl : lv_has ls 5 [(0, .ref a900)] := hl
  refine n_ic X dX5_bestLook_0 (by decide) (by decide) (fun x1 t1 => ?_)
  refine lv_istore_n (lv' := [(1, .int x1), (0, .ref a900)]) X.1 X.2.1 dX5_bestLook_1 rfl hl (by decide) rfl (fun ls hl => ?_)
  refine lv_aload_n X.1 X.2.1 dX5_bestLook_2 rfl (lv_at hl 1 rfl) ?_
  refine gf_5_5 X hG h900 q_234 dX5_bestLook_3 (fun x2 r2 => ?_)
  have g2 := cI_rng x2
  refine lv_istore_n (lv' := [(2, .int x2), (1, .int x1), (0, .ref a900)]) X.1 X.2.1 dX5_bestLook_6 rfl hl (by decide) rfl (fun ls hl => ?_)
  refine n_ic X dX5_bestLook_7 (by decide) (by decide) (fun x3 t3 => ?_)
  refine lv_istore_n (lv' := [(3, .int x3), (2, .int x2), (1, .int x1), (0, .ref a900)]) X.1 X.2.1 dX5_bestLook_8 rfl hl (by decide) rfl (fun ls hl => ?_)
  have J9 : ∀ (n : Nat) (H : Heap) (locs : List Loc) (ls : Array Slot) (x4 : Int32) (x5 : Int32) (x6 : Int32), (-1 ≤ x4.toInt ∧ x4.toInt ≤ 60) → (1 ≤ x6.toInt ∧ x6.toInt ≤ 61) → (61 - x6.toInt).toNat < n → TG D cy τ ρ (ty_d τ) s.heap H locs → lv_has ls 5 [(0, .ref a900), (1, .int x4), (2, .int x5), (3, .int x6)] → W p l e (rL 2) s m args below meth c H locs 0 0 Q (F0 m 9 ls []) := by
    intro n
    induction n with
    | zero => intro H locs ls x4 x5 x6 bx4 bx6 hm9 hG hl; exact absurd hm9 (Nat.not_lt_zero _)
    | succ n ih9 =>
      intro H locs ls x4 x5 x6 bx4 bx6 hm9 hG hl
      have gx5 := cI_rng x5
      refine lv_iload_n X.1 X.2.1 dX5_bestLook_9 rfl (lv_at hl 3 rfl) ?_
      refine n_bp X dX5_bestLook_10 (by decide) (by decide) (fun x7 t7 => ?_)
      refine n_icmp_gt (tgt := 39) X dX5_bestLook_12 (by decide) (fun c8 => ?_) (fun c8 => ?_)
      · refine lv_iload_n X.1 X.2.1 dX5_bestLook_39 rfl (lv_at hl 1 rfl) ?_
        exact ret _ _ _ _ x4 _ hG ⟨rfl, trivial⟩ dX5_bestLook_40
      · refine lv_aload_n X.1 X.2.1 dX5_bestLook_15 rfl (lv_at hl 0 rfl) ?_
        refine lv_iload_n X.1 X.2.1 dX5_bestLook_16 rfl (lv_at hl 3 rfl) ?_
        refine k_cVi X hG (c_X5_mostAlike l D cy τ _ hN hR (ty_Wf.sub (S' := []) hF (by decide)) h900 x6 (by omega) hT kT lT) h900 rfl yv_X5_mostAlike q_833 ⟨rfl, rfl⟩ ⟨Nat.le_of_ble_eq_true rfl, Nat.le_of_ble_eq_true rfl⟩ rfl hl.1 rfl (Nat.le_of_ble_eq_true rfl) ⟨Nat.zero_le _, Nat.zero_le _⟩ dX5_bestLook_17 (fun x10 u11 H locs hG po9 => ?_)
        obtain ⟨eu11, po9⟩ := po9
        rw [eu11] at hG
        have g10 := cI_rng x10
        refine lv_istore (lv' := [(4, .int x10), (0, .ref a900), (1, .int x4), (2, .int x5), (3, .int x6)]) X.1 X.2.1 dX5_bestLook_20 hl (by decide) rfl (fun ls hl => ?_)
        refine lv_iload X.1 X.2.1 dX5_bestLook_22 (lv_at hl 0 rfl) ?_
        refine lv_iload_n X.1 X.2.1 dX5_bestLook_24 rfl (lv_at hl 3 rfl) ?_
        have J33 : ∀ (H : Heap) (locs : List Loc) (ls : Array Slot) (x12 : Int32) (x13 : Int32), (-1 ≤ x12.toInt ∧ x12.toInt ≤ 60) → TG D cy τ ρ (ty_d τ) s.heap H locs → lv_has ls 5 [(0, .ref a900), (1, .int x12), (2, .int x13), (3, .int x6), (4, .int x10)] → W p l e (rL 2) s m args below meth c H locs 0 0 Q (F0 m 33 ls []) := by
          intro H locs ls x12 x13 bx12 hG hl
          have gx13 := cI_rng x13
          refine n_inc X (fun z15 => [(3, .int z15), (0, .ref a900), (1, .int x12), (2, .int x13), (4, .int x10)]) dX5_bestLook_33 hl (k := 3) rfl (by decide) (by decide) (by omega) (by omega) (by decide) (fun _ => rfl) (fun x14 ls t14 hl => ?_)
          have hl : lv_has ls 5 [(3, .int x14), (0, .ref a900), (1, .int x12), (2, .int x13), (4, .int x10)] := hl
          refine lv_goto (tgt := 9) X.1 X.2.1 dX5_bestLook_36 (by decide) ?_
          exact ih9 _ _ _ x12 x13 x14 (by omega) (by omega) (by omega) hG (lv_sub hl [1, 2, 3, 0] rfl)
        refine n_icmp_ge (tgt := 33) X dX5_bestLook_25 (by decide) (fun c16 => ?_) (fun c16 => ?_)
        · exact J33 _ _ _ x4 x5 (by omega) hG (lv_sub hl [1, 2, 3, 4, 0] rfl)
        · refine lv_iload X.1 X.2.1 dX5_bestLook_28 (lv_at hl 0 rfl) ?_
          refine lv_istore_n (lv' := [(2, .int x10), (4, .int x10), (0, .ref a900), (1, .int x4), (3, .int x6)]) X.1 X.2.1 dX5_bestLook_30 rfl hl (by decide) rfl (fun ls hl => ?_)
          refine lv_iload_n X.1 X.2.1 dX5_bestLook_31 rfl (lv_at hl 4 rfl) ?_
          refine lv_istore_n (lv' := [(1, .int x6), (2, .int x10), (4, .int x10), (0, .ref a900), (3, .int x6)]) X.1 X.2.1 dX5_bestLook_32 rfl hl (by decide) rfl (fun ls hl => ?_)
          exact J33 _ _ _ x6 x10 (by omega) hG (lv_sub hl [3, 0, 1, 4, 2] rfl)
  exact J9 _ _ _ _ x1 x2 x3 (by omega) (by omega) (Nat.lt_succ_self _) hG (lv_sub hl [3, 2, 1, 0] rfl)
set_option maxHeartbeats 4000000 in
set_option maxRecDepth 100000 in
theorem c_X5_trySuspect (l : Launch) (D : va_G) (cy : Nat → ClassId) (τ : ty_T) (ρ : ty_R) {M : md_T} (hN : ty_N τ ρ) (hR : ty_Rg M τ ρ) (hF : ty_Wf M τ ρ [106, 302, 303, 505, 506, 507, 806, 807, 808, 809, 810, 811, 812, 5000, 6005]) {a900 : Nat} (h900 : τ a900 = some (0, 5)) {a901 : Nat} (h901 : τ a901 = some (0, 3)) {a902 : Nat} (h902 : τ a902 = some (0, 7)) (x903 : Int32) (zx903 : 1 ≤ x903.toInt ∧ x903.toInt ≤ 71) (x904 : Int32) (zx904 : 1 ≤ x904.toInt ∧ x904.toInt ≤ 2) (x905 : Int32) (zx905 : x905.toInt = 0 ∨ x905.toInt = 1) {aT nT : Nat} (hT : ∀ v, ρ a900 3 v → v = .ref aT) (kT : τ aT = some (1, nT)) (lT : nT < 2147483648) : KV l D cy yX5_trySuspect cX5_trySuspect 9 (rL 4) τ ρ [.ref a900, .ref a901, .ref a902, .int x903, .int x904, .int x905] (fun w => w = ρ) := by
  refine k_metV "EdgeEchoes$Suspects" rfl (by decide +kernel) (Nat.le_of_ble_eq_true rfl) ?_
  intro p e s m args below meth c Q ls X hG hl ret
  have hl : lv_has ls 9 [(0, .ref a900), (1, .ref a901), (2, .ref a902), (3, .int x903), (4, .int x904), (5, .int x905)] := hl
  refine lv_aload_n X.1 X.2.1 dX5_trySuspect_0 rfl (lv_at hl 2 rfl) ?_
  refine lv_aload_n X.1 X.2.1 dX5_trySuspect_1 rfl (lv_at hl 1 rfl) ?_
  refine k_cVv X hG (c_X7_startQuiet l D cy τ _ hN hR (ty_Wf.sub (S' := [106, 302, 303, 806, 807, 808, 809, 810, 811, 812, 5000, 6005]) hF (by decide)) h902 h901) h902 rfl yv_X7_startQuiet q_809 ⟨rfl, rfl⟩ ⟨Nat.le_of_ble_eq_true rfl, Nat.le_of_ble_eq_true rfl⟩ rfl hl.1 rfl (Nat.le_of_ble_eq_true rfl) ⟨Nat.zero_le _, Nat.zero_le _⟩ dX5_trySuspect_2 (fun u3 H locs hG po1 => ?_)
  rw [po1] at hG
  refine lv_aload_n X.1 X.2.1 dX5_trySuspect_5 rfl (lv_at hl 2 rfl) ?_
  refine gf_7_0 X hG h902 q_195 dX5_trySuspect_6 (hN _ _ _ h902) (fun a4 h4 r4 => ?_)
  refine gf_3_0 X hG h4 q_164 dX5_trySuspect_9 (hN _ _ _ h4) (fun a5 h5 r5 => ?_)
  refine lv_iload_n X.1 X.2.1 dX5_trySuspect_12 rfl (lv_at hl 3 rfl) ?_
  refine k_cVi X hG (c_X8_hasPlace l D cy τ _ hN hR (ty_Wf.sub (S' := []) hF (by decide)) h5 x903) h5 rfl yv_X8_hasPlace q_804 ⟨rfl, rfl⟩ ⟨Nat.le_of_ble_eq_true rfl, Nat.le_of_ble_eq_true rfl⟩ rfl hl.1 rfl (Nat.le_of_ble_eq_true rfl) ⟨Nat.zero_le _, Nat.zero_le _⟩ dX5_trySuspect_13 (fun x7 u8 H locs hG po6 => ?_)
  obtain ⟨eu8, po6⟩ := po6
  rw [eu8] at hG
  refine n_if_ne (tgt := 20) X dX5_trySuspect_16 (by decide) (fun c9 => ?_) (fun c9 => ?_)
  · refine lv_aload_n X.1 X.2.1 dX5_trySuspect_20 rfl (lv_at hl 2 rfl) ?_
    refine gf_7_0 X hG h902 q_195 dX5_trySuspect_21 (hN _ _ _ h902) (fun a10 h10 r10 => ?_)
    refine gf_3_0 X hG h10 q_164 dX5_trySuspect_24 (hN _ _ _ h10) (fun a11 h11 r11 => ?_)
    refine gf_8_5 X hG h11 q_76 dX5_trySuspect_27 (hN _ _ _ h11) (fun a12 h12 r12 => ?_)
    refine lv_iload_n X.1 X.2.1 dX5_trySuspect_30 rfl (lv_at hl 3 rfl) ?_
    refine lv_iload X.1 X.2.1 dX5_trySuspect_31 (lv_at hl 4 rfl) ?_
    refine tg_iasf X hG h12 rfl (cI_in (n := 72) (by omega)) dX5_trySuspect_33 (hF _ _ _ _ h12 (ty_in (n := 5000) rfl) (ty_rno rfl)) (fun H locs hG => ?_)
    refine lv_iload X.1 X.2.1 dX5_trySuspect_34 (lv_at hl 5 rfl) ?_
    have J45 : ∀ (H : Heap) (locs : List Loc) (ls : Array Slot) (x13 : Int32), (0 ≤ x13.toInt ∧ x13.toInt ≤ 60) → TG D cy τ ρ (ty_d τ) s.heap H locs → lv_has ls 9 [(0, .ref a900), (1, .ref a901), (2, .ref a902), (3, .int x903), (4, .int x904), (5, .int x905)] → W p l e (rL 4) s m args below meth c H locs 0 0 Q (F0 m 45 ls [.int x13]) := by
      intro H locs ls x13 bx13 hG hl
      refine lv_aload_n X.1 X.2.1 dX5_trySuspect_45 rfl (lv_at hl 0 rfl) ?_
      refine k_cVi X hG (c_X5_lastSeenTick l D cy τ _ hN hR (ty_Wf.sub (S' := []) hF (by decide)) h900) h900 rfl yv_X5_lastSeenTick q_810 ⟨rfl, rfl⟩ ⟨Nat.le_of_ble_eq_true rfl, Nat.le_of_ble_eq_true rfl⟩ rfl hl.1 rfl (Nat.le_of_ble_eq_true rfl) ⟨Nat.zero_le _, Nat.zero_le _⟩ dX5_trySuspect_46 (fun x15 u16 H locs hG po14 => ?_)
      obtain ⟨eu16, po14⟩ := po14
      rw [eu16] at hG
      refine n_max X hl.1 q_814 q_411 q_15 q_412 (Nat.le_of_ble_eq_true rfl) (Nat.le_of_ble_eq_true rfl) ⟨Nat.zero_le _, Nat.zero_le _⟩ dX5_trySuspect_49 (fun x17 t17 => ?_)
      refine lv_istore (lv' := [(6, .int x17), (0, .ref a900), (1, .ref a901), (2, .ref a902), (3, .int x903), (4, .int x904), (5, .int x905)]) X.1 X.2.1 dX5_trySuspect_52 hl (by decide) rfl (fun ls hl => ?_)
      refine n_ic X dX5_trySuspect_54 (by decide) (by decide) (fun x18 t18 => ?_)
      refine lv_istore (lv' := [(7, .int x18), (6, .int x17), (0, .ref a900), (1, .ref a901), (2, .ref a902), (3, .int x903), (4, .int x904), (5, .int x905)]) X.1 X.2.1 dX5_trySuspect_55 hl (by decide) rfl (fun ls hl => ?_)
      have J57 : ∀ (n : Nat) (H : Heap) (locs : List Loc) (ls : Array Slot) (x19 : Int32), (1 ≤ x19.toInt ∧ x19.toInt ≤ 151) → (151 - x19.toInt).toNat < n → TG D cy τ ρ (ty_d τ) s.heap H locs → lv_has ls 9 [(0, .ref a900), (1, .ref a901), (2, .ref a902), (3, .int x903), (4, .int x904), (5, .int x905), (6, .int x17), (7, .int x19)] → W p l e (rL 4) s m args below meth c H locs 0 0 Q (F0 m 57 ls []) := by
        intro n
        induction n with
        | zero => intro H locs ls x19 bx19 hm57 hG hl; exact absurd hm57 (Nat.not_lt_zero _)
        | succ n ih57 =>
          intro H locs ls x19 bx19 hm57 hG hl
          refine lv_iload X.1 X.2.1 dX5_trySuspect_57 (lv_at hl 7 rfl) ?_
          refine lv_iload X.1 X.2.1 dX5_trySuspect_59 (lv_at hl 6 rfl) ?_
          refine n_icmp_gt (tgt := 118) X dX5_trySuspect_61 (by decide) (fun c20 => ?_) (fun c20 => ?_)
          · refine n_ic X dX5_trySuspect_118 (by decide) (by decide) (fun x21 t21 => ?_)
            refine lv_iload_n X.1 X.2.1 dX5_trySuspect_119 rfl (lv_at hl 3 rfl) ?_
            refine n_mul X dX5_trySuspect_120 (by rw [t21]; omega) (by rw [t21]; omega) (fun x22 t22 => ?_)
            rw [t21] at t22
            refine lv_iload X.1 X.2.1 dX5_trySuspect_121 (lv_at hl 4 rfl) ?_
            refine n_ic X dX5_trySuspect_123 (by decide) (by decide) (fun x23 t23 => ?_)
            have J132 : ∀ (H : Heap) (locs : List Loc) (ls : Array Slot) (x24 : Int32), (0 ≤ x24.toInt ∧ x24.toInt ≤ 1) → TG D cy τ ρ (ty_d τ) s.heap H locs → lv_has ls 9 [(0, .ref a900), (1, .ref a901), (2, .ref a902), (3, .int x903), (4, .int x904), (5, .int x905), (6, .int x17), (7, .int x19)] → W p l e (rL 4) s m args below meth c H locs 0 0 Q (F0 m 132 ls [.int x24, .int x22]) := by
              intro H locs ls x24 bx24 hG hl
              refine n_add X dX5_trySuspect_132 (by omega) (by omega) (fun x25 t25 => ?_)
              refine lv_istore (lv' := [(7, .int x25), (0, .ref a900), (1, .ref a901), (2, .ref a902), (3, .int x903), (4, .int x904), (5, .int x905), (6, .int x17)]) X.1 X.2.1 dX5_trySuspect_133 hl (by decide) rfl (fun ls hl => ?_)
              refine lv_aload_n X.1 X.2.1 dX5_trySuspect_135 rfl (lv_at hl 1 rfl) ?_
              refine lv_aload_n X.1 X.2.1 dX5_trySuspect_136 rfl (lv_at hl 1 rfl) ?_
              refine gf_5_5 X hG h900 q_234 dX5_trySuspect_137 (fun x26 r26 => ?_)
              have g26 := cI_rng x26
              have J152 : ∀ (H : Heap) (locs : List Loc) (ls : Array Slot) (x27 : Int32), TG D cy τ ρ (ty_d τ) s.heap H locs → lv_has ls 9 [(0, .ref a900), (1, .ref a901), (2, .ref a902), (3, .int x903), (4, .int x904), (5, .int x905), (6, .int x17), (7, .int x25)] → W p l e (rL 4) s m args below meth c H locs 0 0 Q (F0 m 152 ls [.int x27, .ref a900]) := by
                intro H locs ls x27 hG hl
                have gx27 := cI_rng x27
                refine pf_5_6 X hG h900 q_236 dX5_trySuspect_152 (hF _ _ _ _ h900 (ty_in (n := 506) rfl) (ty_rno rfl)) (fun H locs hG => ?_)
                refine lv_aload_n X.1 X.2.1 dX5_trySuspect_155 rfl (lv_at hl 0 rfl) ?_
                refine lv_iload X.1 X.2.1 dX5_trySuspect_156 (lv_at hl 7 rfl) ?_
                refine pf_5_7 X hG h900 q_238 dX5_trySuspect_158 (hF _ _ _ _ h900 (ty_in (n := 507) rfl) (ty_rno rfl)) (fun H locs hG => ?_)
                refine lv_aload_n X.1 X.2.1 dX5_trySuspect_161 rfl (lv_at hl 0 rfl) ?_
                refine lv_dup X.1 X.2.1 dX5_trySuspect_162 rfl ?_
                refine gf_5_5 X hG h900 q_234 dX5_trySuspect_163 (fun x28 r28 => ?_)
                have g28 := cI_rng x28
                refine n_ic X dX5_trySuspect_166 (by decide) (by decide) (fun x29 t29 => ?_)
                refine lv_iadd X.1 X.2.1 dX5_trySuspect_167 ?_
                refine n_any (fun x30 => ?_)
                refine pf_5_5 X hG h900 q_234 dX5_trySuspect_168 (hF _ _ _ _ h900 (ty_in (n := 505) rfl) (ty_rno rfl)) (fun H locs hG => ?_)
                exact ret _ _ _ _ _ hG rfl dX5_trySuspect_171
              refine n_if_ne (tgt := 148) X dX5_trySuspect_140 (by decide) (fun c31 => ?_) (fun c31 => ?_)
              · refine lv_aload_n X.1 X.2.1 dX5_trySuspect_148 rfl (lv_at hl 1 rfl) ?_
                refine gf_5_6 X hG h900 q_236 dX5_trySuspect_149 (fun x32 r32 => ?_)
                have g32 := cI_rng x32
                exact J152 _ _ _ x32 hG (lv_sub hl [1, 2, 3, 4, 5, 6, 7, 0] rfl)
              · refine lv_iload X.1 X.2.1 dX5_trySuspect_143 (lv_at hl 0 rfl) ?_
                refine lv_goto (tgt := 152) X.1 X.2.1 dX5_trySuspect_145 (by decide) ?_
                exact J152 _ _ _ x25 hG (lv_sub hl [1, 2, 3, 4, 5, 6, 7, 0] rfl)
            refine n_icmp_ne (tgt := 131) X dX5_trySuspect_124 (by decide) (fun c33 => ?_) (fun c33 => ?_)
            · refine n_ic X dX5_trySuspect_131 (by decide) (by decide) (fun x34 t34 => ?_)
              exact J132 _ _ _ x34 (by omega) hG (lv_sub hl [0, 1, 2, 3, 4, 5, 6, 7] rfl)
            · refine n_ic X dX5_trySuspect_127 (by decide) (by decide) (fun x35 t35 => ?_)
              refine lv_goto (tgt := 132) X.1 X.2.1 dX5_trySuspect_128 (by decide) ?_
              exact J132 _ _ _ x35 (by omega) hG (lv_sub hl [0, 1, 2, 3, 4, 5, 6, 7] rfl)
          · refine lv_aload_n X.1 X.2.1 dX5_trySuspect_64 rfl (lv_at hl 2 rfl) ?_
            refine gf_7_0 X hG h902 q_195 dX5_trySuspect_65 (hN _ _ _ h902) (fun a36 h36 r36 => ?_)
            refine gf_3_0 X hG h36 q_164 dX5_trySuspect_68 (hN _ _ _ h36) (fun a37 h37 r37 => ?_)
            refine k_cVv X hG (c_X8_step l D cy τ _ hN hR (ty_Wf.sub (S' := [5000]) hF (by decide)) h37) h37 rfl yv_X8_step q_815 ⟨rfl, rfl⟩ ⟨Nat.le_of_ble_eq_true rfl, Nat.le_of_ble_eq_true rfl⟩ rfl hl.1 rfl (Nat.le_of_ble_eq_true rfl) ⟨Nat.zero_le _, Nat.zero_le _⟩ dX5_trySuspect_71 (fun u40 H locs hG po38 => ?_)
            rw [po38] at hG
            refine lv_aload_n X.1 X.2.1 dX5_trySuspect_74 rfl (lv_at hl 2 rfl) ?_
            refine gf_7_0 X hG h902 q_195 dX5_trySuspect_75 (hN _ _ _ h902) (fun a41 h41 r41 => ?_)
            refine gf_3_0 X hG h41 q_164 dX5_trySuspect_78 (hN _ _ _ h41) (fun a42 h42 r42 => ?_)
            refine n_ic X dX5_trySuspect_81 (by decide) (by decide) (fun x43 t43 => ?_)
            refine k_cVi X hG (c_X8_voltsAt l D cy τ _ hN hR (ty_Wf.sub (S' := []) hF (by decide)) h42 x43) h42 rfl yv_X8_voltsAt q_816 ⟨rfl, rfl⟩ ⟨Nat.le_of_ble_eq_true rfl, Nat.le_of_ble_eq_true rfl⟩ rfl hl.1 rfl (Nat.le_of_ble_eq_true rfl) ⟨Nat.zero_le _, Nat.zero_le _⟩ dX5_trySuspect_82 (fun x45 u46 H locs hG po44 => ?_)
            obtain ⟨eu46, po44⟩ := po44
            rw [eu46] at hG
            have g45 := cI_rng x45
            refine lv_istore (lv' := [(8, .int x45), (0, .ref a900), (1, .ref a901), (2, .ref a902), (3, .int x903), (4, .int x904), (5, .int x905), (6, .int x17), (7, .int x19)]) X.1 X.2.1 dX5_trySuspect_85 hl (by decide) rfl (fun ls hl => ?_)
            refine lv_aload_n X.1 X.2.1 dX5_trySuspect_87 rfl (lv_at hl 1 rfl) ?_
            refine lv_iload X.1 X.2.1 dX5_trySuspect_88 (lv_at hl 8 rfl) ?_
            refine lv_iload X.1 X.2.1 dX5_trySuspect_90 (lv_at hl 0 rfl) ?_
            refine k_cVi X hG (c_X5_isAgainst l D cy τ _ hN hR (ty_Wf.sub (S' := []) hF (by decide)) h900 x19 x45) h900 rfl yv_X5_isAgainst q_817 ⟨rfl, rfl⟩ ⟨Nat.le_of_ble_eq_true rfl, Nat.le_of_ble_eq_true rfl⟩ rfl hl.1 rfl (Nat.le_of_ble_eq_true rfl) ⟨Nat.zero_le _, Nat.zero_le _⟩ dX5_trySuspect_92 (fun x48 u49 H locs hG po47 => ?_)
            obtain ⟨eu49, po47⟩ := po47
            rw [eu49] at hG
            refine n_if_eq (tgt := 99) X dX5_trySuspect_95 (by decide) (fun c50 => ?_) (fun c50 => ?_)
            · refine lv_iload X.1 X.2.1 dX5_trySuspect_99 (lv_at hl 6 rfl) ?_
              have J112 : ∀ (H : Heap) (locs : List Loc) (ls : Array Slot), TG D cy τ ρ (ty_d τ) s.heap H locs → lv_has ls 9 [(0, .ref a900), (1, .ref a901), (2, .ref a902), (3, .int x903), (4, .int x904), (5, .int x905), (6, .int x17), (7, .int x19), (8, .int x45)] → W p l e (rL 4) s m args below meth c H locs 0 0 Q (F0 m 112 ls []) := by
                intro H locs ls hG hl
                refine n_inc X (fun z52 => [(7, .int z52), (0, .ref a900), (1, .ref a901), (2, .ref a902), (3, .int x903), (4, .int x904), (5, .int x905), (6, .int x17), (8, .int x45)]) dX5_trySuspect_112 hl (k := 7) rfl (by decide) (by decide) (by omega) (by omega) (by decide) (fun _ => rfl) (fun x51 ls t51 hl => ?_)
                have hl : lv_has ls 9 [(7, .int x51), (0, .ref a900), (1, .ref a901), (2, .ref a902), (3, .int x903), (4, .int x904), (5, .int x905), (6, .int x17), (8, .int x45)] := hl
                refine lv_goto (tgt := 57) X.1 X.2.1 dX5_trySuspect_115 (by decide) ?_
                exact ih57 _ _ _ x51 (by omega) (by omega) hG (lv_sub hl [1, 2, 3, 4, 5, 6, 7, 0] rfl)
              refine n_if_eq (tgt := 112) X dX5_trySuspect_101 (by decide) (fun c53 => ?_) (fun c53 => ?_)
              · exact J112 _ _ _  hG (lv_sub hl [1, 2, 3, 4, 5, 6, 7, 8, 0] rfl)
              · refine lv_aload_n X.1 X.2.1 dX5_trySuspect_104 rfl (lv_at hl 1 rfl) ?_
                refine lv_iload X.1 X.2.1 dX5_trySuspect_105 (lv_at hl 8 rfl) ?_
                refine lv_iload X.1 X.2.1 dX5_trySuspect_107 (lv_at hl 0 rfl) ?_
                refine k_cVv X hG (c_X5_trace l D cy τ _ hN hR (ty_Wf.sub (S' := [5000]) hF (by decide)) h900 x19 x45 hT kT lT) h900 rfl yv_X5_trace q_821 ⟨rfl, rfl⟩ ⟨Nat.le_of_ble_eq_true rfl, Nat.le_of_ble_eq_true rfl⟩ rfl hl.1 rfl (Nat.le_of_ble_eq_true rfl) ⟨Nat.zero_le _, Nat.zero_le _⟩ dX5_trySuspect_109 (fun u56 H locs hG po54 => ?_)
                rw [po54] at hG
                exact J112 _ _ _  hG (lv_sub hl [1, 2, 3, 4, 5, 6, 7, 8, 0] rfl)
            · exact ret _ _ _ _ _ hG rfl dX5_trySuspect_98
      exact J57 _ _ _ _ x18 (by omega) (Nat.lt_succ_self _) hG (lv_sub hl [2, 3, 4, 5, 6, 7, 1, 0] rfl)
    refine n_if_eq (tgt := 44) X dX5_trySuspect_36 (by decide) (fun c57 => ?_) (fun c57 => ?_)
    · refine n_ic X dX5_trySuspect_44 (by decide) (by decide) (fun x58 t58 => ?_)
      exact J45 _ _ _ x58 (by omega) hG (lv_sub hl [0, 1, 2, 3, 4, 5] rfl)
    · refine n_bp X dX5_trySuspect_39 (by decide) (by decide) (fun x59 t59 => ?_)
      refine lv_goto (tgt := 45) X.1 X.2.1 dX5_trySuspect_41 (by decide) ?_
      exact J45 _ _ _ x59 (by omega) hG (lv_sub hl [0, 1, 2, 3, 4, 5] rfl)
  · exact ret _ _ _ _ _ hG rfl dX5_trySuspect_19
