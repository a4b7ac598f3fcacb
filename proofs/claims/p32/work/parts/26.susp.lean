set_option maxHeartbeats 4000000 in
set_option maxRecDepth 100000 in
theorem c_X5_append (l : Launch) (D : va_G) (cy : Nat → ClassId) (τ : ty_T) (ρ : ty_R) (hN : ty_N τ ρ) (hR : ty_Rg τ ρ) (hF : ty_Wf τ ρ [504, 5000, 5001]) {a900 : Nat} (h900 : τ a900 = some (0, 5)) (x901 : Int32) (x902 : Int32) (x903 : Int32) (zx903 : x903.toInt = 0 ∨ x903.toInt = 1) : KI l D cy yX5_append cX5_append 4 .boolean (rL 0) τ ρ [.ref a900, .int x901, .int x902, .int x903] (fun r u => u = ρ ∧ (r.toInt = 0 ∨ r.toInt = 1)) := by
  refine k_metI "EdgeEchoes$Suspects" rfl (by decide +kernel) (Nat.le_of_ble_eq_true rfl) (fun r u h => (cI_nar (cI_01 h.2)).1) ?_
  intro p e s m args below meth c Q ls X hG hl ret
  have hl : lv_has ls 4 [(0, .ref a900), (1, .int x901), (2, .int x902), (3, .int x903)] := hl
  have g901 := cI_rng x901
  have g902 := cI_rng x902
  obtain ⟨x1, r1, hG⟩ := tg_pin hG h900 4 rfl
  have g1 := cI_rng x1
  refine lv_aload_n X.1 X.2.1 dX5_append_0 rfl (lv_at hl 0 rfl) ?_
  refine gf_5_4 X hG h900 q_232 dX5_append_1 (fun x2 r2 => ?_)
  have e2 := exs_rd r2 (y := x1) rfl
  subst e2
  refine n_if_lt (tgt := 16) X dX5_append_4 (by decide) (fun c3 => ?_) (fun c3 => ?_)
  · refine n_ic X dX5_append_16 (by decide) (by decide) (fun x4 t4 => ?_)
    exact ret _ _ _ _ x4 _ (exs_cl hG) ⟨rfl, by omega⟩ dX5_append_17
  · refine lv_aload_n X.1 X.2.1 dX5_append_7 rfl (lv_at hl 0 rfl) ?_
    refine gf_5_4 X hG h900 q_232 dX5_append_8 (fun x5 r5 => ?_)
    have e5 := exs_rd r5 (y := x1) rfl
    subst e5
    refine n_bp X dX5_append_11 (by decide) (by decide) (fun x6 t6 => ?_)
    refine n_icmp_lt (tgt := 18) X dX5_append_13 (by decide) (fun c7 => ?_) (fun c7 => ?_)
    · refine lv_aload_n X.1 X.2.1 dX5_append_18 rfl (lv_at hl 0 rfl) ?_
      refine gf_5_0 X hG h900 q_228 dX5_append_19 ((exs_N hN) _ _ _ h900) (fun a8 h8 r8 => ?_)
      refine lv_aload_n X.1 X.2.1 dX5_append_22 rfl (lv_at hl 0 rfl) ?_
      refine gf_5_4 X hG h900 q_232 dX5_append_23 (fun x9 r9 => ?_)
      have e9 := exs_rd r9 (y := x1) rfl
      subst e9
      refine lv_iload_n X.1 X.2.1 dX5_append_26 rfl (lv_at hl 1 rfl) ?_
      refine tg_iasf X hG h8 rfl (cI_in (n := 6) (by omega)) dX5_append_27 ((exs_F1 (ty_Wf.sub (S' := [5000]) hF (by decide)) h900 (by decide)) _ _ _ _ h8 (ty_in (n := 5000) rfl) (ty_rno rfl)) (fun H locs hG => ?_)
      refine lv_aload_n X.1 X.2.1 dX5_append_28 rfl (lv_at hl 0 rfl) ?_
      refine gf_5_1 X hG h900 q_229 dX5_append_29 ((exs_N hN) _ _ _ h900) (fun a10 h10 r10 => ?_)
      refine lv_aload_n X.1 X.2.1 dX5_append_32 rfl (lv_at hl 0 rfl) ?_
      refine gf_5_4 X hG h900 q_232 dX5_append_33 (fun x11 r11 => ?_)
      have e11 := exs_rd r11 (y := x1) rfl
      subst e11
      refine lv_iload_n X.1 X.2.1 dX5_append_36 rfl (lv_at hl 2 rfl) ?_
      refine tg_iasf X hG h10 rfl (cI_in (n := 6) (by omega)) dX5_append_37 ((exs_F1 (ty_Wf.sub (S' := [5000]) hF (by decide)) h900 (by decide)) _ _ _ _ h10 (ty_in (n := 5000) rfl) (ty_rno rfl)) (fun H locs hG => ?_)
      refine lv_aload_n X.1 X.2.1 dX5_append_38 rfl (lv_at hl 0 rfl) ?_
      refine gf_5_2 X hG h900 q_230 dX5_append_39 ((exs_N hN) _ _ _ h900) (fun a12 h12 r12 => ?_)
      refine lv_aload_n X.1 X.2.1 dX5_append_42 rfl (lv_at hl 0 rfl) ?_
      refine gf_5_4 X hG h900 q_232 dX5_append_43 (fun x13 r13 => ?_)
      have e13 := exs_rd r13 (y := x1) rfl
      subst e13
      refine lv_iload_n X.1 X.2.1 dX5_append_46 rfl (lv_at hl 3 rfl) ?_
      refine tg_zast X hG h12 rfl (cI_in (n := 6) (by omega)) (by omega) dX5_append_47 (exs ρ a900 (P1 4 x1)) (fun _ _ _ _ h => h) (fun _ _ _ h => h) ((exs_F1 (ty_Wf.sub (S' := [5001]) hF (by decide)) h900 (by decide)) _ _ _ _ h12 (ty_in (n := 5001) rfl) (ty_rno rfl)) (fun H locs hG => ?_)
      refine lv_aload_n X.1 X.2.1 dX5_append_48 rfl (lv_at hl 0 rfl) ?_
      refine lv_dup X.1 X.2.1 dX5_append_49 rfl ?_
      refine gf_5_4 X hG h900 q_232 dX5_append_50 (fun x14 r14 => ?_)
      have e14 := exs_rd r14 (y := x1) rfl
      subst e14
      refine n_ic X dX5_append_53 (by decide) (by decide) (fun x15 t15 => ?_)
      refine n_add X dX5_append_54 (by omega) (by omega) (fun x16 t16 => ?_)
      refine pg_5_4 X hG h900 q_232 dX5_append_55 (exs ρ a900 (P1 4 x16)) exs_off (exs_oth exs_P1) (exs_new (hF _ _ _ _ h900 (ty_in (n := 504) rfl) (ty_rno rfl)) rfl) (fun H locs hG => ?_)
      refine n_ic X dX5_append_58 (by decide) (by decide) (fun x17 t17 => ?_)
      exact ret _ _ _ _ x17 _ (exs_cl hG) ⟨rfl, by omega⟩ dX5_append_59
    · refine n_ic X dX5_append_16 (by decide) (by decide) (fun x18 t18 => ?_)
      exact ret _ _ _ _ x18 _ (exs_cl hG) ⟨rfl, by omega⟩ dX5_append_17
set_option maxHeartbeats 4000000 in
set_option maxRecDepth 100000 in
theorem c_X5_lastSeenTick (l : Launch) (D : va_G) (cy : Nat → ClassId) (τ : ty_T) (ρ : ty_R) (hN : ty_N τ ρ) (hR : ty_Rg τ ρ) (hF : ty_Wf τ ρ []) {a900 : Nat} (h900 : τ a900 = some (0, 5)) : KI l D cy yX5_lastSeenTick cX5_lastSeenTick 3 .int (rL 1) τ ρ [.ref a900] (fun r u => u = ρ ∧ True) := by
  refine k_metI "EdgeEchoes$Suspects" rfl (by decide +kernel) (Nat.le_of_ble_eq_true rfl) (fun _ _ _ => rfl) ?_
  intro p e s m args below meth c Q ls X hG hl ret
  have hl : lv_has ls 3 [(0, .ref a900)] := hl
  refine n_ic X dX5_lastSeenTick_0 (by decide) (by decide) (fun x1 t1 => ?_)
  refine lv_istore_n (lv' := [(1, .int x1), (0, .ref a900)]) X.1 X.2.1 dX5_lastSeenTick_1 rfl hl (by decide) rfl (fun ls hl => ?_)
  refine n_ic X dX5_lastSeenTick_2 (by decide) (by decide) (fun x2 t2 => ?_)
  refine lv_istore_n (lv' := [(2, .int x2), (1, .int x1), (0, .ref a900)]) X.1 X.2.1 dX5_lastSeenTick_3 rfl hl (by decide) rfl (fun ls hl => ?_)
  have J4 : ∀ (n : Nat) (H : Heap) (locs : List Loc) (ls : Array Slot) (x3 : Int32) (x4 : Int32), (0 ≤ x3.toInt) → (0 ≤ x4.toInt ∧ x4.toInt ≤ 6) → (6 - x4.toInt).toNat < n → TG D cy τ ρ (ty_d τ) s.heap H locs → lv_has ls 3 [(0, .ref a900), (1, .int x3), (2, .int x4)] → W p l e (rL 1) s m args below meth c H locs 0 0 Q (F0 m 4 ls []) := by
    intro n
    induction n with
    | zero => intro H locs ls x3 x4 bx3 bx4 hm4 hG hl; exact absurd hm4 (Nat.not_lt_zero _)
    | succ n ih4 =>
      intro H locs ls x3 x4 bx3 bx4 hm4 hG hl
      refine lv_iload_n X.1 X.2.1 dX5_lastSeenTick_4 rfl (lv_at hl 2 rfl) ?_
      refine lv_aload_n X.1 X.2.1 dX5_lastSeenTick_5 rfl (lv_at hl 0 rfl) ?_
      refine gf_5_4 X hG h900 q_232 dX5_lastSeenTick_6 (fun x5 r5 => ?_)
      have g5 := cI_rng x5
      refine n_icmp_ge (tgt := 35) X dX5_lastSeenTick_9 (by decide) (fun c6 => ?_) (fun c6 => ?_)
      · refine lv_iload_n X.1 X.2.1 dX5_lastSeenTick_35 rfl (lv_at hl 1 rfl) ?_
        exact ret _ _ _ _ x3 _ hG ⟨rfl, trivial⟩ dX5_lastSeenTick_36
      · refine lv_iload_n X.1 X.2.1 dX5_lastSeenTick_12 rfl (lv_at hl 2 rfl) ?_
        refine n_bp X dX5_lastSeenTick_13 (by decide) (by decide) (fun x7 t7 => ?_)
        refine n_icmp_ge (tgt := 35) X dX5_lastSeenTick_15 (by decide) (fun c8 => ?_) (fun c8 => ?_)
        · refine lv_iload_n X.1 X.2.1 dX5_lastSeenTick_35 rfl (lv_at hl 1 rfl) ?_
          exact ret _ _ _ _ x3 _ hG ⟨rfl, trivial⟩ dX5_lastSeenTick_36
        · refine lv_iload_n X.1 X.2.1 dX5_lastSeenTick_18 rfl (lv_at hl 1 rfl) ?_
          refine lv_aload_n X.1 X.2.1 dX5_lastSeenTick_19 rfl (lv_at hl 0 rfl) ?_
          refine gf_5_0 X hG h900 q_228 dX5_lastSeenTick_20 (hN _ _ _ h900) (fun a9 h9 r9 => ?_)
          refine lv_iload_n X.1 X.2.1 dX5_lastSeenTick_23 rfl (lv_at hl 2 rfl) ?_
          refine tg_iald X hG h9 rfl (cI_in (n := 6) (by omega)) dX5_lastSeenTick_24 (fun x10 r10 => ?_)
          refine n_max X hl.1 q_814 q_411 q_15 q_412 (Nat.le_of_ble_eq_true rfl) (Nat.le_of_ble_eq_true rfl) ⟨Nat.zero_le _, Nat.zero_le _⟩ dX5_lastSeenTick_25 (fun x11 t11 => ?_)
          refine lv_istore_n (lv' := [(1, .int x11), (0, .ref a900), (2, .int x4)]) X.1 X.2.1 dX5_lastSeenTick_28 rfl hl (by decide) rfl (fun ls hl => ?_)
          refine n_inc X (fun z13 => [(2, .int z13), (1, .int x11), (0, .ref a900)]) dX5_lastSeenTick_29 hl (k := 2) rfl (by decide) (by decide) (by omega) (by omega) (by decide) (fun _ => rfl) (fun x12 ls t12 hl => ?_)
          have hl : lv_has ls 3 [(2, .int x12), (1, .int x11), (0, .ref a900)] := hl
          refine lv_goto (tgt := 4) X.1 X.2.1 dX5_lastSeenTick_32 (by decide) ?_
          exact ih4 _ _ _ x11 x12 (by omega) (by omega) (by omega) hG (lv_sub hl [2, 1, 0] rfl)
  exact J4 _ _ _ _ x1 x2 (by omega) (by omega) (Nat.lt_succ_self _) hG (lv_sub hl [2, 1, 0] rfl)
set_option maxHeartbeats 4000000 in
set_option maxRecDepth 100000 in
theorem c_X5_isAgainst (l : Launch) (D : va_G) (cy : Nat → ClassId) (τ : ty_T) (ρ : ty_R) (hN : ty_N τ ρ) (hR : ty_Rg τ ρ) (hF : ty_Wf τ ρ []) {a900 : Nat} (h900 : τ a900 = some (0, 5)) (x901 : Int32) (x902 : Int32) : KI l D cy yX5_isAgainst cX5_isAgainst 4 .boolean (rL 0) τ ρ [.ref a900, .int x901, .int x902] (fun r u => u = ρ ∧ (r.toInt = 0 ∨ r.toInt = 1)) := by
  refine k_metI "EdgeEchoes$Suspects" rfl (by decide +kernel) (Nat.le_of_ble_eq_true rfl) (fun r u h => (cI_nar (cI_01 h.2)).1) ?_
  intro p e s m args below meth c Q ls X hG hl ret
  have hl : lv_has ls 4 [(0, .ref a900), (1, .int x901), (2, .int x902)] := hl
  have g901 := cI_rng x901
  have g902 := cI_rng x902
  refine n_ic X dX5_isAgainst_0 (by decide) (by decide) (fun x1 t1 => ?_)
  refine lv_istore_n (lv' := [(3, .int x1), (0, .ref a900), (1, .int x901), (2, .int x902)]) X.1 X.2.1 dX5_isAgainst_1 rfl hl (by decide) rfl (fun ls hl => ?_)
  have J2 : ∀ (n : Nat) (H : Heap) (locs : List Loc) (ls : Array Slot) (x2 : Int32), (0 ≤ x2.toInt ∧ x2.toInt ≤ 6) → (6 - x2.toInt).toNat < n → TG D cy τ ρ (ty_d τ) s.heap H locs → lv_has ls 4 [(0, .ref a900), (1, .int x901), (2, .int x902), (3, .int x2)] → W p l e (rL 0) s m args below meth c H locs 0 0 Q (F0 m 2 ls []) := by
    intro n
    induction n with
    | zero => intro H locs ls x2 bx2 hm2 hG hl; exact absurd hm2 (Nat.not_lt_zero _)
    | succ n ih2 =>
      intro H locs ls x2 bx2 hm2 hG hl
      refine lv_iload_n X.1 X.2.1 dX5_isAgainst_2 rfl (lv_at hl 3 rfl) ?_
      refine lv_aload_n X.1 X.2.1 dX5_isAgainst_3 rfl (lv_at hl 0 rfl) ?_
      refine gf_5_4 X hG h900 q_232 dX5_isAgainst_4 (fun x3 r3 => ?_)
      have g3 := cI_rng x3
      refine n_icmp_ge (tgt := 58) X dX5_isAgainst_7 (by decide) (fun c4 => ?_) (fun c4 => ?_)
      · refine n_ic X dX5_isAgainst_58 (by decide) (by decide) (fun x5 t5 => ?_)
        exact ret _ _ _ _ x5 _ hG ⟨rfl, by omega⟩ dX5_isAgainst_59
      · refine lv_iload_n X.1 X.2.1 dX5_isAgainst_10 rfl (lv_at hl 3 rfl) ?_
        refine n_bp X dX5_isAgainst_11 (by decide) (by decide) (fun x6 t6 => ?_)
        refine n_icmp_ge (tgt := 58) X dX5_isAgainst_13 (by decide) (fun c7 => ?_) (fun c7 => ?_)
        · refine n_ic X dX5_isAgainst_58 (by decide) (by decide) (fun x8 t8 => ?_)
          exact ret _ _ _ _ x8 _ hG ⟨rfl, by omega⟩ dX5_isAgainst_59
        · refine lv_aload_n X.1 X.2.1 dX5_isAgainst_16 rfl (lv_at hl 0 rfl) ?_
          refine gf_5_0 X hG h900 q_228 dX5_isAgainst_17 (hN _ _ _ h900) (fun a9 h9 r9 => ?_)
          refine lv_iload_n X.1 X.2.1 dX5_isAgainst_20 rfl (lv_at hl 3 rfl) ?_
          refine tg_iald X hG h9 rfl (cI_in (n := 6) (by omega)) dX5_isAgainst_21 (fun x10 r10 => ?_)
          refine lv_iload_n X.1 X.2.1 dX5_isAgainst_22 rfl (lv_at hl 1 rfl) ?_
          have J52 : ∀ (H : Heap) (locs : List Loc) (ls : Array Slot), TG D cy τ ρ (ty_d τ) s.heap H locs → lv_has ls 4 [(0, .ref a900), (1, .int x901), (2, .int x902), (3, .int x2)] → W p l e (rL 0) s m args below meth c H locs 0 0 Q (F0 m 52 ls []) := by
            intro H locs ls hG hl
            refine n_inc X (fun z12 => [(3, .int z12), (0, .ref a900), (1, .int x901), (2, .int x902)]) dX5_isAgainst_52 hl (k := 3) rfl (by decide) (by decide) (by omega) (by omega) (by decide) (fun _ => rfl) (fun x11 ls t11 hl => ?_)
            have hl : lv_has ls 4 [(3, .int x11), (0, .ref a900), (1, .int x901), (2, .int x902)] := hl
            refine lv_goto (tgt := 2) X.1 X.2.1 dX5_isAgainst_55 (by decide) ?_
            exact ih2 _ _ _ x11 (by omega) (by omega) hG (lv_sub hl [1, 2, 3, 0] rfl)
          refine n_icmp_ne (tgt := 52) X dX5_isAgainst_23 (by decide) (fun c13 => ?_) (fun c13 => ?_)
          · exact J52 _ _ _  hG (lv_sub hl [0, 1, 2, 3] rfl)
          · refine lv_iload_n X.1 X.2.1 dX5_isAgainst_26 rfl (lv_at hl 2 rfl) ?_
            refine lv_aload_n X.1 X.2.1 dX5_isAgainst_27 rfl (lv_at hl 0 rfl) ?_
            refine gf_5_1 X hG h900 q_229 dX5_isAgainst_28 (hN _ _ _ h900) (fun a14 h14 r14 => ?_)
            refine lv_iload_n X.1 X.2.1 dX5_isAgainst_31 rfl (lv_at hl 3 rfl) ?_
            refine tg_iald X hG h14 rfl (cI_in (n := 6) (by omega)) dX5_isAgainst_32 (fun x15 r15 => ?_)
            have J41 : ∀ (H : Heap) (locs : List Loc) (ls : Array Slot) (x16 : Int32), (0 ≤ x16.toInt ∧ x16.toInt ≤ 1) → TG D cy τ ρ (ty_d τ) s.heap H locs → lv_has ls 4 [(0, .ref a900), (1, .int x901), (2, .int x902), (3, .int x2)] → W p l e (rL 0) s m args below meth c H locs 0 0 Q (F0 m 41 ls [.int x16]) := by
              intro H locs ls x16 bx16 hG hl
              refine lv_aload_n X.1 X.2.1 dX5_isAgainst_41 rfl (lv_at hl 0 rfl) ?_
              refine gf_5_2 X hG h900 q_230 dX5_isAgainst_42 (hN _ _ _ h900) (fun a17 h17 r17 => ?_)
              refine lv_iload_n X.1 X.2.1 dX5_isAgainst_45 rfl (lv_at hl 3 rfl) ?_
              refine tg_zald X hG h17 rfl (cI_in (n := 6) (by omega)) dX5_isAgainst_46 (fun x18 b18 r18 => ?_)
              have b18 := cI_10 b18
              refine n_icmp_eq (tgt := 52) X dX5_isAgainst_47 (by decide) (fun c19 => ?_) (fun c19 => ?_)
              · exact J52 _ _ _  hG (lv_sub hl [0, 1, 2, 3] rfl)
              · refine n_ic X dX5_isAgainst_50 (by decide) (by decide) (fun x20 t20 => ?_)
                exact ret _ _ _ _ x20 _ hG ⟨rfl, by omega⟩ dX5_isAgainst_51
            refine n_icmp_lt (tgt := 40) X dX5_isAgainst_33 (by decide) (fun c21 => ?_) (fun c21 => ?_)
            · refine n_ic X dX5_isAgainst_40 (by decide) (by decide) (fun x22 t22 => ?_)
              exact J41 _ _ _ x22 (by omega) hG (lv_sub hl [0, 1, 2, 3] rfl)
            · refine n_ic X dX5_isAgainst_36 (by decide) (by decide) (fun x23 t23 => ?_)
              refine lv_goto (tgt := 41) X.1 X.2.1 dX5_isAgainst_37 (by decide) ?_
              exact J41 _ _ _ x23 (by omega) hG (lv_sub hl [0, 1, 2, 3] rfl)
  exact J2 _ _ _ _ x1 (by omega) (Nat.lt_succ_self _) hG (lv_sub hl [1, 2, 3, 0] rfl)
