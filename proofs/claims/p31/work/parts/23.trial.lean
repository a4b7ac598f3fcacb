set_option maxHeartbeats 4000000 in
set_option maxRecDepth 100000 in
theorem c_X7_goOn (l : Launch) (D : va_G) (cy : Nat → ClassId) (τ : ty_T) (ρ : ty_R) {M : md_T} (hN : ty_N τ ρ) (hR : ty_Rg M τ ρ) (hF : ty_Wf M τ ρ [106, 302, 303, 806, 807, 808, 809, 810, 811, 812, 5000, 6005]) {a900 : Nat} (h900 : τ a900 = some (0, 7)) {a901 : Nat} (h901 : τ a901 = some (0, 3)) (x902 : Int32) : KV l D cy yX7_goOn cX7_goOn 4 (rL 5) τ ρ [.ref a900, .ref a901, .int x902] (fun w => w = ρ) := by
  refine k_metV "EdgeEchoes$Trial" rfl (by decide +kernel) (Nat.le_of_ble_eq_true rfl) ?_
  intro p e s m args below meth c Q ls X hG hl ret
  have hl : lv_has ls 4 [(0, .ref a900), (1, .ref a901), (2, .int x902)] := hl
  have g902 := cI_rng x902
  refine lv_aload_n X.1 X.2.1 dX7_goOn_0 rfl (lv_at hl 0 rfl) ?_
  refine gf_7_0 X hG h900 q_193 dX7_goOn_1 (hN _ _ _ h900) (fun a1 h1 r1 => ?_)
  refine lv_aload_n X.1 X.2.1 dX7_goOn_4 rfl (lv_at hl 1 rfl) ?_
  refine k_cVv X hG (c_X3_copyFrom l D cy τ _ hN hR (ty_Wf.sub (S' := [106, 302, 303, 806, 807, 808, 809, 810, 811, 812, 5000, 6005]) hF (by decide)) h1 h901) h1 rfl yv_X3_copyFrom q_554 ⟨rfl, rfl⟩ ⟨Nat.le_of_ble_eq_true rfl, Nat.le_of_ble_eq_true rfl⟩ rfl hl.1 rfl (Nat.le_of_ble_eq_true rfl) ⟨Nat.zero_le _, Nat.zero_le _⟩ dX7_goOn_5 (fun u4 H locs hG po2 => ?_)
  rw [po2] at hG
  refine n_ic X dX7_goOn_8 (by decide) (by decide) (fun x5 t5 => ?_)
  refine lv_istore_n (lv' := [(3, .int x5), (0, .ref a900), (1, .ref a901), (2, .int x902)]) X.1 X.2.1 dX7_goOn_9 rfl hl (by decide) rfl (fun ls hl => ?_)
  have J10 : ∀ (n : Nat) (H : Heap) (locs : List Loc) (ls : Array Slot) (x6 : Int32), (0 ≤ x6.toInt) → (2147483647 - x6.toInt).toNat < n → TG D cy τ ρ (ty_d τ) s.heap H locs → lv_has ls 4 [(0, .ref a900), (1, .ref a901), (2, .int x902), (3, .int x6)] → W p l e (rL 5) s m args below meth c H locs 0 0 Q (F0 m 10 ls []) := by
    intro n
    induction n with
    | zero => intro H locs ls x6 bx6 hm10 hG hl; exact absurd hm10 (Nat.not_lt_zero _)
    | succ n ih10 =>
      intro H locs ls x6 bx6 hm10 hG hl
      have gx6 := cI_rng x6
      refine lv_iload_n X.1 X.2.1 dX7_goOn_10 rfl (lv_at hl 3 rfl) ?_
      refine lv_iload_n X.1 X.2.1 dX7_goOn_11 rfl (lv_at hl 2 rfl) ?_
      refine n_icmp_ge (tgt := 28) X dX7_goOn_12 (by decide) (fun c7 => ?_) (fun c7 => ?_)
      · exact ret _ _ _ _ _ hG rfl dX7_goOn_28
      · refine lv_aload_n X.1 X.2.1 dX7_goOn_15 rfl (lv_at hl 0 rfl) ?_
        refine gf_7_0 X hG h900 q_193 dX7_goOn_16 (hN _ _ _ h900) (fun a8 h8 r8 => ?_)
        refine k_cVv X hG (c_X3_pass l D cy τ _ hN hR (ty_Wf.sub (S' := [303, 5000]) hF (by decide)) h8) h8 rfl yv_X3_pass q_638 ⟨rfl, rfl⟩ ⟨Nat.le_of_ble_eq_true rfl, Nat.le_of_ble_eq_true rfl⟩ rfl hl.1 rfl (Nat.le_of_ble_eq_true rfl) ⟨Nat.zero_le _, Nat.zero_le _⟩ dX7_goOn_19 (fun u11 H locs hG po9 => ?_)
        rw [po9] at hG
        refine n_inc X (fun z13 => [(3, .int z13), (0, .ref a900), (1, .ref a901), (2, .int x902)]) dX7_goOn_22 hl (k := 3) rfl (by decide) (by decide) (by omega) (by omega) (by decide) (fun _ => rfl) (fun x12 ls t12 hl => ?_)
        have hl : lv_has ls 4 [(3, .int x12), (0, .ref a900), (1, .ref a901), (2, .int x902)] := hl
        refine lv_goto (tgt := 10) X.1 X.2.1 dX7_goOn_25 (by decide) ?_
        exact ih10 _ _ _ x12 (by omega) (by omega) hG (lv_sub hl [1, 2, 3, 0] rfl)
  exact J10 _ _ _ _ x5 (by omega) (Nat.lt_succ_self _) hG (lv_sub hl [1, 2, 3, 0] rfl)
set_option maxHeartbeats 4000000 in
set_option maxRecDepth 100000 in
theorem c_X7_startQuiet (l : Launch) (D : va_G) (cy : Nat → ClassId) (τ : ty_T) (ρ : ty_R) {M : md_T} (hN : ty_N τ ρ) (hR : ty_Rg M τ ρ) (hF : ty_Wf M τ ρ [106, 302, 303, 806, 807, 808, 809, 810, 811, 812, 5000, 6005]) {a900 : Nat} (h900 : τ a900 = some (0, 7)) {a901 : Nat} (h901 : τ a901 = some (0, 3)) : KV l D cy yX7_startQuiet cX7_startQuiet 2 (rL 3) τ ρ [.ref a900, .ref a901] (fun w => w = ρ) := by
  refine k_metV "EdgeEchoes$Trial" rfl (by decide +kernel) (Nat.le_of_ble_eq_true rfl) ?_
  intro p e s m args below meth c Q ls X hG hl ret
  have hl : lv_has ls 2 [(0, .ref a900), (1, .ref a901)] := hl
  refine lv_aload_n X.1 X.2.1 dX7_startQuiet_0 rfl (lv_at hl 0 rfl) ?_
  refine gf_7_0 X hG h900 q_193 dX7_startQuiet_1 (hN _ _ _ h900) (fun a1 h1 r1 => ?_)
  refine lv_aload_n X.1 X.2.1 dX7_startQuiet_4 rfl (lv_at hl 1 rfl) ?_
  refine k_cVv X hG (c_X3_copyFrom l D cy τ _ hN hR (ty_Wf.sub (S' := [106, 302, 303, 806, 807, 808, 809, 810, 811, 812, 5000, 6005]) hF (by decide)) h1 h901) h1 rfl yv_X3_copyFrom q_554 ⟨rfl, rfl⟩ ⟨Nat.le_of_ble_eq_true rfl, Nat.le_of_ble_eq_true rfl⟩ rfl hl.1 rfl (Nat.le_of_ble_eq_true rfl) ⟨Nat.zero_le _, Nat.zero_le _⟩ dX7_startQuiet_5 (fun u4 H locs hG po2 => ?_)
  rw [po2] at hG
  refine lv_aload_n X.1 X.2.1 dX7_startQuiet_8 rfl (lv_at hl 0 rfl) ?_
  refine gf_7_0 X hG h900 q_193 dX7_startQuiet_9 (hN _ _ _ h900) (fun a5 h5 r5 => ?_)
  refine k_cVv X hG (c_X3_calm l D cy τ _ hN hR (ty_Wf.sub (S' := [5000]) hF (by decide)) h5) h5 rfl yv_X3_calm q_555 ⟨rfl, rfl⟩ ⟨Nat.le_of_ble_eq_true rfl, Nat.le_of_ble_eq_true rfl⟩ rfl hl.1 rfl (Nat.le_of_ble_eq_true rfl) ⟨Nat.zero_le _, Nat.zero_le _⟩ dX7_startQuiet_12 (fun u8 H locs hG po6 => ?_)
  rw [po6] at hG
  refine lv_aload_n X.1 X.2.1 dX7_startQuiet_15 rfl (lv_at hl 0 rfl) ?_
  refine gf_7_0 X hG h900 q_193 dX7_startQuiet_16 (hN _ _ _ h900) (fun a9 h9 r9 => ?_)
  refine gf_3_0 X hG h9 q_163 dX7_startQuiet_19 (hN _ _ _ h9) (fun a10 h10 r10 => ?_)
  refine n_ic X dX7_startQuiet_22 (by decide) (by decide) (fun x11 t11 => ?_)
  refine pf_8_12 X hG h10 q_96 (by omega) dX7_startQuiet_23 (hF _ _ _ _ h10 (ty_in (n := 812) rfl) (ty_rno rfl)) (fun H locs hG => ?_)
  exact ret _ _ _ _ _ hG rfl dX7_startQuiet_26
set_option maxHeartbeats 4000000 in
set_option maxRecDepth 100000 in
theorem c_X7_voltsBehind (l : Launch) (D : va_G) (cy : Nat → ClassId) (τ : ty_T) (ρ : ty_R) {M : md_T} (hN : ty_N τ ρ) (hR : ty_Rg M τ ρ) (hF : ty_Wf M τ ρ [106, 302, 303, 806, 807, 808, 809, 810, 811, 812, 5000, 6005]) {a900 : Nat} (h900 : τ a900 = some (0, 7)) {a901 : Nat} (h901 : τ a901 = some (0, 3)) (x902 : Int32) (x903 : Int32) : KI l D cy yX7_voltsBehind cX7_voltsBehind 5 .int (rL 4) τ ρ [.ref a900, .ref a901, .int x902, .int x903] (fun r u => u = ρ ∧ True) := by
  refine k_metI "EdgeEchoes$Trial" rfl (by decide +kernel) (Nat.le_of_ble_eq_true rfl) (fun _ _ _ => rfl) ?_
  intro p e s m args below meth c Q ls X hG hl ret
  have hl : lv_has ls 5 [(0, .ref a900), (1, .ref a901), (2, .int x902), (3, .int x903)] := hl
  have g902 := cI_rng x902
  have g903 := cI_rng x903
  refine lv_aload_n X.1 X.2.1 dX7_voltsBehind_0 rfl (lv_at hl 0 rfl) ?_
  refine gf_7_0 X hG h900 q_193 dX7_voltsBehind_1 (hN _ _ _ h900) (fun a1 h1 r1 => ?_)
  refine lv_aload_n X.1 X.2.1 dX7_voltsBehind_4 rfl (lv_at hl 1 rfl) ?_
  refine k_cVv X hG (c_X3_copyFrom l D cy τ _ hN hR (ty_Wf.sub (S' := [106, 302, 303, 806, 807, 808, 809, 810, 811, 812, 5000, 6005]) hF (by decide)) h1 h901) h1 rfl yv_X3_copyFrom q_554 ⟨rfl, rfl⟩ ⟨Nat.le_of_ble_eq_true rfl, Nat.le_of_ble_eq_true rfl⟩ rfl hl.1 rfl (Nat.le_of_ble_eq_true rfl) ⟨Nat.zero_le _, Nat.zero_le _⟩ dX7_voltsBehind_5 (fun u4 H locs hG po2 => ?_)
  rw [po2] at hG
  refine n_ic X dX7_voltsBehind_8 (by decide) (by decide) (fun x5 t5 => ?_)
  refine lv_istore (lv' := [(4, .int x5), (0, .ref a900), (1, .ref a901), (2, .int x902), (3, .int x903)]) X.1 X.2.1 dX7_voltsBehind_9 hl (by decide) rfl (fun ls hl => ?_)
  have J11 : ∀ (n : Nat) (H : Heap) (locs : List Loc) (ls : Array Slot) (x6 : Int32), (0 ≤ x6.toInt) → (2147483647 - x6.toInt).toNat < n → TG D cy τ ρ (ty_d τ) s.heap H locs → lv_has ls 5 [(0, .ref a900), (1, .ref a901), (2, .int x902), (3, .int x903), (4, .int x6)] → W p l e (rL 4) s m args below meth c H locs 0 0 Q (F0 m 11 ls []) := by
    intro n
    induction n with
    | zero => intro H locs ls x6 bx6 hm11 hG hl; exact absurd hm11 (Nat.not_lt_zero _)
    | succ n ih11 =>
      intro H locs ls x6 bx6 hm11 hG hl
      have gx6 := cI_rng x6
      refine lv_iload X.1 X.2.1 dX7_voltsBehind_11 (lv_at hl 4 rfl) ?_
      refine lv_iload_n X.1 X.2.1 dX7_voltsBehind_13 rfl (lv_at hl 3 rfl) ?_
      refine n_icmp_ge (tgt := 33) X dX7_voltsBehind_14 (by decide) (fun c7 => ?_) (fun c7 => ?_)
      · refine lv_aload_n X.1 X.2.1 dX7_voltsBehind_33 rfl (lv_at hl 0 rfl) ?_
        refine gf_7_0 X hG h900 q_193 dX7_voltsBehind_34 (hN _ _ _ h900) (fun a8 h8 r8 => ?_)
        refine gf_3_0 X hG h8 q_163 dX7_voltsBehind_37 (hN _ _ _ h8) (fun a9 h9 r9 => ?_)
        refine lv_iload_n X.1 X.2.1 dX7_voltsBehind_40 rfl (lv_at hl 2 rfl) ?_
        refine k_cVi X hG (c_X8_voltsAt l D cy τ _ hN hR (ty_Wf.sub (S' := []) hF (by decide)) h9 x902) h9 rfl yv_X8_voltsAt q_588 ⟨rfl, rfl⟩ ⟨Nat.le_of_ble_eq_true rfl, Nat.le_of_ble_eq_true rfl⟩ rfl hl.1 rfl (Nat.le_of_ble_eq_true rfl) ⟨Nat.zero_le _, Nat.zero_le _⟩ dX7_voltsBehind_41 (fun x11 u12 H locs hG po10 => ?_)
        obtain ⟨eu12, po10⟩ := po10
        rw [eu12] at hG
        have g11 := cI_rng x11
        exact ret _ _ _ _ x11 _ hG ⟨rfl, trivial⟩ dX7_voltsBehind_44
      · refine lv_aload_n X.1 X.2.1 dX7_voltsBehind_17 rfl (lv_at hl 0 rfl) ?_
        refine gf_7_0 X hG h900 q_193 dX7_voltsBehind_18 (hN _ _ _ h900) (fun a13 h13 r13 => ?_)
        refine gf_3_0 X hG h13 q_163 dX7_voltsBehind_21 (hN _ _ _ h13) (fun a14 h14 r14 => ?_)
        refine k_cVv X hG (c_X8_step l D cy τ _ hN hR (ty_Wf.sub (S' := [5000]) hF (by decide)) h14) h14 rfl yv_X8_step q_561 ⟨rfl, rfl⟩ ⟨Nat.le_of_ble_eq_true rfl, Nat.le_of_ble_eq_true rfl⟩ rfl hl.1 rfl (Nat.le_of_ble_eq_true rfl) ⟨Nat.zero_le _, Nat.zero_le _⟩ dX7_voltsBehind_24 (fun u17 H locs hG po15 => ?_)
        rw [po15] at hG
        refine n_inc X (fun z19 => [(4, .int z19), (0, .ref a900), (1, .ref a901), (2, .int x902), (3, .int x903)]) dX7_voltsBehind_27 hl (k := 4) rfl (by decide) (by decide) (by omega) (by omega) (by decide) (fun _ => rfl) (fun x18 ls t18 hl => ?_)
        have hl : lv_has ls 5 [(4, .int x18), (0, .ref a900), (1, .ref a901), (2, .int x902), (3, .int x903)] := hl
        refine lv_goto (tgt := 11) X.1 X.2.1 dX7_voltsBehind_30 (by decide) ?_
        exact ih11 _ _ _ x18 (by omega) (by omega) hG (lv_sub hl [1, 2, 3, 4, 0] rfl)
  exact J11 _ _ _ _ x5 (by omega) (Nat.lt_succ_self _) hG (lv_sub hl [1, 2, 3, 4, 0] rfl)
set_option maxHeartbeats 4000000 in
set_option maxRecDepth 100000 in
theorem c_X7_peakUpTo (l : Launch) (D : va_G) (cy : Nat → ClassId) (τ : ty_T) (ρ : ty_R) {M : md_T} (hN : ty_N τ ρ) (hR : ty_Rg M τ ρ) (hF : ty_Wf M τ ρ [106, 302, 303, 806, 807, 808, 809, 810, 811, 812, 5000, 6005]) {a900 : Nat} (h900 : τ a900 = some (0, 7)) {a901 : Nat} (h901 : τ a901 = some (0, 3)) (x902 : Int32) (x903 : Int32) : KI l D cy yX7_peakUpTo cX7_peakUpTo 6 .int (rL 4) τ ρ [.ref a900, .ref a901, .int x902, .int x903] (fun r u => u = ρ ∧ True) := by
  refine k_metI "EdgeEchoes$Trial" rfl (by decide +kernel) (Nat.le_of_ble_eq_true rfl) (fun _ _ _ => rfl) ?_
  intro p e s m args below meth c Q ls X hG hl ret
  have hl : lv_has ls 6 [(0, .ref a900), (1, .ref a901), (2, .int x902), (3, .int x903)] := hl
  have g902 := cI_rng x902
  have g903 := cI_rng x903
  refine lv_aload_n X.1 X.2.1 dX7_peakUpTo_0 rfl (lv_at hl 0 rfl) ?_
  refine gf_7_0 X hG h900 q_193 dX7_peakUpTo_1 (hN _ _ _ h900) (fun a1 h1 r1 => ?_)
  refine lv_aload_n X.1 X.2.1 dX7_peakUpTo_4 rfl (lv_at hl 1 rfl) ?_
  refine k_cVv X hG (c_X3_copyFrom l D cy τ _ hN hR (ty_Wf.sub (S' := [106, 302, 303, 806, 807, 808, 809, 810, 811, 812, 5000, 6005]) hF (by decide)) h1 h901) h1 rfl yv_X3_copyFrom q_554 ⟨rfl, rfl⟩ ⟨Nat.le_of_ble_eq_true rfl, Nat.le_of_ble_eq_true rfl⟩ rfl hl.1 rfl (Nat.le_of_ble_eq_true rfl) ⟨Nat.zero_le _, Nat.zero_le _⟩ dX7_peakUpTo_5 (fun u4 H locs hG po2 => ?_)
  rw [po2] at hG
  refine lv_aload_n X.1 X.2.1 dX7_peakUpTo_8 rfl (lv_at hl 0 rfl) ?_
  refine gf_7_0 X hG h900 q_193 dX7_peakUpTo_9 (hN _ _ _ h900) (fun a5 h5 r5 => ?_)
  refine gf_3_0 X hG h5 q_163 dX7_peakUpTo_12 (hN _ _ _ h5) (fun a6 h6 r6 => ?_)
  refine lv_iload_n X.1 X.2.1 dX7_peakUpTo_15 rfl (lv_at hl 2 rfl) ?_
  refine k_cVi X hG (c_X8_voltsAt l D cy τ _ hN hR (ty_Wf.sub (S' := []) hF (by decide)) h6 x902) h6 rfl yv_X8_voltsAt q_588 ⟨rfl, rfl⟩ ⟨Nat.le_of_ble_eq_true rfl, Nat.le_of_ble_eq_true rfl⟩ rfl hl.1 rfl (Nat.le_of_ble_eq_true rfl) ⟨Nat.zero_le _, Nat.zero_le _⟩ dX7_peakUpTo_16 (fun x8 u9 H locs hG po7 => ?_)
  obtain ⟨eu9, po7⟩ := po7
  rw [eu9] at hG
  have g8 := cI_rng x8
  refine lv_istore (lv' := [(4, .int x8), (0, .ref a900), (1, .ref a901), (2, .int x902), (3, .int x903)]) X.1 X.2.1 dX7_peakUpTo_19 hl (by decide) rfl (fun ls hl => ?_)
  refine n_ic X dX7_peakUpTo_21 (by decide) (by decide) (fun x10 t10 => ?_)
  refine lv_istore (lv' := [(5, .int x10), (4, .int x8), (0, .ref a900), (1, .ref a901), (2, .int x902), (3, .int x903)]) X.1 X.2.1 dX7_peakUpTo_22 hl (by decide) rfl (fun ls hl => ?_)
  have J24 : ∀ (n : Nat) (H : Heap) (locs : List Loc) (ls : Array Slot) (x11 : Int32) (x12 : Int32), (0 ≤ x12.toInt) → (2147483647 - x12.toInt).toNat < n → TG D cy τ ρ (ty_d τ) s.heap H locs → lv_has ls 6 [(0, .ref a900), (1, .ref a901), (2, .int x902), (3, .int x903), (4, .int x11), (5, .int x12)] → W p l e (rL 4) s m args below meth c H locs 0 0 Q (F0 m 24 ls []) := by
    intro n
    induction n with
    | zero => intro H locs ls x11 x12 bx12 hm24 hG hl; exact absurd hm24 (Nat.not_lt_zero _)
    | succ n ih24 =>
      intro H locs ls x11 x12 bx12 hm24 hG hl
      have gx11 := cI_rng x11
      have gx12 := cI_rng x12
      refine lv_iload X.1 X.2.1 dX7_peakUpTo_24 (lv_at hl 5 rfl) ?_
      refine lv_iload_n X.1 X.2.1 dX7_peakUpTo_26 rfl (lv_at hl 3 rfl) ?_
      refine n_icmp_ge (tgt := 64) X dX7_peakUpTo_27 (by decide) (fun c13 => ?_) (fun c13 => ?_)
      · refine lv_iload X.1 X.2.1 dX7_peakUpTo_64 (lv_at hl 4 rfl) ?_
        exact ret _ _ _ _ x11 _ hG ⟨rfl, trivial⟩ dX7_peakUpTo_66
      · refine lv_aload_n X.1 X.2.1 dX7_peakUpTo_30 rfl (lv_at hl 0 rfl) ?_
        refine gf_7_0 X hG h900 q_193 dX7_peakUpTo_31 (hN _ _ _ h900) (fun a14 h14 r14 => ?_)
        refine gf_3_0 X hG h14 q_163 dX7_peakUpTo_34 (hN _ _ _ h14) (fun a15 h15 r15 => ?_)
        refine k_cVv X hG (c_X8_step l D cy τ _ hN hR (ty_Wf.sub (S' := [5000]) hF (by decide)) h15) h15 rfl yv_X8_step q_561 ⟨rfl, rfl⟩ ⟨Nat.le_of_ble_eq_true rfl, Nat.le_of_ble_eq_true rfl⟩ rfl hl.1 rfl (Nat.le_of_ble_eq_true rfl) ⟨Nat.zero_le _, Nat.zero_le _⟩ dX7_peakUpTo_37 (fun u18 H locs hG po16 => ?_)
        rw [po16] at hG
        refine lv_iload X.1 X.2.1 dX7_peakUpTo_40 (lv_at hl 4 rfl) ?_
        refine lv_aload_n X.1 X.2.1 dX7_peakUpTo_42 rfl (lv_at hl 0 rfl) ?_
        refine gf_7_0 X hG h900 q_193 dX7_peakUpTo_43 (hN _ _ _ h900) (fun a19 h19 r19 => ?_)
        refine gf_3_0 X hG h19 q_163 dX7_peakUpTo_46 (hN _ _ _ h19) (fun a20 h20 r20 => ?_)
        refine lv_iload_n X.1 X.2.1 dX7_peakUpTo_49 rfl (lv_at hl 2 rfl) ?_
        refine k_cVi X hG (c_X8_voltsAt l D cy τ _ hN hR (ty_Wf.sub (S' := []) hF (by decide)) h20 x902) h20 rfl yv_X8_voltsAt q_588 ⟨rfl, rfl⟩ ⟨Nat.le_of_ble_eq_true rfl, Nat.le_of_ble_eq_true rfl⟩ rfl hl.1 rfl (Nat.le_of_ble_eq_true rfl) ⟨Nat.zero_le _, Nat.zero_le _⟩ dX7_peakUpTo_50 (fun x22 u23 H locs hG po21 => ?_)
        obtain ⟨eu23, po21⟩ := po21
        rw [eu23] at hG
        have g22 := cI_rng x22
        refine n_max X hl.1 q_593 q_411 q_15 q_412 (Nat.le_of_ble_eq_true rfl) (Nat.le_of_ble_eq_true rfl) ⟨Nat.zero_le _, Nat.zero_le _⟩ dX7_peakUpTo_53 (fun x24 t24 => ?_)
        refine lv_istore (lv' := [(4, .int x24), (0, .ref a900), (1, .ref a901), (2, .int x902), (3, .int x903), (5, .int x12)]) X.1 X.2.1 dX7_peakUpTo_56 hl (by decide) rfl (fun ls hl => ?_)
        refine n_inc X (fun z26 => [(5, .int z26), (4, .int x24), (0, .ref a900), (1, .ref a901), (2, .int x902), (3, .int x903)]) dX7_peakUpTo_58 hl (k := 5) rfl (by decide) (by decide) (by omega) (by omega) (by decide) (fun _ => rfl) (fun x25 ls t25 hl => ?_)
        have hl : lv_has ls 6 [(5, .int x25), (4, .int x24), (0, .ref a900), (1, .ref a901), (2, .int x902), (3, .int x903)] := hl
        refine lv_goto (tgt := 24) X.1 X.2.1 dX7_peakUpTo_61 (by decide) ?_
        exact ih24 _ _ _ x24 x25 (by omega) (by omega) hG (lv_sub hl [2, 3, 4, 5, 1, 0] rfl)
  exact J24 _ _ _ _ x8 x10 (by omega) (Nat.lt_succ_self _) hG (lv_sub hl [2, 3, 4, 5, 1, 0] rfl)
set_option maxHeartbeats 4000000 in
set_option maxRecDepth 100000 in
theorem c_X7_leastUpTo (l : Launch) (D : va_G) (cy : Nat → ClassId) (τ : ty_T) (ρ : ty_R) {M : md_T} (hN : ty_N τ ρ) (hR : ty_Rg M τ ρ) (hF : ty_Wf M τ ρ [106, 302, 303, 806, 807, 808, 809, 810, 811, 812, 5000, 6005]) {a900 : Nat} (h900 : τ a900 = some (0, 7)) {a901 : Nat} (h901 : τ a901 = some (0, 3)) (x902 : Int32) (x903 : Int32) : KI l D cy yX7_leastUpTo cX7_leastUpTo 6 .int (rL 4) τ ρ [.ref a900, .ref a901, .int x902, .int x903] (fun r u => u = ρ ∧ True) := by
  refine k_metI "EdgeEchoes$Trial" rfl (by decide +kernel) (Nat.le_of_ble_eq_true rfl) (fun _ _ _ => rfl) ?_
  intro p e s m args below meth c Q ls X hG hl ret
  have hl : lv_has ls 6 [(0, .ref a900), (1, .ref a901), (2, .int x902), (3, .int x903)] := hl
  have g902 := cI_rng x902
  have g903 := cI_rng x903
  refine lv_aload_n X.1 X.2.1 dX7_leastUpTo_0 rfl (lv_at hl 0 rfl) ?_
  refine gf_7_0 X hG h900 q_193 dX7_leastUpTo_1 (hN _ _ _ h900) (fun a1 h1 r1 => ?_)
  refine lv_aload_n X.1 X.2.1 dX7_leastUpTo_4 rfl (lv_at hl 1 rfl) ?_
  refine k_cVv X hG (c_X3_copyFrom l D cy τ _ hN hR (ty_Wf.sub (S' := [106, 302, 303, 806, 807, 808, 809, 810, 811, 812, 5000, 6005]) hF (by decide)) h1 h901) h1 rfl yv_X3_copyFrom q_554 ⟨rfl, rfl⟩ ⟨Nat.le_of_ble_eq_true rfl, Nat.le_of_ble_eq_true rfl⟩ rfl hl.1 rfl (Nat.le_of_ble_eq_true rfl) ⟨Nat.zero_le _, Nat.zero_le _⟩ dX7_leastUpTo_5 (fun u4 H locs hG po2 => ?_)
  rw [po2] at hG
  refine lv_aload_n X.1 X.2.1 dX7_leastUpTo_8 rfl (lv_at hl 0 rfl) ?_
  refine gf_7_0 X hG h900 q_193 dX7_leastUpTo_9 (hN _ _ _ h900) (fun a5 h5 r5 => ?_)
  refine gf_3_0 X hG h5 q_163 dX7_leastUpTo_12 (hN _ _ _ h5) (fun a6 h6 r6 => ?_)
  refine lv_iload_n X.1 X.2.1 dX7_leastUpTo_15 rfl (lv_at hl 2 rfl) ?_
  refine k_cVi X hG (c_X8_voltsAt l D cy τ _ hN hR (ty_Wf.sub (S' := []) hF (by decide)) h6 x902) h6 rfl yv_X8_voltsAt q_588 ⟨rfl, rfl⟩ ⟨Nat.le_of_ble_eq_true rfl, Nat.le_of_ble_eq_true rfl⟩ rfl hl.1 rfl (Nat.le_of_ble_eq_true rfl) ⟨Nat.zero_le _, Nat.zero_le _⟩ dX7_leastUpTo_16 (fun x8 u9 H locs hG po7 => ?_)
  obtain ⟨eu9, po7⟩ := po7
  rw [eu9] at hG
  have g8 := cI_rng x8
  refine lv_istore (lv' := [(4, .int x8), (0, .ref a900), (1, .ref a901), (2, .int x902), (3, .int x903)]) X.1 X.2.1 dX7_leastUpTo_19 hl (by decide) rfl (fun ls hl => ?_)
  refine n_ic X dX7_leastUpTo_21 (by decide) (by decide) (fun x10 t10 => ?_)
  refine lv_istore (lv' := [(5, .int x10), (4, .int x8), (0, .ref a900), (1, .ref a901), (2, .int x902), (3, .int x903)]) X.1 X.2.1 dX7_leastUpTo_22 hl (by decide) rfl (fun ls hl => ?_)
  have J24 : ∀ (n : Nat) (H : Heap) (locs : List Loc) (ls : Array Slot) (x11 : Int32) (x12 : Int32), (0 ≤ x12.toInt) → (2147483647 - x12.toInt).toNat < n → TG D cy τ ρ (ty_d τ) s.heap H locs → lv_has ls 6 [(0, .ref a900), (1, .ref a901), (2, .int x902), (3, .int x903), (4, .int x11), (5, .int x12)] → W p l e (rL 4) s m args below meth c H locs 0 0 Q (F0 m 24 ls []) := by
    intro n
    induction n with
    | zero => intro H locs ls x11 x12 bx12 hm24 hG hl; exact absurd hm24 (Nat.not_lt_zero _)
    | succ n ih24 =>
      intro H locs ls x11 x12 bx12 hm24 hG hl
      have gx11 := cI_rng x11
      have gx12 := cI_rng x12
      refine lv_iload X.1 X.2.1 dX7_leastUpTo_24 (lv_at hl 5 rfl) ?_
      refine lv_iload_n X.1 X.2.1 dX7_leastUpTo_26 rfl (lv_at hl 3 rfl) ?_
      refine n_icmp_ge (tgt := 64) X dX7_leastUpTo_27 (by decide) (fun c13 => ?_) (fun c13 => ?_)
      · refine lv_iload X.1 X.2.1 dX7_leastUpTo_64 (lv_at hl 4 rfl) ?_
        exact ret _ _ _ _ x11 _ hG ⟨rfl, trivial⟩ dX7_leastUpTo_66
      · refine lv_aload_n X.1 X.2.1 dX7_leastUpTo_30 rfl (lv_at hl 0 rfl) ?_
        refine gf_7_0 X hG h900 q_193 dX7_leastUpTo_31 (hN _ _ _ h900) (fun a14 h14 r14 => ?_)
        refine gf_3_0 X hG h14 q_163 dX7_leastUpTo_34 (hN _ _ _ h14) (fun a15 h15 r15 => ?_)
        refine k_cVv X hG (c_X8_step l D cy τ _ hN hR (ty_Wf.sub (S' := [5000]) hF (by decide)) h15) h15 rfl yv_X8_step q_561 ⟨rfl, rfl⟩ ⟨Nat.le_of_ble_eq_true rfl, Nat.le_of_ble_eq_true rfl⟩ rfl hl.1 rfl (Nat.le_of_ble_eq_true rfl) ⟨Nat.zero_le _, Nat.zero_le _⟩ dX7_leastUpTo_37 (fun u18 H locs hG po16 => ?_)
        rw [po16] at hG
        refine lv_iload X.1 X.2.1 dX7_leastUpTo_40 (lv_at hl 4 rfl) ?_
        refine lv_aload_n X.1 X.2.1 dX7_leastUpTo_42 rfl (lv_at hl 0 rfl) ?_
        refine gf_7_0 X hG h900 q_193 dX7_leastUpTo_43 (hN _ _ _ h900) (fun a19 h19 r19 => ?_)
        refine gf_3_0 X hG h19 q_163 dX7_leastUpTo_46 (hN _ _ _ h19) (fun a20 h20 r20 => ?_)
        refine lv_iload_n X.1 X.2.1 dX7_leastUpTo_49 rfl (lv_at hl 2 rfl) ?_
        refine k_cVi X hG (c_X8_voltsAt l D cy τ _ hN hR (ty_Wf.sub (S' := []) hF (by decide)) h20 x902) h20 rfl yv_X8_voltsAt q_588 ⟨rfl, rfl⟩ ⟨Nat.le_of_ble_eq_true rfl, Nat.le_of_ble_eq_true rfl⟩ rfl hl.1 rfl (Nat.le_of_ble_eq_true rfl) ⟨Nat.zero_le _, Nat.zero_le _⟩ dX7_leastUpTo_50 (fun x22 u23 H locs hG po21 => ?_)
        obtain ⟨eu23, po21⟩ := po21
        rw [eu23] at hG
        have g22 := cI_rng x22
        refine n_min X hl.1 q_761 q_414 q_15 q_415 (Nat.le_of_ble_eq_true rfl) (Nat.le_of_ble_eq_true rfl) ⟨Nat.zero_le _, Nat.zero_le _⟩ dX7_leastUpTo_53 (fun x24 t24 => ?_)
        refine lv_istore (lv' := [(4, .int x24), (0, .ref a900), (1, .ref a901), (2, .int x902), (3, .int x903), (5, .int x12)]) X.1 X.2.1 dX7_leastUpTo_56 hl (by decide) rfl (fun ls hl => ?_)
        refine n_inc X (fun z26 => [(5, .int z26), (4, .int x24), (0, .ref a900), (1, .ref a901), (2, .int x902), (3, .int x903)]) dX7_leastUpTo_58 hl (k := 5) rfl (by decide) (by decide) (by omega) (by omega) (by decide) (fun _ => rfl) (fun x25 ls t25 hl => ?_)
        have hl : lv_has ls 6 [(5, .int x25), (4, .int x24), (0, .ref a900), (1, .ref a901), (2, .int x902), (3, .int x903)] := hl
        refine lv_goto (tgt := 24) X.1 X.2.1 dX7_leastUpTo_61 (by decide) ?_
        exact ih24 _ _ _ x24 x25 (by omega) (by omega) hG (lv_sub hl [2, 3, 4, 5, 1, 0] rfl)
  exact J24 _ _ _ _ x8 x10 (by omega) (Nat.lt_succ_self _) hG (lv_sub hl [2, 3, 4, 5, 1, 0] rfl)
set_option maxHeartbeats 4000000 in
set_option maxRecDepth 100000 in
theorem c_X7_restOf (l : Launch) (D : va_G) (cy : Nat → ClassId) (τ : ty_T) (ρ : ty_R) {M : md_T} (hN : ty_N τ ρ) (hR : ty_Rg M τ ρ) (hF : ty_Wf M τ ρ [106, 302, 303, 806, 807, 808, 809, 810, 811, 812, 5000, 6005]) {a900 : Nat} (h900 : τ a900 = some (0, 7)) {a901 : Nat} (h901 : τ a901 = some (0, 3)) (x902 : Int32) : KI l D cy yX7_restOf cX7_restOf 5 .int (rL 4) τ ρ [.ref a900, .ref a901, .int x902] (fun r u => u = ρ ∧ True) := by
  refine k_metI "EdgeEchoes$Trial" rfl (by decide +kernel) (Nat.le_of_ble_eq_true rfl) (fun _ _ _ => rfl) ?_
  intro p e s m args below meth c Q ls X hG hl ret
  have hl : lv_has ls 5 [(0, .ref a900), (1, .ref a901), (2, .int x902)] := hl
  have g902 := cI_rng x902
  refine lv_aload_n X.1 X.2.1 dX7_restOf_0 rfl (lv_at hl 0 rfl) ?_
  refine gf_7_0 X hG h900 q_193 dX7_restOf_1 (hN _ _ _ h900) (fun a1 h1 r1 => ?_)
  refine lv_aload_n X.1 X.2.1 dX7_restOf_4 rfl (lv_at hl 1 rfl) ?_
  refine k_cVv X hG (c_X3_copyFrom l D cy τ _ hN hR (ty_Wf.sub (S' := [106, 302, 303, 806, 807, 808, 809, 810, 811, 812, 5000, 6005]) hF (by decide)) h1 h901) h1 rfl yv_X3_copyFrom q_554 ⟨rfl, rfl⟩ ⟨Nat.le_of_ble_eq_true rfl, Nat.le_of_ble_eq_true rfl⟩ rfl hl.1 rfl (Nat.le_of_ble_eq_true rfl) ⟨Nat.zero_le _, Nat.zero_le _⟩ dX7_restOf_5 (fun u4 H locs hG po2 => ?_)
  rw [po2] at hG
  refine lv_aload_n X.1 X.2.1 dX7_restOf_8 rfl (lv_at hl 0 rfl) ?_
  refine gf_7_1 X hG h900 q_196 dX7_restOf_9 (hN _ _ _ h900) (fun a5 h5 r5 => ?_)
  refine n_ic X dX7_restOf_12 (by decide) (by decide) (fun x6 t6 => ?_)
  refine lv_aload_n X.1 X.2.1 dX7_restOf_13 rfl (lv_at hl 0 rfl) ?_
  refine gf_7_0 X hG h900 q_193 dX7_restOf_14 (hN _ _ _ h900) (fun a7 h7 r7 => ?_)
  refine gf_3_0 X hG h7 q_163 dX7_restOf_17 (hN _ _ _ h7) (fun a8 h8 r8 => ?_)
  refine lv_iload_n X.1 X.2.1 dX7_restOf_20 rfl (lv_at hl 2 rfl) ?_
  refine k_cVi X hG (c_X8_voltsAt l D cy τ _ hN hR (ty_Wf.sub (S' := []) hF (by decide)) h8 x902) h8 rfl yv_X8_voltsAt q_588 ⟨rfl, rfl⟩ ⟨Nat.le_of_ble_eq_true rfl, Nat.le_of_ble_eq_true rfl⟩ rfl hl.1 rfl (Nat.le_of_ble_eq_true rfl) ⟨Nat.zero_le _, Nat.zero_le _⟩ dX7_restOf_21 (fun x10 u11 H locs hG po9 => ?_)
  obtain ⟨eu11, po9⟩ := po9
  rw [eu11] at hG
  have g10 := cI_rng x10
  refine tg_iasf X hG h5 rfl (cI_in (n := 201) (by omega)) dX7_restOf_24 (hF _ _ _ _ h5 (ty_in (n := 5000) rfl) (ty_rno rfl)) (fun H locs hG => ?_)
  refine n_ic X dX7_restOf_25 (by decide) (by decide) (fun x12 t12 => ?_)
  refine lv_istore_n (lv' := [(3, .int x12), (0, .ref a900), (1, .ref a901), (2, .int x902)]) X.1 X.2.1 dX7_restOf_26 rfl hl (by decide) rfl (fun ls hl => ?_)
  have J27 : ∀ (n : Nat) (H : Heap) (locs : List Loc) (ls : Array Slot) (x13 : Int32), (1 ≤ x13.toInt ∧ x13.toInt ≤ 201) → (201 - x13.toInt).toNat < n → TG D cy τ ρ (ty_d τ) s.heap H locs → lv_has ls 5 [(0, .ref a900), (1, .ref a901), (2, .int x902), (3, .int x13)] → W p l e (rL 4) s m args below meth c H locs 0 0 Q (F0 m 27 ls []) := by
    intro n
    induction n with
    | zero => intro H locs ls x13 bx13 hm27 hG hl; exact absurd hm27 (Nat.not_lt_zero _)
    | succ n ih27 =>
      intro H locs ls x13 bx13 hm27 hG hl
      refine lv_iload_n X.1 X.2.1 dX7_restOf_27 rfl (lv_at hl 3 rfl) ?_
      refine n_sp X dX7_restOf_28 (by decide) (by decide) (fun x14 t14 => ?_)
      refine n_icmp_gt (tgt := 67) X dX7_restOf_31 (by decide) (fun c15 => ?_) (fun c15 => ?_)
      · refine n_sp X dX7_restOf_67 (by decide) (by decide) (fun x16 t16 => ?_)
        refine lv_istore_n (lv' := [(3, .int x16), (0, .ref a900), (1, .ref a901), (2, .int x902)]) X.1 X.2.1 dX7_restOf_70 rfl hl (by decide) rfl (fun ls hl => ?_)
        refine n_sp X dX7_restOf_71 (by decide) (by decide) (fun x17 t17 => ?_)
        refine lv_istore (lv' := [(4, .int x17), (3, .int x16), (0, .ref a900), (1, .ref a901), (2, .int x902)]) X.1 X.2.1 dX7_restOf_74 hl (by decide) rfl (fun ls hl => ?_)
        have J76 : ∀ (n : Nat) (H : Heap) (locs : List Loc) (ls : Array Slot) (x18 : Int32) (x19 : Int32), (0 ≤ x18.toInt ∧ x18.toInt ≤ 200) → (-1 ≤ x19.toInt ∧ x19.toInt ≤ 200) → (x19.toInt - -1).toNat < n → TG D cy τ ρ (ty_d τ) s.heap H locs → lv_has ls 5 [(0, .ref a900), (1, .ref a901), (2, .int x902), (3, .int x18), (4, .int x19)] → W p l e (rL 4) s m args below meth c H locs 0 0 Q (F0 m 76 ls []) := by
          intro n
          induction n with
          | zero => intro H locs ls x18 x19 bx18 bx19 hm76 hG hl; exact absurd hm76 (Nat.not_lt_zero _)
          | succ n ih76 =>
            intro H locs ls x18 x19 bx18 bx19 hm76 hG hl
            refine lv_iload X.1 X.2.1 dX7_restOf_76 (lv_at hl 4 rfl) ?_
            refine n_if_lt (tgt := 117) X dX7_restOf_78 (by decide) (fun c20 => ?_) (fun c20 => ?_)
            · refine lv_iload_n X.1 X.2.1 dX7_restOf_117 rfl (lv_at hl 3 rfl) ?_
              exact ret _ _ _ _ x18 _ hG ⟨rfl, trivial⟩ dX7_restOf_118
            · refine lv_aload_n X.1 X.2.1 dX7_restOf_81 rfl (lv_at hl 0 rfl) ?_
              refine gf_7_1 X hG h900 q_196 dX7_restOf_82 (hN _ _ _ h900) (fun a21 h21 r21 => ?_)
              refine lv_iload X.1 X.2.1 dX7_restOf_85 (lv_at hl 4 rfl) ?_
              refine tg_iald X hG h21 rfl (cI_in (n := 201) (by omega)) dX7_restOf_87 (fun x22 r22 => ?_)
              refine lv_aload_n X.1 X.2.1 dX7_restOf_88 rfl (lv_at hl 0 rfl) ?_
              refine gf_7_1 X hG h900 q_196 dX7_restOf_89 (hN _ _ _ h900) (fun a23 h23 r23 => ?_)
              refine n_sp X dX7_restOf_92 (by decide) (by decide) (fun x24 t24 => ?_)
              refine tg_iald X hG h23 rfl (cI_in (n := 201) (by omega)) dX7_restOf_95 (fun x25 r25 => ?_)
              refine lv_isub X.1 X.2.1 dX7_restOf_96 ?_
              refine n_any (fun x26 => ?_)
              refine n_abs X hl.1 q_770 q_771 q_15 q_772 (Nat.le_of_ble_eq_true rfl) (Nat.le_of_ble_eq_true rfl) ⟨Nat.zero_le _, Nat.zero_le _⟩ dX7_restOf_97 (fun x27 => ?_)
              refine n_bp X dX7_restOf_100 (by decide) (by decide) (fun x28 t28 => ?_)
              refine n_icmp_le (tgt := 108) X dX7_restOf_102 (by decide) (fun c29 => ?_) (fun c29 => ?_)
              · refine lv_iload X.1 X.2.1 dX7_restOf_108 (lv_at hl 4 rfl) ?_
                refine lv_istore_n (lv' := [(3, .int x19), (0, .ref a900), (1, .ref a901), (2, .int x902), (4, .int x19)]) X.1 X.2.1 dX7_restOf_110 rfl hl (by decide) rfl (fun ls hl => ?_)
                refine n_inc X (fun z31 => [(4, .int z31), (3, .int x19), (0, .ref a900), (1, .ref a901), (2, .int x902)]) dX7_restOf_111 hl (k := 4) rfl (by decide) (by decide) (by omega) (by omega) (by decide) (fun _ => rfl) (fun x30 ls t30 hl => ?_)
                have hl : lv_has ls 5 [(4, .int x30), (3, .int x19), (0, .ref a900), (1, .ref a901), (2, .int x902)] := hl
                refine lv_goto (tgt := 76) X.1 X.2.1 dX7_restOf_114 (by decide) ?_
                exact ih76 _ _ _ x19 x30 (by omega) (by omega) (by omega) hG (lv_sub hl [2, 3, 4, 1, 0] rfl)
              · refine lv_goto (tgt := 117) X.1 X.2.1 dX7_restOf_105 (by decide) ?_
                refine lv_iload_n X.1 X.2.1 dX7_restOf_117 rfl (lv_at hl 3 rfl) ?_
                exact ret _ _ _ _ x18 _ hG ⟨rfl, trivial⟩ dX7_restOf_118
        exact J76 _ _ _ _ x16 x17 (by omega) (by omega) (Nat.lt_succ_self _) hG (lv_sub hl [2, 3, 4, 1, 0] rfl)
      · refine lv_aload_n X.1 X.2.1 dX7_restOf_34 rfl (lv_at hl 0 rfl) ?_
        refine gf_7_0 X hG h900 q_193 dX7_restOf_35 (hN _ _ _ h900) (fun a32 h32 r32 => ?_)
        refine gf_3_0 X hG h32 q_163 dX7_restOf_38 (hN _ _ _ h32) (fun a33 h33 r33 => ?_)
        refine k_cVv X hG (c_X8_step l D cy τ _ hN hR (ty_Wf.sub (S' := [5000]) hF (by decide)) h33) h33 rfl yv_X8_step q_561 ⟨rfl, rfl⟩ ⟨Nat.le_of_ble_eq_true rfl, Nat.le_of_ble_eq_true rfl⟩ rfl hl.1 rfl (Nat.le_of_ble_eq_true rfl) ⟨Nat.zero_le _, Nat.zero_le _⟩ dX7_restOf_41 (fun u36 H locs hG po34 => ?_)
        rw [po34] at hG
        refine lv_aload_n X.1 X.2.1 dX7_restOf_44 rfl (lv_at hl 0 rfl) ?_
        refine gf_7_1 X hG h900 q_196 dX7_restOf_45 (hN _ _ _ h900) (fun a37 h37 r37 => ?_)
        refine lv_iload_n X.1 X.2.1 dX7_restOf_48 rfl (lv_at hl 3 rfl) ?_
        refine lv_aload_n X.1 X.2.1 dX7_restOf_49 rfl (lv_at hl 0 rfl) ?_
        refine gf_7_0 X hG h900 q_193 dX7_restOf_50 (hN _ _ _ h900) (fun a38 h38 r38 => ?_)
        refine gf_3_0 X hG h38 q_163 dX7_restOf_53 (hN _ _ _ h38) (fun a39 h39 r39 => ?_)
        refine lv_iload_n X.1 X.2.1 dX7_restOf_56 rfl (lv_at hl 2 rfl) ?_
        refine k_cVi X hG (c_X8_voltsAt l D cy τ _ hN hR (ty_Wf.sub (S' := []) hF (by decide)) h39 x902) h39 rfl yv_X8_voltsAt q_588 ⟨rfl, rfl⟩ ⟨Nat.le_of_ble_eq_true rfl, Nat.le_of_ble_eq_true rfl⟩ rfl hl.1 rfl (Nat.le_of_ble_eq_true rfl) ⟨Nat.zero_le _, Nat.zero_le _⟩ dX7_restOf_57 (fun x41 u42 H locs hG po40 => ?_)
        obtain ⟨eu42, po40⟩ := po40
        rw [eu42] at hG
        have g41 := cI_rng x41
        refine tg_iasf X hG h37 rfl (cI_in (n := 201) (by omega)) dX7_restOf_60 (hF _ _ _ _ h37 (ty_in (n := 5000) rfl) (ty_rno rfl)) (fun H locs hG => ?_)
        refine n_inc X (fun z44 => [(3, .int z44), (0, .ref a900), (1, .ref a901), (2, .int x902)]) dX7_restOf_61 hl (k := 3) rfl (by decide) (by decide) (by omega) (by omega) (by decide) (fun _ => rfl) (fun x43 ls t43 hl => ?_)
        have hl : lv_has ls 5 [(3, .int x43), (0, .ref a900), (1, .ref a901), (2, .int x902)] := hl
        refine lv_goto (tgt := 27) X.1 X.2.1 dX7_restOf_64 (by decide) ?_
        exact ih27 _ _ _ x43 (by omega) (by omega) hG (lv_sub hl [1, 2, 3, 0] rfl)
  exact J27 _ _ _ _ x12 (by omega) (Nat.lt_succ_self _) hG (lv_sub hl [1, 2, 3, 0] rfl)
set_option maxHeartbeats 4000000 in
set_option maxRecDepth 100000 in
theorem c_X7_firstOneOf (l : Launch) (D : va_G) (cy : Nat → ClassId) (τ : ty_T) (ρ : ty_R) {M : md_T} (hN : ty_N τ ρ) (hR : ty_Rg M τ ρ) (hF : ty_Wf M τ ρ [106, 302, 303, 806, 807, 808, 809, 810, 811, 812, 5000, 6005]) {a900 : Nat} (h900 : τ a900 = some (0, 7)) {a901 : Nat} (h901 : τ a901 = some (0, 3)) (x902 : Int32) : KI l D cy yX7_firstOneOf cX7_firstOneOf 4 .int (rL 5) τ ρ [.ref a900, .ref a901, .int x902] (fun r u => u = ρ ∧ True) := by
  refine k_metI "EdgeEchoes$Trial" rfl (by decide +kernel) (Nat.le_of_ble_eq_true rfl) (fun _ _ _ => rfl) ?_
  intro p e s m args below meth c Q ls X hG hl ret
  have hl : lv_has ls 4 [(0, .ref a900), (1, .ref a901), (2, .int x902)] := hl
  have g902 := cI_rng x902
  refine lv_aload_n X.1 X.2.1 dX7_firstOneOf_0 rfl (lv_at hl 1 rfl) ?_
  refine gf_3_1 X hG h901 q_170 dX7_firstOneOf_1 (hN _ _ _ h901) (fun a1 h1 r1 => ?_)
  refine lv_iload_n X.1 X.2.1 dX7_firstOneOf_4 rfl (lv_at hl 2 rfl) ?_
  refine k_cVi X hG (c_X1_has l D cy τ _ hN hR (ty_Wf.sub (S' := []) hF (by decide)) h1 x902) h1 rfl yv_X1_has q_637 ⟨rfl, rfl⟩ ⟨Nat.le_of_ble_eq_true rfl, Nat.le_of_ble_eq_true rfl⟩ rfl hl.1 rfl (Nat.le_of_ble_eq_true rfl) ⟨Nat.zero_le _, Nat.zero_le _⟩ dX7_firstOneOf_5 (fun x3 u4 H locs hG po2 => ?_)
  obtain ⟨eu4, po2⟩ := po2
  rw [eu4] at hG
  refine n_if_ne (tgt := 13) X dX7_firstOneOf_8 (by decide) (fun c5 => ?_) (fun c5 => ?_)
  · refine lv_aload_n X.1 X.2.1 dX7_firstOneOf_13 rfl (lv_at hl 0 rfl) ?_
    refine gf_7_0 X hG h900 q_193 dX7_firstOneOf_14 (hN _ _ _ h900) (fun a6 h6 r6 => ?_)
    refine lv_aload_n X.1 X.2.1 dX7_firstOneOf_17 rfl (lv_at hl 1 rfl) ?_
    refine k_cVv X hG (c_X3_copyFrom l D cy τ _ hN hR (ty_Wf.sub (S' := [106, 302, 303, 806, 807, 808, 809, 810, 811, 812, 5000, 6005]) hF (by decide)) h6 h901) h6 rfl yv_X3_copyFrom q_554 ⟨rfl, rfl⟩ ⟨Nat.le_of_ble_eq_true rfl, Nat.le_of_ble_eq_true rfl⟩ rfl hl.1 rfl (Nat.le_of_ble_eq_true rfl) ⟨Nat.zero_le _, Nat.zero_le _⟩ dX7_firstOneOf_18 (fun u9 H locs hG po7 => ?_)
    rw [po7] at hG
    refine n_ic X dX7_firstOneOf_21 (by decide) (by decide) (fun x10 t10 => ?_)
    refine lv_istore_n (lv' := [(3, .int x10), (0, .ref a900), (1, .ref a901), (2, .int x902)]) X.1 X.2.1 dX7_firstOneOf_22 rfl hl (by decide) rfl (fun ls hl => ?_)
    have J23 : ∀ (n : Nat) (H : Heap) (locs : List Loc) (ls : Array Slot) (x11 : Int32), (0 ≤ x11.toInt ∧ x11.toInt ≤ 201) → (201 - x11.toInt).toNat < n → TG D cy τ ρ (ty_d τ) s.heap H locs → lv_has ls 4 [(0, .ref a900), (1, .ref a901), (2, .int x902), (3, .int x11)] → W p l e (rL 5) s m args below meth c H locs 0 0 Q (F0 m 23 ls []) := by
      intro n
      induction n with
      | zero => intro H locs ls x11 bx11 hm23 hG hl; exact absurd hm23 (Nat.not_lt_zero _)
      | succ n ih23 =>
        intro H locs ls x11 bx11 hm23 hG hl
        refine lv_iload_n X.1 X.2.1 dX7_firstOneOf_23 rfl (lv_at hl 3 rfl) ?_
        refine n_sp X dX7_firstOneOf_24 (by decide) (by decide) (fun x12 t12 => ?_)
        refine n_icmp_gt (tgt := 61) X dX7_firstOneOf_27 (by decide) (fun c13 => ?_) (fun c13 => ?_)
        · refine n_ic X dX7_firstOneOf_61 (by decide) (by decide) (fun x14 t14 => ?_)
          exact ret _ _ _ _ x14 _ hG ⟨rfl, trivial⟩ dX7_firstOneOf_62
        · refine lv_aload_n X.1 X.2.1 dX7_firstOneOf_30 rfl (lv_at hl 0 rfl) ?_
          refine gf_7_0 X hG h900 q_193 dX7_firstOneOf_31 (hN _ _ _ h900) (fun a15 h15 r15 => ?_)
          refine gf_3_1 X hG h15 q_170 dX7_firstOneOf_34 (hN _ _ _ h15) (fun a16 h16 r16 => ?_)
          refine gf_1_3 X hG h16 q_138 dX7_firstOneOf_37 (hN _ _ _ h16) (fun a17 h17 r17 => ?_)
          refine lv_iload_n X.1 X.2.1 dX7_firstOneOf_40 rfl (lv_at hl 2 rfl) ?_
          refine tg_iald X hG h17 rfl (cI_in (n := 6) (by omega)) dX7_firstOneOf_41 (fun x18 r18 => ?_)
          refine n_ic X dX7_firstOneOf_42 (by decide) (by decide) (fun x19 t19 => ?_)
          refine n_icmp_ne (tgt := 48) X dX7_firstOneOf_43 (by decide) (fun c20 => ?_) (fun c20 => ?_)
          · refine lv_aload_n X.1 X.2.1 dX7_firstOneOf_48 rfl (lv_at hl 0 rfl) ?_
            refine gf_7_0 X hG h900 q_193 dX7_firstOneOf_49 (hN _ _ _ h900) (fun a21 h21 r21 => ?_)
            refine k_cVv X hG (c_X3_pass l D cy τ _ hN hR (ty_Wf.sub (S' := [303, 5000]) hF (by decide)) h21) h21 rfl yv_X3_pass q_638 ⟨rfl, rfl⟩ ⟨Nat.le_of_ble_eq_true rfl, Nat.le_of_ble_eq_true rfl⟩ rfl hl.1 rfl (Nat.le_of_ble_eq_true rfl) ⟨Nat.zero_le _, Nat.zero_le _⟩ dX7_firstOneOf_52 (fun u24 H locs hG po22 => ?_)
            rw [po22] at hG
            refine n_inc X (fun z26 => [(3, .int z26), (0, .ref a900), (1, .ref a901), (2, .int x902)]) dX7_firstOneOf_55 hl (k := 3) rfl (by decide) (by decide) (by omega) (by omega) (by decide) (fun _ => rfl) (fun x25 ls t25 hl => ?_)
            have hl : lv_has ls 4 [(3, .int x25), (0, .ref a900), (1, .ref a901), (2, .int x902)] := hl
            refine lv_goto (tgt := 23) X.1 X.2.1 dX7_firstOneOf_58 (by decide) ?_
            exact ih23 _ _ _ x25 (by omega) (by omega) hG (lv_sub hl [1, 2, 3, 0] rfl)
          · refine lv_iload_n X.1 X.2.1 dX7_firstOneOf_46 rfl (lv_at hl 3 rfl) ?_
            exact ret _ _ _ _ x11 _ hG ⟨rfl, trivial⟩ dX7_firstOneOf_47
    exact J23 _ _ _ _ x10 (by omega) (Nat.lt_succ_self _) hG (lv_sub hl [1, 2, 3, 0] rfl)
  · refine n_ic X dX7_firstOneOf_11 (by decide) (by decide) (fun x27 t27 => ?_)
    exact ret _ _ _ _ x27 _ hG ⟨rfl, trivial⟩ dX7_firstOneOf_12
set_option maxHeartbeats 4000000 in
set_option maxRecDepth 100000 in
theorem c_X7_overOf (l : Launch) (D : va_G) (cy : Nat → ClassId) (τ : ty_T) (ρ : ty_R) {M : md_T} (hN : ty_N τ ρ) (hR : ty_Rg M τ ρ) (hF : ty_Wf M τ ρ [106, 302, 303, 806, 807, 808, 809, 810, 811, 812, 5000, 6005]) {a900 : Nat} (h900 : τ a900 = some (0, 7)) {a901 : Nat} (h901 : τ a901 = some (0, 3)) (x902 : Int32) (x903 : Int32) : KI l D cy yX7_overOf cX7_overOf 7 .int (rL 4) τ ρ [.ref a900, .ref a901, .int x902, .int x903] (fun r u => u = ρ ∧ True) := by
  refine k_metI "EdgeEchoes$Trial" rfl (by decide +kernel) (Nat.le_of_ble_eq_true rfl) (fun _ _ _ => rfl) ?_
  intro p e s m args below meth c Q ls X hG hl ret
  have hl : lv_has ls 7 [(0, .ref a900), (1, .ref a901), (2, .int x902), (3, .int x903)] := hl
  have g902 := cI_rng x902
  have g903 := cI_rng x903
  refine lv_aload_n X.1 X.2.1 dX7_overOf_0 rfl (lv_at hl 0 rfl) ?_
  refine lv_aload_n X.1 X.2.1 dX7_overOf_1 rfl (lv_at hl 1 rfl) ?_
  refine k_cVv X hG (c_X7_startQuiet l D cy τ _ hN hR (ty_Wf.sub (S' := [106, 302, 303, 806, 807, 808, 809, 810, 811, 812, 5000, 6005]) hF (by decide)) h900 h901) h900 rfl yv_X7_startQuiet q_550 ⟨rfl, rfl⟩ ⟨Nat.le_of_ble_eq_true rfl, Nat.le_of_ble_eq_true rfl⟩ rfl hl.1 rfl (Nat.le_of_ble_eq_true rfl) ⟨Nat.zero_le _, Nat.zero_le _⟩ dX7_overOf_2 (fun u3 H locs hG po1 => ?_)
  rw [po1] at hG
  refine lv_aload_n X.1 X.2.1 dX7_overOf_5 rfl (lv_at hl 0 rfl) ?_
  refine gf_7_0 X hG h900 q_193 dX7_overOf_6 (hN _ _ _ h900) (fun a4 h4 r4 => ?_)
  refine gf_3_0 X hG h4 q_163 dX7_overOf_9 (hN _ _ _ h4) (fun a5 h5 r5 => ?_)
  refine lv_iload_n X.1 X.2.1 dX7_overOf_12 rfl (lv_at hl 2 rfl) ?_
  refine pf_8_8 X hG h5 q_86 dX7_overOf_13 (hF _ _ _ _ h5 (ty_in (n := 808) rfl) (ty_rno rfl)) (fun H locs hG => ?_)
  refine lv_aload_n X.1 X.2.1 dX7_overOf_16 rfl (lv_at hl 0 rfl) ?_
  refine gf_7_0 X hG h900 q_193 dX7_overOf_17 (hN _ _ _ h900) (fun a6 h6 r6 => ?_)
  refine gf_3_0 X hG h6 q_163 dX7_overOf_20 (hN _ _ _ h6) (fun a7 h7 r7 => ?_)
  refine gf_8_7 X hG h7 q_83 dX7_overOf_23 (fun x8 r8 => ?_)
  have b8 := (hR _ _ _ _ h7 r8) _ _ rfl
  refine n_ic X dX7_overOf_26 (by decide) (by decide) (fun x9 t9 => ?_)
  refine n_sub X dX7_overOf_27 (by omega) (by omega) (fun x10 t10 => ?_)
  refine lv_istore (lv' := [(4, .int x10), (0, .ref a900), (1, .ref a901), (2, .int x902), (3, .int x903)]) X.1 X.2.1 dX7_overOf_28 hl (by decide) rfl (fun ls hl => ?_)
  refine n_ic X dX7_overOf_30 (by decide) (by decide) (fun x11 t11 => ?_)
  refine lv_istore (lv' := [(5, .int x11), (4, .int x10), (0, .ref a900), (1, .ref a901), (2, .int x902), (3, .int x903)]) X.1 X.2.1 dX7_overOf_31 hl (by decide) rfl (fun ls hl => ?_)
  refine lv_iload X.1 X.2.1 dX7_overOf_33 (lv_at hl 1 rfl) ?_
  refine n_if_ge (tgt := 41) X dX7_overOf_35 (by decide) (fun c12 => ?_) (fun c12 => ?_)
  · refine n_ic X dX7_overOf_41 (by decide) (by decide) (fun x13 t13 => ?_)
    refine lv_istore (lv' := [(6, .int x13), (5, .int x11), (4, .int x10), (0, .ref a900), (1, .ref a901), (2, .int x902), (3, .int x903)]) X.1 X.2.1 dX7_overOf_42 hl (by decide) rfl (fun ls hl => ?_)
    have J44 : ∀ (n : Nat) (H : Heap) (locs : List Loc) (ls : Array Slot) (x14 : Int32) (x15 : Int32), (0 ≤ x14.toInt) → (0 ≤ x15.toInt ∧ x15.toInt ≤ 200) → (200 - x15.toInt).toNat < n → TG D cy τ ρ (ty_d τ) s.heap H locs → lv_has ls 7 [(0, .ref a900), (1, .ref a901), (2, .int x902), (3, .int x903), (4, .int x10), (5, .int x14), (6, .int x15)] → W p l e (rL 4) s m args below meth c H locs 0 0 Q (F0 m 44 ls []) := by
      intro n
      induction n with
      | zero => intro H locs ls x14 x15 bx14 bx15 hm44 hG hl; exact absurd hm44 (Nat.not_lt_zero _)
      | succ n ih44 =>
        intro H locs ls x14 x15 bx14 bx15 hm44 hG hl
        have gx14 := cI_rng x14
        refine lv_iload X.1 X.2.1 dX7_overOf_44 (lv_at hl 6 rfl) ?_
        refine n_sp X dX7_overOf_46 (by decide) (by decide) (fun x16 t16 => ?_)
        refine n_icmp_ge (tgt := 104) X dX7_overOf_49 (by decide) (fun c17 => ?_) (fun c17 => ?_)
        · refine lv_iload X.1 X.2.1 dX7_overOf_104 (lv_at hl 5 rfl) ?_
          exact ret _ _ _ _ x14 _ hG ⟨rfl, trivial⟩ dX7_overOf_106
        · refine lv_iload X.1 X.2.1 dX7_overOf_52 (lv_at hl 5 rfl) ?_
          refine lv_iload_n X.1 X.2.1 dX7_overOf_54 rfl (lv_at hl 3 rfl) ?_
          refine n_icmp_ge (tgt := 104) X dX7_overOf_55 (by decide) (fun c18 => ?_) (fun c18 => ?_)
          · refine lv_iload X.1 X.2.1 dX7_overOf_104 (lv_at hl 5 rfl) ?_
            exact ret _ _ _ _ x14 _ hG ⟨rfl, trivial⟩ dX7_overOf_106
          · refine lv_aload_n X.1 X.2.1 dX7_overOf_58 rfl (lv_at hl 0 rfl) ?_
            refine gf_7_0 X hG h900 q_193 dX7_overOf_59 (hN _ _ _ h900) (fun a19 h19 r19 => ?_)
            refine gf_3_0 X hG h19 q_163 dX7_overOf_62 (hN _ _ _ h19) (fun a20 h20 r20 => ?_)
            refine k_cVv X hG (c_X8_step l D cy τ _ hN hR (ty_Wf.sub (S' := [5000]) hF (by decide)) h20) h20 rfl yv_X8_step q_561 ⟨rfl, rfl⟩ ⟨Nat.le_of_ble_eq_true rfl, Nat.le_of_ble_eq_true rfl⟩ rfl hl.1 rfl (Nat.le_of_ble_eq_true rfl) ⟨Nat.zero_le _, Nat.zero_le _⟩ dX7_overOf_65 (fun u23 H locs hG po21 => ?_)
            rw [po21] at hG
            refine lv_iload X.1 X.2.1 dX7_overOf_68 (lv_at hl 5 rfl) ?_
            refine lv_aload_n X.1 X.2.1 dX7_overOf_70 rfl (lv_at hl 0 rfl) ?_
            refine gf_7_0 X hG h900 q_193 dX7_overOf_71 (hN _ _ _ h900) (fun a24 h24 r24 => ?_)
            refine gf_3_0 X hG h24 q_163 dX7_overOf_74 (hN _ _ _ h24) (fun a25 h25 r25 => ?_)
            refine lv_iload X.1 X.2.1 dX7_overOf_77 (lv_at hl 4 rfl) ?_
            refine k_cVi X hG (c_X8_voltsAt l D cy τ _ hN hR (ty_Wf.sub (S' := []) hF (by decide)) h25 x10) h25 rfl yv_X8_voltsAt q_588 ⟨rfl, rfl⟩ ⟨Nat.le_of_ble_eq_true rfl, Nat.le_of_ble_eq_true rfl⟩ rfl hl.1 rfl (Nat.le_of_ble_eq_true rfl) ⟨Nat.zero_le _, Nat.zero_le _⟩ dX7_overOf_79 (fun x27 u28 H locs hG po26 => ?_)
            obtain ⟨eu28, po26⟩ := po26
            rw [eu28] at hG
            have g27 := cI_rng x27
            refine lv_aload_n X.1 X.2.1 dX7_overOf_82 rfl (lv_at hl 0 rfl) ?_
            refine gf_7_0 X hG h900 q_193 dX7_overOf_83 (hN _ _ _ h900) (fun a29 h29 r29 => ?_)
            refine gf_3_0 X hG h29 q_163 dX7_overOf_86 (hN _ _ _ h29) (fun a30 h30 r30 => ?_)
            refine k_cVi X hG (c_X8_sourceVolts l D cy τ _ hN hR (ty_Wf.sub (S' := []) hF (by decide)) h30) h30 rfl yv_X8_sourceVolts q_592 ⟨rfl, rfl⟩ ⟨Nat.le_of_ble_eq_true rfl, Nat.le_of_ble_eq_true rfl⟩ rfl hl.1 rfl (Nat.le_of_ble_eq_true rfl) ⟨Nat.zero_le _, Nat.zero_le _⟩ dX7_overOf_89 (fun x32 u33 H locs hG po31 => ?_)
            obtain ⟨eu33, po31⟩ := po31
            rw [eu33] at hG
            have g32 := cI_rng x32
            refine lv_isub X.1 X.2.1 dX7_overOf_92 ?_
            refine n_any (fun x34 => ?_)
            refine n_max X hl.1 q_593 q_411 q_15 q_412 (Nat.le_of_ble_eq_true rfl) (Nat.le_of_ble_eq_true rfl) ⟨Nat.zero_le _, Nat.zero_le _⟩ dX7_overOf_93 (fun x35 t35 => ?_)
            refine lv_istore (lv' := [(5, .int x35), (0, .ref a900), (1, .ref a901), (2, .int x902), (3, .int x903), (4, .int x10), (6, .int x15)]) X.1 X.2.1 dX7_overOf_96 hl (by decide) rfl (fun ls hl => ?_)
            refine n_inc X (fun z37 => [(6, .int z37), (5, .int x35), (0, .ref a900), (1, .ref a901), (2, .int x902), (3, .int x903), (4, .int x10)]) dX7_overOf_98 hl (k := 6) rfl (by decide) (by decide) (by omega) (by omega) (by decide) (fun _ => rfl) (fun x36 ls t36 hl => ?_)
            have hl : lv_has ls 7 [(6, .int x36), (5, .int x35), (0, .ref a900), (1, .ref a901), (2, .int x902), (3, .int x903), (4, .int x10)] := hl
            refine lv_goto (tgt := 44) X.1 X.2.1 dX7_overOf_101 (by decide) ?_
            exact ih44 _ _ _ x35 x36 (by omega) (by omega) (by omega) hG (lv_sub hl [2, 3, 4, 5, 6, 1, 0] rfl)
    exact J44 _ _ _ _ x11 x13 (by omega) (by omega) (Nat.lt_succ_self _) hG (lv_sub hl [3, 4, 5, 6, 2, 1, 0] rfl)
  · refine lv_iload X.1 X.2.1 dX7_overOf_38 (lv_at hl 0 rfl) ?_
    exact ret _ _ _ _ x11 _ hG ⟨rfl, trivial⟩ dX7_overOf_40
set_option maxHeartbeats 4000000 in
set_option maxRecDepth 100000 in
theorem c_X7_bestDriverOf (l : Launch) (D : va_G) (cy : Nat → ClassId) (τ : ty_T) (ρ : ty_R) {M : md_T} (hN : ty_N τ ρ) (hR : ty_Rg M τ ρ) (hF : ty_Wf M τ ρ [106, 302, 303, 806, 807, 808, 809, 810, 811, 812, 5000, 6005]) {a900 : Nat} (h900 : τ a900 = some (0, 7)) {a901 : Nat} (h901 : τ a901 = some (0, 3)) : KI l D cy yX7_bestDriverOf cX7_bestDriverOf 6 .int (rL 5) τ ρ [.ref a900, .ref a901] (fun r u => u = ρ ∧ True) := by
  refine k_metI "EdgeEchoes$Trial" rfl (by decide +kernel) (Nat.le_of_ble_eq_true rfl) (fun _ _ _ => rfl) ?_
  intro p e s m args below meth c Q ls X hG hl ret
  have hl : lv_has ls 6 [(0, .ref a900), (1, .ref a901)] := hl
  refine n_ic X dX7_bestDriverOf_0 (by decide) (by decide) (fun x1 t1 => ?_)
  refine lv_istore_n (lv' := [(2, .int x1), (0, .ref a900), (1, .ref a901)]) X.1 X.2.1 dX7_bestDriverOf_1 rfl hl (by decide) rfl (fun ls hl => ?_)
  refine n_ldc X q_598 (n := 2147483647) (by decide +kernel) dX7_bestDriverOf_2 (fun x2 t2 => ?_)
  refine lv_istore_n (lv' := [(3, .int x2), (2, .int x1), (0, .ref a900), (1, .ref a901)]) X.1 X.2.1 dX7_bestDriverOf_4 rfl hl (by decide) rfl (fun ls hl => ?_)
  refine n_ic X dX7_bestDriverOf_5 (by decide) (by decide) (fun x3 t3 => ?_)
  refine lv_istore (lv' := [(4, .int x3), (3, .int x2), (2, .int x1), (0, .ref a900), (1, .ref a901)]) X.1 X.2.1 dX7_bestDriverOf_6 hl (by decide) rfl (fun ls hl => ?_)
  have J8 : ∀ (n : Nat) (H : Heap) (locs : List Loc) (ls : Array Slot) (x4 : Int32) (x5 : Int32) (x6 : Int32), (0 ≤ x4.toInt ∧ x4.toInt ≤ 99) → (0 ≤ x6.toInt ∧ x6.toInt ≤ 100) → (100 - x6.toInt).toNat < n → TG D cy τ ρ (ty_d τ) s.heap H locs → lv_has ls 6 [(0, .ref a900), (1, .ref a901), (2, .int x4), (3, .int x5), (4, .int x6)] → W p l e (rL 5) s m args below meth c H locs 0 0 Q (F0 m 8 ls []) := by
    intro n
    induction n with
    | zero => intro H locs ls x4 x5 x6 bx4 bx6 hm8 hG hl; exact absurd hm8 (Nat.not_lt_zero _)
    | succ n ih8 =>
      intro H locs ls x4 x5 x6 bx4 bx6 hm8 hG hl
      have gx5 := cI_rng x5
      refine lv_iload X.1 X.2.1 dX7_bestDriverOf_8 (lv_at hl 4 rfl) ?_
      refine n_bp X dX7_bestDriverOf_10 (by decide) (by decide) (fun x7 t7 => ?_)
      refine n_icmp_gt (tgt := 47) X dX7_bestDriverOf_12 (by decide) (fun c8 => ?_) (fun c8 => ?_)
      · refine lv_iload_n X.1 X.2.1 dX7_bestDriverOf_47 rfl (lv_at hl 2 rfl) ?_
        exact ret _ _ _ _ x4 _ hG ⟨rfl, trivial⟩ dX7_bestDriverOf_48
      · refine lv_iload_n X.1 X.2.1 dX7_bestDriverOf_15 rfl (lv_at hl 3 rfl) ?_
        refine n_if_le (tgt := 47) X dX7_bestDriverOf_16 (by decide) (fun c9 => ?_) (fun c9 => ?_)
        · refine lv_iload_n X.1 X.2.1 dX7_bestDriverOf_47 rfl (lv_at hl 2 rfl) ?_
          exact ret _ _ _ _ x4 _ hG ⟨rfl, trivial⟩ dX7_bestDriverOf_48
        · refine lv_aload_n X.1 X.2.1 dX7_bestDriverOf_19 rfl (lv_at hl 0 rfl) ?_
          refine lv_aload_n X.1 X.2.1 dX7_bestDriverOf_20 rfl (lv_at hl 1 rfl) ?_
          refine lv_iload X.1 X.2.1 dX7_bestDriverOf_21 (lv_at hl 4 rfl) ?_
          refine lv_iload_n X.1 X.2.1 dX7_bestDriverOf_23 rfl (lv_at hl 3 rfl) ?_
          refine k_cVi X hG (c_X7_overOf l D cy τ _ hN hR (ty_Wf.sub (S' := [106, 302, 303, 806, 807, 808, 809, 810, 811, 812, 5000, 6005]) hF (by decide)) h900 h901 x6 x5) h900 rfl yv_X7_overOf q_599 ⟨rfl, rfl⟩ ⟨Nat.le_of_ble_eq_true rfl, Nat.le_of_ble_eq_true rfl⟩ rfl hl.1 rfl (Nat.le_of_ble_eq_true rfl) ⟨Nat.zero_le _, Nat.zero_le _⟩ dX7_bestDriverOf_24 (fun x11 u12 H locs hG po10 => ?_)
          obtain ⟨eu12, po10⟩ := po10
          rw [eu12] at hG
          have g11 := cI_rng x11
          refine lv_istore (lv' := [(5, .int x11), (0, .ref a900), (1, .ref a901), (2, .int x4), (3, .int x5), (4, .int x6)]) X.1 X.2.1 dX7_bestDriverOf_27 hl (by decide) rfl (fun ls hl => ?_)
          refine lv_iload X.1 X.2.1 dX7_bestDriverOf_29 (lv_at hl 0 rfl) ?_
          refine lv_iload_n X.1 X.2.1 dX7_bestDriverOf_31 rfl (lv_at hl 4 rfl) ?_
          have J41 : ∀ (H : Heap) (locs : List Loc) (ls : Array Slot) (x13 : Int32) (x14 : Int32), (0 ≤ x13.toInt ∧ x13.toInt ≤ 99) → TG D cy τ ρ (ty_d τ) s.heap H locs → lv_has ls 6 [(0, .ref a900), (1, .ref a901), (2, .int x13), (3, .int x14), (4, .int x6), (5, .int x11)] → W p l e (rL 5) s m args below meth c H locs 0 0 Q (F0 m 41 ls []) := by
            intro H locs ls x13 x14 bx13 hG hl
            have gx14 := cI_rng x14
            refine n_inc X (fun z16 => [(4, .int z16), (0, .ref a900), (1, .ref a901), (2, .int x13), (3, .int x14), (5, .int x11)]) dX7_bestDriverOf_41 hl (k := 4) rfl (by decide) (by decide) (by omega) (by omega) (by decide) (fun _ => rfl) (fun x15 ls t15 hl => ?_)
            have hl : lv_has ls 6 [(4, .int x15), (0, .ref a900), (1, .ref a901), (2, .int x13), (3, .int x14), (5, .int x11)] := hl
            refine lv_goto (tgt := 8) X.1 X.2.1 dX7_bestDriverOf_44 (by decide) ?_
            exact ih8 _ _ _ x13 x14 x15 (by omega) (by omega) (by omega) hG (lv_sub hl [1, 2, 3, 4, 0] rfl)
          refine n_icmp_ge (tgt := 41) X dX7_bestDriverOf_32 (by decide) (fun c17 => ?_) (fun c17 => ?_)
          · exact J41 _ _ _ x4 x5 (by omega) hG (lv_sub hl [1, 2, 3, 4, 5, 0] rfl)
          · refine lv_iload X.1 X.2.1 dX7_bestDriverOf_35 (lv_at hl 0 rfl) ?_
            refine lv_istore_n (lv' := [(3, .int x11), (5, .int x11), (0, .ref a900), (1, .ref a901), (2, .int x4), (4, .int x6)]) X.1 X.2.1 dX7_bestDriverOf_37 rfl hl (by decide) rfl (fun ls hl => ?_)
            refine lv_iload X.1 X.2.1 dX7_bestDriverOf_38 (lv_at hl 5 rfl) ?_
            refine lv_istore_n (lv' := [(2, .int x6), (3, .int x11), (5, .int x11), (0, .ref a900), (1, .ref a901), (4, .int x6)]) X.1 X.2.1 dX7_bestDriverOf_40 rfl hl (by decide) rfl (fun ls hl => ?_)
            exact J41 _ _ _ x6 x11 (by omega) hG (lv_sub hl [3, 4, 0, 1, 5, 2] rfl)
  exact J8 _ _ _ _ x1 x2 x3 (by omega) (by omega) (Nat.lt_succ_self _) hG (lv_sub hl [3, 4, 2, 1, 0] rfl)
set_option maxHeartbeats 4000000 in
set_option maxRecDepth 100000 in
theorem c_X7_firstBackOf (l : Launch) (D : va_G) (cy : Nat → ClassId) (τ : ty_T) (ρ : ty_R) {M : md_T} (hN : ty_N τ ρ) (hR : ty_Rg M τ ρ) (hF : ty_Wf M τ ρ [106, 302, 303, 806, 807, 808, 809, 810, 811, 812, 5000, 6005]) {a900 : Nat} (h900 : τ a900 = some (0, 7)) {a901 : Nat} (h901 : τ a901 = some (0, 3)) : KI l D cy yX7_firstBackOf cX7_firstBackOf 3 .int (rL 4) τ ρ [.ref a900, .ref a901] (fun r u => u = ρ ∧ True) := by
  refine k_metI "EdgeEchoes$Trial" rfl (by decide +kernel) (Nat.le_of_ble_eq_true rfl) (fun _ _ _ => rfl) ?_
  intro p e s m args below meth c Q ls X hG hl ret
  have hl : lv_has ls 3 [(0, .ref a900), (1, .ref a901)] := hl
  refine lv_aload_n X.1 X.2.1 dX7_firstBackOf_0 rfl (lv_at hl 0 rfl) ?_
  refine lv_aload_n X.1 X.2.1 dX7_firstBackOf_1 rfl (lv_at hl 1 rfl) ?_
  refine k_cVv X hG (c_X7_startQuiet l D cy τ _ hN hR (ty_Wf.sub (S' := [106, 302, 303, 806, 807, 808, 809, 810, 811, 812, 5000, 6005]) hF (by decide)) h900 h901) h900 rfl yv_X7_startQuiet q_550 ⟨rfl, rfl⟩ ⟨Nat.le_of_ble_eq_true rfl, Nat.le_of_ble_eq_true rfl⟩ rfl hl.1 rfl (Nat.le_of_ble_eq_true rfl) ⟨Nat.zero_le _, Nat.zero_le _⟩ dX7_firstBackOf_2 (fun u3 H locs hG po1 => ?_)
  rw [po1] at hG
  refine n_ic X dX7_firstBackOf_5 (by decide) (by decide) (fun x4 t4 => ?_)
  refine lv_istore_n (lv' := [(2, .int x4), (0, .ref a900), (1, .ref a901)]) X.1 X.2.1 dX7_firstBackOf_6 rfl hl (by decide) rfl (fun ls hl => ?_)
  have J7 : ∀ (n : Nat) (H : Heap) (locs : List Loc) (ls : Array Slot) (x5 : Int32), (1 ≤ x5.toInt ∧ x5.toInt ≤ 201) → (201 - x5.toInt).toNat < n → TG D cy τ ρ (ty_d τ) s.heap H locs → lv_has ls 3 [(0, .ref a900), (1, .ref a901), (2, .int x5)] → W p l e (rL 4) s m args below meth c H locs 0 0 Q (F0 m 7 ls []) := by
    intro n
    induction n with
    | zero => intro H locs ls x5 bx5 hm7 hG hl; exact absurd hm7 (Nat.not_lt_zero _)
    | succ n ih7 =>
      intro H locs ls x5 bx5 hm7 hG hl
      refine lv_iload_n X.1 X.2.1 dX7_firstBackOf_7 rfl (lv_at hl 2 rfl) ?_
      refine n_sp X dX7_firstBackOf_8 (by decide) (by decide) (fun x6 t6 => ?_)
      refine n_icmp_gt (tgt := 47) X dX7_firstBackOf_11 (by decide) (fun c7 => ?_) (fun c7 => ?_)
      · refine n_ic X dX7_firstBackOf_47 (by decide) (by decide) (fun x8 t8 => ?_)
        exact ret _ _ _ _ x8 _ hG ⟨rfl, trivial⟩ dX7_firstBackOf_48
      · refine lv_aload_n X.1 X.2.1 dX7_firstBackOf_14 rfl (lv_at hl 0 rfl) ?_
        refine gf_7_0 X hG h900 q_193 dX7_firstBackOf_15 (hN _ _ _ h900) (fun a9 h9 r9 => ?_)
        refine gf_3_0 X hG h9 q_163 dX7_firstBackOf_18 (hN _ _ _ h9) (fun a10 h10 r10 => ?_)
        refine k_cVv X hG (c_X8_step l D cy τ _ hN hR (ty_Wf.sub (S' := [5000]) hF (by decide)) h10) h10 rfl yv_X8_step q_561 ⟨rfl, rfl⟩ ⟨Nat.le_of_ble_eq_true rfl, Nat.le_of_ble_eq_true rfl⟩ rfl hl.1 rfl (Nat.le_of_ble_eq_true rfl) ⟨Nat.zero_le _, Nat.zero_le _⟩ dX7_firstBackOf_21 (fun u13 H locs hG po11 => ?_)
        rw [po11] at hG
        refine lv_aload_n X.1 X.2.1 dX7_firstBackOf_24 rfl (lv_at hl 0 rfl) ?_
        refine gf_7_0 X hG h900 q_193 dX7_firstBackOf_25 (hN _ _ _ h900) (fun a14 h14 r14 => ?_)
        refine gf_3_0 X hG h14 q_163 dX7_firstBackOf_28 (hN _ _ _ h14) (fun a15 h15 r15 => ?_)
        refine gf_8_4 X hG h15 q_74 dX7_firstBackOf_31 (hN _ _ _ h15) (fun a16 h16 r16 => ?_)
        refine n_ic X dX7_firstBackOf_34 (by decide) (by decide) (fun x17 t17 => ?_)
        refine tg_iald X hG h16 rfl (cI_in (n := 72) (by omega)) dX7_firstBackOf_35 (fun x18 r18 => ?_)
        refine n_if_eq (tgt := 41) X dX7_firstBackOf_36 (by decide) (fun c19 => ?_) (fun c19 => ?_)
        · refine n_inc X (fun z21 => [(2, .int z21), (0, .ref a900), (1, .ref a901)]) dX7_firstBackOf_41 hl (k := 2) rfl (by decide) (by decide) (by omega) (by omega) (by decide) (fun _ => rfl) (fun x20 ls t20 hl => ?_)
          have hl : lv_has ls 3 [(2, .int x20), (0, .ref a900), (1, .ref a901)] := hl
          refine lv_goto (tgt := 7) X.1 X.2.1 dX7_firstBackOf_44 (by decide) ?_
          exact ih7 _ _ _ x20 (by omega) (by omega) hG (lv_sub hl [1, 2, 0] rfl)
        · refine lv_iload_n X.1 X.2.1 dX7_firstBackOf_39 rfl (lv_at hl 2 rfl) ?_
          exact ret _ _ _ _ x5 _ hG ⟨rfl, trivial⟩ dX7_firstBackOf_40
  exact J7 _ _ _ _ x4 (by omega) (Nat.lt_succ_self _) hG (lv_sub hl [1, 2, 0] rfl)
