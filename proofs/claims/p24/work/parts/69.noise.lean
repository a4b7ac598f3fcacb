/-! noNoise, to the number -/
def nnL (q : Int32) : Nat → Int64
  | 0 => 1000000000
  | n + 1 => nnL q n * q.toInt64 / 100
def nnA (a q : Int32) : Int32 := if 0 ≤ a.toInt ∧ a.toInt ≤ 60 ∧ 0 ≤ q.toInt ∧ q.toInt ≤ 100 then (nnL q a.toInt.toNat).toInt32 else -1000000002
theorem nn_s {q : Int32} {m n : Nat} (h : m = n + 1) : nnL q m = nnL q n * q.toInt64 / 100 := by rw [h]; rfl
theorem nn_out {a q x : Int32} (hx : x.toInt = -1000000002) (h : ¬ (0 ≤ a.toInt ∧ a.toInt ≤ 60 ∧ 0 ≤ q.toInt ∧ q.toInt ≤ 100)) : x = nnA a q := by
  unfold nnA
  rw [if_neg h]
  exact cI_inj (by rw [hx]; decide +kernel)
theorem nn_in {a q x z : Int32} (h1 : 0 ≤ a.toInt ∧ a.toInt ≤ 60) (h2 : 0 ≤ q.toInt ∧ q.toInt ≤ 100) (hz : z = (nnL q x.toInt.toNat).toInt32) (hx : x.toInt = a.toInt) : z = nnA a q := by
  unfold nnA
  rw [if_pos ⟨h1.1, h1.2, h2.1, h2.2⟩, hz, hx]
set_option maxHeartbeats 4000000 in
set_option maxRecDepth 100000 in
theorem e_X9_noNoise (l : Launch) (D : va_G) (cy : Nat → ClassId) (τ : ty_T) (ρ : ty_R) {M : md_T} (hN : ty_N τ ρ) (hR : ty_Rg M τ ρ) (hF : ty_Wf M τ ρ []) {a900 : Nat} (h900 : τ a900 = some (0, 9)) (x901 : Int32) (x902 : Int32) : KI l D cy yX9_noNoise cX9_noNoise 6 .int (rL 0) τ ρ [.ref a900, .int x901, .int x902] (fun r u => u = ρ ∧ r = nnA x901 x902) := by
  refine k_metI "EdgeEchoes" rfl (by decide +kernel) (Nat.le_of_ble_eq_true rfl) (fun _ _ _ => rfl) ?_
  intro p e s m args below meth c Q ls X hG hl ret
  have hl : lv_has ls 6 [(0, .ref a900), (1, .int x901), (2, .int x902)] := hl
  have g901 := cI_rng x901
  have g902 := cI_rng x902
  refine lv_iload_n X.1 X.2.1 dX9_noNoise_0 rfl (lv_at hl 1 rfl) ?_
  refine n_if_lt (tgt := 20) X dX9_noNoise_1 (by decide) (fun c1 => ?_) (fun c1 => ?_)
  · refine n_ldc X q_327 (n := -1000000002) (by decide +kernel) dX9_noNoise_20 (fun x2 t2 => ?_)
    exact ret _ _ _ _ x2 _ hG ⟨rfl, nn_out (by omega) (by omega)⟩ dX9_noNoise_22
  · refine lv_iload_n X.1 X.2.1 dX9_noNoise_4 rfl (lv_at hl 1 rfl) ?_
    refine n_bp X dX9_noNoise_5 (by decide) (by decide) (fun x3 t3 => ?_)
    refine n_icmp_gt (tgt := 20) X dX9_noNoise_7 (by decide) (fun c4 => ?_) (fun c4 => ?_)
    · refine n_ldc X q_327 (n := -1000000002) (by decide +kernel) dX9_noNoise_20 (fun x5 t5 => ?_)
      exact ret _ _ _ _ x5 _ hG ⟨rfl, nn_out (by omega) (by omega)⟩ dX9_noNoise_22
    · refine lv_iload_n X.1 X.2.1 dX9_noNoise_10 rfl (lv_at hl 2 rfl) ?_
      refine n_if_lt (tgt := 20) X dX9_noNoise_11 (by decide) (fun c6 => ?_) (fun c6 => ?_)
      · refine n_ldc X q_327 (n := -1000000002) (by decide +kernel) dX9_noNoise_20 (fun x7 t7 => ?_)
        exact ret _ _ _ _ x7 _ hG ⟨rfl, nn_out (by omega) (by omega)⟩ dX9_noNoise_22
      · refine lv_iload_n X.1 X.2.1 dX9_noNoise_14 rfl (lv_at hl 2 rfl) ?_
        refine n_bp X dX9_noNoise_15 (by decide) (by decide) (fun x8 t8 => ?_)
        refine n_icmp_le (tgt := 23) X dX9_noNoise_17 (by decide) (fun c9 => ?_) (fun c9 => ?_)
        · refine n_ldl X q_785 (n := 1000000000) (by decide +kernel) dX9_noNoise_23 (fun w10 e10 t10 => ?_)
          refine lv_lstore_n (lv' := [(3, .long w10), (0, .ref a900), (1, .int x901), (2, .int x902)]) X.1 X.2.1 dX9_noNoise_26 rfl hl (by decide) rfl (fun ls hl => ?_)
          refine n_ic X dX9_noNoise_27 (by decide) (by decide) (fun x11 t11 => ?_)
          refine lv_istore (lv' := [(5, .int x11), (3, .long w10), (0, .ref a900), (1, .int x901), (2, .int x902)]) X.1 X.2.1 dX9_noNoise_28 hl (by decide) rfl (fun ls hl => ?_)
          have J30 : ∀ (n : Nat) (H : Heap) (locs : List Loc) (ls : Array Slot) (w12 : Int64) (x13 : Int32), (0 ≤ x13.toInt ∧ x13.toInt ≤ x901.toInt) → w12 = nnL x902 x13.toInt.toNat → (60 - x13.toInt).toNat < n → TG D cy τ ρ (ty_d τ) s.heap H locs → lv_has ls 6 [(0, .ref a900), (1, .int x901), (2, .int x902), (3, .long w12), (5, .int x13)] → W p l e (rL 0) s m args below meth c H locs 0 0 Q (F0 m 30 ls []) := by
            intro n
            induction n with
            | zero => intro H locs ls w12 x13 bx13 ew12 hm30 hG hl; exact absurd hm30 (Nat.not_lt_zero _)
            | succ n ih30 =>
              intro H locs ls w12 x13 bx13 ew12 hm30 hG hl
              refine lv_iload X.1 X.2.1 dX9_noNoise_30 (lv_at hl 4 rfl) ?_
              refine lv_iload_n X.1 X.2.1 dX9_noNoise_32 rfl (lv_at hl 1 rfl) ?_
              refine n_icmp_ge (tgt := 51) X dX9_noNoise_33 (by decide) (fun c14 => ?_) (fun c14 => ?_)
              · refine lv_lload_n X.1 X.2.1 dX9_noNoise_51 rfl (lv_at hl 3 rfl) ?_
                refine lv_l2i X.1 X.2.1 dX9_noNoise_52 rfl ?_
                exact ret _ _ _ _ _ _ hG ⟨rfl, nn_in (by omega) (by omega) (by rw [ew12]) (by omega)⟩ dX9_noNoise_53
              · refine lv_lload_n X.1 X.2.1 dX9_noNoise_36 rfl (lv_at hl 3 rfl) ?_
                refine lv_iload_n X.1 X.2.1 dX9_noNoise_37 rfl (lv_at hl 2 rfl) ?_
                refine lv_i2l X.1 X.2.1 dX9_noNoise_38 rfl ?_
                refine lv_lmul X.1 X.2.1 dX9_noNoise_39 ?_
                refine n_ldl X q_786 (n := 100) (by decide +kernel) dX9_noNoise_40 (fun w18 e18 t18 => ?_)
                refine lv_ldiv X.1 X.2.1 dX9_noNoise_43 (by rw [e18]; decide) ?_
                obtain ⟨w19, ew19⟩ : ∃ y : Int64, y = w12 * x902.toInt64 / w18 := ⟨_, rfl⟩
                rw [← ew19]
                refine lv_lstore_n (lv' := [(3, .long w19), (0, .ref a900), (1, .int x901), (2, .int x902), (5, .int x13)]) X.1 X.2.1 dX9_noNoise_44 rfl hl (by decide) rfl (fun ls hl => ?_)
                refine n_inc X (fun z21 => [(5, .int z21), (3, .long w19), (0, .ref a900), (1, .int x901), (2, .int x902)]) dX9_noNoise_45 hl (k := 4) rfl (by decide) (by decide) (by omega) (by omega) (by decide) (fun _ => rfl) (fun x20 ls t20 hl => ?_)
                have hl : lv_has ls 6 [(5, .int x20), (3, .long w19), (0, .ref a900), (1, .int x901), (2, .int x902)] := hl
                refine lv_goto (tgt := 30) X.1 X.2.1 dX9_noNoise_48 (by decide) ?_
                exact ih30 _ _ _ w19 x20 (by omega) (by rw [ew19, ew12, e18, nn_s (show x20.toInt.toNat = x13.toInt.toNat + 1 by omega)]) (by omega) hG (lv_sub hl [2, 3, 4, 1, 0] rfl)
          exact J30 _ _ _ _ w10 x11 (by omega) (by rw [e10, show x11.toInt.toNat = 0 by omega]; rfl) (Nat.lt_succ_self _) hG (lv_sub hl [2, 3, 4, 1, 0] rfl)
        · refine n_ldc X q_327 (n := -1000000002) (by decide +kernel) dX9_noNoise_20 (fun x22 t22 => ?_)
          exact ret _ _ _ _ x22 _ hG ⟨rfl, nn_out (by omega) (by omega)⟩ dX9_noNoise_22
set_option maxHeartbeats 4000000 in
set_option maxRecDepth 100000 in
theorem e_X10_noNoise (l : Launch) (D : va_G) (cy : Nat → ClassId) (τ : ty_T) (ρ : ty_R) {M : md_T} (hN : ty_N τ ρ) (hR : ty_Rg M τ ρ) (hF : ty_Wf M τ ρ []) {a900 : Nat} (h900 : τ a900 = some (0, 10)) (x901 : Int32) (x902 : Int32) : KI l D cy yX10_noNoise cX10_noNoise 6 .int (rL 1) τ ρ [.ref a900, .int x901, .int x902] (fun r u => u = ρ ∧ r = nnA x901 x902) := by
  refine k_metI "EdgeEchoesModel" rfl (by decide +kernel) (Nat.le_of_ble_eq_true rfl) (fun _ _ _ => rfl) ?_
  intro p e s m args below meth c Q ls X hG hl ret
  have hl : lv_has ls 6 [(0, .ref a900), (1, .int x901), (2, .int x902)] := hl
  have g901 := cI_rng x901
  have g902 := cI_rng x902
  refine lv_iload_n X.1 X.2.1 dX10_noNoise_0 rfl (lv_at hl 1 rfl) ?_
  refine n_i2l X dX10_noNoise_1 (fun w1 t1 => ?_)
  refine n_lc X dX10_noNoise_2 (fun w2 t2 => ?_)
  have t2 : w2.toInt = 0 := t2
  refine n_ldl X q_1223 (n := 60) (by decide +kernel) dX10_noNoise_3 (fun w3 e3 t3 => ?_)
  refine k_cSi X hG (c_X10_in l D cy τ _ hN hR (ty_Wf.sub (S' := []) hF (by decide)) w1 w2 w3 ) ys_X10_in q_957 ⟨rfl, rfl⟩ ⟨Nat.le_of_ble_eq_true rfl, Nat.le_of_ble_eq_true rfl⟩ rfl hl.1 rfl (Nat.le_of_ble_eq_true rfl) ⟨Nat.zero_le _, Nat.zero_le _⟩ dX10_noNoise_6 (fun x5 u6 H locs hG po4 => ?_)
  obtain ⟨eu6, po4⟩ := po4
  rw [eu6] at hG
  refine n_if_eq (tgt := 24) X dX10_noNoise_9 (by decide) (fun c7 => ?_) (fun c7 => ?_)
  · refine n_ldc X q_960 (n := -1000000002) (by decide +kernel) dX10_noNoise_24 (fun x8 t8 => ?_)
    exact ret _ _ _ _ x8 _ hG ⟨rfl, nn_out (by omega) (by omega)⟩ dX10_noNoise_26
  · refine lv_iload_n X.1 X.2.1 dX10_noNoise_12 rfl (lv_at hl 2 rfl) ?_
    refine n_i2l X dX10_noNoise_13 (fun w9 t9 => ?_)
    refine n_lc X dX10_noNoise_14 (fun w10 t10 => ?_)
    have t10 : w10.toInt = 0 := t10
    refine n_ldl X q_1224 (n := 100) (by decide +kernel) dX10_noNoise_15 (fun w11 e11 t11 => ?_)
    refine k_cSi X hG (c_X10_in l D cy τ _ hN hR (ty_Wf.sub (S' := []) hF (by decide)) w9 w10 w11 ) ys_X10_in q_957 ⟨rfl, rfl⟩ ⟨Nat.le_of_ble_eq_true rfl, Nat.le_of_ble_eq_true rfl⟩ rfl hl.1 rfl (Nat.le_of_ble_eq_true rfl) ⟨Nat.zero_le _, Nat.zero_le _⟩ dX10_noNoise_18 (fun x13 u14 H locs hG po12 => ?_)
    obtain ⟨eu14, po12⟩ := po12
    rw [eu14] at hG
    refine n_if_ne (tgt := 27) X dX10_noNoise_21 (by decide) (fun c15 => ?_) (fun c15 => ?_)
    · refine n_ldl X q_1225 (n := 1000000000) (by decide +kernel) dX10_noNoise_27 (fun w16 e16 t16 => ?_)
      refine lv_lstore_n (lv' := [(3, .long w16), (0, .ref a900), (1, .int x901), (2, .int x902)]) X.1 X.2.1 dX10_noNoise_30 rfl hl (by decide) rfl (fun ls hl => ?_)
      refine n_ic X dX10_noNoise_31 (by decide) (by decide) (fun x17 t17 => ?_)
      refine lv_istore (lv' := [(5, .int x17), (3, .long w16), (0, .ref a900), (1, .int x901), (2, .int x902)]) X.1 X.2.1 dX10_noNoise_32 hl (by decide) rfl (fun ls hl => ?_)
      have J34 : ∀ (n : Nat) (H : Heap) (locs : List Loc) (ls : Array Slot) (w18 : Int64) (x19 : Int32), (0 ≤ x19.toInt ∧ x19.toInt ≤ x901.toInt) → w18 = nnL x902 x19.toInt.toNat → (60 - x19.toInt).toNat < n → TG D cy τ ρ (ty_d τ) s.heap H locs → lv_has ls 6 [(0, .ref a900), (1, .int x901), (2, .int x902), (3, .long w18), (5, .int x19)] → W p l e (rL 1) s m args below meth c H locs 0 0 Q (F0 m 34 ls []) := by
        intro n
        induction n with
        | zero => intro H locs ls w18 x19 bx19 ew18 hm34 hG hl; exact absurd hm34 (Nat.not_lt_zero _)
        | succ n ih34 =>
          intro H locs ls w18 x19 bx19 ew18 hm34 hG hl
          refine lv_iload X.1 X.2.1 dX10_noNoise_34 (lv_at hl 4 rfl) ?_
          refine lv_iload_n X.1 X.2.1 dX10_noNoise_36 rfl (lv_at hl 1 rfl) ?_
          refine n_icmp_ge (tgt := 55) X dX10_noNoise_37 (by decide) (fun c20 => ?_) (fun c20 => ?_)
          · refine lv_lload_n X.1 X.2.1 dX10_noNoise_55 rfl (lv_at hl 3 rfl) ?_
            refine lv_l2i X.1 X.2.1 dX10_noNoise_56 rfl ?_
            exact ret _ _ _ _ _ _ hG ⟨rfl, nn_in (by omega) (by omega) (by rw [ew18]) (by omega)⟩ dX10_noNoise_57
          · refine lv_lload_n X.1 X.2.1 dX10_noNoise_40 rfl (lv_at hl 3 rfl) ?_
            refine lv_iload_n X.1 X.2.1 dX10_noNoise_41 rfl (lv_at hl 2 rfl) ?_
            refine lv_i2l X.1 X.2.1 dX10_noNoise_42 rfl ?_
            refine lv_lmul X.1 X.2.1 dX10_noNoise_43 ?_
            refine n_ldl X q_1224 (n := 100) (by decide +kernel) dX10_noNoise_44 (fun w24 e24 t24 => ?_)
            refine lv_ldiv X.1 X.2.1 dX10_noNoise_47 (by rw [e24]; decide) ?_
            obtain ⟨w25, ew25⟩ : ∃ y : Int64, y = w18 * x902.toInt64 / w24 := ⟨_, rfl⟩
            rw [← ew25]
            refine lv_lstore_n (lv' := [(3, .long w25), (0, .ref a900), (1, .int x901), (2, .int x902), (5, .int x19)]) X.1 X.2.1 dX10_noNoise_48 rfl hl (by decide) rfl (fun ls hl => ?_)
            refine n_inc X (fun z27 => [(5, .int z27), (3, .long w25), (0, .ref a900), (1, .int x901), (2, .int x902)]) dX10_noNoise_49 hl (k := 4) rfl (by decide) (by decide) (by omega) (by omega) (by decide) (fun _ => rfl) (fun x26 ls t26 hl => ?_)
            have hl : lv_has ls 6 [(5, .int x26), (3, .long w25), (0, .ref a900), (1, .int x901), (2, .int x902)] := hl
            refine lv_goto (tgt := 34) X.1 X.2.1 dX10_noNoise_52 (by decide) ?_
            exact ih34 _ _ _ w25 x26 (by omega) (by rw [ew25, ew18, e24, nn_s (show x26.toInt.toNat = x19.toInt.toNat + 1 by omega)]) (by omega) hG (lv_sub hl [2, 3, 4, 1, 0] rfl)
      exact J34 _ _ _ _ w16 x17 (by omega) (by rw [e16, show x17.toInt.toNat = 0 by omega]; rfl) (Nat.lt_succ_self _) hG (lv_sub hl [2, 3, 4, 1, 0] rfl)
    · refine n_ldc X q_960 (n := -1000000002) (by decide +kernel) dX10_noNoise_24 (fun x28 t28 => ?_)
      exact ret _ _ _ _ x28 _ hG ⟨rfl, nn_out (by omega) (by omega)⟩ dX10_noNoise_26
