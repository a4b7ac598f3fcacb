set_option maxHeartbeats 4000000 in
set_option maxRecDepth 100000 in
theorem c_X7_bestDriverOf (l : Launch) (D : va_G) (cy : Nat → ClassId) (τ : ty_T) (ρ : ty_R) (hN : ty_N τ ρ) (hR : ty_Rg τ ρ) (hF : ty_Wf τ ρ [808]) {a900 : Nat} (h900 : τ a900 = some (0, 7)) {a901 : Nat} (h901 : τ a901 = some (0, 3)) : KI l D cy yX7_bestDriverOf cX7_bestDriverOf 6 .int (rL 5) τ ρ [.ref a900, .ref a901] (fun r u => u = ρ ∧ True) := by
  refine k_metI "EdgeEchoes$Trial" rfl (by decide) (Nat.le_of_ble_eq_true rfl) (fun _ _ _ => rfl) ?_
  intro p e s m args below meth c Q ls X hG hl ret
  have hl : lv_has ls 6 [(0, .ref a900), (1, .ref a901)] := hl
  refine n_ic X dX7_bestDriverOf_0 (by decide) (by decide) (fun x1 t1 => ?_)
  refine lv_istore_n (lv' := [(2, .int x1), (0, .ref a900), (1, .ref a901)]) X.1 X.2.1 dX7_bestDriverOf_1 rfl hl (by decide) rfl (fun ls hl => ?_)
  refine n_ldc X q_598 (n := 2147483647) (by decide +kernel) dX7_bestDriverOf_2 (fun x2 t2 => ?_)
  refine lv_istore_n (lv' := [(3, .int x2), (2, .int x1), (0, .ref a900), (1, .ref a901)]) X.1 X.2.1 dX7_bestDriverOf_4 rfl hl (by decide) rfl (fun ls hl => ?_)
  refine n_ic X dX7_bestDriverOf_5 (by decide) (by decide) (fun x3 t3 => ?_)
  refine lv_istore (lv' := [(4, .int x3), (3, .int x2), (2, .int x1), (0, .ref a900), (1, .ref a901)]) X.1 X.2.1 dX7_bestDriverOf_6 hl (by decide) rfl (fun ls hl => ?_)
  have J8 : ∀ (n : Nat) (H : Heap) (locs : List Loc) (ls : Array Slot) (x4 : Int32) (x5 : Int32) (x6 : Int32), (0 ≤ x4.toInt ∧ x4.toInt ≤ 99) → (0 ≤ x6.toInt ∧ x6.toInt ≤ 100) → (100 - x6.toInt).toNat < n → TG D cy τ ρ (ty_d τ) s.heap H locs → lv_has ls 6 [(0, .ref a900), (1, .ref a901), (2, .int x4), (3, .int x5), (4, .int x6)] → W p l e (rL 5) s m args below meth c H locs 0 0 Q (F0 m 8 ls []) := by
    intro n
    induction n with
    | zero => intro H locs ls x4 x5 x6 bx4 bx6 hm8 hG hl; exact absurd hm8 (Nat.not_lt_zero _)
    | succ n ih8 =>
      intro H locs ls x4 x5 x6 bx4 bx6 hm8 hG hl
      refine lv_iload X.1 X.2.1 dX7_bestDriverOf_8 (lv_at hl 4 rfl) ?_
      refine n_bp X dX7_bestDriverOf_10 (by decide) (by decide) (fun x7 t7 => ?_)
      refine n_icmp_gt (tgt := 47) X dX7_bestDriverOf_12 (by decide) (fun c8 => ?_) (fun c8 => ?_)
      · refine lv_iload_n X.1 X.2.1 dX7_bestDriverOf_47 rfl (lv_at hl 2 rfl) ?_
        exact ret _ _ _ _ x4 _ hG ⟨rfl, trivial⟩ dX7_bestDriverOf_48
      · refine lv_iload_n X.1 X.2.1 dX7_bestDriverOf_15 rfl (lv_at hl 3 rfl) ?_
        refine n_if_le (tgt := 47) X dX7_bestDriverOf_16 (by decide) (fun c9 => ?_) (fun c9 => ?_)
        · refine lv_iload_n X.1 X.2.1 dX7_bestDriverOf_47 rfl (lv_at hl 2 rfl) ?_
          exact ret _ _ _ _ x4 _ hG ⟨rfl, trivial⟩ dX7_bestDriverOf_48
        · refine lv_aload_n X.1 X.2.1 dX7_bestDriverOf_19 rfl (lv_at hl 0 rfl) ?_
          refine lv_aload_n X.1 X.2.1 dX7_bestDriverOf_20 rfl (lv_at hl 1 rfl) ?_
          refine lv_iload X.1 X.2.1 dX7_bestDriverOf_21 (lv_at hl 4 rfl) ?_
          refine lv_iload_n X.1 X.2.1 dX7_bestDriverOf_23 rfl (lv_at hl 3 rfl) ?_
          refine k_cVi X hG (c_X7_overOf l D cy τ _ hN hR (ty_Wf.sub (S' := [808]) hF (by decide)) h900 h901 x6 x5) h900 rfl yv_X7_overOf q_599 ⟨rfl, rfl⟩ ⟨Nat.le_of_ble_eq_true rfl, Nat.le_of_ble_eq_true rfl⟩ rfl hl.1 rfl (Nat.le_of_ble_eq_true rfl) ⟨Nat.zero_le _, Nat.zero_le _⟩ dX7_bestDriverOf_24 (fun x11 u12 H locs hG po10 => ?_)
          obtain ⟨eu12, po10⟩ := po10
          rw [eu12] at hG
          have g11 := cI_rng x11
          refine lv_istore (lv' := [(5, .int x11), (0, .ref a900), (1, .ref a901), (2, .int x4), (3, .int x5), (4, .int x6)]) X.1 X.2.1 dX7_bestDriverOf_27 hl (by decide) rfl (fun ls hl => ?_)
          refine lv_iload X.1 X.2.1 dX7_bestDriverOf_29 (lv_at hl 0 rfl) ?_
          refine lv_iload_n X.1 X.2.1 dX7_bestDriverOf_31 rfl (lv_at hl 4 rfl) ?_
          have J41 : ∀ (H : Heap) (locs : List Loc) (ls : Array Slot) (x13 : Int32) (x14 : Int32), (0 ≤ x13.toInt ∧ x13.toInt ≤ 99) → TG D cy τ ρ (ty_d τ) s.heap H locs → lv_has ls 6 [(0, .ref a900), (1, .ref a901), (2, .int x13), (3, .int x14), (4, .int x6), (5, .int x11)] → W p l e (rL 5) s m args below meth c H locs 0 0 Q (F0 m 41 ls []) := by
            intro H locs ls x13 x14 bx13 hG hl
            refine n_inc X (fun z16 => [(4, .int z16), (0, .ref a900), (1, .ref a901), (2, .int x13), (3, .int x14), (5, .int x11)]) dX7_bestDriverOf_41 hl (k := 4) rfl (by decide) (by decide) (by omega) (by omega) (by decide) (fun _ => rfl) (fun x15 ls t15 hl => ?_)
            have hl : lv_has ls 6 [(4, .int x15), (0, .ref a900), (1, .ref a901), (2, .int x13), (3, .int x14), (5, .int x11)] := hl
            refine lv_goto (tgt := 8) X.1 X.2.1 dX7_bestDriverOf_44 (by decide) ?_
            exact ih8 _ _ _ x13 x14 x15 (by omega) (by omega) (by omega) hG (lv_sub hl [1, 2, 3, 4, 0] rfl)
          refine n_icmp_ge (tgt := 41) X dX7_bestDriverOf_32 (by decide) (fun c17 => ?_) (fun c17 => ?_)
          · exact J41 _ _ _ x4 x5 (by omega) hG (lv_sub hl [1, 2, 3, 4, 5, 0] rfl)
          · refine lv_iload X.1 X.2.1 dX7_bestDriverOf_35 (lv_at hl 0 rfl) ?_
            refine lv_istore_n (lv' := [(3, .int x11), (5, .int x11), (0, .ref a900), (1, .ref a901), (2, .int x4), (4, .int x6)]) X.1 X.2.1 dX7_bestDriverOf_37 rfl hl (by decide) rfl (fun ls hl => ?_)
            refine lv_iload X.1 X.2.1 dX7_bestDriverOf_38 (lv_at hl 5 rfl) ?_
            refine lv_istore_n (lv' := [(2, .int x6), (3, .int x11), (5, .int x11), (0, .ref a900), (1, .ref a901), (4, .int x6)]) X.1 X.2.1 dX7_bestDriverOf_40 rfl hl (by decide) rfl (fun ls hl => ?_)
            exact J41 _ _ _ x6 x11 (by omega) hG (lv_sub hl [3, 4, 0, 1, 5, 2] rfl)
  exact J8 _ _ _ _ x1 x2 x3 (by omega) (by omega) (Nat.lt_succ_self _) hG (lv_sub hl [3, 4, 2, 1, 0] rfl)
