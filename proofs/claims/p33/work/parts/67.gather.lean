set_option maxHeartbeats 4000000 in
set_option maxRecDepth 100000 in
theorem gat_rest {l : Launch} {D : va_G} {cy : Nat → ClassId} {p : Program} {e : Env} {s : State} {m : MethodId} {args : Array Value} {below : List Frame} {meth : Method} {c : Code} {Q : State → Prop} {A : Nat → Prop} (X : ty_X p c s m args cX5_gather "EdgeEchoes$Suspects" 5 D cy) {t : ty_T} {ρ : ty_R} {M : md_T} (hN : ty_N t ρ) (hR : ty_Rg M t ρ) (hF : ty_Wf M t ρ [106, 302, 303, 505, 506, 507, 806, 807, 808, 809, 810, 811, 812, 5000, 6005]) {a900 a901 a902 : Nat} (h900 : t a900 = some (0, 5)) (h901 : t a901 = some (0, 3)) (h902 : t a902 = some (0, 7)) (x903 : Int32) (zx903 : x903.toInt = 0 ∨ x903.toInt = 1) {aT nT : Nat} (hT : ∀ v, ρ a900 3 v → v = .ref aT) (kT : t aT = some (1, nT)) (lT : nT < 2147483648) (ret : ∀ (H : Heap) (locs : List Loc) (pc : Nat) (ls : Array Slot), TG D cy t ρ A s.heap H locs → decode cX5_gather pc = .ok (.return_, 1) → W p l e (rC 5 1 8520) s m args below meth c H locs 1 8520 Q (F0 m pc ls [])) (H : Heap) (locs : List Loc) (ls : Array Slot) (hG : TG D cy t ρ A s.heap H locs) (hl : lv_has ls 5 [(0, .ref a900), (1, .ref a901), (2, .ref a902), (3, .int x903)]) : W p l e (rC 5 1 8520) s m args below meth c H locs 1 8520 Q (F0 m 21 ls []) := by
  refine lv_aload_n X.1 X.2.1 dX5_gather_21 rfl (lv_at hl 0 rfl) ?_
  refine n_ic X dX5_gather_22 (by decide) (by decide) (fun x1 t1 => ?_)
  refine pf_5_5 X hG h900 q_234 dX5_gather_23 (hF _ _ _ _ h900 (ty_in (n := 505) rfl) (ty_rno rfl)) (fun H locs hG => ?_)
  refine lv_aload_n X.1 X.2.1 dX5_gather_26 rfl (lv_at hl 0 rfl) ?_
  refine n_ic X dX5_gather_27 (by decide) (by decide) (fun x2 t2 => ?_)
  refine pf_5_6 X hG h900 q_236 dX5_gather_28 (hF _ _ _ _ h900 (ty_in (n := 506) rfl) (ty_rno rfl)) (fun H locs hG => ?_)
  refine lv_aload_n X.1 X.2.1 dX5_gather_31 rfl (lv_at hl 0 rfl) ?_
  refine n_ic X dX5_gather_32 (by decide) (by decide) (fun x3 t3 => ?_)
  refine pf_5_7 X hG h900 q_238 dX5_gather_33 (hF _ _ _ _ h900 (ty_in (n := 507) rfl) (ty_rno rfl)) (fun H locs hG => ?_)
  refine n_ic X dX5_gather_36 (by decide) (by decide) (fun x4 t4 => ?_)
  refine lv_istore (lv' := [(4, .int x4), (0, .ref a900), (1, .ref a901), (2, .ref a902), (3, .int x903)]) X.1 X.2.1 dX5_gather_37 hl (by decide) rfl (fun ls hl => ?_)
  have J39 : ∀ (n : Nat) (H : Heap) (locs : List Loc) (ls : Array Slot) (x5 : Int32), (1 ≤ x5.toInt ∧ x5.toInt ≤ 72) → (72 - x5.toInt).toNat < n → TG D cy t ρ A s.heap H locs → lv_has ls 5 [(0, .ref a900), (1, .ref a901), (2, .ref a902), (3, .int x903), (4, .int x5)] → W p l e (rC 5 1 8520) s m args below meth c H locs 1 8520 Q (F0 m 39 ls []) := by
    intro n
    induction n with
    | zero => intro H locs ls x5 bx5 hm39 hG hl; exact absurd hm39 (Nat.not_lt_zero _)
    | succ n ih39 =>
      intro H locs ls x5 bx5 hm39 hG hl
      refine lv_iload X.1 X.2.1 dX5_gather_39 (lv_at hl 4 rfl) ?_
      refine n_bp X dX5_gather_41 (by decide) (by decide) (fun x6 t6 => ?_)
      refine n_icmp_ge (tgt := 97) X dX5_gather_43 (by decide) (fun c7 => ?_) (fun c7 => ?_)
      · exact ret _ _ _ _ hG dX5_gather_97
      · refine lv_aload_n X.1 X.2.1 dX5_gather_46 rfl (lv_at hl 1 rfl) ?_
        refine gf_3_0 X hG h901 q_164 dX5_gather_47 (hN _ _ _ h901) (fun a8 h8 r8 => ?_)
        refine lv_iload X.1 X.2.1 dX5_gather_50 (lv_at hl 4 rfl) ?_
        refine k_cVi X hG (c_X8_hasPlace l D cy t _ hN hR (ty_Wf.sub (S' := []) hF (by decide)) h8 x5) h8 rfl yv_X8_hasPlace q_804 ⟨rfl, rfl⟩ ⟨Nat.le_of_ble_eq_true rfl, Nat.le_of_ble_eq_true rfl⟩ rfl hl.1 rfl (Nat.le_of_ble_eq_true rfl) ⟨Nat.le_refl _, Nat.le_refl _⟩ dX5_gather_52 (fun x10 u11 H locs hG po9 => ?_)
        obtain ⟨eu11, po9⟩ := po9
        rw [eu11] at hG
        have J91 : ∀ (H : Heap) (locs : List Loc) (ls : Array Slot), TG D cy t ρ A s.heap H locs → lv_has ls 5 [(0, .ref a900), (1, .ref a901), (2, .ref a902), (3, .int x903), (4, .int x5)] → W p l e (rC 5 1 8520) s m args below meth c H locs 1 8520 Q (F0 m 91 ls []) := by
          intro H locs ls hG hl
          refine n_inc X (fun z13 => [(4, .int z13), (0, .ref a900), (1, .ref a901), (2, .ref a902), (3, .int x903)]) dX5_gather_91 hl (k := 4) rfl (by decide) (by decide) (by omega) (by omega) (by decide) (fun _ => rfl) (fun x12 ls t12 hl => ?_)
          have hl : lv_has ls 5 [(4, .int x12), (0, .ref a900), (1, .ref a901), (2, .ref a902), (3, .int x903)] := hl
          refine lv_goto (tgt := 39) X.1 X.2.1 dX5_gather_94 (by decide) ?_
          exact ih39 _ _ _ x12 (by omega) (by omega) hG (lv_sub hl [1, 2, 3, 4, 0] rfl)
        refine n_if_eq (tgt := 91) X dX5_gather_55 (by decide) (fun c14 => ?_) (fun c14 => ?_)
        · exact J91 _ _ _  hG (lv_sub hl [0, 1, 2, 3, 4] rfl)
        · refine lv_aload_n X.1 X.2.1 dX5_gather_58 rfl (lv_at hl 1 rfl) ?_
          refine gf_3_0 X hG h901 q_164 dX5_gather_59 (hN _ _ _ h901) (fun a15 h15 r15 => ?_)
          refine gf_8_5 X hG h15 q_76 dX5_gather_62 (hN _ _ _ h15) (fun a16 h16 r16 => ?_)
          refine lv_iload X.1 X.2.1 dX5_gather_65 (lv_at hl 4 rfl) ?_
          refine tg_iald X hG h16 rfl (cI_in (n := 72) (by omega)) dX5_gather_67 (fun x17 r17 => ?_)
          refine n_if_ne (tgt := 91) X dX5_gather_68 (by decide) (fun c18 => ?_) (fun c18 => ?_)
          · exact J91 _ _ _  hG (lv_sub hl [0, 1, 2, 3, 4] rfl)
          · refine lv_aload_n X.1 X.2.1 dX5_gather_71 rfl (lv_at hl 0 rfl) ?_
            refine lv_aload_n X.1 X.2.1 dX5_gather_72 rfl (lv_at hl 1 rfl) ?_
            refine lv_aload_n X.1 X.2.1 dX5_gather_73 rfl (lv_at hl 2 rfl) ?_
            refine lv_iload X.1 X.2.1 dX5_gather_74 (lv_at hl 4 rfl) ?_
            refine n_ic X dX5_gather_76 (by decide) (by decide) (fun x19 t19 => ?_)
            refine lv_iload_n X.1 X.2.1 dX5_gather_77 rfl (lv_at hl 3 rfl) ?_
            refine k_cVv X hG (c_X5_trySuspect l D cy t _ hN hR (ty_Wf.sub (S' := [106, 302, 303, 505, 506, 507, 806, 807, 808, 809, 810, 811, 812, 5000, 6005]) hF (by decide)) h900 h901 h902 x5 (by omega) x19 (by omega) x903 (by omega) hT kT lT) h900 rfl yv_X5_trySuspect q_805 ⟨rfl, rfl⟩ ⟨Nat.le_of_ble_eq_true rfl, Nat.le_of_ble_eq_true rfl⟩ rfl hl.1 rfl (Nat.le_of_ble_eq_true rfl) ⟨Nat.le_refl _, Nat.le_refl _⟩ dX5_gather_78 (fun u22 H locs hG po20 => ?_)
            rw [po20] at hG
            refine lv_aload_n X.1 X.2.1 dX5_gather_81 rfl (lv_at hl 0 rfl) ?_
            refine lv_aload_n X.1 X.2.1 dX5_gather_82 rfl (lv_at hl 1 rfl) ?_
            refine lv_aload_n X.1 X.2.1 dX5_gather_83 rfl (lv_at hl 2 rfl) ?_
            refine lv_iload X.1 X.2.1 dX5_gather_84 (lv_at hl 4 rfl) ?_
            refine n_ic X dX5_gather_86 (by decide) (by decide) (fun x23 t23 => ?_)
            refine lv_iload_n X.1 X.2.1 dX5_gather_87 rfl (lv_at hl 3 rfl) ?_
            refine k_cVv X hG (c_X5_trySuspect l D cy t _ hN hR (ty_Wf.sub (S' := [106, 302, 303, 505, 506, 507, 806, 807, 808, 809, 810, 811, 812, 5000, 6005]) hF (by decide)) h900 h901 h902 x5 (by omega) x23 (by omega) x903 (by omega) hT kT lT) h900 rfl yv_X5_trySuspect q_805 ⟨rfl, rfl⟩ ⟨Nat.le_of_ble_eq_true rfl, Nat.le_of_ble_eq_true rfl⟩ rfl hl.1 rfl (Nat.le_of_ble_eq_true rfl) ⟨Nat.le_refl _, Nat.le_refl _⟩ dX5_gather_88 (fun u26 H locs hG po24 => ?_)
            rw [po24] at hG
            exact J91 _ _ _  hG (lv_sub hl [0, 1, 2, 3, 4] rfl)
  exact J39 _ _ _ _ x4 (by omega) (Nat.lt_succ_self _) hG (lv_sub hl [1, 2, 3, 4, 0] rfl)
set_option maxHeartbeats 4000000 in
set_option maxRecDepth 100000 in
theorem c_X5_gather (l : Launch) (D : va_G) (cy : Nat → ClassId) (τ : ty_T) {M : md_T} {π : ty_R} (hπ : PO τ π) (hS : ∀ a n, τ a = some (1, n) → n < 2147483648) {a900 a901 a902 : Nat} (h900 : τ a900 = some (0, 5)) (h901 : τ a901 = some (0, 3)) (h902 : τ a902 = some (0, 7)) (x903 : Int32) (zx903 : x903.toInt = 0 ∨ x903.toInt = 1) : KG l D cy yX5_gather cX5_gather 5 5 1 8520 τ (pn π (cn M τ)) [.ref a900, .ref a901, .ref a902, .int x903] (GP M π τ) := by
  refine k_metG "EdgeEchoes$Suspects" rfl (by decide +kernel) (Nat.le_of_ble_eq_true rfl) ?_
  intro p e s m args below meth c Q ls A X hN0 hG hl ret
  have hl : lv_has ls 5 [(0, .ref a900), (1, .ref a901), (2, .ref a902), (3, .int x903)] := hl
  have plain : W p l e (rC 5 1 8520) s m args below meth c s.heap [] 0 0 Q (F0 m 21 ls []) := by
    obtain ⟨aT, nT, kT, hG⟩ := tg_pin3 hG (pn_N cn_N) h900
    refine W.widen (k := 1) (n := 8520) (by omega) (by omega) ?_
    exact gat_rest X (pr_N (pn_N cn_N)) (pr_R (pn_R cn_R)) (pr_F (pn_F (cn_F (S := SG)) hπ.1) h900 (by decide)) h900 h901 h902 x903 zx903 (fun v h => h.2 rfl rfl) kT (hS _ _ kT) (fun H locs pc ls hG hd => ret H locs pc ls (τ, pn π (cn M τ)) (pr_cl hG) GP.rf hd) _ _ _ hG hl
  refine lv_iload_n X.1 X.2.1 dX5_gather_0 rfl (lv_at hl 3 rfl) ?_
  refine n_if_eq (tgt := 21) X dX5_gather_1 (by decide) (fun c1 => ?_) (fun c1 => ?_)
  · exact plain
  · refine lv_aload_n X.1 X.2.1 dX5_gather_4 rfl (lv_at hl 0 rfl) ?_
    refine gf_5_3 X hG h900 q_231 dX5_gather_5 (pn_N cn_N _ _ _ h900) (fun a2 n2 h2 r2 => ?_)
    refine tg_alen X hG h2 rfl dX5_gather_8 ?_
    refine n_if_ne (tgt := 21) X dX5_gather_9 (by decide) (fun c4 => ?_) (fun c4 => ?_)
    · exact plain
    · refine lv_aload_n X.1 X.2.1 dX5_gather_12 rfl (lv_at hl 0 rfl) ?_
      refine n_sp X dX5_gather_13 (by decide) (by decide) (fun x5 t5 => ?_)
      refine tg_newi X hG hN0 q_52 (N := 8520) 1 rfl (by omega) (by omega) (Nat.le_of_ble_eq_true rfl) (Nat.le_of_ble_eq_true rfl) dX5_gather_16 (fun q6 H hq6 hG => ?_)
      have hG := pn_up hq6 hπ hG
      have hπ2 := hπ.up hq6
      have up := tU_ext (t := (1, 8520)) hq6
      refine tg_put X hG (up _ _ h900) (C := RX5) (T := TX5) (N := 8) rfl inB_5 tyX5 tyX5_ok nmX5 3 (by decide) rfl q_231 rfl rfl rfl rfl (ty_i3 tU_at) dX5_gather_18 (pn π (cn M (tU τ q6 (1, 8520)))) (fun _ _ _ _ h => h) (fun _ _ _ h => h) ⟨⟨(fun z => by cases z), fun t x _ z => by cases z⟩, hπ2.2.1 _ _ (up _ _ h900)⟩ (fun H locs hG => ?_)
      obtain ⟨aT, nT, kT, hG⟩ := tg_pin3 hG (pn_N cn_N) (up _ _ h900)
      have lT : nT < 2147483648 := by
        by_cases z : aT = q6
        · rw [z, tU_at] at kT
          cases kT
          decide
        · rw [tU_ne z] at kT
          exact hS _ _ kT
      exact gat_rest X (pr_N (pn_N cn_N)) (pr_R (pn_R cn_R)) (pr_F (pn_F (cn_F (S := SG)) hπ2.1) (up _ _ h900) (by decide)) (up _ _ h900) (up _ _ h901) (up _ _ h902) x903 zx903 (fun v h => h.2 rfl rfl) kT lT (fun H locs pc ls hG hd => ret H locs pc ls (tU τ q6 (1, 8520), pn π (cn M (tU τ q6 (1, 8520)))) (pr_cl hG) (GP.up hq6) hd) _ _ _ hG hl
