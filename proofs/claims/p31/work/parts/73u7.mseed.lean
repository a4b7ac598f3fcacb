theorem fs_3 {K : KT} {P N u : Nat} {k0 k1 : Bool} {v : Int32} (hk : K.1 ≤ 240) (hv : 0 ≤ v.toInt) : ∀ n j r, MM (KU K 1002 v) P N u k0 k1 n j = some r → fsM (MM K P N u k0 k1) 3 (v.toInt, v.toInt) n j = some r := by
  intro n j r h
  by_cases a3 : n = 0 ∧ j = 3
  · obtain ⟨rfl, rfl⟩ := a3
    rw [MM_3, KU_s2, cI_clamp hv] at h
    rw [fsM_at]
    exact h
  · rw [fsM_ne n j (by omega)]
    by_cases a10 : n = 10
    · subst a10
      rw [MM_10, KU_g (by decide), KU_t (by decide), KU_b (by decide)] at h
      exact h
    · by_cases a15 : n = 15
      · subst a15
        rw [MM_KU15 (by decide) (by decide)] at h
        exact h
      · rw [MM_KU hk (by decide) a10 a15 a3] at h
        exact h
set_option maxHeartbeats 4000000 in
set_option maxRecDepth 100000 in
theorem e_X10_seed (l : Launch) (D : va_G) (cy : Nat → ClassId) (τ : ty_T) (hU : UQ τ) {K : KT} {P N u : Nat} {k0 k1 : Bool} (ok : OKG K P N u) {a900 : Nat} (h900 : τ a900 = some (0, 10)) (x901 : Int32) (hs0 : 0 ≤ (K.2.2.2.2 1002).toInt) : KI l D cy yX10_seed cX10_seed 3 .int (rL 0) τ (cn (MM K P N u k0 k1) τ) [.ref a900, .int x901] (fun r w => (0 ≤ x901.toInt → r = K.2.2.2.2 1002 ∧ w = cn (MM (KU K 1002 x901) P N u k0 k1) τ) ∧ (x901.toInt < 0 → r.toInt = -1000000002 ∧ w = cn (MM K P N u k0 k1) τ)) := by
  refine k_metI "EdgeEchoesModel" rfl (by decide +kernel) (Nat.le_of_ble_eq_true rfl) (fun _ _ _ => rfl) ?_
  intro p e s m args below meth c Q ls X hG hl ret
  have hl : lv_has ls 3 [(0, .ref a900), (1, .int x901)] := hl
  have hk7 := ok.1.2.1
  have g901 := cI_rng x901
  refine lv_iload_n X.1 X.2.1 dX10_seed_0 rfl (lv_at hl 1 rfl) ?_
  refine n_if_ge (tgt := 7) X dX10_seed_1 (by decide) (fun c1 => ?_) (fun c1 => ?_)
  · refine lv_aload_n X.1 X.2.1 dX10_seed_7 rfl (lv_at hl 0 rfl) ?_
    refine gf_10_3 X hG h900 q_879 dX10_seed_8 (fun x2 r2 => ?_)
    have b2 := (cn_R _ _ _ _ h900 r2) _ _ MM_3
    rw [sd_eq hs0] at b2
    have e2 : x2 = K.2.2.2.2 1002 := cI_inj (by omega)
    refine lv_istore_n (lv' := [(2, .int x2), (0, .ref a900), (1, .int x901)]) X.1 X.2.1 dX10_seed_11 rfl hl (by decide) rfl (fun ls hl => ?_)
    refine lv_aload_n X.1 X.2.1 dX10_seed_12 rfl (lv_at hl 1 rfl) ?_
    refine lv_iload_n X.1 X.2.1 dX10_seed_13 rfl (lv_at hl 2 rfl) ?_
    refine pg_10_3 X hG h900 q_879 dX10_seed_14 (cn (fsM (MM K P N u k0 k1) 3 (x901.toInt, x901.toInt)) τ) (cf_off hU h900 fsM_ne) (cf_oth fsM_ne) (cw_new h900 (ty_ryes fsM_at (by omega))) (fun H locs hG => ?_)
    have hG := TG.sub hG (fs_3 hk7 (by omega))
    refine lv_iload_n X.1 X.2.1 dX10_seed_17 rfl (lv_at hl 0 rfl) ?_
    exact ret _ _ _ _ x2 _ hG ⟨fun _ => ⟨e2, rfl⟩, fun q => absurd q (by omega)⟩ dX10_seed_18
  · refine n_ldc X q_960 (n := -1000000002) (by decide +kernel) dX10_seed_4 (fun x3 t3 => ?_)
    exact ret _ _ _ _ x3 _ hG ⟨fun q => absurd q (by omega), fun _ => ⟨by omega, rfl⟩⟩ dX10_seed_6
