/-! couldBe, look -/
theorem GP.sz {M : md_T} {π : ty_R} {τ t : ty_T} {r : ty_R} (hu : GP M π τ (t, r)) (hS : ∀ a n, τ a = some (1, n) → n < 2147483648) : ∀ a n, t a = some (1, n) → n < 2147483648 := fun a n h => by
  cases hh : τ a with
  | none =>
    have z := hu.2.1 a (1, n) hh h
    cases z
    decide
  | some y =>
    have z : t a = some y := hu.1 a y hh
    rw [z] at h
    cases h
    exact hS a n hh
set_option maxHeartbeats 4000000 in
set_option maxRecDepth 100000 in
theorem c_X9_look (l : Launch) (D : va_G) (cy : Nat → ClassId) (τ : ty_T) {M : md_T} {π : ty_R} (hπ : PO τ π) (hS : ∀ a n, τ a = some (1, n) → n < 2147483648) {a900 : Nat} (h900 : τ a900 = some (0, 9)) : KH l D cy yX9_look cX9_look 1 6 1 8520 τ (pn π (cn M τ)) [.ref a900] (fun _ u => GP M π τ u) := by
  refine k_metH "EdgeEchoes" rfl (by decide +kernel) (Nat.le_of_ble_eq_true rfl) ?_
  intro p e s m args below meth c Q ls A X hN0 hG hl ret
  have hl : lv_has ls 1 [(0, .ref a900)] := hl
  refine lv_aload_n X.1 X.2.1 dX9_look_0 rfl (lv_at hl 0 rfl) ?_
  refine gf_9_4 X hG h900 q_299 dX9_look_1 (pn_N cn_N _ _ _ h900) (fun a1 h1 r1 => ?_)
  refine lv_aload_n X.1 X.2.1 dX9_look_4 rfl (lv_at hl 0 rfl) ?_
  refine gf_9_1 X hG h900 q_296 dX9_look_5 (pn_N cn_N _ _ _ h900) (fun a2 h2 r2 => ?_)
  refine lv_aload_n X.1 X.2.1 dX9_look_8 rfl (lv_at hl 0 rfl) ?_
  refine gf_9_2 X hG h900 q_297 dX9_look_9 (pn_N cn_N _ _ _ h900) (fun a3 h3 r3 => ?_)
  refine n_ic X dX9_look_12 (by decide) (by decide) (fun x4 t4 => ?_)
  refine k_cGv X hG hN0 (c_X5_gather l D cy τ hπ hS h1 h2 h3 x4 (by omega)) h1 rfl yv_X5_gather q_800 ⟨Nat.le_of_ble_eq_true rfl, Nat.le_of_ble_eq_true rfl⟩ rfl hl.1 rfl (Nat.le_of_ble_eq_true rfl) ⟨Nat.le_of_ble_eq_true rfl, Nat.le_of_ble_eq_true rfl⟩ dX9_look_13 (fun u H locs hG hu => ?_)
  obtain ⟨t, r⟩ := u
  have hr : r = pn π (cn M t) := hu.2.2
  subst hr
  have hG : TG D cy t (pn π (cn M t)) A s.heap H locs := hG
  have up : ∀ a x, τ a = some x → t a = some x := hu.1
  refine lv_aload_n X.1 X.2.1 dX9_look_16 rfl (lv_at hl 0 rfl) ?_
  refine gf_9_4 X hG (up _ _ h900) q_299 dX9_look_17 (pn_N cn_N _ _ _ (up _ _ h900)) (fun a5 h5 r5 => ?_)
  obtain ⟨aT, nT, kT, hG⟩ := tg_pin3 hG (pn_N cn_N) h5
  refine k_cVi X hG (c_X5_bestLook l D cy t _ (pr_N (pn_N cn_N)) (pr_R (pn_R cn_R)) (pr_F (pn_F (cn_F (S := [])) (fun _ _ _ _ _ h => absurd h List.not_mem_nil)) h5 (by decide)) h5 (fun v h => h.2 rfl rfl) kT (hu.sz hS _ _ kT)) h5 rfl yv_X5_bestLook q_829 ⟨rfl, rfl⟩ ⟨Nat.le_of_ble_eq_true rfl, Nat.le_of_ble_eq_true rfl⟩ rfl hl.1 rfl (Nat.le_of_ble_eq_true rfl) ⟨Nat.le_of_ble_eq_true rfl, Nat.le_of_ble_eq_true rfl⟩ dX9_look_20 (fun x6 u6 H locs hG po => ?_)
  obtain ⟨eu, po⟩ := po
  rw [eu] at hG
  exact ret _ _ _ _ x6 (t, pn π (cn M t)) (pr_cl hG) hu dX9_look_23
set_option maxHeartbeats 4000000 in
set_option maxRecDepth 100000 in
theorem c_X9_couldBe (l : Launch) (D : va_G) (cy : Nat → ClassId) (τ : ty_T) {M : md_T} {π : ty_R} (hπ : PO τ π) (hS : ∀ a n, τ a = some (1, n) → n < 2147483648) {a900 : Nat} (h900 : τ a900 = some (0, 9)) (x901 : Int32) : KH l D cy yX9_couldBe cX9_couldBe 2 6 1 8520 τ (pn π (cn M τ)) [.ref a900, .int x901] (fun _ u => GP M π τ u) := by
  refine k_metH "EdgeEchoes" rfl (by decide +kernel) (Nat.le_of_ble_eq_true rfl) ?_
  intro p e s m args below meth c Q ls A X hN0 hG hl ret
  have hl : lv_has ls 2 [(0, .ref a900), (1, .int x901)] := hl
  have out : W p l e (rC 6 1 8520) s m args below meth c s.heap [] 0 0 Q (F0 m 9 ls []) := by
    refine n_ldc X q_327 (n := -1000000002) (by decide +kernel) dX9_couldBe_9 (fun x1 t1 => ?_)
    refine W.widen (k := 1) (n := 8520) (by omega) (by omega) ?_
    exact ret _ _ _ _ x1 (τ, pn π (cn M τ)) hG GP.rf dX9_couldBe_11
  refine lv_iload_n X.1 X.2.1 dX9_couldBe_0 rfl (lv_at hl 1 rfl) ?_
  refine n_if_lt (tgt := 9) X dX9_couldBe_1 (by decide) (fun c1 => ?_) (fun c1 => ?_)
  · exact out
  · refine lv_iload_n X.1 X.2.1 dX9_couldBe_4 rfl (lv_at hl 1 rfl) ?_
    refine n_ic X dX9_couldBe_5 (by decide) (by decide) (fun x2 t2 => ?_)
    refine n_icmp_le (tgt := 12) X dX9_couldBe_6 (by decide) (fun c2 => ?_) (fun c2 => ?_)
    · refine lv_aload_n X.1 X.2.1 dX9_couldBe_12 rfl (lv_at hl 0 rfl) ?_
      refine gf_9_4 X hG h900 q_299 dX9_couldBe_13 (pn_N cn_N _ _ _ h900) (fun a1 h1 r1 => ?_)
      refine lv_aload_n X.1 X.2.1 dX9_couldBe_16 rfl (lv_at hl 0 rfl) ?_
      refine gf_9_1 X hG h900 q_296 dX9_couldBe_17 (pn_N cn_N _ _ _ h900) (fun a2 h2 r2 => ?_)
      refine lv_aload_n X.1 X.2.1 dX9_couldBe_20 rfl (lv_at hl 0 rfl) ?_
      refine gf_9_2 X hG h900 q_297 dX9_couldBe_21 (pn_N cn_N _ _ _ h900) (fun a3 h3 r3 => ?_)
      refine n_ic X dX9_couldBe_24 (by decide) (by decide) (fun x4 t4 => ?_)
      refine k_cGv X hG hN0 (c_X5_gather l D cy τ hπ hS h1 h2 h3 x4 (by omega)) h1 rfl yv_X5_gather q_800 ⟨Nat.le_of_ble_eq_true rfl, Nat.le_of_ble_eq_true rfl⟩ rfl hl.1 rfl (Nat.le_of_ble_eq_true rfl) ⟨Nat.le_of_ble_eq_true rfl, Nat.le_of_ble_eq_true rfl⟩ dX9_couldBe_25 (fun u H locs hG hu => ?_)
      obtain ⟨t, r⟩ := u
      have hr : r = pn π (cn M t) := hu.2.2
      subst hr
      have hG : TG D cy t (pn π (cn M t)) A s.heap H locs := hG
      have up : ∀ a x, τ a = some x → t a = some x := hu.1
      refine lv_iload_n X.1 X.2.1 dX9_couldBe_28 rfl (lv_at hl 1 rfl) ?_
      rcases (show x901.toInt = 0 ∨ x901.toInt = 1 ∨ x901.toInt = 2 by omega) with cz | cz | cz
      · refine lv_lookup (tgt := 56) (off := 27) X.1 X.2.1 dX9_couldBe_29 (by decide) (by rw [cz]; rfl) (by decide) ?_
        refine lv_aload_n X.1 X.2.1 dX9_couldBe_56 rfl (lv_at hl 0 rfl) ?_
        refine gf_9_4 X hG (up _ _ h900) q_299 dX9_couldBe_57 (pn_N cn_N _ _ _ (up _ _ h900)) (fun a5 h5 r5 => ?_)
        refine gf_5_5 X hG h5 q_235 dX9_couldBe_60 (fun x6 r6 => ?_)
        exact ret _ _ _ _ x6 (t, pn π (cn M t)) hG hu dX9_couldBe_63
      · refine lv_lookup (tgt := 64) (off := 35) X.1 X.2.1 dX9_couldBe_29 (by decide) (by rw [cz]; rfl) (by decide) ?_
        refine lv_aload_n X.1 X.2.1 dX9_couldBe_64 rfl (lv_at hl 0 rfl) ?_
        refine gf_9_4 X hG (up _ _ h900) q_299 dX9_couldBe_65 (pn_N cn_N _ _ _ (up _ _ h900)) (fun a5 h5 r5 => ?_)
        refine gf_5_6 X hG h5 q_237 dX9_couldBe_68 (fun x6 r6 => ?_)
        exact ret _ _ _ _ x6 (t, pn π (cn M t)) hG hu dX9_couldBe_71
      · refine lv_lookup (tgt := 72) (off := 43) X.1 X.2.1 dX9_couldBe_29 (by decide) (by rw [cz]; rfl) (by decide) ?_
        refine lv_aload_n X.1 X.2.1 dX9_couldBe_72 rfl (lv_at hl 0 rfl) ?_
        refine gf_9_4 X hG (up _ _ h900) q_299 dX9_couldBe_73 (pn_N cn_N _ _ _ (up _ _ h900)) (fun a5 h5 r5 => ?_)
        refine gf_5_7 X hG h5 q_239 dX9_couldBe_76 (fun x6 r6 => ?_)
        exact ret _ _ _ _ x6 (t, pn π (cn M t)) hG hu dX9_couldBe_79
    · exact out
