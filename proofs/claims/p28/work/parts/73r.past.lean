/-! what is so, what can be undone, the images: the gates' count goes along with each copy -/
def AG (τ : ty_T) (F : Nat → Nat → Option Value) (xa nw gn pa lz : Nat) (ln gl : Nat → Nat) : Prop := τ nw = some (0, 3) ∧ τ gn = some (0, 1) ∧ τ pa = some (0, 4) ∧ τ lz = some (3, 12) ∧ (∀ k, k < 12 → τ (ln k) = some (0, 3) ∧ τ (gl k) = some (0, 1)) ∧ F xa 1 = some (.ref nw) ∧ F xa 3 = some (.ref pa) ∧ F nw 1 = some (.ref gn) ∧ F pa 0 = some (.ref lz) ∧ ∀ k, k < 12 → F lz k = some (.ref (ln k)) ∧ F (ln k) 1 = some (.ref (gl k))
def VG (F : Nat → Nat → Option Value) (gn pa : Nat) (gl : Nat → Nat) (cu nx G : Nat) : Prop := cu ≤ 12 ∧ nx < 12 ∧ G ≤ 6 ∧ F pa 1 = some (.int (nI cu)) ∧ F pa 2 = some (.int (nI nx)) ∧ F gn 6 = some (.int (nI G)) ∧ ∀ k, 1 ≤ k → k ≤ cu → F (gl ((nx + 12 - k) % 12)) 6 = some (.int (nI G))
/-- the pins behind remember(), bringBack(), keep(), goBack() -/
def remF (F : Nat → Nat → Option Value) (pa : Nat) (gl : Nat → Nat) (nx cu G : Nat) : Nat → Nat → Option Value := fu (fu (fu F (gl nx) 6 (.int (nI G))) pa 2 (.int (nI ((nx + 1) % 12)))) pa 1 (.int (nI (min 12 (cu + 1))))
def bbF (F : Nat → Nat → Option Value) (pa gn nx cu G k : Nat) : Nat → Nat → Option Value := fu (fu (fu F pa 2 (.int (nI ((nx + 12 - k) % 12)))) gn 6 (.int (nI G))) pa 1 (.int (nI (cu - k)))
def kpF (F : Nat → Nat → Option Value) (gi ii pa G : Nat) : Nat → Nat → Option Value := fu (fu (fu F gi 6 (.int (nI G))) ii 2 (.int (bI true))) pa 1 (.int (nI 0))
def gbF (F : Nat → Nat → Option Value) (gn pa G : Nat) : Nat → Nat → Option Value := fu (fu F gn 6 (.int (nI G))) pa 1 (.int (nI 0))
theorem sup_rem {τ : ty_T} {F : Nat → Nat → Option Value} {xa nw gn pa lz : Nat} {ln gl : Nat → Nat} {cu nx G : Nat} (hs : SUP τ F) (ha : AG τ F xa nw gn pa lz ln gl) (hv : VG F gn pa gl cu nx G) : SUP τ (remF F pa gl nx cu G) := sup_fu (sup_fu (sup_fu hs (ha.2.2.2.2.1 nx hv.2.1).2 (by decide)) ha.2.2.1 (by decide)) ha.2.2.1 (by decide)
def RM (τ : ty_T) (F : Nat → Nat → Option Value) (pa : Nat) (gl : Nat → Nat) (nx cu G : Nat) (u : ty_R) : Prop := u = pv F (cn Mx τ) ∨ u = pv (remF F pa gl nx cu G) (cn Mx τ)
def UB (τ : ty_T) (F : Nat → Nat → Option Value) (pa gn nx cu G : Nat) (u : ty_R) : Prop := u = pv F (cn Mx τ) ∨ ∃ k, 1 ≤ k ∧ k ≤ cu ∧ u = pv (bbF F pa gn nx cu G k) (cn Mx τ)
theorem nI_cl {n : Nat} (h : n < 2147483648) : (nI n).toNatClampNeg = n := by
  have h1 := cI_nI h
  have h2 := cI_clamp (x := nI n) (by omega)
  omega
set_option maxHeartbeats 4000000 in
set_option maxRecDepth 100000 in
theorem e_X1_copyFrom (l : Launch) (D : va_G) (cy : Nat → ClassId) (τ : ty_T) {F : Nat → Nat → Option Value} (hs : SUP τ F) {a900 a901 : Nat} (h900 : τ a900 = some (0, 1)) (h901 : τ a901 = some (0, 1)) {x : Int32} (hx : F a901 6 = some (.int x)) : KV l D cy yX1_copyFrom cX1_copyFrom 2 (rL 1) τ (pv F (cn Mx τ)) [.ref a900, .ref a901] (fun w => w = pv (fu F a900 6 (.int x)) (cn Mx τ)) := by
  refine k_metV "EdgeEchoes$Gates" rfl (by decide +kernel) (Nat.le_of_ble_eq_true rfl) ?_
  intro p e s m args below meth c Q ls X hG hl ret
  have hl : lv_has ls 2 [(0, .ref a900), (1, .ref a901)] := hl
  have hN : ty_N τ (pv F (cn Mx τ)) := pv_N cn_N
  have hR : ty_Rg Mx τ (pv F (cn Mx τ)) := pv_R cn_R
  have hF : ty_Wf Mx τ (pv F (cn Mx τ)) [5000] := sup_F hs (by decide)
  refine lv_aload_n X.1 X.2.1 dX1_copyFrom_0 rfl (lv_at hl 1 rfl) ?_
  refine gf_1_0 X hG h901 q_131 dX1_copyFrom_1 (hN _ _ _ h901) (fun a1 h1 r1 => ?_)
  refine n_ic X dX1_copyFrom_4 (by decide) (by decide) (fun x2 t2 => ?_)
  refine lv_aload_n X.1 X.2.1 dX1_copyFrom_5 rfl (lv_at hl 0 rfl) ?_
  refine gf_1_0 X hG h900 q_131 dX1_copyFrom_6 (hN _ _ _ h900) (fun a3 h3 r3 => ?_)
  refine n_ic X dX1_copyFrom_9 (by decide) (by decide) (fun x4 t4 => ?_)
  refine n_bp X dX1_copyFrom_10 (by decide) (by decide) (fun x5 t5 => ?_)
  refine tg_copy X hG hl.1 h1 h3 rfl rfl (by omega) (by omega) (by omega) (by show _ ≤ ((6 : Nat) : Int); omega) (by show _ ≤ ((6 : Nat) : Int); omega) q_531 q_526 q_525 q_19 (Nat.le_of_ble_eq_true rfl) (Nat.le_of_ble_eq_true rfl) dX1_copyFrom_12 (fun j j2 x hx => hF _ _ _ _ h3 (ty_in (n := 5000) rfl) (ty_rno rfl)) (fun H locs hG => ?_)
  refine lv_aload_n X.1 X.2.1 dX1_copyFrom_15 rfl (lv_at hl 1 rfl) ?_
  refine gf_1_1 X hG h901 q_133 dX1_copyFrom_16 (hN _ _ _ h901) (fun a6 h6 r6 => ?_)
  refine n_ic X dX1_copyFrom_19 (by decide) (by decide) (fun x7 t7 => ?_)
  refine lv_aload_n X.1 X.2.1 dX1_copyFrom_20 rfl (lv_at hl 0 rfl) ?_
  refine gf_1_1 X hG h900 q_133 dX1_copyFrom_21 (hN _ _ _ h900) (fun a8 h8 r8 => ?_)
  refine n_ic X dX1_copyFrom_24 (by decide) (by decide) (fun x9 t9 => ?_)
  refine n_bp X dX1_copyFrom_25 (by decide) (by decide) (fun x10 t10 => ?_)
  refine tg_copy X hG hl.1 h6 h8 rfl rfl (by omega) (by omega) (by omega) (by show _ ≤ ((6 : Nat) : Int); omega) (by show _ ≤ ((6 : Nat) : Int); omega) q_531 q_526 q_525 q_19 (Nat.le_of_ble_eq_true rfl) (Nat.le_of_ble_eq_true rfl) dX1_copyFrom_27 (fun j j2 x hx => hF _ _ _ _ h8 (ty_in (n := 5000) rfl) (ty_rno rfl)) (fun H locs hG => ?_)
  refine lv_aload_n X.1 X.2.1 dX1_copyFrom_30 rfl (lv_at hl 1 rfl) ?_
  refine gf_1_2 X hG h901 q_135 dX1_copyFrom_31 (hN _ _ _ h901) (fun a11 h11 r11 => ?_)
  refine n_ic X dX1_copyFrom_34 (by decide) (by decide) (fun x12 t12 => ?_)
  refine lv_aload_n X.1 X.2.1 dX1_copyFrom_35 rfl (lv_at hl 0 rfl) ?_
  refine gf_1_2 X hG h900 q_135 dX1_copyFrom_36 (hN _ _ _ h900) (fun a13 h13 r13 => ?_)
  refine n_ic X dX1_copyFrom_39 (by decide) (by decide) (fun x14 t14 => ?_)
  refine n_bp X dX1_copyFrom_40 (by decide) (by decide) (fun x15 t15 => ?_)
  refine tg_copy X hG hl.1 h11 h13 rfl rfl (by omega) (by omega) (by omega) (by show _ ≤ ((6 : Nat) : Int); omega) (by show _ ≤ ((6 : Nat) : Int); omega) q_531 q_526 q_525 q_19 (Nat.le_of_ble_eq_true rfl) (Nat.le_of_ble_eq_true rfl) dX1_copyFrom_42 (fun j j2 x hx => hF _ _ _ _ h13 (ty_in (n := 5000) rfl) (ty_rno rfl)) (fun H locs hG => ?_)
  refine lv_aload_n X.1 X.2.1 dX1_copyFrom_45 rfl (lv_at hl 1 rfl) ?_
  refine gf_1_3 X hG h901 q_137 dX1_copyFrom_46 (hN _ _ _ h901) (fun a16 h16 r16 => ?_)
  refine n_ic X dX1_copyFrom_49 (by decide) (by decide) (fun x17 t17 => ?_)
  refine lv_aload_n X.1 X.2.1 dX1_copyFrom_50 rfl (lv_at hl 0 rfl) ?_
  refine gf_1_3 X hG h900 q_137 dX1_copyFrom_51 (hN _ _ _ h900) (fun a18 h18 r18 => ?_)
  refine n_ic X dX1_copyFrom_54 (by decide) (by decide) (fun x19 t19 => ?_)
  refine n_bp X dX1_copyFrom_55 (by decide) (by decide) (fun x20 t20 => ?_)
  refine tg_copy X hG hl.1 h16 h18 rfl rfl (by omega) (by omega) (by omega) (by show _ ≤ ((6 : Nat) : Int); omega) (by show _ ≤ ((6 : Nat) : Int); omega) q_531 q_526 q_525 q_19 (Nat.le_of_ble_eq_true rfl) (Nat.le_of_ble_eq_true rfl) dX1_copyFrom_57 (fun j j2 x hx => hF _ _ _ _ h18 (ty_in (n := 5000) rfl) (ty_rno rfl)) (fun H locs hG => ?_)
  refine lv_aload_n X.1 X.2.1 dX1_copyFrom_60 rfl (lv_at hl 1 rfl) ?_
  refine gf_1_4 X hG h901 q_140 dX1_copyFrom_61 (hN _ _ _ h901) (fun a21 h21 r21 => ?_)
  refine n_ic X dX1_copyFrom_64 (by decide) (by decide) (fun x22 t22 => ?_)
  refine lv_aload_n X.1 X.2.1 dX1_copyFrom_65 rfl (lv_at hl 0 rfl) ?_
  refine gf_1_4 X hG h900 q_140 dX1_copyFrom_66 (hN _ _ _ h900) (fun a23 h23 r23 => ?_)
  refine n_ic X dX1_copyFrom_69 (by decide) (by decide) (fun x24 t24 => ?_)
  refine n_bp X dX1_copyFrom_70 (by decide) (by decide) (fun x25 t25 => ?_)
  refine tg_copy X hG hl.1 h21 h23 rfl rfl (by omega) (by omega) (by omega) (by show _ ≤ ((6 : Nat) : Int); omega) (by show _ ≤ ((6 : Nat) : Int); omega) q_531 q_526 q_525 q_19 (Nat.le_of_ble_eq_true rfl) (Nat.le_of_ble_eq_true rfl) dX1_copyFrom_72 (fun j j2 x hx => hF _ _ _ _ h23 (ty_in (n := 5000) rfl) (ty_rno rfl)) (fun H locs hG => ?_)
  refine lv_aload_n X.1 X.2.1 dX1_copyFrom_75 rfl (lv_at hl 1 rfl) ?_
  refine gf_1_5 X hG h901 q_143 dX1_copyFrom_76 (hN _ _ _ h901) (fun a26 h26 r26 => ?_)
  refine n_ic X dX1_copyFrom_79 (by decide) (by decide) (fun x27 t27 => ?_)
  refine lv_aload_n X.1 X.2.1 dX1_copyFrom_80 rfl (lv_at hl 0 rfl) ?_
  refine gf_1_5 X hG h900 q_143 dX1_copyFrom_81 (hN _ _ _ h900) (fun a28 h28 r28 => ?_)
  refine n_ic X dX1_copyFrom_84 (by decide) (by decide) (fun x29 t29 => ?_)
  refine n_bp X dX1_copyFrom_85 (by decide) (by decide) (fun x30 t30 => ?_)
  refine tg_copy X hG hl.1 h26 h28 rfl rfl (by omega) (by omega) (by omega) (by show _ ≤ ((6 : Nat) : Int); omega) (by show _ ≤ ((6 : Nat) : Int); omega) q_531 q_526 q_525 q_19 (Nat.le_of_ble_eq_true rfl) (Nat.le_of_ble_eq_true rfl) dX1_copyFrom_87 (fun j j2 x hx => hF _ _ _ _ h28 (ty_in (n := 5000) rfl) (ty_rno rfl)) (fun H locs hG => ?_)
  refine lv_aload_n X.1 X.2.1 dX1_copyFrom_90 rfl (lv_at hl 0 rfl) ?_
  refine lv_aload_n X.1 X.2.1 dX1_copyFrom_91 rfl (lv_at hl 1 rfl) ?_
  refine gf_1_6 X hG h901 q_144 dX1_copyFrom_92 (fun x31 r31 => ?_)
  have b31 := (hR _ _ _ _ h901 r31) _ _ rfl
  have ux := pv_i r31 hx
  subst ux
  refine pg_1_6 X hG h900 q_144 dX1_copyFrom_95 (pv (fu F a900 6 (.int x31)) (cn Mx τ)) pv_off pv_oth (pv_new (cn_F (S := [106]) _ _ _ _ h900 (ty_in (n := 106) rfl) (ty_ryes rfl (by omega)))) (fun H locs hG => ?_)
  exact ret _ _ _ _ _ hG rfl dX1_copyFrom_98
set_option maxHeartbeats 4000000 in
set_option maxRecDepth 100000 in
theorem e_X3_copyFrom (l : Launch) (D : va_G) (cy : Nat → ClassId) (τ : ty_T) {F : Nat → Nat → Option Value} (hs : SUP τ F) {a900 a901 : Nat} (h900 : τ a900 = some (0, 3)) (h901 : τ a901 = some (0, 3)) {g h : Nat} {x : Int32} (fa : F a900 1 = some (.ref g)) (fb : F a901 1 = some (.ref h)) (hx : F h 6 = some (.int x)) : KV l D cy yX3_copyFrom cX3_copyFrom 2 (rL 2) τ (pv F (cn Mx τ)) [.ref a900, .ref a901] (fun w => w = pv (fu F g 6 (.int x)) (cn Mx τ)) := by
  refine k_metV "EdgeEchoes$Line" rfl (by decide +kernel) (Nat.le_of_ble_eq_true rfl) ?_
  intro p e s m args below meth c Q ls X hG hl ret
  have hl : lv_has ls 2 [(0, .ref a900), (1, .ref a901)] := hl
  have hN : ty_N τ (pv F (cn Mx τ)) := pv_N cn_N
  have hR : ty_Rg Mx τ (pv F (cn Mx τ)) := pv_R cn_R
  have hF : ty_Wf Mx τ (pv F (cn Mx τ)) [302, 303, 806, 807, 808, 809, 810, 811, 812, 5000, 6005] := sup_F hs (by decide)
  refine lv_aload_n X.1 X.2.1 dX3_copyFrom_0 rfl (lv_at hl 0 rfl) ?_
  refine gf_3_0 X hG h900 q_162 dX3_copyFrom_1 (hN _ _ _ h900) (fun a1 h1 r1 => ?_)
  refine lv_aload_n X.1 X.2.1 dX3_copyFrom_4 rfl (lv_at hl 1 rfl) ?_
  refine gf_3_0 X hG h901 q_162 dX3_copyFrom_5 (hN _ _ _ h901) (fun a2 h2 r2 => ?_)
  refine k_cVv X hG (c_X8_copyFrom l D cy τ _ hN hR (ty_Wf.sub (S' := [806, 807, 808, 809, 810, 811, 812, 5000, 6005]) hF (by decide)) h1 h2) h1 rfl yv_X8_copyFrom q_520 ⟨rfl, rfl⟩ ⟨Nat.le_of_ble_eq_true rfl, Nat.le_of_ble_eq_true rfl⟩ rfl hl.1 rfl (Nat.le_of_ble_eq_true rfl) ⟨Nat.zero_le _, Nat.zero_le _⟩ dX3_copyFrom_8 (fun u5 H locs hG po3 => ?_)
  rw [po3] at hG
  refine lv_aload_n X.1 X.2.1 dX3_copyFrom_11 rfl (lv_at hl 0 rfl) ?_
  refine gf_3_1 X hG h900 q_167 dX3_copyFrom_12 (hN _ _ _ h900) (fun a6 h6 r6 => ?_)
  have e6 := pv_rd r6 fa
  cases e6
  refine lv_aload_n X.1 X.2.1 dX3_copyFrom_15 rfl (lv_at hl 1 rfl) ?_
  refine gf_3_1 X hG h901 q_167 dX3_copyFrom_16 (hN _ _ _ h901) (fun a7 h7 r7 => ?_)
  have e7 := pv_rd r7 fb
  cases e7
  refine k_cVv X hG (e_X1_copyFrom l D cy τ hs h6 h7 hx) h6 rfl yv_X1_copyFrom q_527 ⟨rfl, rfl⟩ ⟨Nat.le_of_ble_eq_true rfl, Nat.le_of_ble_eq_true rfl⟩ rfl hl.1 rfl (Nat.le_of_ble_eq_true rfl) ⟨Nat.zero_le _, Nat.zero_le _⟩ dX3_copyFrom_19 (fun u10 H locs hG po8 => ?_)
  rw [po8] at hG
  have hF2 : ty_Wf Mx τ (pv (fu F g 6 (.int x)) (cn Mx τ)) [302, 303] := sup_F (sup_fu hs h6 (j := 6) (by decide)) (by decide)
  refine lv_aload_n X.1 X.2.1 dX3_copyFrom_22 rfl (lv_at hl 0 rfl) ?_
  refine lv_aload_n X.1 X.2.1 dX3_copyFrom_23 rfl (lv_at hl 1 rfl) ?_
  refine gf_3_2 X hG h901 q_171 dX3_copyFrom_24 (fun x11 b11 r11 => ?_)
  refine pf_3_2 X hG h900 q_171 (by omega) dX3_copyFrom_27 (hF2 _ _ _ _ h900 (ty_in (n := 302) rfl) (ty_rno rfl)) (fun H locs hG => ?_)
  refine lv_aload_n X.1 X.2.1 dX3_copyFrom_30 rfl (lv_at hl 0 rfl) ?_
  refine lv_aload_n X.1 X.2.1 dX3_copyFrom_31 rfl (lv_at hl 1 rfl) ?_
  refine gf_3_3 X hG h901 q_174 dX3_copyFrom_32 (fun x12 r12 => ?_)
  have g12 := cI_rng x12
  refine pf_3_3 X hG h900 q_174 dX3_copyFrom_35 (hF2 _ _ _ _ h900 (ty_in (n := 303) rfl) (ty_rno rfl)) (fun H locs hG => ?_)
  exact ret _ _ _ _ _ hG rfl dX3_copyFrom_38
set_option maxHeartbeats 4000000 in
set_option maxRecDepth 100000 in
theorem e_X4_remember (l : Launch) (D : va_G) (cy : Nat → ClassId) (τ : ty_T) {F : Nat → Nat → Option Value} (hs : SUP τ F) {xa nw gn pa lz : Nat} {ln gl : Nat → Nat} {cu nx G : Nat} (ha : AG τ F xa nw gn pa lz ln gl) (hv : VG F gn pa gl cu nx G) : KV l D cy yX4_remember cX4_remember 2 (rL 3) τ (pv F (cn Mx τ)) [.ref pa, .ref nw] (fun w => w = pv (remF F pa gl nx cu G) (cn Mx τ)) := by
  refine k_metV "EdgeEchoes$Past" rfl (by decide +kernel) (Nat.le_of_ble_eq_true rfl) ?_
  intro p e s m args below meth c Q ls X hG hl ret
  have hl : lv_has ls 2 [(0, .ref pa), (1, .ref nw)] := hl
  obtain ⟨hnw, hgn, hpa, hlz, hk, fnw, fpa, fgn, flz, fk⟩ := id ha
  obtain ⟨vc, vn, vG, f1, f2, f6, fv⟩ := id hv
  have en : (nI nx).toInt = (nx : Int) := cI_nI (by omega)
  have ec : (nI cu).toInt = (cu : Int) := cI_nI (by omega)
  have gne : pa ≠ gl nx := fun z => by have q := (hk nx vn).2; rw [← z, hpa] at q; cases q
  have hN : ty_N τ (pv F (cn Mx τ)) := pv_N cn_N
  have hR : ty_Rg Mx τ (pv F (cn Mx τ)) := pv_R cn_R
  refine lv_aload_n X.1 X.2.1 dX4_remember_0 rfl (lv_at hl 0 rfl) ?_
  refine gf_4_2 X hG hpa q_214 dX4_remember_1 (fun x1 r1 => ?_)
  have u1 := pv_i r1 f2
  subst u1
  have b1 := (hR _ _ _ _ hpa r1) _ _ rfl
  refine n_if_lt (tgt := 16) X dX4_remember_4 (by decide) (fun c2 => ?_) (fun c2 => ?_)
  · exact absurd c2 (by omega)
  · refine lv_aload_n X.1 X.2.1 dX4_remember_7 rfl (lv_at hl 0 rfl) ?_
    refine gf_4_2 X hG hpa q_214 dX4_remember_8 (fun x3 r3 => ?_)
    have u3 := pv_i r3 f2
    subst u3
    have b3 := (hR _ _ _ _ hpa r3) _ _ rfl
    refine n_bp X dX4_remember_11 (by decide) (by decide) (fun x4 t4 => ?_)
    refine n_icmp_lt (tgt := 21) X dX4_remember_13 (by decide) (fun c5 => ?_) (fun c5 => ?_)
    · refine lv_aload_n X.1 X.2.1 dX4_remember_21 rfl (lv_at hl 0 rfl) ?_
      refine gf_4_0 X hG hpa q_211 dX4_remember_22 (hN _ _ _ hpa) (fun a6 h6 r6 => ?_)
      have e6 := pv_rd r6 flz
      cases e6
      refine lv_aload_n X.1 X.2.1 dX4_remember_25 rfl (lv_at hl 0 rfl) ?_
      refine gf_4_2 X hG hpa q_214 dX4_remember_26 (fun x7 r7 => ?_)
      have u7 := pv_i r7 f2
      subst u7
      have b7 := (hR _ _ _ _ hpa r7) _ _ rfl
      refine tg_aald X hG h6 (Or.inl rfl) (cI_in (n := 12) (by omega)) dX4_remember_29 (hN _ _ _ h6) (fun a8 h8 r8 => ?_)
      rw [nI_cl (by omega)] at r8
      have e8 := pv_rd r8 (fk nx vn).1
      cases e8
      have h8 : τ (ln nx) = some (0, 3) := (hk nx vn).1
      refine lv_aload_n X.1 X.2.1 dX4_remember_30 rfl (lv_at hl 1 rfl) ?_
      refine k_cVv X hG (e_X3_copyFrom l D cy τ hs h8 hnw (fk nx vn).2 fgn f6) h8 rfl yv_X3_copyFrom q_672 ⟨rfl, rfl⟩ ⟨Nat.le_of_ble_eq_true rfl, Nat.le_of_ble_eq_true rfl⟩ rfl hl.1 rfl (Nat.le_of_ble_eq_true rfl) ⟨Nat.zero_le _, Nat.zero_le _⟩ dX4_remember_31 (fun u11 H locs hG po9 => ?_)
      rw [po9] at hG
      refine lv_aload_n X.1 X.2.1 dX4_remember_34 rfl (lv_at hl 0 rfl) ?_
      refine lv_aload_n X.1 X.2.1 dX4_remember_35 rfl (lv_at hl 0 rfl) ?_
      refine gf_4_2 X hG hpa q_214 dX4_remember_36 (fun x12 r12 => ?_)
      have u12 := pv_i r12 ((fu_b gne).trans f2)
      subst u12
      refine n_ic X dX4_remember_39 (by decide) (by decide) (fun x13 t13 => ?_)
      refine n_add X dX4_remember_40 (by omega) (by omega) (fun x14 t14 => ?_)
      refine n_bp X dX4_remember_41 (by decide) (by decide) (fun x15 t15 => ?_)
      refine n_rem X dX4_remember_43 (by omega) (by omega) (fun x16 t16 => ?_)
      rw [t15] at t16
      have e16 : x16 = nI ((nx + 1) % 12) := cI_inj (by rw [cI_nI (by omega)]; omega)
      subst e16
      refine pg_4_2 X hG hpa q_214 dX4_remember_44 (pv (fu (fu F (gl nx) 6 (.int (nI G))) pa 2 (.int (nI ((nx + 1) % 12)))) (cn Mx τ)) pv_off pv_oth (pv_new (cn_F (S := [402]) _ _ _ _ hpa (ty_in (n := 402) rfl) (ty_ryes rfl (by rw [cI_nI (by omega)]; omega)))) (fun H locs hG => ?_)
      refine lv_aload_n X.1 X.2.1 dX4_remember_47 rfl (lv_at hl 0 rfl) ?_
      refine n_bp X dX4_remember_48 (by decide) (by decide) (fun x17 t17 => ?_)
      refine lv_aload_n X.1 X.2.1 dX4_remember_50 rfl (lv_at hl 0 rfl) ?_
      refine gf_4_1 X hG hpa q_212 dX4_remember_51 (fun x18 r18 => ?_)
      have u18 := pv_i r18 ((fu_j (by decide)).trans ((fu_b gne).trans f1))
      subst u18
      refine n_ic X dX4_remember_54 (by decide) (by decide) (fun x19 t19 => ?_)
      refine n_add X dX4_remember_55 (by omega) (by omega) (fun x20 t20 => ?_)
      refine n_min X hl.1 q_673 q_414 q_15 q_415 (Nat.le_of_ble_eq_true rfl) (Nat.le_of_ble_eq_true rfl) ⟨Nat.zero_le _, Nat.zero_le _⟩ dX4_remember_56 (fun x21 t21 => ?_)
      have e21 : x21 = nI (min 12 (cu + 1)) := cI_inj (by rw [cI_nI (by omega)]; omega)
      subst e21
      refine pg_4_1 X hG hpa q_212 dX4_remember_59 (pv (remF F pa gl nx cu G) (cn Mx τ)) pv_off pv_oth (pv_new (cn_F (S := [401]) _ _ _ _ hpa (ty_in (n := 401) rfl) (ty_rno rfl))) (fun H locs hG => ?_)
      exact ret _ _ _ _ _ hG rfl dX4_remember_62
    · exact absurd c5 (by omega)
set_option maxHeartbeats 4000000 in
set_option maxRecDepth 100000 in
theorem e_X4_bringBack (l : Launch) (D : va_G) (cy : Nat → ClassId) (τ : ty_T) {F : Nat → Nat → Option Value} (hs : SUP τ F) {xa nw gn pa lz : Nat} {ln gl : Nat → Nat} {cu nx G : Nat} (ha : AG τ F xa nw gn pa lz ln gl) (hv : VG F gn pa gl cu nx G) {k : Nat} (k1 : 1 ≤ k) (k2 : k ≤ cu) (x902 : Int32) (ek : x902.toInt = (k : Int)) : KV l D cy yX4_bringBack cX4_bringBack 3 (rL 3) τ (pv F (cn Mx τ)) [.ref pa, .ref nw, .int x902] (fun w => w = pv (bbF F pa gn nx cu G k) (cn Mx τ)) := by
  refine k_metV "EdgeEchoes$Past" rfl (by decide +kernel) (Nat.le_of_ble_eq_true rfl) ?_
  intro p e s m args below meth c Q ls X hG hl ret
  have hl : lv_has ls 3 [(0, .ref pa), (1, .ref nw), (2, .int x902)] := hl
  obtain ⟨hnw, hgn, hpa, hlz, hk, fnw, fpa, fgn, flz, fk⟩ := id ha
  obtain ⟨vc, vn, vG, f1, f2, f6, fv⟩ := id hv
  have en : (nI nx).toInt = (nx : Int) := cI_nI (by omega)
  have ec : (nI cu).toInt = (cu : Int) := cI_nI (by omega)
  obtain ⟨n2, en2⟩ : ∃ n2, n2 = (nx + 12 - k) % 12 := ⟨_, rfl⟩
  have l2 : n2 < 12 := by omega
  have en3 : (nI n2).toInt = (n2 : Int) := cI_nI (by omega)
  have gne : pa ≠ gn := fun z => by rw [z, hgn] at hpa; cases hpa
  have zne : lz ≠ pa := fun z => by rw [z, hpa] at hlz; cases hlz
  have wne : nw ≠ pa := fun z => by rw [z, hpa] at hnw; cases hnw
  have kne : ln n2 ≠ pa := fun z => by have q := (hk n2 l2).1; rw [z, hpa] at q; cases q
  have hne : gl n2 ≠ pa := fun z => by have q := (hk n2 l2).2; rw [z, hpa] at q; cases q
  have hN : ty_N τ (pv F (cn Mx τ)) := pv_N cn_N
  have hR : ty_Rg Mx τ (pv F (cn Mx τ)) := pv_R cn_R
  have hF : ty_Wf Mx τ (pv F (cn Mx τ)) [302, 303] := sup_F hs (by decide)
  have hs1 := sup_fu (x := .int (nI n2)) hs hpa (j := 2) (by decide)
  have g902 := cI_rng x902
  refine lv_iload_n X.1 X.2.1 dX4_bringBack_0 rfl (lv_at hl 2 rfl) ?_
  refine n_ic X dX4_bringBack_1 (by decide) (by decide) (fun x1 t1 => ?_)
  refine n_icmp_lt (tgt := 19) X dX4_bringBack_2 (by decide) (fun c2 => ?_) (fun c2 => ?_)
  · exact absurd c2 (by omega)
  · refine lv_iload_n X.1 X.2.1 dX4_bringBack_5 rfl (lv_at hl 2 rfl) ?_
    refine lv_aload_n X.1 X.2.1 dX4_bringBack_6 rfl (lv_at hl 0 rfl) ?_
    refine gf_4_1 X hG hpa q_212 dX4_bringBack_7 (fun x3 r3 => ?_)
    have u3 := pv_i r3 f1
    subst u3
    refine n_icmp_gt (tgt := 19) X dX4_bringBack_10 (by decide) (fun c4 => ?_) (fun c4 => ?_)
    · exact absurd c4 (by omega)
    · refine lv_iload_n X.1 X.2.1 dX4_bringBack_13 rfl (lv_at hl 2 rfl) ?_
      refine n_bp X dX4_bringBack_14 (by decide) (by decide) (fun x5 t5 => ?_)
      refine n_icmp_le (tgt := 20) X dX4_bringBack_16 (by decide) (fun c6 => ?_) (fun c6 => ?_)
      · refine lv_aload_n X.1 X.2.1 dX4_bringBack_20 rfl (lv_at hl 0 rfl) ?_
        refine lv_aload_n X.1 X.2.1 dX4_bringBack_21 rfl (lv_at hl 0 rfl) ?_
        refine gf_4_2 X hG hpa q_214 dX4_bringBack_22 (fun x7 r7 => ?_)
        have u7 := pv_i r7 f2
        subst u7
        refine lv_iload_n X.1 X.2.1 dX4_bringBack_25 rfl (lv_at hl 2 rfl) ?_
        refine n_sub X dX4_bringBack_26 (by omega) (by omega) (fun x8 t8 => ?_)
        refine n_bp X dX4_bringBack_27 (by decide) (by decide) (fun x9 t9 => ?_)
        refine k_cSi X hG (c_J9_floorMod_7cf53 l D cy τ _ hN hR (ty_Wf.sub (S' := []) hF (by decide)) x8 (by omega) x9 (by omega)) ys_J9_floorMod_7cf53 q_742 ⟨rfl, rfl⟩ ⟨Nat.le_of_ble_eq_true rfl, Nat.le_of_ble_eq_true rfl⟩ rfl hl.1 rfl (Nat.le_of_ble_eq_true rfl) ⟨Nat.zero_le _, Nat.zero_le _⟩ dX4_bringBack_29 (fun x11 u12 H locs hG po10 => ?_)
        obtain ⟨eu12, po10⟩ := po10
        rw [eu12] at hG
        have e11 : x11 = nI n2 := cI_inj (by rw [en3]; omega)
        subst e11
        refine pg_4_2 X hG hpa q_214 dX4_bringBack_32 (pv (fu F pa 2 (.int (nI n2))) (cn Mx τ)) pv_off pv_oth (pv_new (cn_F (S := [402]) _ _ _ _ hpa (ty_in (n := 402) rfl) (ty_ryes rfl (by rw [en3]; omega)))) (fun H locs hG => ?_)
        have hN : ty_N τ (pv (fu F pa 2 (.int (nI n2))) (cn Mx τ)) := pv_N cn_N
        refine lv_aload_n X.1 X.2.1 dX4_bringBack_35 rfl (lv_at hl 1 rfl) ?_
        refine lv_aload_n X.1 X.2.1 dX4_bringBack_36 rfl (lv_at hl 0 rfl) ?_
        refine gf_4_0 X hG hpa q_211 dX4_bringBack_37 (hN _ _ _ hpa) (fun a13 h13 r13 => ?_)
        have e13 := pv_rd r13 ((fu_j (by decide)).trans flz)
        cases e13
        refine lv_aload_n X.1 X.2.1 dX4_bringBack_40 rfl (lv_at hl 0 rfl) ?_
        refine gf_4_2 X hG hpa q_214 dX4_bringBack_41 (fun x14 r14 => ?_)
        have u14 := pv_i r14 fu_at
        subst u14
        refine tg_aald X hG h13 (Or.inl rfl) (cI_in (n := 12) (by omega)) dX4_bringBack_44 (hN _ _ _ h13) (fun a15 h15 r15 => ?_)
        rw [nI_cl (by omega)] at r15
        have e15 := pv_rd r15 ((fu_b zne).trans (fk n2 l2).1)
        cases e15
        have h15 : τ (ln n2) = some (0, 3) := (hk n2 l2).1
        refine k_cVv X hG (e_X3_copyFrom l D cy τ hs1 hnw h15 ((fu_b wne).trans fgn) ((fu_b kne).trans (fk n2 l2).2) ((fu_b hne).trans (by rw [en2]; exact fv k k1 k2))) hnw rfl yv_X3_copyFrom q_672 ⟨rfl, rfl⟩ ⟨Nat.le_of_ble_eq_true rfl, Nat.le_of_ble_eq_true rfl⟩ rfl hl.1 rfl (Nat.le_of_ble_eq_true rfl) ⟨Nat.zero_le _, Nat.zero_le _⟩ dX4_bringBack_45 (fun u18 H locs hG po16 => ?_)
        rw [po16] at hG
        refine lv_aload_n X.1 X.2.1 dX4_bringBack_48 rfl (lv_at hl 0 rfl) ?_
        refine lv_dup X.1 X.2.1 dX4_bringBack_49 rfl ?_
        refine gf_4_1 X hG hpa q_212 dX4_bringBack_50 (fun x19 r19 => ?_)
        have u19 := pv_i r19 ((fu_b gne).trans ((fu_j (by decide)).trans f1))
        subst u19
        refine lv_iload_n X.1 X.2.1 dX4_bringBack_53 rfl (lv_at hl 2 rfl) ?_
        refine n_sub X dX4_bringBack_54 (by omega) (by omega) (fun x20 t20 => ?_)
        have e20 : x20 = nI (cu - k) := cI_inj (by rw [cI_nI (by omega)]; omega)
        subst e20
        refine pg_4_1 X hG hpa q_212 dX4_bringBack_55 (pv (fu (fu (fu F pa 2 (.int (nI n2))) gn 6 (.int (nI G))) pa 1 (.int (nI (cu - k)))) (cn Mx τ)) pv_off pv_oth (pv_new (cn_F (S := [401]) _ _ _ _ hpa (ty_in (n := 401) rfl) (ty_rno rfl))) (fun H locs hG => ?_)
        exact ret _ _ _ _ _ hG (by rw [en2]; rfl) dX4_bringBack_58
      · exact absurd c6 (by omega)
set_option maxHeartbeats 4000000 in
set_option maxRecDepth 100000 in
theorem e_X9_tick (l : Launch) (D : va_G) (cy : Nat → ClassId) (τ : ty_T) {F : Nat → Nat → Option Value} (hs : SUP τ F) {xa nw gn pa lz : Nat} {ln gl : Nat → Nat} {cu nx G : Nat} (hxa : τ xa = some (0, 9)) (ha : AG τ F xa nw gn pa lz ln gl) (hv : VG F gn pa gl cu nx G) (x901 : Int32) : KI l D cy yX9_tick cX9_tick 4 .int (rL 5) τ (pv F (cn Mx τ)) [.ref xa, .int x901] (fun r u => RM τ F pa gl nx cu G u ∧ True) := by
  refine k_metI "EdgeEchoes" rfl (by decide +kernel) (Nat.le_of_ble_eq_true rfl) (fun _ _ _ => rfl) ?_
  intro p e s m args below meth c Q ls X hG hl ret
  have hl : lv_has ls 4 [(0, .ref xa), (1, .int x901)] := hl
  obtain ⟨hnw, hgn, hpa, hlz, hk, fnw, fpa, fgn, flz, fk⟩ := id ha
  have hN : ty_N τ (pv F (cn Mx τ)) := pv_N cn_N
  have hR : ty_Rg Mx τ (pv F (cn Mx τ)) := pv_R cn_R
  have hF : ty_Wf Mx τ (pv F (cn Mx τ)) [302, 303, 806, 807, 808, 809, 810, 811, 812, 5000, 6005] := sup_F hs (by decide)
  have hs2 := sup_rem hs ha hv
  obtain ⟨ρ2, eρ⟩ : ∃ r : ty_R, r = pv (remF F pa gl nx cu G) (cn Mx τ) := ⟨_, rfl⟩
  have hN2 : ty_N τ ρ2 := by rw [eρ]; exact pv_N cn_N
  have hR2 : ty_Rg Mx τ ρ2 := by rw [eρ]; exact pv_R cn_R
  have hF2 : ty_Wf Mx τ ρ2 [302, 303, 806, 807, 808, 809, 810, 811, 812, 5000, 6005] := by rw [eρ]; exact sup_F hs2 (by decide)
  have g901 := cI_rng x901
  refine lv_aload_n X.1 X.2.1 dX9_tick_0 rfl (lv_at hl 0 rfl) ?_
  refine lv_iload_n X.1 X.2.1 dX9_tick_1 rfl (lv_at hl 1 rfl) ?_
  refine k_cVi X hG (c_X9_refusalToPass l D cy τ _ hN hR (ty_Wf.sub (S' := []) hF (by decide)) hxa x901) hxa rfl yv_X9_refusalToPass q_662 ⟨rfl, rfl⟩ ⟨Nat.le_of_ble_eq_true rfl, Nat.le_of_ble_eq_true rfl⟩ rfl hl.1 rfl (Nat.le_of_ble_eq_true rfl) ⟨Nat.zero_le _, Nat.zero_le _⟩ dX9_tick_2 (fun x2 u3 H locs hG po1 => ?_)
  obtain ⟨eu3, po1⟩ := po1
  rw [eu3] at hG
  have g2 := cI_rng x2
  refine lv_istore_n (lv' := [(2, .int x2), (0, .ref xa), (1, .int x901)]) X.1 X.2.1 dX9_tick_5 rfl hl (by decide) rfl (fun ls hl => ?_)
  refine lv_iload_n X.1 X.2.1 dX9_tick_6 rfl (lv_at hl 0 rfl) ?_
  refine n_if_eq (tgt := 12) X dX9_tick_7 (by decide) (fun c4 => ?_) (fun c4 => ?_)
  · refine lv_aload_n X.1 X.2.1 dX9_tick_12 rfl (lv_at hl 1 rfl) ?_
    refine gf_9_3 X hG hxa q_298 dX9_tick_13 (hN _ _ _ hxa) (fun a5 h5 r5 => ?_)
    refine lv_aload_n X.1 X.2.1 dX9_tick_16 rfl (lv_at hl 1 rfl) ?_
    refine gf_9_1 X hG hxa q_296 dX9_tick_17 (hN _ _ _ hxa) (fun a6 h6 r6 => ?_)
    have e5 := pv_rd r5 fpa
    cases e5
    have e6 := pv_rd r6 fnw
    cases e6
    refine k_cVv X hG (e_X4_remember l D cy τ hs ha hv) h5 rfl yv_X4_remember q_668 ⟨rfl, rfl⟩ ⟨Nat.le_of_ble_eq_true rfl, Nat.le_of_ble_eq_true rfl⟩ rfl hl.1 rfl (Nat.le_of_ble_eq_true rfl) ⟨Nat.zero_le _, Nat.zero_le _⟩ dX9_tick_20 (fun u9 H locs hG po7 => ?_)
    rw [po7, ← eρ] at hG
    refine n_ic X dX9_tick_23 (by decide) (by decide) (fun x10 t10 => ?_)
    refine lv_istore_n (lv' := [(3, .int x10), (2, .int x2), (0, .ref xa), (1, .int x901)]) X.1 X.2.1 dX9_tick_24 rfl hl (by decide) rfl (fun ls hl => ?_)
    have J25 : ∀ (n : Nat) (H : Heap) (locs : List Loc) (ls : Array Slot) (x11 : Int32), (0 ≤ x11.toInt) → (2147483647 - x11.toInt).toNat < n → TG D cy τ ρ2 (ty_d τ) s.heap H locs → lv_has ls 4 [(0, .ref xa), (1, .int x901), (2, .int x2), (3, .int x11)] → W p l e (rL 5) s m args below meth c H locs 0 0 Q (F0 m 25 ls []) := by
      intro n
      induction n with
      | zero => intro H locs ls x11 bx11 hm25 hG hl; exact absurd hm25 (Nat.not_lt_zero _)
      | succ n ih25 =>
        intro H locs ls x11 bx11 hm25 hG hl
        have gx11 := cI_rng x11
        refine lv_iload_n X.1 X.2.1 dX9_tick_25 rfl (lv_at hl 3 rfl) ?_
        refine lv_iload_n X.1 X.2.1 dX9_tick_26 rfl (lv_at hl 1 rfl) ?_
        refine n_icmp_ge (tgt := 43) X dX9_tick_27 (by decide) (fun c12 => ?_) (fun c12 => ?_)
        · refine lv_aload_n X.1 X.2.1 dX9_tick_43 rfl (lv_at hl 0 rfl) ?_
          refine gf_9_1 X hG hxa q_296 dX9_tick_44 (hN2 _ _ _ hxa) (fun a13 h13 r13 => ?_)
          refine gf_3_3 X hG h13 q_175 dX9_tick_47 (fun x14 r14 => ?_)
          have g14 := cI_rng x14
          exact ret _ _ _ _ x14 _ hG ⟨Or.inr eρ, trivial⟩ dX9_tick_50
        · refine lv_aload_n X.1 X.2.1 dX9_tick_30 rfl (lv_at hl 0 rfl) ?_
          refine gf_9_1 X hG hxa q_296 dX9_tick_31 (hN2 _ _ _ hxa) (fun a15 h15 r15 => ?_)
          refine k_cVv X hG (c_X3_pass l D cy τ _ hN2 hR2 (ty_Wf.sub (S' := [303, 5000]) hF2 (by decide)) h15) h15 rfl yv_X3_pass q_674 ⟨rfl, rfl⟩ ⟨Nat.le_of_ble_eq_true rfl, Nat.le_of_ble_eq_true rfl⟩ rfl hl.1 rfl (Nat.le_of_ble_eq_true rfl) ⟨Nat.zero_le _, Nat.zero_le _⟩ dX9_tick_34 (fun u18 H locs hG po16 => ?_)
          rw [po16] at hG
          refine n_inc X (fun z20 => [(3, .int z20), (0, .ref xa), (1, .int x901), (2, .int x2)]) dX9_tick_37 hl (k := 3) rfl (by decide) (by decide) (by omega) (by omega) (by decide) (fun _ => rfl) (fun x19 ls t19 hl => ?_)
          have hl : lv_has ls 4 [(3, .int x19), (0, .ref xa), (1, .int x901), (2, .int x2)] := hl
          refine lv_goto (tgt := 25) X.1 X.2.1 dX9_tick_40 (by decide) ?_
          exact ih25 _ _ _ x19 (by omega) (by omega) hG (lv_sub hl [1, 2, 3, 0] rfl)
    exact J25 _ _ _ _ x10 (by omega) (Nat.lt_succ_self _) hG (lv_sub hl [2, 3, 1, 0] rfl)
  · refine lv_iload_n X.1 X.2.1 dX9_tick_10 rfl (lv_at hl 0 rfl) ?_
    exact ret _ _ _ _ x2 _ hG ⟨Or.inl rfl, trivial⟩ dX9_tick_11
set_option maxHeartbeats 4000000 in
set_option maxRecDepth 100000 in
theorem e_X9_drive (l : Launch) (D : va_G) (cy : Nat → ClassId) (τ : ty_T) {F : Nat → Nat → Option Value} (hs : SUP τ F) {xa nw gn pa lz : Nat} {ln gl : Nat → Nat} {cu nx G : Nat} (hxa : τ xa = some (0, 9)) (ha : AG τ F xa nw gn pa lz ln gl) (hv : VG F gn pa gl cu nx G) (x901 : Int32) (zx901 : x901.toInt = 0 ∨ x901.toInt = 1) : KI l D cy yX9_drive cX9_drive 3 .int (rL 4) τ (pv F (cn Mx τ)) [.ref xa, .int x901] (fun r u => RM τ F pa gl nx cu G u ∧ True) := by
  refine k_metI "EdgeEchoes" rfl (by decide +kernel) (Nat.le_of_ble_eq_true rfl) (fun _ _ _ => rfl) ?_
  intro p e s m args below meth c Q ls X hG hl ret
  have hl : lv_has ls 3 [(0, .ref xa), (1, .int x901)] := hl
  obtain ⟨hnw, hgn, hpa, hlz, hk, fnw, fpa, fgn, flz, fk⟩ := id ha
  have hN : ty_N τ (pv F (cn Mx τ)) := pv_N cn_N
  have hR : ty_Rg Mx τ (pv F (cn Mx τ)) := pv_R cn_R
  have hF : ty_Wf Mx τ (pv F (cn Mx τ)) [302, 303, 806, 807, 808, 809, 810, 811, 812, 5000, 6005] := sup_F hs (by decide)
  have hs2 := sup_rem hs ha hv
  obtain ⟨ρ2, eρ⟩ : ∃ r : ty_R, r = pv (remF F pa gl nx cu G) (cn Mx τ) := ⟨_, rfl⟩
  have hN2 : ty_N τ ρ2 := by rw [eρ]; exact pv_N cn_N
  have hR2 : ty_Rg Mx τ ρ2 := by rw [eρ]; exact pv_R cn_R
  have hF2 : ty_Wf Mx τ ρ2 [302, 303, 806, 807, 808, 809, 810, 811, 812, 5000, 6005] := by rw [eρ]; exact sup_F hs2 (by decide)
  refine lv_aload_n X.1 X.2.1 dX9_drive_0 rfl (lv_at hl 0 rfl) ?_
  refine gf_9_1 X hG hxa q_296 dX9_drive_1 (hN _ _ _ hxa) (fun a1 h1 r1 => ?_)
  refine gf_3_2 X hG h1 q_173 dX9_drive_4 (fun x2 b2 r2 => ?_)
  refine n_if_ne (tgt := 13) X dX9_drive_7 (by decide) (fun c3 => ?_) (fun c3 => ?_)
  · refine lv_aload_n X.1 X.2.1 dX9_drive_13 rfl (lv_at hl 0 rfl) ?_
    refine gf_9_3 X hG hxa q_298 dX9_drive_14 (hN _ _ _ hxa) (fun a4 h4 r4 => ?_)
    refine lv_aload_n X.1 X.2.1 dX9_drive_17 rfl (lv_at hl 0 rfl) ?_
    refine gf_9_1 X hG hxa q_296 dX9_drive_18 (hN _ _ _ hxa) (fun a5 h5 r5 => ?_)
    have e4 := pv_rd r4 fpa
    cases e4
    have e5 := pv_rd r5 fnw
    cases e5
    refine k_cVv X hG (e_X4_remember l D cy τ hs ha hv) h4 rfl yv_X4_remember q_668 ⟨rfl, rfl⟩ ⟨Nat.le_of_ble_eq_true rfl, Nat.le_of_ble_eq_true rfl⟩ rfl hl.1 rfl (Nat.le_of_ble_eq_true rfl) ⟨Nat.zero_le _, Nat.zero_le _⟩ dX9_drive_21 (fun u8 H locs hG po6 => ?_)
    rw [po6, ← eρ] at hG
    refine lv_aload_n X.1 X.2.1 dX9_drive_24 rfl (lv_at hl 0 rfl) ?_
    refine gf_9_1 X hG hxa q_296 dX9_drive_25 (hN2 _ _ _ hxa) (fun a9 h9 r9 => ?_)
    refine gf_3_0 X hG h9 q_165 dX9_drive_28 (hN2 _ _ _ h9) (fun a10 h10 r10 => ?_)
    refine gf_8_12 X hG h10 q_97 dX9_drive_31 (fun x11 b11 r11 => ?_)
    have J42 : ∀ (H : Heap) (locs : List Loc) (ls : Array Slot) (x12 : Int32), (0 ≤ x12.toInt ∧ x12.toInt ≤ 1) → TG D cy τ ρ2 (ty_d τ) s.heap H locs → lv_has ls 3 [(0, .ref xa), (1, .int x901)] → W p l e (rL 4) s m args below meth c H locs 0 0 Q (F0 m 42 ls [.int x12]) := by
      intro H locs ls x12 bx12 hG hl
      refine lv_istore_n (lv' := [(2, .int x12), (0, .ref xa), (1, .int x901)]) X.1 X.2.1 dX9_drive_42 rfl hl (by decide) rfl (fun ls hl => ?_)
      refine lv_aload_n X.1 X.2.1 dX9_drive_43 rfl (lv_at hl 1 rfl) ?_
      refine gf_9_1 X hG hxa q_296 dX9_drive_44 (hN2 _ _ _ hxa) (fun a13 h13 r13 => ?_)
      refine gf_3_0 X hG h13 q_165 dX9_drive_47 (hN2 _ _ _ h13) (fun a14 h14 r14 => ?_)
      refine lv_iload_n X.1 X.2.1 dX9_drive_50 rfl (lv_at hl 2 rfl) ?_
      refine pf_8_12 X hG h14 q_97 (by omega) dX9_drive_51 (hF2 _ _ _ _ h14 (ty_in (n := 812) rfl) (ty_rno rfl)) (fun H locs hG => ?_)
      refine lv_iload_n X.1 X.2.1 dX9_drive_54 rfl (lv_at hl 0 rfl) ?_
      exact ret _ _ _ _ x12 _ hG ⟨Or.inr eρ, trivial⟩ dX9_drive_55
    refine n_if_eq (tgt := 41) X dX9_drive_34 (by decide) (fun c15 => ?_) (fun c15 => ?_)
    · refine n_ic X dX9_drive_41 (by decide) (by decide) (fun x16 t16 => ?_)
      exact J42 _ _ _ x16 (by omega) hG (lv_sub hl [0, 1] rfl)
    · refine n_ic X dX9_drive_37 (by decide) (by decide) (fun x17 t17 => ?_)
      refine lv_goto (tgt := 42) X.1 X.2.1 dX9_drive_38 (by decide) ?_
      exact J42 _ _ _ x17 (by omega) hG (lv_sub hl [0, 1] rfl)
  · refine n_ldc X q_666 (n := -1000000003) (by decide +kernel) dX9_drive_10 (fun x18 t18 => ?_)
    exact ret _ _ _ _ x18 _ hG ⟨Or.inl rfl, trivial⟩ dX9_drive_12
set_option maxHeartbeats 4000000 in
set_option maxRecDepth 100000 in
theorem e_X9_turnPlace (l : Launch) (D : va_G) (cy : Nat → ClassId) (τ : ty_T) {F : Nat → Nat → Option Value} (hs : SUP τ F) {xa nw gn pa lz : Nat} {ln gl : Nat → Nat} {cu nx G : Nat} (hxa : τ xa = some (0, 9)) (ha : AG τ F xa nw gn pa lz ln gl) (hv : VG F gn pa gl cu nx G) (x901 : Int32) (x902 : Int32) : KI l D cy yX9_turnPlace cX9_turnPlace 4 .int (rL 4) τ (pv F (cn Mx τ)) [.ref xa, .int x901, .int x902] (fun r u => RM τ F pa gl nx cu G u ∧ True) := by
  refine k_metI "EdgeEchoes" rfl (by decide +kernel) (Nat.le_of_ble_eq_true rfl) (fun _ _ _ => rfl) ?_
  intro p e s m args below meth c Q ls X hG hl ret
  have hl : lv_has ls 4 [(0, .ref xa), (1, .int x901), (2, .int x902)] := hl
  obtain ⟨hnw, hgn, hpa, hlz, hk, fnw, fpa, fgn, flz, fk⟩ := id ha
  have hN : ty_N τ (pv F (cn Mx τ)) := pv_N cn_N
  have hR : ty_Rg Mx τ (pv F (cn Mx τ)) := pv_R cn_R
  have hF : ty_Wf Mx τ (pv F (cn Mx τ)) [302, 303, 806, 807, 808, 809, 810, 811, 812, 5000, 6005] := sup_F hs (by decide)
  have hs2 := sup_rem hs ha hv
  obtain ⟨ρ2, eρ⟩ : ∃ r : ty_R, r = pv (remF F pa gl nx cu G) (cn Mx τ) := ⟨_, rfl⟩
  have hN2 : ty_N τ ρ2 := by rw [eρ]; exact pv_N cn_N
  have hR2 : ty_Rg Mx τ ρ2 := by rw [eρ]; exact pv_R cn_R
  have hF2 : ty_Wf Mx τ ρ2 [302, 303, 806, 807, 808, 809, 810, 811, 812, 5000, 6005] := by rw [eρ]; exact sup_F hs2 (by decide)
  have g901 := cI_rng x901
  have g902 := cI_rng x902
  refine lv_iload_n X.1 X.2.1 dX9_turnPlace_0 rfl (lv_at hl 1 rfl) ?_
  refine k_cSi X hG (c_X9_isPlaceNumber l D cy τ _ hN hR (ty_Wf.sub (S' := []) hF (by decide)) x901) ys_X9_isPlaceNumber q_621 ⟨rfl, rfl⟩ ⟨Nat.le_of_ble_eq_true rfl, Nat.le_of_ble_eq_true rfl⟩ rfl hl.1 rfl (Nat.le_of_ble_eq_true rfl) ⟨Nat.zero_le _, Nat.zero_le _⟩ dX9_turnPlace_1 (fun x2 u3 H locs hG po1 => ?_)
  obtain ⟨eu3, po1⟩ := po1
  rw [eu3] at hG
  refine n_if_ne (tgt := 10) X dX9_turnPlace_4 (by decide) (fun c4 => ?_) (fun c4 => ?_)
  · refine lv_aload_n X.1 X.2.1 dX9_turnPlace_10 rfl (lv_at hl 0 rfl) ?_
    refine gf_9_1 X hG hxa q_296 dX9_turnPlace_11 (hN _ _ _ hxa) (fun a5 h5 r5 => ?_)
    refine gf_3_0 X hG h5 q_165 dX9_turnPlace_14 (hN _ _ _ h5) (fun a6 h6 r6 => ?_)
    refine lv_iload_n X.1 X.2.1 dX9_turnPlace_17 rfl (lv_at hl 1 rfl) ?_
    refine k_cVi X hG (c_X8_hasPlace l D cy τ _ hN hR (ty_Wf.sub (S' := []) hF (by decide)) h6 x901) h6 rfl yv_X8_hasPlace q_624 ⟨rfl, rfl⟩ ⟨Nat.le_of_ble_eq_true rfl, Nat.le_of_ble_eq_true rfl⟩ rfl hl.1 rfl (Nat.le_of_ble_eq_true rfl) ⟨Nat.zero_le _, Nat.zero_le _⟩ dX9_turnPlace_18 (fun x8 u9 H locs hG po7 => ?_)
    obtain ⟨eu9, po7⟩ := po7
    rw [eu9] at hG
    refine n_if_eq (tgt := 40) X dX9_turnPlace_21 (by decide) (fun c10 => ?_) (fun c10 => ?_)
    · refine n_ldc X q_666 (n := -1000000003) (by decide +kernel) dX9_turnPlace_40 (fun x11 t11 => ?_)
      exact ret _ _ _ _ x11 _ hG ⟨Or.inl rfl, trivial⟩ dX9_turnPlace_42
    · refine lv_aload_n X.1 X.2.1 dX9_turnPlace_24 rfl (lv_at hl 0 rfl) ?_
      refine gf_9_1 X hG hxa q_296 dX9_turnPlace_25 (hN _ _ _ hxa) (fun a12 h12 r12 => ?_)
      refine gf_3_0 X hG h12 q_165 dX9_turnPlace_28 (hN _ _ _ h12) (fun a13 h13 r13 => ?_)
      refine gf_8_5 X hG h13 q_77 dX9_turnPlace_31 (hN _ _ _ h13) (fun a14 h14 r14 => ?_)
      refine lv_iload_n X.1 X.2.1 dX9_turnPlace_34 rfl (lv_at hl 1 rfl) ?_
      refine tg_iald X hG h14 rfl (cI_in (n := 72) (by omega)) dX9_turnPlace_35 (fun x15 r15 => ?_)
      refine lv_iload_n X.1 X.2.1 dX9_turnPlace_36 rfl (lv_at hl 2 rfl) ?_
      refine n_icmp_ne (tgt := 43) X dX9_turnPlace_37 (by decide) (fun c16 => ?_) (fun c16 => ?_)
      · refine lv_aload_n X.1 X.2.1 dX9_turnPlace_43 rfl (lv_at hl 0 rfl) ?_
        refine gf_9_3 X hG hxa q_298 dX9_turnPlace_44 (hN _ _ _ hxa) (fun a17 h17 r17 => ?_)
        refine lv_aload_n X.1 X.2.1 dX9_turnPlace_47 rfl (lv_at hl 0 rfl) ?_
        refine gf_9_1 X hG hxa q_296 dX9_turnPlace_48 (hN _ _ _ hxa) (fun a18 h18 r18 => ?_)
        have e17 := pv_rd r17 fpa
        cases e17
        have e18 := pv_rd r18 fnw
        cases e18
        refine k_cVv X hG (e_X4_remember l D cy τ hs ha hv) h17 rfl yv_X4_remember q_668 ⟨rfl, rfl⟩ ⟨Nat.le_of_ble_eq_true rfl, Nat.le_of_ble_eq_true rfl⟩ rfl hl.1 rfl (Nat.le_of_ble_eq_true rfl) ⟨Nat.zero_le _, Nat.zero_le _⟩ dX9_turnPlace_51 (fun u21 H locs hG po19 => ?_)
        rw [po19, ← eρ] at hG
        refine lv_aload_n X.1 X.2.1 dX9_turnPlace_54 rfl (lv_at hl 0 rfl) ?_
        refine gf_9_1 X hG hxa q_296 dX9_turnPlace_55 (hN2 _ _ _ hxa) (fun a22 h22 r22 => ?_)
        refine gf_3_0 X hG h22 q_165 dX9_turnPlace_58 (hN2 _ _ _ h22) (fun a23 h23 r23 => ?_)
        refine gf_8_5 X hG h23 q_77 dX9_turnPlace_61 (hN2 _ _ _ h23) (fun a24 h24 r24 => ?_)
        refine lv_iload_n X.1 X.2.1 dX9_turnPlace_64 rfl (lv_at hl 1 rfl) ?_
        refine tg_iald X hG h24 rfl (cI_in (n := 72) (by omega)) dX9_turnPlace_65 (fun x25 r25 => ?_)
        refine lv_istore_n (lv' := [(3, .int x25), (0, .ref xa), (1, .int x901), (2, .int x902)]) X.1 X.2.1 dX9_turnPlace_66 rfl hl (by decide) rfl (fun ls hl => ?_)
        refine lv_aload_n X.1 X.2.1 dX9_turnPlace_67 rfl (lv_at hl 1 rfl) ?_
        refine gf_9_1 X hG hxa q_296 dX9_turnPlace_68 (hN2 _ _ _ hxa) (fun a26 h26 r26 => ?_)
        refine gf_3_0 X hG h26 q_165 dX9_turnPlace_71 (hN2 _ _ _ h26) (fun a27 h27 r27 => ?_)
        refine gf_8_5 X hG h27 q_77 dX9_turnPlace_74 (hN2 _ _ _ h27) (fun a28 h28 r28 => ?_)
        refine lv_iload_n X.1 X.2.1 dX9_turnPlace_77 rfl (lv_at hl 2 rfl) ?_
        refine lv_iload_n X.1 X.2.1 dX9_turnPlace_78 rfl (lv_at hl 3 rfl) ?_
        refine tg_iasf X hG h28 rfl (cI_in (n := 72) (by omega)) dX9_turnPlace_79 (hF2 _ _ _ _ h28 (ty_in (n := 5000) rfl) (ty_rno rfl)) (fun H locs hG => ?_)
        refine lv_iload_n X.1 X.2.1 dX9_turnPlace_80 rfl (lv_at hl 0 rfl) ?_
        exact ret _ _ _ _ x25 _ hG ⟨Or.inr eρ, trivial⟩ dX9_turnPlace_81
      · refine n_ldc X q_666 (n := -1000000003) (by decide +kernel) dX9_turnPlace_40 (fun x29 t29 => ?_)
        exact ret _ _ _ _ x29 _ hG ⟨Or.inl rfl, trivial⟩ dX9_turnPlace_42
  · refine n_ldc X q_327 (n := -1000000002) (by decide +kernel) dX9_turnPlace_7 (fun x30 t30 => ?_)
    exact ret _ _ _ _ x30 _ hG ⟨Or.inl rfl, trivial⟩ dX9_turnPlace_9
set_option maxHeartbeats 4000000 in
set_option maxRecDepth 100000 in
theorem e_X9_cut (l : Launch) (D : va_G) (cy : Nat → ClassId) (τ : ty_T) {F : Nat → Nat → Option Value} (hs : SUP τ F) {xa nw gn pa lz : Nat} {ln gl : Nat → Nat} {cu nx G : Nat} (hxa : τ xa = some (0, 9)) (ha : AG τ F xa nw gn pa lz ln gl) (hv : VG F gn pa gl cu nx G) (x901 : Int32) : KI l D cy yX9_cut cX9_cut 2 .int (rL 5) τ (pv F (cn Mx τ)) [.ref xa, .int x901] (fun r u => RM τ F pa gl nx cu G u ∧ True) := by
  refine k_metI "EdgeEchoes" rfl (by decide +kernel) (Nat.le_of_ble_eq_true rfl) (fun _ _ _ => rfl) ?_
  intro p e s m args below meth c Q ls X hG hl ret
  have hl : lv_has ls 2 [(0, .ref xa), (1, .int x901)] := hl
  have g901 := cI_rng x901
  refine lv_aload_n X.1 X.2.1 dX9_cut_0 rfl (lv_at hl 0 rfl) ?_
  refine lv_iload_n X.1 X.2.1 dX9_cut_1 rfl (lv_at hl 1 rfl) ?_
  refine n_ic X dX9_cut_2 (by decide) (by decide) (fun x1 t1 => ?_)
  refine k_cVi X hG (e_X9_turnPlace l D cy τ hs hxa ha hv x901 x1) hxa rfl yv_X9_turnPlace q_683 ⟨rfl, rfl⟩ ⟨Nat.le_of_ble_eq_true rfl, Nat.le_of_ble_eq_true rfl⟩ rfl hl.1 rfl (Nat.le_of_ble_eq_true rfl) ⟨Nat.zero_le _, Nat.zero_le _⟩ dX9_cut_3 (fun x3 u4 H locs hG po2 => ?_)
  obtain ⟨eu4, po2⟩ := po2
  have g3 := cI_rng x3
  exact ret _ _ _ _ x3 _ hG ⟨eu4, trivial⟩ dX9_cut_6
set_option maxHeartbeats 4000000 in
set_option maxRecDepth 100000 in
theorem e_X9_brief (l : Launch) (D : va_G) (cy : Nat → ClassId) (τ : ty_T) {F : Nat → Nat → Option Value} (hs : SUP τ F) {xa nw gn pa lz : Nat} {ln gl : Nat → Nat} {cu nx G : Nat} (hxa : τ xa = some (0, 9)) (ha : AG τ F xa nw gn pa lz ln gl) (hv : VG F gn pa gl cu nx G) (x901 : Int32) : KI l D cy yX9_brief cX9_brief 2 .int (rL 5) τ (pv F (cn Mx τ)) [.ref xa, .int x901] (fun r u => RM τ F pa gl nx cu G u ∧ True) := by
  refine k_metI "EdgeEchoes" rfl (by decide +kernel) (Nat.le_of_ble_eq_true rfl) (fun _ _ _ => rfl) ?_
  intro p e s m args below meth c Q ls X hG hl ret
  have hl : lv_has ls 2 [(0, .ref xa), (1, .int x901)] := hl
  have g901 := cI_rng x901
  refine lv_aload_n X.1 X.2.1 dX9_brief_0 rfl (lv_at hl 0 rfl) ?_
  refine lv_iload_n X.1 X.2.1 dX9_brief_1 rfl (lv_at hl 1 rfl) ?_
  refine n_ic X dX9_brief_2 (by decide) (by decide) (fun x1 t1 => ?_)
  refine k_cVi X hG (e_X9_turnPlace l D cy τ hs hxa ha hv x901 x1) hxa rfl yv_X9_turnPlace q_683 ⟨rfl, rfl⟩ ⟨Nat.le_of_ble_eq_true rfl, Nat.le_of_ble_eq_true rfl⟩ rfl hl.1 rfl (Nat.le_of_ble_eq_true rfl) ⟨Nat.zero_le _, Nat.zero_le _⟩ dX9_brief_3 (fun x3 u4 H locs hG po2 => ?_)
  obtain ⟨eu4, po2⟩ := po2
  have g3 := cI_rng x3
  exact ret _ _ _ _ x3 _ hG ⟨eu4, trivial⟩ dX9_brief_6
set_option maxHeartbeats 4000000 in
set_option maxRecDepth 100000 in
theorem e_X9_mend (l : Launch) (D : va_G) (cy : Nat → ClassId) (τ : ty_T) {F : Nat → Nat → Option Value} (hs : SUP τ F) {xa nw gn pa lz : Nat} {ln gl : Nat → Nat} {cu nx G : Nat} (hxa : τ xa = some (0, 9)) (ha : AG τ F xa nw gn pa lz ln gl) (hv : VG F gn pa gl cu nx G) (x901 : Int32) : KI l D cy yX9_mend cX9_mend 2 .int (rL 5) τ (pv F (cn Mx τ)) [.ref xa, .int x901] (fun r u => RM τ F pa gl nx cu G u ∧ True) := by
  refine k_metI "EdgeEchoes" rfl (by decide +kernel) (Nat.le_of_ble_eq_true rfl) (fun _ _ _ => rfl) ?_
  intro p e s m args below meth c Q ls X hG hl ret
  have hl : lv_has ls 2 [(0, .ref xa), (1, .int x901)] := hl
  have g901 := cI_rng x901
  refine lv_aload_n X.1 X.2.1 dX9_mend_0 rfl (lv_at hl 0 rfl) ?_
  refine lv_iload_n X.1 X.2.1 dX9_mend_1 rfl (lv_at hl 1 rfl) ?_
  refine n_ic X dX9_mend_2 (by decide) (by decide) (fun x1 t1 => ?_)
  refine k_cVi X hG (e_X9_turnPlace l D cy τ hs hxa ha hv x901 x1) hxa rfl yv_X9_turnPlace q_683 ⟨rfl, rfl⟩ ⟨Nat.le_of_ble_eq_true rfl, Nat.le_of_ble_eq_true rfl⟩ rfl hl.1 rfl (Nat.le_of_ble_eq_true rfl) ⟨Nat.zero_le _, Nat.zero_le _⟩ dX9_mend_3 (fun x3 u4 H locs hG po2 => ?_)
  obtain ⟨eu4, po2⟩ := po2
  have g3 := cI_rng x3
  exact ret _ _ _ _ x3 _ hG ⟨eu4, trivial⟩ dX9_mend_6
set_option maxHeartbeats 4000000 in
set_option maxRecDepth 100000 in
theorem e_X9_piece (l : Launch) (D : va_G) (cy : Nat → ClassId) (τ : ty_T) {F : Nat → Nat → Option Value} (hs : SUP τ F) {xa nw gn pa lz : Nat} {ln gl : Nat → Nat} {cu nx G : Nat} (hxa : τ xa = some (0, 9)) (ha : AG τ F xa nw gn pa lz ln gl) (hv : VG F gn pa gl cu nx G) (x901 : Int32) (x902 : Int32) : KI l D cy yX9_piece cX9_piece 4 .int (rL 4) τ (pv F (cn Mx τ)) [.ref xa, .int x901, .int x902] (fun r u => RM τ F pa gl nx cu G u ∧ True) := by
  refine k_metI "EdgeEchoes" rfl (by decide +kernel) (Nat.le_of_ble_eq_true rfl) (fun _ _ _ => rfl) ?_
  intro p e s m args below meth c Q ls X hG hl ret
  have hl : lv_has ls 4 [(0, .ref xa), (1, .int x901), (2, .int x902)] := hl
  obtain ⟨hnw, hgn, hpa, hlz, hk, fnw, fpa, fgn, flz, fk⟩ := id ha
  have hN : ty_N τ (pv F (cn Mx τ)) := pv_N cn_N
  have hR : ty_Rg Mx τ (pv F (cn Mx τ)) := pv_R cn_R
  have hF : ty_Wf Mx τ (pv F (cn Mx τ)) [302, 303, 806, 807, 808, 809, 810, 811, 812, 5000, 6005] := sup_F hs (by decide)
  have hs2 := sup_rem hs ha hv
  obtain ⟨ρ2, eρ⟩ : ∃ r : ty_R, r = pv (remF F pa gl nx cu G) (cn Mx τ) := ⟨_, rfl⟩
  have hN2 : ty_N τ ρ2 := by rw [eρ]; exact pv_N cn_N
  have hR2 : ty_Rg Mx τ ρ2 := by rw [eρ]; exact pv_R cn_R
  have hF2 : ty_Wf Mx τ ρ2 [302, 303, 806, 807, 808, 809, 810, 811, 812, 5000, 6005] := by rw [eρ]; exact sup_F hs2 (by decide)
  have g901 := cI_rng x901
  have g902 := cI_rng x902
  refine lv_aload_n X.1 X.2.1 dX9_piece_0 rfl (lv_at hl 0 rfl) ?_
  refine gf_9_1 X hG hxa q_296 dX9_piece_1 (hN _ _ _ hxa) (fun a1 h1 r1 => ?_)
  refine gf_3_0 X hG h1 q_165 dX9_piece_4 (hN _ _ _ h1) (fun a2 h2 r2 => ?_)
  refine lv_iload_n X.1 X.2.1 dX9_piece_7 rfl (lv_at hl 1 rfl) ?_
  refine k_cVi X hG (c_X8_hasPiece l D cy τ _ hN hR (ty_Wf.sub (S' := []) hF (by decide)) h2 x901) h2 rfl yv_X8_hasPiece q_608 ⟨rfl, rfl⟩ ⟨Nat.le_of_ble_eq_true rfl, Nat.le_of_ble_eq_true rfl⟩ rfl hl.1 rfl (Nat.le_of_ble_eq_true rfl) ⟨Nat.zero_le _, Nat.zero_le _⟩ dX9_piece_8 (fun x4 u5 H locs hG po3 => ?_)
  obtain ⟨eu5, po3⟩ := po3
  rw [eu5] at hG
  refine n_if_ne (tgt := 17) X dX9_piece_11 (by decide) (fun c6 => ?_) (fun c6 => ?_)
  · refine lv_iload_n X.1 X.2.1 dX9_piece_17 rfl (lv_at hl 2 rfl) ?_
    refine n_ic X dX9_piece_18 (by decide) (by decide) (fun x7 t7 => ?_)
    refine n_icmp_lt (tgt := 28) X dX9_piece_19 (by decide) (fun c8 => ?_) (fun c8 => ?_)
    · refine n_ldc X q_327 (n := -1000000002) (by decide +kernel) dX9_piece_28 (fun x9 t9 => ?_)
      exact ret _ _ _ _ x9 _ hG ⟨Or.inl rfl, trivial⟩ dX9_piece_30
    · refine lv_iload_n X.1 X.2.1 dX9_piece_22 rfl (lv_at hl 2 rfl) ?_
      refine n_bp X dX9_piece_23 (by decide) (by decide) (fun x10 t10 => ?_)
      refine n_icmp_le (tgt := 31) X dX9_piece_25 (by decide) (fun c11 => ?_) (fun c11 => ?_)
      · refine lv_aload_n X.1 X.2.1 dX9_piece_31 rfl (lv_at hl 0 rfl) ?_
        refine gf_9_3 X hG hxa q_298 dX9_piece_32 (hN _ _ _ hxa) (fun a12 h12 r12 => ?_)
        refine lv_aload_n X.1 X.2.1 dX9_piece_35 rfl (lv_at hl 0 rfl) ?_
        refine gf_9_1 X hG hxa q_296 dX9_piece_36 (hN _ _ _ hxa) (fun a13 h13 r13 => ?_)
        have e12 := pv_rd r12 fpa
        cases e12
        have e13 := pv_rd r13 fnw
        cases e13
        refine k_cVv X hG (e_X4_remember l D cy τ hs ha hv) h12 rfl yv_X4_remember q_668 ⟨rfl, rfl⟩ ⟨Nat.le_of_ble_eq_true rfl, Nat.le_of_ble_eq_true rfl⟩ rfl hl.1 rfl (Nat.le_of_ble_eq_true rfl) ⟨Nat.zero_le _, Nat.zero_le _⟩ dX9_piece_39 (fun u16 H locs hG po14 => ?_)
        rw [po14, ← eρ] at hG
        refine lv_aload_n X.1 X.2.1 dX9_piece_42 rfl (lv_at hl 0 rfl) ?_
        refine gf_9_1 X hG hxa q_296 dX9_piece_43 (hN2 _ _ _ hxa) (fun a17 h17 r17 => ?_)
        refine gf_3_0 X hG h17 q_165 dX9_piece_46 (hN2 _ _ _ h17) (fun a18 h18 r18 => ?_)
        refine gf_8_0 X hG h18 q_66 dX9_piece_49 (hN2 _ _ _ h18) (fun a19 h19 r19 => ?_)
        refine lv_iload_n X.1 X.2.1 dX9_piece_52 rfl (lv_at hl 1 rfl) ?_
        refine tg_iald X hG h19 rfl (cI_in (n := 8) (by omega)) dX9_piece_53 (fun x20 r20 => ?_)
        refine lv_istore_n (lv' := [(3, .int x20), (0, .ref xa), (1, .int x901), (2, .int x902)]) X.1 X.2.1 dX9_piece_54 rfl hl (by decide) rfl (fun ls hl => ?_)
        refine lv_aload_n X.1 X.2.1 dX9_piece_55 rfl (lv_at hl 1 rfl) ?_
        refine gf_9_1 X hG hxa q_296 dX9_piece_56 (hN2 _ _ _ hxa) (fun a21 h21 r21 => ?_)
        refine gf_3_0 X hG h21 q_165 dX9_piece_59 (hN2 _ _ _ h21) (fun a22 h22 r22 => ?_)
        refine lv_iload_n X.1 X.2.1 dX9_piece_62 rfl (lv_at hl 2 rfl) ?_
        refine lv_iload_n X.1 X.2.1 dX9_piece_63 rfl (lv_at hl 3 rfl) ?_
        refine k_cVv X hG (c_X8_changePiece l D cy τ _ hN2 hR2 (ty_Wf.sub (S' := [5000]) hF2 (by decide)) h22 x901 x902) h22 rfl yv_X8_changePiece q_699 ⟨rfl, rfl⟩ ⟨Nat.le_of_ble_eq_true rfl, Nat.le_of_ble_eq_true rfl⟩ rfl hl.1 rfl (Nat.le_of_ble_eq_true rfl) ⟨Nat.zero_le _, Nat.zero_le _⟩ dX9_piece_64 (fun u25 H locs hG po23 => ?_)
        rw [po23] at hG
        refine lv_iload_n X.1 X.2.1 dX9_piece_67 rfl (lv_at hl 0 rfl) ?_
        exact ret _ _ _ _ x20 _ hG ⟨Or.inr eρ, trivial⟩ dX9_piece_68
      · refine n_ldc X q_327 (n := -1000000002) (by decide +kernel) dX9_piece_28 (fun x26 t26 => ?_)
        exact ret _ _ _ _ x26 _ hG ⟨Or.inl rfl, trivial⟩ dX9_piece_30
  · refine n_ldc X q_609 (n := -1000000001) (by decide +kernel) dX9_piece_14 (fun x27 t27 => ?_)
    exact ret _ _ _ _ x27 _ hG ⟨Or.inl rfl, trivial⟩ dX9_piece_16
set_option maxHeartbeats 4000000 in
set_option maxRecDepth 100000 in
theorem e_X9_end (l : Launch) (D : va_G) (cy : Nat → ClassId) (τ : ty_T) {F : Nat → Nat → Option Value} (hs : SUP τ F) {xa nw gn pa lz : Nat} {ln gl : Nat → Nat} {cu nx G : Nat} (hxa : τ xa = some (0, 9)) (ha : AG τ F xa nw gn pa lz ln gl) (hv : VG F gn pa gl cu nx G) (x901 : Int32) (x902 : Int32) : KI l D cy yX9_end cX9_end 4 .int (rL 4) τ (pv F (cn Mx τ)) [.ref xa, .int x901, .int x902] (fun r u => RM τ F pa gl nx cu G u ∧ True) := by
  refine k_metI "EdgeEchoes" rfl (by decide +kernel) (Nat.le_of_ble_eq_true rfl) (fun _ _ _ => rfl) ?_
  intro p e s m args below meth c Q ls X hG hl ret
  have hl : lv_has ls 4 [(0, .ref xa), (1, .int x901), (2, .int x902)] := hl
  obtain ⟨hnw, hgn, hpa, hlz, hk, fnw, fpa, fgn, flz, fk⟩ := id ha
  have hN : ty_N τ (pv F (cn Mx τ)) := pv_N cn_N
  have hR : ty_Rg Mx τ (pv F (cn Mx τ)) := pv_R cn_R
  have hF : ty_Wf Mx τ (pv F (cn Mx τ)) [302, 303, 806, 807, 808, 809, 810, 811, 812, 5000, 6005] := sup_F hs (by decide)
  have hs2 := sup_rem hs ha hv
  obtain ⟨ρ2, eρ⟩ : ∃ r : ty_R, r = pv (remF F pa gl nx cu G) (cn Mx τ) := ⟨_, rfl⟩
  have hN2 : ty_N τ ρ2 := by rw [eρ]; exact pv_N cn_N
  have hR2 : ty_Rg Mx τ ρ2 := by rw [eρ]; exact pv_R cn_R
  have hF2 : ty_Wf Mx τ ρ2 [302, 303, 806, 807, 808, 809, 810, 811, 812, 5000, 6005] := by rw [eρ]; exact sup_F hs2 (by decide)
  have g901 := cI_rng x901
  have g902 := cI_rng x902
  refine lv_iload_n X.1 X.2.1 dX9_end_0 rfl (lv_at hl 1 rfl) ?_
  refine n_if_lt (tgt := 25) X dX9_end_1 (by decide) (fun c1 => ?_) (fun c1 => ?_)
  · refine n_ldc X q_327 (n := -1000000002) (by decide +kernel) dX9_end_25 (fun x2 t2 => ?_)
    exact ret _ _ _ _ x2 _ hG ⟨Or.inl rfl, trivial⟩ dX9_end_27
  · refine lv_iload_n X.1 X.2.1 dX9_end_4 rfl (lv_at hl 1 rfl) ?_
    refine n_ic X dX9_end_5 (by decide) (by decide) (fun x3 t3 => ?_)
    refine n_icmp_gt (tgt := 25) X dX9_end_6 (by decide) (fun c4 => ?_) (fun c4 => ?_)
    · refine n_ldc X q_327 (n := -1000000002) (by decide +kernel) dX9_end_25 (fun x5 t5 => ?_)
      exact ret _ _ _ _ x5 _ hG ⟨Or.inl rfl, trivial⟩ dX9_end_27
    · refine lv_iload_n X.1 X.2.1 dX9_end_9 rfl (lv_at hl 1 rfl) ?_
      refine n_ic X dX9_end_10 (by decide) (by decide) (fun x6 t6 => ?_)
      have J28 : ∀ (H : Heap) (locs : List Loc) (ls : Array Slot), TG D cy τ (pv F (cn Mx τ)) (ty_d τ) s.heap H locs → lv_has ls 4 [(0, .ref xa), (1, .int x901), (2, .int x902)] → W p l e (rL 4) s m args below meth c H locs 0 0 Q (F0 m 28 ls []) := by
        intro H locs ls hG hl
        refine lv_aload_n X.1 X.2.1 dX9_end_28 rfl (lv_at hl 0 rfl) ?_
        refine gf_9_1 X hG hxa q_296 dX9_end_29 (hN _ _ _ hxa) (fun a7 h7 r7 => ?_)
        refine gf_3_2 X hG h7 q_173 dX9_end_32 (fun x8 b8 r8 => ?_)
        refine n_if_ne (tgt := 41) X dX9_end_35 (by decide) (fun c9 => ?_) (fun c9 => ?_)
        · refine lv_aload_n X.1 X.2.1 dX9_end_41 rfl (lv_at hl 0 rfl) ?_
          refine gf_9_3 X hG hxa q_298 dX9_end_42 (hN _ _ _ hxa) (fun a10 h10 r10 => ?_)
          refine lv_aload_n X.1 X.2.1 dX9_end_45 rfl (lv_at hl 0 rfl) ?_
          refine gf_9_1 X hG hxa q_296 dX9_end_46 (hN _ _ _ hxa) (fun a11 h11 r11 => ?_)
          have e10 := pv_rd r10 fpa
          cases e10
          have e11 := pv_rd r11 fnw
          cases e11
          refine k_cVv X hG (e_X4_remember l D cy τ hs ha hv) h10 rfl yv_X4_remember q_668 ⟨rfl, rfl⟩ ⟨Nat.le_of_ble_eq_true rfl, Nat.le_of_ble_eq_true rfl⟩ rfl hl.1 rfl (Nat.le_of_ble_eq_true rfl) ⟨Nat.zero_le _, Nat.zero_le _⟩ dX9_end_49 (fun u14 H locs hG po12 => ?_)
          rw [po12, ← eρ] at hG
          refine lv_aload_n X.1 X.2.1 dX9_end_52 rfl (lv_at hl 0 rfl) ?_
          refine gf_9_1 X hG hxa q_296 dX9_end_53 (hN2 _ _ _ hxa) (fun a15 h15 r15 => ?_)
          refine gf_3_0 X hG h15 q_165 dX9_end_56 (hN2 _ _ _ h15) (fun a16 h16 r16 => ?_)
          refine gf_8_10 X hG h16 q_92 dX9_end_59 (fun x17 r17 => ?_)
          have g17 := cI_rng x17
          refine lv_istore_n (lv' := [(3, .int x17), (0, .ref xa), (1, .int x901), (2, .int x902)]) X.1 X.2.1 dX9_end_62 rfl hl (by decide) rfl (fun ls hl => ?_)
          refine lv_aload_n X.1 X.2.1 dX9_end_63 rfl (lv_at hl 1 rfl) ?_
          refine gf_9_1 X hG hxa q_296 dX9_end_64 (hN2 _ _ _ hxa) (fun a18 h18 r18 => ?_)
          refine gf_3_0 X hG h18 q_165 dX9_end_67 (hN2 _ _ _ h18) (fun a19 h19 r19 => ?_)
          refine lv_iload_n X.1 X.2.1 dX9_end_70 rfl (lv_at hl 2 rfl) ?_
          refine lv_iload_n X.1 X.2.1 dX9_end_71 rfl (lv_at hl 3 rfl) ?_
          refine k_cVv X hG (c_X8_changeEnd l D cy τ _ hN2 hR2 (ty_Wf.sub (S' := [810, 811]) hF2 (by decide)) h19 x901 x902) h19 rfl yv_X8_changeEnd q_704 ⟨rfl, rfl⟩ ⟨Nat.le_of_ble_eq_true rfl, Nat.le_of_ble_eq_true rfl⟩ rfl hl.1 rfl (Nat.le_of_ble_eq_true rfl) ⟨Nat.zero_le _, Nat.zero_le _⟩ dX9_end_72 (fun u22 H locs hG po20 => ?_)
          rw [po20] at hG
          refine lv_iload_n X.1 X.2.1 dX9_end_75 rfl (lv_at hl 0 rfl) ?_
          exact ret _ _ _ _ x17 _ hG ⟨Or.inr eρ, trivial⟩ dX9_end_76
        · refine n_ldc X q_666 (n := -1000000003) (by decide +kernel) dX9_end_38 (fun x23 t23 => ?_)
          exact ret _ _ _ _ x23 _ hG ⟨Or.inl rfl, trivial⟩ dX9_end_40
      refine n_icmp_ne (tgt := 28) X dX9_end_11 (by decide) (fun c24 => ?_) (fun c24 => ?_)
      · exact J28 _ _ _  hG (lv_sub hl [0, 1, 2] rfl)
      · refine lv_iload_n X.1 X.2.1 dX9_end_14 rfl (lv_at hl 2 rfl) ?_
        refine n_ic X dX9_end_15 (by decide) (by decide) (fun x25 t25 => ?_)
        refine n_icmp_lt (tgt := 25) X dX9_end_16 (by decide) (fun c26 => ?_) (fun c26 => ?_)
        · refine n_ldc X q_327 (n := -1000000002) (by decide +kernel) dX9_end_25 (fun x27 t27 => ?_)
          exact ret _ _ _ _ x27 _ hG ⟨Or.inl rfl, trivial⟩ dX9_end_27
        · refine lv_iload_n X.1 X.2.1 dX9_end_19 rfl (lv_at hl 2 rfl) ?_
          refine n_bp X dX9_end_20 (by decide) (by decide) (fun x28 t28 => ?_)
          refine n_icmp_le (tgt := 28) X dX9_end_22 (by decide) (fun c29 => ?_) (fun c29 => ?_)
          · exact J28 _ _ _  hG (lv_sub hl [0, 1, 2] rfl)
          · refine n_ldc X q_327 (n := -1000000002) (by decide +kernel) dX9_end_25 (fun x30 t30 => ?_)
            exact ret _ _ _ _ x30 _ hG ⟨Or.inl rfl, trivial⟩ dX9_end_27
set_option maxHeartbeats 4000000 in
set_option maxRecDepth 100000 in
theorem e_X9_ohms (l : Launch) (D : va_G) (cy : Nat → ClassId) (τ : ty_T) {F : Nat → Nat → Option Value} (hs : SUP τ F) {xa nw gn pa lz : Nat} {ln gl : Nat → Nat} {cu nx G : Nat} (hxa : τ xa = some (0, 9)) (ha : AG τ F xa nw gn pa lz ln gl) (hv : VG F gn pa gl cu nx G) (x901 : Int32) : KI l D cy yX9_ohms cX9_ohms 3 .int (rL 4) τ (pv F (cn Mx τ)) [.ref xa, .int x901] (fun r u => RM τ F pa gl nx cu G u ∧ True) := by
  refine k_metI "EdgeEchoes" rfl (by decide +kernel) (Nat.le_of_ble_eq_true rfl) (fun _ _ _ => rfl) ?_
  intro p e s m args below meth c Q ls X hG hl ret
  have hl : lv_has ls 3 [(0, .ref xa), (1, .int x901)] := hl
  obtain ⟨hnw, hgn, hpa, hlz, hk, fnw, fpa, fgn, flz, fk⟩ := id ha
  have hN : ty_N τ (pv F (cn Mx τ)) := pv_N cn_N
  have hR : ty_Rg Mx τ (pv F (cn Mx τ)) := pv_R cn_R
  have hF : ty_Wf Mx τ (pv F (cn Mx τ)) [302, 303, 806, 807, 808, 809, 810, 811, 812, 5000, 6005] := sup_F hs (by decide)
  have hs2 := sup_rem hs ha hv
  obtain ⟨ρ2, eρ⟩ : ∃ r : ty_R, r = pv (remF F pa gl nx cu G) (cn Mx τ) := ⟨_, rfl⟩
  have hN2 : ty_N τ ρ2 := by rw [eρ]; exact pv_N cn_N
  have hR2 : ty_Rg Mx τ ρ2 := by rw [eρ]; exact pv_R cn_R
  have hF2 : ty_Wf Mx τ ρ2 [302, 303, 806, 807, 808, 809, 810, 811, 812, 5000, 6005] := by rw [eρ]; exact sup_F hs2 (by decide)
  have g901 := cI_rng x901
  refine lv_iload_n X.1 X.2.1 dX9_ohms_0 rfl (lv_at hl 1 rfl) ?_
  refine n_if_lt (tgt := 10) X dX9_ohms_1 (by decide) (fun c1 => ?_) (fun c1 => ?_)
  · refine n_ldc X q_327 (n := -1000000002) (by decide +kernel) dX9_ohms_10 (fun x2 t2 => ?_)
    exact ret _ _ _ _ x2 _ hG ⟨Or.inl rfl, trivial⟩ dX9_ohms_12
  · refine lv_iload_n X.1 X.2.1 dX9_ohms_4 rfl (lv_at hl 1 rfl) ?_
    refine n_bp X dX9_ohms_5 (by decide) (by decide) (fun x3 t3 => ?_)
    refine n_icmp_le (tgt := 13) X dX9_ohms_7 (by decide) (fun c4 => ?_) (fun c4 => ?_)
    · refine lv_aload_n X.1 X.2.1 dX9_ohms_13 rfl (lv_at hl 0 rfl) ?_
      refine gf_9_1 X hG hxa q_296 dX9_ohms_14 (hN _ _ _ hxa) (fun a5 h5 r5 => ?_)
      refine gf_3_2 X hG h5 q_173 dX9_ohms_17 (fun x6 b6 r6 => ?_)
      refine n_if_ne (tgt := 26) X dX9_ohms_20 (by decide) (fun c7 => ?_) (fun c7 => ?_)
      · refine lv_aload_n X.1 X.2.1 dX9_ohms_26 rfl (lv_at hl 0 rfl) ?_
        refine gf_9_3 X hG hxa q_298 dX9_ohms_27 (hN _ _ _ hxa) (fun a8 h8 r8 => ?_)
        refine lv_aload_n X.1 X.2.1 dX9_ohms_30 rfl (lv_at hl 0 rfl) ?_
        refine gf_9_1 X hG hxa q_296 dX9_ohms_31 (hN _ _ _ hxa) (fun a9 h9 r9 => ?_)
        have e8 := pv_rd r8 fpa
        cases e8
        have e9 := pv_rd r9 fnw
        cases e9
        refine k_cVv X hG (e_X4_remember l D cy τ hs ha hv) h8 rfl yv_X4_remember q_668 ⟨rfl, rfl⟩ ⟨Nat.le_of_ble_eq_true rfl, Nat.le_of_ble_eq_true rfl⟩ rfl hl.1 rfl (Nat.le_of_ble_eq_true rfl) ⟨Nat.zero_le _, Nat.zero_le _⟩ dX9_ohms_34 (fun u12 H locs hG po10 => ?_)
        rw [po10, ← eρ] at hG
        refine lv_aload_n X.1 X.2.1 dX9_ohms_37 rfl (lv_at hl 0 rfl) ?_
        refine gf_9_1 X hG hxa q_296 dX9_ohms_38 (hN2 _ _ _ hxa) (fun a13 h13 r13 => ?_)
        refine gf_3_0 X hG h13 q_165 dX9_ohms_41 (hN2 _ _ _ h13) (fun a14 h14 r14 => ?_)
        refine gf_8_8 X hG h14 q_85 dX9_ohms_44 (fun x15 r15 => ?_)
        have g15 := cI_rng x15
        refine lv_istore_n (lv' := [(2, .int x15), (0, .ref xa), (1, .int x901)]) X.1 X.2.1 dX9_ohms_47 rfl hl (by decide) rfl (fun ls hl => ?_)
        refine lv_aload_n X.1 X.2.1 dX9_ohms_48 rfl (lv_at hl 1 rfl) ?_
        refine gf_9_1 X hG hxa q_296 dX9_ohms_49 (hN2 _ _ _ hxa) (fun a16 h16 r16 => ?_)
        refine gf_3_0 X hG h16 q_165 dX9_ohms_52 (hN2 _ _ _ h16) (fun a17 h17 r17 => ?_)
        refine lv_iload_n X.1 X.2.1 dX9_ohms_55 rfl (lv_at hl 2 rfl) ?_
        refine pf_8_8 X hG h17 q_85 dX9_ohms_56 (hF2 _ _ _ _ h17 (ty_in (n := 808) rfl) (ty_rno rfl)) (fun H locs hG => ?_)
        refine lv_iload_n X.1 X.2.1 dX9_ohms_59 rfl (lv_at hl 0 rfl) ?_
        exact ret _ _ _ _ x15 _ hG ⟨Or.inr eρ, trivial⟩ dX9_ohms_60
      · refine n_ldc X q_666 (n := -1000000003) (by decide +kernel) dX9_ohms_23 (fun x18 t18 => ?_)
        exact ret _ _ _ _ x18 _ hG ⟨Or.inl rfl, trivial⟩ dX9_ohms_25
    · refine n_ldc X q_327 (n := -1000000002) (by decide +kernel) dX9_ohms_10 (fun x19 t19 => ?_)
      exact ret _ _ _ _ x19 _ hG ⟨Or.inl rfl, trivial⟩ dX9_ohms_12
set_option maxHeartbeats 4000000 in
set_option maxRecDepth 100000 in
theorem e_X9_quiet (l : Launch) (D : va_G) (cy : Nat → ClassId) (τ : ty_T) {F : Nat → Nat → Option Value} (hs : SUP τ F) {xa nw gn pa lz : Nat} {ln gl : Nat → Nat} {cu nx G : Nat} (hxa : τ xa = some (0, 9)) (ha : AG τ F xa nw gn pa lz ln gl) (hv : VG F gn pa gl cu nx G) : KI l D cy yX9_quiet cX9_quiet 2 .int (rL 4) τ (pv F (cn Mx τ)) [.ref xa] (fun r u => RM τ F pa gl nx cu G u ∧ True) := by
  refine k_metI "EdgeEchoes" rfl (by decide +kernel) (Nat.le_of_ble_eq_true rfl) (fun _ _ _ => rfl) ?_
  intro p e s m args below meth c Q ls X hG hl ret
  have hl : lv_has ls 2 [(0, .ref xa)] := hl
  obtain ⟨hnw, hgn, hpa, hlz, hk, fnw, fpa, fgn, flz, fk⟩ := id ha
  have hN : ty_N τ (pv F (cn Mx τ)) := pv_N cn_N
  have hR : ty_Rg Mx τ (pv F (cn Mx τ)) := pv_R cn_R
  have hF : ty_Wf Mx τ (pv F (cn Mx τ)) [302, 303, 806, 807, 808, 809, 810, 811, 812, 5000, 6005] := sup_F hs (by decide)
  have hs2 := sup_rem hs ha hv
  obtain ⟨ρ2, eρ⟩ : ∃ r : ty_R, r = pv (remF F pa gl nx cu G) (cn Mx τ) := ⟨_, rfl⟩
  have hN2 : ty_N τ ρ2 := by rw [eρ]; exact pv_N cn_N
  have hR2 : ty_Rg Mx τ ρ2 := by rw [eρ]; exact pv_R cn_R
  have hF2 : ty_Wf Mx τ ρ2 [302, 303, 806, 807, 808, 809, 810, 811, 812, 5000, 6005] := by rw [eρ]; exact sup_F hs2 (by decide)
  refine lv_aload_n X.1 X.2.1 dX9_quiet_0 rfl (lv_at hl 0 rfl) ?_
  refine gf_9_1 X hG hxa q_296 dX9_quiet_1 (hN _ _ _ hxa) (fun a1 h1 r1 => ?_)
  refine gf_3_2 X hG h1 q_173 dX9_quiet_4 (fun x2 b2 r2 => ?_)
  refine n_if_ne (tgt := 13) X dX9_quiet_7 (by decide) (fun c3 => ?_) (fun c3 => ?_)
  · refine lv_aload_n X.1 X.2.1 dX9_quiet_13 rfl (lv_at hl 0 rfl) ?_
    refine gf_9_3 X hG hxa q_298 dX9_quiet_14 (hN _ _ _ hxa) (fun a4 h4 r4 => ?_)
    refine lv_aload_n X.1 X.2.1 dX9_quiet_17 rfl (lv_at hl 0 rfl) ?_
    refine gf_9_1 X hG hxa q_296 dX9_quiet_18 (hN _ _ _ hxa) (fun a5 h5 r5 => ?_)
    have e4 := pv_rd r4 fpa
    cases e4
    have e5 := pv_rd r5 fnw
    cases e5
    refine k_cVv X hG (e_X4_remember l D cy τ hs ha hv) h4 rfl yv_X4_remember q_668 ⟨rfl, rfl⟩ ⟨Nat.le_of_ble_eq_true rfl, Nat.le_of_ble_eq_true rfl⟩ rfl hl.1 rfl (Nat.le_of_ble_eq_true rfl) ⟨Nat.zero_le _, Nat.zero_le _⟩ dX9_quiet_21 (fun u8 H locs hG po6 => ?_)
    rw [po6, ← eρ] at hG
    refine lv_aload_n X.1 X.2.1 dX9_quiet_24 rfl (lv_at hl 0 rfl) ?_
    refine gf_9_1 X hG hxa q_296 dX9_quiet_25 (hN2 _ _ _ hxa) (fun a9 h9 r9 => ?_)
    refine gf_3_1 X hG h9 q_168 dX9_quiet_28 (hN2 _ _ _ h9) (fun a10 h10 r10 => ?_)
    refine k_cVi X hG (c_X1_allEdges l D cy τ _ hN2 hR2 (ty_Wf.sub (S' := []) hF2 (by decide)) h10) h10 rfl yv_X1_allEdges q_713 ⟨rfl, rfl⟩ ⟨Nat.le_of_ble_eq_true rfl, Nat.le_of_ble_eq_true rfl⟩ rfl hl.1 rfl (Nat.le_of_ble_eq_true rfl) ⟨Nat.zero_le _, Nat.zero_le _⟩ dX9_quiet_31 (fun x12 u13 H locs hG po11 => ?_)
    obtain ⟨eu13, po11⟩ := po11
    rw [eu13] at hG
    have g12 := cI_rng x12
    refine lv_istore_n (lv' := [(1, .int x12), (0, .ref xa)]) X.1 X.2.1 dX9_quiet_34 rfl hl (by decide) rfl (fun ls hl => ?_)
    refine lv_aload_n X.1 X.2.1 dX9_quiet_35 rfl (lv_at hl 1 rfl) ?_
    refine gf_9_1 X hG hxa q_296 dX9_quiet_36 (hN2 _ _ _ hxa) (fun a14 h14 r14 => ?_)
    refine k_cVv X hG (c_X3_calm l D cy τ _ hN2 hR2 (ty_Wf.sub (S' := [5000]) hF2 (by decide)) h14) h14 rfl yv_X3_calm q_717 ⟨rfl, rfl⟩ ⟨Nat.le_of_ble_eq_true rfl, Nat.le_of_ble_eq_true rfl⟩ rfl hl.1 rfl (Nat.le_of_ble_eq_true rfl) ⟨Nat.zero_le _, Nat.zero_le _⟩ dX9_quiet_39 (fun u17 H locs hG po15 => ?_)
    rw [po15] at hG
    refine lv_iload_n X.1 X.2.1 dX9_quiet_42 rfl (lv_at hl 0 rfl) ?_
    exact ret _ _ _ _ x12 _ hG ⟨Or.inr eρ, trivial⟩ dX9_quiet_43
  · refine n_ldc X q_666 (n := -1000000003) (by decide +kernel) dX9_quiet_10 (fun x18 t18 => ?_)
    exact ret _ _ _ _ x18 _ hG ⟨Or.inl rfl, trivial⟩ dX9_quiet_12
set_option maxHeartbeats 4000000 in
set_option maxRecDepth 100000 in
theorem e_X9_drift (l : Launch) (D : va_G) (cy : Nat → ClassId) (τ : ty_T) {F : Nat → Nat → Option Value} (hs : SUP τ F) {xa nw gn pa lz : Nat} {ln gl : Nat → Nat} {cu nx G : Nat} (hxa : τ xa = some (0, 9)) (ha : AG τ F xa nw gn pa lz ln gl) (hv : VG F gn pa gl cu nx G) (x901 : Int32) : KI l D cy yX9_drift cX9_drift 4 .int (rL 6) τ (pv F (cn Mx τ)) [.ref xa, .int x901] (fun r u => RM τ F pa gl nx cu G u ∧ True) := by
  refine k_metI "EdgeEchoes" rfl (by decide +kernel) (Nat.le_of_ble_eq_true rfl) (fun _ _ _ => rfl) ?_
  intro p e s m args below meth c Q ls X hG hl ret
  have hl : lv_has ls 4 [(0, .ref xa), (1, .int x901)] := hl
  obtain ⟨hnw, hgn, hpa, hlz, hk, fnw, fpa, fgn, flz, fk⟩ := id ha
  have hN : ty_N τ (pv F (cn Mx τ)) := pv_N cn_N
  have hR : ty_Rg Mx τ (pv F (cn Mx τ)) := pv_R cn_R
  have hF : ty_Wf Mx τ (pv F (cn Mx τ)) [302, 303, 806, 807, 808, 809, 810, 811, 812, 908, 5000, 6005] := sup_F hs (by decide)
  have hs2 := sup_rem hs ha hv
  obtain ⟨ρ2, eρ⟩ : ∃ r : ty_R, r = pv (remF F pa gl nx cu G) (cn Mx τ) := ⟨_, rfl⟩
  have hN2 : ty_N τ ρ2 := by rw [eρ]; exact pv_N cn_N
  have hR2 : ty_Rg Mx τ ρ2 := by rw [eρ]; exact pv_R cn_R
  have hF2 : ty_Wf Mx τ ρ2 [302, 303, 806, 807, 808, 809, 810, 811, 812, 908, 5000, 6005] := by rw [eρ]; exact sup_F hs2 (by decide)
  have g901 := cI_rng x901
  refine lv_aload_n X.1 X.2.1 dX9_drift_0 rfl (lv_at hl 0 rfl) ?_
  refine lv_iload_n X.1 X.2.1 dX9_drift_1 rfl (lv_at hl 1 rfl) ?_
  refine k_cVi X hG (c_X9_refusalToPass l D cy τ _ hN hR (ty_Wf.sub (S' := []) hF (by decide)) hxa x901) hxa rfl yv_X9_refusalToPass q_662 ⟨rfl, rfl⟩ ⟨Nat.le_of_ble_eq_true rfl, Nat.le_of_ble_eq_true rfl⟩ rfl hl.1 rfl (Nat.le_of_ble_eq_true rfl) ⟨Nat.zero_le _, Nat.zero_le _⟩ dX9_drift_2 (fun x2 u3 H locs hG po1 => ?_)
  obtain ⟨eu3, po1⟩ := po1
  rw [eu3] at hG
  have g2 := cI_rng x2
  refine lv_istore_n (lv' := [(2, .int x2), (0, .ref xa), (1, .int x901)]) X.1 X.2.1 dX9_drift_5 rfl hl (by decide) rfl (fun ls hl => ?_)
  refine lv_iload_n X.1 X.2.1 dX9_drift_6 rfl (lv_at hl 0 rfl) ?_
  refine n_if_eq (tgt := 12) X dX9_drift_7 (by decide) (fun c4 => ?_) (fun c4 => ?_)
  · refine lv_aload_n X.1 X.2.1 dX9_drift_12 rfl (lv_at hl 1 rfl) ?_
    refine gf_9_3 X hG hxa q_298 dX9_drift_13 (hN _ _ _ hxa) (fun a5 h5 r5 => ?_)
    refine lv_aload_n X.1 X.2.1 dX9_drift_16 rfl (lv_at hl 1 rfl) ?_
    refine gf_9_1 X hG hxa q_296 dX9_drift_17 (hN _ _ _ hxa) (fun a6 h6 r6 => ?_)
    have e5 := pv_rd r5 fpa
    cases e5
    have e6 := pv_rd r6 fnw
    cases e6
    refine k_cVv X hG (e_X4_remember l D cy τ hs ha hv) h5 rfl yv_X4_remember q_668 ⟨rfl, rfl⟩ ⟨Nat.le_of_ble_eq_true rfl, Nat.le_of_ble_eq_true rfl⟩ rfl hl.1 rfl (Nat.le_of_ble_eq_true rfl) ⟨Nat.zero_le _, Nat.zero_le _⟩ dX9_drift_20 (fun u9 H locs hG po7 => ?_)
    rw [po7, ← eρ] at hG
    refine n_ic X dX9_drift_23 (by decide) (by decide) (fun x10 t10 => ?_)
    refine lv_istore_n (lv' := [(3, .int x10), (2, .int x2), (0, .ref xa), (1, .int x901)]) X.1 X.2.1 dX9_drift_24 rfl hl (by decide) rfl (fun ls hl => ?_)
    have J25 : ∀ (n : Nat) (H : Heap) (locs : List Loc) (ls : Array Slot) (x11 : Int32), (0 ≤ x11.toInt) → (2147483647 - x11.toInt).toNat < n → TG D cy τ ρ2 (ty_d τ) s.heap H locs → lv_has ls 4 [(0, .ref xa), (1, .int x901), (2, .int x2), (3, .int x11)] → W p l e (rL 6) s m args below meth c H locs 0 0 Q (F0 m 25 ls []) := by
      intro n
      induction n with
      | zero => intro H locs ls x11 bx11 hm25 hG hl; exact absurd hm25 (Nat.not_lt_zero _)
      | succ n ih25 =>
        intro H locs ls x11 bx11 hm25 hG hl
        have gx11 := cI_rng x11
        refine lv_iload_n X.1 X.2.1 dX9_drift_25 rfl (lv_at hl 3 rfl) ?_
        refine lv_iload_n X.1 X.2.1 dX9_drift_26 rfl (lv_at hl 1 rfl) ?_
        refine n_icmp_ge (tgt := 40) X dX9_drift_27 (by decide) (fun c12 => ?_) (fun c12 => ?_)
        · refine lv_aload_n X.1 X.2.1 dX9_drift_40 rfl (lv_at hl 0 rfl) ?_
          refine gf_9_1 X hG hxa q_296 dX9_drift_41 (hN2 _ _ _ hxa) (fun a13 h13 r13 => ?_)
          refine gf_3_3 X hG h13 q_175 dX9_drift_44 (fun x14 r14 => ?_)
          have g14 := cI_rng x14
          exact ret _ _ _ _ x14 _ hG ⟨Or.inr eρ, trivial⟩ dX9_drift_47
        · refine lv_aload_n X.1 X.2.1 dX9_drift_30 rfl (lv_at hl 0 rfl) ?_
          refine k_cVv X hG (c_X9_driftOnce l D cy τ _ hN2 hR2 (ty_Wf.sub (S' := [303, 812, 908, 5000]) hF2 (by decide)) hxa) hxa rfl yv_X9_driftOnce q_722 ⟨rfl, rfl⟩ ⟨Nat.le_of_ble_eq_true rfl, Nat.le_of_ble_eq_true rfl⟩ rfl hl.1 rfl (Nat.le_of_ble_eq_true rfl) ⟨Nat.zero_le _, Nat.zero_le _⟩ dX9_drift_31 (fun u17 H locs hG po15 => ?_)
          rw [po15] at hG
          refine n_inc X (fun z19 => [(3, .int z19), (0, .ref xa), (1, .int x901), (2, .int x2)]) dX9_drift_34 hl (k := 3) rfl (by decide) (by decide) (by omega) (by omega) (by decide) (fun _ => rfl) (fun x18 ls t18 hl => ?_)
          have hl : lv_has ls 4 [(3, .int x18), (0, .ref xa), (1, .int x901), (2, .int x2)] := hl
          refine lv_goto (tgt := 25) X.1 X.2.1 dX9_drift_37 (by decide) ?_
          exact ih25 _ _ _ x18 (by omega) (by omega) hG (lv_sub hl [1, 2, 3, 0] rfl)
    exact J25 _ _ _ _ x10 (by omega) (Nat.lt_succ_self _) hG (lv_sub hl [2, 3, 1, 0] rfl)
  · refine lv_iload_n X.1 X.2.1 dX9_drift_10 rfl (lv_at hl 0 rfl) ?_
    exact ret _ _ _ _ x2 _ hG ⟨Or.inl rfl, trivial⟩ dX9_drift_11
set_option maxHeartbeats 4000000 in
set_option maxRecDepth 100000 in
theorem e_X9_undo (l : Launch) (D : va_G) (cy : Nat → ClassId) (τ : ty_T) {F : Nat → Nat → Option Value} (hs : SUP τ F) {xa nw gn pa lz : Nat} {ln gl : Nat → Nat} {cu nx G : Nat} (hxa : τ xa = some (0, 9)) (ha : AG τ F xa nw gn pa lz ln gl) (hv : VG F gn pa gl cu nx G) (x901 : Int32) : KI l D cy yX9_undo cX9_undo 2 .int (rL 4) τ (pv F (cn Mx τ)) [.ref xa, .int x901] (fun r u => UB τ F pa gn nx cu G u ∧ True) := by
  refine k_metI "EdgeEchoes" rfl (by decide +kernel) (Nat.le_of_ble_eq_true rfl) (fun _ _ _ => rfl) ?_
  intro p e s m args below meth c Q ls X hG hl ret
  have hl : lv_has ls 2 [(0, .ref xa), (1, .int x901)] := hl
  obtain ⟨hnw, hgn, hpa, hlz, hk, fnw, fpa, fgn, flz, fk⟩ := id ha
  obtain ⟨vc, vn, vG, f1, f2, f6, fv⟩ := id hv
  have en : (nI nx).toInt = (nx : Int) := cI_nI (by omega)
  have ec : (nI cu).toInt = (cu : Int) := cI_nI (by omega)
  have hN : ty_N τ (pv F (cn Mx τ)) := pv_N cn_N
  have g901 := cI_rng x901
  refine lv_iload_n X.1 X.2.1 dX9_undo_0 rfl (lv_at hl 1 rfl) ?_
  refine n_ic X dX9_undo_1 (by decide) (by decide) (fun x1 t1 => ?_)
  refine n_icmp_lt (tgt := 11) X dX9_undo_2 (by decide) (fun c2 => ?_) (fun c2 => ?_)
  · refine n_ldc X q_327 (n := -1000000002) (by decide +kernel) dX9_undo_11 (fun x3 t3 => ?_)
    exact ret _ _ _ _ x3 _ hG ⟨Or.inl rfl, trivial⟩ dX9_undo_13
  · refine lv_iload_n X.1 X.2.1 dX9_undo_5 rfl (lv_at hl 1 rfl) ?_
    refine n_bp X dX9_undo_6 (by decide) (by decide) (fun x4 t4 => ?_)
    refine n_icmp_le (tgt := 14) X dX9_undo_8 (by decide) (fun c5 => ?_) (fun c5 => ?_)
    · refine lv_iload_n X.1 X.2.1 dX9_undo_14 rfl (lv_at hl 1 rfl) ?_
      refine lv_aload_n X.1 X.2.1 dX9_undo_15 rfl (lv_at hl 0 rfl) ?_
      refine gf_9_3 X hG hxa q_298 dX9_undo_16 (hN _ _ _ hxa) (fun a6 h6 r6 => ?_)
      have e6 := pv_rd r6 fpa
      cases e6
      refine gf_4_1 X hG h6 q_213 dX9_undo_19 (fun x7 r7 => ?_)
      have u7 := pv_i r7 f1
      subst u7
      refine n_icmp_le (tgt := 28) X dX9_undo_22 (by decide) (fun c8 => ?_) (fun c8 => ?_)
      · refine lv_aload_n X.1 X.2.1 dX9_undo_28 rfl (lv_at hl 0 rfl) ?_
        refine gf_9_3 X hG hxa q_298 dX9_undo_29 (hN _ _ _ hxa) (fun a9 h9 r9 => ?_)
        have e9 := pv_rd r9 fpa
        cases e9
        refine lv_aload_n X.1 X.2.1 dX9_undo_32 rfl (lv_at hl 0 rfl) ?_
        refine gf_9_1 X hG hxa q_296 dX9_undo_33 (hN _ _ _ hxa) (fun a10 h10 r10 => ?_)
        have e10 := pv_rd r10 fnw
        cases e10
        refine lv_iload_n X.1 X.2.1 dX9_undo_36 rfl (lv_at hl 1 rfl) ?_
        refine k_cVv X hG (e_X4_bringBack l D cy τ hs ha hv (k := x901.toInt.toNat) (by omega) (by omega) x901 (by omega)) h9 rfl yv_X4_bringBack q_738 ⟨rfl, rfl⟩ ⟨Nat.le_of_ble_eq_true rfl, Nat.le_of_ble_eq_true rfl⟩ rfl hl.1 rfl (Nat.le_of_ble_eq_true rfl) ⟨Nat.zero_le _, Nat.zero_le _⟩ dX9_undo_37 (fun u13 H locs hG po11 => ?_)
        rw [po11] at hG
        refine lv_aload_n X.1 X.2.1 dX9_undo_40 rfl (lv_at hl 0 rfl) ?_
        refine gf_9_1 X hG hxa q_296 dX9_undo_41 (pv_N cn_N _ _ _ hxa) (fun a14 h14 r14 => ?_)
        refine gf_3_3 X hG h14 q_175 dX9_undo_44 (fun x15 r15 => ?_)
        have g15 := cI_rng x15
        exact ret _ _ _ _ x15 _ hG ⟨Or.inr ⟨_, by omega, by omega, rfl⟩, trivial⟩ dX9_undo_47
      · refine n_ldc X q_666 (n := -1000000003) (by decide +kernel) dX9_undo_25 (fun x16 t16 => ?_)
        exact ret _ _ _ _ x16 _ hG ⟨Or.inl rfl, trivial⟩ dX9_undo_27
    · refine n_ldc X q_327 (n := -1000000002) (by decide +kernel) dX9_undo_11 (fun x17 t17 => ?_)
      exact ret _ _ _ _ x17 _ hG ⟨Or.inl rfl, trivial⟩ dX9_undo_13
set_option maxHeartbeats 4000000 in
set_option maxRecDepth 100000 in
theorem e_X9_keep (l : Launch) (D : va_G) (cy : Nat → ClassId) (τ : ty_T) {F : Nat → Nat → Option Value} (hs : SUP τ F) {xa nw gn pa lz : Nat} {ln gl : Nat → Nat} {cu nx G : Nat} (hxa : τ xa = some (0, 9)) (ha : AG τ F xa nw gn pa lz ln gl) (hv : VG F gn pa gl cu nx G) (x901 : Int32) {im ii li gi : Nat} (him : τ im = some (4, 2)) (hii : τ ii = some (0, 2)) (hli : τ li = some (0, 3)) (hgi : τ gi = some (0, 1)) (fim : F xa 6 = some (.ref im)) (fi : 0 ≤ x901.toInt ∧ x901.toInt ≤ 1 → F im x901.toNatClampNeg = some (.ref ii)) (fl : F ii 0 = some (.ref li)) (fg : F li 1 = some (.ref gi)) : KI l D cy yX9_keep cX9_keep 2 .int (rL 3) τ (pv F (cn Mx τ)) [.ref xa, .int x901] (fun r u => (0 ≤ x901.toInt ∧ x901.toInt ≤ 1 → r.toInt = 1 ∧ u = pv (kpF F gi ii pa G) (cn Mx τ)) ∧ (x901.toInt < 0 ∨ 1 < x901.toInt → r.toInt = -1000000001 ∧ u = pv F (cn Mx τ))) := by
  refine k_metI "EdgeEchoes" rfl (by decide +kernel) (Nat.le_of_ble_eq_true rfl) (fun _ _ _ => rfl) ?_
  intro p e s m args below meth c Q ls X hG hl ret
  have hl : lv_has ls 2 [(0, .ref xa), (1, .int x901)] := hl
  obtain ⟨hnw, hgn, hpa, hlz, hk, fnw, fpa, fgn, flz, fk⟩ := id ha
  obtain ⟨vc, vn, vG, f1, f2, f6, fv⟩ := id hv
  have en : (nI nx).toInt = (nx : Int) := cI_nI (by omega)
  have ec : (nI cu).toInt = (cu : Int) := cI_nI (by omega)
  have xg : xa ≠ gi := fun z => by rw [z, hgi] at hxa; cases hxa
  have mg : im ≠ gi := fun z => by rw [z, hgi] at him; cases him
  have xi : xa ≠ ii := fun z => by rw [z, hii] at hxa; cases hxa
  have hN : ty_N τ (pv F (cn Mx τ)) := pv_N cn_N
  have hs1 := sup_fu (x := .int (nI G)) hs hgi (j := 6) (by decide)
  have hF1 : ty_Wf Mx τ (pv (fu F gi 6 (.int (nI G))) (cn Mx τ)) [201] := sup_F hs1 (by decide)
  have g901 := cI_rng x901
  refine lv_iload_n X.1 X.2.1 dX9_keep_0 rfl (lv_at hl 1 rfl) ?_
  refine n_if_lt (tgt := 9) X dX9_keep_1 (by decide) (fun c1 => ?_) (fun c1 => ?_)
  · refine n_ldc X q_609 (n := -1000000001) (by decide +kernel) dX9_keep_9 (fun x2 t2 => ?_)
    exact ret _ _ _ _ x2 _ hG ⟨fun q => absurd q (by omega), fun _ => ⟨by omega, rfl⟩⟩ dX9_keep_11
  · refine lv_iload_n X.1 X.2.1 dX9_keep_4 rfl (lv_at hl 1 rfl) ?_
    refine n_ic X dX9_keep_5 (by decide) (by decide) (fun x3 t3 => ?_)
    refine n_icmp_lt (tgt := 12) X dX9_keep_6 (by decide) (fun c4 => ?_) (fun c4 => ?_)
    · refine lv_aload_n X.1 X.2.1 dX9_keep_12 rfl (lv_at hl 0 rfl) ?_
      refine gf_9_6 X hG hxa q_301 dX9_keep_13 (hN _ _ _ hxa) (fun a5 h5 r5 => ?_)
      have e5 := pv_rd r5 fim
      cases e5
      refine lv_iload_n X.1 X.2.1 dX9_keep_16 rfl (lv_at hl 1 rfl) ?_
      refine tg_aald X hG h5 (Or.inr rfl) (cI_in (n := 2) (by omega)) dX9_keep_17 (hN _ _ _ h5) (fun a6 h6 r6 => ?_)
      have e6 := pv_rd r6 (fi (by omega))
      cases e6
      have h6 := hii
      refine gf_2_0 X hG h6 q_285 dX9_keep_18 (hN _ _ _ h6) (fun a7 h7 r7 => ?_)
      have e7 := pv_rd r7 fl
      cases e7
      refine lv_aload_n X.1 X.2.1 dX9_keep_21 rfl (lv_at hl 0 rfl) ?_
      refine gf_9_1 X hG hxa q_296 dX9_keep_22 (hN _ _ _ hxa) (fun a8 h8 r8 => ?_)
      have e8 := pv_rd r8 fnw
      cases e8
      refine k_cVv X hG (e_X3_copyFrom l D cy τ hs h7 h8 fg fgn f6) h7 rfl yv_X3_copyFrom q_516 ⟨rfl, rfl⟩ ⟨Nat.le_of_ble_eq_true rfl, Nat.le_of_ble_eq_true rfl⟩ rfl hl.1 rfl (Nat.le_of_ble_eq_true rfl) ⟨Nat.zero_le _, Nat.zero_le _⟩ dX9_keep_25 (fun u11 H locs hG po9 => ?_)
      rw [po9] at hG
      refine lv_aload_n X.1 X.2.1 dX9_keep_28 rfl (lv_at hl 0 rfl) ?_
      refine gf_9_6 X hG hxa q_301 dX9_keep_29 (pv_N cn_N _ _ _ hxa) (fun a12 h12 r12 => ?_)
      refine lv_iload_n X.1 X.2.1 dX9_keep_32 rfl (lv_at hl 1 rfl) ?_
      refine tg_aald X hG h12 (Or.inr rfl) (cI_in (n := 2) (by omega)) dX9_keep_33 (pv_N cn_N _ _ _ h12) (fun a13 h13 r13 => ?_)
      have h13 : τ a13 = some (0, 2) := h13
      refine lv_aload_n X.1 X.2.1 dX9_keep_34 rfl (lv_at hl 0 rfl) ?_
      refine gf_9_8 X hG hxa q_303 dX9_keep_35 (fun x14 r14 => ?_)
      have g14 := cI_rng x14
      refine pf_2_1 X hG h13 q_286 dX9_keep_38 (hF1 _ _ _ _ h13 (ty_in (n := 201) rfl) (ty_rno rfl)) (fun H locs hG => ?_)
      refine lv_aload_n X.1 X.2.1 dX9_keep_41 rfl (lv_at hl 0 rfl) ?_
      refine gf_9_6 X hG hxa q_301 dX9_keep_42 (pv_N cn_N _ _ _ hxa) (fun a15 h15 r15 => ?_)
      have e15 := pv_rd r15 ((fu_b xg).trans fim)
      cases e15
      refine lv_iload_n X.1 X.2.1 dX9_keep_45 rfl (lv_at hl 1 rfl) ?_
      refine tg_aald X hG h15 (Or.inr rfl) (cI_in (n := 2) (by omega)) dX9_keep_46 (pv_N cn_N _ _ _ h15) (fun a16 h16 r16 => ?_)
      have e16 := pv_rd r16 ((fu_b mg).trans (fi (by omega)))
      cases e16
      have h16 := hii
      refine n_ic X dX9_keep_47 (by decide) (by decide) (fun x17 t17 => ?_)
      have e17 : x17 = bI true := cI_inj (by rw [t17, bI_t]; rfl)
      subst e17
      refine pg_2_2 X hG h16 q_287 (Or.inr rfl) dX9_keep_48 (pv (fu (fu F gi 6 (.int (nI G))) ii 2 (.int (bI true))) (cn Mx τ)) pv_off pv_oth (pv_new (cn_F (S := [202]) _ _ _ _ h16 (ty_in (n := 202) rfl) (ty_rno rfl))) (fun H locs hG => ?_)
      refine lv_aload_n X.1 X.2.1 dX9_keep_51 rfl (lv_at hl 0 rfl) ?_
      refine gf_9_3 X hG hxa q_298 dX9_keep_52 (pv_N cn_N _ _ _ hxa) (fun a18 h18 r18 => ?_)
      have e18 := pv_rd r18 ((fu_b xi).trans ((fu_b xg).trans fpa))
      cases e18
      refine n_ic X dX9_keep_55 (by decide) (by decide) (fun x19 t19 => ?_)
      have e19 : x19 = nI 0 := cI_inj (by rw [t19]; rfl)
      subst e19
      refine pg_4_1 X hG h18 q_213 dX9_keep_56 (pv (kpF F gi ii pa G) (cn Mx τ)) pv_off pv_oth (pv_new (cn_F (S := [401]) _ _ _ _ h18 (ty_in (n := 401) rfl) (ty_rno rfl))) (fun H locs hG => ?_)
      refine n_ic X dX9_keep_59 (by decide) (by decide) (fun x20 t20 => ?_)
      exact ret _ _ _ _ x20 _ hG ⟨fun _ => ⟨by omega, rfl⟩, fun q => absurd q (by omega)⟩ dX9_keep_60
    · refine n_ldc X q_609 (n := -1000000001) (by decide +kernel) dX9_keep_9 (fun x21 t21 => ?_)
      exact ret _ _ _ _ x21 _ hG ⟨fun q => absurd q (by omega), fun _ => ⟨by omega, rfl⟩⟩ dX9_keep_11
set_option maxHeartbeats 4000000 in
set_option maxRecDepth 100000 in
theorem e_X9_goBack (l : Launch) (D : va_G) (cy : Nat → ClassId) (τ : ty_T) {F : Nat → Nat → Option Value} (hs : SUP τ F) {xa nw gn pa lz : Nat} {ln gl : Nat → Nat} {cu nx G : Nat} (hxa : τ xa = some (0, 9)) (ha : AG τ F xa nw gn pa lz ln gl) (hv : VG F gn pa gl cu nx G) (x901 : Int32) {im ii li gi : Nat} (him : τ im = some (4, 2)) (hii : τ ii = some (0, 2)) (hli : τ li = some (0, 3)) (hgi : τ gi = some (0, 1)) (fim : F xa 6 = some (.ref im)) (fi : 0 ≤ x901.toInt ∧ x901.toInt ≤ 1 → F im x901.toNatClampNeg = some (.ref ii)) (fl : F ii 0 = some (.ref li)) (fg : F li 1 = some (.ref gi)) {bb : Bool} (fb : F ii 2 = some (.int (bI bb))) (fgi : bb = true → F gi 6 = some (.int (nI G))) : KI l D cy yX9_goBack cX9_goBack 2 .int (rL 3) τ (pv F (cn Mx τ)) [.ref xa, .int x901] (fun r u => (0 ≤ x901.toInt ∧ x901.toInt ≤ 1 → bb = true → r.toInt = 1 ∧ u = pv (gbF F gn pa G) (cn Mx τ)) ∧ (0 ≤ x901.toInt ∧ x901.toInt ≤ 1 → bb = false → r.toInt = -1000000003 ∧ u = pv F (cn Mx τ)) ∧ (x901.toInt < 0 ∨ 1 < x901.toInt → r.toInt = -1000000001 ∧ u = pv F (cn Mx τ))) := by
  refine k_metI "EdgeEchoes" rfl (by decide +kernel) (Nat.le_of_ble_eq_true rfl) (fun _ _ _ => rfl) ?_
  intro p e s m args below meth c Q ls X hG hl ret
  have hl : lv_has ls 2 [(0, .ref xa), (1, .int x901)] := hl
  obtain ⟨hnw, hgn, hpa, hlz, hk, fnw, fpa, fgn, flz, fk⟩ := id ha
  obtain ⟨vc, vn, vG, f1, f2, f6, fv⟩ := id hv
  have en : (nI nx).toInt = (nx : Int) := cI_nI (by omega)
  have ec : (nI cu).toInt = (cu : Int) := cI_nI (by omega)
  have xg : xa ≠ gn := fun z => by rw [z, hgn] at hxa; cases hxa
  have hN : ty_N τ (pv F (cn Mx τ)) := pv_N cn_N
  have hs1 := sup_fu (x := .int (nI G)) hs hgn (j := 6) (by decide)
  have hF1 : ty_Wf Mx τ (pv (fu F gn 6 (.int (nI G))) (cn Mx τ)) [908] := sup_F hs1 (by decide)
  have g901 := cI_rng x901
  refine lv_iload_n X.1 X.2.1 dX9_goBack_0 rfl (lv_at hl 1 rfl) ?_
  refine n_if_lt (tgt := 9) X dX9_goBack_1 (by decide) (fun c1 => ?_) (fun c1 => ?_)
  · refine n_ldc X q_609 (n := -1000000001) (by decide +kernel) dX9_goBack_9 (fun x2 t2 => ?_)
    exact ret _ _ _ _ x2 _ hG ⟨fun q => absurd q (by omega), fun q => absurd q (by omega), fun _ => ⟨by omega, rfl⟩⟩ dX9_goBack_11
  · refine lv_iload_n X.1 X.2.1 dX9_goBack_4 rfl (lv_at hl 1 rfl) ?_
    refine n_ic X dX9_goBack_5 (by decide) (by decide) (fun x3 t3 => ?_)
    refine n_icmp_lt (tgt := 12) X dX9_goBack_6 (by decide) (fun c4 => ?_) (fun c4 => ?_)
    · refine lv_aload_n X.1 X.2.1 dX9_goBack_12 rfl (lv_at hl 0 rfl) ?_
      refine gf_9_6 X hG hxa q_301 dX9_goBack_13 (hN _ _ _ hxa) (fun a5 h5 r5 => ?_)
      have e5 := pv_rd r5 fim
      cases e5
      refine lv_iload_n X.1 X.2.1 dX9_goBack_16 rfl (lv_at hl 1 rfl) ?_
      refine tg_aald X hG h5 (Or.inr rfl) (cI_in (n := 2) (by omega)) dX9_goBack_17 (hN _ _ _ h5) (fun a6 h6 r6 => ?_)
      have e6 := pv_rd r6 (fi (by omega))
      cases e6
      have h6 := hii
      refine gf_2_2 X hG h6 q_287 dX9_goBack_18 (fun x7 b7 r7 => ?_)
      have u7 := pv_i r7 fb
      subst u7
      have tb := bI_t (b := bb)
      refine n_if_ne (tgt := 27) X dX9_goBack_21 (by decide) (fun c8 => ?_) (fun c8 => ?_)
      · have hbb : bb = true := by cases bb with | true => rfl | false => exact absurd tb c8
        refine lv_aload_n X.1 X.2.1 dX9_goBack_27 rfl (lv_at hl 0 rfl) ?_
        refine gf_9_1 X hG hxa q_296 dX9_goBack_28 (hN _ _ _ hxa) (fun a9 h9 r9 => ?_)
        have e9 := pv_rd r9 fnw
        cases e9
        refine lv_aload_n X.1 X.2.1 dX9_goBack_31 rfl (lv_at hl 0 rfl) ?_
        refine gf_9_6 X hG hxa q_301 dX9_goBack_32 (hN _ _ _ hxa) (fun a10 h10 r10 => ?_)
        have e10 := pv_rd r10 fim
        cases e10
        refine lv_iload_n X.1 X.2.1 dX9_goBack_35 rfl (lv_at hl 1 rfl) ?_
        refine tg_aald X hG h10 (Or.inr rfl) (cI_in (n := 2) (by omega)) dX9_goBack_36 (hN _ _ _ h10) (fun a11 h11 r11 => ?_)
        have e11 := pv_rd r11 (fi (by omega))
        cases e11
        have h11 := hii
        refine gf_2_0 X hG h11 q_285 dX9_goBack_37 (hN _ _ _ h11) (fun a12 h12 r12 => ?_)
        have e12 := pv_rd r12 fl
        cases e12
        refine k_cVv X hG (e_X3_copyFrom l D cy τ hs h9 h12 fgn fg (fgi hbb)) h9 rfl yv_X3_copyFrom q_516 ⟨rfl, rfl⟩ ⟨Nat.le_of_ble_eq_true rfl, Nat.le_of_ble_eq_true rfl⟩ rfl hl.1 rfl (Nat.le_of_ble_eq_true rfl) ⟨Nat.zero_le _, Nat.zero_le _⟩ dX9_goBack_40 (fun u15 H locs hG po13 => ?_)
        rw [po13] at hG
        refine lv_aload_n X.1 X.2.1 dX9_goBack_43 rfl (lv_at hl 0 rfl) ?_
        refine lv_aload_n X.1 X.2.1 dX9_goBack_44 rfl (lv_at hl 0 rfl) ?_
        refine gf_9_6 X hG hxa q_301 dX9_goBack_45 (pv_N cn_N _ _ _ hxa) (fun a16 h16 r16 => ?_)
        refine lv_iload_n X.1 X.2.1 dX9_goBack_48 rfl (lv_at hl 1 rfl) ?_
        refine tg_aald X hG h16 (Or.inr rfl) (cI_in (n := 2) (by omega)) dX9_goBack_49 (pv_N cn_N _ _ _ h16) (fun a17 h17 r17 => ?_)
        have h17 : τ a17 = some (0, 2) := h17
        refine gf_2_1 X hG h17 q_286 dX9_goBack_50 (fun x18 r18 => ?_)
        have g18 := cI_rng x18
        refine pf_9_8 X hG hxa q_303 dX9_goBack_53 (hF1 _ _ _ _ hxa (ty_in (n := 908) rfl) (ty_rno rfl)) (fun H locs hG => ?_)
        refine lv_aload_n X.1 X.2.1 dX9_goBack_56 rfl (lv_at hl 0 rfl) ?_
        refine gf_9_3 X hG hxa q_298 dX9_goBack_57 (pv_N cn_N _ _ _ hxa) (fun a19 h19 r19 => ?_)
        have e19 := pv_rd r19 ((fu_b xg).trans fpa)
        cases e19
        refine n_ic X dX9_goBack_60 (by decide) (by decide) (fun x20 t20 => ?_)
        have e20 : x20 = nI 0 := cI_inj (by rw [t20]; rfl)
        subst e20
        refine pg_4_1 X hG h19 q_213 dX9_goBack_61 (pv (gbF F gn pa G) (cn Mx τ)) pv_off pv_oth (pv_new (cn_F (S := [401]) _ _ _ _ h19 (ty_in (n := 401) rfl) (ty_rno rfl))) (fun H locs hG => ?_)
        refine n_ic X dX9_goBack_64 (by decide) (by decide) (fun x21 t21 => ?_)
        exact ret _ _ _ _ x21 _ hG ⟨fun _ _ => ⟨by omega, rfl⟩, (fun _ q => by rw [hbb] at q; cases q), fun q => absurd q (by omega)⟩ dX9_goBack_65
      · refine n_ldc X q_666 (n := -1000000003) (by decide +kernel) dX9_goBack_24 (fun x22 t22 => ?_)
        exact ret _ _ _ _ x22 _ hG ⟨(fun _ q => by rw [q] at tb; exact absurd tb (by rw [q] at c8; rw [c8]; decide)), fun _ _ => ⟨by omega, rfl⟩, fun q => absurd q (by omega)⟩ dX9_goBack_26
    · refine n_ldc X q_609 (n := -1000000001) (by decide +kernel) dX9_goBack_9 (fun x23 t23 => ?_)
      exact ret _ _ _ _ x23 _ hG ⟨fun q => absurd q (by omega), fun q => absurd q (by omega), fun _ => ⟨by omega, rfl⟩⟩ dX9_goBack_11
set_option maxHeartbeats 4000000 in
set_option maxRecDepth 100000 in
theorem e_X1_has (l : Launch) (D : va_G) (cy : Nat → ClassId) (τ : ty_T) (ρ : ty_R) {M : md_T} (hN : ty_N τ ρ) (hR : ty_Rg M τ ρ) (hF : ty_Wf M τ ρ []) {a900 : Nat} (h900 : τ a900 = some (0, 1)) (x901 : Int32) {G : Nat} (hx : ∀ x : Int32, ρ a900 6 (.int x) → x.toInt = (G : Int)) : KI l D cy yX1_has cX1_has 2 .boolean (rL 0) τ ρ [.ref a900, .int x901] (fun r u => u = ρ ∧ (r.toInt = 0 ∨ r.toInt = 1) ∧ (r.toInt ≠ 0 → 0 ≤ x901.toInt ∧ x901.toInt < (G : Int)) ∧ (r.toInt = 0 → x901.toInt < 0 ∨ (G : Int) ≤ x901.toInt)) := by
  refine k_metI "EdgeEchoes$Gates" rfl (by decide +kernel) (Nat.le_of_ble_eq_true rfl) (fun r u h => (cI_nar (cI_01 h.2.1)).1) ?_
  intro p e s m args below meth c Q ls X hG hl ret
  have hl : lv_has ls 2 [(0, .ref a900), (1, .int x901)] := hl
  have g901 := cI_rng x901
  refine lv_iload_n X.1 X.2.1 dX1_has_0 rfl (lv_at hl 1 rfl) ?_
  refine n_if_lt (tgt := 22) X dX1_has_1 (by decide) (fun c1 => ?_) (fun c1 => ?_)
  · refine n_ic X dX1_has_22 (by decide) (by decide) (fun x2 t2 => ?_)
    exact ret _ _ _ _ x2 _ hG ⟨rfl, by omega⟩ dX1_has_23
  · refine lv_iload_n X.1 X.2.1 dX1_has_4 rfl (lv_at hl 1 rfl) ?_
    refine lv_aload_n X.1 X.2.1 dX1_has_5 rfl (lv_at hl 0 rfl) ?_
    refine gf_1_6 X hG h900 q_144 dX1_has_6 (fun x3 r3 => ?_)
    have b3 := (hR _ _ _ _ h900 r3) _ _ rfl
    have b4 := hx _ r3
    refine n_icmp_ge (tgt := 22) X dX1_has_9 (by decide) (fun c4 => ?_) (fun c4 => ?_)
    · refine n_ic X dX1_has_22 (by decide) (by decide) (fun x5 t5 => ?_)
      exact ret _ _ _ _ x5 _ hG ⟨rfl, by omega⟩ dX1_has_23
    · refine lv_iload_n X.1 X.2.1 dX1_has_12 rfl (lv_at hl 1 rfl) ?_
      refine n_bp X dX1_has_13 (by decide) (by decide) (fun x6 t6 => ?_)
      refine n_icmp_ge (tgt := 22) X dX1_has_15 (by decide) (fun c7 => ?_) (fun c7 => ?_)
      · exact absurd c7 (by omega)
      · refine n_ic X dX1_has_18 (by decide) (by decide) (fun x8 t8 => ?_)
        refine lv_goto (tgt := 23) X.1 X.2.1 dX1_has_19 (by decide) ?_
        exact ret _ _ _ _ x8 _ hG ⟨rfl, by omega⟩ dX1_has_23
set_option maxHeartbeats 4000000 in
set_option maxRecDepth 100000 in
theorem e_X0_append (l : Launch) (D : va_G) (cy : Nat → ClassId) (τ : ty_T) {F : Nat → Nat → Option Value} (hs : SUP τ F) {n : Nat} (hn : n ≤ 20) {a900 : Nat} (h900 : τ a900 = some (0, 0)) (fn : F a900 2 = some (.int (nI n))) (x901 : Int32) (zx901 : 0 ≤ x901.toInt ∧ x901.toInt ≤ 5) (x902 : Int32) : KI l D cy yX0_append cX0_append 3 .boolean (rL 0) τ (pv F (cn Mx τ)) [.ref a900, .int x901, .int x902] (fun r u => (n = 20 → r.toInt = 0 ∧ u = pv F (cn Mx τ)) ∧ (n ≠ 20 → r.toInt = 1 ∧ u = pv (fu F a900 2 (.int (nI (n + 1)))) (cn Mx τ))) := by
  refine k_metI "EdgeEchoes$Book" rfl (by decide +kernel) (Nat.le_of_ble_eq_true rfl) (fun r u h => (cI_nar (cI_01 (by by_cases q : n = 20; exact Or.inl (h.1 q).1; exact Or.inr (h.2 q).1))).1) ?_
  intro p e s m args below meth c Q ls X hG hl ret
  have hl : lv_has ls 3 [(0, .ref a900), (1, .int x901), (2, .int x902)] := hl
  have g902 := cI_rng x902
  have hN : ty_N τ (pv F (cn Mx τ)) := pv_N cn_N
  have hF : ty_Wf Mx τ (pv F (cn Mx τ)) [5000, 6006] := sup_F hs (by decide)
  have en : (nI n).toInt = (n : Int) := cI_nI (by omega)
  refine lv_aload_n X.1 X.2.1 dX0_append_0 rfl (lv_at hl 0 rfl) ?_
  refine gf_0_2 X hG h900 q_266 dX0_append_1 (fun x2 r2 => ?_)
  have e2 := pv_i r2 fn
  subst e2
  refine n_if_lt (tgt := 16) X dX0_append_4 (by decide) (fun c3 => ?_) (fun c3 => ?_)
  · refine n_ic X dX0_append_16 (by decide) (by decide) (fun x4 t4 => ?_)
    exact ret _ _ _ _ x4 _ hG ⟨fun _ => ⟨by omega, rfl⟩, fun q => absurd (show n = 20 by omega) q⟩ dX0_append_17
  · refine lv_aload_n X.1 X.2.1 dX0_append_7 rfl (lv_at hl 0 rfl) ?_
    refine gf_0_2 X hG h900 q_266 dX0_append_8 (fun x5 r5 => ?_)
    have e5 := pv_i r5 fn
    subst e5
    refine n_bp X dX0_append_11 (by decide) (by decide) (fun x6 t6 => ?_)
    refine n_icmp_lt (tgt := 18) X dX0_append_13 (by decide) (fun c7 => ?_) (fun c7 => ?_)
    · refine lv_aload_n X.1 X.2.1 dX0_append_18 rfl (lv_at hl 0 rfl) ?_
      refine gf_0_0 X hG h900 q_264 dX0_append_19 (hN _ _ _ h900) (fun a8 h8 r8 => ?_)
      refine lv_aload_n X.1 X.2.1 dX0_append_22 rfl (lv_at hl 0 rfl) ?_
      refine gf_0_2 X hG h900 q_266 dX0_append_23 (fun x9 r9 => ?_)
      have e9 := pv_i r9 fn
      subst e9
      refine lv_iload_n X.1 X.2.1 dX0_append_26 rfl (lv_at hl 1 rfl) ?_
      refine tg_iasf X hG h8 rfl (cI_in (n := 20) (by omega)) dX0_append_27 ((ty_Wf.sub (S' := [6006]) hF (by decide)) _ _ _ _ h8 (ty_in (n := 6006) rfl) (ty_ryes rfl (by omega))) (fun H locs hG => ?_)
      refine lv_aload_n X.1 X.2.1 dX0_append_28 rfl (lv_at hl 0 rfl) ?_
      refine gf_0_1 X hG h900 q_265 dX0_append_29 (hN _ _ _ h900) (fun a10 h10 r10 => ?_)
      refine lv_aload_n X.1 X.2.1 dX0_append_32 rfl (lv_at hl 0 rfl) ?_
      refine gf_0_2 X hG h900 q_266 dX0_append_33 (fun x11 r11 => ?_)
      have e11 := pv_i r11 fn
      subst e11
      refine lv_iload_n X.1 X.2.1 dX0_append_36 rfl (lv_at hl 2 rfl) ?_
      refine tg_iasf X hG h10 rfl (cI_in (n := 20) (by omega)) dX0_append_37 ((ty_Wf.sub (S' := [5000]) hF (by decide)) _ _ _ _ h10 (ty_in (n := 5000) rfl) (ty_rno rfl)) (fun H locs hG => ?_)
      refine lv_aload_n X.1 X.2.1 dX0_append_38 rfl (lv_at hl 0 rfl) ?_
      refine lv_dup X.1 X.2.1 dX0_append_39 rfl ?_
      refine gf_0_2 X hG h900 q_266 dX0_append_40 (fun x12 r12 => ?_)
      have e12 := pv_i r12 fn
      subst e12
      refine n_ic X dX0_append_43 (by decide) (by decide) (fun x13 t13 => ?_)
      refine n_add X dX0_append_44 (by omega) (by omega) (fun x14 t14 => ?_)
      have e14 : x14 = nI (n + 1) := cI_inj (by rw [cI_nI (by omega)]; omega)
      subst e14
      refine pg_0_2 X hG h900 q_266 dX0_append_45 (pv (fu F a900 2 (.int (nI (n + 1)))) (cn Mx τ)) pv_off pv_oth (pv_new (cn_F (S := [2]) _ _ _ _ h900 (ty_in (n := 2) rfl) (ty_rno rfl))) (fun H locs hG => ?_)
      refine n_ic X dX0_append_48 (by decide) (by decide) (fun x15 t15 => ?_)
      exact ret _ _ _ _ x15 _ hG ⟨fun q => absurd q (by omega), fun _ => ⟨by omega, rfl⟩⟩ dX0_append_49
    · refine n_ic X dX0_append_16 (by decide) (by decide) (fun x16 t16 => ?_)
      exact ret _ _ _ _ x16 _ hG ⟨fun _ => ⟨by omega, rfl⟩, fun q => absurd (show n = 20 by omega) q⟩ dX0_append_17
set_option maxHeartbeats 4000000 in
set_option maxRecDepth 100000 in
theorem e_X9_write (l : Launch) (D : va_G) (cy : Nat → ClassId) (τ : ty_T) {F : Nat → Nat → Option Value} (hs : SUP τ F) {xa nw gn bk n G : Nat} (hxa : τ xa = some (0, 9)) (fnw : F xa 1 = some (.ref nw)) (fgn : F nw 1 = some (.ref gn)) (f6 : F gn 6 = some (.int (nI G))) (hG6 : G ≤ 6) (hbk : τ bk = some (0, 0)) (fbk : F xa 5 = some (.ref bk)) (fn : F bk 2 = some (.int (nI n))) (hn : n ≤ 20) (x901 : Int32) (x902 : Int32) : KI l D cy yX9_write cX9_write 3 .int (rL 1) τ (pv F (cn Mx τ)) [.ref xa, .int x901, .int x902] (fun r w => (wrU G x901 → r.toInt = -1000000001 ∧ w = pv F (cn Mx τ)) ∧ (¬ wrU G x901 → wrO x902 → r.toInt = -1000000002 ∧ w = pv F (cn Mx τ)) ∧ (¬ wrU G x901 → ¬ wrO x902 → n = 20 → r.toInt = -1000000004 ∧ w = pv F (cn Mx τ)) ∧ (¬ wrU G x901 → ¬ wrO x902 → n ≠ 20 → r.toInt = (n : Int) + 1 ∧ w = pv (fu F bk 2 (.int (nI (n + 1)))) (cn Mx τ))) := by
  refine k_metI "EdgeEchoes" rfl (by decide +kernel) (Nat.le_of_ble_eq_true rfl) (fun _ _ _ => rfl) ?_
  intro p e s m args below meth c Q ls X hG hl ret
  have hl : lv_has ls 3 [(0, .ref xa), (1, .int x901), (2, .int x902)] := hl
  have hN : ty_N τ (pv F (cn Mx τ)) := pv_N cn_N
  have hR : ty_Rg Mx τ (pv F (cn Mx τ)) := pv_R cn_R
  have hF : ty_Wf Mx τ (pv F (cn Mx τ)) [] := sup_F hs (by decide)
  have nb : xa ≠ bk := fun q => by rw [q, hbk] at hxa; cases hxa
  have g901 := cI_rng x901
  have g902 := cI_rng x902
  refine lv_aload_n X.1 X.2.1 dX9_write_0 rfl (lv_at hl 0 rfl) ?_
  refine gf_9_1 X hG hxa q_296 dX9_write_1 (hN _ _ _ hxa) (fun a1 h1 r1 => ?_)
  have e1 := pv_rd r1 fnw
  cases e1
  refine gf_3_1 X hG h1 q_168 dX9_write_4 (hN _ _ _ h1) (fun a2 h2 r2 => ?_)
  have e2 := pv_rd r2 fgn
  cases e2
  refine lv_iload_n X.1 X.2.1 dX9_write_7 rfl (lv_at hl 1 rfl) ?_
  refine k_cVi X hG (e_X1_has l D cy τ _ hN hR (ty_Wf.sub (S' := []) hF (by decide)) h2 x901 (G := G) (fun x hx => by have z := pv_i hx f6; rw [z]; exact cI_nI (by omega))) h2 rfl yv_X1_has q_629 ⟨rfl, rfl⟩ ⟨Nat.le_of_ble_eq_true rfl, Nat.le_of_ble_eq_true rfl⟩ rfl hl.1 rfl (Nat.le_of_ble_eq_true rfl) ⟨Nat.zero_le _, Nat.zero_le _⟩ dX9_write_8 (fun x4 u5 H locs hG po3 => ?_)
  obtain ⟨eu5, po3⟩ := po3
  rw [eu5] at hG
  refine n_if_ne (tgt := 17) X dX9_write_11 (by decide) (fun c6 => ?_) (fun c6 => ?_)
  · have nU : ¬ wrU G x901 := (by omega : ¬ (x901.toInt < 0 ∨ (G : Int) ≤ x901.toInt))
    refine lv_iload_n X.1 X.2.1 dX9_write_17 rfl (lv_at hl 2 rfl) ?_
    refine n_if_lt (tgt := 28) X dX9_write_18 (by decide) (fun c7 => ?_) (fun c7 => ?_)
    · refine n_ldc X q_327 (n := -1000000002) (by decide +kernel) dX9_write_28 (fun x8 t8 => ?_)
      exact ret _ _ _ _ x8 _ hG ⟨fun z => absurd z nU, fun _ _ => ⟨by omega, rfl⟩, fun _ z => absurd (show wrO x902 from (by omega : x902.toInt < 0 ∨ 9999 < x902.toInt)) z, fun _ z => absurd (show wrO x902 from (by omega : x902.toInt < 0 ∨ 9999 < x902.toInt)) z⟩ dX9_write_30
    · refine lv_iload_n X.1 X.2.1 dX9_write_21 rfl (lv_at hl 2 rfl) ?_
      refine n_sp X dX9_write_22 (by decide) (by decide) (fun x9 t9 => ?_)
      refine n_icmp_le (tgt := 31) X dX9_write_25 (by decide) (fun c10 => ?_) (fun c10 => ?_)
      · have nO : ¬ wrO x902 := (by omega : ¬ (x902.toInt < 0 ∨ 9999 < x902.toInt))
        refine lv_aload_n X.1 X.2.1 dX9_write_31 rfl (lv_at hl 0 rfl) ?_
        refine gf_9_5 X hG hxa q_300 dX9_write_32 (hN _ _ _ hxa) (fun a11 h11 r11 => ?_)
        have e11 := pv_rd r11 fbk
        cases e11
        refine lv_iload_n X.1 X.2.1 dX9_write_35 rfl (lv_at hl 1 rfl) ?_
        refine lv_iload_n X.1 X.2.1 dX9_write_36 rfl (lv_at hl 2 rfl) ?_
        refine k_cVi X hG (e_X0_append l D cy τ hs hn h11 fn x901 (by omega) x902) h11 rfl yv_X0_append q_841 ⟨rfl, rfl⟩ ⟨Nat.le_of_ble_eq_true rfl, Nat.le_of_ble_eq_true rfl⟩ rfl hl.1 rfl (Nat.le_of_ble_eq_true rfl) ⟨Nat.zero_le _, Nat.zero_le _⟩ dX9_write_37 (fun x13 u14 H locs hG po12 => ?_)
        obtain ⟨w1, w2⟩ := po12
        by_cases hn6 : n = 20
        · obtain ⟨w3, w4⟩ := w1 hn6
          rw [w4] at hG
          refine n_if_eq (tgt := 53) X dX9_write_40 (by decide) (fun c15 => ?_) (fun c15 => ?_)
          · refine n_ldc X q_332 (n := -1000000004) (by decide +kernel) dX9_write_53 (fun x16 t16 => ?_)
            exact ret _ _ _ _ x16 _ hG ⟨fun z => absurd z nU, fun _ z => absurd z nO, fun _ _ _ => ⟨by omega, rfl⟩, fun _ _ z => absurd hn6 z⟩ dX9_write_55
          · exact absurd w3 c15
        · obtain ⟨w3, w4⟩ := w2 hn6
          rw [w4] at hG
          refine n_if_eq (tgt := 53) X dX9_write_40 (by decide) (fun c15 => ?_) (fun c15 => ?_)
          · exact absurd c15 (by omega)
          · refine lv_aload_n X.1 X.2.1 dX9_write_43 rfl (lv_at hl 0 rfl) ?_
            refine gf_9_5 X hG hxa q_300 dX9_write_44 (pv_N cn_N _ _ _ hxa) (fun a17 h17 r17 => ?_)
            have e17 := pv_rd r17 ((fu_b nb).trans fbk)
            cases e17
            refine gf_0_2 X hG h17 q_267 dX9_write_47 (fun x18 r18 => ?_)
            have u18 := pv_i r18 fu_at
            subst u18
            refine lv_goto (tgt := 55) X.1 X.2.1 dX9_write_50 (by decide) ?_
            exact ret _ _ _ _ _ _ hG ⟨fun z => absurd z nU, fun _ z => absurd z nO, fun _ _ z => absurd z hn6, fun _ _ _ => ⟨by rw [cI_nI (by omega)]; rfl, rfl⟩⟩ dX9_write_55
      · refine n_ldc X q_327 (n := -1000000002) (by decide +kernel) dX9_write_28 (fun x19 t19 => ?_)
        exact ret _ _ _ _ x19 _ hG ⟨fun z => absurd z nU, fun _ _ => ⟨by omega, rfl⟩, fun _ z => absurd (show wrO x902 from (by omega : x902.toInt < 0 ∨ 9999 < x902.toInt)) z, fun _ z => absurd (show wrO x902 from (by omega : x902.toInt < 0 ∨ 9999 < x902.toInt)) z⟩ dX9_write_30
  · refine n_ldc X q_609 (n := -1000000001) (by decide +kernel) dX9_write_14 (fun x20 t20 => ?_)
    exact ret _ _ _ _ x20 _ hG ⟨fun _ => ⟨by omega, rfl⟩, fun z => absurd (show wrU G x901 from (by omega : x901.toInt < 0 ∨ (G : Int) ≤ x901.toInt)) z, fun z => absurd (show wrU G x901 from (by omega : x901.toInt < 0 ∨ (G : Int) ≤ x901.toInt)) z, fun z => absurd (show wrU G x901 from (by omega : x901.toInt < 0 ∨ (G : Int) ≤ x901.toInt)) z⟩ dX9_write_16
set_option maxHeartbeats 4000000 in
set_option maxRecDepth 100000 in
theorem e_X5_append (l : Launch) (D : va_G) (cy : Nat → ClassId) (τ : ty_T) {F : Nat → Nat → Option Value} (hs : SUP τ F) {n : Nat} (hn : n ≤ 6) {a900 : Nat} (h900 : τ a900 = some (0, 5)) (fn : F a900 4 = some (.int (nI n))) (x901 : Int32) (zx901 : 0 ≤ x901.toInt ∧ x901.toInt ≤ 150) (x902 : Int32) (x903 : Int32) (zx903 : x903.toInt = 0 ∨ x903.toInt = 1) : KI l D cy yX5_append cX5_append 4 .boolean (rL 0) τ (pv F (cn Mx τ)) [.ref a900, .int x901, .int x902, .int x903] (fun r u => (n = 6 → r.toInt = 0 ∧ u = pv F (cn Mx τ)) ∧ (n ≠ 6 → r.toInt = 1 ∧ u = pv (fu F a900 4 (.int (nI (n + 1)))) (cn Mx τ))) := by
  refine k_metI "EdgeEchoes$Suspects" rfl (by decide +kernel) (Nat.le_of_ble_eq_true rfl) (fun r u h => (cI_nar (cI_01 (by by_cases q : n = 6; exact Or.inl (h.1 q).1; exact Or.inr (h.2 q).1))).1) ?_
  intro p e s m args below meth c Q ls X hG hl ret
  have hl : lv_has ls 4 [(0, .ref a900), (1, .int x901), (2, .int x902), (3, .int x903)] := hl
  have g902 := cI_rng x902
  have hN : ty_N τ (pv F (cn Mx τ)) := pv_N cn_N
  have hF : ty_Wf Mx τ (pv F (cn Mx τ)) [5000, 5001, 6007] := sup_F hs (by decide)
  have en : (nI n).toInt = (n : Int) := cI_nI (by omega)
  refine lv_aload_n X.1 X.2.1 dX5_append_0 rfl (lv_at hl 0 rfl) ?_
  refine gf_5_4 X hG h900 q_232 dX5_append_1 (fun x2 r2 => ?_)
  have e2 := pv_i r2 fn
  subst e2
  refine n_if_lt (tgt := 16) X dX5_append_4 (by decide) (fun c3 => ?_) (fun c3 => ?_)
  · refine n_ic X dX5_append_16 (by decide) (by decide) (fun x4 t4 => ?_)
    exact ret _ _ _ _ x4 _ hG ⟨fun _ => ⟨by omega, rfl⟩, fun q => absurd (show n = 6 by omega) q⟩ dX5_append_17
  · refine lv_aload_n X.1 X.2.1 dX5_append_7 rfl (lv_at hl 0 rfl) ?_
    refine gf_5_4 X hG h900 q_232 dX5_append_8 (fun x5 r5 => ?_)
    have e5 := pv_i r5 fn
    subst e5
    refine n_bp X dX5_append_11 (by decide) (by decide) (fun x6 t6 => ?_)
    refine n_icmp_lt (tgt := 18) X dX5_append_13 (by decide) (fun c7 => ?_) (fun c7 => ?_)
    · refine lv_aload_n X.1 X.2.1 dX5_append_18 rfl (lv_at hl 0 rfl) ?_
      refine gf_5_0 X hG h900 q_228 dX5_append_19 (hN _ _ _ h900) (fun a8 h8 r8 => ?_)
      refine lv_aload_n X.1 X.2.1 dX5_append_22 rfl (lv_at hl 0 rfl) ?_
      refine gf_5_4 X hG h900 q_232 dX5_append_23 (fun x9 r9 => ?_)
      have e9 := pv_i r9 fn
      subst e9
      refine lv_iload_n X.1 X.2.1 dX5_append_26 rfl (lv_at hl 1 rfl) ?_
      refine tg_iasf X hG h8 rfl (cI_in (n := 6) (by omega)) dX5_append_27 ((ty_Wf.sub (S' := [6007]) hF (by decide)) _ _ _ _ h8 (ty_in (n := 6007) rfl) (ty_ryes rfl (by omega))) (fun H locs hG => ?_)
      refine lv_aload_n X.1 X.2.1 dX5_append_28 rfl (lv_at hl 0 rfl) ?_
      refine gf_5_1 X hG h900 q_229 dX5_append_29 (hN _ _ _ h900) (fun a10 h10 r10 => ?_)
      refine lv_aload_n X.1 X.2.1 dX5_append_32 rfl (lv_at hl 0 rfl) ?_
      refine gf_5_4 X hG h900 q_232 dX5_append_33 (fun x11 r11 => ?_)
      have e11 := pv_i r11 fn
      subst e11
      refine lv_iload_n X.1 X.2.1 dX5_append_36 rfl (lv_at hl 2 rfl) ?_
      refine tg_iasf X hG h10 rfl (cI_in (n := 6) (by omega)) dX5_append_37 ((ty_Wf.sub (S' := [5000]) hF (by decide)) _ _ _ _ h10 (ty_in (n := 5000) rfl) (ty_rno rfl)) (fun H locs hG => ?_)
      refine lv_aload_n X.1 X.2.1 dX5_append_38 rfl (lv_at hl 0 rfl) ?_
      refine gf_5_2 X hG h900 q_230 dX5_append_39 (hN _ _ _ h900) (fun a12 h12 r12 => ?_)
      refine lv_aload_n X.1 X.2.1 dX5_append_42 rfl (lv_at hl 0 rfl) ?_
      refine gf_5_4 X hG h900 q_232 dX5_append_43 (fun x13 r13 => ?_)
      have e13 := pv_i r13 fn
      subst e13
      refine lv_iload_n X.1 X.2.1 dX5_append_46 rfl (lv_at hl 3 rfl) ?_
      refine tg_zast X hG h12 rfl (cI_in (n := 6) (by omega)) (by omega) dX5_append_47 (pv F (cn Mx τ)) (fun _ _ _ _ h => h) (fun _ _ _ h => h) ((ty_Wf.sub (S' := [5001]) hF (by decide)) _ _ _ _ h12 (ty_in (n := 5001) rfl) (ty_rno rfl)) (fun H locs hG => ?_)
      refine lv_aload_n X.1 X.2.1 dX5_append_48 rfl (lv_at hl 0 rfl) ?_
      refine lv_dup X.1 X.2.1 dX5_append_49 rfl ?_
      refine gf_5_4 X hG h900 q_232 dX5_append_50 (fun x14 r14 => ?_)
      have e14 := pv_i r14 fn
      subst e14
      refine n_ic X dX5_append_53 (by decide) (by decide) (fun x15 t15 => ?_)
      refine n_add X dX5_append_54 (by omega) (by omega) (fun x16 t16 => ?_)
      have e16 : x16 = nI (n + 1) := cI_inj (by rw [cI_nI (by omega)]; omega)
      subst e16
      refine pg_5_4 X hG h900 q_232 dX5_append_55 (pv (fu F a900 4 (.int (nI (n + 1)))) (cn Mx τ)) pv_off pv_oth (pv_new (cn_F (S := [504]) _ _ _ _ h900 (ty_in (n := 504) rfl) (ty_rno rfl))) (fun H locs hG => ?_)
      refine n_ic X dX5_append_58 (by decide) (by decide) (fun x17 t17 => ?_)
      exact ret _ _ _ _ x17 _ hG ⟨fun q => absurd q (by omega), fun _ => ⟨by omega, rfl⟩⟩ dX5_append_59
    · refine n_ic X dX5_append_16 (by decide) (by decide) (fun x18 t18 => ?_)
      exact ret _ _ _ _ x18 _ hG ⟨fun _ => ⟨by omega, rfl⟩, fun q => absurd (show n = 6 by omega) q⟩ dX5_append_17
set_option maxHeartbeats 4000000 in
set_option maxRecDepth 100000 in
theorem e_X9_see (l : Launch) (D : va_G) (cy : Nat → ClassId) (τ : ty_T) {F : Nat → Nat → Option Value} (hs : SUP τ F) {a900 : Nat} (h900 : τ a900 = some (0, 9)) {su n : Nat} (hsu : τ su = some (0, 5)) (fsu : F a900 4 = some (.ref su)) (fn : F su 4 = some (.int (nI n))) (hn : n ≤ 6) (x901 : Int32) (x902 : Int32) (x903 : Int32) (zx903 : x903.toInt = 0 ∨ x903.toInt = 1) : KI l D cy yX9_see cX9_see 4 .int (rL 1) τ (pv F (cn Mx τ)) [.ref a900, .int x901, .int x902, .int x903] (fun r u => (seeO x901 x902 → r.toInt = -1000000002 ∧ u = pv F (cn Mx τ)) ∧ (¬ seeO x901 x902 → n = 6 → r.toInt = -1000000004 ∧ u = pv F (cn Mx τ)) ∧ (¬ seeO x901 x902 → n ≠ 6 → r.toInt = (n : Int) + 1 ∧ u = pv (fu F su 4 (.int (nI (n + 1)))) (cn Mx τ))) := by
  refine k_metI "EdgeEchoes" rfl (by decide +kernel) (Nat.le_of_ble_eq_true rfl) (fun _ _ _ => rfl) ?_
  intro p e s m args below meth c Q ls X hG hl ret
  have hl : lv_has ls 4 [(0, .ref a900), (1, .int x901), (2, .int x902), (3, .int x903)] := hl
  have hN : ty_N τ (pv F (cn Mx τ)) := pv_N cn_N
  have ns : a900 ≠ su := fun q => by rw [q, hsu] at h900; cases h900
  have g901 := cI_rng x901
  have g902 := cI_rng x902
  refine lv_iload_n X.1 X.2.1 dX9_see_0 rfl (lv_at hl 1 rfl) ?_
  refine n_ic X dX9_see_1 (by decide) (by decide) (fun x1 t1 => ?_)
  refine n_icmp_lt (tgt := 23) X dX9_see_2 (by decide) (fun c2 => ?_) (fun c2 => ?_)
  · refine n_ldc X q_327 (n := -1000000002) (by decide +kernel) dX9_see_23 (fun x3 t3 => ?_)
    exact ret _ _ _ _ x3 _ hG ⟨fun _ => ⟨by omega, rfl⟩, fun q => absurd (show seeO x901 x902 by unfold seeO; omega) q, fun q => absurd (show seeO x901 x902 by unfold seeO; omega) q⟩ dX9_see_25
  · refine lv_iload_n X.1 X.2.1 dX9_see_5 rfl (lv_at hl 1 rfl) ?_
    refine n_sp X dX9_see_6 (by decide) (by decide) (fun x4 t4 => ?_)
    refine n_icmp_gt (tgt := 23) X dX9_see_9 (by decide) (fun c5 => ?_) (fun c5 => ?_)
    · refine n_ldc X q_327 (n := -1000000002) (by decide +kernel) dX9_see_23 (fun x6 t6 => ?_)
      exact ret _ _ _ _ x6 _ hG ⟨fun _ => ⟨by omega, rfl⟩, fun q => absurd (show seeO x901 x902 by unfold seeO; omega) q, fun q => absurd (show seeO x901 x902 by unfold seeO; omega) q⟩ dX9_see_25
    · refine lv_iload_n X.1 X.2.1 dX9_see_12 rfl (lv_at hl 2 rfl) ?_
      refine n_if_lt (tgt := 23) X dX9_see_13 (by decide) (fun c7 => ?_) (fun c7 => ?_)
      · refine n_ldc X q_327 (n := -1000000002) (by decide +kernel) dX9_see_23 (fun x8 t8 => ?_)
        exact ret _ _ _ _ x8 _ hG ⟨fun _ => ⟨by omega, rfl⟩, fun q => absurd (show seeO x901 x902 by unfold seeO; omega) q, fun q => absurd (show seeO x901 x902 by unfold seeO; omega) q⟩ dX9_see_25
      · refine lv_iload_n X.1 X.2.1 dX9_see_16 rfl (lv_at hl 2 rfl) ?_
        refine n_ldcw X q_791 (n := 99000) (by decide +kernel) dX9_see_17 (fun x9 t9 => ?_)
        refine n_icmp_le (tgt := 26) X dX9_see_20 (by decide) (fun c10 => ?_) (fun c10 => ?_)
        · refine lv_aload_n X.1 X.2.1 dX9_see_26 rfl (lv_at hl 0 rfl) ?_
          refine gf_9_4 X hG h900 q_299 dX9_see_27 (hN _ _ _ h900) (fun a11 h11 r11 => ?_)
          have e11 := pv_rd r11 fsu
          cases e11
          refine lv_iload_n X.1 X.2.1 dX9_see_30 rfl (lv_at hl 1 rfl) ?_
          refine lv_iload_n X.1 X.2.1 dX9_see_31 rfl (lv_at hl 2 rfl) ?_
          refine lv_iload_n X.1 X.2.1 dX9_see_32 rfl (lv_at hl 3 rfl) ?_
          refine k_cVi X hG (e_X5_append l D cy τ hs hn h11 fn x901 (by omega) x902 x903 (by omega)) h11 rfl yv_X5_append q_792 ⟨rfl, rfl⟩ ⟨Nat.le_of_ble_eq_true rfl, Nat.le_of_ble_eq_true rfl⟩ rfl hl.1 rfl (Nat.le_of_ble_eq_true rfl) ⟨Nat.zero_le _, Nat.zero_le _⟩ dX9_see_33 (fun x13 u14 H locs hG po12 => ?_)
          obtain ⟨w1, w2⟩ := po12
          have hno : ¬ seeO x901 x902 := by unfold seeO; omega
          by_cases hn6 : n = 6
          · obtain ⟨w3, w4⟩ := w1 hn6
            rw [w4] at hG
            refine n_if_eq (tgt := 49) X dX9_see_36 (by decide) (fun c15 => ?_) (fun c15 => ?_)
            · refine n_ldc X q_332 (n := -1000000004) (by decide +kernel) dX9_see_49 (fun x16 t16 => ?_)
              exact ret _ _ _ _ x16 _ hG ⟨fun q => absurd q hno, fun _ _ => ⟨by omega, rfl⟩, fun _ q => absurd hn6 q⟩ dX9_see_51
            · exact absurd w3 c15
          · obtain ⟨w3, w4⟩ := w2 hn6
            rw [w4] at hG
            refine n_if_eq (tgt := 49) X dX9_see_36 (by decide) (fun c15 => ?_) (fun c15 => ?_)
            · exact absurd c15 (by omega)
            · refine lv_aload_n X.1 X.2.1 dX9_see_39 rfl (lv_at hl 0 rfl) ?_
              refine gf_9_4 X hG h900 q_299 dX9_see_40 (pv_N cn_N _ _ _ h900) (fun a17 h17 r17 => ?_)
              have e17 := pv_rd r17 ((fu_b ns).trans fsu)
              cases e17
              refine gf_5_4 X hG h17 q_233 dX9_see_43 (fun x18 r18 => ?_)
              have u18 := pv_i r18 fu_at
              subst u18
              refine lv_goto (tgt := 51) X.1 X.2.1 dX9_see_46 (by decide) ?_
              exact ret _ _ _ _ _ _ hG ⟨fun q => absurd q hno, fun _ q => absurd q hn6, fun _ _ => ⟨by rw [cI_nI (by omega)]; rfl, rfl⟩⟩ dX9_see_51
        · refine n_ldc X q_327 (n := -1000000002) (by decide +kernel) dX9_see_23 (fun x19 t19 => ?_)
          exact ret _ _ _ _ x19 _ hG ⟨fun _ => ⟨by omega, rfl⟩, fun q => absurd (show seeO x901 x902 by unfold seeO; omega) q, fun q => absurd (show seeO x901 x902 by unfold seeO; omega) q⟩ dX9_see_25
set_option maxHeartbeats 4000000 in
set_option maxRecDepth 100000 in
theorem e_X9_tear (l : Launch) (D : va_G) (cy : Nat → ClassId) (τ : ty_T) {F : Nat → Nat → Option Value} (hs : SUP τ F) {xa su bk n m : Nat} (hxa : τ xa = some (0, 9)) (hsu : τ su = some (0, 5)) (hbk : τ bk = some (0, 0)) (fsu : F xa 4 = some (.ref su)) (fbk : F xa 5 = some (.ref bk)) (fn : F su 4 = some (.int (nI n))) (fm : F bk 2 = some (.int (nI m))) (hn : n ≤ 6) (hm : m ≤ 20) : KI l D cy yX9_tear cX9_tear 2 .int (rL 0) τ (pv F (cn Mx τ)) [.ref xa] (fun r u => u = pv (fu (fu F su 4 (.int (nI 0))) bk 2 (.int (nI 0))) (cn Mx τ) ∧ r.toInt = (n : Int) + (m : Int)) := by
  refine k_metI "EdgeEchoes" rfl (by decide +kernel) (Nat.le_of_ble_eq_true rfl) (fun _ _ _ => rfl) ?_
  intro p e s mi args below meth c Q ls X hG hl ret
  have hl : lv_has ls 2 [(0, .ref xa)] := hl
  have hN : ty_N τ (pv F (cn Mx τ)) := pv_N cn_N
  have en : (nI n).toInt = (n : Int) := cI_nI (by omega)
  have em : (nI m).toInt = (m : Int) := cI_nI (by omega)
  have ns : xa ≠ su := fun q => by rw [q, hsu] at hxa; cases hxa
  refine lv_aload_n X.1 X.2.1 dX9_tear_0 rfl (lv_at hl 0 rfl) ?_
  refine gf_9_4 X hG hxa q_299 dX9_tear_1 (hN _ _ _ hxa) (fun a1 h1 r1 => ?_)
  have e1 := pv_rd r1 fsu
  cases e1
  refine gf_5_4 X hG h1 q_233 dX9_tear_4 (fun x2 r2 => ?_)
  have u2 := pv_i r2 fn
  subst u2
  refine lv_aload_n X.1 X.2.1 dX9_tear_7 rfl (lv_at hl 0 rfl) ?_
  refine gf_9_5 X hG hxa q_300 dX9_tear_8 (hN _ _ _ hxa) (fun a3 h3 r3 => ?_)
  have e3 := pv_rd r3 fbk
  cases e3
  refine gf_0_2 X hG h3 q_267 dX9_tear_11 (fun x4 r4 => ?_)
  have u4 := pv_i r4 fm
  subst u4
  refine n_add X dX9_tear_14 (by omega) (by omega) (fun x5 t5 => ?_)
  refine lv_istore_n (lv' := [(1, .int x5), (0, .ref xa)]) X.1 X.2.1 dX9_tear_15 rfl hl (by decide) rfl (fun ls hl => ?_)
  refine lv_aload_n X.1 X.2.1 dX9_tear_16 rfl (lv_at hl 1 rfl) ?_
  refine gf_9_4 X hG hxa q_299 dX9_tear_17 (hN _ _ _ hxa) (fun a6 h6 r6 => ?_)
  have e6 := pv_rd r6 fsu
  cases e6
  refine n_ic X dX9_tear_20 (by decide) (by decide) (fun x7 t7 => ?_)
  have e7 : x7 = nI 0 := cI_inj (by rw [t7]; rfl)
  subst e7
  refine pg_5_4 X hG h6 q_233 dX9_tear_21 (pv (fu F su 4 (.int (nI 0))) (cn Mx τ)) pv_off pv_oth (pv_new (cn_F (S := [504]) _ _ _ _ h6 (ty_in (n := 504) rfl) (ty_rno rfl))) (fun H locs hG => ?_)
  have hN : ty_N τ (pv (fu F su 4 (.int (nI 0))) (cn Mx τ)) := pv_N cn_N
  refine lv_aload_n X.1 X.2.1 dX9_tear_24 rfl (lv_at hl 1 rfl) ?_
  refine gf_9_5 X hG hxa q_300 dX9_tear_25 (hN _ _ _ hxa) (fun a8 h8 r8 => ?_)
  have e8 := pv_rd r8 ((fu_b ns).trans fbk)
  cases e8
  refine n_ic X dX9_tear_28 (by decide) (by decide) (fun x9 t9 => ?_)
  have e9 : x9 = nI 0 := cI_inj (by rw [t9]; rfl)
  subst e9
  refine pg_0_2 X hG h8 q_267 dX9_tear_29 (pv (fu (fu F su 4 (.int (nI 0))) bk 2 (.int (nI 0))) (cn Mx τ)) pv_off pv_oth (pv_new (cn_F (S := [2]) _ _ _ _ h8 (ty_in (n := 2) rfl) (ty_rno rfl))) (fun H locs hG => ?_)
  refine lv_iload_n X.1 X.2.1 dX9_tear_32 rfl (lv_at hl 0 rfl) ?_
  exact ret _ _ _ _ x5 _ hG ⟨rfl, by omega⟩ dX9_tear_33
