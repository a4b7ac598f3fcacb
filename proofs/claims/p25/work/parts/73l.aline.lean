/-! the class's line with its answer: the draft's cells go over to what is so -/
theorem tg_pinv {D : va_G} {cy : Nat → ClassId} {τ : ty_T} {ρ : ty_R} {f0 : Nat → Nat → Option Value} {A : Nat → Prop} {H0 H : Heap} {locs : List Loc} (hG : TG D cy τ (pv f0 ρ) A H0 H locs) {a k : Nat} (ha : τ a = some (0, k)) (j : Nat) {z : Nat × Nat × Nat} (hj : (ty_fs k)[j]? = some z) : ∃ v, TG D cy τ (pv (fu f0 a j v) ρ) A H0 H locs := by
  obtain ⟨⟨L, f, hP, hD, hdom, hok⟩, hS, hA⟩ := hG
  obtain ⟨fs, he, hlen, hv⟩ := (hok a _ ha).1 rfl
  have hjl : j < fs.length := by rw [hlen]; exact (List.getElem?_eq_some_iff.mp hj).1
  refine ⟨fs[j], ⟨L, f, hP, hD, hdom, fun b t hb => ?_⟩, hS, hA⟩
  by_cases hba : b = a
  · subst hba
    rw [ha] at hb
    cases hb
    refine ⟨fun _ => ⟨fs, he, hlen, fun i g v hg hi => ⟨(hv i g v hg hi).1, (hv i g v hg hi).2.1, fun y hy => ?_⟩⟩, (fun h => by cases h), (fun h => by cases h), (fun h => by cases h)⟩
    by_cases e : i = j
    · subst e
      rw [fu_at] at hy
      cases hy
      rw [List.getElem?_eq_getElem hjl] at hi
      cases hi
      rfl
    · rw [fu_j e] at hy
      exact (hv i g v hg hi).2.2 y hy
  · exact (hok b t hb).mono (fun i v h => ⟨h.1, fun y hy => h.2 y (by rw [fu_b hba] at hy; exact hy)⟩)
def SCW : List Nat := [806, 808, 809, 810, 811, 812, 5000, 6005]
def SCL : List Nat := [106, 302, 303, 806, 808, 809, 810, 811, 812, 5000, 6005]
def SCK : List Nat := [2, 202, 401, 504, 106, 302, 303, 806, 808, 809, 810, 811, 812, 5000, 6005]
def FL (τ : ty_T) (S : List Nat) (f : Nat → Nat → Option Value) : Prop := ∀ a t j, τ a = some t → ty_cd t j ∈ S → f a j = none
theorem fl_fu {τ : ty_T} {S : List Nat} {f : Nat → Nat → Option Value} {b j : Nat} {x : Value} {t0 : ty_C} (h : FL τ S f) (hb : τ b = some t0) (hc : ty_cd t0 j ∉ S) : FL τ S (fu f b j x) := by
  intro a t i ha hn
  by_cases e : a = b ∧ i = j
  · obtain ⟨rfl, rfl⟩ := e
    rw [hb] at ha
    cases ha
    exact absurd hn hc
  · rw [fu_ne e]
    exact h a t i ha hn
set_option maxHeartbeats 4000000 in
set_option maxRecDepth 100000 in
theorem e_X8_copyFrom (l : Launch) (D : va_G) (cy : Nat → ClassId) (τ : ty_T) (ρ : ty_R) {M : md_T} {f : Nat → Nat → Option Value} {x : Int32} (hN : ty_N τ ρ) (hR : ty_Rg M τ ρ) (hF : ty_Wf M τ ρ [806, 807, 808, 809, 810, 811, 812, 5000, 6005]) (hf : FL τ SCW f) {a900 : Nat} (h900 : τ a900 = some (0, 8)) {a901 : Nat} (h901 : τ a901 = some (0, 8)) (hx : f a901 7 = some (.int x)) : KV l D cy yX8_copyFrom cX8_copyFrom 2 (rL 1) τ (pv f ρ) [.ref a900, .ref a901] (fun w => w = pv (fu f a900 7 (.int x)) ρ) := by
  refine k_metV "EdgeEchoes$Wire" rfl (by decide +kernel) (Nat.le_of_ble_eq_true rfl) ?_
  intro p e s m args below meth c Q ls X hG hl ret
  have hl : lv_has ls 2 [(0, .ref a900), (1, .ref a901)] := hl
  have hN1 : ty_N τ (pv f ρ) := pv_N hN
  have hR1 : ty_Rg M τ (pv f ρ) := pv_R hR
  have hF1 : ty_Wf M τ (pv f ρ) SCW := pv_F (ty_Wf.sub (S' := SCW) hF (by decide)) hf
  refine lv_aload_n X.1 X.2.1 dX8_copyFrom_0 rfl (lv_at hl 1 rfl) ?_
  refine gf_8_0 X hG h901 q_65 dX8_copyFrom_1 (hN1 _ _ _ h901) (fun a1 h1 r1 => ?_)
  refine n_ic X dX8_copyFrom_4 (by decide) (by decide) (fun x2 t2 => ?_)
  refine lv_aload_n X.1 X.2.1 dX8_copyFrom_5 rfl (lv_at hl 0 rfl) ?_
  refine gf_8_0 X hG h900 q_65 dX8_copyFrom_6 (hN1 _ _ _ h900) (fun a3 h3 r3 => ?_)
  refine n_ic X dX8_copyFrom_9 (by decide) (by decide) (fun x4 t4 => ?_)
  refine n_bp X dX8_copyFrom_10 (by decide) (by decide) (fun x5 t5 => ?_)
  refine tg_copy X hG hl.1 h1 h3 rfl rfl (by omega) (by omega) (by omega) (by show _ ≤ ((8 : Nat) : Int); omega) (by show _ ≤ ((8 : Nat) : Int); omega) q_524 q_526 q_525 q_19 (Nat.le_of_ble_eq_true rfl) (Nat.le_of_ble_eq_true rfl) dX8_copyFrom_12 (fun j j2 x hx => hF1 _ _ _ _ h3 (ty_in (n := 5000) rfl) (ty_rno rfl)) (fun H locs hG => ?_)
  refine lv_aload_n X.1 X.2.1 dX8_copyFrom_15 rfl (lv_at hl 1 rfl) ?_
  refine gf_8_1 X hG h901 q_67 dX8_copyFrom_16 (hN1 _ _ _ h901) (fun a6 h6 r6 => ?_)
  refine n_ic X dX8_copyFrom_19 (by decide) (by decide) (fun x7 t7 => ?_)
  refine lv_aload_n X.1 X.2.1 dX8_copyFrom_20 rfl (lv_at hl 0 rfl) ?_
  refine gf_8_1 X hG h900 q_67 dX8_copyFrom_21 (hN1 _ _ _ h900) (fun a8 h8 r8 => ?_)
  refine n_ic X dX8_copyFrom_24 (by decide) (by decide) (fun x9 t9 => ?_)
  refine n_bp X dX8_copyFrom_25 (by decide) (by decide) (fun x10 t10 => ?_)
  refine tg_copy X hG hl.1 h6 h8 rfl rfl (by omega) (by omega) (by omega) (by show _ ≤ ((8 : Nat) : Int); omega) (by show _ ≤ ((8 : Nat) : Int); omega) q_524 q_526 q_525 q_19 (Nat.le_of_ble_eq_true rfl) (Nat.le_of_ble_eq_true rfl) dX8_copyFrom_27 (fun j j2 x hx => hF1 _ _ _ _ h8 (ty_in (n := 6005) rfl) (fun lo hi q => hR1 _ _ j _ h6 hx lo hi q)) (fun H locs hG => ?_)
  refine lv_aload_n X.1 X.2.1 dX8_copyFrom_30 rfl (lv_at hl 1 rfl) ?_
  refine gf_8_2 X hG h901 q_69 dX8_copyFrom_31 (hN1 _ _ _ h901) (fun a11 h11 r11 => ?_)
  refine n_ic X dX8_copyFrom_34 (by decide) (by decide) (fun x12 t12 => ?_)
  refine lv_aload_n X.1 X.2.1 dX8_copyFrom_35 rfl (lv_at hl 0 rfl) ?_
  refine gf_8_2 X hG h900 q_69 dX8_copyFrom_36 (hN1 _ _ _ h900) (fun a13 h13 r13 => ?_)
  refine n_ic X dX8_copyFrom_39 (by decide) (by decide) (fun x14 t14 => ?_)
  refine n_bp X dX8_copyFrom_40 (by decide) (by decide) (fun x15 t15 => ?_)
  refine tg_copy X hG hl.1 h11 h13 rfl rfl (by omega) (by omega) (by omega) (by show _ ≤ ((72 : Nat) : Int); omega) (by show _ ≤ ((72 : Nat) : Int); omega) q_524 q_526 q_525 q_19 (Nat.le_of_ble_eq_true rfl) (Nat.le_of_ble_eq_true rfl) dX8_copyFrom_42 (fun j j2 x hx => hF1 _ _ _ _ h13 (ty_in (n := 5000) rfl) (ty_rno rfl)) (fun H locs hG => ?_)
  refine lv_aload_n X.1 X.2.1 dX8_copyFrom_45 rfl (lv_at hl 1 rfl) ?_
  refine gf_8_3 X hG h901 q_70 dX8_copyFrom_46 (hN1 _ _ _ h901) (fun a16 h16 r16 => ?_)
  refine n_ic X dX8_copyFrom_49 (by decide) (by decide) (fun x17 t17 => ?_)
  refine lv_aload_n X.1 X.2.1 dX8_copyFrom_50 rfl (lv_at hl 0 rfl) ?_
  refine gf_8_3 X hG h900 q_70 dX8_copyFrom_51 (hN1 _ _ _ h900) (fun a18 h18 r18 => ?_)
  refine n_ic X dX8_copyFrom_54 (by decide) (by decide) (fun x19 t19 => ?_)
  refine n_bp X dX8_copyFrom_55 (by decide) (by decide) (fun x20 t20 => ?_)
  refine tg_copy X hG hl.1 h16 h18 rfl rfl (by omega) (by omega) (by omega) (by show _ ≤ ((72 : Nat) : Int); omega) (by show _ ≤ ((72 : Nat) : Int); omega) q_524 q_526 q_525 q_19 (Nat.le_of_ble_eq_true rfl) (Nat.le_of_ble_eq_true rfl) dX8_copyFrom_57 (fun j j2 x hx => hF1 _ _ _ _ h18 (ty_in (n := 5000) rfl) (ty_rno rfl)) (fun H locs hG => ?_)
  refine lv_aload_n X.1 X.2.1 dX8_copyFrom_60 rfl (lv_at hl 1 rfl) ?_
  refine gf_8_4 X hG h901 q_72 dX8_copyFrom_61 (hN1 _ _ _ h901) (fun a21 h21 r21 => ?_)
  refine n_ic X dX8_copyFrom_64 (by decide) (by decide) (fun x22 t22 => ?_)
  refine lv_aload_n X.1 X.2.1 dX8_copyFrom_65 rfl (lv_at hl 0 rfl) ?_
  refine gf_8_4 X hG h900 q_72 dX8_copyFrom_66 (hN1 _ _ _ h900) (fun a23 h23 r23 => ?_)
  refine n_ic X dX8_copyFrom_69 (by decide) (by decide) (fun x24 t24 => ?_)
  refine n_bp X dX8_copyFrom_70 (by decide) (by decide) (fun x25 t25 => ?_)
  refine tg_copy X hG hl.1 h21 h23 rfl rfl (by omega) (by omega) (by omega) (by show _ ≤ ((72 : Nat) : Int); omega) (by show _ ≤ ((72 : Nat) : Int); omega) q_524 q_526 q_525 q_19 (Nat.le_of_ble_eq_true rfl) (Nat.le_of_ble_eq_true rfl) dX8_copyFrom_72 (fun j j2 x hx => hF1 _ _ _ _ h23 (ty_in (n := 5000) rfl) (ty_rno rfl)) (fun H locs hG => ?_)
  refine lv_aload_n X.1 X.2.1 dX8_copyFrom_75 rfl (lv_at hl 1 rfl) ?_
  refine gf_8_5 X hG h901 q_75 dX8_copyFrom_76 (hN1 _ _ _ h901) (fun a26 h26 r26 => ?_)
  refine n_ic X dX8_copyFrom_79 (by decide) (by decide) (fun x27 t27 => ?_)
  refine lv_aload_n X.1 X.2.1 dX8_copyFrom_80 rfl (lv_at hl 0 rfl) ?_
  refine gf_8_5 X hG h900 q_75 dX8_copyFrom_81 (hN1 _ _ _ h900) (fun a28 h28 r28 => ?_)
  refine n_ic X dX8_copyFrom_84 (by decide) (by decide) (fun x29 t29 => ?_)
  refine n_bp X dX8_copyFrom_85 (by decide) (by decide) (fun x30 t30 => ?_)
  refine tg_copy X hG hl.1 h26 h28 rfl rfl (by omega) (by omega) (by omega) (by show _ ≤ ((72 : Nat) : Int); omega) (by show _ ≤ ((72 : Nat) : Int); omega) q_524 q_526 q_525 q_19 (Nat.le_of_ble_eq_true rfl) (Nat.le_of_ble_eq_true rfl) dX8_copyFrom_87 (fun j j2 x hx => hF1 _ _ _ _ h28 (ty_in (n := 5000) rfl) (ty_rno rfl)) (fun H locs hG => ?_)
  refine lv_aload_n X.1 X.2.1 dX8_copyFrom_90 rfl (lv_at hl 0 rfl) ?_
  refine lv_aload_n X.1 X.2.1 dX8_copyFrom_91 rfl (lv_at hl 1 rfl) ?_
  refine gf_8_6 X hG h901 q_78 dX8_copyFrom_92 (fun x31 r31 => ?_)
  have b31 := (hR1 _ _ _ _ h901 r31) _ _ rfl
  refine pf_8_6 X hG h900 q_78 dX8_copyFrom_95 (hF1 _ _ _ _ h900 (ty_in (n := 806) rfl) (ty_ryes rfl (by omega))) (fun H locs hG => ?_)
  refine lv_aload_n X.1 X.2.1 dX8_copyFrom_98 rfl (lv_at hl 0 rfl) ?_
  refine lv_aload_n X.1 X.2.1 dX8_copyFrom_99 rfl (lv_at hl 1 rfl) ?_
  refine gf_8_7 X hG h901 q_81 dX8_copyFrom_100 (fun x32 r32 => ?_)
  have b32 := (hR1 _ _ _ _ h901 r32) _ _ rfl
  have u32 := pv_i r32 hx
  subst u32
  refine pg_8_7 X hG h900 q_81 dX8_copyFrom_103 (pv (fu f a900 7 (.int x32)) ρ) pv_off pv_oth (pv_new (hF _ _ _ _ h900 (ty_in (n := 807) rfl) (ty_ryes rfl (by omega)))) (fun H locs hG => ?_)
  have hN2 : ty_N τ (pv (fu f a900 7 (.int x32)) ρ) := pv_N hN
  have hR2 : ty_Rg M τ (pv (fu f a900 7 (.int x32)) ρ) := pv_R hR
  have hF2 : ty_Wf M τ (pv (fu f a900 7 (.int x32)) ρ) SCW := pv_F (ty_Wf.sub (S' := SCW) hF (by decide)) (fl_fu (j := 7) hf h900 (by decide))
  refine lv_aload_n X.1 X.2.1 dX8_copyFrom_106 rfl (lv_at hl 0 rfl) ?_
  refine lv_aload_n X.1 X.2.1 dX8_copyFrom_107 rfl (lv_at hl 1 rfl) ?_
  refine gf_8_8 X hG h901 q_84 dX8_copyFrom_108 (fun x33 r33 => ?_)
  have g33 := cI_rng x33
  refine pf_8_8 X hG h900 q_84 dX8_copyFrom_111 (hF2 _ _ _ _ h900 (ty_in (n := 808) rfl) (ty_rno rfl)) (fun H locs hG => ?_)
  refine lv_aload_n X.1 X.2.1 dX8_copyFrom_114 rfl (lv_at hl 0 rfl) ?_
  refine lv_aload_n X.1 X.2.1 dX8_copyFrom_115 rfl (lv_at hl 1 rfl) ?_
  refine gf_8_9 X hG h901 q_88 dX8_copyFrom_116 (fun x34 r34 => ?_)
  have g34 := cI_rng x34
  refine pf_8_9 X hG h900 q_88 dX8_copyFrom_119 (hF2 _ _ _ _ h900 (ty_in (n := 809) rfl) (ty_rno rfl)) (fun H locs hG => ?_)
  refine lv_aload_n X.1 X.2.1 dX8_copyFrom_122 rfl (lv_at hl 0 rfl) ?_
  refine lv_aload_n X.1 X.2.1 dX8_copyFrom_123 rfl (lv_at hl 1 rfl) ?_
  refine gf_8_10 X hG h901 q_91 dX8_copyFrom_124 (fun x35 r35 => ?_)
  have g35 := cI_rng x35
  refine pf_8_10 X hG h900 q_91 dX8_copyFrom_127 (hF2 _ _ _ _ h900 (ty_in (n := 810) rfl) (ty_rno rfl)) (fun H locs hG => ?_)
  refine lv_aload_n X.1 X.2.1 dX8_copyFrom_130 rfl (lv_at hl 0 rfl) ?_
  refine lv_aload_n X.1 X.2.1 dX8_copyFrom_131 rfl (lv_at hl 1 rfl) ?_
  refine gf_8_11 X hG h901 q_93 dX8_copyFrom_132 (fun x36 r36 => ?_)
  have g36 := cI_rng x36
  refine pf_8_11 X hG h900 q_93 dX8_copyFrom_135 (hF2 _ _ _ _ h900 (ty_in (n := 811) rfl) (ty_rno rfl)) (fun H locs hG => ?_)
  refine lv_aload_n X.1 X.2.1 dX8_copyFrom_138 rfl (lv_at hl 0 rfl) ?_
  refine lv_aload_n X.1 X.2.1 dX8_copyFrom_139 rfl (lv_at hl 1 rfl) ?_
  refine gf_8_12 X hG h901 q_95 dX8_copyFrom_140 (fun x37 b37 r37 => ?_)
  refine pf_8_12 X hG h900 q_95 (by omega) dX8_copyFrom_143 (hF2 _ _ _ _ h900 (ty_in (n := 812) rfl) (ty_rno rfl)) (fun H locs hG => ?_)
  exact ret _ _ _ _ _ hG rfl dX8_copyFrom_146
set_option maxHeartbeats 4000000 in
set_option maxRecDepth 100000 in
theorem e_X3_copyFrom (l : Launch) (D : va_G) (cy : Nat → ClassId) (τ : ty_T) (ρ : ty_R) {M : md_T} {f : Nat → Nat → Option Value} {x : Int32} {wo : Nat} (hN : ty_N τ ρ) (hR : ty_Rg M τ ρ) (hF : ty_Wf M τ ρ [106, 302, 303, 806, 807, 808, 809, 810, 811, 812, 5000, 6005]) (hf : FL τ SCL f) {a900 : Nat} (h900 : τ a900 = some (0, 3)) {a901 : Nat} (h901 : τ a901 = some (0, 3)) {v : Value} (fa : f a900 0 = some v) (fb : ∀ y, ρ a901 0 y → y = .ref wo) (hx : f wo 7 = some (.int x)) : KV l D cy yX3_copyFrom cX3_copyFrom 2 (rL 2) τ (pv f ρ) [.ref a900, .ref a901] (fun w => ∃ wn, v = .ref wn ∧ τ wn = some (0, 8) ∧ w = pv (fu f wn 7 (.int x)) ρ) := by
  refine k_metV "EdgeEchoes$Line" rfl (by decide +kernel) (Nat.le_of_ble_eq_true rfl) ?_
  intro p e s m args below meth c Q ls X hG hl ret
  have hl : lv_has ls 2 [(0, .ref a900), (1, .ref a901)] := hl
  have hN1 : ty_N τ (pv f ρ) := pv_N hN
  have hR1 : ty_Rg M τ (pv f ρ) := pv_R hR
  have hF1 : ty_Wf M τ (pv f ρ) SCL := pv_F (ty_Wf.sub (S' := SCL) hF (by decide)) hf
  refine lv_aload_n X.1 X.2.1 dX3_copyFrom_0 rfl (lv_at hl 0 rfl) ?_
  refine gf_3_0 X hG h900 q_162 dX3_copyFrom_1 (hN1 _ _ _ h900) (fun a1 h1 r1 => ?_)
  have e1 := pv_rd r1 fa
  refine lv_aload_n X.1 X.2.1 dX3_copyFrom_4 rfl (lv_at hl 1 rfl) ?_
  refine gf_3_0 X hG h901 q_162 dX3_copyFrom_5 (hN1 _ _ _ h901) (fun a2 h2 r2 => ?_)
  have e2 := fb _ r2.1
  cases e2
  refine k_cVv X hG (e_X8_copyFrom l D cy τ ρ hN hR (ty_Wf.sub (S' := [806, 807, 808, 809, 810, 811, 812, 5000, 6005]) hF (by decide)) (fun a t j ha hc => hf a t j ha ((by decide : ∀ n ∈ SCW, n ∈ SCL) _ hc)) h1 h2 hx) h1 rfl yv_X8_copyFrom q_520 ⟨rfl, rfl⟩ ⟨Nat.le_of_ble_eq_true rfl, Nat.le_of_ble_eq_true rfl⟩ rfl hl.1 rfl (Nat.le_of_ble_eq_true rfl) ⟨Nat.zero_le _, Nat.zero_le _⟩ dX3_copyFrom_8 (fun u5 H locs hG po3 => ?_)
  rw [po3] at hG
  have hN2 : ty_N τ (pv (fu f a1 7 (.int x)) ρ) := pv_N hN
  have hR2 : ty_Rg M τ (pv (fu f a1 7 (.int x)) ρ) := pv_R hR
  have hF2 : ty_Wf M τ (pv (fu f a1 7 (.int x)) ρ) SCL := pv_F (ty_Wf.sub (S' := SCL) hF (by decide)) (fl_fu (j := 7) hf h1 (by decide))
  refine lv_aload_n X.1 X.2.1 dX3_copyFrom_11 rfl (lv_at hl 0 rfl) ?_
  refine gf_3_1 X hG h900 q_167 dX3_copyFrom_12 (hN2 _ _ _ h900) (fun a6 h6 r6 => ?_)
  refine lv_aload_n X.1 X.2.1 dX3_copyFrom_15 rfl (lv_at hl 1 rfl) ?_
  refine gf_3_1 X hG h901 q_167 dX3_copyFrom_16 (hN2 _ _ _ h901) (fun a7 h7 r7 => ?_)
  refine k_cVv X hG (c_X1_copyFrom l D cy τ _ hN2 hR2 (ty_Wf.sub (S' := [106, 5000]) hF2 (by decide)) h6 h7) h6 rfl yv_X1_copyFrom q_527 ⟨rfl, rfl⟩ ⟨Nat.le_of_ble_eq_true rfl, Nat.le_of_ble_eq_true rfl⟩ rfl hl.1 rfl (Nat.le_of_ble_eq_true rfl) ⟨Nat.zero_le _, Nat.zero_le _⟩ dX3_copyFrom_19 (fun u10 H locs hG po8 => ?_)
  rw [po8] at hG
  refine lv_aload_n X.1 X.2.1 dX3_copyFrom_22 rfl (lv_at hl 0 rfl) ?_
  refine lv_aload_n X.1 X.2.1 dX3_copyFrom_23 rfl (lv_at hl 1 rfl) ?_
  refine gf_3_2 X hG h901 q_171 dX3_copyFrom_24 (fun x11 b11 r11 => ?_)
  refine pf_3_2 X hG h900 q_171 (by omega) dX3_copyFrom_27 (hF2 _ _ _ _ h900 (ty_in (n := 302) rfl) (ty_rno rfl)) (fun H locs hG => ?_)
  refine lv_aload_n X.1 X.2.1 dX3_copyFrom_30 rfl (lv_at hl 0 rfl) ?_
  refine lv_aload_n X.1 X.2.1 dX3_copyFrom_31 rfl (lv_at hl 1 rfl) ?_
  refine gf_3_3 X hG h901 q_174 dX3_copyFrom_32 (fun x12 r12 => ?_)
  have g12 := cI_rng x12
  refine pf_3_3 X hG h900 q_174 dX3_copyFrom_35 (hF2 _ _ _ _ h900 (ty_in (n := 303) rfl) (ty_rno rfl)) (fun H locs hG => ?_)
  exact ret _ _ _ _ _ hG ⟨_, e1.symm, h1, rfl⟩ dX3_copyFrom_38
set_option maxHeartbeats 4000000 in
set_option maxRecDepth 100000 in
theorem q_X9_line (l : Launch) (D : va_G) (cy : Nat → ClassId) (τ : ty_T) (z : EVt) {F : Nat → Nat → Option Value} {xa tx la nu tr dr wi ga c : Nat} {T : Nat → Int32} (hp : PF τ F xa tx la nu tr dr wi ga c T) (hs : SUP τ F) (hc : c ≤ 240) (hB : ∀ j, j < c → 0 ≤ (T j).toInt ∧ (T j).toInt ≤ 255) : KIE l D cy yX9_line cX9_line 4 .int (rL 10) τ (pv F (cn Mx τ)) z [.ref xa] (fun r u => ((rdF T c (c + 1) (false, 0, 0, false, 0) (sk T c 0)).1 ≠ 0 → r.toInt = -10 - ((rdF T c (c + 1) (false, 0, 0, false, 0) (sk T c 0)).1 : Int) ∧ u = pv (fu (fu F tx 2 (.int 0)) xa 7 (.int (nI (rdF T c (c + 1) (false, 0, 0, false, 0) (sk T c 0)).2.1))) (cn Mx τ)) ∧ ((rdF T c (c + 1) (false, 0, 0, false, 0) (sk T c 0)).1 = 0 → r.toInt = ((rdF T c (c + 1) (false, 0, 0, false, 0) (sk T c 0)).2.2.2.2.1 : Int) ∧ u = pv (fu (fu F tx 2 (.int 0)) xa 7 (.int (-1))) (cn Mx τ))) := by
  refine k_metIE "EdgeEchoes" rfl (by decide +kernel) (Nat.le_of_ble_eq_true rfl) (fun _ _ _ => rfl) ?_
  intro p e s m args below meth cod Q ls X hG hEv hl ret
  obtain ⟨vO, vC, vV, vT, vR, vZ, z1, v1, z2, v2, z3, v3⟩ := id hEv
  have hl : lv_has ls 4 [(0, .ref xa)] := hl
  obtain ⟨hxa, htx, hla, hnu, htr, hdr, hwi, hga, f0, f2, f70, f30, f31, fT⟩ := hp
  have hN : ty_N τ (pv F (cn Mx τ)) := pv_N cn_N
  have hR : ty_Rg Mx τ (pv F (cn Mx τ)) := pv_R cn_R
  have hFr : ty_Wf Mx τ (pv F (cn Mx τ)) SRd := sup_F hs (by decide)
  have n1 : xa ≠ tx := fun q => by rw [q, htx] at hxa; cases hxa
  refine lv_aload_n X.1 X.2.1 dX9_line_0 rfl (lv_at hl 0 rfl) ?_
  refine gf_9_2 X hG hxa q_297 dX9_line_1 (hN _ _ _ hxa) (fun a1 h1 r1 => ?_)
  have e1 := pv_rd r1 f2
  cases e1
  refine gf_7_0 X hG h1 q_194 dX9_line_4 (hN _ _ _ h1) (fun a2 h2 r2 => ?_)
  have e2 := pv_rd r2 f70
  cases e2
  refine lv_astore_n (lv' := [(1, .ref dr), (0, .ref xa)]) X.1 X.2.1 dX9_line_7 rfl hl (by decide) rfl (fun ls hl => ?_)
  refine lv_aload_n X.1 X.2.1 dX9_line_8 rfl (lv_at hl 1 rfl) ?_
  refine gf_9_0 X hG hxa q_295 dX9_line_9 (hN _ _ _ hxa) (fun a3 h3 r3 => ?_)
  have e3 := pv_rd r3 f0
  cases e3
  refine lv_aload_n X.1 X.2.1 dX9_line_12 rfl (lv_at hl 0 rfl) ?_
  have hG : TG D cy τ (pv F (pv F (cn Mx τ))) (ty_d τ) s.heap s.heap [] := hG.mono (fun _ _ _ _ _ h => ⟨h, h.2⟩)
  refine k_cVE X hG (EV.at hEv hG) (e_X6_readInto z l D cy τ (pv F (cn Mx τ)) (f := F) hN hR hFr htx hla hnu hdr hwi hga hc hB fT (sup_N hs) f30 f31) h3 rfl yv_X6_readInto q_337 ⟨rfl, rfl⟩ ⟨Nat.le_of_ble_eq_true rfl, Nat.le_of_ble_eq_true rfl⟩ rfl hl.1 rfl (Nat.le_of_ble_eq_true rfl) ⟨Nat.zero_le _, Nat.zero_le _⟩ dX9_line_13 (fun x5 u6 H locs hG po4 => ?_)
  obtain ⟨tk, g, eg, gT, gN, gw, gbad, gok⟩ := po4
  rw [eg] at hG
  have g5 := cI_rng x5
  refine lv_istore_n (lv' := [(2, .int x5), (1, .ref dr), (0, .ref xa)]) X.1 X.2.1 dX9_line_16 rfl hl (by decide) rfl (fun ls hl => ?_)
  refine lv_aload_n X.1 X.2.1 dX9_line_17 rfl (lv_at hl 2 rfl) ?_
  refine gf_9_0 X hG hxa q_295 dX9_line_18 (pv_N hN _ _ _ hxa) (fun a7 h7 r7 => ?_)
  have e7 := pv_rd r7.1 f0
  cases e7
  refine n_ic X dX9_line_21 (by decide) (by decide) (fun x8 t8 => ?_)
  have e8 : x8 = 0 := cI_inj (by rw [t8]; rfl)
  subst e8
  refine pg_6_2 X hG h7 q_37 dX9_line_22 (pv (fu g tx 2 (.int 0)) (pv (fu F tx 2 (.int 0)) (cn Mx τ))) pvv_off pvv_oth (pvv_new (cn_F (S := [602]) _ _ _ _ h7 (ty_in (n := 602) rfl) (ty_rno rfl))) (fun H locs hG => ?_)
  refine lv_iload_n X.1 X.2.1 dX9_line_25 rfl (lv_at hl 0 rfl) ?_
  refine n_if_eq (tgt := 45) X dX9_line_26 (by decide) (fun c9 => ?_) (fun c9 => ?_)
  · refine lv_aload_n X.1 X.2.1 dX9_line_45 rfl (lv_at hl 2 rfl) ?_
    refine n_ic X dX9_line_46 (by decide) (by decide) (fun x10 t10 => ?_)
    have e10 : x10 = -1 := cI_inj (by rw [t10]; rfl)
    subst e10
    refine pg_9_7 X hG hxa q_302 dX9_line_47 (pv (fu (fu g tx 2 (.int 0)) xa 7 (.int (-1))) (pv (fu (fu F tx 2 (.int 0)) xa 7 (.int (-1))) (cn Mx τ))) pvv_off pvv_oth (pvv_new (cn_F (S := [907]) _ _ _ _ hxa (ty_in (n := 907) rfl) (ty_rno rfl))) (fun H locs hG => ?_)
    have hs1 := sup_fu (sup_fu hs (x := .int 0) h7 (j := 2) (by decide)) (x := .int (-1)) hxa (j := 7) (by decide)
    have hN1 : ty_N τ (pv (fu (fu F tx 2 (.int 0)) xa 7 (.int (-1))) (cn Mx τ)) := pv_N cn_N
    have hR1 : ty_Rg Mx τ (pv (fu (fu F tx 2 (.int 0)) xa 7 (.int (-1))) (cn Mx τ)) := pv_R cn_R
    have hF1 : ty_Wf Mx τ (pv (fu (fu F tx 2 (.int 0)) xa 7 (.int (-1))) (cn Mx τ)) [2, 106, 202, 302, 303, 401, 504, 603, 604, 806, 807, 808, 809, 810, 811, 812, 5000, 6005, 6009] := sup_F hs1 (by decide)
    have hR0 : (rdF T c (c + 1) (false, 0, 0, false, 0) (sk T c 0)).1 = 0 := by omega
    have gc := (gok hR0).1.2.2.2.2.1
    have n2 : wi ≠ tx := fun q => by rw [q, htx] at hwi; cases hwi
    have n4 : dr ≠ xa := fun q => by rw [q, hxa] at hdr; cases hdr
    have n5 : dr ≠ tx := fun q => by rw [q, htx] at hdr; cases hdr
    have n3 : wi ≠ xa := fun q => by rw [q, hxa] at hwi; cases hwi
    have hG : TG D cy τ (pv (fu (fun _ _ => none) wi 7 (.int (nI (rdF T c (c + 1) (false, 0, 0, false, 0) (sk T c 0)).2.2.2.2.1))) (pv (fu (fu F tx 2 (.int 0)) xa 7 (.int (-1))) (cn Mx τ))) (ty_d τ) s.heap H locs := hG.mono (fun a t i v _ h => ⟨h.1, fun y hy => by
      by_cases e : a = wi ∧ i = 7
      · obtain ⟨rfl, rfl⟩ := e
        rw [fu_at] at hy
        cases hy
        exact h.2 _ (by rw [fu_b n3, fu_b n2]; exact gc)
      · rw [fu_ne e] at hy
        cases hy⟩)
    obtain ⟨ρ1, eρ⟩ : ∃ r : ty_R, r = pv (fu (fu F tx 2 (.int 0)) xa 7 (.int (-1))) (cn Mx τ) := ⟨_, rfl⟩
    have fw : ∀ y, ρ1 dr 0 y → y = .ref wi := fun y hy => by
      rw [eρ] at hy
      exact hy.2 _ (by rw [fu_b n4, fu_b n5]; exact f30)
    rw [← eρ] at hG hN1 hR1 hF1
    obtain ⟨v1, hG⟩ := tg_pinv hG hxa 1 rfl
    refine lv_aload_n X.1 X.2.1 dX9_line_50 rfl (lv_at hl 2 rfl) ?_
    refine gf_9_1 X hG hxa q_296 dX9_line_51 (pv_N hN1 _ _ _ hxa) (fun a11 h11 r11 => ?_)
    have e11 := pv_rd r11 fu_at
    subst e11
    obtain ⟨v2, hG⟩ := tg_pinv hG h11 0 rfl
    have n6 : wi ≠ a11 := fun q => by rw [q, h11] at hwi; cases hwi
    have n7 : xa ≠ a11 := fun q => by rw [q, h11] at hxa; cases hxa
    obtain ⟨f3, ef3⟩ : ∃ f : Nat → Nat → Option Value, f = fu (fu (fu (fun _ _ => none) wi 7 (.int (nI (rdF T c (c + 1) (false, 0, 0, false, 0) (sk T c 0)).2.2.2.2.1))) xa 1 (.ref a11)) a11 0 v2 := ⟨_, rfl⟩
    rw [← ef3] at hG
    have k0 : FL τ SCK f3 := by
      rw [ef3]
      exact fl_fu (j := 0) (fl_fu (j := 1) (fl_fu (j := 7) (fun _ _ _ _ _ => rfl) hwi (by decide)) hxa (by decide)) h11 (by decide)
    have k1 : f3 xa 1 = some (.ref a11) := by rw [ef3, fu_b n7, fu_at]
    have k2 : f3 a11 0 = some v2 := by rw [ef3, fu_at]
    have k3 : f3 wi 7 = some (.int (nI (rdF T c (c + 1) (false, 0, 0, false, 0) (sk T c 0)).2.2.2.2.1)) := by rw [ef3, fu_b n6, fu_b n3, fu_at]
    refine lv_aload_n X.1 X.2.1 dX9_line_54 rfl (lv_at hl 1 rfl) ?_
    refine k_cVv X hG (e_X3_copyFrom l D cy τ ρ1 hN1 hR1 (ty_Wf.sub (S' := [106, 302, 303, 806, 807, 808, 809, 810, 811, 812, 5000, 6005]) hF1 (by decide)) (fun a t j ha hc => k0 a t j ha ((by decide : ∀ n ∈ SCL, n ∈ SCK) _ hc)) h11 hdr k2 fw k3) h11 rfl yv_X3_copyFrom q_516 ⟨rfl, rfl⟩ ⟨Nat.le_of_ble_eq_true rfl, Nat.le_of_ble_eq_true rfl⟩ rfl hl.1 rfl (Nat.le_of_ble_eq_true rfl) ⟨Nat.zero_le _, Nat.zero_le _⟩ dX9_line_55 (fun u14 H locs hG po12 => ?_)
    obtain ⟨wn, ev2, hwn, po12⟩ := po12
    rw [po12] at hG
    have n8 : xa ≠ wn := fun q => by rw [q, hwn] at hxa; cases hxa
    have n9 : a11 ≠ wn := fun q => by rw [q, hwn] at h11; cases h11
    obtain ⟨f4, ef4⟩ : ∃ f : Nat → Nat → Option Value, f = fu f3 wn 7 (.int (nI (rdF T c (c + 1) (false, 0, 0, false, 0) (sk T c 0)).2.2.2.2.1)) := ⟨_, rfl⟩
    rw [← ef4] at hG
    have m0 : FL τ SCK f4 := by rw [ef4]; exact fl_fu (j := 7) k0 hwn (by decide)
    have m1 : f4 xa 1 = some (.ref a11) := by rw [ef4, fu_b n8]; exact k1
    have m2 : f4 a11 0 = some (.ref wn) := by rw [ef4, fu_b n9, k2, ev2]
    have m3 : f4 wn 7 = some (.int (nI (rdF T c (c + 1) (false, 0, 0, false, 0) (sk T c 0)).2.2.2.2.1)) := by rw [ef4, fu_at]
    have hcr := (gok hR0).2.2.1
    have hcp := (gok hR0).2.1
    have hN2 : ty_N τ (pv f4 ρ1) := pv_N hN1
    have hR2 : ty_Rg Mx τ (pv f4 ρ1) := pv_R hR1
    have hF2 : ty_Wf Mx τ (pv f4 ρ1) [2, 202, 401, 504] := pv_F (ty_Wf.sub hF1 (by decide)) (fun a t j ha hc => m0 a t j ha ((by decide : ∀ n ∈ [2, 202, 401, 504], n ∈ SCK) _ hc))
    refine lv_aload_n X.1 X.2.1 dX9_line_58 rfl (lv_at hl 2 rfl) ?_
    refine gf_9_3 X hG hxa q_298 dX9_line_59 (hN2 _ _ _ hxa) (fun a15 h15 r15 => ?_)
    refine n_ic X dX9_line_62 (by decide) (by decide) (fun x16 t16 => ?_)
    refine pf_4_1 X hG h15 q_213 dX9_line_63 (hF2 _ _ _ _ h15 (ty_in (n := 401) rfl) (ty_rno rfl)) (fun H locs hG => ?_)
    refine lv_aload_n X.1 X.2.1 dX9_line_66 rfl (lv_at hl 2 rfl) ?_
    refine gf_9_4 X hG hxa q_299 dX9_line_67 (hN2 _ _ _ hxa) (fun a17 h17 r17 => ?_)
    refine n_ic X dX9_line_70 (by decide) (by decide) (fun x18 t18 => ?_)
    refine pf_5_4 X hG h17 q_233 dX9_line_71 (hF2 _ _ _ _ h17 (ty_in (n := 504) rfl) (ty_rno rfl)) (fun H locs hG => ?_)
    refine lv_aload_n X.1 X.2.1 dX9_line_74 rfl (lv_at hl 2 rfl) ?_
    refine gf_9_5 X hG hxa q_300 dX9_line_75 (hN2 _ _ _ hxa) (fun a19 h19 r19 => ?_)
    refine n_ic X dX9_line_78 (by decide) (by decide) (fun x20 t20 => ?_)
    refine pf_0_2 X hG h19 q_267 dX9_line_79 (hF2 _ _ _ _ h19 (ty_in (n := 2) rfl) (ty_rno rfl)) (fun H locs hG => ?_)
    refine n_ic X dX9_line_82 (by decide) (by decide) (fun x21 t21 => ?_)
    refine lv_istore_n (lv' := [(3, .int x21), (2, .int x5), (1, .ref dr), (0, .ref xa)]) X.1 X.2.1 dX9_line_83 rfl hl (by decide) rfl (fun ls hl => ?_)
    have J84 : ∀ (n : Nat) (H : Heap) (locs : List Loc) (ls : Array Slot) (x22 : Int32), (0 ≤ x22.toInt ∧ x22.toInt ≤ 2) → (2 - x22.toInt).toNat < n → TG D cy τ (pv f4 ρ1) (ty_d τ) s.heap H locs → lv_has ls 4 [(0, .ref xa), (1, .ref dr), (2, .int x5), (3, .int x22)] → W p l e (rL 10) s m args below meth cod H locs 0 0 Q (F0 m 84 ls []) := by
      intro n
      induction n with
      | zero => intro H locs ls x22 bx22 hm84 hG hl; exact absurd hm84 (Nat.not_lt_zero _)
      | succ n ih84 =>
        intro H locs ls x22 bx22 hm84 hG hl
        refine lv_iload_n X.1 X.2.1 dX9_line_84 rfl (lv_at hl 3 rfl) ?_
        refine n_ic X dX9_line_85 (by decide) (by decide) (fun x23 t23 => ?_)
        refine n_icmp_ge (tgt := 105) X dX9_line_86 (by decide) (fun c24 => ?_) (fun c24 => ?_)
        · refine lv_aload_n X.1 X.2.1 dX9_line_105 rfl (lv_at hl 0 rfl) ?_
          refine gf_9_1 X hG hxa q_296 dX9_line_106 (hN2 _ _ _ hxa) (fun a25 h25 r25 => ?_)
          have e25 := pv_rd r25 m1
          cases e25
          refine gf_3_0 X hG h25 q_165 dX9_line_109 (hN2 _ _ _ h25) (fun a26 h26 r26 => ?_)
          have e26 := pv_rd r26 m2
          cases e26
          refine gf_8_7 X hG h26 q_82 dX9_line_112 (fun x27 r27 => ?_)
          have b27 := (hR2 _ _ _ _ h26 r27) _ _ rfl
          have u27 := pv_i r27 m3
          subst u27
          exact ret _ _ _ _ _ _ (hG.mono (fun _ _ _ _ _ h => h.1)) ⟨fun h => absurd (by omega) h, fun _ => ⟨cI_nI (by omega), eρ⟩⟩ dX9_line_115
        · refine lv_aload_n X.1 X.2.1 dX9_line_89 rfl (lv_at hl 0 rfl) ?_
          refine gf_9_6 X hG hxa q_301 dX9_line_90 (hN2 _ _ _ hxa) (fun a28 h28 r28 => ?_)
          refine lv_iload_n X.1 X.2.1 dX9_line_93 rfl (lv_at hl 3 rfl) ?_
          refine tg_aald X hG h28 (Or.inr rfl) (cI_in (n := 2) (by omega)) dX9_line_94 (hN2 _ _ _ h28) (fun a29 h29 r29 => ?_)
          have h29 : τ a29 = some (0, 2) := h29
          refine n_ic X dX9_line_95 (by decide) (by decide) (fun x30 t30 => ?_)
          refine pf_2_2 X hG h29 q_287 (by omega) dX9_line_96 (hF2 _ _ _ _ h29 (ty_in (n := 202) rfl) (ty_rno rfl)) (fun H locs hG => ?_)
          refine n_inc X (fun z32 => [(3, .int z32), (0, .ref xa), (1, .ref dr), (2, .int x5)]) dX9_line_99 hl (k := 3) rfl (by decide) (by decide) (by omega) (by omega) (by decide) (fun _ => rfl) (fun x31 ls t31 hl => ?_)
          have hl : lv_has ls 4 [(3, .int x31), (0, .ref xa), (1, .ref dr), (2, .int x5)] := hl
          refine lv_goto (tgt := 84) X.1 X.2.1 dX9_line_102 (by decide) ?_
          exact ih84 _ _ _ x31 (by omega) (by omega) hG (lv_sub hl [1, 2, 3, 0] rfl)
    exact J84 _ _ _ _ x21 (by omega) (Nat.lt_succ_self _) hG (lv_sub hl [3, 2, 1, 0] rfl)
  · have hR0 : (rdF T c (c + 1) (false, 0, 0, false, 0) (sk T c 0)).1 ≠ 0 := by omega
    refine lv_aload_n X.1 X.2.1 dX9_line_29 rfl (lv_at hl 2 rfl) ?_
    refine lv_aload_n X.1 X.2.1 dX9_line_30 rfl (lv_at hl 2 rfl) ?_
    refine gf_9_0 X hG hxa q_295 dX9_line_31 (pv_N (pv_N cn_N) _ _ _ hxa) (fun a33 h33 r33 => ?_)
    have e33 := pv_rd r33.1 ((fu_b n1).trans f0)
    cases e33
    refine gf_6_3 X hG h33 q_39 dX9_line_34 (fun x34 r34 => ?_)
    have u34 := pv_i r34 ((fu_j (by decide)).trans (gbad hR0))
    subst u34
    refine pg_9_7 X hG hxa q_302 dX9_line_37 (pv (fu (fu g tx 2 (.int 0)) xa 7 (.int (nI (rdF T c (c + 1) (false, 0, 0, false, 0) (sk T c 0)).2.1))) (pv (fu (fu F tx 2 (.int 0)) xa 7 (.int (nI (rdF T c (c + 1) (false, 0, 0, false, 0) (sk T c 0)).2.1))) (cn Mx τ))) pvv_off pvv_oth (pvv_new (cn_F (S := [907]) _ _ _ _ hxa (ty_in (n := 907) rfl) (ty_rno rfl))) (fun H locs hG => ?_)
    refine n_bp X dX9_line_40 (by decide) (by decide) (fun x35 t35 => ?_)
    refine lv_iload_n X.1 X.2.1 dX9_line_42 rfl (lv_at hl 0 rfl) ?_
    have hk3 := rdF_le (T := T) (c := c) (c + 1) (false, 0, 0, false, 0) (sk T c 0)
    refine n_sub X dX9_line_43 (by omega) (by omega) (fun x36 t36 => ?_)
    exact ret _ _ _ _ x36 _ (hG.mono (fun _ _ _ _ _ h => h.1)) ⟨fun _ => ⟨by omega, rfl⟩, fun h => absurd h hR0⟩ dX9_line_44
