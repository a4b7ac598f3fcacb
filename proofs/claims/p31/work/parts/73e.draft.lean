/-! the class's draft to the letter -/
/-- codes that the reading writes and that aren't pinned -/
def SU : List Nat := [808, 809, 810, 811, 812, 5000, 6005]
def FN (τ : ty_T) (f : Nat → Nat → Option Value) : Prop := ∀ a t j, τ a = some t → ty_cd t j ∈ SU → f a j = none
theorem fn_fu {τ : ty_T} {f : Nat → Nat → Option Value} {b j : Nat} {t0 : ty_C} {x : Value} (h : FN τ f) (hb : τ b = some t0) (hc : ty_cd t0 j ∉ SU) : FN τ (fu f b j x) := fun a t i ha hi => by
  by_cases e : a = b ∧ i = j
  · obtain ⟨rfl, rfl⟩ := e
    rw [hb] at ha
    cases ha
    exact absurd hi hc
  · rw [fu_ne e]
    exact h a t i ha hi
theorem pv_FU {M : md_T} {τ : ty_T} {ρ : ty_R} {f : Nat → Nat → Option Value} (hF : ty_Wf M τ ρ SRd) (hf : FN τ f) : ty_Wf M τ (pv f ρ) SU := pv_F (ty_Wf.sub hF (by decide)) hf
/-- the draft as it stands -/
def DE (f : Nat → Nat → Option Value) (tx dr wi ga : Nat) (st : ST) : Prop := f dr 0 = some (.ref wi) ∧ f dr 1 = some (.ref ga) ∧ f dr 2 = some (.int (bI st.1)) ∧ f wi 6 = some (.int (nI st.2.1)) ∧ f wi 7 = some (.int (nI st.2.2.1)) ∧ f tx 4 = some (.int (bI st.2.2.2.1)) ∧ f ga 6 = some (.int (nI st.2.2.2.2))
def OKS (st : ST) : Prop := st.2.1 ≤ 8 ∧ st.2.2.1 ≤ 9 * st.2.1 ∧ st.2.2.2.2 ≤ 6
theorem de_fu {f : Nat → Nat → Option Value} {tx dr wi ga b j : Nat} {st : ST} {x : Value} (h : DE f tx dr wi ga st) (h1 : b ≠ dr) (h2 : b ≠ wi) (h3 : b ≠ ga) (h4 : ¬ (b = tx ∧ j = 4)) : DE (fu f b j x) tx dr wi ga st := by
  obtain ⟨a1, a2, a3, a4, a5, a6, a7⟩ := h
  exact ⟨by rw [fu_b (Ne.symm h1)]; exact a1, by rw [fu_b (Ne.symm h1)]; exact a2, by rw [fu_b (Ne.symm h1)]; exact a3, by rw [fu_b (Ne.symm h2)]; exact a4, by rw [fu_b (Ne.symm h2)]; exact a5, by rw [fu_ne (fun z => h4 ⟨z.1.symm, z.2.symm⟩)]; exact a6, by rw [fu_b (Ne.symm h3)]; exact a7⟩
/-- the reading as it stands -/
def RE (τ : ty_T) (f : Nat → Nat → Option Value) (tx la nu c : Nat) (T : Nat → Int32) (dr wi ga : Nat) (st : ST) (a : Nat) : Prop := TE f tx la nu c T ∧ DE f tx dr wi ga st ∧ FN τ f ∧ f tx 3 = some (.int (nI a))
/-- the draft's own places may have any number -/
def DW (M : md_T) (ρ : ty_R) (dr wi ga : Nat) : Prop := (∀ x, ty_rng M (0, 1) 6 x → ρ ga 6 (.int x)) ∧ (∀ x, ty_rng M (0, 8) 7 x → ρ wi 7 (.int x)) ∧ ∀ x, ρ dr 2 (.int x)
/-- the draft's ticks are 0 -/
def zb (ρ : ty_R) (dr : Nat) : ty_R := fun a j v => ρ a j v ∧ (a = dr → j = 3 → v = .int 0)
theorem zb_N {τ : ty_T} {ρ : ty_R} {dr : Nat} (h : ty_N τ ρ) : ty_N τ (zb ρ dr) := fun a t j ha z => h a t j ha z.1
theorem zb_R {M : md_T} {τ : ty_T} {ρ : ty_R} {dr : Nat} (h : ty_Rg M τ ρ) : ty_Rg M τ (zb ρ dr) := fun a t j x ha z => h a t j x ha z.1
theorem zb_F {M : md_T} {τ : ty_T} {ρ : ty_R} {dr : Nat} {S : List Nat} (hd : τ dr = some (0, 3)) (h : ty_Wf M τ ρ S) (hc : 303 ∉ S) : ty_Wf M τ (zb ρ dr) S := fun a t j x ha hn hr => ⟨h a t j x ha hn hr, fun e e2 => by
  subst e
  subst e2
  rw [hd] at ha
  cases ha
  exact absurd hn hc⟩
theorem zb_W {M : md_T} {ρ : ty_R} {dr wi ga : Nat} (h : DW M ρ dr wi ga) : DW M (zb ρ dr) dr wi ga := ⟨fun x hx => ⟨h.1 x hx, fun _ e => absurd e (by decide)⟩, fun x hx => ⟨h.2.1 x hx, fun _ e => absurd e (by decide)⟩, fun x => ⟨h.2.2 x, fun _ e => absurd e (by decide)⟩⟩
set_option maxHeartbeats 4000000 in
set_option maxRecDepth 100000 in
theorem e_X8_clear (l : Launch) (D : va_G) (cy : Nat → ClassId) (τ : ty_T) (ρ : ty_R) {M : md_T} (hN : ty_N τ ρ) (hR : ty_Rg M τ ρ) {f : Nat → Nat → Option Value} (hF : ty_Wf M τ ρ SRd) (hf : FN τ f) {a900 : Nat} (h900 : τ a900 = some (0, 8)) (hW7 : ∀ x, ty_rng M (0, 8) 7 x → ρ a900 7 (.int x)) : KV l D cy yX8_clear cX8_clear 1 (rL 2) τ (pv f ρ) [.ref a900] (fun w => w = pv (fu (fu f a900 6 (.int 0)) a900 7 (.int 0)) ρ) := by
  refine k_metV "EdgeEchoes$Wire" rfl (by decide +kernel) (Nat.le_of_ble_eq_true rfl) ?_
  intro p e s m args below meth c Q ls X hG hl ret
  have hl : lv_has ls 1 [(0, .ref a900)] := hl
  refine lv_aload_n X.1 X.2.1 dX8_clear_0 rfl (lv_at hl 0 rfl) ?_
  refine gf_8_0 X hG h900 q_65 dX8_clear_1 ((pv_N hN) _ _ _ h900) (fun a1 h1 r1 => ?_)
  refine n_ic X dX8_clear_4 (by decide) (by decide) (fun x2 t2 => ?_)
  refine k_cSv X hG (c_J7_fill_53178 l D cy τ _ (pv_N hN) (pv_R hR) (by decide) rfl h1 x2 (fun j => (pv_FU hF hf) _ _ _ _ h1 (ty_in (n := 5000) rfl) (ty_rno rfl))) ys_J7_fill_53178 q_349 ⟨rfl, rfl⟩ ⟨Nat.le_of_ble_eq_true rfl, Nat.le_of_ble_eq_true rfl⟩ rfl hl.1 rfl (Nat.le_of_ble_eq_true rfl) ⟨Nat.zero_le _, Nat.zero_le _⟩ dX8_clear_5 (fun u5 H locs hG po3 => ?_)
  rw [po3] at hG
  refine lv_aload_n X.1 X.2.1 dX8_clear_8 rfl (lv_at hl 0 rfl) ?_
  refine gf_8_1 X hG h900 q_67 dX8_clear_9 ((pv_N hN) _ _ _ h900) (fun a6 h6 r6 => ?_)
  refine n_ic X dX8_clear_12 (by decide) (by decide) (fun x7 t7 => ?_)
  refine k_cSv X hG (c_J7_fill_53178 l D cy τ _ (pv_N hN) (pv_R hR) (by decide) rfl h6 x7 (fun j => (pv_FU hF hf) _ _ _ _ h6 (ty_in (n := 6005) rfl) (ty_ryes rfl (by omega)))) ys_J7_fill_53178 q_349 ⟨rfl, rfl⟩ ⟨Nat.le_of_ble_eq_true rfl, Nat.le_of_ble_eq_true rfl⟩ rfl hl.1 rfl (Nat.le_of_ble_eq_true rfl) ⟨Nat.zero_le _, Nat.zero_le _⟩ dX8_clear_13 (fun u10 H locs hG po8 => ?_)
  rw [po8] at hG
  refine lv_aload_n X.1 X.2.1 dX8_clear_16 rfl (lv_at hl 0 rfl) ?_
  refine gf_8_2 X hG h900 q_69 dX8_clear_17 ((pv_N hN) _ _ _ h900) (fun a11 h11 r11 => ?_)
  refine n_ic X dX8_clear_20 (by decide) (by decide) (fun x12 t12 => ?_)
  refine k_cSv X hG (c_J7_fill_53178 l D cy τ _ (pv_N hN) (pv_R hR) (by decide) rfl h11 x12 (fun j => (pv_FU hF hf) _ _ _ _ h11 (ty_in (n := 5000) rfl) (ty_rno rfl))) ys_J7_fill_53178 q_349 ⟨rfl, rfl⟩ ⟨Nat.le_of_ble_eq_true rfl, Nat.le_of_ble_eq_true rfl⟩ rfl hl.1 rfl (Nat.le_of_ble_eq_true rfl) ⟨Nat.zero_le _, Nat.zero_le _⟩ dX8_clear_21 (fun u15 H locs hG po13 => ?_)
  rw [po13] at hG
  refine lv_aload_n X.1 X.2.1 dX8_clear_24 rfl (lv_at hl 0 rfl) ?_
  refine gf_8_5 X hG h900 q_75 dX8_clear_25 ((pv_N hN) _ _ _ h900) (fun a16 h16 r16 => ?_)
  refine n_ic X dX8_clear_28 (by decide) (by decide) (fun x17 t17 => ?_)
  refine k_cSv X hG (c_J7_fill_53178 l D cy τ _ (pv_N hN) (pv_R hR) (by decide) rfl h16 x17 (fun j => (pv_FU hF hf) _ _ _ _ h16 (ty_in (n := 5000) rfl) (ty_rno rfl))) ys_J7_fill_53178 q_349 ⟨rfl, rfl⟩ ⟨Nat.le_of_ble_eq_true rfl, Nat.le_of_ble_eq_true rfl⟩ rfl hl.1 rfl (Nat.le_of_ble_eq_true rfl) ⟨Nat.zero_le _, Nat.zero_le _⟩ dX8_clear_29 (fun u20 H locs hG po18 => ?_)
  rw [po18] at hG
  refine lv_aload_n X.1 X.2.1 dX8_clear_32 rfl (lv_at hl 0 rfl) ?_
  refine k_cVv X hG (c_X8_calmWaves l D cy τ _ (pv_N hN) (pv_R hR) (ty_Wf.sub (S' := [5000]) (pv_FU hF hf) (by decide)) h900) h900 rfl yv_X8_calmWaves q_352 ⟨rfl, rfl⟩ ⟨Nat.le_of_ble_eq_true rfl, Nat.le_of_ble_eq_true rfl⟩ rfl hl.1 rfl (Nat.le_of_ble_eq_true rfl) ⟨Nat.zero_le _, Nat.zero_le _⟩ dX8_clear_33 (fun u23 H locs hG po21 => ?_)
  rw [po21] at hG
  refine lv_aload_n X.1 X.2.1 dX8_clear_36 rfl (lv_at hl 0 rfl) ?_
  refine n_ic X dX8_clear_37 (by decide) (by decide) (fun x24 t24 => ?_)
  have z86 : x24 = 0 := cI_inj (by rw [t24]; rfl)
  subst z86
  refine pg_8_6 X hG h900 q_78 dX8_clear_38 (pv (fu f a900 6 (.int 0)) ρ) pv_off pv_oth (pv_new (hF _ _ _ _ h900 (ty_in (n := 806) rfl) (ty_ryes rfl (by omega)))) (fun H locs hG => ?_)
  have hf := fn_fu hf (x := .int 0) (j := 6) h900 (by decide)
  refine lv_aload_n X.1 X.2.1 dX8_clear_41 rfl (lv_at hl 0 rfl) ?_
  refine n_ic X dX8_clear_42 (by decide) (by decide) (fun x25 t25 => ?_)
  have z87 : x25 = 0 := cI_inj (by rw [t25]; rfl)
  subst z87
  refine pg_8_7 X hG h900 q_81 dX8_clear_43 (pv (fu (fu f a900 6 (.int 0)) a900 7 (.int 0)) ρ) pv_off pv_oth (pv_new (hW7 _ (ty_ryes rfl (by omega)))) (fun H locs hG => ?_)
  have hf := fn_fu hf (x := .int 0) (j := 7) h900 (by decide)
  refine lv_aload_n X.1 X.2.1 dX8_clear_46 rfl (lv_at hl 0 rfl) ?_
  refine n_ic X dX8_clear_47 (by decide) (by decide) (fun x26 t26 => ?_)
  refine pf_8_8 X hG h900 q_84 dX8_clear_48 ((pv_FU hF hf) _ _ _ _ h900 (ty_in (n := 808) rfl) (ty_rno rfl)) (fun H locs hG => ?_)
  refine lv_aload_n X.1 X.2.1 dX8_clear_51 rfl (lv_at hl 0 rfl) ?_
  refine n_ic X dX8_clear_52 (by decide) (by decide) (fun x27 t27 => ?_)
  refine pf_8_9 X hG h900 q_88 dX8_clear_53 ((pv_FU hF hf) _ _ _ _ h900 (ty_in (n := 809) rfl) (ty_rno rfl)) (fun H locs hG => ?_)
  refine lv_aload_n X.1 X.2.1 dX8_clear_56 rfl (lv_at hl 0 rfl) ?_
  refine n_ic X dX8_clear_57 (by decide) (by decide) (fun x28 t28 => ?_)
  refine pf_8_10 X hG h900 q_91 dX8_clear_58 ((pv_FU hF hf) _ _ _ _ h900 (ty_in (n := 810) rfl) (ty_rno rfl)) (fun H locs hG => ?_)
  refine lv_aload_n X.1 X.2.1 dX8_clear_61 rfl (lv_at hl 0 rfl) ?_
  refine n_ic X dX8_clear_62 (by decide) (by decide) (fun x29 t29 => ?_)
  refine pf_8_11 X hG h900 q_93 dX8_clear_63 ((pv_FU hF hf) _ _ _ _ h900 (ty_in (n := 811) rfl) (ty_rno rfl)) (fun H locs hG => ?_)
  refine lv_aload_n X.1 X.2.1 dX8_clear_66 rfl (lv_at hl 0 rfl) ?_
  refine n_ic X dX8_clear_67 (by decide) (by decide) (fun x30 t30 => ?_)
  refine pf_8_12 X hG h900 q_95 (by omega) dX8_clear_68 ((pv_FU hF hf) _ _ _ _ h900 (ty_in (n := 812) rfl) (ty_rno rfl)) (fun H locs hG => ?_)
  exact ret _ _ _ _ _ hG rfl dX8_clear_71
set_option maxHeartbeats 4000000 in
set_option maxRecDepth 100000 in
theorem e_X1_clear (l : Launch) (D : va_G) (cy : Nat → ClassId) (τ : ty_T) (ρ : ty_R) {M : md_T} (hN : ty_N τ ρ) (hR : ty_Rg M τ ρ) {f : Nat → Nat → Option Value} (hF : ty_Wf M τ ρ SRd) (hf : FN τ f) {a900 : Nat} (h900 : τ a900 = some (0, 1)) (hW : ∀ x, ty_rng M (0, 1) 6 x → ρ a900 6 (.int x)) : KV l D cy yX1_clear cX1_clear 1 (rL 2) τ (pv f ρ) [.ref a900] (fun w => w = pv (fu f a900 6 (.int 0)) ρ) := by
  refine k_metV "EdgeEchoes$Gates" rfl (by decide +kernel) (Nat.le_of_ble_eq_true rfl) ?_
  intro p e s m args below meth c Q ls X hG hl ret
  have hl : lv_has ls 1 [(0, .ref a900)] := hl
  refine lv_aload_n X.1 X.2.1 dX1_clear_0 rfl (lv_at hl 0 rfl) ?_
  refine gf_1_0 X hG h900 q_131 dX1_clear_1 ((pv_N hN) _ _ _ h900) (fun a1 h1 r1 => ?_)
  refine n_ic X dX1_clear_4 (by decide) (by decide) (fun x2 t2 => ?_)
  refine k_cSv X hG (c_J7_fill_53178 l D cy τ _ (pv_N hN) (pv_R hR) (by decide) rfl h1 x2 (fun j => (pv_FU hF hf) _ _ _ _ h1 (ty_in (n := 5000) rfl) (ty_rno rfl))) ys_J7_fill_53178 q_360 ⟨rfl, rfl⟩ ⟨Nat.le_of_ble_eq_true rfl, Nat.le_of_ble_eq_true rfl⟩ rfl hl.1 rfl (Nat.le_of_ble_eq_true rfl) ⟨Nat.zero_le _, Nat.zero_le _⟩ dX1_clear_5 (fun u5 H locs hG po3 => ?_)
  rw [po3] at hG
  refine lv_aload_n X.1 X.2.1 dX1_clear_8 rfl (lv_at hl 0 rfl) ?_
  refine gf_1_1 X hG h900 q_133 dX1_clear_9 ((pv_N hN) _ _ _ h900) (fun a6 h6 r6 => ?_)
  refine n_ic X dX1_clear_12 (by decide) (by decide) (fun x7 t7 => ?_)
  refine k_cSv X hG (c_J7_fill_53178 l D cy τ _ (pv_N hN) (pv_R hR) (by decide) rfl h6 x7 (fun j => (pv_FU hF hf) _ _ _ _ h6 (ty_in (n := 5000) rfl) (ty_rno rfl))) ys_J7_fill_53178 q_360 ⟨rfl, rfl⟩ ⟨Nat.le_of_ble_eq_true rfl, Nat.le_of_ble_eq_true rfl⟩ rfl hl.1 rfl (Nat.le_of_ble_eq_true rfl) ⟨Nat.zero_le _, Nat.zero_le _⟩ dX1_clear_13 (fun u10 H locs hG po8 => ?_)
  rw [po8] at hG
  refine lv_aload_n X.1 X.2.1 dX1_clear_16 rfl (lv_at hl 0 rfl) ?_
  refine gf_1_2 X hG h900 q_135 dX1_clear_17 ((pv_N hN) _ _ _ h900) (fun a11 h11 r11 => ?_)
  refine n_ic X dX1_clear_20 (by decide) (by decide) (fun x12 t12 => ?_)
  refine k_cSv X hG (c_J7_fill_53178 l D cy τ _ (pv_N hN) (pv_R hR) (by decide) rfl h11 x12 (fun j => (pv_FU hF hf) _ _ _ _ h11 (ty_in (n := 5000) rfl) (ty_rno rfl))) ys_J7_fill_53178 q_360 ⟨rfl, rfl⟩ ⟨Nat.le_of_ble_eq_true rfl, Nat.le_of_ble_eq_true rfl⟩ rfl hl.1 rfl (Nat.le_of_ble_eq_true rfl) ⟨Nat.zero_le _, Nat.zero_le _⟩ dX1_clear_21 (fun u15 H locs hG po13 => ?_)
  rw [po13] at hG
  refine lv_aload_n X.1 X.2.1 dX1_clear_24 rfl (lv_at hl 0 rfl) ?_
  refine k_cVv X hG (c_X1_calmSights l D cy τ _ (pv_N hN) (pv_R hR) (ty_Wf.sub (S' := [5000]) (pv_FU hF hf) (by decide)) h900) h900 rfl yv_X1_calmSights q_361 ⟨rfl, rfl⟩ ⟨Nat.le_of_ble_eq_true rfl, Nat.le_of_ble_eq_true rfl⟩ rfl hl.1 rfl (Nat.le_of_ble_eq_true rfl) ⟨Nat.zero_le _, Nat.zero_le _⟩ dX1_clear_25 (fun u18 H locs hG po16 => ?_)
  rw [po16] at hG
  refine lv_aload_n X.1 X.2.1 dX1_clear_28 rfl (lv_at hl 0 rfl) ?_
  refine n_ic X dX1_clear_29 (by decide) (by decide) (fun x19 t19 => ?_)
  have z16 : x19 = 0 := cI_inj (by rw [t19]; rfl)
  subst z16
  refine pg_1_6 X hG h900 q_144 dX1_clear_30 (pv (fu f a900 6 (.int 0)) ρ) pv_off pv_oth (pv_new (hW _ (ty_ryes rfl (by omega)))) (fun H locs hG => ?_)
  have hf := fn_fu hf (x := .int 0) (j := 6) h900 (by decide)
  exact ret _ _ _ _ _ hG rfl dX1_clear_33
set_option maxHeartbeats 4000000 in
set_option maxRecDepth 100000 in
theorem e_X3_clear (l : Launch) (D : va_G) (cy : Nat → ClassId) (τ : ty_T) (ρ : ty_R) {M : md_T} (hN : ty_N τ ρ) (hR : ty_Rg M τ ρ) {f : Nat → Nat → Option Value} (hF : ty_Wf M τ ρ SRd) (hf : FN τ f) {a900 : Nat} (h900 : τ a900 = some (0, 3)) {wi ga : Nat} (hwi : τ wi = some (0, 8)) (hga : τ ga = some (0, 1)) (hW : DW M ρ a900 wi ga) (hW3 : ∀ x, ρ a900 3 (.int x)) (hd3 : f a900 3 = none) (fw : f a900 0 = some (.ref wi)) (fg : f a900 1 = some (.ref ga)) : KV l D cy yX3_clear cX3_clear 1 (rL 3) τ (pv f ρ) [.ref a900] (fun w => w = pv (fu (fu (fu (fu f wi 6 (.int 0)) wi 7 (.int 0)) ga 6 (.int 0)) a900 2 (.int 0)) (zb ρ a900)) := by
  refine k_metV "EdgeEchoes$Line" rfl (by decide +kernel) (Nat.le_of_ble_eq_true rfl) ?_
  intro p e s m args below meth c Q ls X hG hl ret
  have hl : lv_has ls 1 [(0, .ref a900)] := hl
  refine lv_aload_n X.1 X.2.1 dX3_clear_0 rfl (lv_at hl 0 rfl) ?_
  refine gf_3_0 X hG h900 q_162 dX3_clear_1 ((pv_N hN) _ _ _ h900) (fun a1 h1 r1 => ?_)
  have e1 := pv_rd r1 fw
  cases e1
  refine k_cVv X hG (e_X8_clear l D cy τ ρ hN hR hF hf h1 hW.2.1) h1 rfl yv_X8_clear q_345 ⟨rfl, rfl⟩ ⟨Nat.le_of_ble_eq_true rfl, Nat.le_of_ble_eq_true rfl⟩ rfl hl.1 rfl (Nat.le_of_ble_eq_true rfl) ⟨Nat.zero_le _, Nat.zero_le _⟩ dX3_clear_4 (fun u4 H locs hG po2 => ?_)
  rw [po2] at hG
  have n1 : a900 ≠ wi := fun q => by rw [q, hwi] at h900; cases h900
  have hf := fn_fu (fn_fu hf (x := .int 0) (j := 6) hwi (by decide)) (x := .int 0) (j := 7) hwi (by decide)
  refine lv_aload_n X.1 X.2.1 dX3_clear_7 rfl (lv_at hl 0 rfl) ?_
  refine gf_3_1 X hG h900 q_167 dX3_clear_8 ((pv_N hN) _ _ _ h900) (fun a5 h5 r5 => ?_)
  have e5 := pv_rd r5 (by rw [fu_b n1, fu_b n1]; exact fg)
  cases e5
  refine k_cVv X hG (e_X1_clear l D cy τ ρ hN hR hF hf h5 hW.1) h5 rfl yv_X1_clear q_356 ⟨rfl, rfl⟩ ⟨Nat.le_of_ble_eq_true rfl, Nat.le_of_ble_eq_true rfl⟩ rfl hl.1 rfl (Nat.le_of_ble_eq_true rfl) ⟨Nat.zero_le _, Nat.zero_le _⟩ dX3_clear_11 (fun u8 H locs hG po6 => ?_)
  rw [po6] at hG
  have hf := fn_fu hf (x := .int 0) (j := 6) hga (by decide)
  refine lv_aload_n X.1 X.2.1 dX3_clear_14 rfl (lv_at hl 0 rfl) ?_
  refine n_ic X dX3_clear_15 (by decide) (by decide) (fun x9 t9 => ?_)
  have z32 : x9 = 0 := cI_inj (by rw [t9]; rfl)
  subst z32
  refine pg_3_2 X hG h900 q_171 (by omega) dX3_clear_16 (pv (fu (fu (fu (fu f wi 6 (.int 0)) wi 7 (.int 0)) ga 6 (.int 0)) a900 2 (.int 0)) ρ) pv_off pv_oth (pv_new (hW.2.2 _)) (fun H locs hG => ?_)
  have hf := fn_fu hf (x := .int 0) (j := 2) h900 (by decide)
  refine lv_aload_n X.1 X.2.1 dX3_clear_19 rfl (lv_at hl 0 rfl) ?_
  refine n_ic X dX3_clear_20 (by decide) (by decide) (fun x10 t10 => ?_)
  have z33 : x10 = 0 := cI_inj (by rw [t10]; rfl)
  subst z33
  have n2 : a900 ≠ ga := fun q => by rw [q, hga] at h900; cases h900
  refine pg_3_3 X hG h900 q_174 dX3_clear_21 (pv (fu (fu (fu (fu f wi 6 (.int 0)) wi 7 (.int 0)) ga 6 (.int 0)) a900 2 (.int 0)) (zb ρ a900)) (fun b i v h z => ⟨⟨z.1, fun e => absurd e h⟩, z.2⟩) (fun i v h z => ⟨⟨z.1, fun _ e => absurd e h⟩, z.2⟩) ⟨⟨hW3 _, fun _ _ => rfl⟩, fun y hy => by rw [fu_j (by decide), fu_b n2, fu_b n1, fu_b n1, hd3] at hy; cases hy⟩ (fun H locs hG => ?_)
  exact ret _ _ _ _ _ hG rfl dX3_clear_24
set_option maxHeartbeats 4000000 in
set_option maxRecDepth 100000 in
theorem e_X8_addPiece (l : Launch) (D : va_G) (cy : Nat → ClassId) (τ : ty_T) (ρ : ty_R) {M : md_T} {f : Nat → Nat → Option Value} (hN : ty_N τ ρ) (hR : ty_Rg M τ ρ) (hF : ty_Wf M τ ρ SRd) (hf : FN τ f) {wi P C : Nat} (hwi : τ wi = some (0, 8)) (hW7 : ∀ x, ty_rng M (0, 8) 7 x → ρ wi 7 (.int x)) (f6 : f wi 6 = some (.int (nI P))) (f7 : f wi 7 = some (.int (nI C))) (hP : P < 8) (hC : C ≤ 9 * P) (x901 : Int32) (x902 : Int32) (h902 : 0 ≤ x902.toInt ∧ x902.toInt ≤ 9) : KV l D cy yX8_addPiece cX8_addPiece 3 (rL 2) τ (pv f ρ) [.ref wi, .int x901, .int x902] (fun u => u = pv (fu (fu f wi 6 (.int (nI (P + 1)))) wi 7 (.int (nI (C + x902.toInt.toNat)))) ρ) := by
  refine k_metV "EdgeEchoes$Wire" rfl (by decide +kernel) (Nat.le_of_ble_eq_true rfl) ?_
  intro p e s m args below meth cod Q ls X hG hl ret
  have hl : lv_has ls 3 [(0, .ref wi), (1, .int x901), (2, .int x902)] := hl
  refine lv_aload_n X.1 X.2.1 dX8_addPiece_0 rfl (lv_at hl 0 rfl) ?_
  refine gf_8_6 X hG hwi q_78 dX8_addPiece_1 (fun x1 r1 => ?_)
  have u1 := pv_i r1 f6
  have t1 : x1.toInt = (P : Int) := by rw [u1]; exact cI_nI (by omega)
  refine n_bp X dX8_addPiece_4 (by decide) (by decide) (fun x2 t2 => ?_)
  refine n_icmp_ge (tgt := 24) X dX8_addPiece_6 (by decide) (fun cq => ?_) (fun cq => ?_)
  · exact absurd cq (by omega)
  · refine lv_iload_n X.1 X.2.1 dX8_addPiece_9 rfl (lv_at hl 2 rfl) ?_
    refine n_if_lt (tgt := 24) X dX8_addPiece_10 (by decide) (fun cq => ?_) (fun cq => ?_)
    · exact absurd cq (by omega)
    · refine lv_iload_n X.1 X.2.1 dX8_addPiece_13 rfl (lv_at hl 2 rfl) ?_
      refine n_bp X dX8_addPiece_14 (by decide) (by decide) (fun x5 t5 => ?_)
      refine lv_aload_n X.1 X.2.1 dX8_addPiece_16 rfl (lv_at hl 0 rfl) ?_
      refine gf_8_7 X hG hwi q_81 dX8_addPiece_17 (fun x6 r6 => ?_)
      have u6 := pv_i r6 f7
      have t6 : x6.toInt = (C : Int) := by rw [u6]; exact cI_nI (by omega)
      refine n_sub X dX8_addPiece_20 (by omega) (by omega) (fun x7 t7 => ?_)
      refine n_icmp_le (tgt := 25) X dX8_addPiece_21 (by decide) (fun cq => ?_) (fun cq => ?_)
      · refine lv_aload_n X.1 X.2.1 dX8_addPiece_25 rfl (lv_at hl 0 rfl) ?_
        refine gf_8_1 X hG hwi q_67 dX8_addPiece_26 (pv_N hN _ _ _ hwi) (fun a9 h9 r9 => ?_)
        refine lv_aload_n X.1 X.2.1 dX8_addPiece_29 rfl (lv_at hl 0 rfl) ?_
        refine gf_8_6 X hG hwi q_78 dX8_addPiece_30 (fun x10 r10 => ?_)
        have u10 := pv_i r10 f6
        have t10 : x10.toInt = (P : Int) := by rw [u10]; exact cI_nI (by omega)
        refine lv_iload_n X.1 X.2.1 dX8_addPiece_33 rfl (lv_at hl 2 rfl) ?_
        refine tg_iasf X hG h9 rfl (cI_in (n := 8) (by omega)) dX8_addPiece_34 ((pv_FU hF hf) _ _ _ _ h9 (ty_in (n := 6005) rfl) (ty_ryes rfl (by omega))) (fun H locs hG => ?_)
        refine lv_aload_n X.1 X.2.1 dX8_addPiece_35 rfl (lv_at hl 0 rfl) ?_
        refine lv_dup X.1 X.2.1 dX8_addPiece_36 rfl ?_
        refine gf_8_6 X hG hwi q_78 dX8_addPiece_37 (fun x11 r11 => ?_)
        have u11 := pv_i r11 f6
        have t11 : x11.toInt = (P : Int) := by rw [u11]; exact cI_nI (by omega)
        refine n_ic X dX8_addPiece_40 (by decide) (by decide) (fun x12 t12 => ?_)
        refine n_add X dX8_addPiece_41 (by omega) (by omega) (fun x13 t13 => ?_)
        have u1 : x13 = nI (P + 1) := cI_inj (by rw [cI_nI (by omega)]; omega)
        subst u1
        refine pg_8_6 X hG hwi q_78 dX8_addPiece_42 (pv (fu f wi 6 (.int (nI (P + 1)))) ρ) pv_off pv_oth (pv_new (hF _ _ _ _ hwi (ty_in (n := 806) rfl) (ty_ryes rfl (by rw [cI_nI (by omega)]; omega)))) (fun H locs hG => ?_)
        have hf := fn_fu hf (x := .int (nI (P + 1))) (j := 6) hwi (by decide)
        refine lv_aload_n X.1 X.2.1 dX8_addPiece_45 rfl (lv_at hl 0 rfl) ?_
        refine lv_dup X.1 X.2.1 dX8_addPiece_46 rfl ?_
        refine gf_8_7 X hG hwi q_81 dX8_addPiece_47 (fun x14 r14 => ?_)
        have u14 := pv_i r14 ((fu_j (by decide)).trans f7)
        have t14 : x14.toInt = (C : Int) := by rw [u14]; exact cI_nI (by omega)
        refine lv_iload_n X.1 X.2.1 dX8_addPiece_50 rfl (lv_at hl 2 rfl) ?_
        refine n_add X dX8_addPiece_51 (by omega) (by omega) (fun x15 t15 => ?_)
        have u2 : x15 = nI (C + x902.toInt.toNat) := cI_inj (by rw [cI_nI (by omega)]; omega)
        subst u2
        refine pg_8_7 X hG hwi q_81 dX8_addPiece_52 (pv (fu (fu f wi 6 (.int (nI (P + 1)))) wi 7 (.int (nI (C + x902.toInt.toNat)))) ρ) pv_off pv_oth (pv_new (hW7 _ (ty_ryes rfl (by rw [cI_nI (by omega)]; omega)))) (fun H locs hG => ?_)
        have hf := fn_fu hf (x := .int (nI (C + x902.toInt.toNat))) (j := 7) hwi (by decide)
        refine lv_aload_n X.1 X.2.1 dX8_addPiece_55 rfl (lv_at hl 0 rfl) ?_
        refine lv_aload_n X.1 X.2.1 dX8_addPiece_56 rfl (lv_at hl 0 rfl) ?_
        refine gf_8_6 X hG hwi q_78 dX8_addPiece_57 (fun x16 r16 => ?_)
        have u16 := pv_i r16 ((fu_j (by decide)).trans fu_at)
        have t16 : x16.toInt = ((P + 1 : Nat) : Int) := by rw [u16]; exact cI_nI (by omega)
        refine n_ic X dX8_addPiece_60 (by decide) (by decide) (fun x17 t17 => ?_)
        refine n_sub X dX8_addPiece_61 (by omega) (by omega) (fun x18 t18 => ?_)
        refine lv_iload_n X.1 X.2.1 dX8_addPiece_62 rfl (lv_at hl 1 rfl) ?_
        refine k_cVv X hG (c_X8_changePiece l D cy τ _ (pv_N hN) (pv_R hR) (ty_Wf.sub (S' := [5000]) (pv_FU hF hf) (by decide)) hwi x18 x901) hwi rfl yv_X8_changePiece q_496 ⟨rfl, rfl⟩ ⟨Nat.le_of_ble_eq_true rfl, Nat.le_of_ble_eq_true rfl⟩ rfl hl.1 rfl (Nat.le_of_ble_eq_true rfl) ⟨Nat.zero_le _, Nat.zero_le _⟩ dX8_addPiece_63 (fun u19 H locs hG po => ?_)
        rw [po] at hG
        exact ret _ _ _ _ _ hG rfl dX8_addPiece_66
      · exact absurd cq (by omega)
set_option maxHeartbeats 4000000 in
set_option maxRecDepth 100000 in
theorem e_X1_add (l : Launch) (D : va_G) (cy : Nat → ClassId) (τ : ty_T) (ρ : ty_R) {M : md_T} {f : Nat → Nat → Option Value} (hN : ty_N τ ρ) (hR : ty_Rg M τ ρ) (hF : ty_Wf M τ ρ SRd) (hf : FN τ f) {ga G : Nat} (hga : τ ga = some (0, 1)) (hW : ∀ x, ty_rng M (0, 1) 6 x → ρ ga 6 (.int x)) (f6 : f ga 6 = some (.int (nI G))) (hG6 : G < 6) (x901 : Int32) (x902 : Int32) (x903 : Int32) : KV l D cy yX1_add cX1_add 4 (rL 0) τ (pv f ρ) [.ref ga, .int x901, .int x902, .int x903] (fun u => u = pv (fu f ga 6 (.int (nI (G + 1)))) ρ) := by
  refine k_metV "EdgeEchoes$Gates" rfl (by decide +kernel) (Nat.le_of_ble_eq_true rfl) ?_
  intro p e s m args below meth cod Q ls X hG hl ret
  have hl : lv_has ls 4 [(0, .ref ga), (1, .int x901), (2, .int x902), (3, .int x903)] := hl
  refine lv_aload_n X.1 X.2.1 dX1_add_0 rfl (lv_at hl 0 rfl) ?_
  refine gf_1_6 X hG hga q_144 dX1_add_1 (fun x1 r1 => ?_)
  have u1 := pv_i r1 f6
  have t1 : x1.toInt = (G : Int) := by rw [u1]; exact cI_nI (by omega)
  refine n_bp X dX1_add_4 (by decide) (by decide) (fun x2 t2 => ?_)
  refine n_icmp_lt (tgt := 10) X dX1_add_6 (by decide) (fun cq => ?_) (fun cq => ?_)
  · refine lv_aload_n X.1 X.2.1 dX1_add_10 rfl (lv_at hl 0 rfl) ?_
    refine gf_1_0 X hG hga q_131 dX1_add_11 (pv_N hN _ _ _ hga) (fun a4 h4 r4 => ?_)
    refine lv_aload_n X.1 X.2.1 dX1_add_14 rfl (lv_at hl 0 rfl) ?_
    refine gf_1_6 X hG hga q_144 dX1_add_15 (fun x5 r5 => ?_)
    have u5 := pv_i r5 f6
    have t5 : x5.toInt = (G : Int) := by rw [u5]; exact cI_nI (by omega)
    refine lv_iload_n X.1 X.2.1 dX1_add_18 rfl (lv_at hl 1 rfl) ?_
    refine tg_iasf X hG h4 rfl (cI_in (n := 6) (by omega)) dX1_add_19 ((pv_FU hF hf) _ _ _ _ h4 (ty_in (n := 5000) rfl) (ty_rno rfl)) (fun H locs hG => ?_)
    refine lv_aload_n X.1 X.2.1 dX1_add_20 rfl (lv_at hl 0 rfl) ?_
    refine gf_1_1 X hG hga q_133 dX1_add_21 (pv_N hN _ _ _ hga) (fun a6 h6 r6 => ?_)
    refine lv_aload_n X.1 X.2.1 dX1_add_24 rfl (lv_at hl 0 rfl) ?_
    refine gf_1_6 X hG hga q_144 dX1_add_25 (fun x7 r7 => ?_)
    have u7 := pv_i r7 f6
    have t7 : x7.toInt = (G : Int) := by rw [u7]; exact cI_nI (by omega)
    refine lv_iload_n X.1 X.2.1 dX1_add_28 rfl (lv_at hl 2 rfl) ?_
    refine tg_iasf X hG h6 rfl (cI_in (n := 6) (by omega)) dX1_add_29 ((pv_FU hF hf) _ _ _ _ h6 (ty_in (n := 5000) rfl) (ty_rno rfl)) (fun H locs hG => ?_)
    refine lv_aload_n X.1 X.2.1 dX1_add_30 rfl (lv_at hl 0 rfl) ?_
    refine gf_1_2 X hG hga q_135 dX1_add_31 (pv_N hN _ _ _ hga) (fun a8 h8 r8 => ?_)
    refine lv_aload_n X.1 X.2.1 dX1_add_34 rfl (lv_at hl 0 rfl) ?_
    refine gf_1_6 X hG hga q_144 dX1_add_35 (fun x9 r9 => ?_)
    have u9 := pv_i r9 f6
    have t9 : x9.toInt = (G : Int) := by rw [u9]; exact cI_nI (by omega)
    refine lv_iload_n X.1 X.2.1 dX1_add_38 rfl (lv_at hl 3 rfl) ?_
    refine tg_iasf X hG h8 rfl (cI_in (n := 6) (by omega)) dX1_add_39 ((pv_FU hF hf) _ _ _ _ h8 (ty_in (n := 5000) rfl) (ty_rno rfl)) (fun H locs hG => ?_)
    refine lv_aload_n X.1 X.2.1 dX1_add_40 rfl (lv_at hl 0 rfl) ?_
    refine lv_dup X.1 X.2.1 dX1_add_41 rfl ?_
    refine gf_1_6 X hG hga q_144 dX1_add_42 (fun x10 r10 => ?_)
    have u10 := pv_i r10 f6
    have t10 : x10.toInt = (G : Int) := by rw [u10]; exact cI_nI (by omega)
    refine n_ic X dX1_add_45 (by decide) (by decide) (fun x11 t11 => ?_)
    refine n_add X dX1_add_46 (by omega) (by omega) (fun x12 t12 => ?_)
    have u1 : x12 = nI (G + 1) := cI_inj (by rw [cI_nI (by omega)]; omega)
    subst u1
    refine pg_1_6 X hG hga q_144 dX1_add_47 (pv (fu f ga 6 (.int (nI (G + 1)))) ρ) pv_off pv_oth (pv_new (hW _ (ty_ryes rfl (by rw [cI_nI (by omega)]; omega)))) (fun H locs hG => ?_)
    exact ret _ _ _ _ _ hG rfl dX1_add_50
  · exact absurd cq (by omega)
set_option maxHeartbeats 4000000 in
set_option maxRecDepth 100000 in
theorem e_X6_isTooMany (l : Launch) (D : va_G) (cy : Nat → ClassId) (τ : ty_T) (ρ : ty_R) {M : md_T} {f : Nat → Nat → Option Value} (hN : ty_N τ ρ) (hR : ty_Rg M τ ρ) (hF : ty_Wf M τ ρ SRd) {tx la nu c dr wi ga : Nat} {T : Nat → Int32} {st : ST} (htx : τ tx = some (0, 6)) (hla : τ la = some (8, 240)) (hnu : τ nu = some (9, 3)) (hdr : τ dr = some (0, 3)) (hwi : τ wi = some (0, 8)) (hga : τ ga = some (0, 1)) (hD : DE f tx dr wi ga st) (hO : OKS st) {w : Nat} (hw : w ≤ 3) (x901 : Int32) (h901 : x901.toInt = (w : Int)) : KI l D cy yX6_isTooMany cX6_isTooMany 3 .boolean (rL 0) τ (pv f ρ) [.ref tx, .int x901, .ref dr] (fun r u => u = pv f ρ ∧ (r.toInt = 0 ∨ r.toInt = 1) ∧ (many st w = true → r.toInt ≠ 0) ∧ (many st w = false → r.toInt = 0)) := by
  refine k_metI "EdgeEchoes$Text" rfl (by decide +kernel) (Nat.le_of_ble_eq_true rfl) (fun r u h => (cI_nar (cI_01 h.2.1)).1) ?_
  intro p e s m args below meth cod Q ls X hG hl ret
  have hl : lv_has ls 3 [(0, .ref tx), (1, .int x901), (2, .ref dr)] := hl
  obtain ⟨d0, d1, d2, d3, d4, d5, d6⟩ := hD
  obtain ⟨o1, o2, o3⟩ := hO
  refine lv_iload_n X.1 X.2.1 dX6_isTooMany_0 rfl (lv_at hl 1 rfl) ?_
  rcases (show w = 0 ∨ w = 1 ∨ w = 2 ∨ w = 3 by omega) with cz | cz | cz | cz
  · subst cz
    refine lv_tableIn (off := 27) (tgt := 28) X.1 X.2.1 dX6_isTooMany_1 (by omega) (by omega) (by rw [h901]; rfl) (by decide) ?_
    refine lv_aload_n X.1 X.2.1 dX6_isTooMany_28 rfl (lv_at hl 2 rfl) ?_
    refine gf_3_2 X hG hdr q_172 dX6_isTooMany_29 (fun x1 b1 r1 => ?_)
    have u1 := pv_i r1 d2
    have em : many st 0 = st.1 := rfl
    have t1 : x1.toInt = if st.1 then 1 else 0 := by rw [u1]; exact bI_t
    exact ret _ _ _ _ x1 _ hG ⟨rfl, (by rw [t1]; split <;> omega), (fun h => by rw [em] at h; rw [t1, h]; decide), (fun h => by rw [em] at h; rw [t1, h]; rfl)⟩ dX6_isTooMany_32
  · subst cz
    refine lv_tableIn (off := 32) (tgt := 33) X.1 X.2.1 dX6_isTooMany_1 (by omega) (by omega) (by rw [h901]; rfl) (by decide) ?_
    refine lv_aload_n X.1 X.2.1 dX6_isTooMany_33 rfl (lv_at hl 2 rfl) ?_
    refine gf_3_0 X hG hdr q_166 dX6_isTooMany_34 (pv_N hN _ _ _ hdr) (fun a2 h2 r2 => ?_)
    have e2 := pv_rd r2 d0
    cases e2
    refine gf_8_6 X hG hwi q_80 dX6_isTooMany_37 (fun x3 r3 => ?_)
    have u3 := pv_i r3 d3
    have t3 : x3.toInt = (st.2.1 : Int) := by rw [u3]; exact cI_nI (by omega)
    refine n_bp X dX6_isTooMany_40 (by decide) (by decide) (fun x4 t4 => ?_)
    have em : many st 1 = decide (8 ≤ st.2.1) := rfl
    refine n_icmp_lt (tgt := 49) X dX6_isTooMany_42 (by decide) (fun c5 => ?_) (fun c5 => ?_)
    · refine n_ic X dX6_isTooMany_49 (by decide) (by decide) (fun x6 t6 => ?_)
      exact ret _ _ _ _ x6 _ hG ⟨rfl, by omega, (fun h => by rw [em] at h; exact absurd (of_decide_eq_true h) (by omega)), (fun _ => by omega)⟩ dX6_isTooMany_50
    · refine n_ic X dX6_isTooMany_45 (by decide) (by decide) (fun x7 t7 => ?_)
      refine lv_goto (tgt := 50) X.1 X.2.1 dX6_isTooMany_46 (by decide) ?_
      exact ret _ _ _ _ x7 _ hG ⟨rfl, by omega, (fun _ => by omega), (fun h => by rw [em] at h; exact absurd (show 8 ≤ st.2.1 by omega) (of_decide_eq_false h))⟩ dX6_isTooMany_50
  · subst cz
    refine lv_tableIn (off := 50) (tgt := 51) X.1 X.2.1 dX6_isTooMany_1 (by omega) (by omega) (by rw [h901]; rfl) (by decide) ?_
    refine lv_aload_n X.1 X.2.1 dX6_isTooMany_51 rfl (lv_at hl 0 rfl) ?_
    refine gf_6_4 X hG htx q_40 dX6_isTooMany_52 (fun x8 b8 r8 => ?_)
    have u8 := pv_i r8 d5
    have em : many st 2 = st.2.2.2.1 := rfl
    have t8 : x8.toInt = if st.2.2.2.1 then 1 else 0 := by rw [u8]; exact bI_t
    exact ret _ _ _ _ x8 _ hG ⟨rfl, (by rw [t8]; split <;> omega), (fun h => by rw [em] at h; rw [t8, h]; decide), (fun h => by rw [em] at h; rw [t8, h]; rfl)⟩ dX6_isTooMany_55
  · subst cz
    refine lv_tableOut (tgt := 56) X.1 X.2.1 dX6_isTooMany_1 (Or.inr (by omega)) (by decide) ?_
    refine lv_aload_n X.1 X.2.1 dX6_isTooMany_56 rfl (lv_at hl 2 rfl) ?_
    refine gf_3_1 X hG hdr q_169 dX6_isTooMany_57 (pv_N hN _ _ _ hdr) (fun a9 h9 r9 => ?_)
    have e9 := pv_rd r9 d1
    cases e9
    refine gf_1_6 X hG hga q_146 dX6_isTooMany_60 (fun x10 r10 => ?_)
    have u10 := pv_i r10 d6
    have t10 : x10.toInt = (st.2.2.2.2 : Int) := by rw [u10]; exact cI_nI (by omega)
    refine n_bp X dX6_isTooMany_63 (by decide) (by decide) (fun x11 t11 => ?_)
    have em : many st 3 = decide (6 ≤ st.2.2.2.2) := rfl
    refine n_icmp_lt (tgt := 72) X dX6_isTooMany_65 (by decide) (fun c12 => ?_) (fun c12 => ?_)
    · refine n_ic X dX6_isTooMany_72 (by decide) (by decide) (fun x13 t13 => ?_)
      exact ret _ _ _ _ x13 _ hG ⟨rfl, by omega, (fun h => by rw [em] at h; exact absurd (of_decide_eq_true h) (by omega)), (fun _ => by omega)⟩ dX6_isTooMany_73
    · refine n_ic X dX6_isTooMany_68 (by decide) (by decide) (fun x14 t14 => ?_)
      refine lv_goto (tgt := 73) X.1 X.2.1 dX6_isTooMany_69 (by decide) ?_
      exact ret _ _ _ _ x14 _ hG ⟨rfl, by omega, (fun _ => by omega), (fun h => by rw [em] at h; exact absurd (show 6 ≤ st.2.2.2.2 by omega) (of_decide_eq_false h))⟩ dX6_isTooMany_73
