/-! feed, see, write, tear of the reference, to the number -/
def K9 (K : KT) (v : Nat) : KT := (K.1, K.2.1, v, K.2.2.2)
def K13 (K : KT) (v : Nat) : KT := (K.1, K.2.1, K.2.2.1, v, K.2.2.2.2)
def feedK (K : KT) (x : Int32) : KT := (K.1 + 1, K.2.1, K.2.2.1, K.2.2.2.1, fun j => if j = K.1 then x else K.2.2.2.2 j)
def feedR (c : Nat) (x : Int32) : Int := if x.toInt < 0 ∨ 255 < x.toInt then -1000000002 else if c = 240 then -1000000004 else (c : Int) + 1
def feedS (K : KT) (x : Int32) : KT := if (x.toInt < 0 ∨ 255 < x.toInt) ∨ K.1 = 240 then K else feedK K x
def seeO (t v : Int32) : Prop := t.toInt < 1 ∨ 150 < t.toInt ∨ v.toInt < 0 ∨ 99000 < v.toInt
theorem feed_o {c : Nat} {x r : Int32} (h : x.toInt < 0 ∨ 255 < x.toInt) (hr : r.toInt = -1000000002) : r.toInt = feedR c x := by unfold feedR; rw [if_pos h]; exact hr
theorem feed_f {c : Nat} {x r : Int32} (h : ¬ (x.toInt < 0 ∨ 255 < x.toInt)) (h2 : c = 240) (hr : r.toInt = -1000000004) : r.toInt = feedR c x := by unfold feedR; rw [if_neg h, if_pos h2]; exact hr
theorem feed_y {c : Nat} {x r : Int32} (h : ¬ (x.toInt < 0 ∨ 255 < x.toInt)) (h2 : c ≠ 240) (hr : r.toInt = (c : Int) + 1) : r.toInt = feedR c x := by unfold feedR; rw [if_neg h, if_neg h2]; exact hr
theorem feedS_n {K : KT} {x : Int32} (h : (x.toInt < 0 ∨ 255 < x.toInt) ∨ K.1 = 240) : feedS K x = K := if_pos h
theorem feedS_y {K : KT} {x : Int32} (h : ¬ ((x.toInt < 0 ∨ 255 < x.toInt) ∨ K.1 = 240)) : feedS K x = feedK K x := if_neg h
theorem fl_o {K K2 : KT} {u j v : Nat} {r : Int × Int} (h : flM K2 u j = some r) (h7 : j = 7 → K2.1 = K.1) (h8 : j = 8 → K2.2.1 = K.2.1) (h9 : j = 9 → K2.2.2.1 = K.2.2.1) (h13 : j = 13 → K2.2.2.2.1 = K.2.2.2.1) (h3 : sdK K2 = sdK K := by rfl) : flM K u j = some r := by
  unfold flM at h ⊢
  by_cases a : j = 2
  · rw [if_pos a] at h ⊢; exact h
  rw [if_neg a] at h ⊢
  by_cases a : j = 3
  · rw [if_pos a] at h ⊢; rw [← h3]; exact h
  rw [if_neg a] at h ⊢
  by_cases a : j = 7
  · rw [if_pos a] at h ⊢; rw [← h7 a]; exact h
  rw [if_neg a] at h ⊢
  by_cases a : j = 8
  · rw [if_pos a] at h ⊢; rw [← h8 a]; exact h
  rw [if_neg a] at h ⊢
  by_cases a : j = 9
  · rw [if_pos a] at h ⊢; rw [← h9 a]; exact h
  rw [if_neg a] at h ⊢
  by_cases a : j = 13
  · rw [if_pos a] at h ⊢; rw [← h13 a]; exact h
  rw [if_neg a] at h
  cases h
theorem mmK9 {K : KT} {P N u v : Nat} {k0 k1 : Bool} : ∀ n j r, MM (K9 K v) P N u k0 k1 n j = some r → fsM (MM K P N u k0 k1) 9 ((v : Int), (v : Int)) n j = some r := by
  intro n j r h
  by_cases e : n = 0 ∧ j = 9
  · obtain ⟨rfl, rfl⟩ := e
    rw [fsM_at]
    exact h
  rw [fsM_ne n j (by omega)]
  by_cases n0 : n = 0
  · subst n0
    exact fl_o (v := v) (K2 := K9 K v) h (fun _ => rfl) (fun _ => rfl) (fun e2 => absurd ⟨rfl, e2⟩ e) (fun _ => rfl)
  by_cases n16 : n = 16
  · subst n16
    exact h
  rw [MM_K (K2 := K9 K v) n0 n16]
  exact h
theorem mmK13 {K : KT} {P N u v : Nat} {k0 k1 : Bool} : ∀ n j r, MM (K13 K v) P N u k0 k1 n j = some r → fsM (MM K P N u k0 k1) 13 ((v : Int), (v : Int)) n j = some r := by
  intro n j r h
  by_cases e : n = 0 ∧ j = 13
  · obtain ⟨rfl, rfl⟩ := e
    rw [fsM_at]
    exact h
  rw [fsM_ne n j (by omega)]
  by_cases n0 : n = 0
  · subst n0
    exact fl_o (v := v) (K2 := K13 K v) h (fun _ => rfl) (fun _ => rfl) (fun _ => rfl) (fun e2 => absurd ⟨rfl, e2⟩ e)
  by_cases n16 : n = 16
  · subst n16
    exact h
  rw [MM_K (K2 := K13 K v) n0 n16]
  exact h
/-- one letter more -/
def tsM (M : md_T) (c : Nat) (x : Int32) : md_T := fun a j => if a = 16 ∧ j = c then some (x.toInt, x.toInt) else M a j
theorem tsM_at {M : md_T} {c : Nat} {x : Int32} : tsM M c x 16 c = some (x.toInt, x.toInt) := if_pos ⟨rfl, rfl⟩
theorem tsM_ne {M : md_T} {c : Nat} {x : Int32} : ∀ n j, n ≠ 16 ∨ j ≠ c → tsM M c x n j = M n j := fun n j h => if_neg (by omega)
theorem mmF {K : KT} {P N u : Nat} {k0 k1 : Bool} {x : Int32} (h240 : K.1 ≤ 240) : ∀ n j r, MM (feedK K x) P N u k0 k1 n j = some r → fsM (tsM (MM K P N u k0 k1) K.1 x) 7 (((K.1 + 1 : Nat) : Int), ((K.1 + 1 : Nat) : Int)) n j = some r := by
  intro n j r h
  by_cases e : n = 0 ∧ j = 7
  · obtain ⟨rfl, rfl⟩ := e
    rw [fsM_at]
    exact h
  rw [fsM_ne n j (by omega)]
  by_cases n16 : n = 16
  · subst n16
    have h : txM (feedK K x) j = some r := h
    unfold txM at h
    have e1 : (feedK K x).1 = K.1 + 1 := rfl
    have e2 : (feedK K x).2.2.2.2 j = if j = K.1 then x else K.2.2.2.2 j := rfl
    rw [e1, e2] at h
    by_cases j0 : j = K.1
    · subst j0
      rw [if_pos (by omega), if_pos rfl] at h
      rw [tsM_at]
      exact h
    · rw [tsM_ne _ _ (Or.inr j0), MM_16]
      unfold txM
      by_cases j1 : j < K.1
      · rw [if_pos (by omega), if_neg j0] at h
        rw [if_pos j1]
        exact h
      · rw [if_neg (by omega)] at h
        cases h
  rw [tsM_ne _ _ (Or.inl n16)]
  by_cases n0 : n = 0
  · subst n0
    exact fl_o (v := 0) (K2 := feedK K x) h (fun e2 => absurd ⟨rfl, e2⟩ e) (fun _ => rfl) (fun _ => rfl) (fun _ => rfl) (by unfold sdK; show (if 1002 = K.1 then x else K.2.2.2.2 1002).toNatClampNeg = _; rw [if_neg (by omega)])
  rw [MM_K (K2 := feedK K x) n0 n16 (fun i hi => by show (if 1000 + i = K.1 then x else K.2.2.2.2 (1000 + i)) = _; rw [if_neg (by omega)])]
  exact h
set_option maxHeartbeats 4000000 in
set_option maxRecDepth 100000 in
theorem e_X10_see (l : Launch) (D : va_G) (cy : Nat → ClassId) (τ : ty_T) (hU : UQ τ) {K : KT} {P N u : Nat} {k0 k1 : Bool} (ok : OKG K P N u) {a900 : Nat} (h900 : τ a900 = some (0, 10)) (x901 : Int32) (x902 : Int32) (x903 : Int32) (zx903 : x903.toInt = 0 ∨ x903.toInt = 1) : KI l D cy yX10_see cX10_see 4 .int (rL 1) τ (cn (MM K P N u k0 k1) τ) [.ref a900, .int x901, .int x902, .int x903] (fun r w => (seeO x901 x902 → r.toInt = -1000000002 ∧ w = cn (MM K P N u k0 k1) τ) ∧ (¬ seeO x901 x902 → K.2.2.1 = 6 → r.toInt = -1000000004 ∧ w = cn (MM K P N u k0 k1) τ) ∧ (¬ seeO x901 x902 → K.2.2.1 ≠ 6 → r.toInt = (K.2.2.1 : Int) + 1 ∧ w = cn (MM (K9 K (K.2.2.1 + 1)) P N u k0 k1) τ)) := by
  refine k_metI "EdgeEchoesModel" rfl (by decide +kernel) (Nat.le_of_ble_eq_true rfl) (fun _ _ _ => rfl) ?_
  intro p e s m args below meth c Q ls X hG hl ret
  have hl : lv_has ls 4 [(0, .ref a900), (1, .int x901), (2, .int x902), (3, .int x903)] := hl
  obtain ⟨-, ⟨mN, mP, ⟨gG, mG, lG⟩, mL, mF⟩, mO, ⟨mK, mS, mQ, mZ⟩, hN72, hP8, hNP⟩ := id (MM_HB (k0 := k0) (k1 := k1) ok)
  have m9 : MM K P N u k0 k1 0 9 = some ((K.2.2.1 : Int), (K.2.2.1 : Int)) := rfl
  have m13 : MM K P N u k0 k1 0 13 = some ((K.2.2.2.1 : Int), (K.2.2.2.1 : Int)) := rfl
  have hk := ok.1.2
  have hk7 := hk.1
  have hk9 := hk.2.1
  have hk13 := hk.2.2
  have g901 := cI_rng x901
  have g902 := cI_rng x902
  refine lv_iload_n X.1 X.2.1 dX10_see_0 rfl (lv_at hl 1 rfl) ?_
  refine n_i2l X dX10_see_1 (fun w2 t2 => ?_)
  refine n_lc X dX10_see_2 (fun w3 t3 => ?_)
  have t3 : w3.toInt = 1 := t3
  refine n_ldl X q_1230 (n := 150) (by decide +kernel) dX10_see_3 (fun w4 e4 t4 => ?_)
  refine k_cSi X hG (c_X10_in l D cy τ _ cn_N cn_R (cn_F (S := [])) w2 w3 w4 ) ys_X10_in q_957 ⟨rfl, rfl⟩ ⟨Nat.le_of_ble_eq_true rfl, Nat.le_of_ble_eq_true rfl⟩ rfl hl.1 rfl (Nat.le_of_ble_eq_true rfl) ⟨Nat.zero_le _, Nat.zero_le _⟩ dX10_see_6 (fun x6 u7 H locs hG po5 => ?_)
  obtain ⟨eu7, po5⟩ := po5
  rw [eu7] at hG
  refine n_if_eq (tgt := 24) X dX10_see_9 (by decide) (fun c8 => ?_) (fun c8 => ?_)
  · refine n_ldc X q_960 (n := -1000000002) (by decide +kernel) dX10_see_24 (fun x9 t9 => ?_)
    exact ret _ _ _ _ x9 _ hG ⟨(fun _ => ⟨by omega, rfl⟩), (fun h => absurd (by unfold seeO; omega) h), (fun h => absurd (by unfold seeO; omega) h)⟩ dX10_see_26
  · refine lv_iload_n X.1 X.2.1 dX10_see_12 rfl (lv_at hl 2 rfl) ?_
    refine n_i2l X dX10_see_13 (fun w10 t10 => ?_)
    refine n_lc X dX10_see_14 (fun w11 t11 => ?_)
    have t11 : w11.toInt = 0 := t11
    refine n_ldl X q_1231 (n := 99000) (by decide +kernel) dX10_see_15 (fun w12 e12 t12 => ?_)
    refine k_cSi X hG (c_X10_in l D cy τ _ cn_N cn_R (cn_F (S := [])) w10 w11 w12 ) ys_X10_in q_957 ⟨rfl, rfl⟩ ⟨Nat.le_of_ble_eq_true rfl, Nat.le_of_ble_eq_true rfl⟩ rfl hl.1 rfl (Nat.le_of_ble_eq_true rfl) ⟨Nat.zero_le _, Nat.zero_le _⟩ dX10_see_18 (fun x14 u15 H locs hG po13 => ?_)
    obtain ⟨eu15, po13⟩ := po13
    rw [eu15] at hG
    refine n_if_ne (tgt := 27) X dX10_see_21 (by decide) (fun c16 => ?_) (fun c16 => ?_)
    · refine lv_aload_n X.1 X.2.1 dX10_see_27 rfl (lv_at hl 0 rfl) ?_
      refine gf_10_9 X hG h900 q_885 dX10_see_28 (fun x17 r17 => ?_)
      have b17 := (cn_R _ _ _ _ h900 r17) _ _ m9
      refine n_bp X dX10_see_31 (by decide) (by decide) (fun x18 t18 => ?_)
      refine n_icmp_ne (tgt := 39) X dX10_see_33 (by decide) (fun c19 => ?_) (fun c19 => ?_)
      · refine lv_aload_n X.1 X.2.1 dX10_see_39 rfl (lv_at hl 0 rfl) ?_
        refine gf_10_10 X hG h900 q_886 dX10_see_40 (cn_N _ _ _ h900) (fun a20 h20 r20 => ?_)
        refine lv_aload_n X.1 X.2.1 dX10_see_43 rfl (lv_at hl 0 rfl) ?_
        refine gf_10_9 X hG h900 q_885 dX10_see_44 (fun x21 r21 => ?_)
        have b21 := (cn_R _ _ _ _ h900 r21) _ _ m9
        refine lv_iload_n X.1 X.2.1 dX10_see_47 rfl (lv_at hl 1 rfl) ?_
        refine tg_iasf X hG h20 rfl (cI_in (n := 6) (by omega)) dX10_see_48 ((cn_F (S := [6020])) _ _ _ _ h20 (ty_in (n := 6020) rfl) (ty_ryes (mQ _) (by omega))) (fun H locs hG => ?_)
        refine lv_aload_n X.1 X.2.1 dX10_see_49 rfl (lv_at hl 0 rfl) ?_
        refine gf_10_11 X hG h900 q_887 dX10_see_50 (cn_N _ _ _ h900) (fun a22 h22 r22 => ?_)
        refine lv_aload_n X.1 X.2.1 dX10_see_53 rfl (lv_at hl 0 rfl) ?_
        refine gf_10_9 X hG h900 q_885 dX10_see_54 (fun x23 r23 => ?_)
        have b23 := (cn_R _ _ _ _ h900 r23) _ _ m9
        refine lv_iload_n X.1 X.2.1 dX10_see_57 rfl (lv_at hl 2 rfl) ?_
        refine tg_iasf X hG h22 rfl (cI_in (n := 6) (by omega)) dX10_see_58 ((cn_F (S := [6021])) _ _ _ _ h22 (ty_in (n := 6021) rfl) (ty_rno (mZ 21 (by decide) _))) (fun H locs hG => ?_)
        refine lv_aload_n X.1 X.2.1 dX10_see_59 rfl (lv_at hl 0 rfl) ?_
        refine gf_10_12 X hG h900 q_888 dX10_see_60 (cn_N _ _ _ h900) (fun a24 h24 r24 => ?_)
        refine lv_aload_n X.1 X.2.1 dX10_see_63 rfl (lv_at hl 0 rfl) ?_
        refine gf_10_9 X hG h900 q_885 dX10_see_64 (fun x25 r25 => ?_)
        have b25 := (cn_R _ _ _ _ h900 r25) _ _ m9
        refine lv_iload_n X.1 X.2.1 dX10_see_67 rfl (lv_at hl 3 rfl) ?_
        refine tg_zast X hG h24 rfl (cI_in (n := 6) (by omega)) (by omega) dX10_see_68 (cn (MM K P N u k0 k1) τ) (fun _ _ _ _ h => h) (fun _ _ _ h => h) ((cn_F (S := [6022])) _ _ _ _ h24 (ty_in (n := 6022) rfl) (ty_rno (mZ 22 (by decide) _))) (fun H locs hG => ?_)
        refine lv_aload_n X.1 X.2.1 dX10_see_69 rfl (lv_at hl 0 rfl) ?_
        refine lv_dup X.1 X.2.1 dX10_see_70 rfl ?_
        refine gf_10_9 X hG h900 q_885 dX10_see_71 (fun x26 r26 => ?_)
        have b26 := (cn_R _ _ _ _ h900 r26) _ _ m9
        refine n_ic X dX10_see_74 (by decide) (by decide) (fun x27 t27 => ?_)
        refine n_add X dX10_see_75 (by omega) (by omega) (fun x28 t28 => ?_)
        refine pg_10_9 X hG h900 q_885 dX10_see_76 (cn (fsM (MM K P N u k0 k1) 9 (((K.2.2.1 + 1 : Nat) : Int), ((K.2.2.1 + 1 : Nat) : Int))) τ) (cf_off hU h900 fsM_ne) (cf_oth fsM_ne) (cw_new h900 (ty_ryes fsM_at (by omega))) (fun H locs hG => ?_)
        refine lv_aload_n X.1 X.2.1 dX10_see_79 rfl (lv_at hl 0 rfl) ?_
        refine gf_10_9 X hG h900 q_885 dX10_see_80 (fun x29 r29 => ?_)
        have b29 := (cn_R _ _ _ _ h900 r29) _ _ fsM_at
        exact ret _ _ _ _ x29 _ (TG.sub hG mmK9) ⟨(fun h => absurd h (by unfold seeO; omega)), (fun _ h => absurd h (by omega)), (fun _ _ => ⟨by omega, rfl⟩)⟩ dX10_see_83
      · refine n_ldc X q_961 (n := -1000000004) (by decide +kernel) dX10_see_36 (fun x30 t30 => ?_)
        exact ret _ _ _ _ x30 _ hG ⟨(fun h => absurd h (by unfold seeO; omega)), (fun _ _ => ⟨by omega, rfl⟩), (fun _ h => absurd (by omega) h)⟩ dX10_see_38
    · refine n_ldc X q_960 (n := -1000000002) (by decide +kernel) dX10_see_24 (fun x31 t31 => ?_)
      exact ret _ _ _ _ x31 _ hG ⟨(fun _ => ⟨by omega, rfl⟩), (fun h => absurd (by unfold seeO; omega) h), (fun h => absurd (by unfold seeO; omega) h)⟩ dX10_see_26
/-- write: no such gate; a number out of its bounds -/
def wrU (G : Nat) (g : Int32) : Prop := g.toInt < 0 ∨ (G : Int) ≤ g.toInt
def wrO (e : Int32) : Prop := e.toInt < 0 ∨ 9999 < e.toInt
set_option maxHeartbeats 4000000 in
set_option maxRecDepth 100000 in
theorem e_X10_isGate (l : Launch) (D : va_G) (cy : Nat → ClassId) (τ : ty_T) (ρ : ty_R) {M : md_T} (hN : ty_N τ ρ) (hR : ty_Rg M τ ρ) (hF : ty_Wf M τ ρ []) {a900 : Nat} (h900 : τ a900 = some (0, 10)) (x901 : Int32) {G : Nat} (mG : M 10 259 = some ((G : Int), (G : Int))) (lG : G ≤ 6) : KI l D cy yX10_isGate cX10_isGate 2 .boolean (rL 1) τ ρ [.ref a900, .int x901] (fun r u => u = ρ ∧ (r.toInt = 0 ∨ r.toInt = 1) ∧ (r.toInt ≠ 0 → 0 ≤ x901.toInt ∧ x901.toInt < (G : Int)) ∧ (r.toInt = 0 → x901.toInt < 0 ∨ (G : Int) ≤ x901.toInt)) := by
  refine k_metI "EdgeEchoesModel" rfl (by decide +kernel) (Nat.le_of_ble_eq_true rfl) (fun r u h => (cI_nar (cI_01 h.2.1)).1) ?_
  intro p e s m args below meth c Q ls X hG hl ret
  have hl : lv_has ls 2 [(0, .ref a900), (1, .int x901)] := hl
  have g901 := cI_rng x901
  refine lv_iload_n X.1 X.2.1 dX10_isGate_0 rfl (lv_at hl 1 rfl) ?_
  refine n_i2l X dX10_isGate_1 (fun w1 t1 => ?_)
  refine n_lc X dX10_isGate_2 (fun w2 t2 => ?_)
  have t2 : w2.toInt = 0 := t2
  refine lv_aload_n X.1 X.2.1 dX10_isGate_3 rfl (lv_at hl 0 rfl) ?_
  refine gf_10_0 X hG h900 q_876 dX10_isGate_4 (hN _ _ _ h900) (fun a3 h3 r3 => ?_)
  refine n_sp X dX10_isGate_7 (by decide) (by decide) (fun x4 t4 => ?_)
  refine tg_iald X hG h3 rfl (cI_in (n := 4261) (by omega)) dX10_isGate_10 (fun x5 r5 => ?_)
  have b5 := rdR (hR _ _ _ _ h3 r5) (n := 259) (by omega) mG
  refine n_ic X dX10_isGate_11 (by decide) (by decide) (fun x6 t6 => ?_)
  refine n_sub X dX10_isGate_12 (by omega) (by omega) (fun x7 t7 => ?_)
  refine n_i2l X dX10_isGate_13 (fun w8 t8 => ?_)
  refine k_cSi X hG (c_X10_in l D cy τ _ hN hR (ty_Wf.sub (S' := []) hF (by decide)) w1 w2 w8 ) ys_X10_in q_957 ⟨rfl, rfl⟩ ⟨Nat.le_of_ble_eq_true rfl, Nat.le_of_ble_eq_true rfl⟩ rfl hl.1 rfl (Nat.le_of_ble_eq_true rfl) ⟨Nat.zero_le _, Nat.zero_le _⟩ dX10_isGate_14 (fun x10 u11 H locs hG po9 => ?_)
  obtain ⟨eu11, po9⟩ := po9
  rw [eu11] at hG
  exact ret _ _ _ _ x10 _ hG ⟨rfl, by omega⟩ dX10_isGate_17
set_option maxHeartbeats 4000000 in
set_option maxRecDepth 100000 in
theorem e_X10_write (l : Launch) (D : va_G) (cy : Nat → ClassId) (τ : ty_T) (hU : UQ τ) {K : KT} {P N u : Nat} {k0 k1 : Bool} (ok : OKG K P N u) {a900 : Nat} (h900 : τ a900 = some (0, 10)) (x901 : Int32) (x902 : Int32) : KI l D cy yX10_write cX10_write 3 .int (rL 2) τ (cn (MM K P N u k0 k1) τ) [.ref a900, .int x901, .int x902] (fun r w => (wrU (gK K) x901 → r.toInt = -1000000001 ∧ w = cn (MM K P N u k0 k1) τ) ∧ (¬ wrU (gK K) x901 → wrO x902 → r.toInt = -1000000002 ∧ w = cn (MM K P N u k0 k1) τ) ∧ (¬ wrU (gK K) x901 → ¬ wrO x902 → K.2.2.2.1 = 20 → r.toInt = -1000000004 ∧ w = cn (MM K P N u k0 k1) τ) ∧ (¬ wrU (gK K) x901 → ¬ wrO x902 → K.2.2.2.1 ≠ 20 → r.toInt = (K.2.2.2.1 : Int) + 1 ∧ w = cn (MM (K13 K (K.2.2.2.1 + 1)) P N u k0 k1) τ)) := by
  refine k_metI "EdgeEchoesModel" rfl (by decide +kernel) (Nat.le_of_ble_eq_true rfl) (fun _ _ _ => rfl) ?_
  intro p e s m args below meth c Q ls X hG hl ret
  have hl : lv_has ls 3 [(0, .ref a900), (1, .int x901), (2, .int x902)] := hl
  obtain ⟨-, ⟨mN, mP, ⟨gG, mG, lG⟩, mL, mF⟩, mO, ⟨mK, mS, mQ, mZ⟩, hN72, hP8, hNP⟩ := id (MM_HB (k0 := k0) (k1 := k1) ok)
  have m9 : MM K P N u k0 k1 0 9 = some ((K.2.2.1 : Int), (K.2.2.1 : Int)) := rfl
  have m13 : MM K P N u k0 k1 0 13 = some ((K.2.2.2.1 : Int), (K.2.2.2.1 : Int)) := rfl
  have hk := ok.1.2
  have hk7 := hk.1
  have hk9 := hk.2.1
  have hk13 := hk.2.2
  have lgK := gK_le (K := K)
  have g901 := cI_rng x901
  have g902 := cI_rng x902
  refine lv_aload_n X.1 X.2.1 dX10_write_0 rfl (lv_at hl 0 rfl) ?_
  refine lv_iload_n X.1 X.2.1 dX10_write_1 rfl (lv_at hl 1 rfl) ?_
  refine k_cVi X hG (e_X10_isGate l D cy τ _ (M := MM K P N u k0 k1) cn_N cn_R (cn_F (S := [])) h900 x901 (G := gK K) rfl gK_le) h900 rfl yv_X10_isGate q_1119 ⟨rfl, rfl⟩ ⟨Nat.le_of_ble_eq_true rfl, Nat.le_of_ble_eq_true rfl⟩ rfl hl.1 rfl (Nat.le_of_ble_eq_true rfl) ⟨Nat.zero_le _, Nat.zero_le _⟩ dX10_write_2 (fun x3 u4 H locs hG po2 => ?_)
  obtain ⟨eu4, po2⟩ := po2
  rw [eu4] at hG
  refine n_if_ne (tgt := 11) X dX10_write_5 (by decide) (fun c5 => ?_) (fun c5 => ?_)
  · have nU : ¬ wrU (gK K) x901 := (by omega : ¬ (x901.toInt < 0 ∨ (gK K : Int) ≤ x901.toInt))
    refine lv_iload_n X.1 X.2.1 dX10_write_11 rfl (lv_at hl 2 rfl) ?_
    refine n_i2l X dX10_write_12 (fun w6 t6 => ?_)
    refine n_lc X dX10_write_13 (fun w7 t7 => ?_)
    have t7 : w7.toInt = 0 := t7
    refine n_ldl X q_1260 (n := 9999) (by decide +kernel) dX10_write_14 (fun w8 e8 t8 => ?_)
    refine k_cSi X hG (c_X10_in l D cy τ _ cn_N cn_R (cn_F (S := [])) w6 w7 w8 ) ys_X10_in q_957 ⟨rfl, rfl⟩ ⟨Nat.le_of_ble_eq_true rfl, Nat.le_of_ble_eq_true rfl⟩ rfl hl.1 rfl (Nat.le_of_ble_eq_true rfl) ⟨Nat.zero_le _, Nat.zero_le _⟩ dX10_write_17 (fun x10 u11 H locs hG po9 => ?_)
    obtain ⟨eu11, po9⟩ := po9
    rw [eu11] at hG
    refine n_if_ne (tgt := 26) X dX10_write_20 (by decide) (fun c12 => ?_) (fun c12 => ?_)
    · have nO : ¬ wrO x902 := (by omega : ¬ (x902.toInt < 0 ∨ 9999 < x902.toInt))
      refine lv_aload_n X.1 X.2.1 dX10_write_26 rfl (lv_at hl 0 rfl) ?_
      refine gf_10_13 X hG h900 q_889 dX10_write_27 (fun x13 r13 => ?_)
      have b13 := (cn_R _ _ _ _ h900 r13) _ _ m13
      refine n_bp X dX10_write_30 (by decide) (by decide) (fun x14 t14 => ?_)
      refine n_icmp_ne (tgt := 38) X dX10_write_32 (by decide) (fun c15 => ?_) (fun c15 => ?_)
      · refine lv_aload_n X.1 X.2.1 dX10_write_38 rfl (lv_at hl 0 rfl) ?_
        refine gf_10_14 X hG h900 q_890 dX10_write_39 (cn_N _ _ _ h900) (fun a16 h16 r16 => ?_)
        refine lv_aload_n X.1 X.2.1 dX10_write_42 rfl (lv_at hl 0 rfl) ?_
        refine gf_10_13 X hG h900 q_889 dX10_write_43 (fun x17 r17 => ?_)
        have b17 := (cn_R _ _ _ _ h900 r17) _ _ m13
        refine lv_iload_n X.1 X.2.1 dX10_write_46 rfl (lv_at hl 1 rfl) ?_
        refine tg_iasf X hG h16 rfl (cI_in (n := 20) (by omega)) dX10_write_47 ((cn_F (S := [6024])) _ _ _ _ h16 (ty_in (n := 6024) rfl) (ty_ryes (mK _) (by omega))) (fun H locs hG => ?_)
        refine lv_aload_n X.1 X.2.1 dX10_write_48 rfl (lv_at hl 0 rfl) ?_
        refine gf_10_15 X hG h900 q_891 dX10_write_49 (cn_N _ _ _ h900) (fun a18 h18 r18 => ?_)
        refine lv_aload_n X.1 X.2.1 dX10_write_52 rfl (lv_at hl 0 rfl) ?_
        refine gf_10_13 X hG h900 q_889 dX10_write_53 (fun x19 r19 => ?_)
        have b19 := (cn_R _ _ _ _ h900 r19) _ _ m13
        refine lv_iload_n X.1 X.2.1 dX10_write_56 rfl (lv_at hl 2 rfl) ?_
        refine tg_iasf X hG h18 rfl (cI_in (n := 20) (by omega)) dX10_write_57 ((cn_F (S := [6025])) _ _ _ _ h18 (ty_in (n := 6025) rfl) (ty_rno (mZ 25 (by decide) _))) (fun H locs hG => ?_)
        refine lv_aload_n X.1 X.2.1 dX10_write_58 rfl (lv_at hl 0 rfl) ?_
        refine lv_dup X.1 X.2.1 dX10_write_59 rfl ?_
        refine gf_10_13 X hG h900 q_889 dX10_write_60 (fun x20 r20 => ?_)
        have b20 := (cn_R _ _ _ _ h900 r20) _ _ m13
        refine n_ic X dX10_write_63 (by decide) (by decide) (fun x21 t21 => ?_)
        refine n_add X dX10_write_64 (by omega) (by omega) (fun x22 t22 => ?_)
        refine pg_10_13 X hG h900 q_889 dX10_write_65 (cn (fsM (MM K P N u k0 k1) 13 (((K.2.2.2.1 + 1 : Nat) : Int), ((K.2.2.2.1 + 1 : Nat) : Int))) τ) (cf_off hU h900 fsM_ne) (cf_oth fsM_ne) (cw_new h900 (ty_ryes fsM_at (by omega))) (fun H locs hG => ?_)
        refine lv_aload_n X.1 X.2.1 dX10_write_68 rfl (lv_at hl 0 rfl) ?_
        refine gf_10_13 X hG h900 q_889 dX10_write_69 (fun x23 r23 => ?_)
        have b23 := (cn_R _ _ _ _ h900 r23) _ _ fsM_at
        exact ret _ _ _ _ x23 _ (TG.sub hG mmK13) ⟨fun z => absurd z nU, fun _ z => absurd z nO, fun _ _ z => absurd z (by omega), fun _ _ _ => ⟨by omega, rfl⟩⟩ dX10_write_72
      · refine n_ldc X q_961 (n := -1000000004) (by decide +kernel) dX10_write_35 (fun x24 t24 => ?_)
        exact ret _ _ _ _ x24 _ hG ⟨fun z => absurd z nU, fun _ z => absurd z nO, fun _ _ _ => ⟨by omega, rfl⟩, fun _ _ z => absurd (show K.2.2.2.1 = 20 by omega) z⟩ dX10_write_37
    · refine n_ldc X q_960 (n := -1000000002) (by decide +kernel) dX10_write_23 (fun x25 t25 => ?_)
      exact ret _ _ _ _ x25 _ hG ⟨fun z => absurd z nU, fun _ _ => ⟨by omega, rfl⟩, fun _ z => absurd (show wrO x902 from (by omega : x902.toInt < 0 ∨ 9999 < x902.toInt)) z, fun _ z => absurd (show wrO x902 from (by omega : x902.toInt < 0 ∨ 9999 < x902.toInt)) z⟩ dX10_write_25
  · refine n_ldc X q_1099 (n := -1000000001) (by decide +kernel) dX10_write_8 (fun x26 t26 => ?_)
    exact ret _ _ _ _ x26 _ hG ⟨fun _ => ⟨by omega, rfl⟩, fun z => absurd (show wrU (gK K) x901 from (by omega : x901.toInt < 0 ∨ (gK K : Int) ≤ x901.toInt)) z, fun z => absurd (show wrU (gK K) x901 from (by omega : x901.toInt < 0 ∨ (gK K : Int) ≤ x901.toInt)) z, fun z => absurd (show wrU (gK K) x901 from (by omega : x901.toInt < 0 ∨ (gK K : Int) ≤ x901.toInt)) z⟩ dX10_write_10
set_option maxHeartbeats 4000000 in
set_option maxRecDepth 100000 in
theorem e_X10_tear (l : Launch) (D : va_G) (cy : Nat → ClassId) (τ : ty_T) (hU : UQ τ) {K : KT} {P N u : Nat} {k0 k1 : Bool} (ok : OKG K P N u) {a900 : Nat} (h900 : τ a900 = some (0, 10)) : KI l D cy yX10_tear cX10_tear 2 .int (rL 0) τ (cn (MM K P N u k0 k1) τ) [.ref a900] (fun r w => r.toInt = (K.2.2.1 : Int) + (K.2.2.2.1 : Int) ∧ w = cn (MM (K13 (K9 K 0) 0) P N u k0 k1) τ) := by
  refine k_metI "EdgeEchoesModel" rfl (by decide +kernel) (Nat.le_of_ble_eq_true rfl) (fun _ _ _ => rfl) ?_
  intro p e s m args below meth c Q ls X hG hl ret
  have hl : lv_has ls 2 [(0, .ref a900)] := hl
  obtain ⟨-, ⟨mN, mP, ⟨gG, mG, lG⟩, mL, mF⟩, mO, ⟨mK, mS, mQ, mZ⟩, hN72, hP8, hNP⟩ := id (MM_HB (k0 := k0) (k1 := k1) ok)
  have m9 : MM K P N u k0 k1 0 9 = some ((K.2.2.1 : Int), (K.2.2.1 : Int)) := rfl
  have m13 : MM K P N u k0 k1 0 13 = some ((K.2.2.2.1 : Int), (K.2.2.2.1 : Int)) := rfl
  have hk := ok.1.2
  have hk7 := hk.1
  have hk9 := hk.2.1
  have hk13 := hk.2.2
  refine lv_aload_n X.1 X.2.1 dX10_tear_0 rfl (lv_at hl 0 rfl) ?_
  refine gf_10_9 X hG h900 q_885 dX10_tear_1 (fun x1 r1 => ?_)
  have b1 := (cn_R _ _ _ _ h900 r1) _ _ m9
  refine lv_aload_n X.1 X.2.1 dX10_tear_4 rfl (lv_at hl 0 rfl) ?_
  refine gf_10_13 X hG h900 q_889 dX10_tear_5 (fun x2 r2 => ?_)
  have b2 := (cn_R _ _ _ _ h900 r2) _ _ m13
  refine n_add X dX10_tear_8 (by omega) (by omega) (fun x3 t3 => ?_)
  refine lv_istore_n (lv' := [(1, .int x3), (0, .ref a900)]) X.1 X.2.1 dX10_tear_9 rfl hl (by decide) rfl (fun ls hl => ?_)
  refine lv_aload_n X.1 X.2.1 dX10_tear_10 rfl (lv_at hl 1 rfl) ?_
  refine n_ic X dX10_tear_11 (by decide) (by decide) (fun x4 t4 => ?_)
  refine pg_10_9 X hG h900 q_885 dX10_tear_12 (cn (fsM (MM K P N u k0 k1) 9 (((0 : Nat) : Int), ((0 : Nat) : Int))) τ) (cf_off hU h900 fsM_ne) (cf_oth fsM_ne) (cw_new h900 (ty_ryes fsM_at (by omega))) (fun H locs hG => ?_)
  have hG := TG.sub hG mmK9
  refine lv_aload_n X.1 X.2.1 dX10_tear_15 rfl (lv_at hl 1 rfl) ?_
  refine n_ic X dX10_tear_16 (by decide) (by decide) (fun x5 t5 => ?_)
  refine pg_10_13 X hG h900 q_889 dX10_tear_17 (cn (fsM (MM (K9 K 0) P N u k0 k1) 13 (((0 : Nat) : Int), ((0 : Nat) : Int))) τ) (cf_off hU h900 fsM_ne) (cf_oth fsM_ne) (cw_new h900 (ty_ryes fsM_at (by omega))) (fun H locs hG => ?_)
  refine lv_iload_n X.1 X.2.1 dX10_tear_20 rfl (lv_at hl 0 rfl) ?_
  exact ret _ _ _ _ x3 _ (TG.sub hG mmK13) ⟨by omega, rfl⟩ dX10_tear_21
set_option maxHeartbeats 4000000 in
set_option maxRecDepth 100000 in
theorem e_X10_feed (l : Launch) (D : va_G) (cy : Nat → ClassId) (τ : ty_T) (hU : UQ τ) {K : KT} {P N u : Nat} {k0 k1 : Bool} (ok : OKG K P N u) {a900 : Nat} (h900 : τ a900 = some (0, 10)) (x901 : Int32) : KI l D cy yX10_feed cX10_feed 2 .int (rL 1) τ (cn (MM K P N u k0 k1) τ) [.ref a900, .int x901] (fun r w => r.toInt = feedR K.1 x901 ∧ w = cn (MM (feedS K x901) P N u k0 k1) τ) := by
  refine k_metI "EdgeEchoesModel" rfl (by decide +kernel) (Nat.le_of_ble_eq_true rfl) (fun _ _ _ => rfl) ?_
  intro p e s m args below meth c Q ls X hG hl ret
  have hl : lv_has ls 2 [(0, .ref a900), (1, .int x901)] := hl
  obtain ⟨-, ⟨mN, mP, ⟨gG, mG, lG⟩, mL, mF⟩, mO, ⟨mK, mS, mQ, mZ⟩, hN72, hP8, hNP⟩ := id (MM_HB (k0 := k0) (k1 := k1) ok)
  have m9 : MM K P N u k0 k1 0 9 = some ((K.2.2.1 : Int), (K.2.2.1 : Int)) := rfl
  have m13 : MM K P N u k0 k1 0 13 = some ((K.2.2.2.1 : Int), (K.2.2.2.1 : Int)) := rfl
  have hk := ok.1.2
  have hk7 := hk.1
  have hk9 := hk.2.1
  have hk13 := hk.2.2
  have g901 := cI_rng x901
  refine lv_iload_n X.1 X.2.1 dX10_feed_0 rfl (lv_at hl 1 rfl) ?_
  refine n_i2l X dX10_feed_1 (fun w1 t1 => ?_)
  refine n_lc X dX10_feed_2 (fun w2 t2 => ?_)
  have t2 : w2.toInt = 0 := t2
  refine n_ldl X q_956 (n := 255) (by decide +kernel) dX10_feed_3 (fun w3 e3 t3 => ?_)
  refine k_cSi X hG (c_X10_in l D cy τ _ cn_N cn_R (cn_F (S := [])) w1 w2 w3 ) ys_X10_in q_957 ⟨rfl, rfl⟩ ⟨Nat.le_of_ble_eq_true rfl, Nat.le_of_ble_eq_true rfl⟩ rfl hl.1 rfl (Nat.le_of_ble_eq_true rfl) ⟨Nat.zero_le _, Nat.zero_le _⟩ dX10_feed_6 (fun x5 u6 H locs hG po4 => ?_)
  obtain ⟨eu6, po4⟩ := po4
  rw [eu6] at hG
  refine n_if_ne (tgt := 15) X dX10_feed_9 (by decide) (fun c7 => ?_) (fun c7 => ?_)
  · refine lv_aload_n X.1 X.2.1 dX10_feed_15 rfl (lv_at hl 0 rfl) ?_
    refine gf_10_7 X hG h900 q_883 dX10_feed_16 (fun x9 r9 => ?_)
    have b9 := (cn_R _ _ _ _ h900 r9) _ _ mm_len
    refine n_sp X dX10_feed_19 (by decide) (by decide) (fun x10 t10 => ?_)
    refine n_icmp_ne (tgt := 28) X dX10_feed_22 (by decide) (fun c11 => ?_) (fun c11 => ?_)
    · refine lv_aload_n X.1 X.2.1 dX10_feed_28 rfl (lv_at hl 0 rfl) ?_
      refine gf_10_6 X hG h900 q_882 dX10_feed_29 (cn_N _ _ _ h900) (fun a12 h12 r12 => ?_)
      refine lv_aload_n X.1 X.2.1 dX10_feed_32 rfl (lv_at hl 0 rfl) ?_
      refine gf_10_7 X hG h900 q_883 dX10_feed_33 (fun x13 r13 => ?_)
      have b13 := (cn_R _ _ _ _ h900 r13) _ _ mm_len
      refine lv_iload_n X.1 X.2.1 dX10_feed_36 rfl (lv_at hl 1 rfl) ?_
      have i13 : x13.toNatClampNeg = K.1 := by have := cI_clamp (x := x13) (by omega); omega
      refine tg_iast X hG h12 rfl (cI_in (n := 240) (by omega)) dX10_feed_37 (cn (tsM (MM K P N u k0 k1) K.1 x901) τ) (cw_off hU h12 (by decide) (j0 := K.1) tsM_ne) (by rw [i13]; exact cw_oth h12 tsM_ne) (by rw [i13]; exact cw_new h12 (ty_ryes tsM_at ⟨Int.le_refl _, Int.le_refl _⟩)) (fun H locs hG => ?_)
      refine lv_aload_n X.1 X.2.1 dX10_feed_38 rfl (lv_at hl 0 rfl) ?_
      refine lv_dup X.1 X.2.1 dX10_feed_39 rfl ?_
      refine gf_10_7 X hG h900 q_883 dX10_feed_40 (fun x14 r14 => ?_)
      have b14 := (cn_R _ _ _ _ h900 r14) _ _ (show tsM (MM K P N u k0 k1) K.1 x901 0 7 = some ((K.1 : Int), (K.1 : Int)) from rfl)
      refine n_ic X dX10_feed_43 (by decide) (by decide) (fun x15 t15 => ?_)
      refine n_add X dX10_feed_44 (by omega) (by omega) (fun x16 t16 => ?_)
      refine pg_10_7 X hG h900 q_883 dX10_feed_45 (cn (fsM (tsM (MM K P N u k0 k1) K.1 x901) 7 (((K.1 + 1 : Nat) : Int), ((K.1 + 1 : Nat) : Int))) τ) (cf_off hU h900 fsM_ne) (cf_oth fsM_ne) (cw_new h900 (ty_ryes fsM_at (by omega))) (fun H locs hG => ?_)
      refine lv_aload_n X.1 X.2.1 dX10_feed_48 rfl (lv_at hl 0 rfl) ?_
      refine gf_10_7 X hG h900 q_883 dX10_feed_49 (fun x17 r17 => ?_)
      have b17 := (cn_R _ _ _ _ h900 r17) _ _ fsM_at
      exact ret _ _ _ _ x17 _ (TG.sub hG (mmF hk7)) ⟨feed_y (by omega) (by omega) (by omega), by rw [feedS_y (by omega)]⟩ dX10_feed_52
    · refine n_ldc X q_961 (n := -1000000004) (by decide +kernel) dX10_feed_25 (fun x18 t18 => ?_)
      exact ret _ _ _ _ x18 _ hG ⟨feed_f (by omega) (by omega) (by omega), by rw [feedS_n (by omega)]⟩ dX10_feed_27
  · refine n_ldc X q_960 (n := -1000000002) (by decide +kernel) dX10_feed_12 (fun x19 t19 => ?_)
    exact ret _ _ _ _ x19 _ hG ⟨feed_o (by omega) (by omega), by rw [feedS_n (by omega)]⟩ dX10_feed_14
