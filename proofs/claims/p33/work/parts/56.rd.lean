/-! the line taken over -/
theorem rgd_le {M M' : md_T} (h : ∀ n j r, M' n j = some r → ∃ q, M n j = some q ∧ r.1 ≤ q.1 ∧ q.2 ≤ r.2) {t : ty_C} {j : Nat} {r : Int × Int} (hr : ty_rgd M' t j = some r) : ∃ q, ty_rgd M t j = some q ∧ r.1 ≤ q.1 ∧ q.2 ≤ r.2 := by
  obtain ⟨a, b⟩ := t
  match a, hr with
  | 0, hr =>
    match b, hr with
    | 10, hr => exact h 0 j r hr
    | 0, hr => exact ⟨r, hr, Int.le_refl _, Int.le_refl _⟩
    | 1, hr => exact ⟨r, hr, Int.le_refl _, Int.le_refl _⟩
    | 2, hr => exact ⟨r, hr, Int.le_refl _, Int.le_refl _⟩
    | 3, hr => exact ⟨r, hr, Int.le_refl _, Int.le_refl _⟩
    | 4, hr => exact ⟨r, hr, Int.le_refl _, Int.le_refl _⟩
    | 5, hr => exact ⟨r, hr, Int.le_refl _, Int.le_refl _⟩
    | 6, hr => exact ⟨r, hr, Int.le_refl _, Int.le_refl _⟩
    | 7, hr => exact ⟨r, hr, Int.le_refl _, Int.le_refl _⟩
    | 8, hr => exact ⟨r, hr, Int.le_refl _, Int.le_refl _⟩
    | 9, hr => exact ⟨r, hr, Int.le_refl _, Int.le_refl _⟩
    | n + 11, hr => exact ⟨r, hr, Int.le_refl _, Int.le_refl _⟩
  | 1, hr => exact ⟨r, hr, Int.le_refl _, Int.le_refl _⟩
  | 2, hr => exact ⟨r, hr, Int.le_refl _, Int.le_refl _⟩
  | 3, hr => exact ⟨r, hr, Int.le_refl _, Int.le_refl _⟩
  | 4, hr => exact ⟨r, hr, Int.le_refl _, Int.le_refl _⟩
  | 5, hr => exact ⟨r, hr, Int.le_refl _, Int.le_refl _⟩
  | 6, hr => exact ⟨r, hr, Int.le_refl _, Int.le_refl _⟩
  | 7, hr => exact ⟨r, hr, Int.le_refl _, Int.le_refl _⟩
  | 8, hr => exact ⟨r, hr, Int.le_refl _, Int.le_refl _⟩
  | 9, hr => exact ⟨r, hr, Int.le_refl _, Int.le_refl _⟩
  | n + 10, hr => exact h (n + 10) j r hr
theorem TG.le {D : va_G} {cy : Nat → ClassId} {M M' : md_T} {τ : ty_T} {A : Nat → Prop} {H0 H : Heap} {locs : List Loc} (hG : TG D cy τ (cn M τ) A H0 H locs) (h : ∀ n j r, M' n j = some r → ∃ q, M n j = some q ∧ r.1 ≤ q.1 ∧ q.2 ≤ r.2) : TG D cy τ (cn M' τ) A H0 H locs := hG.mono (fun a t j v _ q => ⟨q.1, fun t2 x h2 e2 lo hi hr => by
  obtain ⟨z, hz, h1, h3⟩ := rgd_le h hr
  have := q.2 t2 x h2 e2 z.1 z.2 hz
  exact ⟨Int.le_trans h1 this.1, Int.le_trans this.2 h3⟩⟩)
theorem rw_hi {P N u : Nat} {k0 k1 : Bool} {j : Nat} (hu : u ≤ 12) (hj : 3983 ≤ j) : rwM P N u k0 k1 j = none := by
  unfold rwM
  rw [if_neg (by omega), if_neg (by omega), if_neg (by omega), if_neg (by omega), if_neg (by omega), if_neg (by omega), if_neg (by omega), if_neg (by omega)]
theorem MM_K {K K2 : KT} {P N u : Nat} {k0 k1 : Bool} {n j : Nat} (h0 : n ≠ 0) (h16 : n ≠ 16) : MM K P N u k0 k1 n j = MM K2 P N u k0 k1 n j := by
  unfold MM
  rw [if_neg h0, if_neg h0]
  by_cases a : n = 10
  · rw [if_pos a, if_pos a]
  rw [if_neg a, if_neg a]
  by_cases a : n = 11
  · rw [if_pos a, if_pos a]
  rw [if_neg a, if_neg a]
  by_cases a : n = 14
  · rw [if_pos a, if_pos a]
  rw [if_neg a, if_neg a]
  by_cases a : n = 15
  · rw [if_pos a, if_pos a]
  rw [if_neg a, if_neg a, if_neg h16, if_neg h16]
theorem MM_16 {K : KT} {P N u : Nat} {k0 k1 : Bool} {j : Nat} : MM K P N u k0 k1 16 j = txM K j := rfl
/-- refused: the bounds as before, but for the text's length and the fault -/
theorem ln_f {K : KT} {P N u : Nat} {k0 k1 : Bool} {Lg lo pc gc : Nat} {f : Nat → Nat} {φ : Int} (hu : u ≤ 12) : ∀ n j r, MM (0, φ, K.2.2) P N u k0 k1 n j = some r → fsM (fsM (RMM (MM K P N u k0 k1) Lg lo pc gc f) 7 (((0 : Nat) : Int), ((0 : Nat) : Int))) 8 (φ, φ) n j = some r := by
  intro n j r h
  by_cases e8 : n = 0 ∧ j = 8
  · obtain ⟨rfl, rfl⟩ := e8
    rw [fsM_at]
    exact h
  rw [fsM_ne n j (by omega)]
  by_cases e1 : n = 0 ∧ j = 7
  · obtain ⟨rfl, rfl⟩ := e1
    rw [fsM_at]
    exact h
  · rw [fsM_ne n j (by omega)]
    by_cases e2 : n = 0 ∧ j = 16
    · obtain ⟨rfl, rfl⟩ := e2
      exact absurd (show (none : Option (Int × Int)) = some r from h) (by intro q; cases q)
    · by_cases e3 : n = 10 ∧ 3983 ≤ j
      · obtain ⟨rfl, e3⟩ := e3
        rw [MM_10, rw_hi hu e3] at h
        cases h
      · rw [RMM_f e1 e2 e3]
        by_cases n0 : n = 0
        · subst n0
          rw [MM_0] at h ⊢
          unfold flM at h ⊢
          by_cases a : j = 2
          · rw [if_pos a] at h ⊢; exact h
          rw [if_neg a] at h ⊢
          by_cases a : j = 3
          · rw [if_pos a] at h ⊢; exact h
          rw [if_neg a, if_neg (show ¬ j = 7 by omega), if_neg (show ¬ j = 8 by omega)] at h ⊢
          exact h
        · by_cases n16 : n = 16
          · subst n16
            have h2 : txM (0, φ, K.2.2) j = some r := h
            unfold txM at h2
            rw [if_neg (show ¬ j < 0 from Nat.not_lt_zero j)] at h2
            cases h2
          · rw [MM_K (K2 := (0, φ, K.2.2)) n0 n16]
            exact h
/-- the pieces of the cells, as far as they are laid -/
def qM (M : md_T) (pc i : Nat) : md_T := fun a j => if a = 11 ∧ j < i then some (0, (pc : Int) - 1) else M a j
theorem qM_in {M : md_T} {pc i j : Nat} (h : j < i) : qM M pc i 11 j = some (0, (pc : Int) - 1) := if_pos ⟨rfl, h⟩
theorem qM_out {M : md_T} {pc i a j : Nat} (h : ¬ (a = 11 ∧ j < i)) : qM M pc i a j = M a j := if_neg h
theorem qM_0 {M : md_T} {pc : Nat} : qM M pc 0 = M := by funext a j; exact if_neg (by omega)
theorem qM_s {M : md_T} {pc i : Nat} : ∀ n j, n ≠ 11 ∨ j ≠ i → qM M pc (i + 1) n j = qM M pc i n j := by
  intro n j h
  unfold qM
  by_cases e : n = 11 ∧ j < i
  · rw [if_pos e, if_pos (show n = 11 ∧ j < i + 1 by omega)]
  · rw [if_neg e, if_neg (show ¬ (n = 11 ∧ j < i + 1) by omega)]
/-- the bounds behind the copied row -/
def cM (M0 : md_T) (Lg lo pc gc : Nat) (f : Nat → Nat) : md_T := cpM (fsM (fsM (RMM M0 Lg lo pc gc f) 7 (((0 : Nat) : Int), ((0 : Nat) : Int))) 8 (-1, -1)) 3983 0 278
theorem cM_r {M0 : md_T} {Lg lo pc gc : Nat} {f : Nat → Nat} {o : Nat} (h : o < 278) : cM M0 Lg lo pc gc f 10 o = rdM pc gc f o := by
  unfold cM
  rw [cpM_in (by omega) (by omega), fsM_ne _ _ (Or.inl (by decide)), fsM_ne _ _ (Or.inl (by decide)), show 3983 + (o - 0) = 3983 + o by omega, RMM_r]
theorem cM_o {M0 : md_T} {Lg lo pc gc : Nat} {f : Nat → Nat} {a j : Nat} (h : a ≠ 10) (h7 : ¬ (a = 0 ∧ j = 7)) (h16 : ¬ (a = 0 ∧ j = 16)) (h8 : ¬ (a = 0 ∧ j = 8)) : cM M0 Lg lo pc gc f a j = M0 a j := by
  unfold cM
  rw [cpM_ne h, fsM_ne _ _ (by omega), fsM_ne _ _ (by omega), RMM_f h7 h16 (by omega)]
theorem cM_7 {M0 : md_T} {Lg lo pc gc : Nat} {f : Nat → Nat} : cM M0 Lg lo pc gc f 0 7 = some (((0 : Nat) : Int), ((0 : Nat) : Int)) := by
  unfold cM
  rw [cpM_ne (by decide), fsM_ne _ _ (by omega), fsM_at]
theorem cM_8 {M0 : md_T} {Lg lo pc gc : Nat} {f : Nat → Nat} : cM M0 Lg lo pc gc f 0 8 = some (-1, -1) := by
  unfold cM
  rw [cpM_ne (by decide), fsM_at]
theorem rd_L {pc gc : Nat} {f : Nat → Nat} {p : Nat} (hp : pc ≤ 8) (h : p < pc) : rdM pc gc f (250 + p) = some ((f p : Int), (f p : Int)) := by
  unfold rdM
  rw [if_neg (show ¬ (236 ≤ 250 + p ∧ 250 + p < 236 + pc) by omega), if_neg (show ¬ (250 + p = 245 ∨ 250 + p = 246) by omega), if_neg (show ¬ 250 + p = 249 by omega), if_pos (show 250 ≤ 250 + p ∧ 250 + p < 250 + pc by omega), show 250 + p - 250 = p by omega]
theorem sumF_mo {f : Nat → Nat} : ∀ {p q : Nat}, p ≤ q → sumF f p ≤ sumF f q
  | p, 0, h => by rw [show p = 0 by omega]; exact Nat.le_refl _
  | p, q + 1, h => by
    by_cases e : p = q + 1
    · rw [e]; exact Nat.le_refl _
    · have := sumF_mo (f := f) (p := p) (q := q) (by omega)
      rw [sumF]
      omega
set_option maxRecDepth 100000 in
theorem ln_t {K : KT} {P N u : Nat} {k0 k1 : Bool} {Lg lo pc gc : Nat} {f : Nat → Nat} (ok : OKG K P N u) (hp : pc ≤ 8) (hg : gc ≤ 6) (hf : ∀ i, f i ≤ 9) : ∀ n j r, MM (0, -1, 0, 0, K.2.2.2.2) pc (sumF f pc) 0 false false n j = some r → ∃ q, bsM (bsM (fsM (fsM (fsM (qM (cM (MM K P N u k0 k1) Lg lo pc gc f) pc (sumF f pc)) 2 (((0 : Nat) : Int), ((0 : Nat) : Int))) 9 (((0 : Nat) : Int), ((0 : Nat) : Int))) 13 (((0 : Nat) : Int), ((0 : Nat) : Int))) 0 (0, 0)) 1 (0, 0) n j = some q ∧ r.1 ≤ q.1 ∧ q.2 ≤ r.2 := by
  intro n j r h
  have rf : ∀ z : Option (Int × Int), z = some r → ∃ q, z = some q ∧ r.1 ≤ q.1 ∧ q.2 ≤ r.2 := fun z hz => ⟨r, hz, Int.le_refl _, Int.le_refl _⟩
  by_cases n14 : n = 14
  · subst n14
    by_cases j1 : j = 1
    · subst j1
      rw [bsM_at]
      exact rf _ h
    · rw [bsM_ne _ _ (Or.inr j1)]
      by_cases j0 : j = 0
      · subst j0
        rw [bsM_at]
        exact rf _ h
      · have h2 : (if j = 0 then some (biM false, biM false) else if j = 1 then some (biM false, biM false) else none) = some r := h
        rw [if_neg j0, if_neg j1] at h2
        cases h2
  rw [bsM_ne _ _ (Or.inl n14), bsM_ne _ _ (Or.inl n14)]
  by_cases n0 : n = 0
  · subst n0
    rw [MM_0] at h
    unfold flM at h
    by_cases j13 : j = 13
    · subst j13
      rw [fsM_at]
      exact rf _ h
    rw [fsM_ne _ _ (Or.inr j13)]
    by_cases j9 : j = 9
    · subst j9
      rw [fsM_at]
      exact rf _ h
    rw [fsM_ne _ _ (Or.inr j9)]
    by_cases j2 : j = 2
    · subst j2
      rw [fsM_at]
      exact rf _ h
    rw [if_neg j2] at h
    rw [fsM_ne _ _ (Or.inr j2), qM_out (by omega)]
    by_cases j7 : j = 7
    · subst j7
      rw [cM_7]
      exact rf _ h
    by_cases j8 : j = 8
    · subst j8
      rw [cM_8]
      exact rf _ h
    by_cases j16 : j = 16
    · subst j16
      exact absurd (show (none : Option (Int × Int)) = some r from h) (by intro q; cases q)
    rw [cM_o (by omega) (by omega) (by omega) (by omega), MM_0]
    unfold flM
    rw [if_neg j2]
    by_cases j3 : j = 3
    · rw [if_pos j3] at h ⊢
      exact rf _ h
    · rw [if_neg j3, if_neg j7, if_neg j8, if_neg j9, if_neg j13] at h
      cases h
  rw [fsM_ne _ _ (Or.inl n0), fsM_ne _ _ (Or.inl n0), fsM_ne _ _ (Or.inl n0)]
  by_cases n11 : n = 11
  · subst n11
    have h2 : (if j < 72 then some (0, if j < sumF f pc then (pc : Int) - 1 else 7) else none) = some r := h
    by_cases j72 : j < 72
    · rw [if_pos j72] at h2
      by_cases jS : j < sumF f pc
      · rw [if_pos jS] at h2
        rw [qM_in jS]
        exact rf _ h2
      · rw [if_neg jS] at h2
        rw [qM_out (by omega), cM_o (by omega) (by omega) (by omega) (by omega)]
        refine ⟨(0, if j < N then (P : Int) - 1 else 7), (by
          show (if j < 72 then some ((0 : Int), if j < N then (P : Int) - 1 else 7) else none) = _
          rw [if_pos j72]), ?_⟩
        cases h2
        have hP := ok.2.1
        refine ⟨Int.le_refl _, ?_⟩
        show (if j < N then (P : Int) - 1 else 7) ≤ 7
        by_cases jN : j < N
        · rw [if_pos jN]; omega
        · rw [if_neg jN]; omega
    · rw [if_neg j72] at h2
      cases h2
  rw [qM_out (by omega)]
  by_cases n10 : n = 10
  · subst n10
    rw [MM_10] at h
    unfold rwM at h
    by_cases q1 : j < 247
    · rw [if_pos q1] at h
      rw [cM_r (by omega)]
      unfold lnM at h
      unfold rdM
      by_cases q2 : 236 ≤ j ∧ j < 236 + pc
      · rw [if_pos q2] at h ⊢
        exact rf _ h
      · rw [if_neg q2] at h ⊢
        by_cases q3 : j = 245 ∨ j = 246
        · rw [if_pos q3] at h ⊢
          exact rf _ h
        · rw [if_neg q3] at h
          cases h
    rw [if_neg q1] at h
    by_cases q2 : j = 249
    · subst q2
      rw [if_pos rfl] at h
      rw [cM_r (by omega), rd_249 hp]
      exact rf _ h
    rw [if_neg q2] at h
    by_cases q3 : j = 258
    · subst q3
      rw [if_pos rfl] at h
      rw [cM_r (by omega), rd_258 hp]
      exact rf _ h
    rw [if_neg q3] at h
    by_cases q4 : j = 259
    · subst q4
      rw [if_pos rfl] at h
      rw [cM_r (by omega), rd_259 hp]
      cases h
      exact ⟨_, rfl, by show (0 : Int) ≤ (gc : Int); omega, by show (gc : Int) ≤ 6; omega⟩
    rw [if_neg q4] at h
    by_cases q5 : 250 ≤ j ∧ j < 258
    · rw [if_pos q5] at h
      rw [cM_r (by omega)]
      cases h
      by_cases q6 : j < 250 + pc
      · rw [show j = 250 + (j - 250) by omega, rd_L hp (by omega)]
        have := hf (j - 250)
        exact ⟨_, rfl, by show (0 : Int) ≤ (f (j - 250) : Int); omega, by show (f (j - 250) : Int) ≤ 9; omega⟩
      · refine ⟨(0, 9), ?_, Int.le_refl _, Int.le_refl _⟩
        unfold rdM
        rw [if_neg (show ¬ (236 ≤ j ∧ j < 236 + pc) by omega), if_neg (show ¬ (j = 245 ∨ j = 246) by omega), if_neg q2, if_neg (show ¬ (250 ≤ j ∧ j < 250 + pc) by omega), if_pos q5]
    rw [if_neg q5, if_neg (show ¬ (278 ≤ j ∧ j < 278 + 247 * 0) by omega), if_neg (show ¬ (3242 ≤ j ∧ j < 3489 ∧ false = true) from fun q => by cases q.2.2), if_neg (show ¬ (3489 ≤ j ∧ j < 3736 ∧ false = true) from fun q => by cases q.2.2)] at h
    cases h
  rw [cM_o n10 (by omega) (by omega) (by omega)]
  by_cases n16 : n = 16
  · subst n16
    have h2 : txM (0, -1, 0, 0, K.2.2.2.2) j = some r := h
    unfold txM at h2
    rw [if_neg (show ¬ j < 0 from Nat.not_lt_zero j)] at h2
    cases h2
  refine rf _ ?_
  rw [← h]
  unfold MM
  rw [if_neg n0, if_neg n10, if_neg n11, if_neg n14, if_neg n0, if_neg n10, if_neg n11, if_neg n14, if_neg n16, if_neg n16]
/-- behind line(): refused, and all but the text's length and the fault as before, or a new line -/
def GSa (K : KT) (τ : ty_T) (P N u : Nat) (k0 k1 : Bool) (r : Int32) (w : ty_R) : Prop := (∃ x y : Int32, r = -10 - y ∧ w = cn (MM (0, x.toInt, K.2.2) P N u k0 k1) τ) ∨ (∃ P2 N2, OKG (0, -1, 0, 0, K.2.2.2.2) P2 N2 0 ∧ r.toInt = (N2 : Int) ∧ w = cn (MM (0, -1, 0, 0, K.2.2.2.2) P2 N2 0 false false) τ)
set_option maxHeartbeats 4000000 in
set_option maxRecDepth 100000 in
theorem c_X10_line (l : Launch) (D : va_G) (cy : Nat → ClassId) (τ : ty_T) (hU : UQ τ) {K : KT} {P N u : Nat} {k0 k1 : Bool} (ok : OKG K P N u) {a900 : Nat} (h900 : τ a900 = some (0, 10)) : KI l D cy yX10_line cX10_line 5 .int (rL 6) τ (cn (MM K P N u k0 k1) τ) [.ref a900] (fun r w => GSa K τ P N u k0 k1 r w ∧ True) := by
  refine k_metI "EdgeEchoesModel" rfl (by decide +kernel) (Nat.le_of_ble_eq_true rfl) (fun _ _ _ => rfl) ?_
  intro p e s m args below meth c Q ls X hG hl ret
  have hl : lv_has ls 5 [(0, .ref a900)] := hl
  refine lv_aload_n X.1 X.2.1 dX10_line_0 rfl (lv_at hl 0 rfl) ?_
  refine k_cVi X hG (c_X10_reads l D cy τ hU ok.1.2 h900) h900 rfl yv_X10_reads q_966 ⟨rfl, rfl⟩ ⟨Nat.le_of_ble_eq_true rfl, Nat.le_of_ble_eq_true rfl⟩ rfl hl.1 rfl (Nat.le_of_ble_eq_true rfl) ⟨Nat.zero_le _, Nat.zero_le _⟩ dX10_line_1 (fun x1 u1 H locs hG po => ?_)
  obtain ⟨⟨Lg, lo, hL, pc, gc, f, hp, hg, hf, eu⟩, hx1⟩ := po
  rw [eu] at hG
  have h0 : M0k (MM K P N u k0 k1) := mm_0k
  have hu := ok.2.2.2
  refine lv_istore_n (lv' := [(1, .int x1), (0, .ref a900)]) X.1 X.2.1 dX10_line_4 rfl hl (by decide) rfl (fun ls hl => ?_)
  refine lv_aload_n X.1 X.2.1 dX10_line_5 rfl (lv_at hl 1 rfl) ?_
  refine n_ic X dX10_line_6 (by decide) (by decide) (fun x2 t2 => ?_)
  refine pg_10_7 X hG h900 q_883 dX10_line_7 (cn (fsM (RMM (MM K P N u k0 k1) Lg lo pc gc f) 7 (((0 : Nat) : Int), ((0 : Nat) : Int))) τ) (cf_off hU h900 fsM_ne) (cf_oth fsM_ne) (cw_new h900 (ty_ryes fsM_at (by omega))) (fun H locs hG => ?_)
  refine lv_aload_n X.1 X.2.1 dX10_line_10 rfl (lv_at hl 1 rfl) ?_
  refine lv_iload_n X.1 X.2.1 dX10_line_11 rfl (lv_at hl 0 rfl) ?_
  refine n_if_eq (tgt := 19) X dX10_line_12 (by decide) (fun c3 => ?_) (fun c3 => ?_)
  · refine lv_aload_n X.1 X.2.1 dX10_line_19 rfl (lv_at hl 1 rfl) ?_
    refine gf_10_18 X hG h900 q_894 dX10_line_20 (fun x4 r4 => ?_)
    refine pg_10_8 X hG h900 q_884 dX10_line_23 (cn (fsM (fsM (RMM (MM K P N u k0 k1) Lg lo pc gc f) 7 (((0 : Nat) : Int), ((0 : Nat) : Int))) 8 (x4.toInt, x4.toInt)) τ) (cf_off hU h900 fsM_ne) (cf_oth fsM_ne) (cw_new h900 (ty_ryes fsM_at ⟨Int.le_refl _, Int.le_refl _⟩)) (fun H locs hG => ?_)
    refine lv_iload_n X.1 X.2.1 dX10_line_26 rfl (lv_at hl 0 rfl) ?_
    refine n_if_ne (tgt := 38) X dX10_line_27 (by decide) (fun c5 => ?_) (fun c5 => ?_)
    · exact absurd c3 c5
    · refine n_bp X dX10_line_30 (by decide) (by decide) (fun x6 t6 => ?_)
      refine lv_aload_n X.1 X.2.1 dX10_line_32 rfl (lv_at hl 1 rfl) ?_
      refine gf_10_17 X hG h900 q_893 dX10_line_33 (fun x7 r7 => ?_)
      refine lv_isub X.1 X.2.1 dX10_line_36 ?_
      have e6 : x6 = -10 := cI_inj (by rw [t6]; rfl)
      exact ret _ _ _ _ _ _ (TG.sub hG (ln_f hu)) ⟨Or.inl ⟨x4, x7, by rw [e6], rfl⟩, trivial⟩ dX10_line_37
  · refine n_ic X dX10_line_15 (by decide) (by decide) (fun x4 t4 => ?_)
    refine lv_goto (tgt := 23) X.1 X.2.1 dX10_line_16 (by decide) ?_
    refine pg_10_8 X hG h900 q_884 dX10_line_23 (cn (fsM (fsM (RMM (MM K P N u k0 k1) Lg lo pc gc f) 7 (((0 : Nat) : Int), ((0 : Nat) : Int))) 8 (-1, -1)) τ) (cf_off hU h900 fsM_ne) (cf_oth fsM_ne) (cw_new h900 (ty_ryes fsM_at (by omega))) (fun H locs hG => ?_)
    refine lv_iload_n X.1 X.2.1 dX10_line_26 rfl (lv_at hl 0 rfl) ?_
    refine n_if_ne (tgt := 38) X dX10_line_27 (by decide) (fun c5 => ?_) (fun c5 => ?_)
    · refine lv_aload_n X.1 X.2.1 dX10_line_38 rfl (lv_at hl 1 rfl) ?_
      refine n_sp X dX10_line_39 (by decide) (by decide) (fun x6 t6 => ?_)
      refine n_ic X dX10_line_42 (by decide) (by decide) (fun x7 t7 => ?_)
      refine n_sp X dX10_line_43 (by decide) (by decide) (fun x8 t8 => ?_)
      refine k_cVv X hG (c_X10_copyRow l D cy τ _ hU h900 x6 x7 x8 3983 0 278 (by omega) (by omega) (by omega) (by omega) (by omega) (by omega)) h900 rfl yv_X10_copyRow q_1012 ⟨rfl, rfl⟩ ⟨Nat.le_of_ble_eq_true rfl, Nat.le_of_ble_eq_true rfl⟩ rfl hl.1 rfl (Nat.le_of_ble_eq_true rfl) ⟨Nat.zero_le _, Nat.zero_le _⟩ dX10_line_46 (fun u9 H locs hG po => ?_)
      rw [po] at hG
      have hG : TG D cy τ (cn (qM (cM (MM K P N u k0 k1) Lg lo pc gc f) pc 0) τ) (ty_d τ) s.heap H locs := by rw [qM_0]; exact hG
      refine n_ic X dX10_line_49 (by decide) (by decide) (fun x9 t9 => ?_)
      refine lv_istore_n (lv' := [(2, .int x9), (1, .int x1), (0, .ref a900)]) X.1 X.2.1 dX10_line_50 rfl hl (by decide) rfl (fun ls hl => ?_)
      refine n_ic X dX10_line_51 (by decide) (by decide) (fun x10 t10 => ?_)
      refine lv_istore_n (lv' := [(3, .int x10), (2, .int x9), (1, .int x1), (0, .ref a900)]) X.1 X.2.1 dX10_line_52 rfl hl (by decide) rfl (fun ls hl => ?_)
      have J53 : ∀ (d q : Nat) (H : Heap) (locs : List Loc) (ls : Array Slot) (xi xp : Int32), xp.toInt = (q : Int) → q ≤ pc → xi.toInt = (sumF f q : Int) → pc - q < d → TG D cy τ (cn (qM (cM (MM K P N u k0 k1) Lg lo pc gc f) pc (sumF f q)) τ) (ty_d τ) s.heap H locs → lv_has ls 5 [(0, .ref a900), (1, .int x1), (2, .int xi), (3, .int xp)] → W p l e (rL 6) s m args below meth c H locs 0 0 Q (F0 m 53 ls []) := by
        intro d
        induction d with
        | zero => intro q H locs ls xi xp eq hq ei hm hG hl; exact absurd hm (Nat.not_lt_zero _)
        | succ d ih =>
          intro q H locs ls xi xp eq hq ei hm hG hl
          have hsm := sumF_le hf pc
          refine lv_iload_n X.1 X.2.1 dX10_line_53 rfl (lv_at hl 3 rfl) ?_
          refine lv_aload_n X.1 X.2.1 dX10_line_54 rfl (lv_at hl 0 rfl) ?_
          refine gf_10_0 X hG h900 q_876 dX10_line_55 (cn_N _ _ _ h900) (fun a11 h11 r11 => ?_)
          refine n_sp X dX10_line_58 (by decide) (by decide) (fun x12 t12 => ?_)
          refine tg_iald X hG h11 rfl (cI_in (n := 4261) (by omega)) dX10_line_61 (fun x13 r13 => ?_)
          have b13 := rdR (cn_R _ _ _ _ h11 r13) (n := 249) (by omega) (show qM (cM (MM K P N u k0 k1) Lg lo pc gc f) pc (sumF f q) 10 249 = some ((pc : Int), (pc : Int)) by rw [qM_out (by omega), cM_r (by omega), rd_249 hp])
          refine n_icmp_ge (tgt := 105) X dX10_line_62 (by decide) (fun c14 => ?_) (fun c14 => ?_)
          · rw [show q = pc by omega] at hG ei
            refine lv_aload_n X.1 X.2.1 dX10_line_105 rfl (lv_at hl 0 rfl) ?_
            refine n_ic X dX10_line_106 (by decide) (by decide) (fun x15 t15 => ?_)
            refine pg_10_2 X hG h900 q_878 dX10_line_107 (cn (fsM (qM (cM (MM K P N u k0 k1) Lg lo pc gc f) pc (sumF f pc)) 2 (((0 : Nat) : Int), ((0 : Nat) : Int))) τ) (cf_off hU h900 fsM_ne) (cf_oth fsM_ne) (cw_new h900 (ty_ryes fsM_at (by omega))) (fun H locs hG => ?_)
            refine lv_aload_n X.1 X.2.1 dX10_line_110 rfl (lv_at hl 0 rfl) ?_
            refine n_ic X dX10_line_111 (by decide) (by decide) (fun x16 t16 => ?_)
            refine pg_10_9 X hG h900 q_885 dX10_line_112 (cn (fsM (fsM (qM (cM (MM K P N u k0 k1) Lg lo pc gc f) pc (sumF f pc)) 2 (((0 : Nat) : Int), ((0 : Nat) : Int))) 9 (((0 : Nat) : Int), ((0 : Nat) : Int))) τ) (cf_off hU h900 fsM_ne) (cf_oth fsM_ne) (cw_new h900 (ty_ryes fsM_at (by omega))) (fun H locs hG => ?_)
            refine lv_aload_n X.1 X.2.1 dX10_line_115 rfl (lv_at hl 0 rfl) ?_
            refine n_ic X dX10_line_116 (by decide) (by decide) (fun x17 t17 => ?_)
            refine pg_10_13 X hG h900 q_889 dX10_line_117 (cn (fsM (fsM (fsM (qM (cM (MM K P N u k0 k1) Lg lo pc gc f) pc (sumF f pc)) 2 (((0 : Nat) : Int), ((0 : Nat) : Int))) 9 (((0 : Nat) : Int), ((0 : Nat) : Int))) 13 (((0 : Nat) : Int), ((0 : Nat) : Int))) τ) (cf_off hU h900 fsM_ne) (cf_oth fsM_ne) (cw_new h900 (ty_ryes fsM_at (by omega))) (fun H locs hG => ?_)
            refine lv_aload_n X.1 X.2.1 dX10_line_120 rfl (lv_at hl 0 rfl) ?_
            refine gf_10_4 X hG h900 q_880 dX10_line_121 (cn_N _ _ _ h900) (fun a18 h18 r18 => ?_)
            refine n_ic X dX10_line_124 (by decide) (by decide) (fun x19 t19 => ?_)
            refine n_ic X dX10_line_125 (by decide) (by decide) (fun x20 t20 => ?_)
            have i19 : x19.toNatClampNeg = 0 := by have := cI_clamp (x := x19) (by omega); omega
            refine tg_zast X hG h18 rfl (cI_in (n := 2) (by omega)) (by omega) dX10_line_126 (cn (bsM (fsM (fsM (fsM (qM (cM (MM K P N u k0 k1) Lg lo pc gc f) pc (sumF f pc)) 2 (((0 : Nat) : Int), ((0 : Nat) : Int))) 9 (((0 : Nat) : Int), ((0 : Nat) : Int))) 13 (((0 : Nat) : Int), ((0 : Nat) : Int))) 0 (0, 0)) τ) (cw_off hU h18 (by decide) (j0 := 0) bsM_ne) (by rw [i19]; exact cw_oth h18 bsM_ne) (by rw [i19]; exact cw_new h18 (ty_ryes bsM_at (by omega))) (fun H locs hG => ?_)
            refine lv_aload_n X.1 X.2.1 dX10_line_127 rfl (lv_at hl 0 rfl) ?_
            refine gf_10_4 X hG h900 q_880 dX10_line_128 (cn_N _ _ _ h900) (fun a21 h21 r21 => ?_)
            refine n_ic X dX10_line_131 (by decide) (by decide) (fun x22 t22 => ?_)
            refine n_ic X dX10_line_132 (by decide) (by decide) (fun x23 t23 => ?_)
            have i22 : x22.toNatClampNeg = 1 := by have := cI_clamp (x := x22) (by omega); omega
            refine tg_zast X hG h21 rfl (cI_in (n := 2) (by omega)) (by omega) dX10_line_133 (cn (bsM (bsM (fsM (fsM (fsM (qM (cM (MM K P N u k0 k1) Lg lo pc gc f) pc (sumF f pc)) 2 (((0 : Nat) : Int), ((0 : Nat) : Int))) 9 (((0 : Nat) : Int), ((0 : Nat) : Int))) 13 (((0 : Nat) : Int), ((0 : Nat) : Int))) 0 (0, 0)) 1 (0, 0)) τ) (cw_off hU h21 (by decide) (j0 := 1) bsM_ne) (by rw [i22]; exact cw_oth h21 bsM_ne) (by rw [i22]; exact cw_new h21 (ty_ryes bsM_at (by omega))) (fun H locs hG => ?_)
            have hG := TG.le hG (ln_t ok hp hg hf)
            refine lv_aload_n X.1 X.2.1 dX10_line_134 rfl (lv_at hl 0 rfl) ?_
            refine gf_10_0 X hG h900 q_876 dX10_line_135 (cn_N _ _ _ h900) (fun a24 h24 r24 => ?_)
            refine n_sp X dX10_line_138 (by decide) (by decide) (fun x25 t25 => ?_)
            refine tg_iald X hG h24 rfl (cI_in (n := 4261) (by omega)) dX10_line_141 (fun x26 r26 => ?_)
            have b26 := rdR (cn_R _ _ _ _ h24 r26) (n := 258) (by omega) (show MM (0, -1, 0, 0, K.2.2.2.2) pc (sumF f pc) 0 false false 10 258 = some ((sumF f pc : Int), (sumF f pc : Int)) by rw [MM_10]; rfl)
            exact ret _ _ _ _ x26 _ hG ⟨Or.inr ⟨pc, sumF f pc, ⟨⟨by omega, Nat.zero_le _, Nat.zero_le _, Nat.zero_le _⟩, hp, (fun hpos => Nat.pos_of_ne_zero (fun hz => by rw [hz] at hpos; exact absurd hpos (Nat.lt_irrefl 0))), by omega⟩, by omega, rfl⟩, trivial⟩ dX10_line_142
          · refine n_ic X dX10_line_65 (by decide) (by decide) (fun x15 t15 => ?_)
            refine lv_istore (lv' := [(4, .int x15), (0, .ref a900), (1, .int x1), (2, .int xi), (3, .int xp)]) X.1 X.2.1 dX10_line_66 hl (by decide) rfl (fun ls hl => ?_)
            have hfq := hf q
            have hsq : sumF f q + f q ≤ sumF f pc := sumF_mo (f := f) (p := q + 1) (q := pc) (by omega)
            have J68 : ∀ (d2 k : Nat) (H : Heap) (locs : List Loc) (ls : Array Slot) (xi xk : Int32), xk.toInt = (k : Int) → k ≤ f q → xi.toInt = ((sumF f q + k : Nat) : Int) → f q - k < d2 → TG D cy τ (cn (qM (cM (MM K P N u k0 k1) Lg lo pc gc f) pc (sumF f q + k)) τ) (ty_d τ) s.heap H locs → lv_has ls 5 [(0, .ref a900), (1, .int x1), (2, .int xi), (3, .int xp), (4, .int xk)] → W p l e (rL 6) s m args below meth c H locs 0 0 Q (F0 m 68 ls []) := by
              intro d2
              induction d2 with
              | zero => intro k H locs ls xi xk ek hk ei hm2 hG hl; exact absurd hm2 (Nat.not_lt_zero _)
              | succ d2 ih2 =>
                intro k H locs ls xi xk ek hk ei hm2 hG hl
                refine lv_iload X.1 X.2.1 dX10_line_68 (lv_at hl 4 rfl) ?_
                refine lv_aload_n X.1 X.2.1 dX10_line_70 rfl (lv_at hl 0 rfl) ?_
                refine gf_10_0 X hG h900 q_876 dX10_line_71 (cn_N _ _ _ h900) (fun a16 h16 r16 => ?_)
                refine n_sp X dX10_line_74 (by decide) (by decide) (fun x17 t17 => ?_)
                refine lv_iload_n X.1 X.2.1 dX10_line_77 rfl (lv_at hl 3 rfl) ?_
                refine n_add X dX10_line_78 (by omega) (by omega) (fun x18 t18 => ?_)
                refine tg_iald X hG h16 rfl (cI_in (n := 4261) (by omega)) dX10_line_79 (fun x19 r19 => ?_)
                have b19 := rdR (cn_R _ _ _ _ h16 r19) (n := 250 + q) (by omega) (show qM (cM (MM K P N u k0 k1) Lg lo pc gc f) pc (sumF f q + k) 10 (250 + q) = some ((f q : Int), (f q : Int)) by rw [qM_out (by omega), cM_r (by omega), rd_L hp (by omega)])
                refine n_icmp_ge (tgt := 99) X dX10_line_80 (by decide) (fun c20 => ?_) (fun c20 => ?_)
                · have ekq : k = f q := by omega
                  refine n_inc X (fun z => [(3, .int z), (0, .ref a900), (1, .int x1), (2, .int xi), (4, .int xk)]) dX10_line_99 hl (k := 3) rfl (by decide) (by decide) (by omega) (by omega) (by decide) (fun _ => rfl) (fun x21 ls t21 hl => ?_)
                  have hl : lv_has ls 5 [(3, .int x21), (0, .ref a900), (1, .int x1), (2, .int xi), (4, .int xk)] := hl
                  refine lv_goto (tgt := 53) X.1 X.2.1 dX10_line_102 (by decide) ?_
                  rw [ekq] at hG ei
                  exact ih (q + 1) _ _ _ xi x21 (by omega) (by omega) ei (by omega) hG (lv_sub hl [1, 2, 3, 0] rfl)
                · refine lv_aload_n X.1 X.2.1 dX10_line_83 rfl (lv_at hl 0 rfl) ?_
                  refine gf_10_1 X hG h900 q_877 dX10_line_84 (cn_N _ _ _ h900) (fun a21 h21 r21 => ?_)
                  refine lv_iload_n X.1 X.2.1 dX10_line_87 rfl (lv_at hl 2 rfl) ?_
                  refine lv_iload_n X.1 X.2.1 dX10_line_88 rfl (lv_at hl 3 rfl) ?_
                  have ii : xi.toNatClampNeg = sumF f q + k := by have := cI_clamp (x := xi) (by omega); omega
                  refine tg_iast X hG h21 rfl (cI_in (n := 72) (by omega)) dX10_line_89 (cn (qM (cM (MM K P N u k0 k1) Lg lo pc gc f) pc (sumF f q + k + 1)) τ) (cw_off hU h21 (by decide) (j0 := sumF f q + k) qM_s) (by rw [ii]; exact cw_oth h21 qM_s) (by rw [ii]; exact cw_new h21 (ty_ryes (qM_in (by omega)) (by omega))) (fun H locs hG => ?_)
                  refine n_inc X (fun z => [(2, .int z), (0, .ref a900), (1, .int x1), (3, .int xp), (4, .int xk)]) dX10_line_90 hl (k := 2) rfl (by decide) (by decide) (by omega) (by omega) (by decide) (fun _ => rfl) (fun x22 ls t22 hl => ?_)
                  have hl : lv_has ls 5 [(2, .int x22), (0, .ref a900), (1, .int x1), (3, .int xp), (4, .int xk)] := hl
                  refine n_inc X (fun z => [(4, .int z), (2, .int x22), (0, .ref a900), (1, .int x1), (3, .int xp)]) dX10_line_93 hl (k := 4) rfl (by decide) (by decide) (by omega) (by omega) (by decide) (fun _ => rfl) (fun x23 ls t23 hl => ?_)
                  have hl : lv_has ls 5 [(4, .int x23), (2, .int x22), (0, .ref a900), (1, .int x1), (3, .int xp)] := hl
                  refine lv_goto (tgt := 68) X.1 X.2.1 dX10_line_96 (by decide) ?_
                  exact ih2 (k + 1) _ _ _ x22 x23 (by omega) (by omega) (by omega) (by omega) hG (lv_sub hl [2, 3, 1, 4, 0] rfl)
            exact J68 (f q + 1) 0 _ _ _ xi x15 (by omega) (by omega) (by rw [ei]; rfl) (by omega) hG (lv_sub hl [1, 2, 3, 4, 0] rfl)
      exact J53 (pc + 1) 0 _ _ _ x9 x10 (by omega) (by omega) (by rw [t9]; rfl) (by omega) hG (lv_sub hl [3, 2, 1, 0] rfl)
    · exact absurd (show x1.toInt = 0 by omega) c3
