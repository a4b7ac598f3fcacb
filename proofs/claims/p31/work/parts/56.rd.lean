/-! the line taken over -/
theorem rgd_le {M M' : md_T} (h : ∀ n j r, M' n j = some r → ∃ q, M n j = some q ∧ r.1 ≤ q.1 ∧ q.2 ≤ r.2) {t : ty_C} {j : Nat} {r : Int × Int} (hr : ty_rgd M' t j = some r) : ∃ q, ty_rgd M t j = some q ∧ r.1 ≤ q.1 ∧ q.2 ≤ r.2 := by
  obtain ⟨a, b⟩ := t
  match a, hr with
  | 0, hr =>
    match b, hr with
    | 10, hr => exact h 0 j r hr
    | 0, hr => exact ⟨r, hr, Int.le_refl _, Int.le_refl _⟩
    | 1, hr => exact ⟨r, hr, Int.le_refl _, Int.le_refl _⟩
    | 2, hr => exact ⟨r, hr, Int.le_refl _, Int.le_refl _⟩
    | 3, hr => exact ⟨r, hr, Int.le_refl _, Int.le_refl _⟩
    | 4, hr => exact ⟨r, hr, Int.le_refl _, Int.le_refl _⟩
    | 5, hr => exact ⟨r, hr, Int.le_refl _, Int.le_refl _⟩
    | 6, hr => exact ⟨r, hr, Int.le_refl _, Int.le_refl _⟩
    | 7, hr => exact ⟨r, hr, Int.le_refl _, Int.le_refl _⟩
    | 8, hr => exact ⟨r, hr, Int.le_refl _, Int.le_refl _⟩
    | 9, hr => exact ⟨r, hr, Int.le_refl _, Int.le_refl _⟩
    | n + 11, hr => exact ⟨r, hr, Int.le_refl _, Int.le_refl _⟩
  | 1, hr => exact ⟨r, hr, Int.le_refl _, Int.le_refl _⟩
  | 2, hr => exact ⟨r, hr, Int.le_refl _, Int.le_refl _⟩
  | 3, hr => exact ⟨r, hr, Int.le_refl _, Int.le_refl _⟩
  | 4, hr => exact ⟨r, hr, Int.le_refl _, Int.le_refl _⟩
  | 5, hr => exact ⟨r, hr, Int.le_refl _, Int.le_refl _⟩
  | 6, hr => exact ⟨r, hr, Int.le_refl _, Int.le_refl _⟩
  | 7, hr => exact ⟨r, hr, Int.le_refl _, Int.le_refl _⟩
  | 8, hr => exact ⟨r, hr, Int.le_refl _, Int.le_refl _⟩
  | 9, hr => exact ⟨r, hr, Int.le_refl _, Int.le_refl _⟩
  | n + 10, hr => exact h (n + 10) j r hr
theorem TG.le {D : va_G} {cy : Nat → ClassId} {M M' : md_T} {τ : ty_T} {A : Nat → Prop} {H0 H : Heap} {locs : List Loc} (hG : TG D cy τ (cn M τ) A H0 H locs) (h : ∀ n j r, M' n j = some r → ∃ q, M n j = some q ∧ r.1 ≤ q.1 ∧ q.2 ≤ r.2) : TG D cy τ (cn M' τ) A H0 H locs := hG.mono (fun a t j v _ q => ⟨q.1, fun t2 x h2 e2 lo hi hr => by
  obtain ⟨z, hz, h1, h3⟩ := rgd_le h hr
  have := q.2 t2 x h2 e2 z.1 z.2 hz
  exact ⟨Int.le_trans h1 this.1, Int.le_trans this.2 h3⟩⟩)
theorem rw_hi {g t B P N u : Nat} {k0 k1 : Bool} {j : Nat} (hu : u ≤ 12) (hj : 3983 ≤ j) : rwM g t B P N u k0 k1 j = none := by
  unfold rwM
  rw [if_neg (by omega), if_neg (by omega), if_neg (by omega), if_neg (by omega), if_neg (by omega), if_neg (by omega), if_neg (by omega), if_neg (by omega)]
theorem MM_K {K K2 : KT} {P N u : Nat} {k0 k1 : Bool} {n j : Nat} (h0 : n ≠ 0) (h16 : n ≠ 16) (hg : ∀ i, i < 6 → K2.2.2.2.2 (1000 + i) = K.2.2.2.2 (1000 + i) := by intro _ _; rfl) : MM K P N u k0 k1 n j = MM K2 P N u k0 k1 n j := by
  have z0 : gK K2 = gK K := by unfold gK; rw [show K2.2.2.2.2 1000 = K.2.2.2.2 1000 from hg 0 (by decide)]
  have z1 : tK K2 = tK K := by unfold tK; rw [show K2.2.2.2.2 1001 = K.2.2.2.2 1001 from hg 1 (by decide)]
  have z3 : siK K2 0 = siK K 0 := by unfold siK; rw [show K2.2.2.2.2 (1003 + 0) = K.2.2.2.2 (1003 + 0) from hg 3 (by decide)]
  have z4 : siK K2 1 = siK K 1 := by unfold siK; rw [show K2.2.2.2.2 (1003 + 1) = K.2.2.2.2 (1003 + 1) from hg 4 (by decide)]
  have z5 : bK K2 = bK K := by unfold bK; rw [show K2.2.2.2.2 1005 = K.2.2.2.2 1005 from hg 5 (by decide)]
  unfold MM
  rw [if_neg h0, if_neg h0]
  by_cases a : n = 10
  · rw [if_pos a, if_pos a, z0, z1, z5]
  rw [if_neg a, if_neg a]
  by_cases a : n = 11
  · rw [if_pos a, if_pos a]
  rw [if_neg a, if_neg a]
  by_cases a : n = 14
  · rw [if_pos a, if_pos a]
  rw [if_neg a, if_neg a]
  by_cases a : n = 15
  · rw [if_pos a, if_pos a, z3, z4]
  rw [if_neg a, if_neg a, if_neg h16, if_neg h16]
theorem MM_16 {K : KT} {P N u : Nat} {k0 k1 : Bool} {j : Nat} : MM K P N u k0 k1 16 j = txM K j := rfl
/-- refused: the bounds as before, but for the text's length and the fault -/
theorem ln_f {K : KT} {P N u : Nat} {k0 k1 : Bool} {Lg lo pc gc : Nat} {f : Nat → Nat} {φ : Int} (hu : u ≤ 12) : ∀ n j r, MM (0, φ, K.2.2) P N u k0 k1 n j = some r → fsM (fsM (RMM (MM K P N u k0 k1) Lg lo pc gc f) 7 (((0 : Nat) : Int), ((0 : Nat) : Int))) 8 (φ, φ) n j = some r := by
  intro n j r h
  by_cases e8 : n = 0 ∧ j = 8
  · obtain ⟨rfl, rfl⟩ := e8
    rw [fsM_at]
    exact h
  rw [fsM_ne n j (by omega)]
  by_cases e1 : n = 0 ∧ j = 7
  · obtain ⟨rfl, rfl⟩ := e1
    rw [fsM_at]
    exact h
  · rw [fsM_ne n j (by omega)]
    by_cases e2 : n = 0 ∧ j = 16
    · obtain ⟨rfl, rfl⟩ := e2
      exact absurd (show (none : Option (Int × Int)) = some r from h) (by intro q; cases q)
    · by_cases e3 : n = 10 ∧ 3983 ≤ j
      · obtain ⟨rfl, e3⟩ := e3
        rw [MM_10, rw_hi hu e3] at h
        cases h
      · rw [RMM_f e1 e2 e3]
        by_cases n0 : n = 0
        · subst n0
          rw [MM_0] at h ⊢
          unfold flM at h ⊢
          by_cases a : j = 2
          · rw [if_pos a] at h ⊢; exact h
          rw [if_neg a] at h ⊢
          by_cases a : j = 3
          · rw [if_pos a] at h ⊢; exact h
          rw [if_neg a, if_neg (show ¬ j = 7 by omega), if_neg (show ¬ j = 8 by omega)] at h ⊢
          exact h
        · by_cases n16 : n = 16
          · subst n16
            have h2 : txM (0, φ, K.2.2) j = some r := h
            unfold txM at h2
            rw [if_neg (show ¬ j < 0 from Nat.not_lt_zero j)] at h2
            cases h2
          · rw [MM_K (K2 := (0, φ, K.2.2)) n0 n16]
            exact h
/-- the pieces of the cells, as far as they are laid -/
def qM (M : md_T) (pc i : Nat) : md_T := fun a j => if a = 11 ∧ j < i then some (0, (pc : Int) - 1) else M a j
theorem qM_in {M : md_T} {pc i j : Nat} (h : j < i) : qM M pc i 11 j = some (0, (pc : Int) - 1) := if_pos ⟨rfl, h⟩
theorem qM_out {M : md_T} {pc i a j : Nat} (h : ¬ (a = 11 ∧ j < i)) : qM M pc i a j = M a j := if_neg h
theorem qM_0 {M : md_T} {pc : Nat} : qM M pc 0 = M := by funext a j; exact if_neg (by omega)
theorem qM_s {M : md_T} {pc i : Nat} : ∀ n j, n ≠ 11 ∨ j ≠ i → qM M pc (i + 1) n j = qM M pc i n j := by
  intro n j h
  unfold qM
  by_cases e : n = 11 ∧ j < i
  · rw [if_pos e, if_pos (show n = 11 ∧ j < i + 1 by omega)]
  · rw [if_neg e, if_neg (show ¬ (n = 11 ∧ j < i + 1) by omega)]
/-- the bounds behind the copied row -/
def cM (M0 : md_T) (Lg lo pc gc : Nat) (f : Nat → Nat) : md_T := cpM (fsM (fsM (RMM M0 Lg lo pc gc f) 7 (((0 : Nat) : Int), ((0 : Nat) : Int))) 8 (-1, -1)) 3983 0 278
theorem cM_r {M0 : md_T} {Lg lo pc gc : Nat} {f : Nat → Nat} {o : Nat} (h : o < 278) : cM M0 Lg lo pc gc f 10 o = rdM pc gc f o := by
  unfold cM
  rw [cpM_in (by omega) (by omega), fsM_ne _ _ (Or.inl (by decide)), fsM_ne _ _ (Or.inl (by decide)), show 3983 + (o - 0) = 3983 + o by omega, RMM_r]
theorem cM_o {M0 : md_T} {Lg lo pc gc : Nat} {f : Nat → Nat} {a j : Nat} (h : a ≠ 10) (h7 : ¬ (a = 0 ∧ j = 7)) (h16 : ¬ (a = 0 ∧ j = 16)) (h8 : ¬ (a = 0 ∧ j = 8)) : cM M0 Lg lo pc gc f a j = M0 a j := by
  unfold cM
  rw [cpM_ne h, fsM_ne _ _ (by omega), fsM_ne _ _ (by omega), RMM_f h7 h16 (by omega)]
theorem cM_7 {M0 : md_T} {Lg lo pc gc : Nat} {f : Nat → Nat} : cM M0 Lg lo pc gc f 0 7 = some (((0 : Nat) : Int), ((0 : Nat) : Int)) := by
  unfold cM
  rw [cpM_ne (by decide), fsM_ne _ _ (by omega), fsM_at]
theorem cM_8 {M0 : md_T} {Lg lo pc gc : Nat} {f : Nat → Nat} : cM M0 Lg lo pc gc f 0 8 = some (-1, -1) := by
  unfold cM
  rw [cpM_ne (by decide), fsM_at]
theorem rd_L {pc gc : Nat} {f : Nat → Nat} {p : Nat} (hp : pc ≤ 8) (h : p < pc) : rdM pc gc f (250 + p) = some ((f p : Int), (f p : Int)) := by
  unfold rdM
  rw [if_neg (show ¬ (236 ≤ 250 + p ∧ 250 + p < 236 + pc) by omega), if_neg (show ¬ (250 + p = 245 ∨ 250 + p = 246) by omega), if_neg (show ¬ 250 + p = 249 by omega), if_pos (show 250 ≤ 250 + p ∧ 250 + p < 250 + pc by omega), show 250 + p - 250 = p by omega]
theorem sumF_mo {f : Nat → Nat} : ∀ {p q : Nat}, p ≤ q → sumF f p ≤ sumF f q
  | p, 0, h => by rw [show p = 0 by omega]; exact Nat.le_refl _
  | p, q + 1, h => by
    by_cases e : p = q + 1
    · rw [e]; exact Nat.le_refl _
    · have := sumF_mo (f := f) (p := p) (q := q) (by omega)
      rw [sumF]
      omega
/-- a new line's letters: gates, told; the seed and the rest stay -/
def nlS (f : Nat → Int32) (g t : Nat) : Nat → Int32 := fun j => if j = 1000 then nI g else if j = 1001 then nI t else f j
theorem gK_gs {f : Nat → Int32} {g t a c d : Nat} {b : Int} (hg : g ≤ 6) : gK (a, b, c, d, nlS f g t) = g := by
  unfold gK nlS
  show min 6 (if 1000 = 1000 then nI g else _).toNatClampNeg = g
  rw [if_pos rfl]
  have h1 := cI_nI (n := g) (by omega)
  have h2 := cI_clamp (x := nI g) (by omega)
  omega
theorem tK_gs {f : Nat → Int32} {g t a c d : Nat} {b : Int} (ht : t ≤ 1) : tK (a, b, c, d, nlS f g t) = t := by
  unfold tK nlS
  show min 1 (if 1001 = 1000 then nI g else if 1001 = 1001 then nI t else _).toNatClampNeg = t
  rw [if_neg (by decide), if_pos rfl]
  have h1 := cI_nI (n := t) (by omega)
  have h2 := cI_clamp (x := nI t) (by omega)
  omega
theorem rd_235 {pc gc : Nat} {f : Nat → Nat} (hp : pc ≤ 8) : rdM pc gc f 235 = some (0, 0) := by
  unfold rdM
  rw [if_neg (by omega), if_neg (by omega), if_neg (by omega), if_neg (by omega), if_neg (by omega), if_neg (by omega), if_neg (by omega), if_pos rfl]
theorem rd_247 {pc gc : Nat} {f : Nat → Nat} (hp : pc ≤ 8) : rdM pc gc f 247 = some ((f 100 : Int), (f 100 : Int)) := by
  unfold rdM
  rw [if_neg (by omega), if_neg (by omega), if_neg (by omega), if_neg (by omega), if_neg (by omega), if_neg (by omega), if_neg (by omega), if_neg (by omega), if_pos rfl]
set_option maxRecDepth 100000 in
theorem si_le {k : Bool} {x : Int32} : ∃ q, siO k x.toNatClampNeg = some q ∧ (0 : Int) ≤ q.1 ∧ q.2 ≤ (2147483647 : Int) := by
  have h := cl_lt (x := x)
  cases k with
  | true => exact ⟨_, rfl, by show (0 : Int) ≤ (x.toNatClampNeg : Int); omega, by show (x.toNatClampNeg : Int) ≤ 2147483647; omega⟩
  | false => exact ⟨_, rfl, Int.le_refl _, Int.le_refl _⟩
set_option maxRecDepth 100000 in
theorem ln_t {K : KT} {P N u : Nat} {k0 k1 : Bool} {Lg lo pc gc : Nat} {f : Nat → Nat} (ok : OKG K P N u) (hp : pc ≤ 8) (hg : gc ≤ 6) (hf : ∀ i, f i ≤ 9) (ht : f 100 ≤ 1) : ∀ n j r, MM (0, -1, 0, 0, nlS K.2.2.2.2 gc (f 100)) pc (sumF f pc) 0 false false n j = some r → ∃ q, bsM (bsM (fsM (fsM (fsM (qM (cM (MM K P N u k0 k1) Lg lo pc gc f) pc (sumF f pc)) 2 (((0 : Nat) : Int), ((0 : Nat) : Int))) 9 (((0 : Nat) : Int), ((0 : Nat) : Int))) 13 (((0 : Nat) : Int), ((0 : Nat) : Int))) 0 (0, 0)) 1 (0, 0) n j = some q ∧ r.1 ≤ q.1 ∧ q.2 ≤ r.2 := by
  intro n j r h
  have rf : ∀ z : Option (Int × Int), z = some r → ∃ q, z = some q ∧ r.1 ≤ q.1 ∧ q.2 ≤ r.2 := fun z hz => ⟨r, hz, Int.le_refl _, Int.le_refl _⟩
  by_cases n14 : n = 14
  · subst n14
    by_cases j1 : j = 1
    · subst j1
      rw [bsM_at]
      exact rf _ h
    · rw [bsM_ne _ _ (Or.inr j1)]
      by_cases j0 : j = 0
      · subst j0
        rw [bsM_at]
        exact rf _ h
      · have h2 : (if j = 0 then some (biM false, biM false) else if j = 1 then some (biM false, biM false) else none) = some r := h
        rw [if_neg j0, if_neg j1] at h2
        cases h2
  rw [bsM_ne _ _ (Or.inl n14), bsM_ne _ _ (Or.inl n14)]
  by_cases n0 : n = 0
  · subst n0
    rw [MM_0] at h
    unfold flM at h
    by_cases j13 : j = 13
    · subst j13
      rw [fsM_at]
      exact rf _ h
    rw [fsM_ne _ _ (Or.inr j13)]
    by_cases j9 : j = 9
    · subst j9
      rw [fsM_at]
      exact rf _ h
    rw [fsM_ne _ _ (Or.inr j9)]
    by_cases j2 : j = 2
    · subst j2
      rw [fsM_at]
      exact rf _ h
    rw [if_neg j2] at h
    rw [fsM_ne _ _ (Or.inr j2), qM_out (by omega)]
    by_cases j7 : j = 7
    · subst j7
      rw [cM_7]
      exact rf _ h
    by_cases j8 : j = 8
    · subst j8
      rw [cM_8]
      exact rf _ h
    by_cases j16 : j = 16
    · subst j16
      exact absurd (show (none : Option (Int × Int)) = some r from h) (by intro q; cases q)
    rw [cM_o (by omega) (by omega) (by omega) (by omega), MM_0]
    unfold flM
    rw [if_neg j2]
    by_cases j3 : j = 3
    · rw [if_pos j3] at h ⊢
      exact rf _ h
    · rw [if_neg j3, if_neg j7, if_neg j8, if_neg j9, if_neg j13] at h
      cases h
  rw [fsM_ne _ _ (Or.inl n0), fsM_ne _ _ (Or.inl n0), fsM_ne _ _ (Or.inl n0)]
  by_cases n11 : n = 11
  · subst n11
    have h2 : (if j < 72 then some (0, if j < sumF f pc then (pc : Int) - 1 else 7) else none) = some r := h
    by_cases j72 : j < 72
    · rw [if_pos j72] at h2
      by_cases jS : j < sumF f pc
      · rw [if_pos jS] at h2
        rw [qM_in jS]
        exact rf _ h2
      · rw [if_neg jS] at h2
        rw [qM_out (by omega), cM_o (by omega) (by omega) (by omega) (by omega)]
        refine ⟨(0, if j < N then (P : Int) - 1 else 7), (by
          show (if j < 72 then some ((0 : Int), if j < N then (P : Int) - 1 else 7) else none) = _
          rw [if_pos j72]), ?_⟩
        cases h2
        have hP := ok.2.1
        refine ⟨Int.le_refl _, ?_⟩
        show (if j < N then (P : Int) - 1 else 7) ≤ 7
        by_cases jN : j < N
        · rw [if_pos jN]; omega
        · rw [if_neg jN]; omega
    · rw [if_neg j72] at h2
      cases h2
  rw [qM_out (by omega)]
  by_cases n10 : n = 10
  · subst n10
    rw [MM_10] at h
    unfold rwM at h
    by_cases q1 : j < 247
    · rw [if_pos q1] at h
      rw [cM_r (by omega)]
      unfold lnM at h
      unfold rdM
      by_cases q2 : 236 ≤ j ∧ j < 236 + pc
      · rw [if_pos q2] at h ⊢
        exact rf _ h
      · rw [if_neg q2] at h ⊢
        by_cases q3 : j = 245 ∨ j = 246
        · rw [if_pos q3] at h ⊢
          exact rf _ h
        · rw [if_neg q3] at h
          by_cases q35 : j = 235
          · rw [if_pos q35] at h
            cases h
            refine ⟨(0, 0), ?_, Int.le_refl _, by show (0 : Int) ≤ ((_ : Nat) : Int); omega⟩
            have z := rd_235 (gc := gc) (f := f) hp
            rw [← q35] at z
            unfold rdM at z
            rw [if_neg q2] at z
            exact z
          · rw [if_neg q35] at h
            cases h
    rw [if_neg q1] at h
    by_cases q2 : j = 249 ∨ j = 247
    · rw [if_pos q2] at h
      by_cases q20 : j = 249
      · subst q20
        rw [if_pos rfl] at h
        rw [cM_r (by omega), rd_249 hp]
        exact rf _ h
      · have q21 : j = 247 := by omega
        subst q21
        rw [if_neg (by decide), tK_gs ht] at h
        rw [cM_r (by omega), rd_247 hp]
        exact rf _ h
    rw [if_neg q2] at h
    by_cases q3 : j = 258
    · subst q3
      rw [if_pos rfl] at h
      rw [cM_r (by omega), rd_258 hp]
      exact rf _ h
    rw [if_neg q3] at h
    by_cases q4 : j = 259
    · subst q4
      rw [if_pos rfl] at h
      rw [cM_r (by omega), rd_259 hp]
      rw [gK_gs hg] at h
      exact rf _ h
    rw [if_neg q4] at h
    by_cases q5 : 250 ≤ j ∧ j < 258
    · rw [if_pos q5] at h
      rw [cM_r (by omega)]
      cases h
      by_cases q6 : j < 250 + pc
      · rw [show j = 250 + (j - 250) by omega, rd_L hp (by omega)]
        have := hf (j - 250)
        exact ⟨_, rfl, by show (0 : Int) ≤ (f (j - 250) : Int); omega, by show (f (j - 250) : Int) ≤ 9; omega⟩
      · refine ⟨(0, 9), ?_, Int.le_refl _, Int.le_refl _⟩
        unfold rdM
        rw [if_neg (show ¬ (236 ≤ j ∧ j < 236 + pc) by omega), if_neg (show ¬ (j = 245 ∨ j = 246) by omega), if_neg (show ¬ j = 249 by omega), if_neg (show ¬ (250 ≤ j ∧ j < 250 + pc) by omega), if_pos q5]
    rw [if_neg q5, if_neg (show ¬ (278 ≤ j ∧ j < 278 + 247 * 0) by omega), if_neg (show ¬ (3242 ≤ j ∧ j < 3489 ∧ false = true) from fun q => by cases q.2.2), if_neg (show ¬ (3489 ≤ j ∧ j < 3736 ∧ false = true) from fun q => by cases q.2.2)] at h
    cases h
  rw [cM_o n10 (by omega) (by omega) (by omega)]
  by_cases n16 : n = 16
  · subst n16
    have h2 : txM (0, -1, 0, 0, nlS K.2.2.2.2 gc (f 100)) j = some r := h
    unfold txM at h2
    rw [if_neg (show ¬ j < 0 from Nat.not_lt_zero j)] at h2
    cases h2
  by_cases n15 : n = 15
  · subst n15
    by_cases j0 : j = 0
    · subst j0
      have h2 : some ((0 : Int), (2147483647 : Int)) = some r := h
      cases h2
      exact si_le (k := k0) (x := K.2.2.2.2 (1003 + 0))
    · by_cases j1 : j = 1
      · subst j1
        have h2 : some ((0 : Int), (2147483647 : Int)) = some r := h
        cases h2
        exact si_le (k := k1) (x := K.2.2.2.2 (1003 + 1))
      · have h2 : (if j = 0 then siO false (siK (0, -1, 0, 0, nlS K.2.2.2.2 gc (f 100)) 0) else if j = 1 then siO false (siK (0, -1, 0, 0, nlS K.2.2.2.2 gc (f 100)) 1) else none) = some r := h
        rw [if_neg j0, if_neg j1] at h2
        cases h2
  refine rf _ ?_
  rw [← h]
  unfold MM
  rw [if_neg n0, if_neg n10, if_neg n11, if_neg n14, if_neg n0, if_neg n10, if_neg n11, if_neg n14, if_neg n15, if_neg n15, if_neg n16, if_neg n16]
