/-! the reference's constructor -/
def Kz : KT := (0, -1, 0, 0, fun _ => 0)
theorem mm00 {n j : Nat} {lo hi : Int} (h8 : ¬ (n = 0 ∧ j = 8)) (h : MM Kz 0 0 0 false false n j = some (lo, hi)) : lo ≤ 0 ∧ 0 ≤ hi := by
  unfold MM at h
  by_cases n0 : n = 0
  · rw [if_pos n0] at h
    unfold flM at h
    by_cases a : j = 2
    · rw [if_pos a] at h; cases h; omega
    rw [if_neg a] at h
    by_cases a : j = 3
    · have s0 : sdK Kz = 0 := by decide
      rw [if_pos a, s0] at h; cases h; omega
    rw [if_neg a] at h
    by_cases a : j = 7
    · rw [if_pos a] at h; cases h; decide
    rw [if_neg a, if_neg (show ¬ j = 8 by omega)] at h
    by_cases a : j = 9
    · rw [if_pos a] at h; cases h; decide
    rw [if_neg a] at h
    by_cases a : j = 13
    · rw [if_pos a] at h; cases h; decide
    rw [if_neg a] at h
    cases h
  rw [if_neg n0] at h
  by_cases n10 : n = 10
  · rw [if_pos n10] at h
    unfold rwM at h
    by_cases a : j < 247
    · rw [if_pos a] at h
      unfold lnM at h
      rw [if_neg (show ¬ (236 ≤ j ∧ j < 236 + 0) by omega)] at h
      by_cases b : j = 245 ∨ j = 246
      · rw [if_pos b] at h; cases h; omega
      rw [if_neg b] at h
      have b0 : bK Kz = 0 := by decide
      by_cases b2 : j = 235
      · rw [if_pos b2, b0] at h; cases h; omega
      rw [if_neg b2] at h
      cases h
    rw [if_neg a] at h
    by_cases a : j = 249 ∨ j = 247
    · rw [if_pos a] at h
      have t0 : tK Kz = 0 := by decide
      rw [t0] at h
      by_cases a2 : j = 249
      · rw [if_pos a2] at h; cases h; omega
      · rw [if_neg a2] at h; cases h; omega
    rw [if_neg a] at h
    by_cases a : j = 258
    · rw [if_pos a] at h; cases h; omega
    rw [if_neg a] at h
    by_cases a : j = 259
    · have g0 : gK Kz = 0 := by decide
      rw [if_pos a, g0] at h; cases h; omega
    rw [if_neg a] at h
    by_cases a : 250 ≤ j ∧ j < 258
    · rw [if_pos a] at h; cases h; omega
    rw [if_neg a, if_neg (show ¬ (278 ≤ j ∧ j < 278 + 247 * 0) by omega), if_neg (show ¬ (3242 ≤ j ∧ j < 3489 ∧ false = true) from fun q => by cases q.2.2), if_neg (show ¬ (3489 ≤ j ∧ j < 3736 ∧ false = true) from fun q => by cases q.2.2)] at h
    cases h
  rw [if_neg n10] at h
  by_cases n11 : n = 11
  · rw [if_pos n11] at h
    by_cases a : j < 72
    · rw [if_pos a, if_neg (show ¬ j < 0 by omega)] at h; cases h; omega
    rw [if_neg a] at h
    cases h
  rw [if_neg n11] at h
  by_cases n14 : n = 14
  · rw [if_pos n14] at h
    have e : biM false = 0 := rfl
    by_cases a : j = 0
    · rw [if_pos a, e] at h; cases h; omega
    rw [if_neg a] at h
    by_cases a : j = 1
    · rw [if_pos a, e] at h; cases h; omega
    rw [if_neg a] at h
    cases h
  rw [if_neg n14] at h
  by_cases a : n = 15
  · rw [if_pos a] at h
    by_cases b : j = 0
    · rw [if_pos b] at h
      have h : some ((0 : Int), (2147483647 : Int)) = some (lo, hi) := h
      cases h; omega
    rw [if_neg b] at h
    by_cases b : j = 1
    · rw [if_pos b] at h
      have h : some ((0 : Int), (2147483647 : Int)) = some (lo, hi) := h
      cases h; omega
    rw [if_neg b] at h
    cases h
  rw [if_neg a] at h
  by_cases a : n = 16
  · rw [if_pos a] at h
    unfold txM at h
    rw [if_neg (show ¬ j < Kz.1 from Nat.not_lt_zero j)] at h
    cases h
  rw [if_neg a] at h
  by_cases a : n = 20
  · rw [if_pos a] at h; cases h; omega
  rw [if_neg a] at h
  by_cases a : n = 24
  · rw [if_pos a] at h; cases h; omega
  rw [if_neg a] at h
  cases h
theorem cnT_8 {x : Int32} (h : x.toInt = -1) : cnT (MM Kz 0 0 0 false false) (0, 10) 8 (.int x) := ⟨(fun z => by cases z), (fun y hy lo hi hr => by
  cases hy
  have hr : some ((-1 : Int), (-1 : Int)) = some (lo, hi) := hr
  cases hr
  omega), Or.inl rfl⟩
def RP (τ : ty_T) (ρ : ty_R) (b : Nat) (u : ty_T × ty_R) : Prop := (∀ a t, τ a = some t → u.1 a = some t) ∧ (∀ a j v, τ a ≠ none → a ≠ b → u.2 a j v → ρ a j v) ∧ (∀ a t j v, (a = b ∨ τ a = none) → u.1 a = some t → u.2 a j v → cnT (MM Kz 0 0 0 false false) t j v) ∧ UQ u.1 ∧ ∀ a t, τ a = none → u.1 a = some t → 10 ≤ t.1
def RS (τ : ty_T) (ρ : ty_R) (b : Nat) (Sd S : List Nat) (t : ty_T) (r : ty_R) : Prop :=
  (∀ a x, τ a = some x → t a = some x) ∧ (∀ a j v, τ a ≠ none → a ≠ b → r a j v → ρ a j v) ∧ (∀ a x j v, τ a = none → t a = some x → r a j v → cnT (MM Kz 0 0 0 false false) x j v) ∧ (∀ a x, t a = some x → x.1 < 10 ∨ x.1 ∈ S) ∧ UQ t ∧ (∀ j v, r b j v → cnT (MM Kz 0 0 0 false false) (0, 10) j v ∨ (j ∉ Sd ∧ (dfs 10)[j]? = some v)) ∧ ∀ a x, τ a = none → t a = some x → 10 ≤ x.1
/-- one field of an object is another now -/
def rP (r : ty_R) (b j : Nat) (x : Value) : ty_R := fun a i v => if a = b ∧ i = j then v = x else r a i v
theorem rP_off {r : ty_R} {b j : Nat} {x : Value} : ∀ a i v, a ≠ b → r a i v → rP r b j x a i v := fun a i v h h2 => by unfold rP; rw [if_neg (fun z => h z.1)]; exact h2
theorem rP_oth {r : ty_R} {b j : Nat} {x : Value} : ∀ i v, i ≠ j → r b i v → rP r b j x b i v := fun i v h h2 => by unfold rP; rw [if_neg (fun z => h z.2)]; exact h2
theorem rP_new {r : ty_R} {b j : Nat} {x : Value} : rP r b j x b j x := by unfold rP; rw [if_pos ⟨rfl, rfl⟩]
section RSL
variable {τ t : ty_T} {ρ r : ty_R} {b : Nat} {Sd S : List Nat}
theorem RS.e1 (C : RS τ ρ b Sd S t r) : ∀ a x, τ a = some x → t a = some x := C.1
theorem RS.start (hb : τ b = some (0, 10)) (hc : ∀ a x, τ a = some x → a ≠ b → x.1 < 10 ∧ x ≠ (0, 10)) (hr : ∀ j v, ρ b j v → (dfs 10)[j]? = some v) : RS τ ρ b [] [] τ ρ := by
  have lt : ∀ a x, τ a = some x → x.1 < 10 := fun a x h => by
    by_cases e : a = b
    · rw [e, hb] at h; cases h; decide
    · exact (hc a x h e).1
  refine ⟨fun _ _ h => h, fun _ _ _ _ _ h => h, (fun a x j v h h2 => by rw [h] at h2; cases h2), fun a x h => Or.inl (lt a x h), fun a a2 x x2 h h2 h3 => ?_, fun j v h => Or.inr ⟨List.not_mem_nil, hr j v h⟩, (fun a x h h2 => by rw [h] at h2; cases h2)⟩
  rcases h3 with ⟨h3, h4⟩ | ⟨h3, h4⟩
  · exact absurd (lt a x h) (by omega)
  · by_cases e : a = b
    · by_cases e2 : a2 = b
      · rw [e, e2]
      · exact absurd h4 (hc a2 x2 h2 e2).2
    · exact absurd h3 (hc a x h e).2
theorem RS.arr (C : RS τ ρ b Sd S t r) {q : Nat} {u : ty_C} {P : Nat → Value → Prop} (hq : t q = none) (hP : ∀ j v, P j v → cnT (MM Kz 0 0 0 false false) u j v) (hu : 10 ≤ u.1 ∧ u.1 ∉ S) (hb : τ b = some (0, 10)) : RS τ ρ b Sd (u.1 :: S) (tU t q u) (rU r q P) := by
  obtain ⟨c1, c2, c3, c4, c5, c6, c7⟩ := C
  have nn : ∀ a, τ a ≠ none → t a ≠ none := fun a h => by
    cases hh : τ a with
    | none => exact absurd hh h
    | some x => rw [c1 a x hh]; intro z; cases z
  have ne : ∀ a, τ a ≠ none → a ≠ q := fun a h e => nn a h (by rw [e]; exact hq)
  refine ⟨fun a x h => tU_ext hq a x (c1 a x h), fun a j v h h2 h3 => ?_, fun a x j v h h2 h3 => ?_, fun a x h => ?_, fun a a2 x x2 h h2 h3 => ?_, fun j v h => ?_, fun a x h h2 => ?_⟩
  · rw [rU_ne (ne a h)] at h3
    exact c2 a j v h h2 h3
  · by_cases e : a = q
    · subst e
      rw [tU_at] at h2
      cases h2
      rw [rU_at] at h3
      exact hP j v h3
    · rw [tU_ne e] at h2
      rw [rU_ne e] at h3
      exact c3 a x j v h h2 h3
  · by_cases e : a = q
    · subst e
      rw [tU_at] at h
      cases h
      exact Or.inr List.mem_cons_self
    · rw [tU_ne e] at h
      exact (c4 a x h).imp id (fun z => List.mem_cons_of_mem _ z)
  · by_cases e : a = q
    · by_cases e2 : a2 = q
      · rw [e, e2]
      · rw [e, tU_at] at h
        rw [tU_ne e2] at h2
        cases h
        rcases h3 with ⟨h3, h4⟩ | ⟨h3, h4⟩
        · rcases c4 a2 x2 h2 with h5 | h5
          · omega
          · exact absurd (by rw [h3]; exact h5) hu.2
        · rw [h3] at hu
          exact absurd hu.1 (by decide)
    · rw [tU_ne e] at h
      by_cases e2 : a2 = q
      · rw [e2, tU_at] at h2
        cases h2
        rcases h3 with ⟨h3, h4⟩ | ⟨h3, h4⟩
        · rcases c4 a x h with h5 | h5
          · omega
          · exact absurd (by rw [← h3]; exact h5) hu.2
        · rw [h4] at hu
          exact absurd hu.1 (by decide)
      · rw [tU_ne e2] at h2
        exact c5 a a2 x x2 h h2 h3
  · rw [rU_ne (ne b (by rw [hb]; intro z; cases z))] at h
    exact c6 j v h
  · by_cases e : a = q
    · rw [e, tU_at] at h2
      cases h2
      exact hu.1
    · rw [tU_ne e] at h2
      exact c7 a x h h2
theorem RS.put (C : RS τ ρ b Sd S t r) (hb : τ b = some (0, 10)) {j : Nat} {x : Value} (hx : cnT (MM Kz 0 0 0 false false) (0, 10) j x) : RS τ ρ b (j :: Sd) S t (rP r b j x) := by
  obtain ⟨c1, c2, c3, c4, c5, c6, c7⟩ := C
  refine ⟨c1, fun a i v h h2 h3 => ?_, fun a y i v h h2 h3 => ?_, c4, c5, fun i v h => ?_, c7⟩
  · unfold rP at h3
    rw [if_neg (fun z => h2 z.1)] at h3
    exact c2 a i v h h2 h3
  · unfold rP at h3
    rw [if_neg (fun z => by rw [z.1, hb] at h; cases h)] at h3
    exact c3 a y i v h h2 h3
  · unfold rP at h
    by_cases z : i = j
    · subst z
      rw [if_pos ⟨rfl, rfl⟩] at h
      subst h
      exact Or.inl hx
    · rw [if_neg (fun w => z w.2)] at h
      exact (c6 i v h).imp id (fun w => ⟨fun q => (List.mem_cons.mp q).elim z w.1, w.2⟩)
theorem RS.done (C : RS τ ρ b Sd S t r) (hb : τ b = some (0, 10)) (hfs : ∀ j v, j ∉ Sd → (dfs 10)[j]? = some v → cnT (MM Kz 0 0 0 false false) (0, 10) j v) : RP τ ρ b (t, r) := by
  obtain ⟨c1, c2, c3, c4, c5, c6, c7⟩ := C
  refine ⟨c1, c2, fun a x j v h h2 h3 => ?_, c5, c7⟩
  rcases h with h | h
  · subst h
    have := c1 a _ hb
    have h2 : t a = some x := h2
    rw [this] at h2
    cases h2
    exact (c6 j v h3).elim id (fun w => hfs j v w.1 w.2)
  · exact c3 a x j v h h2 h3
end RSL
theorem df10 (j : Nat) (v : Value) (h : (dfs 10)[j]? = some v) : v = .int 0 ∨ j ∈ [0, 1, 4, 5, 6, 10, 11, 12, 14, 15, 21, 22, 23, 24] := by
  match j, h with
  | 0, h => exact Or.inr (by decide)
  | 1, h => exact Or.inr (by decide)
  | 2, h => have h : some (Value.int 0) = some v := h; cases h; exact Or.inl rfl
  | 3, h => have h : some (Value.int 0) = some v := h; cases h; exact Or.inl rfl
  | 4, h => exact Or.inr (by decide)
  | 5, h => exact Or.inr (by decide)
  | 6, h => exact Or.inr (by decide)
  | 7, h => have h : some (Value.int 0) = some v := h; cases h; exact Or.inl rfl
  | 8, h => have h : some (Value.int 0) = some v := h; cases h; exact Or.inl rfl
  | 9, h => have h : some (Value.int 0) = some v := h; cases h; exact Or.inl rfl
  | 10, h => exact Or.inr (by decide)
  | 11, h => exact Or.inr (by decide)
  | 12, h => exact Or.inr (by decide)
  | 13, h => have h : some (Value.int 0) = some v := h; cases h; exact Or.inl rfl
  | 14, h => exact Or.inr (by decide)
  | 15, h => exact Or.inr (by decide)
  | 16, h => have h : some (Value.int 0) = some v := h; cases h; exact Or.inl rfl
  | 17, h => have h : some (Value.int 0) = some v := h; cases h; exact Or.inl rfl
  | 18, h => have h : some (Value.int 0) = some v := h; cases h; exact Or.inl rfl
  | 19, h => have h : some (Value.int 0) = some v := h; cases h; exact Or.inl rfl
  | 20, h => have h : some (Value.int 0) = some v := h; cases h; exact Or.inl rfl
  | 21, h => exact Or.inr (by decide)
  | 22, h => exact Or.inr (by decide)
  | 23, h => exact Or.inr (by decide)
  | 24, h => exact Or.inr (by decide)
  | n + 25, h => have h : (none : Option Value) = some v := h; cases h
theorem sd10 : ∀ j, j ∈ [0, 1, 4, 5, 6, 10, 11, 12, 14, 15, 21, 22, 23, 24] → j ∈ [24, 23, 22, 21, 15, 14, 12, 11, 10, 8, 6, 5, 4, 1, 0] := by decide
set_option maxHeartbeats 4000000 in
set_option maxRecDepth 100000 in
theorem c_X10_init (l : Launch) (D : va_G) (cy : Nat → ClassId) (τ : ty_T) (ρ : ty_R) {b : Nat} (hb : τ b = some (0, 10)) (hc : ∀ a x, τ a = some x → a ≠ b → x.1 < 10 ∧ x ≠ (0, 10)) (hρ : ∀ j v, ρ b j v → (dfs 10)[j]? = some v) : KC l D cy yX10_init cX10_init 1 1 14 13500 τ ρ b (RP τ ρ b) := by
  refine k_metC "EdgeEchoesModel" rfl rfl (by decide +kernel) (Nat.le_of_ble_eq_true rfl) ?_
  intro p e s m args below meth c Q ls A X hnm hNW hN0 hG hl ret
  have C : RS τ ρ b [] [] τ ρ := RS.start hb hc hρ
  refine lv_aload_n X.1 X.2.1 dX10_init_0 rfl (lv_at hl 0 rfl) ?_
  refine k_obj X q_875 q_26 q_27 hl.1 ⟨Nat.le_of_ble_eq_true rfl, Nat.le_of_ble_eq_true rfl⟩ dX10_init_1 ?_
  refine lv_aload_n X.1 X.2.1 dX10_init_4 rfl (lv_at hl 0 rfl) ?_
  refine n_sp X dX10_init_5 (by decide) (by decide) (fun x1 t1 => ?_)
  refine tg_newi X hG hN0 q_52 (N := 4261) 10 rfl (by omega) (by omega) (Nat.le_of_ble_eq_true rfl) (Nat.le_of_ble_eq_true rfl) dX10_init_8 (fun q2 H hq2 hG => ?_)
  have C := C.arr hq2 (u := (10, 4261)) (cnT_0 (fun j lo hi h => mm00 (n := 10) (fun z => absurd z.1 (by decide)) h) (fun _ => rfl)) ⟨by decide, by decide⟩ hb
  refine tg_putF X hnm hG (C.e1 _ _ hb) (C := RX10) (T := TX10) (N := 25) rfl inB_10 tyX10 tyX10_ok nmX10 0 (by decide) rfl q_876 rfl rfl rfl rfl rfl (ty_i2 tU_at) dX10_init_10 (rP _ b 0 (.ref q2)) rP_off rP_oth rP_new (fun H locs hG => ?_)
  have C := C.put hb (j := 0) (x := (.ref q2)) (cnT_r)
  obtain ⟨t, r, hG, C⟩ : ∃ t r, TG D cy t r A s.heap H locs ∧ RS τ ρ b [0] [10] t r := ⟨_, _, hG, C⟩
  refine lv_aload_n X.1 X.2.1 dX10_init_13 rfl (lv_at hl 0 rfl) ?_
  refine n_bp X dX10_init_14 (by decide) (by decide) (fun x3 t3 => ?_)
  refine tg_newi X hG hN0 q_52 (N := 72) 11 rfl (by omega) (by omega) (Nat.le_of_ble_eq_true rfl) (Nat.le_of_ble_eq_true rfl) dX10_init_16 (fun q4 H hq4 hG => ?_)
  have C := C.arr hq4 (u := (11, 72)) (cnT_0 (fun j lo hi h => mm00 (n := 11) (fun z => absurd z.1 (by decide)) h) (fun _ => rfl)) ⟨by decide, by decide⟩ hb
  refine tg_putF X hnm hG (C.e1 _ _ hb) (C := RX10) (T := TX10) (N := 25) rfl inB_10 tyX10 tyX10_ok nmX10 1 (by decide) rfl q_877 rfl rfl rfl rfl rfl (ty_i2 tU_at) dX10_init_18 (rP _ b 1 (.ref q4)) rP_off rP_oth rP_new (fun H locs hG => ?_)
  have C := C.put hb (j := 1) (x := (.ref q4)) (cnT_r)
  obtain ⟨t, r, hG, C⟩ : ∃ t r, TG D cy t r A s.heap H locs ∧ RS τ ρ b [1, 0] [11, 10] t r := ⟨_, _, hG, C⟩
  refine lv_aload_n X.1 X.2.1 dX10_init_21 rfl (lv_at hl 0 rfl) ?_
  refine n_ic X dX10_init_22 (by decide) (by decide) (fun x5 t5 => ?_)
  refine tg_newz X hG hN0 q_257 (N := 2) 14 rfl (by omega) (by omega) (Nat.le_of_ble_eq_true rfl) (Nat.le_of_ble_eq_true rfl) dX10_init_23 (fun q6 H hq6 hG => ?_)
  have C := C.arr hq6 (u := (14, 2)) (cnT_0 (fun j lo hi h => mm00 (n := 14) (fun z => absurd z.1 (by decide)) h) (fun _ => rfl)) ⟨by decide, by decide⟩ hb
  refine tg_putF X hnm hG (C.e1 _ _ hb) (C := RX10) (T := TX10) (N := 25) rfl inB_10 tyX10 tyX10_ok nmX10 4 (by decide) rfl q_880 rfl rfl rfl rfl rfl (ty_i2 tU_at) dX10_init_25 (rP _ b 4 (.ref q6)) rP_off rP_oth rP_new (fun H locs hG => ?_)
  have C := C.put hb (j := 4) (x := (.ref q6)) (cnT_r)
  obtain ⟨t, r, hG, C⟩ : ∃ t r, TG D cy t r A s.heap H locs ∧ RS τ ρ b [4, 1, 0] [14, 11, 10] t r := ⟨_, _, hG, C⟩
  refine lv_aload_n X.1 X.2.1 dX10_init_28 rfl (lv_at hl 0 rfl) ?_
  refine n_ic X dX10_init_29 (by decide) (by decide) (fun x7 t7 => ?_)
  refine tg_newi X hG hN0 q_52 (N := 2) 15 rfl (by omega) (by omega) (Nat.le_of_ble_eq_true rfl) (Nat.le_of_ble_eq_true rfl) dX10_init_30 (fun q8 H hq8 hG => ?_)
  have C := C.arr hq8 (u := (15, 2)) (cnT_0 (fun j lo hi h => mm00 (n := 15) (fun z => absurd z.1 (by decide)) h) (fun _ => rfl)) ⟨by decide, by decide⟩ hb
  refine tg_putF X hnm hG (C.e1 _ _ hb) (C := RX10) (T := TX10) (N := 25) rfl inB_10 tyX10 tyX10_ok nmX10 5 (by decide) rfl q_881 rfl rfl rfl rfl rfl (ty_i2 tU_at) dX10_init_32 (rP _ b 5 (.ref q8)) rP_off rP_oth rP_new (fun H locs hG => ?_)
  have C := C.put hb (j := 5) (x := (.ref q8)) (cnT_r)
  obtain ⟨t, r, hG, C⟩ : ∃ t r, TG D cy t r A s.heap H locs ∧ RS τ ρ b [5, 4, 1, 0] [15, 14, 11, 10] t r := ⟨_, _, hG, C⟩
  refine lv_aload_n X.1 X.2.1 dX10_init_35 rfl (lv_at hl 0 rfl) ?_
  refine n_sp X dX10_init_36 (by decide) (by decide) (fun x9 t9 => ?_)
  refine tg_newi X hG hN0 q_52 (N := 240) 16 rfl (by omega) (by omega) (Nat.le_of_ble_eq_true rfl) (Nat.le_of_ble_eq_true rfl) dX10_init_39 (fun q10 H hq10 hG => ?_)
  have C := C.arr hq10 (u := (16, 240)) (cnT_0 (fun j lo hi h => mm00 (n := 16) (fun z => absurd z.1 (by decide)) h) (fun _ => rfl)) ⟨by decide, by decide⟩ hb
  refine tg_putF X hnm hG (C.e1 _ _ hb) (C := RX10) (T := TX10) (N := 25) rfl inB_10 tyX10 tyX10_ok nmX10 6 (by decide) rfl q_882 rfl rfl rfl rfl rfl (ty_i2 tU_at) dX10_init_41 (rP _ b 6 (.ref q10)) rP_off rP_oth rP_new (fun H locs hG => ?_)
  have C := C.put hb (j := 6) (x := (.ref q10)) (cnT_r)
  obtain ⟨t, r, hG, C⟩ : ∃ t r, TG D cy t r A s.heap H locs ∧ RS τ ρ b [6, 5, 4, 1, 0] [16, 15, 14, 11, 10] t r := ⟨_, _, hG, C⟩
  refine lv_aload_n X.1 X.2.1 dX10_init_44 rfl (lv_at hl 0 rfl) ?_
  refine n_ic X dX10_init_45 (by decide) (by decide) (fun x11 t11 => ?_)
  refine tg_put X hG (C.e1 _ _ hb) (C := RX10) (T := TX10) (N := 25) rfl inB_10 tyX10 tyX10_ok nmX10 8 (by decide) rfl q_884 rfl rfl rfl rfl (ty_i0 x11) dX10_init_46 (rP _ b 8 (.int x11)) rP_off rP_oth rP_new (fun H locs hG => ?_)
  have C := C.put hb (j := 8) (x := (.int x11)) (cnT_8 (by omega))
  obtain ⟨t, r, hG, C⟩ : ∃ t r, TG D cy t r A s.heap H locs ∧ RS τ ρ b [8, 6, 5, 4, 1, 0] [16, 15, 14, 11, 10] t r := ⟨_, _, hG, C⟩
  refine lv_aload_n X.1 X.2.1 dX10_init_49 rfl (lv_at hl 0 rfl) ?_
  refine n_bp X dX10_init_50 (by decide) (by decide) (fun x12 t12 => ?_)
  refine tg_newi X hG hN0 q_52 (N := 6) 20 rfl (by omega) (by omega) (Nat.le_of_ble_eq_true rfl) (Nat.le_of_ble_eq_true rfl) dX10_init_52 (fun q13 H hq13 hG => ?_)
  have C := C.arr hq13 (u := (20, 6)) (cnT_0 (fun j lo hi h => mm00 (n := 20) (fun z => absurd z.1 (by decide)) h) (fun _ => rfl)) ⟨by decide, by decide⟩ hb
  refine tg_putF X hnm hG (C.e1 _ _ hb) (C := RX10) (T := TX10) (N := 25) rfl inB_10 tyX10 tyX10_ok nmX10 10 (by decide) rfl q_886 rfl rfl rfl rfl rfl (ty_i2 tU_at) dX10_init_54 (rP _ b 10 (.ref q13)) rP_off rP_oth rP_new (fun H locs hG => ?_)
  have C := C.put hb (j := 10) (x := (.ref q13)) (cnT_r)
  obtain ⟨t, r, hG, C⟩ : ∃ t r, TG D cy t r A s.heap H locs ∧ RS τ ρ b [10, 8, 6, 5, 4, 1, 0] [20, 16, 15, 14, 11, 10] t r := ⟨_, _, hG, C⟩
  refine lv_aload_n X.1 X.2.1 dX10_init_57 rfl (lv_at hl 0 rfl) ?_
  refine n_bp X dX10_init_58 (by decide) (by decide) (fun x14 t14 => ?_)
  refine tg_newi X hG hN0 q_52 (N := 6) 21 rfl (by omega) (by omega) (Nat.le_of_ble_eq_true rfl) (Nat.le_of_ble_eq_true rfl) dX10_init_60 (fun q15 H hq15 hG => ?_)
  have C := C.arr hq15 (u := (21, 6)) (cnT_0 (fun j lo hi h => mm00 (n := 21) (fun z => absurd z.1 (by decide)) h) (fun _ => rfl)) ⟨by decide, by decide⟩ hb
  refine tg_putF X hnm hG (C.e1 _ _ hb) (C := RX10) (T := TX10) (N := 25) rfl inB_10 tyX10 tyX10_ok nmX10 11 (by decide) rfl q_887 rfl rfl rfl rfl rfl (ty_i2 tU_at) dX10_init_62 (rP _ b 11 (.ref q15)) rP_off rP_oth rP_new (fun H locs hG => ?_)
  have C := C.put hb (j := 11) (x := (.ref q15)) (cnT_r)
  obtain ⟨t, r, hG, C⟩ : ∃ t r, TG D cy t r A s.heap H locs ∧ RS τ ρ b [11, 10, 8, 6, 5, 4, 1, 0] [21, 20, 16, 15, 14, 11, 10] t r := ⟨_, _, hG, C⟩
  refine lv_aload_n X.1 X.2.1 dX10_init_65 rfl (lv_at hl 0 rfl) ?_
  refine n_bp X dX10_init_66 (by decide) (by decide) (fun x16 t16 => ?_)
  refine tg_newz X hG hN0 q_257 (N := 6) 22 rfl (by omega) (by omega) (Nat.le_of_ble_eq_true rfl) (Nat.le_of_ble_eq_true rfl) dX10_init_68 (fun q17 H hq17 hG => ?_)
  have C := C.arr hq17 (u := (22, 6)) (cnT_0 (fun j lo hi h => mm00 (n := 22) (fun z => absurd z.1 (by decide)) h) (fun _ => rfl)) ⟨by decide, by decide⟩ hb
  refine tg_putF X hnm hG (C.e1 _ _ hb) (C := RX10) (T := TX10) (N := 25) rfl inB_10 tyX10 tyX10_ok nmX10 12 (by decide) rfl q_888 rfl rfl rfl rfl rfl (ty_i2 tU_at) dX10_init_70 (rP _ b 12 (.ref q17)) rP_off rP_oth rP_new (fun H locs hG => ?_)
  have C := C.put hb (j := 12) (x := (.ref q17)) (cnT_r)
  obtain ⟨t, r, hG, C⟩ : ∃ t r, TG D cy t r A s.heap H locs ∧ RS τ ρ b [12, 11, 10, 8, 6, 5, 4, 1, 0] [22, 21, 20, 16, 15, 14, 11, 10] t r := ⟨_, _, hG, C⟩
  refine lv_aload_n X.1 X.2.1 dX10_init_73 rfl (lv_at hl 0 rfl) ?_
  refine n_bp X dX10_init_74 (by decide) (by decide) (fun x18 t18 => ?_)
  refine tg_newi X hG hN0 q_52 (N := 20) 24 rfl (by omega) (by omega) (Nat.le_of_ble_eq_true rfl) (Nat.le_of_ble_eq_true rfl) dX10_init_76 (fun q19 H hq19 hG => ?_)
  have C := C.arr hq19 (u := (24, 20)) (cnT_0 (fun j lo hi h => mm00 (n := 24) (fun z => absurd z.1 (by decide)) h) (fun _ => rfl)) ⟨by decide, by decide⟩ hb
  refine tg_putF X hnm hG (C.e1 _ _ hb) (C := RX10) (T := TX10) (N := 25) rfl inB_10 tyX10 tyX10_ok nmX10 14 (by decide) rfl q_890 rfl rfl rfl rfl rfl (ty_i2 tU_at) dX10_init_78 (rP _ b 14 (.ref q19)) rP_off rP_oth rP_new (fun H locs hG => ?_)
  have C := C.put hb (j := 14) (x := (.ref q19)) (cnT_r)
  obtain ⟨t, r, hG, C⟩ : ∃ t r, TG D cy t r A s.heap H locs ∧ RS τ ρ b [14, 12, 11, 10, 8, 6, 5, 4, 1, 0] [24, 22, 21, 20, 16, 15, 14, 11, 10] t r := ⟨_, _, hG, C⟩
  refine lv_aload_n X.1 X.2.1 dX10_init_81 rfl (lv_at hl 0 rfl) ?_
  refine n_bp X dX10_init_82 (by decide) (by decide) (fun x20 t20 => ?_)
  refine tg_newi X hG hN0 q_52 (N := 20) 25 rfl (by omega) (by omega) (Nat.le_of_ble_eq_true rfl) (Nat.le_of_ble_eq_true rfl) dX10_init_84 (fun q21 H hq21 hG => ?_)
  have C := C.arr hq21 (u := (25, 20)) (cnT_0 (fun j lo hi h => mm00 (n := 25) (fun z => absurd z.1 (by decide)) h) (fun _ => rfl)) ⟨by decide, by decide⟩ hb
  refine tg_putF X hnm hG (C.e1 _ _ hb) (C := RX10) (T := TX10) (N := 25) rfl inB_10 tyX10 tyX10_ok nmX10 15 (by decide) rfl q_891 rfl rfl rfl rfl rfl (ty_i2 tU_at) dX10_init_86 (rP _ b 15 (.ref q21)) rP_off rP_oth rP_new (fun H locs hG => ?_)
  have C := C.put hb (j := 15) (x := (.ref q21)) (cnT_r)
  obtain ⟨t, r, hG, C⟩ : ∃ t r, TG D cy t r A s.heap H locs ∧ RS τ ρ b [15, 14, 12, 11, 10, 8, 6, 5, 4, 1, 0] [25, 24, 22, 21, 20, 16, 15, 14, 11, 10] t r := ⟨_, _, hG, C⟩
  refine lv_aload_n X.1 X.2.1 dX10_init_89 rfl (lv_at hl 0 rfl) ?_
  refine n_bp X dX10_init_90 (by decide) (by decide) (fun x22 t22 => ?_)
  refine tg_newi X hG hN0 q_52 (N := 72) 31 rfl (by omega) (by omega) (Nat.le_of_ble_eq_true rfl) (Nat.le_of_ble_eq_true rfl) dX10_init_92 (fun q23 H hq23 hG => ?_)
  have C := C.arr hq23 (u := (31, 72)) (cnT_0 (fun j lo hi h => mm00 (n := 31) (fun z => absurd z.1 (by decide)) h) (fun _ => rfl)) ⟨by decide, by decide⟩ hb
  refine tg_putF X hnm hG (C.e1 _ _ hb) (C := RX10) (T := TX10) (N := 25) rfl inB_10 tyX10 tyX10_ok nmX10 21 (by decide) rfl q_897 rfl rfl rfl rfl rfl (ty_i2 tU_at) dX10_init_94 (rP _ b 21 (.ref q23)) rP_off rP_oth rP_new (fun H locs hG => ?_)
  have C := C.put hb (j := 21) (x := (.ref q23)) (cnT_r)
  obtain ⟨t, r, hG, C⟩ : ∃ t r, TG D cy t r A s.heap H locs ∧ RS τ ρ b [21, 15, 14, 12, 11, 10, 8, 6, 5, 4, 1, 0] [31, 25, 24, 22, 21, 20, 16, 15, 14, 11, 10] t r := ⟨_, _, hG, C⟩
  refine lv_aload_n X.1 X.2.1 dX10_init_97 rfl (lv_at hl 0 rfl) ?_
  refine n_bp X dX10_init_98 (by decide) (by decide) (fun x24 t24 => ?_)
  refine tg_newi X hG hN0 q_52 (N := 72) 32 rfl (by omega) (by omega) (Nat.le_of_ble_eq_true rfl) (Nat.le_of_ble_eq_true rfl) dX10_init_100 (fun q25 H hq25 hG => ?_)
  have C := C.arr hq25 (u := (32, 72)) (cnT_0 (fun j lo hi h => mm00 (n := 32) (fun z => absurd z.1 (by decide)) h) (fun _ => rfl)) ⟨by decide, by decide⟩ hb
  refine tg_putF X hnm hG (C.e1 _ _ hb) (C := RX10) (T := TX10) (N := 25) rfl inB_10 tyX10 tyX10_ok nmX10 22 (by decide) rfl q_898 rfl rfl rfl rfl rfl (ty_i2 tU_at) dX10_init_102 (rP _ b 22 (.ref q25)) rP_off rP_oth rP_new (fun H locs hG => ?_)
  have C := C.put hb (j := 22) (x := (.ref q25)) (cnT_r)
  obtain ⟨t, r, hG, C⟩ : ∃ t r, TG D cy t r A s.heap H locs ∧ RS τ ρ b [22, 21, 15, 14, 12, 11, 10, 8, 6, 5, 4, 1, 0] [32, 31, 25, 24, 22, 21, 20, 16, 15, 14, 11, 10] t r := ⟨_, _, hG, C⟩
  refine lv_aload_n X.1 X.2.1 dX10_init_105 rfl (lv_at hl 0 rfl) ?_
  refine n_sp X dX10_init_106 (by decide) (by decide) (fun x26 t26 => ?_)
  refine tg_newi X hG hN0 q_52 (N := 201) 33 rfl (by omega) (by omega) (Nat.le_of_ble_eq_true rfl) (Nat.le_of_ble_eq_true rfl) dX10_init_109 (fun q27 H hq27 hG => ?_)
  have C := C.arr hq27 (u := (33, 201)) (cnT_0 (fun j lo hi h => mm00 (n := 33) (fun z => absurd z.1 (by decide)) h) (fun _ => rfl)) ⟨by decide, by decide⟩ hb
  refine tg_putF X hnm hG (C.e1 _ _ hb) (C := RX10) (T := TX10) (N := 25) rfl inB_10 tyX10 tyX10_ok nmX10 23 (by decide) rfl q_899 rfl rfl rfl rfl rfl (ty_i2 tU_at) dX10_init_111 (rP _ b 23 (.ref q27)) rP_off rP_oth rP_new (fun H locs hG => ?_)
  have C := C.put hb (j := 23) (x := (.ref q27)) (cnT_r)
  obtain ⟨t, r, hG, C⟩ : ∃ t r, TG D cy t r A s.heap H locs ∧ RS τ ρ b [23, 22, 21, 15, 14, 12, 11, 10, 8, 6, 5, 4, 1, 0] [33, 32, 31, 25, 24, 22, 21, 20, 16, 15, 14, 11, 10] t r := ⟨_, _, hG, C⟩
  refine lv_aload_n X.1 X.2.1 dX10_init_114 rfl (lv_at hl 0 rfl) ?_
  refine n_sp X dX10_init_115 (by decide) (by decide) (fun x28 t28 => ?_)
  refine tg_newi X hG hN0 q_52 (N := 8520) 34 rfl (by omega) (by omega) (Nat.le_of_ble_eq_true rfl) (Nat.le_of_ble_eq_true rfl) dX10_init_118 (fun q29 H hq29 hG => ?_)
  have C := C.arr hq29 (u := (34, 8520)) (cnT_0 (fun j lo hi h => mm00 (n := 34) (fun z => absurd z.1 (by decide)) h) (fun _ => rfl)) ⟨by decide, by decide⟩ hb
  refine tg_putF X hnm hG (C.e1 _ _ hb) (C := RX10) (T := TX10) (N := 25) rfl inB_10 tyX10 tyX10_ok nmX10 24 (by decide) rfl q_900 rfl rfl rfl rfl rfl (ty_i2 tU_at) dX10_init_120 (rP _ b 24 (.ref q29)) rP_off rP_oth rP_new (fun H locs hG => ?_)
  have C := C.put hb (j := 24) (x := (.ref q29)) (cnT_r)
  obtain ⟨t, r, hG, C⟩ : ∃ t r, TG D cy t r A s.heap H locs ∧ RS τ ρ b [24, 23, 22, 21, 15, 14, 12, 11, 10, 8, 6, 5, 4, 1, 0] [34, 33, 32, 31, 25, 24, 22, 21, 20, 16, 15, 14, 11, 10] t r := ⟨_, _, hG, C⟩
  exact ret _ _ _ _ (_, _) hG (C.done hb (fun j v h1 h => (df10 j v h).elim (fun z => by subst z; exact cnT_i (fun lo hi h => mm00 (n := 0) (fun z => h1 (by rw [z.2]; decide)) h)) (fun z => absurd (sd10 j z) h1))) dX10_init_123
