/-! the class's constructor: its two images differ -/
def DD (b : Nat) (r : ty_R) : Prop := ∀ im i0 i1, r b 6 (.ref im) → r im 0 (.ref i0) → r im 1 (.ref i1) → i0 ≠ i1
def DI (q i : Nat) (t : ty_T) (r : ty_R) : Prop := (1 ≤ i → ∃ e0, t e0 ≠ none ∧ ∀ v, r q 0 v → v = .ref e0) ∧ (2 ≤ i → ∀ v w, r q 0 (.ref v) → r q 1 (.ref w) → v ≠ w)
theorem DI.step {q i e1 : Nat} {t t2 : ty_T} {r r2 : ty_R} {y : ty_C} (h : DI q i t r) (hi : i < 2) (he : t e1 = none) (hk : t2 e1 = some y) (ht : ∀ a y, t a = some y → t2 a = some y) (hr : ∀ j v, r2 q j v → r q j v) : DI q (i + 1) t2 (rQ r2 q i e1) := by
  have at0 : ∀ j v, j = i → rQ r2 q i e1 q j v → v = .ref e1 := fun j v e z => by unfold rQ at z; rw [if_pos ⟨rfl, e⟩] at z; exact z
  have ne0 : ∀ j v, j ≠ i → rQ r2 q i e1 q j v → r q j v := fun j v e z => by unfold rQ at z; rw [if_neg (fun w => e w.2)] at z; exact hr j v z
  by_cases e : i = 0
  · refine ⟨fun _ => ⟨e1, (fun z => by rw [hk] at z; cases z), fun v z => at0 0 v e.symm z⟩, fun z => absurd z (by omega)⟩
  · obtain ⟨e0, n0, u0⟩ := h.1 (by omega)
    refine ⟨fun _ => ⟨e0, (fun z => ?_), fun v z => u0 v (ne0 0 v (Ne.symm e) z)⟩, fun _ v w z1 z2 => ?_⟩
    · cases q0 : t e0 with
      | none => exact n0 q0
      | some y0 => rw [ht e0 y0 q0] at z; cases z
    · have a1 := u0 _ (ne0 0 _ (Ne.symm e) z1)
      have a2 := at0 1 _ (by omega) z2
      cases a1
      cases a2
      exact fun z => n0 (by rw [z]; exact he)
set_option maxHeartbeats 4000000 in
set_option maxRecDepth 100000 in
theorem d_X9_init (l : Launch) (D : va_G) (cy : Nat → ClassId) (τ : ty_T) (ρ : ty_R) {M : md_T} {b : Nat} (hb : τ b = some (0, 9)) (hρ : ∀ j v, ρ b j v → (dfs 9)[j]? = some v) : KC l D cy yX9_init cX9_init 2 4 258 6367 τ ρ b (fun u => CP M τ ρ b u ∧ DD b u.2) := by
  refine k_metC "EdgeEchoes" rfl rfl (by decide +kernel) (Nat.le_of_ble_eq_true rfl) ?_
  intro p e s m args below meth c Q ls A X hnm hNW hN0 hG hl ret
  have C : CS M (fun _ _ => False) τ ρ b (dfs 9) τ ρ := CS.start hρ
  refine lv_aload_n X.1 X.2.1 dX9_init_0 rfl (lv_at hl 0 rfl) ?_
  refine k_obj X q_25 q_26 q_27 hl.1 ⟨Nat.le_of_ble_eq_true rfl, Nat.le_of_ble_eq_true rfl⟩ dX9_init_1 ?_
  refine lv_aload_n X.1 X.2.1 dX9_init_4 rfl (lv_at hl 0 rfl) ?_
  refine tg_newo X hG hN0 6 (C := RX6) (T := TX6) (N := 5) rfl inB_6 tyX6 tyX6_ok (by decide) dfo_6 q_28 q_29 q_2 (Nat.le_of_ble_eq_true rfl) (Nat.le_of_ble_eq_true rfl) dX9_init_5 (fun q1 H hq1 hG => ?_)
  refine lv_dup X.1 X.2.1 dX9_init_8 rfl ?_
  refine k_cN X hNW hG hN0 (c_X6_init l D cy _ _ (M := M) tU_at (fun j v h => by rw [rU_at] at h; exact h)) yc_X6 (List.mem_of_getElem? (i := 0) rfl) ⟨Nat.le_of_ble_eq_true rfl, Nat.le_of_ble_eq_true rfl⟩ hl.1 (Nat.le_of_ble_eq_true rfl) ⟨Nat.le_of_ble_eq_true rfl, Nat.le_of_ble_eq_true rfl⟩ dX9_init_9 (fun u1 H locs hG hu1 => ?_)
  have hk1 := hu1.1 q1 _ tU_at
  have C := C.sub hb hq1 (by decide) hu1
  refine tg_putF X hnm hG (C.e1 _ _ hb) (C := RX9) (T := TX9) (N := 9) rfl inB_9 tyX9 tyX9_ok nmX9 0 (by decide) rfl q_295 rfl rfl rfl rfl rfl (ty_i2 hk1) dX9_init_12 (rU _ b (fun i v => (((dfs 9)).set 0 (.ref q1))[i]? = some v)) CS.off C.oth (CS.new (Nat.le_of_ble_eq_true rfl)) (fun H locs hG => ?_)
  have C := C.put hb (j := 0) (x := (.ref q1))
  refine lv_aload_n X.1 X.2.1 dX9_init_15 rfl (lv_at hl 0 rfl) ?_
  refine tg_newo X hG hN0 3 (C := RX3) (T := TX3) (N := 4) rfl inB_3 tyX3 tyX3_ok (by decide) dfo_3 q_53 q_54 q_3 (Nat.le_of_ble_eq_true rfl) (Nat.le_of_ble_eq_true rfl) dX9_init_16 (fun q2 H hq2 hG => ?_)
  refine lv_dup X.1 X.2.1 dX9_init_19 rfl ?_
  refine k_cN X hNW hG hN0 (c_X3_init l D cy _ _ (M := M) tU_at (fun j v h => by rw [rU_at] at h; exact h)) yc_X3 (List.mem_of_getElem? (i := 1) rfl) ⟨Nat.le_of_ble_eq_true rfl, Nat.le_of_ble_eq_true rfl⟩ hl.1 (Nat.le_of_ble_eq_true rfl) ⟨Nat.le_of_ble_eq_true rfl, Nat.le_of_ble_eq_true rfl⟩ dX9_init_20 (fun u2 H locs hG hu2 => ?_)
  have hk2 := hu2.1 q2 _ tU_at
  have C := C.sub hb hq2 (by decide) hu2
  refine tg_putF X hnm hG (C.e1 _ _ hb) (C := RX9) (T := TX9) (N := 9) rfl inB_9 tyX9 tyX9_ok nmX9 1 (by decide) rfl q_296 rfl rfl rfl rfl rfl (ty_i2 hk2) dX9_init_23 (rU _ b (fun i v => ((((dfs 9)).set 0 (.ref q1)).set 1 (.ref q2))[i]? = some v)) CS.off C.oth (CS.new (Nat.le_of_ble_eq_true rfl)) (fun H locs hG => ?_)
  have C := C.put hb (j := 1) (x := (.ref q2))
  refine lv_aload_n X.1 X.2.1 dX9_init_26 rfl (lv_at hl 0 rfl) ?_
  refine tg_newo X hG hN0 7 (C := RX7) (T := TX7) (N := 2) rfl inB_7 tyX7 tyX7_ok (by decide) dfo_7 q_185 q_186 q_6 (Nat.le_of_ble_eq_true rfl) (Nat.le_of_ble_eq_true rfl) dX9_init_27 (fun q3 H hq3 hG => ?_)
  refine lv_dup X.1 X.2.1 dX9_init_30 rfl ?_
  refine k_cN X hNW hG hN0 (c_X7_init l D cy _ _ (M := M) tU_at (fun j v h => by rw [rU_at] at h; exact h)) yc_X7 (List.mem_of_getElem? (i := 4) rfl) ⟨Nat.le_of_ble_eq_true rfl, Nat.le_of_ble_eq_true rfl⟩ hl.1 (Nat.le_of_ble_eq_true rfl) ⟨Nat.le_of_ble_eq_true rfl, Nat.le_of_ble_eq_true rfl⟩ dX9_init_31 (fun u3 H locs hG hu3 => ?_)
  have hk3 := hu3.1 q3 _ tU_at
  have C := C.sub hb hq3 (by decide) hu3
  refine tg_putF X hnm hG (C.e1 _ _ hb) (C := RX9) (T := TX9) (N := 9) rfl inB_9 tyX9 tyX9_ok nmX9 2 (by decide) rfl q_297 rfl rfl rfl rfl rfl (ty_i2 hk3) dX9_init_34 (rU _ b (fun i v => (((((dfs 9)).set 0 (.ref q1)).set 1 (.ref q2)).set 2 (.ref q3))[i]? = some v)) CS.off C.oth (CS.new (Nat.le_of_ble_eq_true rfl)) (fun H locs hG => ?_)
  have C := C.put hb (j := 2) (x := (.ref q3))
  refine lv_aload_n X.1 X.2.1 dX9_init_37 rfl (lv_at hl 0 rfl) ?_
  refine tg_newo X hG hN0 4 (C := RX4) (T := TX4) (N := 3) rfl inB_4 tyX4 tyX4_ok (by decide) dfo_4 q_202 q_203 q_7 (Nat.le_of_ble_eq_true rfl) (Nat.le_of_ble_eq_true rfl) dX9_init_38 (fun q4 H hq4 hG => ?_)
  refine lv_dup X.1 X.2.1 dX9_init_41 rfl ?_
  refine k_cO X hNW hG hN0 (c_X4_init l D cy _ _ (M := M) tU_at (fun j v h => by rw [rU_at] at h; exact h)) yc_X4 q_204 ⟨Nat.le_of_ble_eq_true rfl, Nat.le_of_ble_eq_true rfl⟩ hl.1 (Nat.le_of_ble_eq_true rfl) ⟨Nat.le_of_ble_eq_true rfl, Nat.le_of_ble_eq_true rfl⟩ dX9_init_42 (fun u4 H locs hG hu4 => ?_)
  have hk4 := hu4.1 q4 _ tU_at
  have C := C.sub hb hq4 (by decide) hu4
  refine tg_putF X hnm hG (C.e1 _ _ hb) (C := RX9) (T := TX9) (N := 9) rfl inB_9 tyX9 tyX9_ok nmX9 3 (by decide) rfl q_298 rfl rfl rfl rfl rfl (ty_i2 hk4) dX9_init_45 (rU _ b (fun i v => ((((((dfs 9)).set 0 (.ref q1)).set 1 (.ref q2)).set 2 (.ref q3)).set 3 (.ref q4))[i]? = some v)) CS.off C.oth (CS.new (Nat.le_of_ble_eq_true rfl)) (fun H locs hG => ?_)
  have C := C.put hb (j := 3) (x := (.ref q4))
  refine lv_aload_n X.1 X.2.1 dX9_init_48 rfl (lv_at hl 0 rfl) ?_
  refine tg_newo X hG hN0 5 (C := RX5) (T := TX5) (N := 8) rfl inB_5 tyX5 tyX5_ok (by decide) dfo_5 q_222 q_223 q_8 (Nat.le_of_ble_eq_true rfl) (Nat.le_of_ble_eq_true rfl) dX9_init_49 (fun q5 H hq5 hG => ?_)
  refine lv_dup X.1 X.2.1 dX9_init_52 rfl ?_
  refine k_cN X hNW hG hN0 (c_X5_init l D cy _ _ (M := M) tU_at (fun j v h => by rw [rU_at] at h; exact h)) yc_X5 (List.mem_of_getElem? (i := 7) rfl) ⟨Nat.le_of_ble_eq_true rfl, Nat.le_of_ble_eq_true rfl⟩ hl.1 (Nat.le_of_ble_eq_true rfl) ⟨Nat.le_of_ble_eq_true rfl, Nat.le_of_ble_eq_true rfl⟩ dX9_init_53 (fun u5 H locs hG hu5 => ?_)
  have hk5 := hu5.1 q5 _ tU_at
  have C := C.sub hb hq5 (by decide) hu5
  refine tg_putF X hnm hG (C.e1 _ _ hb) (C := RX9) (T := TX9) (N := 9) rfl inB_9 tyX9 tyX9_ok nmX9 4 (by decide) rfl q_299 rfl rfl rfl rfl rfl (ty_i2 hk5) dX9_init_56 (rU _ b (fun i v => (((((((dfs 9)).set 0 (.ref q1)).set 1 (.ref q2)).set 2 (.ref q3)).set 3 (.ref q4)).set 4 (.ref q5))[i]? = some v)) CS.off C.oth (CS.new (Nat.le_of_ble_eq_true rfl)) (fun H locs hG => ?_)
  have C := C.put hb (j := 4) (x := (.ref q5))
  refine lv_aload_n X.1 X.2.1 dX9_init_59 rfl (lv_at hl 0 rfl) ?_
  refine tg_newo X hG hN0 0 (C := RX0) (T := TX0) (N := 3) rfl inB_0 tyX0 tyX0_ok (by decide) dfo_0 q_258 q_259 q_9 (Nat.le_of_ble_eq_true rfl) (Nat.le_of_ble_eq_true rfl) dX9_init_60 (fun q6 H hq6 hG => ?_)
  refine lv_dup X.1 X.2.1 dX9_init_63 rfl ?_
  refine k_cN X hNW hG hN0 (c_X0_init l D cy _ _ (M := M) tU_at (fun j v h => by rw [rU_at] at h; exact h)) yc_X0 (List.mem_of_getElem? (i := 8) rfl) ⟨Nat.le_of_ble_eq_true rfl, Nat.le_of_ble_eq_true rfl⟩ hl.1 (Nat.le_of_ble_eq_true rfl) ⟨Nat.le_of_ble_eq_true rfl, Nat.le_of_ble_eq_true rfl⟩ dX9_init_64 (fun u6 H locs hG hu6 => ?_)
  have hk6 := hu6.1 q6 _ tU_at
  have C := C.sub hb hq6 (by decide) hu6
  refine tg_putF X hnm hG (C.e1 _ _ hb) (C := RX9) (T := TX9) (N := 9) rfl inB_9 tyX9 tyX9_ok nmX9 5 (by decide) rfl q_300 rfl rfl rfl rfl rfl (ty_i2 hk6) dX9_init_67 (rU _ b (fun i v => ((((((((dfs 9)).set 0 (.ref q1)).set 1 (.ref q2)).set 2 (.ref q3)).set 3 (.ref q4)).set 4 (.ref q5)).set 5 (.ref q6))[i]? = some v)) CS.off C.oth (CS.new (Nat.le_of_ble_eq_true rfl)) (fun H locs hG => ?_)
  have C := C.put hb (j := 5) (x := (.ref q6))
  refine lv_aload_n X.1 X.2.1 dX9_init_70 rfl (lv_at hl 0 rfl) ?_
  refine n_ic X dX9_init_71 (by decide) (by decide) (fun x7 t7 => ?_)
  refine tg_newr X hG hN0 4 (Or.inr ⟨rfl, rfl⟩) q_275 hNW.2.2 (N := 2) (by omega) (by omega) (Nat.le_of_ble_eq_true rfl) (Nat.le_of_ble_eq_true rfl) dX9_init_72 (fun q8 H hq8 hG => ?_)
  have hz := C.fresh hq8
  have hqb : q8 ≠ b := fun z => by rw [z, hb] at hz; cases hz
  have C := (C.weak (X2 := fun a j => a = q8 ∧ 0 ≤ j) (fun _ _ h => h.elim)).arr hb hq8 (u := (4, 2)) (P := fun j v => j < 2 ∧ v = .null) (fun j v h => Or.inr ⟨rfl, Nat.zero_le _⟩) ⟨by decide, by decide, by decide⟩
  refine tg_putF X hnm hG (C.e1 _ _ hb) (C := RX9) (T := TX9) (N := 9) rfl inB_9 tyX9 tyX9_ok nmX9 6 (by decide) rfl q_301 rfl rfl rfl rfl rfl (ty_i2 tU_at) dX9_init_75 (rU _ b (fun i v => (((((((((dfs 9)).set 0 (.ref q1)).set 1 (.ref q2)).set 2 (.ref q3)).set 3 (.ref q4)).set 4 (.ref q5)).set 5 (.ref q6)).set 6 (.ref q8))[i]? = some v)) CS.off C.oth (CS.new (Nat.le_of_ble_eq_true rfl)) (fun H locs hG => ?_)
  have C := C.put hb (j := 6) (x := (.ref q8))
  refine lv_aload_n X.1 X.2.1 dX9_init_78 rfl (lv_at hl 0 rfl) ?_
  refine n_ic X dX9_init_79 (by decide) (by decide) (fun x9 t9 => ?_)
  refine tg_put X hG (C.e1 _ _ hb) (C := RX9) (T := TX9) (N := 9) rfl inB_9 tyX9 tyX9_ok nmX9 7 (by decide) rfl q_302 rfl rfl rfl rfl (ty_i0 x9) dX9_init_80 (rU _ b (fun i v => ((((((((((dfs 9)).set 0 (.ref q1)).set 1 (.ref q2)).set 2 (.ref q3)).set 3 (.ref q4)).set 4 (.ref q5)).set 5 (.ref q6)).set 6 (.ref q8)).set 7 (.int x9))[i]? = some v)) CS.off C.oth (CS.new (Nat.le_of_ble_eq_true rfl)) (fun H locs hG => ?_)
  have C := C.put hb (j := 7) (x := (.int x9))
  refine lv_aload_n X.1 X.2.1 dX9_init_83 rfl (lv_at hl 0 rfl) ?_
  refine n_ic X dX9_init_84 (by decide) (by decide) (fun x10 t10 => ?_)
  refine tg_put X hG (C.e1 _ _ hb) (C := RX9) (T := TX9) (N := 9) rfl inB_9 tyX9 tyX9_ok nmX9 8 (by decide) rfl q_303 rfl rfl rfl rfl (ty_i0 x10) dX9_init_85 (rU _ b (fun i v => (((((((((((dfs 9)).set 0 (.ref q1)).set 1 (.ref q2)).set 2 (.ref q3)).set 3 (.ref q4)).set 4 (.ref q5)).set 5 (.ref q6)).set 6 (.ref q8)).set 7 (.int x9)).set 8 (.int x10))[i]? = some v)) CS.off C.oth (CS.new (Nat.le_of_ble_eq_true rfl)) (fun H locs hG => ?_)
  have C := C.put hb (j := 8) (x := (.int x10))
  refine n_ic X dX9_init_88 (by decide) (by decide) (fun x11 t11 => ?_)
  refine lv_istore_n (lv' := [(1, .int x11), (0, .ref b)]) X.1 X.2.1 dX9_init_89 rfl hl (by decide) rfl (fun ls hl => ?_)
  have J : ∀ (n i : Nat) (t : ty_T) (r : ty_R) (H : Heap) (locs : List Loc) (ls : Array Slot) (x : Int32), x.toInt = (i : Int) → i ≤ 2 → 2 - i < n → TG D cy t r A s.heap H locs → CS M (fun a j => a = q8 ∧ i ≤ j) τ ρ b (((((((((((dfs 9)).set 0 (.ref q1)).set 1 (.ref q2)).set 2 (.ref q3)).set 3 (.ref q4)).set 4 (.ref q5)).set 5 (.ref q6)).set 6 (.ref q8)).set 7 (.int x9)).set 8 (.int x10)) t r → t q8 = some (4, 2) → (∀ j v, r q8 j v → j < 2) → DI q8 i t r → lv_has ls 2 [(0, .ref b), (1, .int x)] → W p l e (rC 4 258 6367) s m args below meth c H locs (226 + 16 * i) (5633 + 367 * i) Q (F0 m 90 ls []) := by
    intro n
    induction n with
    | zero => intro i t r H locs ls x ex hi hm hG C ht hr hd hl; exact absurd hm (Nat.not_lt_zero _)
    | succ n ih =>
      intro i t r H locs ls x ex hi hm hG C ht hr hd hl
      refine lv_iload_n X.1 X.2.1 dX9_init_90 rfl (lv_at hl 1 rfl) ?_
      refine n_ic X dX9_init_91 (by decide) (by decide) (fun y1 s1 => ?_)
      refine n_icmp_ge (tgt := 114) X dX9_init_92 (by decide) (fun c1 => ?_) (fun c1 => ?_)
      · have hi2 : i = 2 := by omega
        subst hi2
        refine ret _ _ _ _ (_, _) hG ⟨C.done hb (fun a j v h h2 => by obtain ⟨rfl, h⟩ := h; exact absurd (hr j v h2) (by omega)) (fun j v h => ?_), fun im i0 i1 h6 h0 h1 => by have z : some (Value.ref q8) = some (Value.ref im) := C.e5 6 _ h6; cases z; exact hd.2 (Nat.le_refl _) i0 i1 h0 h1⟩ dX9_init_114
        match j, h with
        | 0, h => have h : some (Value.ref q1) = some v := h; cases h; exact cnT_r
        | 1, h => have h : some (Value.ref q2) = some v := h; cases h; exact cnT_r
        | 2, h => have h : some (Value.ref q3) = some v := h; cases h; exact cnT_r
        | 3, h => have h : some (Value.ref q4) = some v := h; cases h; exact cnT_r
        | 4, h => have h : some (Value.ref q5) = some v := h; cases h; exact cnT_r
        | 5, h => have h : some (Value.ref q6) = some v := h; cases h; exact cnT_r
        | 6, h => have h : some (Value.ref q8) = some v := h; cases h; exact cnT_r
        | 7, h => have h : some (Value.int x9) = some v := h; cases h; exact cnT_no rfl (Or.inr (cI_inj (by rw [t9]; rfl)))
        | 8, h => have h : some (Value.int x10) = some v := h; cases h; exact cnT_no rfl (Or.inr (cI_inj (by rw [t10]; rfl)))
        | n + 9, h => have h : (none : Option Value) = some v := h; cases h
      · refine lv_aload_n X.1 X.2.1 dX9_init_95 rfl (lv_at hl 0 rfl) ?_
        refine gf_9_6 X hG (C.e1 _ _ hb) q_301 dX9_init_96 (fun h => by have z : some (Value.ref q8) = some Value.null := C.e5 6 _ h; cases z) (fun a1 h1 r1 => ?_)
        have z : some (Value.ref q8) = some (Value.ref a1) := C.e5 6 _ r1
        cases z
        refine lv_iload_n X.1 X.2.1 dX9_init_99 rfl (lv_at hl 1 rfl) ?_
        refine tg_newo X hG hN0 2 (C := RX2) (T := TX2) (N := 3) rfl inB_2 tyX2 tyX2_ok (by decide) dfo_2 q_275 q_277 q_10 (by show _ ≤ 258; omega) (by show _ ≤ 6367; omega) dX9_init_100 (fun e1 H he1 hG => ?_)
        refine lv_dup X.1 X.2.1 dX9_init_103 rfl ?_
        refine k_cN X hNW hG hN0 (c_X2_init l D cy _ _ (M := M) tU_at (fun j v h => by rw [rU_at] at h; exact h)) yc_X2 (List.mem_of_getElem? (i := 9) rfl) ⟨Nat.le_of_ble_eq_true rfl, Nat.le_of_ble_eq_true rfl⟩ hl.1 (Nat.le_of_ble_eq_true rfl) ⟨by show _ ≤ 258; omega, by show _ ≤ 6367; omega⟩ dX9_init_104 (fun u1 H locs hG hu1 => ?_)
        have hk1 := hu1.1 e1 _ tU_at
        have C2 := C.sub hb he1 (by decide) hu1
        have hae : q8 ≠ e1 := fun z => by rw [z, he1] at ht; cases ht
        have ht2 := hu1.1 q8 _ (tU_ext he1 q8 _ ht)
        have hr2 : ∀ j v, u1.2 q8 j v → j < 2 := fun j v h => hr j v (by have z := hu1.2.1 q8 j v (by rw [tU_ne hae, ht]; intro z; cases z) hae h; rw [rU_ne hae] at z; exact z)
        have ix : x.toNatClampNeg = i := by have := cI_clamp (x := x) (by omega); omega
        refine tg_aast X hG (Or.inr rfl) ht2 hk1 (cI_in (n := 2) (by omega)) dX9_init_107 (rQ u1.2 q8 i e1) rQ_off (by rw [ix]; exact rQ_oth) (by rw [ix]; exact rQ_new) (fun H locs hG => ?_)
        refine n_inc X (fun z => [(1, .int z), (0, .ref b)]) dX9_init_108 hl (k := 1) rfl (by decide) (by decide) (by omega) (by omega) (by decide) (fun _ => rfl) (fun y2 ls s2 hl => ?_)
        have hl : lv_has ls 2 [(1, .int y2), (0, .ref b)] := hl
        refine lv_goto (tgt := 90) X.1 X.2.1 dX9_init_111 (by decide) ?_
        rw [show 226 + 16 * i + 1 + 15 = 226 + 16 * (i + 1) by omega, show 5633 + 367 * i + 3 + 364 = 5633 + 367 * (i + 1) by omega]
        exact ih (i + 1) _ _ _ _ _ y2 (by omega) (by omega) (by omega) hG (C2.lay hb hz ht2) ht2 (fun j v h => (rQ_in h).elim (fun z => by omega) (hr2 j v)) (DI.step hd (by omega) he1 hk1 (fun a y h => hu1.1 a y (tU_ext he1 a y h)) (fun j v h => by have z := hu1.2.1 q8 j v (by rw [tU_ne hae, ht]; intro z; cases z) hae h; rw [rU_ne hae] at z; exact z)) (lv_sub hl [1, 0] rfl)
  exact J 3 0 _ _ _ _ _ x11 (by omega) (by omega) (by omega) hG C tU_at (fun j v h => by rw [rU_ne hqb, rU_ne hqb, rU_ne hqb, rU_at] at h; exact h.1) ⟨fun z => by omega, fun z => by omega⟩ (lv_sub hl [1, 0] rfl)
