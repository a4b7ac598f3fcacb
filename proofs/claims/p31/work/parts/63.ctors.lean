theorem yc_X0 : yC yX0_init cX0_init 1 := ⟨q_261, q_9, q_262, rfl, by decide, by decide, by decide +kernel⟩
theorem dfo_0 : ∀ j, j < 3 → defaultValue (tyX0 j) = vp_V (dfs 0) j := fun j hj => match j, hj with
  | 0, _ => rfl
  | 1, _ => rfl
  | 2, _ => rfl
  | n + 3, h => absurd h (by omega)
theorem yc_X1 : yC yX1_init cX1_init 1 := ⟨q_128, q_5, q_129, rfl, by decide, by decide, by decide +kernel⟩
theorem dfo_1 : ∀ j, j < 7 → defaultValue (tyX1 j) = vp_V (dfs 1) j := fun j hj => match j, hj with
  | 0, _ => rfl
  | 1, _ => rfl
  | 2, _ => rfl
  | 3, _ => rfl
  | 4, _ => rfl
  | 5, _ => rfl
  | 6, _ => rfl
  | n + 7, h => absurd h (by omega)
theorem yc_X2 : yC yX2_init cX2_init 1 := ⟨q_279, q_10, q_280, rfl, by decide, by decide, by decide +kernel⟩
theorem dfo_2 : ∀ j, j < 3 → defaultValue (tyX2 j) = vp_V (dfs 2) j := fun j hj => match j, hj with
  | 0, _ => rfl
  | 1, _ => rfl
  | 2, _ => rfl
  | n + 3, h => absurd h (by omega)
theorem yc_X3 : yC yX3_init cX3_init 1 := ⟨q_56, q_3, q_57, rfl, by decide, by decide, by decide +kernel⟩
theorem dfo_3 : ∀ j, j < 4 → defaultValue (tyX3 j) = vp_V (dfs 3) j := fun j hj => match j, hj with
  | 0, _ => rfl
  | 1, _ => rfl
  | 2, _ => rfl
  | 3, _ => rfl
  | n + 4, h => absurd h (by omega)
theorem yc_X4 : yC yX4_init cX4_init 2 := ⟨q_205, q_7, q_206, rfl, by decide, by decide, by decide +kernel⟩
theorem dfo_4 : ∀ j, j < 3 → defaultValue (tyX4 j) = vp_V (dfs 4) j := fun j hj => match j, hj with
  | 0, _ => rfl
  | 1, _ => rfl
  | 2, _ => rfl
  | n + 3, h => absurd h (by omega)
theorem yc_X5 : yC yX5_init cX5_init 1 := ⟨q_225, q_8, q_226, rfl, by decide, by decide, by decide +kernel⟩
theorem dfo_5 : ∀ j, j < 8 → defaultValue (tyX5 j) = vp_V (dfs 5) j := fun j hj => match j, hj with
  | 0, _ => rfl
  | 1, _ => rfl
  | 2, _ => rfl
  | 3, _ => rfl
  | 4, _ => rfl
  | 5, _ => rfl
  | 6, _ => rfl
  | 7, _ => rfl
  | n + 8, h => absurd h (by omega)
theorem yc_X6 : yC yX6_init cX6_init 1 := ⟨q_31, q_2, q_32, rfl, by decide, by decide, by decide +kernel⟩
theorem dfo_6 : ∀ j, j < 5 → defaultValue (tyX6 j) = vp_V (dfs 6) j := fun j hj => match j, hj with
  | 0, _ => rfl
  | 1, _ => rfl
  | 2, _ => rfl
  | 3, _ => rfl
  | 4, _ => rfl
  | n + 5, h => absurd h (by omega)
theorem yc_X7 : yC yX7_init cX7_init 1 := ⟨q_188, q_6, q_189, rfl, by decide, by decide, by decide +kernel⟩
theorem dfo_7 : ∀ j, j < 2 → defaultValue (tyX7 j) = vp_V (dfs 7) j := fun j hj => match j, hj with
  | 0, _ => rfl
  | 1, _ => rfl
  | n + 2, h => absurd h (by omega)
theorem yc_X8 : yC yX8_init cX8_init 1 := ⟨q_62, q_4, q_63, rfl, by decide, by decide, by decide +kernel⟩
theorem dfo_8 : ∀ j, j < 13 → defaultValue (tyX8 j) = vp_V (dfs 8) j := fun j hj => match j, hj with
  | 0, _ => rfl
  | 1, _ => rfl
  | 2, _ => rfl
  | 3, _ => rfl
  | 4, _ => rfl
  | 5, _ => rfl
  | 6, _ => rfl
  | 7, _ => rfl
  | 8, _ => rfl
  | 9, _ => rfl
  | 10, _ => rfl
  | 11, _ => rfl
  | 12, _ => rfl
  | n + 13, h => absurd h (by omega)
theorem yc_X9 : yC yX9_init cX9_init 2 := ⟨q_23, q_1, q_24, rfl, by decide, by decide, by decide +kernel⟩
theorem dfo_9 : ∀ j, j < 9 → defaultValue (tyX9 j) = vp_V (dfs 9) j := fun j hj => match j, hj with
  | 0, _ => rfl
  | 1, _ => rfl
  | 2, _ => rfl
  | 3, _ => rfl
  | 4, _ => rfl
  | 5, _ => rfl
  | 6, _ => rfl
  | 7, _ => rfl
  | 8, _ => rfl
  | n + 9, h => absurd h (by omega)
theorem yc_X10 : yC yX10_init cX10_init 1 := ⟨q_873, q_11, q_874, rfl, by decide, by decide, by decide +kernel⟩
theorem dfo_10 : ∀ j, j < 25 → defaultValue (tyX10 j) = vp_V (dfs 10) j := fun j hj => match j, hj with
  | 0, _ => rfl
  | 1, _ => rfl
  | 2, _ => rfl
  | 3, _ => rfl
  | 4, _ => rfl
  | 5, _ => rfl
  | 6, _ => rfl
  | 7, _ => rfl
  | 8, _ => rfl
  | 9, _ => rfl
  | 10, _ => rfl
  | 11, _ => rfl
  | 12, _ => rfl
  | 13, _ => rfl
  | 14, _ => rfl
  | 15, _ => rfl
  | 16, _ => rfl
  | 17, _ => rfl
  | 18, _ => rfl
  | 19, _ => rfl
  | 20, _ => rfl
  | 21, _ => rfl
  | 22, _ => rfl
  | 23, _ => rfl
  | 24, _ => rfl
  | n + 25, h => absurd h (by omega)
theorem cnT_i {M : md_T} {t : ty_C} {j : Nat} (h : ∀ lo hi, ty_rgd M t j = some (lo, hi) → lo ≤ 0 ∧ 0 ≤ hi) (hi0 : iniV t j = none ∨ (0 : Int32) = (iniV t j).getD 0 := by first | exact Or.inl rfl | exact Or.inr rfl) : cnT M t j (.int 0) := ⟨(fun z => by cases z), (fun x hx lo hi hr => by
  cases hx
  have : (0 : Int32).toInt = 0 := rfl
  have := h lo hi hr
  omega), hi0.imp id (fun z => by rw [← z])⟩
set_option maxHeartbeats 4000000 in
set_option maxRecDepth 100000 in
theorem c_X8_init (l : Launch) (D : va_G) (cy : Nat → ClassId) (τ : ty_T) (ρ : ty_R) {M : md_T} {b : Nat} (hb : τ b = some (0, 8)) (hρ : ∀ j v, ρ b j v → (dfs 8)[j]? = some v) : KC l D cy yX8_init cX8_init 1 1 6 304 τ ρ b (CP M τ ρ b) := by
  refine k_metC "EdgeEchoes$Wire" rfl rfl (by decide +kernel) (Nat.le_of_ble_eq_true rfl) ?_
  intro p e s m args below meth c Q ls A X hnm hNW hN0 hG hl ret
  have C : CS M (fun _ _ => False) τ ρ b (dfs 8) τ ρ := CS.start hρ
  refine lv_aload_n X.1 X.2.1 dX8_init_0 rfl (lv_at hl 0 rfl) ?_
  refine k_obj X q_64 q_26 q_27 hl.1 ⟨Nat.le_of_ble_eq_true rfl, Nat.le_of_ble_eq_true rfl⟩ dX8_init_1 ?_
  refine lv_aload_n X.1 X.2.1 dX8_init_4 rfl (lv_at hl 0 rfl) ?_
  refine n_bp X dX8_init_5 (by decide) (by decide) (fun x1 t1 => ?_)
  refine tg_newi X hG hN0 q_52 (N := 8) 1 rfl (by omega) (by omega) (Nat.le_of_ble_eq_true rfl) (Nat.le_of_ble_eq_true rfl) dX8_init_7 (fun q2 H hq2 hG => ?_)
  have C := C.arr hb hq2 (fun j v h => Or.inl (cnT_0 (M := M) (t := (1, 8)) (fun j lo hi h => by have h : (none : Option (Int × Int)) = some (lo, hi) := h; cases h) (fun _ => rfl) j v h)) ⟨by decide, by decide, by decide⟩
  refine tg_putF X hnm hG (C.e1 _ _ hb) (C := RX8) (T := TX8) (N := 13) rfl inB_8 tyX8 tyX8_ok nmX8 0 (by decide) rfl q_65 rfl rfl rfl rfl rfl (ty_i2 tU_at) dX8_init_9 (rU _ b (fun i v => (((dfs 8)).set 0 (.ref q2))[i]? = some v)) CS.off C.oth (CS.new (Nat.le_of_ble_eq_true rfl)) (fun H locs hG => ?_)
  have C := C.put hb (j := 0) (x := (.ref q2))
  refine lv_aload_n X.1 X.2.1 dX8_init_12 rfl (lv_at hl 0 rfl) ?_
  refine n_bp X dX8_init_13 (by decide) (by decide) (fun x3 t3 => ?_)
  refine tg_newi X hG hN0 q_52 (N := 8) 5 rfl (by omega) (by omega) (Nat.le_of_ble_eq_true rfl) (Nat.le_of_ble_eq_true rfl) dX8_init_15 (fun q4 H hq4 hG => ?_)
  have C := C.arr hb hq4 (fun j v h => Or.inl (cnT_0 (M := M) (t := (5, 8)) (fun j lo hi h => by have h : some ((0 : Int), (72 : Int)) = some (lo, hi) := h; cases h; omega) (fun _ => rfl) j v h)) ⟨by decide, by decide, by decide⟩
  refine tg_putF X hnm hG (C.e1 _ _ hb) (C := RX8) (T := TX8) (N := 13) rfl inB_8 tyX8 tyX8_ok nmX8 1 (by decide) rfl q_67 rfl rfl rfl rfl rfl (ty_i2 tU_at) dX8_init_17 (rU _ b (fun i v => ((((dfs 8)).set 0 (.ref q2)).set 1 (.ref q4))[i]? = some v)) CS.off C.oth (CS.new (Nat.le_of_ble_eq_true rfl)) (fun H locs hG => ?_)
  have C := C.put hb (j := 1) (x := (.ref q4))
  refine lv_aload_n X.1 X.2.1 dX8_init_20 rfl (lv_at hl 0 rfl) ?_
  refine n_bp X dX8_init_21 (by decide) (by decide) (fun x5 t5 => ?_)
  refine tg_newi X hG hN0 q_52 (N := 72) 1 rfl (by omega) (by omega) (Nat.le_of_ble_eq_true rfl) (Nat.le_of_ble_eq_true rfl) dX8_init_23 (fun q6 H hq6 hG => ?_)
  have C := C.arr hb hq6 (fun j v h => Or.inl (cnT_0 (M := M) (t := (1, 72)) (fun j lo hi h => by have h : (none : Option (Int × Int)) = some (lo, hi) := h; cases h) (fun _ => rfl) j v h)) ⟨by decide, by decide, by decide⟩
  refine tg_putF X hnm hG (C.e1 _ _ hb) (C := RX8) (T := TX8) (N := 13) rfl inB_8 tyX8 tyX8_ok nmX8 2 (by decide) rfl q_69 rfl rfl rfl rfl rfl (ty_i2 tU_at) dX8_init_25 (rU _ b (fun i v => (((((dfs 8)).set 0 (.ref q2)).set 1 (.ref q4)).set 2 (.ref q6))[i]? = some v)) CS.off C.oth (CS.new (Nat.le_of_ble_eq_true rfl)) (fun H locs hG => ?_)
  have C := C.put hb (j := 2) (x := (.ref q6))
  refine lv_aload_n X.1 X.2.1 dX8_init_28 rfl (lv_at hl 0 rfl) ?_
  refine n_bp X dX8_init_29 (by decide) (by decide) (fun x7 t7 => ?_)
  refine tg_newi X hG hN0 q_52 (N := 72) 1 rfl (by omega) (by omega) (Nat.le_of_ble_eq_true rfl) (Nat.le_of_ble_eq_true rfl) dX8_init_31 (fun q8 H hq8 hG => ?_)
  have C := C.arr hb hq8 (fun j v h => Or.inl (cnT_0 (M := M) (t := (1, 72)) (fun j lo hi h => by have h : (none : Option (Int × Int)) = some (lo, hi) := h; cases h) (fun _ => rfl) j v h)) ⟨by decide, by decide, by decide⟩
  refine tg_putF X hnm hG (C.e1 _ _ hb) (C := RX8) (T := TX8) (N := 13) rfl inB_8 tyX8 tyX8_ok nmX8 3 (by decide) rfl q_70 rfl rfl rfl rfl rfl (ty_i2 tU_at) dX8_init_33 (rU _ b (fun i v => ((((((dfs 8)).set 0 (.ref q2)).set 1 (.ref q4)).set 2 (.ref q6)).set 3 (.ref q8))[i]? = some v)) CS.off C.oth (CS.new (Nat.le_of_ble_eq_true rfl)) (fun H locs hG => ?_)
  have C := C.put hb (j := 3) (x := (.ref q8))
  refine lv_aload_n X.1 X.2.1 dX8_init_36 rfl (lv_at hl 0 rfl) ?_
  refine n_bp X dX8_init_37 (by decide) (by decide) (fun x9 t9 => ?_)
  refine tg_newi X hG hN0 q_52 (N := 72) 1 rfl (by omega) (by omega) (Nat.le_of_ble_eq_true rfl) (Nat.le_of_ble_eq_true rfl) dX8_init_39 (fun q10 H hq10 hG => ?_)
  have C := C.arr hb hq10 (fun j v h => Or.inl (cnT_0 (M := M) (t := (1, 72)) (fun j lo hi h => by have h : (none : Option (Int × Int)) = some (lo, hi) := h; cases h) (fun _ => rfl) j v h)) ⟨by decide, by decide, by decide⟩
  refine tg_putF X hnm hG (C.e1 _ _ hb) (C := RX8) (T := TX8) (N := 13) rfl inB_8 tyX8 tyX8_ok nmX8 4 (by decide) rfl q_72 rfl rfl rfl rfl rfl (ty_i2 tU_at) dX8_init_41 (rU _ b (fun i v => (((((((dfs 8)).set 0 (.ref q2)).set 1 (.ref q4)).set 2 (.ref q6)).set 3 (.ref q8)).set 4 (.ref q10))[i]? = some v)) CS.off C.oth (CS.new (Nat.le_of_ble_eq_true rfl)) (fun H locs hG => ?_)
  have C := C.put hb (j := 4) (x := (.ref q10))
  refine lv_aload_n X.1 X.2.1 dX8_init_44 rfl (lv_at hl 0 rfl) ?_
  refine n_bp X dX8_init_45 (by decide) (by decide) (fun x11 t11 => ?_)
  refine tg_newi X hG hN0 q_52 (N := 72) 1 rfl (by omega) (by omega) (Nat.le_of_ble_eq_true rfl) (Nat.le_of_ble_eq_true rfl) dX8_init_47 (fun q12 H hq12 hG => ?_)
  have C := C.arr hb hq12 (fun j v h => Or.inl (cnT_0 (M := M) (t := (1, 72)) (fun j lo hi h => by have h : (none : Option (Int × Int)) = some (lo, hi) := h; cases h) (fun _ => rfl) j v h)) ⟨by decide, by decide, by decide⟩
  refine tg_putF X hnm hG (C.e1 _ _ hb) (C := RX8) (T := TX8) (N := 13) rfl inB_8 tyX8 tyX8_ok nmX8 5 (by decide) rfl q_75 rfl rfl rfl rfl rfl (ty_i2 tU_at) dX8_init_49 (rU _ b (fun i v => ((((((((dfs 8)).set 0 (.ref q2)).set 1 (.ref q4)).set 2 (.ref q6)).set 3 (.ref q8)).set 4 (.ref q10)).set 5 (.ref q12))[i]? = some v)) CS.off C.oth (CS.new (Nat.le_of_ble_eq_true rfl)) (fun H locs hG => ?_)
  have C := C.put hb (j := 5) (x := (.ref q12))
  refine ret _ _ _ _ (_, _) hG (C.done hb (fun _ _ _ h _ => h) (fun j v h => ?_)) dX8_init_52
  match j, h with
  | 0, h => have h : some (Value.ref q2) = some v := h; cases h; exact cnT_r
  | 1, h => have h : some (Value.ref q4) = some v := h; cases h; exact cnT_r
  | 2, h => have h : some (Value.ref q6) = some v := h; cases h; exact cnT_r
  | 3, h => have h : some (Value.ref q8) = some v := h; cases h; exact cnT_r
  | 4, h => have h : some (Value.ref q10) = some v := h; cases h; exact cnT_r
  | 5, h => have h : some (Value.ref q12) = some v := h; cases h; exact cnT_r
  | 6, h => have h : some (Value.int 0) = some v := h; cases h; exact cnT_i (fun lo hi h => by have h : some ((0 : Int), (8 : Int)) = some (lo, hi) := h; cases h; omega)
  | 7, h => have h : some (Value.int 0) = some v := h; cases h; exact cnT_i (fun lo hi h => by have h : some ((0 : Int), (72 : Int)) = some (lo, hi) := h; cases h; omega)
  | 8, h => have h : some (Value.int 0) = some v := h; cases h; exact cnT_i (fun lo hi h => by have h : (none : Option (Int × Int)) = some (lo, hi) := h; cases h)
  | 9, h => have h : some (Value.int 0) = some v := h; cases h; exact cnT_i (fun lo hi h => by have h : (none : Option (Int × Int)) = some (lo, hi) := h; cases h)
  | 10, h => have h : some (Value.int 0) = some v := h; cases h; exact cnT_i (fun lo hi h => by have h : (none : Option (Int × Int)) = some (lo, hi) := h; cases h)
  | 11, h => have h : some (Value.int 0) = some v := h; cases h; exact cnT_i (fun lo hi h => by have h : (none : Option (Int × Int)) = some (lo, hi) := h; cases h)
  | 12, h => have h : some (Value.int 0) = some v := h; cases h; exact cnT_i (fun lo hi h => by have h : (none : Option (Int × Int)) = some (lo, hi) := h; cases h)
  | n + 13, h => have h : (none : Option Value) = some v := h; cases h
set_option maxHeartbeats 4000000 in
set_option maxRecDepth 100000 in
theorem c_X1_init (l : Launch) (D : va_G) (cy : Nat → ClassId) (τ : ty_T) (ρ : ty_R) {M : md_T} {b : Nat} (hb : τ b = some (0, 1)) (hρ : ∀ j v, ρ b j v → (dfs 1)[j]? = some v) : KC l D cy yX1_init cX1_init 1 1 6 36 τ ρ b (CP M τ ρ b) := by
  refine k_metC "EdgeEchoes$Gates" rfl rfl (by decide +kernel) (Nat.le_of_ble_eq_true rfl) ?_
  intro p e s m args below meth c Q ls A X hnm hNW hN0 hG hl ret
  have C : CS M (fun _ _ => False) τ ρ b (dfs 1) τ ρ := CS.start hρ
  refine lv_aload_n X.1 X.2.1 dX1_init_0 rfl (lv_at hl 0 rfl) ?_
  refine k_obj X q_130 q_26 q_27 hl.1 ⟨Nat.le_of_ble_eq_true rfl, Nat.le_of_ble_eq_true rfl⟩ dX1_init_1 ?_
  refine lv_aload_n X.1 X.2.1 dX1_init_4 rfl (lv_at hl 0 rfl) ?_
  refine n_bp X dX1_init_5 (by decide) (by decide) (fun x1 t1 => ?_)
  refine tg_newi X hG hN0 q_52 (N := 6) 1 rfl (by omega) (by omega) (Nat.le_of_ble_eq_true rfl) (Nat.le_of_ble_eq_true rfl) dX1_init_7 (fun q2 H hq2 hG => ?_)
  have C := C.arr hb hq2 (fun j v h => Or.inl (cnT_0 (M := M) (t := (1, 6)) (fun j lo hi h => by have h : (none : Option (Int × Int)) = some (lo, hi) := h; cases h) (fun _ => rfl) j v h)) ⟨by decide, by decide, by decide⟩
  refine tg_putF X hnm hG (C.e1 _ _ hb) (C := RX1) (T := TX1) (N := 7) rfl inB_1 tyX1 tyX1_ok nmX1 0 (by decide) rfl q_131 rfl rfl rfl rfl rfl (ty_i2 tU_at) dX1_init_9 (rU _ b (fun i v => (((dfs 1)).set 0 (.ref q2))[i]? = some v)) CS.off C.oth (CS.new (Nat.le_of_ble_eq_true rfl)) (fun H locs hG => ?_)
  have C := C.put hb (j := 0) (x := (.ref q2))
  refine lv_aload_n X.1 X.2.1 dX1_init_12 rfl (lv_at hl 0 rfl) ?_
  refine n_bp X dX1_init_13 (by decide) (by decide) (fun x3 t3 => ?_)
  refine tg_newi X hG hN0 q_52 (N := 6) 1 rfl (by omega) (by omega) (Nat.le_of_ble_eq_true rfl) (Nat.le_of_ble_eq_true rfl) dX1_init_15 (fun q4 H hq4 hG => ?_)
  have C := C.arr hb hq4 (fun j v h => Or.inl (cnT_0 (M := M) (t := (1, 6)) (fun j lo hi h => by have h : (none : Option (Int × Int)) = some (lo, hi) := h; cases h) (fun _ => rfl) j v h)) ⟨by decide, by decide, by decide⟩
  refine tg_putF X hnm hG (C.e1 _ _ hb) (C := RX1) (T := TX1) (N := 7) rfl inB_1 tyX1 tyX1_ok nmX1 1 (by decide) rfl q_133 rfl rfl rfl rfl rfl (ty_i2 tU_at) dX1_init_17 (rU _ b (fun i v => ((((dfs 1)).set 0 (.ref q2)).set 1 (.ref q4))[i]? = some v)) CS.off C.oth (CS.new (Nat.le_of_ble_eq_true rfl)) (fun H locs hG => ?_)
  have C := C.put hb (j := 1) (x := (.ref q4))
  refine lv_aload_n X.1 X.2.1 dX1_init_20 rfl (lv_at hl 0 rfl) ?_
  refine n_bp X dX1_init_21 (by decide) (by decide) (fun x5 t5 => ?_)
  refine tg_newi X hG hN0 q_52 (N := 6) 1 rfl (by omega) (by omega) (Nat.le_of_ble_eq_true rfl) (Nat.le_of_ble_eq_true rfl) dX1_init_23 (fun q6 H hq6 hG => ?_)
  have C := C.arr hb hq6 (fun j v h => Or.inl (cnT_0 (M := M) (t := (1, 6)) (fun j lo hi h => by have h : (none : Option (Int × Int)) = some (lo, hi) := h; cases h) (fun _ => rfl) j v h)) ⟨by decide, by decide, by decide⟩
  refine tg_putF X hnm hG (C.e1 _ _ hb) (C := RX1) (T := TX1) (N := 7) rfl inB_1 tyX1 tyX1_ok nmX1 2 (by decide) rfl q_135 rfl rfl rfl rfl rfl (ty_i2 tU_at) dX1_init_25 (rU _ b (fun i v => (((((dfs 1)).set 0 (.ref q2)).set 1 (.ref q4)).set 2 (.ref q6))[i]? = some v)) CS.off C.oth (CS.new (Nat.le_of_ble_eq_true rfl)) (fun H locs hG => ?_)
  have C := C.put hb (j := 2) (x := (.ref q6))
  refine lv_aload_n X.1 X.2.1 dX1_init_28 rfl (lv_at hl 0 rfl) ?_
  refine n_bp X dX1_init_29 (by decide) (by decide) (fun x7 t7 => ?_)
  refine tg_newi X hG hN0 q_52 (N := 6) 1 rfl (by omega) (by omega) (Nat.le_of_ble_eq_true rfl) (Nat.le_of_ble_eq_true rfl) dX1_init_31 (fun q8 H hq8 hG => ?_)
  have C := C.arr hb hq8 (fun j v h => Or.inl (cnT_0 (M := M) (t := (1, 6)) (fun j lo hi h => by have h : (none : Option (Int × Int)) = some (lo, hi) := h; cases h) (fun _ => rfl) j v h)) ⟨by decide, by decide, by decide⟩
  refine tg_putF X hnm hG (C.e1 _ _ hb) (C := RX1) (T := TX1) (N := 7) rfl inB_1 tyX1 tyX1_ok nmX1 3 (by decide) rfl q_137 rfl rfl rfl rfl rfl (ty_i2 tU_at) dX1_init_33 (rU _ b (fun i v => ((((((dfs 1)).set 0 (.ref q2)).set 1 (.ref q4)).set 2 (.ref q6)).set 3 (.ref q8))[i]? = some v)) CS.off C.oth (CS.new (Nat.le_of_ble_eq_true rfl)) (fun H locs hG => ?_)
  have C := C.put hb (j := 3) (x := (.ref q8))
  refine lv_aload_n X.1 X.2.1 dX1_init_36 rfl (lv_at hl 0 rfl) ?_
  refine n_bp X dX1_init_37 (by decide) (by decide) (fun x9 t9 => ?_)
  refine tg_newi X hG hN0 q_52 (N := 6) 1 rfl (by omega) (by omega) (Nat.le_of_ble_eq_true rfl) (Nat.le_of_ble_eq_true rfl) dX1_init_39 (fun q10 H hq10 hG => ?_)
  have C := C.arr hb hq10 (fun j v h => Or.inl (cnT_0 (M := M) (t := (1, 6)) (fun j lo hi h => by have h : (none : Option (Int × Int)) = some (lo, hi) := h; cases h) (fun _ => rfl) j v h)) ⟨by decide, by decide, by decide⟩
  refine tg_putF X hnm hG (C.e1 _ _ hb) (C := RX1) (T := TX1) (N := 7) rfl inB_1 tyX1 tyX1_ok nmX1 4 (by decide) rfl q_140 rfl rfl rfl rfl rfl (ty_i2 tU_at) dX1_init_41 (rU _ b (fun i v => (((((((dfs 1)).set 0 (.ref q2)).set 1 (.ref q4)).set 2 (.ref q6)).set 3 (.ref q8)).set 4 (.ref q10))[i]? = some v)) CS.off C.oth (CS.new (Nat.le_of_ble_eq_true rfl)) (fun H locs hG => ?_)
  have C := C.put hb (j := 4) (x := (.ref q10))
  refine lv_aload_n X.1 X.2.1 dX1_init_44 rfl (lv_at hl 0 rfl) ?_
  refine n_bp X dX1_init_45 (by decide) (by decide) (fun x11 t11 => ?_)
  refine tg_newi X hG hN0 q_52 (N := 6) 1 rfl (by omega) (by omega) (Nat.le_of_ble_eq_true rfl) (Nat.le_of_ble_eq_true rfl) dX1_init_47 (fun q12 H hq12 hG => ?_)
  have C := C.arr hb hq12 (fun j v h => Or.inl (cnT_0 (M := M) (t := (1, 6)) (fun j lo hi h => by have h : (none : Option (Int × Int)) = some (lo, hi) := h; cases h) (fun _ => rfl) j v h)) ⟨by decide, by decide, by decide⟩
  refine tg_putF X hnm hG (C.e1 _ _ hb) (C := RX1) (T := TX1) (N := 7) rfl inB_1 tyX1 tyX1_ok nmX1 5 (by decide) rfl q_143 rfl rfl rfl rfl rfl (ty_i2 tU_at) dX1_init_49 (rU _ b (fun i v => ((((((((dfs 1)).set 0 (.ref q2)).set 1 (.ref q4)).set 2 (.ref q6)).set 3 (.ref q8)).set 4 (.ref q10)).set 5 (.ref q12))[i]? = some v)) CS.off C.oth (CS.new (Nat.le_of_ble_eq_true rfl)) (fun H locs hG => ?_)
  have C := C.put hb (j := 5) (x := (.ref q12))
  refine ret _ _ _ _ (_, _) hG (C.done hb (fun _ _ _ h _ => h) (fun j v h => ?_)) dX1_init_52
  match j, h with
  | 0, h => have h : some (Value.ref q2) = some v := h; cases h; exact cnT_r
  | 1, h => have h : some (Value.ref q4) = some v := h; cases h; exact cnT_r
  | 2, h => have h : some (Value.ref q6) = some v := h; cases h; exact cnT_r
  | 3, h => have h : some (Value.ref q8) = some v := h; cases h; exact cnT_r
  | 4, h => have h : some (Value.ref q10) = some v := h; cases h; exact cnT_r
  | 5, h => have h : some (Value.ref q12) = some v := h; cases h; exact cnT_r
  | 6, h => have h : some (Value.int 0) = some v := h; cases h; exact cnT_i (fun lo hi h => by have h : some ((0 : Int), (6 : Int)) = some (lo, hi) := h; cases h; omega)
  | n + 7, h => have h : (none : Option Value) = some v := h; cases h
set_option maxHeartbeats 4000000 in
set_option maxRecDepth 100000 in
theorem c_X3_init (l : Launch) (D : va_G) (cy : Nat → ClassId) (τ : ty_T) (ρ : ty_R) {M : md_T} {b : Nat} (hb : τ b = some (0, 3)) (hρ : ∀ j v, ρ b j v → (dfs 3)[j]? = some v) : KC l D cy yX3_init cX3_init 1 2 14 360 τ ρ b (CP M τ ρ b) := by
  refine k_metC "EdgeEchoes$Line" rfl rfl (by decide +kernel) (Nat.le_of_ble_eq_true rfl) ?_
  intro p e s m args below meth c Q ls A X hnm hNW hN0 hG hl ret
  have C : CS M (fun _ _ => False) τ ρ b (dfs 3) τ ρ := CS.start hρ
  refine lv_aload_n X.1 X.2.1 dX3_init_0 rfl (lv_at hl 0 rfl) ?_
  refine k_obj X q_58 q_26 q_27 hl.1 ⟨Nat.le_of_ble_eq_true rfl, Nat.le_of_ble_eq_true rfl⟩ dX3_init_1 ?_
  refine lv_aload_n X.1 X.2.1 dX3_init_4 rfl (lv_at hl 0 rfl) ?_
  refine tg_newo X hG hN0 8 (C := RX8) (T := TX8) (N := 13) rfl inB_8 tyX8 tyX8_ok (by decide) dfo_8 q_59 q_60 q_4 (Nat.le_of_ble_eq_true rfl) (Nat.le_of_ble_eq_true rfl) dX3_init_5 (fun q1 H hq1 hG => ?_)
  refine lv_dup X.1 X.2.1 dX3_init_8 rfl ?_
  refine k_cN X hNW hG hN0 (c_X8_init l D cy _ _ (M := M) tU_at (fun j v h => by rw [rU_at] at h; exact h)) yc_X8 (List.mem_of_getElem? (i := 2) rfl) ⟨Nat.le_of_ble_eq_true rfl, Nat.le_of_ble_eq_true rfl⟩ hl.1 (Nat.le_of_ble_eq_true rfl) ⟨Nat.le_of_ble_eq_true rfl, Nat.le_of_ble_eq_true rfl⟩ dX3_init_9 (fun u1 H locs hG hu1 => ?_)
  have hk1 := hu1.1 q1 _ tU_at
  have C := C.sub hb hq1 (by decide) hu1
  refine tg_putF X hnm hG (C.e1 _ _ hb) (C := RX3) (T := TX3) (N := 4) rfl inB_3 tyX3 tyX3_ok nmX3 0 (by decide) rfl q_162 rfl rfl rfl rfl rfl (ty_i2 hk1) dX3_init_12 (rU _ b (fun i v => (((dfs 3)).set 0 (.ref q1))[i]? = some v)) CS.off C.oth (CS.new (Nat.le_of_ble_eq_true rfl)) (fun H locs hG => ?_)
  have C := C.put hb (j := 0) (x := (.ref q1))
  refine lv_aload_n X.1 X.2.1 dX3_init_15 rfl (lv_at hl 0 rfl) ?_
  refine tg_newo X hG hN0 1 (C := RX1) (T := TX1) (N := 7) rfl inB_1 tyX1 tyX1_ok (by decide) dfo_1 q_125 q_126 q_5 (Nat.le_of_ble_eq_true rfl) (Nat.le_of_ble_eq_true rfl) dX3_init_16 (fun q2 H hq2 hG => ?_)
  refine lv_dup X.1 X.2.1 dX3_init_19 rfl ?_
  refine k_cN X hNW hG hN0 (c_X1_init l D cy _ _ (M := M) tU_at (fun j v h => by rw [rU_at] at h; exact h)) yc_X1 (List.mem_of_getElem? (i := 3) rfl) ⟨Nat.le_of_ble_eq_true rfl, Nat.le_of_ble_eq_true rfl⟩ hl.1 (Nat.le_of_ble_eq_true rfl) ⟨Nat.le_of_ble_eq_true rfl, Nat.le_of_ble_eq_true rfl⟩ dX3_init_20 (fun u2 H locs hG hu2 => ?_)
  have hk2 := hu2.1 q2 _ tU_at
  have C := C.sub hb hq2 (by decide) hu2
  refine tg_putF X hnm hG (C.e1 _ _ hb) (C := RX3) (T := TX3) (N := 4) rfl inB_3 tyX3 tyX3_ok nmX3 1 (by decide) rfl q_167 rfl rfl rfl rfl rfl (ty_i2 hk2) dX3_init_23 (rU _ b (fun i v => ((((dfs 3)).set 0 (.ref q1)).set 1 (.ref q2))[i]? = some v)) CS.off C.oth (CS.new (Nat.le_of_ble_eq_true rfl)) (fun H locs hG => ?_)
  have C := C.put hb (j := 1) (x := (.ref q2))
  refine ret _ _ _ _ (_, _) hG (C.done hb (fun _ _ _ h _ => h) (fun j v h => ?_)) dX3_init_26
  match j, h with
  | 0, h => have h : some (Value.ref q1) = some v := h; cases h; exact cnT_r
  | 1, h => have h : some (Value.ref q2) = some v := h; cases h; exact cnT_r
  | 2, h => have h : some (Value.int 0) = some v := h; cases h; exact cnT_i (fun lo hi h => by have h : (none : Option (Int × Int)) = some (lo, hi) := h; cases h)
  | 3, h => have h : some (Value.int 0) = some v := h; cases h; exact cnT_i (fun lo hi h => by have h : (none : Option (Int × Int)) = some (lo, hi) := h; cases h)
  | n + 4, h => have h : (none : Option Value) = some v := h; cases h
set_option maxHeartbeats 4000000 in
set_option maxRecDepth 100000 in
theorem c_X2_init (l : Launch) (D : va_G) (cy : Nat → ClassId) (τ : ty_T) (ρ : ty_R) {M : md_T} {b : Nat} (hb : τ b = some (0, 2)) (hρ : ∀ j v, ρ b j v → (dfs 2)[j]? = some v) : KC l D cy yX2_init cX2_init 1 3 15 364 τ ρ b (CP M τ ρ b) := by
  refine k_metC "EdgeEchoes$Image" rfl rfl (by decide +kernel) (Nat.le_of_ble_eq_true rfl) ?_
  intro p e s m args below meth c Q ls A X hnm hNW hN0 hG hl ret
  have C : CS M (fun _ _ => False) τ ρ b (dfs 2) τ ρ := CS.start hρ
  refine lv_aload_n X.1 X.2.1 dX2_init_0 rfl (lv_at hl 0 rfl) ?_
  refine k_obj X q_281 q_26 q_27 hl.1 ⟨Nat.le_of_ble_eq_true rfl, Nat.le_of_ble_eq_true rfl⟩ dX2_init_1 ?_
  refine lv_aload_n X.1 X.2.1 dX2_init_4 rfl (lv_at hl 0 rfl) ?_
  refine tg_newo X hG hN0 3 (C := RX3) (T := TX3) (N := 4) rfl inB_3 tyX3 tyX3_ok (by decide) dfo_3 q_282 q_54 q_3 (Nat.le_of_ble_eq_true rfl) (Nat.le_of_ble_eq_true rfl) dX2_init_5 (fun q1 H hq1 hG => ?_)
  refine lv_dup X.1 X.2.1 dX2_init_8 rfl ?_
  refine k_cN X hNW hG hN0 (c_X3_init l D cy _ _ (M := M) tU_at (fun j v h => by rw [rU_at] at h; exact h)) yc_X3 (List.mem_of_getElem? (i := 10) rfl) ⟨Nat.le_of_ble_eq_true rfl, Nat.le_of_ble_eq_true rfl⟩ hl.1 (Nat.le_of_ble_eq_true rfl) ⟨Nat.le_of_ble_eq_true rfl, Nat.le_of_ble_eq_true rfl⟩ dX2_init_9 (fun u1 H locs hG hu1 => ?_)
  have hk1 := hu1.1 q1 _ tU_at
  have C := C.sub hb hq1 (by decide) hu1
  refine tg_putF X hnm hG (C.e1 _ _ hb) (C := RX2) (T := TX2) (N := 3) rfl inB_2 tyX2 tyX2_ok nmX2 0 (by decide) rfl q_284 rfl rfl rfl rfl rfl (ty_i2 hk1) dX2_init_12 (rU _ b (fun i v => (((dfs 2)).set 0 (.ref q1))[i]? = some v)) CS.off C.oth (CS.new (Nat.le_of_ble_eq_true rfl)) (fun H locs hG => ?_)
  have C := C.put hb (j := 0) (x := (.ref q1))
  refine ret _ _ _ _ (_, _) hG (C.done hb (fun _ _ _ h _ => h) (fun j v h => ?_)) dX2_init_15
  match j, h with
  | 0, h => have h : some (Value.ref q1) = some v := h; cases h; exact cnT_r
  | 1, h => have h : some (Value.int 0) = some v := h; cases h; exact cnT_i (fun lo hi h => by have h : (none : Option (Int × Int)) = some (lo, hi) := h; cases h)
  | 2, h => have h : some (Value.int 0) = some v := h; cases h; exact cnT_i (fun lo hi h => by have h : (none : Option (Int × Int)) = some (lo, hi) := h; cases h)
  | n + 3, h => have h : (none : Option Value) = some v := h; cases h
set_option maxHeartbeats 4000000 in
set_option maxRecDepth 100000 in
theorem c_X6_init (l : Launch) (D : va_G) (cy : Nat → ClassId) (τ : ty_T) (ρ : ty_R) {M : md_T} {b : Nat} (hb : τ b = some (0, 6)) (hρ : ∀ j v, ρ b j v → (dfs 6)[j]? = some v) : KC l D cy yX6_init cX6_init 1 1 2 243 τ ρ b (CP M τ ρ b) := by
  refine k_metC "EdgeEchoes$Text" rfl rfl (by decide +kernel) (Nat.le_of_ble_eq_true rfl) ?_
  intro p e s m args below meth c Q ls A X hnm hNW hN0 hG hl ret
  have C : CS M (fun _ _ => False) τ ρ b (dfs 6) τ ρ := CS.start hρ
  refine lv_aload_n X.1 X.2.1 dX6_init_0 rfl (lv_at hl 0 rfl) ?_
  refine k_obj X q_33 q_26 q_27 hl.1 ⟨Nat.le_of_ble_eq_true rfl, Nat.le_of_ble_eq_true rfl⟩ dX6_init_1 ?_
  refine lv_aload_n X.1 X.2.1 dX6_init_4 rfl (lv_at hl 0 rfl) ?_
  refine n_sp X dX6_init_5 (by decide) (by decide) (fun x1 t1 => ?_)
  refine tg_newi X hG hN0 q_52 (N := 240) 8 rfl (by omega) (by omega) (Nat.le_of_ble_eq_true rfl) (Nat.le_of_ble_eq_true rfl) dX6_init_8 (fun q2 H hq2 hG => ?_)
  have C := C.arr hb hq2 (fun j v h => Or.inl (cnT_0 (M := M) (t := (8, 240)) (fun j lo hi h => by have h : (none : Option (Int × Int)) = some (lo, hi) := h; cases h) (fun _ => rfl) j v h)) ⟨by decide, by decide, by decide⟩
  refine tg_putF X hnm hG (C.e1 _ _ hb) (C := RX6) (T := TX6) (N := 5) rfl inB_6 tyX6 tyX6_ok nmX6 0 (by decide) rfl q_34 rfl rfl rfl rfl rfl (ty_i2 tU_at) dX6_init_10 (rU _ b (fun i v => (((dfs 6)).set 0 (.ref q2))[i]? = some v)) CS.off C.oth (CS.new (Nat.le_of_ble_eq_true rfl)) (fun H locs hG => ?_)
  have C := C.put hb (j := 0) (x := (.ref q2))
  refine lv_aload_n X.1 X.2.1 dX6_init_13 rfl (lv_at hl 0 rfl) ?_
  refine n_ic X dX6_init_14 (by decide) (by decide) (fun x3 t3 => ?_)
  refine tg_newi X hG hN0 q_52 (N := 3) 9 rfl (by omega) (by omega) (Nat.le_of_ble_eq_true rfl) (Nat.le_of_ble_eq_true rfl) dX6_init_15 (fun q4 H hq4 hG => ?_)
  have C := C.arr hb hq4 (fun j v h => Or.inl (cnT_0 (M := M) (t := (9, 3)) (fun j lo hi h => by have h : (none : Option (Int × Int)) = some (lo, hi) := h; cases h) (fun _ => rfl) j v h)) ⟨by decide, by decide, by decide⟩
  refine tg_putF X hnm hG (C.e1 _ _ hb) (C := RX6) (T := TX6) (N := 5) rfl inB_6 tyX6 tyX6_ok nmX6 1 (by decide) rfl q_35 rfl rfl rfl rfl rfl (ty_i2 tU_at) dX6_init_17 (rU _ b (fun i v => ((((dfs 6)).set 0 (.ref q2)).set 1 (.ref q4))[i]? = some v)) CS.off C.oth (CS.new (Nat.le_of_ble_eq_true rfl)) (fun H locs hG => ?_)
  have C := C.put hb (j := 1) (x := (.ref q4))
  refine ret _ _ _ _ (_, _) hG (C.done hb (fun _ _ _ h _ => h) (fun j v h => ?_)) dX6_init_20
  match j, h with
  | 0, h => have h : some (Value.ref q2) = some v := h; cases h; exact cnT_r
  | 1, h => have h : some (Value.ref q4) = some v := h; cases h; exact cnT_r
  | 2, h => have h : some (Value.int 0) = some v := h; cases h; exact cnT_i (fun lo hi h => by have h : (none : Option (Int × Int)) = some (lo, hi) := h; cases h)
  | 3, h => have h : some (Value.int 0) = some v := h; cases h; exact cnT_i (fun lo hi h => by have h : (none : Option (Int × Int)) = some (lo, hi) := h; cases h)
  | 4, h => have h : some (Value.int 0) = some v := h; cases h; exact cnT_i (fun lo hi h => by have h : (none : Option (Int × Int)) = some (lo, hi) := h; cases h)
  | n + 5, h => have h : (none : Option Value) = some v := h; cases h
set_option maxHeartbeats 4000000 in
set_option maxRecDepth 100000 in
theorem c_X7_init (l : Launch) (D : va_G) (cy : Nat → ClassId) (τ : ty_T) (ρ : ty_R) {M : md_T} {b : Nat} (hb : τ b = some (0, 7)) (hρ : ∀ j v, ρ b j v → (dfs 7)[j]? = some v) : KC l D cy yX7_init cX7_init 1 3 16 565 τ ρ b (CP M τ ρ b) := by
  refine k_metC "EdgeEchoes$Trial" rfl rfl (by decide +kernel) (Nat.le_of_ble_eq_true rfl) ?_
  intro p e s m args below meth c Q ls A X hnm hNW hN0 hG hl ret
  have C : CS M (fun _ _ => False) τ ρ b (dfs 7) τ ρ := CS.start hρ
  refine lv_aload_n X.1 X.2.1 dX7_init_0 rfl (lv_at hl 0 rfl) ?_
  refine k_obj X q_190 q_26 q_27 hl.1 ⟨Nat.le_of_ble_eq_true rfl, Nat.le_of_ble_eq_true rfl⟩ dX7_init_1 ?_
  refine lv_aload_n X.1 X.2.1 dX7_init_4 rfl (lv_at hl 0 rfl) ?_
  refine tg_newo X hG hN0 3 (C := RX3) (T := TX3) (N := 4) rfl inB_3 tyX3 tyX3_ok (by decide) dfo_3 q_191 q_54 q_3 (Nat.le_of_ble_eq_true rfl) (Nat.le_of_ble_eq_true rfl) dX7_init_5 (fun q1 H hq1 hG => ?_)
  refine lv_dup X.1 X.2.1 dX7_init_8 rfl ?_
  refine k_cN X hNW hG hN0 (c_X3_init l D cy _ _ (M := M) tU_at (fun j v h => by rw [rU_at] at h; exact h)) yc_X3 (List.mem_of_getElem? (i := 5) rfl) ⟨Nat.le_of_ble_eq_true rfl, Nat.le_of_ble_eq_true rfl⟩ hl.1 (Nat.le_of_ble_eq_true rfl) ⟨Nat.le_of_ble_eq_true rfl, Nat.le_of_ble_eq_true rfl⟩ dX7_init_9 (fun u1 H locs hG hu1 => ?_)
  have hk1 := hu1.1 q1 _ tU_at
  have C := C.sub hb hq1 (by decide) hu1
  refine tg_putF X hnm hG (C.e1 _ _ hb) (C := RX7) (T := TX7) (N := 2) rfl inB_7 tyX7 tyX7_ok nmX7 0 (by decide) rfl q_193 rfl rfl rfl rfl rfl (ty_i2 hk1) dX7_init_12 (rU _ b (fun i v => (((dfs 7)).set 0 (.ref q1))[i]? = some v)) CS.off C.oth (CS.new (Nat.le_of_ble_eq_true rfl)) (fun H locs hG => ?_)
  have C := C.put hb (j := 0) (x := (.ref q1))
  refine lv_aload_n X.1 X.2.1 dX7_init_15 rfl (lv_at hl 0 rfl) ?_
  refine n_sp X dX7_init_16 (by decide) (by decide) (fun x2 t2 => ?_)
  refine tg_newi X hG hN0 q_52 (N := 201) 1 rfl (by omega) (by omega) (Nat.le_of_ble_eq_true rfl) (Nat.le_of_ble_eq_true rfl) dX7_init_19 (fun q3 H hq3 hG => ?_)
  have C := C.arr hb hq3 (fun j v h => Or.inl (cnT_0 (M := M) (t := (1, 201)) (fun j lo hi h => by have h : (none : Option (Int × Int)) = some (lo, hi) := h; cases h) (fun _ => rfl) j v h)) ⟨by decide, by decide, by decide⟩
  refine tg_putF X hnm hG (C.e1 _ _ hb) (C := RX7) (T := TX7) (N := 2) rfl inB_7 tyX7 tyX7_ok nmX7 1 (by decide) rfl q_196 rfl rfl rfl rfl rfl (ty_i2 tU_at) dX7_init_21 (rU _ b (fun i v => ((((dfs 7)).set 0 (.ref q1)).set 1 (.ref q3))[i]? = some v)) CS.off C.oth (CS.new (Nat.le_of_ble_eq_true rfl)) (fun H locs hG => ?_)
  have C := C.put hb (j := 1) (x := (.ref q3))
  refine ret _ _ _ _ (_, _) hG (C.done hb (fun _ _ _ h _ => h) (fun j v h => ?_)) dX7_init_24
  match j, h with
  | 0, h => have h : some (Value.ref q1) = some v := h; cases h; exact cnT_r
  | 1, h => have h : some (Value.ref q3) = some v := h; cases h; exact cnT_r
  | n + 2, h => have h : (none : Option Value) = some v := h; cases h
set_option maxHeartbeats 4000000 in
set_option maxRecDepth 100000 in
theorem c_X5_init (l : Launch) (D : va_G) (cy : Nat → ClassId) (τ : ty_T) (ρ : ty_R) {M : md_T} {b : Nat} (hb : τ b = some (0, 5)) (hρ : ∀ j v, ρ b j v → (dfs 5)[j]? = some v) : KC l D cy yX5_init cX5_init 1 1 4 18 τ ρ b (CP M τ ρ b) := by
  refine k_metC "EdgeEchoes$Suspects" rfl rfl (by decide +kernel) (Nat.le_of_ble_eq_true rfl) ?_
  intro p e s m args below meth c Q ls A X hnm hNW hN0 hG hl ret
  have C : CS M (fun _ _ => False) τ ρ b (dfs 5) τ ρ := CS.start hρ
  refine lv_aload_n X.1 X.2.1 dX5_init_0 rfl (lv_at hl 0 rfl) ?_
  refine k_obj X q_227 q_26 q_27 hl.1 ⟨Nat.le_of_ble_eq_true rfl, Nat.le_of_ble_eq_true rfl⟩ dX5_init_1 ?_
  refine lv_aload_n X.1 X.2.1 dX5_init_4 rfl (lv_at hl 0 rfl) ?_
  refine n_bp X dX5_init_5 (by decide) (by decide) (fun x1 t1 => ?_)
  refine tg_newi X hG hN0 q_52 (N := 6) 7 rfl (by omega) (by omega) (Nat.le_of_ble_eq_true rfl) (Nat.le_of_ble_eq_true rfl) dX5_init_7 (fun q2 H hq2 hG => ?_)
  have C := C.arr hb hq2 (fun j v h => Or.inl (cnT_0 (M := M) (t := (7, 6)) (fun j lo hi h => by have h : some ((0 : Int), (150 : Int)) = some (lo, hi) := h; cases h; omega) (fun _ => rfl) j v h)) ⟨by decide, by decide, by decide⟩
  refine tg_putF X hnm hG (C.e1 _ _ hb) (C := RX5) (T := TX5) (N := 8) rfl inB_5 tyX5 tyX5_ok nmX5 0 (by decide) rfl q_228 rfl rfl rfl rfl rfl (ty_i2 tU_at) dX5_init_9 (rU _ b (fun i v => (((dfs 5)).set 0 (.ref q2))[i]? = some v)) CS.off C.oth (CS.new (Nat.le_of_ble_eq_true rfl)) (fun H locs hG => ?_)
  have C := C.put hb (j := 0) (x := (.ref q2))
  refine lv_aload_n X.1 X.2.1 dX5_init_12 rfl (lv_at hl 0 rfl) ?_
  refine n_bp X dX5_init_13 (by decide) (by decide) (fun x3 t3 => ?_)
  refine tg_newi X hG hN0 q_52 (N := 6) 1 rfl (by omega) (by omega) (Nat.le_of_ble_eq_true rfl) (Nat.le_of_ble_eq_true rfl) dX5_init_15 (fun q4 H hq4 hG => ?_)
  have C := C.arr hb hq4 (fun j v h => Or.inl (cnT_0 (M := M) (t := (1, 6)) (fun j lo hi h => by have h : (none : Option (Int × Int)) = some (lo, hi) := h; cases h) (fun _ => rfl) j v h)) ⟨by decide, by decide, by decide⟩
  refine tg_putF X hnm hG (C.e1 _ _ hb) (C := RX5) (T := TX5) (N := 8) rfl inB_5 tyX5 tyX5_ok nmX5 1 (by decide) rfl q_229 rfl rfl rfl rfl rfl (ty_i2 tU_at) dX5_init_17 (rU _ b (fun i v => ((((dfs 5)).set 0 (.ref q2)).set 1 (.ref q4))[i]? = some v)) CS.off C.oth (CS.new (Nat.le_of_ble_eq_true rfl)) (fun H locs hG => ?_)
  have C := C.put hb (j := 1) (x := (.ref q4))
  refine lv_aload_n X.1 X.2.1 dX5_init_20 rfl (lv_at hl 0 rfl) ?_
  refine n_bp X dX5_init_21 (by decide) (by decide) (fun x5 t5 => ?_)
  refine tg_newz X hG hN0 q_257 (N := 6) 2 rfl (by omega) (by omega) (Nat.le_of_ble_eq_true rfl) (Nat.le_of_ble_eq_true rfl) dX5_init_23 (fun q6 H hq6 hG => ?_)
  have C := C.arr hb hq6 (fun j v h => Or.inl (cnT_0 (M := M) (t := (2, 6)) (fun j lo hi h => by have h : (none : Option (Int × Int)) = some (lo, hi) := h; cases h) (fun _ => rfl) j v h)) ⟨by decide, by decide, by decide⟩
  refine tg_putF X hnm hG (C.e1 _ _ hb) (C := RX5) (T := TX5) (N := 8) rfl inB_5 tyX5 tyX5_ok nmX5 2 (by decide) rfl q_230 rfl rfl rfl rfl rfl (ty_i2 tU_at) dX5_init_25 (rU _ b (fun i v => (((((dfs 5)).set 0 (.ref q2)).set 1 (.ref q4)).set 2 (.ref q6))[i]? = some v)) CS.off C.oth (CS.new (Nat.le_of_ble_eq_true rfl)) (fun H locs hG => ?_)
  have C := C.put hb (j := 2) (x := (.ref q6))
  refine lv_aload_n X.1 X.2.1 dX5_init_28 rfl (lv_at hl 0 rfl) ?_
  refine n_ic X dX5_init_29 (by decide) (by decide) (fun x7 t7 => ?_)
  refine tg_newi X hG hN0 q_52 (N := 0) 1 rfl (by omega) (by omega) (Nat.le_of_ble_eq_true rfl) (Nat.le_of_ble_eq_true rfl) dX5_init_30 (fun q8 H hq8 hG => ?_)
  have C := C.arr hb hq8 (fun j v h => Or.inl (cnT_0 (M := M) (t := (1, 0)) (fun j lo hi h => by have h : (none : Option (Int × Int)) = some (lo, hi) := h; cases h) (fun _ => rfl) j v h)) ⟨by decide, by decide, by decide⟩
  refine tg_put X hG (C.e1 _ _ hb) (C := RX5) (T := TX5) (N := 8) rfl inB_5 tyX5 tyX5_ok nmX5 3 (by decide) rfl q_231 rfl rfl rfl rfl (ty_i3 tU_at) dX5_init_32 (rU _ b (fun i v => ((((((dfs 5)).set 0 (.ref q2)).set 1 (.ref q4)).set 2 (.ref q6)).set 3 (.ref q8))[i]? = some v)) CS.off C.oth (CS.new (Nat.le_of_ble_eq_true rfl)) (fun H locs hG => ?_)
  have C := C.put hb (j := 3) (x := (.ref q8))
  refine ret _ _ _ _ (_, _) hG (C.done hb (fun _ _ _ h _ => h) (fun j v h => ?_)) dX5_init_35
  match j, h with
  | 0, h => have h : some (Value.ref q2) = some v := h; cases h; exact cnT_r
  | 1, h => have h : some (Value.ref q4) = some v := h; cases h; exact cnT_r
  | 2, h => have h : some (Value.ref q6) = some v := h; cases h; exact cnT_r
  | 3, h => have h : some (Value.ref q8) = some v := h; cases h; exact cnT_r
  | 4, h => have h : some (Value.int 0) = some v := h; cases h; exact cnT_i (fun lo hi h => by have h : (none : Option (Int × Int)) = some (lo, hi) := h; cases h)
  | 5, h => have h : some (Value.int 0) = some v := h; cases h; exact cnT_i (fun lo hi h => by have h : (none : Option (Int × Int)) = some (lo, hi) := h; cases h)
  | 6, h => have h : some (Value.int 0) = some v := h; cases h; exact cnT_i (fun lo hi h => by have h : (none : Option (Int × Int)) = some (lo, hi) := h; cases h)
  | 7, h => have h : some (Value.int 0) = some v := h; cases h; exact cnT_i (fun lo hi h => by have h : (none : Option (Int × Int)) = some (lo, hi) := h; cases h)
  | n + 8, h => have h : (none : Option Value) = some v := h; cases h
set_option maxHeartbeats 4000000 in
set_option maxRecDepth 100000 in
theorem c_X0_init (l : Launch) (D : va_G) (cy : Nat → ClassId) (τ : ty_T) (ρ : ty_R) {M : md_T} {b : Nat} (hb : τ b = some (0, 0)) (hρ : ∀ j v, ρ b j v → (dfs 0)[j]? = some v) : KC l D cy yX0_init cX0_init 1 1 2 40 τ ρ b (CP M τ ρ b) := by
  refine k_metC "EdgeEchoes$Book" rfl rfl (by decide +kernel) (Nat.le_of_ble_eq_true rfl) ?_
  intro p e s m args below meth c Q ls A X hnm hNW hN0 hG hl ret
  have C : CS M (fun _ _ => False) τ ρ b (dfs 0) τ ρ := CS.start hρ
  refine lv_aload_n X.1 X.2.1 dX0_init_0 rfl (lv_at hl 0 rfl) ?_
  refine k_obj X q_263 q_26 q_27 hl.1 ⟨Nat.le_of_ble_eq_true rfl, Nat.le_of_ble_eq_true rfl⟩ dX0_init_1 ?_
  refine lv_aload_n X.1 X.2.1 dX0_init_4 rfl (lv_at hl 0 rfl) ?_
  refine n_bp X dX0_init_5 (by decide) (by decide) (fun x1 t1 => ?_)
  refine tg_newi X hG hN0 q_52 (N := 20) 6 rfl (by omega) (by omega) (Nat.le_of_ble_eq_true rfl) (Nat.le_of_ble_eq_true rfl) dX0_init_7 (fun q2 H hq2 hG => ?_)
  have C := C.arr hb hq2 (fun j v h => Or.inl (cnT_0 (M := M) (t := (6, 20)) (fun j lo hi h => by have h : some ((0 : Int), (5 : Int)) = some (lo, hi) := h; cases h; omega) (fun _ => rfl) j v h)) ⟨by decide, by decide, by decide⟩
  refine tg_putF X hnm hG (C.e1 _ _ hb) (C := RX0) (T := TX0) (N := 3) rfl inB_0 tyX0 tyX0_ok nmX0 0 (by decide) rfl q_264 rfl rfl rfl rfl rfl (ty_i2 tU_at) dX0_init_9 (rU _ b (fun i v => (((dfs 0)).set 0 (.ref q2))[i]? = some v)) CS.off C.oth (CS.new (Nat.le_of_ble_eq_true rfl)) (fun H locs hG => ?_)
  have C := C.put hb (j := 0) (x := (.ref q2))
  refine lv_aload_n X.1 X.2.1 dX0_init_12 rfl (lv_at hl 0 rfl) ?_
  refine n_bp X dX0_init_13 (by decide) (by decide) (fun x3 t3 => ?_)
  refine tg_newi X hG hN0 q_52 (N := 20) 1 rfl (by omega) (by omega) (Nat.le_of_ble_eq_true rfl) (Nat.le_of_ble_eq_true rfl) dX0_init_15 (fun q4 H hq4 hG => ?_)
  have C := C.arr hb hq4 (fun j v h => Or.inl (cnT_0 (M := M) (t := (1, 20)) (fun j lo hi h => by have h : (none : Option (Int × Int)) = some (lo, hi) := h; cases h) (fun _ => rfl) j v h)) ⟨by decide, by decide, by decide⟩
  refine tg_putF X hnm hG (C.e1 _ _ hb) (C := RX0) (T := TX0) (N := 3) rfl inB_0 tyX0 tyX0_ok nmX0 1 (by decide) rfl q_265 rfl rfl rfl rfl rfl (ty_i2 tU_at) dX0_init_17 (rU _ b (fun i v => ((((dfs 0)).set 0 (.ref q2)).set 1 (.ref q4))[i]? = some v)) CS.off C.oth (CS.new (Nat.le_of_ble_eq_true rfl)) (fun H locs hG => ?_)
  have C := C.put hb (j := 1) (x := (.ref q4))
  refine ret _ _ _ _ (_, _) hG (C.done hb (fun _ _ _ h _ => h) (fun j v h => ?_)) dX0_init_20
  match j, h with
  | 0, h => have h : some (Value.ref q2) = some v := h; cases h; exact cnT_r
  | 1, h => have h : some (Value.ref q4) = some v := h; cases h; exact cnT_r
  | 2, h => have h : some (Value.int 0) = some v := h; cases h; exact cnT_i (fun lo hi h => by have h : (none : Option (Int × Int)) = some (lo, hi) := h; cases h)
  | n + 3, h => have h : (none : Option Value) = some v := h; cases h
