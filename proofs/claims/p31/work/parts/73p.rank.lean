/-! constructors once more: what is made points to what is made; ranks -/
def CL (τ : ty_T) (b : Nat) (u : ty_T × ty_R) : Prop := ∀ a j v, (a = b ∨ τ a = none) → u.1 a ≠ none → u.2 a j (.ref v) → τ v = none ∧ u.1 v ≠ none
def CT (τ : ty_T) (fs : List Value) (t : ty_T) (r : ty_R) : Prop := (∀ a j v, τ a = none → t a ≠ none → r a j (.ref v) → τ v = none ∧ t v ≠ none) ∧ ∀ (j v : Nat), fs[j]? = some (.ref v) → τ v = none ∧ t v ≠ none
def RR (τ t : ty_T) (r : ty_R) (L : List (Nat × Nat)) : Prop := ∃ rk : Nat → Nat, (∀ a j v, τ a = none → t a ≠ none → r a j (.ref v) → t v ≠ none ∧ rk v = rk a) ∧ ∀ p ∈ L, t p.1 ≠ none ∧ rk p.1 = p.2
def RF (b : Nat) (t : ty_T) (r : ty_R) : Prop := ∃ rk : Nat → Nat, (∀ a j v, a ≠ b → t a ≠ none → r a j (.ref v) → rk v = rk a) ∧ ∀ j v, r b j (.ref v) → rk v = j
def noR (v : Value) : Bool := match v with
  | .ref _ => false
  | _ => true
theorem tU_nn {t : ty_T} {q a : Nat} {x : ty_C} (h : tU t q x a = none) : a ≠ q ∧ t a = none := by
  by_cases e : a = q
  · rw [e, tU_at] at h
    cases h
  · rw [tU_ne e] at h
    exact ⟨e, h⟩
section CTL
variable {M : md_T} {X : Nat → Nat → Prop} {τ t : ty_T} {ρ r : ty_R} {b k q k' : Nat} {fs : List Value} {u : ty_T × ty_R} {P : Nat → Value → Prop} {L : List (Nat × Nat)}
theorem CT.start (h : (fs.all noR) = true) : CT τ fs τ ρ := ⟨fun a j v h1 h2 _ => absurd h1 h2, fun j v hj => by
  have := List.all_eq_true.mp h _ (List.mem_of_getElem? hj)
  cases this⟩
theorem sub_up (hq : t q = none) (c1 : ∀ a x, tU t q (0, k') a = some x → u.1 a = some x) : ∀ a, t a ≠ none → u.1 a ≠ none := fun a h => by
  cases e : t a with
  | none => exact absurd e h
  | some x => rw [c1 a x (tU_ext hq a x e)]; intro z; cases z
theorem CT.sub (T : CT τ fs t r) (C : CS M X τ ρ b fs t r) (hq : t q = none) (hu : CP M (tU t q (0, k')) (rU r q P) q u) (hv : CL (tU t q (0, k')) q u) : CT τ fs u.1 u.2 := by
  obtain ⟨c1, c2, c3, c4⟩ := hu
  have up := sub_up hq c1
  refine ⟨fun a j v h1 h2 h3 => ?_, fun j v h => ⟨(T.2 j v h).1, up v (T.2 j v h).2⟩⟩
  by_cases e : a = q ∨ tU t q (0, k') a = none
  · obtain ⟨z1, z2⟩ := hv a j v e h2 h3
    exact ⟨C.fresh (tU_nn z1).2, z2⟩
  · have ea : a ≠ q := fun z => e (Or.inl z)
    have et : t a ≠ none := fun z => e (Or.inr (by rw [tU_ne ea]; exact z))
    have h4 := c2 a j _ (fun z => e (Or.inr z)) ea h3
    rw [rU_ne ea] at h4
    exact ⟨(T.1 a j v h1 et h4).1, up v (T.1 a j v h1 et h4).2⟩
theorem CT.put (T : CT τ fs t r) (hb : τ b = some (0, k)) {j : Nat} {x : Value} (hx : ∀ v, x = .ref v → τ v = none ∧ t v ≠ none) : CT τ (fs.set j x) t (rU r b (fun i v => (fs.set j x)[i]? = some v)) := by
  refine ⟨fun a i v h1 h2 h3 => ?_, fun i v h => ?_⟩
  · rw [rU_ne (fun e => by rw [e, hb] at h1; cases h1)] at h3
    exact T.1 a i v h1 h2 h3
  · by_cases e : i = j
    · subst e
      by_cases hl : i < fs.length
      · rw [List.getElem?_set_self hl] at h
        cases h
        exact hx v rfl
      · rw [List.getElem?_eq_none (by rw [List.length_set]; omega)] at h
        cases h
    · rw [List.getElem?_set_ne (Ne.symm e)] at h
      exact T.2 i v h
theorem arr_up {x : ty_C} (hq : t q = none) : ∀ a, t a ≠ none → tU t q x a ≠ none := fun a h => by
  rw [tU_ne (fun e => h (by rw [e]; exact hq))]
  exact h
theorem CT.arr (T : CT τ fs t r) {x : ty_C} (hq : t q = none) (hP : ∀ j v, ¬ P j (.ref v)) : CT τ fs (tU t q x) (rU r q P) := by
  refine ⟨fun a j v h1 h2 h3 => ?_, fun j v h => ⟨(T.2 j v h).1, arr_up hq v (T.2 j v h).2⟩⟩
  by_cases e : a = q
  · rw [e, rU_at] at h3
    exact absurd h3 (hP j v)
  · rw [rU_ne e] at h3
    rw [tU_ne e] at h2
    exact ⟨(T.1 a j v h1 h2 h3).1, arr_up hq v (T.1 a j v h1 h2 h3).2⟩
theorem CT.lay (T : CT τ fs t r) {i e : Nat} (he : τ e = none ∧ t e ≠ none) : CT τ fs t (rQ r q i e) := by
  refine ⟨fun a j v h1 h2 h3 => ?_, T.2⟩
  unfold rQ at h3
  by_cases z : a = q ∧ j = i
  · rw [if_pos z] at h3
    cases h3
    exact he
  · rw [if_neg z] at h3
    exact T.1 a j v h1 h2 h3
theorem CT.done (T : CT τ fs t r) (C : CS M X τ ρ b fs t r) : CL τ b (t, r) := fun a j v h h2 h3 => by
  rcases h with h | h
  · rw [h] at h3
    exact T.2 j v (C.e5 j _ h3)
  · exact T.1 a j v h h2 h3
theorem RR.start : RR τ τ ρ [] := ⟨fun _ => 0, fun a j v h1 h2 _ => absurd h1 h2, fun p hp => by cases hp⟩
theorem RR.sub (K : Nat) (T : RR τ t r L) (hq : t q = none) (hu : CP M (tU t q (0, k')) (rU r q P) q u) (hv : CL (tU t q (0, k')) q u) : RR τ u.1 u.2 ((q, K) :: L) := by
  obtain ⟨c1, c2, c3, c4⟩ := hu
  obtain ⟨rk, R1, R2⟩ := T
  have up := sub_up hq c1
  refine ⟨fun a => if t a = none then K else rk a, fun a j v h1 h2 h3 => ?_, fun p hp => ?_⟩
  · by_cases e : a = q ∨ tU t q (0, k') a = none
    · obtain ⟨z1, z2⟩ := hv a j v e h2 h3
      refine ⟨z2, ?_⟩
      have ta : t a = none := e.elim (fun z => by rw [z]; exact hq) (fun z => (tU_nn z).2)
      show (if t v = none then K else rk v) = (if t a = none then K else rk a)
      rw [if_pos (tU_nn z1).2, if_pos ta]
    · have ea : a ≠ q := fun z => e (Or.inl z)
      have et : t a ≠ none := fun z => e (Or.inr (by rw [tU_ne ea]; exact z))
      have h4 := c2 a j _ (fun z => e (Or.inr z)) ea h3
      rw [rU_ne ea] at h4
      obtain ⟨z1, z2⟩ := R1 a j v h1 et h4
      refine ⟨up v z1, ?_⟩
      show (if t v = none then K else rk v) = (if t a = none then K else rk a)
      rw [if_neg z1, if_neg et]
      exact z2
  · rcases List.mem_cons.mp hp with rfl | hp
    · refine ⟨(by show u.1 q ≠ none; rw [c1 q _ tU_at]; intro z; cases z), ?_⟩
      show (if t q = none then K else rk q) = K
      rw [if_pos hq]
    · obtain ⟨z1, z2⟩ := R2 p hp
      refine ⟨up _ z1, ?_⟩
      show (if t p.1 = none then K else rk p.1) = p.2
      rw [if_neg z1]
      exact z2
theorem RR.put (T : RR τ t r L) (hb : τ b = some (0, k)) {P : Nat → Value → Prop} : RR τ t (rU r b P) L := by
  obtain ⟨rk, R1, R2⟩ := T
  refine ⟨rk, fun a j v h1 h2 h3 => ?_, R2⟩
  rw [rU_ne (fun e => by rw [e, hb] at h1; cases h1)] at h3
  exact R1 a j v h1 h2 h3
theorem RR.arr (K : Nat) (T : RR τ t r L) {x : ty_C} (hq : t q = none) (hP : ∀ j v, ¬ P j (.ref v)) : RR τ (tU t q x) (rU r q P) ((q, K) :: L) := by
  obtain ⟨rk, R1, R2⟩ := T
  have nq : ∀ a, t a ≠ none → a ≠ q := fun a h e => h (by rw [e]; exact hq)
  refine ⟨fun a => if a = q then K else rk a, fun a j v h1 h2 h3 => ?_, fun p hp => ?_⟩
  · by_cases e : a = q
    · rw [e, rU_at] at h3
      exact absurd h3 (hP j v)
    · rw [rU_ne e] at h3
      rw [tU_ne e] at h2
      obtain ⟨z1, z2⟩ := R1 a j v h1 h2 h3
      refine ⟨arr_up hq v z1, ?_⟩
      show (if v = q then K else rk v) = (if a = q then K else rk a)
      rw [if_neg (nq v z1), if_neg e]
      exact z2
  · rcases List.mem_cons.mp hp with rfl | hp
    · refine ⟨(by show tU t q x q ≠ none; rw [tU_at]; intro z; cases z), ?_⟩
      show (if q = q then K else rk q) = K
      rw [if_pos rfl]
    · obtain ⟨z1, z2⟩ := R2 p hp
      refine ⟨arr_up hq _ z1, ?_⟩
      show (if p.1 = q then K else rk p.1) = p.2
      rw [if_neg (nq _ z1)]
      exact z2
theorem RR.lay (T : RR τ t r L) {i e K : Nat} (hq : (q, K) ∈ L) (he : (e, K) ∈ L) : RR τ t (rQ r q i e) L := by
  obtain ⟨rk, R1, R2⟩ := T
  refine ⟨rk, fun a j v h1 h2 h3 => ?_, R2⟩
  unfold rQ at h3
  by_cases z : a = q ∧ j = i
  · rw [if_pos z] at h3
    have hve : v = e := by cases h3; rfl
    have e1 : rk e = K := (R2 _ he).2
    have e2 : rk q = K := (R2 _ hq).2
    rw [hve]
    refine ⟨(R2 _ he).1, ?_⟩
    rw [z.1, e1, e2]
  · rw [if_neg z] at h3
    exact R1 a j v h1 h2 h3
theorem RR.tl {p : Nat × Nat} (T : RR τ t r (p :: L)) : RR τ t r L := by
  obtain ⟨rk, R1, R2⟩ := T
  exact ⟨rk, R1, fun x hx => R2 x (List.mem_cons_of_mem _ hx)⟩
theorem RR.done (T : RR τ t r L) (C : CS M X τ ρ b fs t r) (hτ : ∀ a, a ≠ b → τ a = none) (hf : ∀ (j v : Nat), fs[j]? = some (.ref v) → (v, j) ∈ L) : RF b t r := by
  obtain ⟨rk, R1, R2⟩ := T
  exact ⟨rk, fun a j v h1 h2 h3 => (R1 a j v (hτ a h1) h2 h3).2, fun j v h => (R2 _ (hf j v (C.e5 j _ h))).2⟩
end CTL
set_option maxHeartbeats 4000000 in
set_option maxRecDepth 100000 in
theorem r_X8_init (l : Launch) (D : va_G) (cy : Nat → ClassId) (τ : ty_T) (ρ : ty_R) {M : md_T} {b : Nat} (hb : τ b = some (0, 8)) (hρ : ∀ j v, ρ b j v → (dfs 8)[j]? = some v) : KC l D cy yX8_init cX8_init 1 1 6 304 τ ρ b (fun u => CP M τ ρ b u ∧ CL τ b u) := by
  refine k_metC "EdgeEchoes$Wire" rfl rfl (by decide +kernel) (Nat.le_of_ble_eq_true rfl) ?_
  intro p e s m args below meth c Q ls A X hnm hNW hN0 hG hl ret
  have C : CS M (fun _ _ => False) τ ρ b (dfs 8) τ ρ := CS.start hρ
  have T : CT τ (dfs 8) τ ρ := CT.start (by decide)
  refine lv_aload_n X.1 X.2.1 dX8_init_0 rfl (lv_at hl 0 rfl) ?_
  refine k_obj X q_64 q_26 q_27 hl.1 ⟨Nat.le_of_ble_eq_true rfl, Nat.le_of_ble_eq_true rfl⟩ dX8_init_1 ?_
  refine lv_aload_n X.1 X.2.1 dX8_init_4 rfl (lv_at hl 0 rfl) ?_
  refine n_bp X dX8_init_5 (by decide) (by decide) (fun x1 t1 => ?_)
  refine tg_newi X hG hN0 q_52 (N := 8) 1 rfl (by omega) (by omega) (Nat.le_of_ble_eq_true rfl) (Nat.le_of_ble_eq_true rfl) dX8_init_7 (fun q2 H hq2 hG => ?_)
  have f2 : τ q2 = none := C.fresh hq2
  have T := T.arr (x := (1, 8)) (P := fun _ v => v = .int 0) hq2 (fun j v h => by cases h)
  have C := C.arr hb hq2 (fun j v h => Or.inl (cnT_0 (M := M) (t := (1, 8)) (fun j lo hi h => by have h : (none : Option (Int × Int)) = some (lo, hi) := h; cases h) (fun _ => rfl) j v h)) ⟨by decide, by decide, by decide⟩
  refine tg_putF X hnm hG (C.e1 _ _ hb) (C := RX8) (T := TX8) (N := 13) rfl inB_8 tyX8 tyX8_ok nmX8 0 (by decide) rfl q_65 rfl rfl rfl rfl rfl (ty_i2 tU_at) dX8_init_9 (rU _ b (fun i v => (((dfs 8)).set 0 (.ref q2))[i]? = some v)) CS.off C.oth (CS.new (Nat.le_of_ble_eq_true rfl)) (fun H locs hG => ?_)
  have T := T.put hb (j := 0) (x := (.ref q2)) (fun v z => by cases z; exact ⟨f2, by rw [tU_at]; intro z; cases z⟩)
  have C := C.put hb (j := 0) (x := (.ref q2))
  refine lv_aload_n X.1 X.2.1 dX8_init_12 rfl (lv_at hl 0 rfl) ?_
  refine n_bp X dX8_init_13 (by decide) (by decide) (fun x3 t3 => ?_)
  refine tg_newi X hG hN0 q_52 (N := 8) 5 rfl (by omega) (by omega) (Nat.le_of_ble_eq_true rfl) (Nat.le_of_ble_eq_true rfl) dX8_init_15 (fun q4 H hq4 hG => ?_)
  have f4 : τ q4 = none := C.fresh hq4
  have T := T.arr (x := (5, 8)) (P := fun _ v => v = .int 0) hq4 (fun j v h => by cases h)
  have C := C.arr hb hq4 (fun j v h => Or.inl (cnT_0 (M := M) (t := (5, 8)) (fun j lo hi h => by have h : some ((0 : Int), (72 : Int)) = some (lo, hi) := h; cases h; omega) (fun _ => rfl) j v h)) ⟨by decide, by decide, by decide⟩
  refine tg_putF X hnm hG (C.e1 _ _ hb) (C := RX8) (T := TX8) (N := 13) rfl inB_8 tyX8 tyX8_ok nmX8 1 (by decide) rfl q_67 rfl rfl rfl rfl rfl (ty_i2 tU_at) dX8_init_17 (rU _ b (fun i v => ((((dfs 8)).set 0 (.ref q2)).set 1 (.ref q4))[i]? = some v)) CS.off C.oth (CS.new (Nat.le_of_ble_eq_true rfl)) (fun H locs hG => ?_)
  have T := T.put hb (j := 1) (x := (.ref q4)) (fun v z => by cases z; exact ⟨f4, by rw [tU_at]; intro z; cases z⟩)
  have C := C.put hb (j := 1) (x := (.ref q4))
  refine lv_aload_n X.1 X.2.1 dX8_init_20 rfl (lv_at hl 0 rfl) ?_
  refine n_bp X dX8_init_21 (by decide) (by decide) (fun x5 t5 => ?_)
  refine tg_newi X hG hN0 q_52 (N := 72) 1 rfl (by omega) (by omega) (Nat.le_of_ble_eq_true rfl) (Nat.le_of_ble_eq_true rfl) dX8_init_23 (fun q6 H hq6 hG => ?_)
  have f6 : τ q6 = none := C.fresh hq6
  have T := T.arr (x := (1, 72)) (P := fun _ v => v = .int 0) hq6 (fun j v h => by cases h)
  have C := C.arr hb hq6 (fun j v h => Or.inl (cnT_0 (M := M) (t := (1, 72)) (fun j lo hi h => by have h : (none : Option (Int × Int)) = some (lo, hi) := h; cases h) (fun _ => rfl) j v h)) ⟨by decide, by decide, by decide⟩
  refine tg_putF X hnm hG (C.e1 _ _ hb) (C := RX8) (T := TX8) (N := 13) rfl inB_8 tyX8 tyX8_ok nmX8 2 (by decide) rfl q_69 rfl rfl rfl rfl rfl (ty_i2 tU_at) dX8_init_25 (rU _ b (fun i v => (((((dfs 8)).set 0 (.ref q2)).set 1 (.ref q4)).set 2 (.ref q6))[i]? = some v)) CS.off C.oth (CS.new (Nat.le_of_ble_eq_true rfl)) (fun H locs hG => ?_)
  have T := T.put hb (j := 2) (x := (.ref q6)) (fun v z => by cases z; exact ⟨f6, by rw [tU_at]; intro z; cases z⟩)
  have C := C.put hb (j := 2) (x := (.ref q6))
  refine lv_aload_n X.1 X.2.1 dX8_init_28 rfl (lv_at hl 0 rfl) ?_
  refine n_bp X dX8_init_29 (by decide) (by decide) (fun x7 t7 => ?_)
  refine tg_newi X hG hN0 q_52 (N := 72) 1 rfl (by omega) (by omega) (Nat.le_of_ble_eq_true rfl) (Nat.le_of_ble_eq_true rfl) dX8_init_31 (fun q8 H hq8 hG => ?_)
  have f8 : τ q8 = none := C.fresh hq8
  have T := T.arr (x := (1, 72)) (P := fun _ v => v = .int 0) hq8 (fun j v h => by cases h)
  have C := C.arr hb hq8 (fun j v h => Or.inl (cnT_0 (M := M) (t := (1, 72)) (fun j lo hi h => by have h : (none : Option (Int × Int)) = some (lo, hi) := h; cases h) (fun _ => rfl) j v h)) ⟨by decide, by decide, by decide⟩
  refine tg_putF X hnm hG (C.e1 _ _ hb) (C := RX8) (T := TX8) (N := 13) rfl inB_8 tyX8 tyX8_ok nmX8 3 (by decide) rfl q_70 rfl rfl rfl rfl rfl (ty_i2 tU_at) dX8_init_33 (rU _ b (fun i v => ((((((dfs 8)).set 0 (.ref q2)).set 1 (.ref q4)).set 2 (.ref q6)).set 3 (.ref q8))[i]? = some v)) CS.off C.oth (CS.new (Nat.le_of_ble_eq_true rfl)) (fun H locs hG => ?_)
  have T := T.put hb (j := 3) (x := (.ref q8)) (fun v z => by cases z; exact ⟨f8, by rw [tU_at]; intro z; cases z⟩)
  have C := C.put hb (j := 3) (x := (.ref q8))
  refine lv_aload_n X.1 X.2.1 dX8_init_36 rfl (lv_at hl 0 rfl) ?_
  refine n_bp X dX8_init_37 (by decide) (by decide) (fun x9 t9 => ?_)
  refine tg_newi X hG hN0 q_52 (N := 72) 1 rfl (by omega) (by omega) (Nat.le_of_ble_eq_true rfl) (Nat.le_of_ble_eq_true rfl) dX8_init_39 (fun q10 H hq10 hG => ?_)
  have f10 : τ q10 = none := C.fresh hq10
  have T := T.arr (x := (1, 72)) (P := fun _ v => v = .int 0) hq10 (fun j v h => by cases h)
  have C := C.arr hb hq10 (fun j v h => Or.inl (cnT_0 (M := M) (t := (1, 72)) (fun j lo hi h => by have h : (none : Option (Int × Int)) = some (lo, hi) := h; cases h) (fun _ => rfl) j v h)) ⟨by decide, by decide, by decide⟩
  refine tg_putF X hnm hG (C.e1 _ _ hb) (C := RX8) (T := TX8) (N := 13) rfl inB_8 tyX8 tyX8_ok nmX8 4 (by decide) rfl q_72 rfl rfl rfl rfl rfl (ty_i2 tU_at) dX8_init_41 (rU _ b (fun i v => (((((((dfs 8)).set 0 (.ref q2)).set 1 (.ref q4)).set 2 (.ref q6)).set 3 (.ref q8)).set 4 (.ref q10))[i]? = some v)) CS.off C.oth (CS.new (Nat.le_of_ble_eq_true rfl)) (fun H locs hG => ?_)
  have T := T.put hb (j := 4) (x := (.ref q10)) (fun v z => by cases z; exact ⟨f10, by rw [tU_at]; intro z; cases z⟩)
  have C := C.put hb (j := 4) (x := (.ref q10))
  refine lv_aload_n X.1 X.2.1 dX8_init_44 rfl (lv_at hl 0 rfl) ?_
  refine n_bp X dX8_init_45 (by decide) (by decide) (fun x11 t11 => ?_)
  refine tg_newi X hG hN0 q_52 (N := 72) 1 rfl (by omega) (by omega) (Nat.le_of_ble_eq_true rfl) (Nat.le_of_ble_eq_true rfl) dX8_init_47 (fun q12 H hq12 hG => ?_)
  have f12 : τ q12 = none := C.fresh hq12
  have T := T.arr (x := (1, 72)) (P := fun _ v => v = .int 0) hq12 (fun j v h => by cases h)
  have C := C.arr hb hq12 (fun j v h => Or.inl (cnT_0 (M := M) (t := (1, 72)) (fun j lo hi h => by have h : (none : Option (Int × Int)) = some (lo, hi) := h; cases h) (fun _ => rfl) j v h)) ⟨by decide, by decide, by decide⟩
  refine tg_putF X hnm hG (C.e1 _ _ hb) (C := RX8) (T := TX8) (N := 13) rfl inB_8 tyX8 tyX8_ok nmX8 5 (by decide) rfl q_75 rfl rfl rfl rfl rfl (ty_i2 tU_at) dX8_init_49 (rU _ b (fun i v => ((((((((dfs 8)).set 0 (.ref q2)).set 1 (.ref q4)).set 2 (.ref q6)).set 3 (.ref q8)).set 4 (.ref q10)).set 5 (.ref q12))[i]? = some v)) CS.off C.oth (CS.new (Nat.le_of_ble_eq_true rfl)) (fun H locs hG => ?_)
  have T := T.put hb (j := 5) (x := (.ref q12)) (fun v z => by cases z; exact ⟨f12, by rw [tU_at]; intro z; cases z⟩)
  have C := C.put hb (j := 5) (x := (.ref q12))
  refine ret _ _ _ _ (_, _) hG ⟨C.done hb (fun _ _ _ h _ => h) (fun j v h => ?_), T.done C⟩ dX8_init_52
  match j, h with
  | 0, h => have h : some (Value.ref q2) = some v := h; cases h; exact cnT_r
  | 1, h => have h : some (Value.ref q4) = some v := h; cases h; exact cnT_r
  | 2, h => have h : some (Value.ref q6) = some v := h; cases h; exact cnT_r
  | 3, h => have h : some (Value.ref q8) = some v := h; cases h; exact cnT_r
  | 4, h => have h : some (Value.ref q10) = some v := h; cases h; exact cnT_r
  | 5, h => have h : some (Value.ref q12) = some v := h; cases h; exact cnT_r
  | 6, h => have h : some (Value.int 0) = some v := h; cases h; exact cnT_i (fun lo hi h => by have h : some ((0 : Int), (8 : Int)) = some (lo, hi) := h; cases h; omega)
  | 7, h => have h : some (Value.int 0) = some v := h; cases h; exact cnT_i (fun lo hi h => by have h : some ((0 : Int), (72 : Int)) = some (lo, hi) := h; cases h; omega)
  | 8, h => have h : some (Value.int 0) = some v := h; cases h; exact cnT_i (fun lo hi h => by have h : (none : Option (Int × Int)) = some (lo, hi) := h; cases h)
  | 9, h => have h : some (Value.int 0) = some v := h; cases h; exact cnT_i (fun lo hi h => by have h : (none : Option (Int × Int)) = some (lo, hi) := h; cases h)
  | 10, h => have h : some (Value.int 0) = some v := h; cases h; exact cnT_i (fun lo hi h => by have h : (none : Option (Int × Int)) = some (lo, hi) := h; cases h)
  | 11, h => have h : some (Value.int 0) = some v := h; cases h; exact cnT_i (fun lo hi h => by have h : (none : Option (Int × Int)) = some (lo, hi) := h; cases h)
  | 12, h => have h : some (Value.int 0) = some v := h; cases h; exact cnT_i (fun lo hi h => by have h : (none : Option (Int × Int)) = some (lo, hi) := h; cases h)
  | n + 13, h => have h : (none : Option Value) = some v := h; cases h
set_option maxHeartbeats 4000000 in
set_option maxRecDepth 100000 in
theorem r_X1_init (l : Launch) (D : va_G) (cy : Nat → ClassId) (τ : ty_T) (ρ : ty_R) {M : md_T} {b : Nat} (hb : τ b = some (0, 1)) (hρ : ∀ j v, ρ b j v → (dfs 1)[j]? = some v) : KC l D cy yX1_init cX1_init 1 1 6 36 τ ρ b (fun u => CP M τ ρ b u ∧ CL τ b u) := by
  refine k_metC "EdgeEchoes$Gates" rfl rfl (by decide +kernel) (Nat.le_of_ble_eq_true rfl) ?_
  intro p e s m args below meth c Q ls A X hnm hNW hN0 hG hl ret
  have C : CS M (fun _ _ => False) τ ρ b (dfs 1) τ ρ := CS.start hρ
  have T : CT τ (dfs 1) τ ρ := CT.start (by decide)
  refine lv_aload_n X.1 X.2.1 dX1_init_0 rfl (lv_at hl 0 rfl) ?_
  refine k_obj X q_130 q_26 q_27 hl.1 ⟨Nat.le_of_ble_eq_true rfl, Nat.le_of_ble_eq_true rfl⟩ dX1_init_1 ?_
  refine lv_aload_n X.1 X.2.1 dX1_init_4 rfl (lv_at hl 0 rfl) ?_
  refine n_bp X dX1_init_5 (by decide) (by decide) (fun x1 t1 => ?_)
  refine tg_newi X hG hN0 q_52 (N := 6) 1 rfl (by omega) (by omega) (Nat.le_of_ble_eq_true rfl) (Nat.le_of_ble_eq_true rfl) dX1_init_7 (fun q2 H hq2 hG => ?_)
  have f2 : τ q2 = none := C.fresh hq2
  have T := T.arr (x := (1, 6)) (P := fun _ v => v = .int 0) hq2 (fun j v h => by cases h)
  have C := C.arr hb hq2 (fun j v h => Or.inl (cnT_0 (M := M) (t := (1, 6)) (fun j lo hi h => by have h : (none : Option (Int × Int)) = some (lo, hi) := h; cases h) (fun _ => rfl) j v h)) ⟨by decide, by decide, by decide⟩
  refine tg_putF X hnm hG (C.e1 _ _ hb) (C := RX1) (T := TX1) (N := 7) rfl inB_1 tyX1 tyX1_ok nmX1 0 (by decide) rfl q_131 rfl rfl rfl rfl rfl (ty_i2 tU_at) dX1_init_9 (rU _ b (fun i v => (((dfs 1)).set 0 (.ref q2))[i]? = some v)) CS.off C.oth (CS.new (Nat.le_of_ble_eq_true rfl)) (fun H locs hG => ?_)
  have T := T.put hb (j := 0) (x := (.ref q2)) (fun v z => by cases z; exact ⟨f2, by rw [tU_at]; intro z; cases z⟩)
  have C := C.put hb (j := 0) (x := (.ref q2))
  refine lv_aload_n X.1 X.2.1 dX1_init_12 rfl (lv_at hl 0 rfl) ?_
  refine n_bp X dX1_init_13 (by decide) (by decide) (fun x3 t3 => ?_)
  refine tg_newi X hG hN0 q_52 (N := 6) 1 rfl (by omega) (by omega) (Nat.le_of_ble_eq_true rfl) (Nat.le_of_ble_eq_true rfl) dX1_init_15 (fun q4 H hq4 hG => ?_)
  have f4 : τ q4 = none := C.fresh hq4
  have T := T.arr (x := (1, 6)) (P := fun _ v => v = .int 0) hq4 (fun j v h => by cases h)
  have C := C.arr hb hq4 (fun j v h => Or.inl (cnT_0 (M := M) (t := (1, 6)) (fun j lo hi h => by have h : (none : Option (Int × Int)) = some (lo, hi) := h; cases h) (fun _ => rfl) j v h)) ⟨by decide, by decide, by decide⟩
  refine tg_putF X hnm hG (C.e1 _ _ hb) (C := RX1) (T := TX1) (N := 7) rfl inB_1 tyX1 tyX1_ok nmX1 1 (by decide) rfl q_133 rfl rfl rfl rfl rfl (ty_i2 tU_at) dX1_init_17 (rU _ b (fun i v => ((((dfs 1)).set 0 (.ref q2)).set 1 (.ref q4))[i]? = some v)) CS.off C.oth (CS.new (Nat.le_of_ble_eq_true rfl)) (fun H locs hG => ?_)
  have T := T.put hb (j := 1) (x := (.ref q4)) (fun v z => by cases z; exact ⟨f4, by rw [tU_at]; intro z; cases z⟩)
  have C := C.put hb (j := 1) (x := (.ref q4))
  refine lv_aload_n X.1 X.2.1 dX1_init_20 rfl (lv_at hl 0 rfl) ?_
  refine n_bp X dX1_init_21 (by decide) (by decide) (fun x5 t5 => ?_)
  refine tg_newi X hG hN0 q_52 (N := 6) 1 rfl (by omega) (by omega) (Nat.le_of_ble_eq_true rfl) (Nat.le_of_ble_eq_true rfl) dX1_init_23 (fun q6 H hq6 hG => ?_)
  have f6 : τ q6 = none := C.fresh hq6
  have T := T.arr (x := (1, 6)) (P := fun _ v => v = .int 0) hq6 (fun j v h => by cases h)
  have C := C.arr hb hq6 (fun j v h => Or.inl (cnT_0 (M := M) (t := (1, 6)) (fun j lo hi h => by have h : (none : Option (Int × Int)) = some (lo, hi) := h; cases h) (fun _ => rfl) j v h)) ⟨by decide, by decide, by decide⟩
  refine tg_putF X hnm hG (C.e1 _ _ hb) (C := RX1) (T := TX1) (N := 7) rfl inB_1 tyX1 tyX1_ok nmX1 2 (by decide) rfl q_135 rfl rfl rfl rfl rfl (ty_i2 tU_at) dX1_init_25 (rU _ b (fun i v => (((((dfs 1)).set 0 (.ref q2)).set 1 (.ref q4)).set 2 (.ref q6))[i]? = some v)) CS.off C.oth (CS.new (Nat.le_of_ble_eq_true rfl)) (fun H locs hG => ?_)
  have T := T.put hb (j := 2) (x := (.ref q6)) (fun v z => by cases z; exact ⟨f6, by rw [tU_at]; intro z; cases z⟩)
  have C := C.put hb (j := 2) (x := (.ref q6))
  refine lv_aload_n X.1 X.2.1 dX1_init_28 rfl (lv_at hl 0 rfl) ?_
  refine n_bp X dX1_init_29 (by decide) (by decide) (fun x7 t7 => ?_)
  refine tg_newi X hG hN0 q_52 (N := 6) 1 rfl (by omega) (by omega) (Nat.le_of_ble_eq_true rfl) (Nat.le_of_ble_eq_true rfl) dX1_init_31 (fun q8 H hq8 hG => ?_)
  have f8 : τ q8 = none := C.fresh hq8
  have T := T.arr (x := (1, 6)) (P := fun _ v => v = .int 0) hq8 (fun j v h => by cases h)
  have C := C.arr hb hq8 (fun j v h => Or.inl (cnT_0 (M := M) (t := (1, 6)) (fun j lo hi h => by have h : (none : Option (Int × Int)) = some (lo, hi) := h; cases h) (fun _ => rfl) j v h)) ⟨by decide, by decide, by decide⟩
  refine tg_putF X hnm hG (C.e1 _ _ hb) (C := RX1) (T := TX1) (N := 7) rfl inB_1 tyX1 tyX1_ok nmX1 3 (by decide) rfl q_137 rfl rfl rfl rfl rfl (ty_i2 tU_at) dX1_init_33 (rU _ b (fun i v => ((((((dfs 1)).set 0 (.ref q2)).set 1 (.ref q4)).set 2 (.ref q6)).set 3 (.ref q8))[i]? = some v)) CS.off C.oth (CS.new (Nat.le_of_ble_eq_true rfl)) (fun H locs hG => ?_)
  have T := T.put hb (j := 3) (x := (.ref q8)) (fun v z => by cases z; exact ⟨f8, by rw [tU_at]; intro z; cases z⟩)
  have C := C.put hb (j := 3) (x := (.ref q8))
  refine lv_aload_n X.1 X.2.1 dX1_init_36 rfl (lv_at hl 0 rfl) ?_
  refine n_bp X dX1_init_37 (by decide) (by decide) (fun x9 t9 => ?_)
  refine tg_newi X hG hN0 q_52 (N := 6) 1 rfl (by omega) (by omega) (Nat.le_of_ble_eq_true rfl) (Nat.le_of_ble_eq_true rfl) dX1_init_39 (fun q10 H hq10 hG => ?_)
  have f10 : τ q10 = none := C.fresh hq10
  have T := T.arr (x := (1, 6)) (P := fun _ v => v = .int 0) hq10 (fun j v h => by cases h)
  have C := C.arr hb hq10 (fun j v h => Or.inl (cnT_0 (M := M) (t := (1, 6)) (fun j lo hi h => by have h : (none : Option (Int × Int)) = some (lo, hi) := h; cases h) (fun _ => rfl) j v h)) ⟨by decide, by decide, by decide⟩
  refine tg_putF X hnm hG (C.e1 _ _ hb) (C := RX1) (T := TX1) (N := 7) rfl inB_1 tyX1 tyX1_ok nmX1 4 (by decide) rfl q_140 rfl rfl rfl rfl rfl (ty_i2 tU_at) dX1_init_41 (rU _ b (fun i v => (((((((dfs 1)).set 0 (.ref q2)).set 1 (.ref q4)).set 2 (.ref q6)).set 3 (.ref q8)).set 4 (.ref q10))[i]? = some v)) CS.off C.oth (CS.new (Nat.le_of_ble_eq_true rfl)) (fun H locs hG => ?_)
  have T := T.put hb (j := 4) (x := (.ref q10)) (fun v z => by cases z; exact ⟨f10, by rw [tU_at]; intro z; cases z⟩)
  have C := C.put hb (j := 4) (x := (.ref q10))
  refine lv_aload_n X.1 X.2.1 dX1_init_44 rfl (lv_at hl 0 rfl) ?_
  refine n_bp X dX1_init_45 (by decide) (by decide) (fun x11 t11 => ?_)
  refine tg_newi X hG hN0 q_52 (N := 6) 1 rfl (by omega) (by omega) (Nat.le_of_ble_eq_true rfl) (Nat.le_of_ble_eq_true rfl) dX1_init_47 (fun q12 H hq12 hG => ?_)
  have f12 : τ q12 = none := C.fresh hq12
  have T := T.arr (x := (1, 6)) (P := fun _ v => v = .int 0) hq12 (fun j v h => by cases h)
  have C := C.arr hb hq12 (fun j v h => Or.inl (cnT_0 (M := M) (t := (1, 6)) (fun j lo hi h => by have h : (none : Option (Int × Int)) = some (lo, hi) := h; cases h) (fun _ => rfl) j v h)) ⟨by decide, by decide, by decide⟩
  refine tg_putF X hnm hG (C.e1 _ _ hb) (C := RX1) (T := TX1) (N := 7) rfl inB_1 tyX1 tyX1_ok nmX1 5 (by decide) rfl q_143 rfl rfl rfl rfl rfl (ty_i2 tU_at) dX1_init_49 (rU _ b (fun i v => ((((((((dfs 1)).set 0 (.ref q2)).set 1 (.ref q4)).set 2 (.ref q6)).set 3 (.ref q8)).set 4 (.ref q10)).set 5 (.ref q12))[i]? = some v)) CS.off C.oth (CS.new (Nat.le_of_ble_eq_true rfl)) (fun H locs hG => ?_)
  have T := T.put hb (j := 5) (x := (.ref q12)) (fun v z => by cases z; exact ⟨f12, by rw [tU_at]; intro z; cases z⟩)
  have C := C.put hb (j := 5) (x := (.ref q12))
  refine ret _ _ _ _ (_, _) hG ⟨C.done hb (fun _ _ _ h _ => h) (fun j v h => ?_), T.done C⟩ dX1_init_52
  match j, h with
  | 0, h => have h : some (Value.ref q2) = some v := h; cases h; exact cnT_r
  | 1, h => have h : some (Value.ref q4) = some v := h; cases h; exact cnT_r
  | 2, h => have h : some (Value.ref q6) = some v := h; cases h; exact cnT_r
  | 3, h => have h : some (Value.ref q8) = some v := h; cases h; exact cnT_r
  | 4, h => have h : some (Value.ref q10) = some v := h; cases h; exact cnT_r
  | 5, h => have h : some (Value.ref q12) = some v := h; cases h; exact cnT_r
  | 6, h => have h : some (Value.int 0) = some v := h; cases h; exact cnT_i (fun lo hi h => by have h : some ((0 : Int), (6 : Int)) = some (lo, hi) := h; cases h; omega)
  | n + 7, h => have h : (none : Option Value) = some v := h; cases h
set_option maxHeartbeats 4000000 in
set_option maxRecDepth 100000 in
theorem r_X3_init (l : Launch) (D : va_G) (cy : Nat → ClassId) (τ : ty_T) (ρ : ty_R) {M : md_T} {b : Nat} (hb : τ b = some (0, 3)) (hρ : ∀ j v, ρ b j v → (dfs 3)[j]? = some v) : KC l D cy yX3_init cX3_init 1 2 14 360 τ ρ b (fun u => CP M τ ρ b u ∧ CL τ b u) := by
  refine k_metC "EdgeEchoes$Line" rfl rfl (by decide +kernel) (Nat.le_of_ble_eq_true rfl) ?_
  intro p e s m args below meth c Q ls A X hnm hNW hN0 hG hl ret
  have C : CS M (fun _ _ => False) τ ρ b (dfs 3) τ ρ := CS.start hρ
  have T : CT τ (dfs 3) τ ρ := CT.start (by decide)
  refine lv_aload_n X.1 X.2.1 dX3_init_0 rfl (lv_at hl 0 rfl) ?_
  refine k_obj X q_58 q_26 q_27 hl.1 ⟨Nat.le_of_ble_eq_true rfl, Nat.le_of_ble_eq_true rfl⟩ dX3_init_1 ?_
  refine lv_aload_n X.1 X.2.1 dX3_init_4 rfl (lv_at hl 0 rfl) ?_
  refine tg_newo X hG hN0 8 (C := RX8) (T := TX8) (N := 13) rfl inB_8 tyX8 tyX8_ok (by decide) dfo_8 q_59 q_60 q_4 (Nat.le_of_ble_eq_true rfl) (Nat.le_of_ble_eq_true rfl) dX3_init_5 (fun q1 H hq1 hG => ?_)
  refine lv_dup X.1 X.2.1 dX3_init_8 rfl ?_
  refine k_cN X hNW hG hN0 (r_X8_init l D cy _ _ (M := M) tU_at (fun j v h => by rw [rU_at] at h; exact h)) yc_X8 (List.mem_of_getElem? (i := 2) rfl) ⟨Nat.le_of_ble_eq_true rfl, Nat.le_of_ble_eq_true rfl⟩ hl.1 (Nat.le_of_ble_eq_true rfl) ⟨Nat.le_of_ble_eq_true rfl, Nat.le_of_ble_eq_true rfl⟩ dX3_init_9 (fun u1 H locs hG hu1 => ?_)
  obtain ⟨hu1, hv1⟩ := hu1
  have hk1 := hu1.1 q1 _ tU_at
  have f1 : τ q1 = none := C.fresh hq1
  have T := T.sub C hq1 hu1 hv1
  have C := C.sub hb hq1 (by decide) hu1
  refine tg_putF X hnm hG (C.e1 _ _ hb) (C := RX3) (T := TX3) (N := 4) rfl inB_3 tyX3 tyX3_ok nmX3 0 (by decide) rfl q_162 rfl rfl rfl rfl rfl (ty_i2 hk1) dX3_init_12 (rU _ b (fun i v => (((dfs 3)).set 0 (.ref q1))[i]? = some v)) CS.off C.oth (CS.new (Nat.le_of_ble_eq_true rfl)) (fun H locs hG => ?_)
  have T := T.put hb (j := 0) (x := (.ref q1)) (fun v z => by cases z; exact ⟨f1, by rw [hk1]; intro z; cases z⟩)
  have C := C.put hb (j := 0) (x := (.ref q1))
  refine lv_aload_n X.1 X.2.1 dX3_init_15 rfl (lv_at hl 0 rfl) ?_
  refine tg_newo X hG hN0 1 (C := RX1) (T := TX1) (N := 7) rfl inB_1 tyX1 tyX1_ok (by decide) dfo_1 q_125 q_126 q_5 (Nat.le_of_ble_eq_true rfl) (Nat.le_of_ble_eq_true rfl) dX3_init_16 (fun q2 H hq2 hG => ?_)
  refine lv_dup X.1 X.2.1 dX3_init_19 rfl ?_
  refine k_cN X hNW hG hN0 (r_X1_init l D cy _ _ (M := M) tU_at (fun j v h => by rw [rU_at] at h; exact h)) yc_X1 (List.mem_of_getElem? (i := 3) rfl) ⟨Nat.le_of_ble_eq_true rfl, Nat.le_of_ble_eq_true rfl⟩ hl.1 (Nat.le_of_ble_eq_true rfl) ⟨Nat.le_of_ble_eq_true rfl, Nat.le_of_ble_eq_true rfl⟩ dX3_init_20 (fun u2 H locs hG hu2 => ?_)
  obtain ⟨hu2, hv2⟩ := hu2
  have hk2 := hu2.1 q2 _ tU_at
  have f2 : τ q2 = none := C.fresh hq2
  have T := T.sub C hq2 hu2 hv2
  have C := C.sub hb hq2 (by decide) hu2
  refine tg_putF X hnm hG (C.e1 _ _ hb) (C := RX3) (T := TX3) (N := 4) rfl inB_3 tyX3 tyX3_ok nmX3 1 (by decide) rfl q_167 rfl rfl rfl rfl rfl (ty_i2 hk2) dX3_init_23 (rU _ b (fun i v => ((((dfs 3)).set 0 (.ref q1)).set 1 (.ref q2))[i]? = some v)) CS.off C.oth (CS.new (Nat.le_of_ble_eq_true rfl)) (fun H locs hG => ?_)
  have T := T.put hb (j := 1) (x := (.ref q2)) (fun v z => by cases z; exact ⟨f2, by rw [hk2]; intro z; cases z⟩)
  have C := C.put hb (j := 1) (x := (.ref q2))
  refine ret _ _ _ _ (_, _) hG ⟨C.done hb (fun _ _ _ h _ => h) (fun j v h => ?_), T.done C⟩ dX3_init_26
  match j, h with
  | 0, h => have h : some (Value.ref q1) = some v := h; cases h; exact cnT_r
  | 1, h => have h : some (Value.ref q2) = some v := h; cases h; exact cnT_r
  | 2, h => have h : some (Value.int 0) = some v := h; cases h; exact cnT_i (fun lo hi h => by have h : (none : Option (Int × Int)) = some (lo, hi) := h; cases h)
  | 3, h => have h : some (Value.int 0) = some v := h; cases h; exact cnT_i (fun lo hi h => by have h : (none : Option (Int × Int)) = some (lo, hi) := h; cases h)
  | n + 4, h => have h : (none : Option Value) = some v := h; cases h
set_option maxHeartbeats 4000000 in
set_option maxRecDepth 100000 in
theorem r_X2_init (l : Launch) (D : va_G) (cy : Nat → ClassId) (τ : ty_T) (ρ : ty_R) {M : md_T} {b : Nat} (hb : τ b = some (0, 2)) (hρ : ∀ j v, ρ b j v → (dfs 2)[j]? = some v) : KC l D cy yX2_init cX2_init 1 3 15 364 τ ρ b (fun u => CP M τ ρ b u ∧ CL τ b u) := by
  refine k_metC "EdgeEchoes$Image" rfl rfl (by decide +kernel) (Nat.le_of_ble_eq_true rfl) ?_
  intro p e s m args below meth c Q ls A X hnm hNW hN0 hG hl ret
  have C : CS M (fun _ _ => False) τ ρ b (dfs 2) τ ρ := CS.start hρ
  have T : CT τ (dfs 2) τ ρ := CT.start (by decide)
  refine lv_aload_n X.1 X.2.1 dX2_init_0 rfl (lv_at hl 0 rfl) ?_
  refine k_obj X q_281 q_26 q_27 hl.1 ⟨Nat.le_of_ble_eq_true rfl, Nat.le_of_ble_eq_true rfl⟩ dX2_init_1 ?_
  refine lv_aload_n X.1 X.2.1 dX2_init_4 rfl (lv_at hl 0 rfl) ?_
  refine tg_newo X hG hN0 3 (C := RX3) (T := TX3) (N := 4) rfl inB_3 tyX3 tyX3_ok (by decide) dfo_3 q_282 q_54 q_3 (Nat.le_of_ble_eq_true rfl) (Nat.le_of_ble_eq_true rfl) dX2_init_5 (fun q1 H hq1 hG => ?_)
  refine lv_dup X.1 X.2.1 dX2_init_8 rfl ?_
  refine k_cN X hNW hG hN0 (r_X3_init l D cy _ _ (M := M) tU_at (fun j v h => by rw [rU_at] at h; exact h)) yc_X3 (List.mem_of_getElem? (i := 10) rfl) ⟨Nat.le_of_ble_eq_true rfl, Nat.le_of_ble_eq_true rfl⟩ hl.1 (Nat.le_of_ble_eq_true rfl) ⟨Nat.le_of_ble_eq_true rfl, Nat.le_of_ble_eq_true rfl⟩ dX2_init_9 (fun u1 H locs hG hu1 => ?_)
  obtain ⟨hu1, hv1⟩ := hu1
  have hk1 := hu1.1 q1 _ tU_at
  have f1 : τ q1 = none := C.fresh hq1
  have T := T.sub C hq1 hu1 hv1
  have C := C.sub hb hq1 (by decide) hu1
  refine tg_putF X hnm hG (C.e1 _ _ hb) (C := RX2) (T := TX2) (N := 3) rfl inB_2 tyX2 tyX2_ok nmX2 0 (by decide) rfl q_284 rfl rfl rfl rfl rfl (ty_i2 hk1) dX2_init_12 (rU _ b (fun i v => (((dfs 2)).set 0 (.ref q1))[i]? = some v)) CS.off C.oth (CS.new (Nat.le_of_ble_eq_true rfl)) (fun H locs hG => ?_)
  have T := T.put hb (j := 0) (x := (.ref q1)) (fun v z => by cases z; exact ⟨f1, by rw [hk1]; intro z; cases z⟩)
  have C := C.put hb (j := 0) (x := (.ref q1))
  refine ret _ _ _ _ (_, _) hG ⟨C.done hb (fun _ _ _ h _ => h) (fun j v h => ?_), T.done C⟩ dX2_init_15
  match j, h with
  | 0, h => have h : some (Value.ref q1) = some v := h; cases h; exact cnT_r
  | 1, h => have h : some (Value.int 0) = some v := h; cases h; exact cnT_i (fun lo hi h => by have h : (none : Option (Int × Int)) = some (lo, hi) := h; cases h)
  | 2, h => have h : some (Value.int 0) = some v := h; cases h; exact cnT_i (fun lo hi h => by have h : (none : Option (Int × Int)) = some (lo, hi) := h; cases h)
  | n + 3, h => have h : (none : Option Value) = some v := h; cases h
set_option maxHeartbeats 4000000 in
set_option maxRecDepth 100000 in
theorem r_X6_init (l : Launch) (D : va_G) (cy : Nat → ClassId) (τ : ty_T) (ρ : ty_R) {M : md_T} {b : Nat} (hb : τ b = some (0, 6)) (hρ : ∀ j v, ρ b j v → (dfs 6)[j]? = some v) : KC l D cy yX6_init cX6_init 1 1 2 243 τ ρ b (fun u => CP M τ ρ b u ∧ CL τ b u) := by
  refine k_metC "EdgeEchoes$Text" rfl rfl (by decide +kernel) (Nat.le_of_ble_eq_true rfl) ?_
  intro p e s m args below meth c Q ls A X hnm hNW hN0 hG hl ret
  have C : CS M (fun _ _ => False) τ ρ b (dfs 6) τ ρ := CS.start hρ
  have T : CT τ (dfs 6) τ ρ := CT.start (by decide)
  refine lv_aload_n X.1 X.2.1 dX6_init_0 rfl (lv_at hl 0 rfl) ?_
  refine k_obj X q_33 q_26 q_27 hl.1 ⟨Nat.le_of_ble_eq_true rfl, Nat.le_of_ble_eq_true rfl⟩ dX6_init_1 ?_
  refine lv_aload_n X.1 X.2.1 dX6_init_4 rfl (lv_at hl 0 rfl) ?_
  refine n_sp X dX6_init_5 (by decide) (by decide) (fun x1 t1 => ?_)
  refine tg_newi X hG hN0 q_52 (N := 240) 8 rfl (by omega) (by omega) (Nat.le_of_ble_eq_true rfl) (Nat.le_of_ble_eq_true rfl) dX6_init_8 (fun q2 H hq2 hG => ?_)
  have f2 : τ q2 = none := C.fresh hq2
  have T := T.arr (x := (8, 240)) (P := fun _ v => v = .int 0) hq2 (fun j v h => by cases h)
  have C := C.arr hb hq2 (fun j v h => Or.inl (cnT_0 (M := M) (t := (8, 240)) (fun j lo hi h => by have h : (none : Option (Int × Int)) = some (lo, hi) := h; cases h) (fun _ => rfl) j v h)) ⟨by decide, by decide, by decide⟩
  refine tg_putF X hnm hG (C.e1 _ _ hb) (C := RX6) (T := TX6) (N := 5) rfl inB_6 tyX6 tyX6_ok nmX6 0 (by decide) rfl q_34 rfl rfl rfl rfl rfl (ty_i2 tU_at) dX6_init_10 (rU _ b (fun i v => (((dfs 6)).set 0 (.ref q2))[i]? = some v)) CS.off C.oth (CS.new (Nat.le_of_ble_eq_true rfl)) (fun H locs hG => ?_)
  have T := T.put hb (j := 0) (x := (.ref q2)) (fun v z => by cases z; exact ⟨f2, by rw [tU_at]; intro z; cases z⟩)
  have C := C.put hb (j := 0) (x := (.ref q2))
  refine lv_aload_n X.1 X.2.1 dX6_init_13 rfl (lv_at hl 0 rfl) ?_
  refine n_ic X dX6_init_14 (by decide) (by decide) (fun x3 t3 => ?_)
  refine tg_newi X hG hN0 q_52 (N := 3) 9 rfl (by omega) (by omega) (Nat.le_of_ble_eq_true rfl) (Nat.le_of_ble_eq_true rfl) dX6_init_15 (fun q4 H hq4 hG => ?_)
  have f4 : τ q4 = none := C.fresh hq4
  have T := T.arr (x := (9, 3)) (P := fun _ v => v = .int 0) hq4 (fun j v h => by cases h)
  have C := C.arr hb hq4 (fun j v h => Or.inl (cnT_0 (M := M) (t := (9, 3)) (fun j lo hi h => by have h : (none : Option (Int × Int)) = some (lo, hi) := h; cases h) (fun _ => rfl) j v h)) ⟨by decide, by decide, by decide⟩
  refine tg_putF X hnm hG (C.e1 _ _ hb) (C := RX6) (T := TX6) (N := 5) rfl inB_6 tyX6 tyX6_ok nmX6 1 (by decide) rfl q_35 rfl rfl rfl rfl rfl (ty_i2 tU_at) dX6_init_17 (rU _ b (fun i v => ((((dfs 6)).set 0 (.ref q2)).set 1 (.ref q4))[i]? = some v)) CS.off C.oth (CS.new (Nat.le_of_ble_eq_true rfl)) (fun H locs hG => ?_)
  have T := T.put hb (j := 1) (x := (.ref q4)) (fun v z => by cases z; exact ⟨f4, by rw [tU_at]; intro z; cases z⟩)
  have C := C.put hb (j := 1) (x := (.ref q4))
  refine ret _ _ _ _ (_, _) hG ⟨C.done hb (fun _ _ _ h _ => h) (fun j v h => ?_), T.done C⟩ dX6_init_20
  match j, h with
  | 0, h => have h : some (Value.ref q2) = some v := h; cases h; exact cnT_r
  | 1, h => have h : some (Value.ref q4) = some v := h; cases h; exact cnT_r
  | 2, h => have h : some (Value.int 0) = some v := h; cases h; exact cnT_i (fun lo hi h => by have h : (none : Option (Int × Int)) = some (lo, hi) := h; cases h)
  | 3, h => have h : some (Value.int 0) = some v := h; cases h; exact cnT_i (fun lo hi h => by have h : (none : Option (Int × Int)) = some (lo, hi) := h; cases h)
  | 4, h => have h : some (Value.int 0) = some v := h; cases h; exact cnT_i (fun lo hi h => by have h : (none : Option (Int × Int)) = some (lo, hi) := h; cases h)
  | n + 5, h => have h : (none : Option Value) = some v := h; cases h
set_option maxHeartbeats 4000000 in
set_option maxRecDepth 100000 in
theorem r_X7_init (l : Launch) (D : va_G) (cy : Nat → ClassId) (τ : ty_T) (ρ : ty_R) {M : md_T} {b : Nat} (hb : τ b = some (0, 7)) (hρ : ∀ j v, ρ b j v → (dfs 7)[j]? = some v) : KC l D cy yX7_init cX7_init 1 3 16 565 τ ρ b (fun u => CP M τ ρ b u ∧ CL τ b u) := by
  refine k_metC "EdgeEchoes$Trial" rfl rfl (by decide +kernel) (Nat.le_of_ble_eq_true rfl) ?_
  intro p e s m args below meth c Q ls A X hnm hNW hN0 hG hl ret
  have C : CS M (fun _ _ => False) τ ρ b (dfs 7) τ ρ := CS.start hρ
  have T : CT τ (dfs 7) τ ρ := CT.start (by decide)
  refine lv_aload_n X.1 X.2.1 dX7_init_0 rfl (lv_at hl 0 rfl) ?_
  refine k_obj X q_190 q_26 q_27 hl.1 ⟨Nat.le_of_ble_eq_true rfl, Nat.le_of_ble_eq_true rfl⟩ dX7_init_1 ?_
  refine lv_aload_n X.1 X.2.1 dX7_init_4 rfl (lv_at hl 0 rfl) ?_
  refine tg_newo X hG hN0 3 (C := RX3) (T := TX3) (N := 4) rfl inB_3 tyX3 tyX3_ok (by decide) dfo_3 q_191 q_54 q_3 (Nat.le_of_ble_eq_true rfl) (Nat.le_of_ble_eq_true rfl) dX7_init_5 (fun q1 H hq1 hG => ?_)
  refine lv_dup X.1 X.2.1 dX7_init_8 rfl ?_
  refine k_cN X hNW hG hN0 (r_X3_init l D cy _ _ (M := M) tU_at (fun j v h => by rw [rU_at] at h; exact h)) yc_X3 (List.mem_of_getElem? (i := 5) rfl) ⟨Nat.le_of_ble_eq_true rfl, Nat.le_of_ble_eq_true rfl⟩ hl.1 (Nat.le_of_ble_eq_true rfl) ⟨Nat.le_of_ble_eq_true rfl, Nat.le_of_ble_eq_true rfl⟩ dX7_init_9 (fun u1 H locs hG hu1 => ?_)
  obtain ⟨hu1, hv1⟩ := hu1
  have hk1 := hu1.1 q1 _ tU_at
  have f1 : τ q1 = none := C.fresh hq1
  have T := T.sub C hq1 hu1 hv1
  have C := C.sub hb hq1 (by decide) hu1
  refine tg_putF X hnm hG (C.e1 _ _ hb) (C := RX7) (T := TX7) (N := 2) rfl inB_7 tyX7 tyX7_ok nmX7 0 (by decide) rfl q_193 rfl rfl rfl rfl rfl (ty_i2 hk1) dX7_init_12 (rU _ b (fun i v => (((dfs 7)).set 0 (.ref q1))[i]? = some v)) CS.off C.oth (CS.new (Nat.le_of_ble_eq_true rfl)) (fun H locs hG => ?_)
  have T := T.put hb (j := 0) (x := (.ref q1)) (fun v z => by cases z; exact ⟨f1, by rw [hk1]; intro z; cases z⟩)
  have C := C.put hb (j := 0) (x := (.ref q1))
  refine lv_aload_n X.1 X.2.1 dX7_init_15 rfl (lv_at hl 0 rfl) ?_
  refine n_sp X dX7_init_16 (by decide) (by decide) (fun x2 t2 => ?_)
  refine tg_newi X hG hN0 q_52 (N := 201) 1 rfl (by omega) (by omega) (Nat.le_of_ble_eq_true rfl) (Nat.le_of_ble_eq_true rfl) dX7_init_19 (fun q3 H hq3 hG => ?_)
  have f3 : τ q3 = none := C.fresh hq3
  have T := T.arr (x := (1, 201)) (P := fun _ v => v = .int 0) hq3 (fun j v h => by cases h)
  have C := C.arr hb hq3 (fun j v h => Or.inl (cnT_0 (M := M) (t := (1, 201)) (fun j lo hi h => by have h : (none : Option (Int × Int)) = some (lo, hi) := h; cases h) (fun _ => rfl) j v h)) ⟨by decide, by decide, by decide⟩
  refine tg_putF X hnm hG (C.e1 _ _ hb) (C := RX7) (T := TX7) (N := 2) rfl inB_7 tyX7 tyX7_ok nmX7 1 (by decide) rfl q_196 rfl rfl rfl rfl rfl (ty_i2 tU_at) dX7_init_21 (rU _ b (fun i v => ((((dfs 7)).set 0 (.ref q1)).set 1 (.ref q3))[i]? = some v)) CS.off C.oth (CS.new (Nat.le_of_ble_eq_true rfl)) (fun H locs hG => ?_)
  have T := T.put hb (j := 1) (x := (.ref q3)) (fun v z => by cases z; exact ⟨f3, by rw [tU_at]; intro z; cases z⟩)
  have C := C.put hb (j := 1) (x := (.ref q3))
  refine ret _ _ _ _ (_, _) hG ⟨C.done hb (fun _ _ _ h _ => h) (fun j v h => ?_), T.done C⟩ dX7_init_24
  match j, h with
  | 0, h => have h : some (Value.ref q1) = some v := h; cases h; exact cnT_r
  | 1, h => have h : some (Value.ref q3) = some v := h; cases h; exact cnT_r
  | n + 2, h => have h : (none : Option Value) = some v := h; cases h
set_option maxHeartbeats 4000000 in
set_option maxRecDepth 100000 in
theorem r_X5_init (l : Launch) (D : va_G) (cy : Nat → ClassId) (τ : ty_T) (ρ : ty_R) {M : md_T} {b : Nat} (hb : τ b = some (0, 5)) (hρ : ∀ j v, ρ b j v → (dfs 5)[j]? = some v) : KC l D cy yX5_init cX5_init 1 1 4 18 τ ρ b (fun u => CP M τ ρ b u ∧ CL τ b u) := by
  refine k_metC "EdgeEchoes$Suspects" rfl rfl (by decide +kernel) (Nat.le_of_ble_eq_true rfl) ?_
  intro p e s m args below meth c Q ls A X hnm hNW hN0 hG hl ret
  have C : CS M (fun _ _ => False) τ ρ b (dfs 5) τ ρ := CS.start hρ
  have T : CT τ (dfs 5) τ ρ := CT.start (by decide)
  refine lv_aload_n X.1 X.2.1 dX5_init_0 rfl (lv_at hl 0 rfl) ?_
  refine k_obj X q_227 q_26 q_27 hl.1 ⟨Nat.le_of_ble_eq_true rfl, Nat.le_of_ble_eq_true rfl⟩ dX5_init_1 ?_
  refine lv_aload_n X.1 X.2.1 dX5_init_4 rfl (lv_at hl 0 rfl) ?_
  refine n_bp X dX5_init_5 (by decide) (by decide) (fun x1 t1 => ?_)
  refine tg_newi X hG hN0 q_52 (N := 6) 7 rfl (by omega) (by omega) (Nat.le_of_ble_eq_true rfl) (Nat.le_of_ble_eq_true rfl) dX5_init_7 (fun q2 H hq2 hG => ?_)
  have f2 : τ q2 = none := C.fresh hq2
  have T := T.arr (x := (7, 6)) (P := fun _ v => v = .int 0) hq2 (fun j v h => by cases h)
  have C := C.arr hb hq2 (fun j v h => Or.inl (cnT_0 (M := M) (t := (7, 6)) (fun j lo hi h => by have h : some ((0 : Int), (150 : Int)) = some (lo, hi) := h; cases h; omega) (fun _ => rfl) j v h)) ⟨by decide, by decide, by decide⟩
  refine tg_putF X hnm hG (C.e1 _ _ hb) (C := RX5) (T := TX5) (N := 8) rfl inB_5 tyX5 tyX5_ok nmX5 0 (by decide) rfl q_228 rfl rfl rfl rfl rfl (ty_i2 tU_at) dX5_init_9 (rU _ b (fun i v => (((dfs 5)).set 0 (.ref q2))[i]? = some v)) CS.off C.oth (CS.new (Nat.le_of_ble_eq_true rfl)) (fun H locs hG => ?_)
  have T := T.put hb (j := 0) (x := (.ref q2)) (fun v z => by cases z; exact ⟨f2, by rw [tU_at]; intro z; cases z⟩)
  have C := C.put hb (j := 0) (x := (.ref q2))
  refine lv_aload_n X.1 X.2.1 dX5_init_12 rfl (lv_at hl 0 rfl) ?_
  refine n_bp X dX5_init_13 (by decide) (by decide) (fun x3 t3 => ?_)
  refine tg_newi X hG hN0 q_52 (N := 6) 1 rfl (by omega) (by omega) (Nat.le_of_ble_eq_true rfl) (Nat.le_of_ble_eq_true rfl) dX5_init_15 (fun q4 H hq4 hG => ?_)
  have f4 : τ q4 = none := C.fresh hq4
  have T := T.arr (x := (1, 6)) (P := fun _ v => v = .int 0) hq4 (fun j v h => by cases h)
  have C := C.arr hb hq4 (fun j v h => Or.inl (cnT_0 (M := M) (t := (1, 6)) (fun j lo hi h => by have h : (none : Option (Int × Int)) = some (lo, hi) := h; cases h) (fun _ => rfl) j v h)) ⟨by decide, by decide, by decide⟩
  refine tg_putF X hnm hG (C.e1 _ _ hb) (C := RX5) (T := TX5) (N := 8) rfl inB_5 tyX5 tyX5_ok nmX5 1 (by decide) rfl q_229 rfl rfl rfl rfl rfl (ty_i2 tU_at) dX5_init_17 (rU _ b (fun i v => ((((dfs 5)).set 0 (.ref q2)).set 1 (.ref q4))[i]? = some v)) CS.off C.oth (CS.new (Nat.le_of_ble_eq_true rfl)) (fun H locs hG => ?_)
  have T := T.put hb (j := 1) (x := (.ref q4)) (fun v z => by cases z; exact ⟨f4, by rw [tU_at]; intro z; cases z⟩)
  have C := C.put hb (j := 1) (x := (.ref q4))
  refine lv_aload_n X.1 X.2.1 dX5_init_20 rfl (lv_at hl 0 rfl) ?_
  refine n_bp X dX5_init_21 (by decide) (by decide) (fun x5 t5 => ?_)
  refine tg_newz X hG hN0 q_257 (N := 6) 2 rfl (by omega) (by omega) (Nat.le_of_ble_eq_true rfl) (Nat.le_of_ble_eq_true rfl) dX5_init_23 (fun q6 H hq6 hG => ?_)
  have f6 : τ q6 = none := C.fresh hq6
  have T := T.arr (x := (2, 6)) (P := fun _ v => v = .int 0) hq6 (fun j v h => by cases h)
  have C := C.arr hb hq6 (fun j v h => Or.inl (cnT_0 (M := M) (t := (2, 6)) (fun j lo hi h => by have h : (none : Option (Int × Int)) = some (lo, hi) := h; cases h) (fun _ => rfl) j v h)) ⟨by decide, by decide, by decide⟩
  refine tg_putF X hnm hG (C.e1 _ _ hb) (C := RX5) (T := TX5) (N := 8) rfl inB_5 tyX5 tyX5_ok nmX5 2 (by decide) rfl q_230 rfl rfl rfl rfl rfl (ty_i2 tU_at) dX5_init_25 (rU _ b (fun i v => (((((dfs 5)).set 0 (.ref q2)).set 1 (.ref q4)).set 2 (.ref q6))[i]? = some v)) CS.off C.oth (CS.new (Nat.le_of_ble_eq_true rfl)) (fun H locs hG => ?_)
  have T := T.put hb (j := 2) (x := (.ref q6)) (fun v z => by cases z; exact ⟨f6, by rw [tU_at]; intro z; cases z⟩)
  have C := C.put hb (j := 2) (x := (.ref q6))
  refine lv_aload_n X.1 X.2.1 dX5_init_28 rfl (lv_at hl 0 rfl) ?_
  refine n_ic X dX5_init_29 (by decide) (by decide) (fun x7 t7 => ?_)
  refine tg_newi X hG hN0 q_52 (N := 0) 1 rfl (by omega) (by omega) (Nat.le_of_ble_eq_true rfl) (Nat.le_of_ble_eq_true rfl) dX5_init_30 (fun q8 H hq8 hG => ?_)
  have f8 : τ q8 = none := C.fresh hq8
  have T := T.arr (x := (1, 0)) (P := fun _ v => v = .int 0) hq8 (fun j v h => by cases h)
  have C := C.arr hb hq8 (fun j v h => Or.inl (cnT_0 (M := M) (t := (1, 0)) (fun j lo hi h => by have h : (none : Option (Int × Int)) = some (lo, hi) := h; cases h) (fun _ => rfl) j v h)) ⟨by decide, by decide, by decide⟩
  refine tg_put X hG (C.e1 _ _ hb) (C := RX5) (T := TX5) (N := 8) rfl inB_5 tyX5 tyX5_ok nmX5 3 (by decide) rfl q_231 rfl rfl rfl rfl (ty_i3 tU_at) dX5_init_32 (rU _ b (fun i v => ((((((dfs 5)).set 0 (.ref q2)).set 1 (.ref q4)).set 2 (.ref q6)).set 3 (.ref q8))[i]? = some v)) CS.off C.oth (CS.new (Nat.le_of_ble_eq_true rfl)) (fun H locs hG => ?_)
  have T := T.put hb (j := 3) (x := (.ref q8)) (fun v z => by cases z; exact ⟨f8, by rw [tU_at]; intro z; cases z⟩)
  have C := C.put hb (j := 3) (x := (.ref q8))
  refine ret _ _ _ _ (_, _) hG ⟨C.done hb (fun _ _ _ h _ => h) (fun j v h => ?_), T.done C⟩ dX5_init_35
  match j, h with
  | 0, h => have h : some (Value.ref q2) = some v := h; cases h; exact cnT_r
  | 1, h => have h : some (Value.ref q4) = some v := h; cases h; exact cnT_r
  | 2, h => have h : some (Value.ref q6) = some v := h; cases h; exact cnT_r
  | 3, h => have h : some (Value.ref q8) = some v := h; cases h; exact cnT_r
  | 4, h => have h : some (Value.int 0) = some v := h; cases h; exact cnT_i (fun lo hi h => by have h : (none : Option (Int × Int)) = some (lo, hi) := h; cases h)
  | 5, h => have h : some (Value.int 0) = some v := h; cases h; exact cnT_i (fun lo hi h => by have h : (none : Option (Int × Int)) = some (lo, hi) := h; cases h)
  | 6, h => have h : some (Value.int 0) = some v := h; cases h; exact cnT_i (fun lo hi h => by have h : (none : Option (Int × Int)) = some (lo, hi) := h; cases h)
  | 7, h => have h : some (Value.int 0) = some v := h; cases h; exact cnT_i (fun lo hi h => by have h : (none : Option (Int × Int)) = some (lo, hi) := h; cases h)
  | n + 8, h => have h : (none : Option Value) = some v := h; cases h
set_option maxHeartbeats 4000000 in
set_option maxRecDepth 100000 in
theorem r_X0_init (l : Launch) (D : va_G) (cy : Nat → ClassId) (τ : ty_T) (ρ : ty_R) {M : md_T} {b : Nat} (hb : τ b = some (0, 0)) (hρ : ∀ j v, ρ b j v → (dfs 0)[j]? = some v) : KC l D cy yX0_init cX0_init 1 1 2 40 τ ρ b (fun u => CP M τ ρ b u ∧ CL τ b u) := by
  refine k_metC "EdgeEchoes$Book" rfl rfl (by decide +kernel) (Nat.le_of_ble_eq_true rfl) ?_
  intro p e s m args below meth c Q ls A X hnm hNW hN0 hG hl ret
  have C : CS M (fun _ _ => False) τ ρ b (dfs 0) τ ρ := CS.start hρ
  have T : CT τ (dfs 0) τ ρ := CT.start (by decide)
  refine lv_aload_n X.1 X.2.1 dX0_init_0 rfl (lv_at hl 0 rfl) ?_
  refine k_obj X q_263 q_26 q_27 hl.1 ⟨Nat.le_of_ble_eq_true rfl, Nat.le_of_ble_eq_true rfl⟩ dX0_init_1 ?_
  refine lv_aload_n X.1 X.2.1 dX0_init_4 rfl (lv_at hl 0 rfl) ?_
  refine n_bp X dX0_init_5 (by decide) (by decide) (fun x1 t1 => ?_)
  refine tg_newi X hG hN0 q_52 (N := 20) 6 rfl (by omega) (by omega) (Nat.le_of_ble_eq_true rfl) (Nat.le_of_ble_eq_true rfl) dX0_init_7 (fun q2 H hq2 hG => ?_)
  have f2 : τ q2 = none := C.fresh hq2
  have T := T.arr (x := (6, 20)) (P := fun _ v => v = .int 0) hq2 (fun j v h => by cases h)
  have C := C.arr hb hq2 (fun j v h => Or.inl (cnT_0 (M := M) (t := (6, 20)) (fun j lo hi h => by have h : some ((0 : Int), (5 : Int)) = some (lo, hi) := h; cases h; omega) (fun _ => rfl) j v h)) ⟨by decide, by decide, by decide⟩
  refine tg_putF X hnm hG (C.e1 _ _ hb) (C := RX0) (T := TX0) (N := 3) rfl inB_0 tyX0 tyX0_ok nmX0 0 (by decide) rfl q_264 rfl rfl rfl rfl rfl (ty_i2 tU_at) dX0_init_9 (rU _ b (fun i v => (((dfs 0)).set 0 (.ref q2))[i]? = some v)) CS.off C.oth (CS.new (Nat.le_of_ble_eq_true rfl)) (fun H locs hG => ?_)
  have T := T.put hb (j := 0) (x := (.ref q2)) (fun v z => by cases z; exact ⟨f2, by rw [tU_at]; intro z; cases z⟩)
  have C := C.put hb (j := 0) (x := (.ref q2))
  refine lv_aload_n X.1 X.2.1 dX0_init_12 rfl (lv_at hl 0 rfl) ?_
  refine n_bp X dX0_init_13 (by decide) (by decide) (fun x3 t3 => ?_)
  refine tg_newi X hG hN0 q_52 (N := 20) 1 rfl (by omega) (by omega) (Nat.le_of_ble_eq_true rfl) (Nat.le_of_ble_eq_true rfl) dX0_init_15 (fun q4 H hq4 hG => ?_)
  have f4 : τ q4 = none := C.fresh hq4
  have T := T.arr (x := (1, 20)) (P := fun _ v => v = .int 0) hq4 (fun j v h => by cases h)
  have C := C.arr hb hq4 (fun j v h => Or.inl (cnT_0 (M := M) (t := (1, 20)) (fun j lo hi h => by have h : (none : Option (Int × Int)) = some (lo, hi) := h; cases h) (fun _ => rfl) j v h)) ⟨by decide, by decide, by decide⟩
  refine tg_putF X hnm hG (C.e1 _ _ hb) (C := RX0) (T := TX0) (N := 3) rfl inB_0 tyX0 tyX0_ok nmX0 1 (by decide) rfl q_265 rfl rfl rfl rfl rfl (ty_i2 tU_at) dX0_init_17 (rU _ b (fun i v => ((((dfs 0)).set 0 (.ref q2)).set 1 (.ref q4))[i]? = some v)) CS.off C.oth (CS.new (Nat.le_of_ble_eq_true rfl)) (fun H locs hG => ?_)
  have T := T.put hb (j := 1) (x := (.ref q4)) (fun v z => by cases z; exact ⟨f4, by rw [tU_at]; intro z; cases z⟩)
  have C := C.put hb (j := 1) (x := (.ref q4))
  refine ret _ _ _ _ (_, _) hG ⟨C.done hb (fun _ _ _ h _ => h) (fun j v h => ?_), T.done C⟩ dX0_init_20
  match j, h with
  | 0, h => have h : some (Value.ref q2) = some v := h; cases h; exact cnT_r
  | 1, h => have h : some (Value.ref q4) = some v := h; cases h; exact cnT_r
  | 2, h => have h : some (Value.int 0) = some v := h; cases h; exact cnT_i (fun lo hi h => by have h : (none : Option (Int × Int)) = some (lo, hi) := h; cases h)
  | n + 3, h => have h : (none : Option Value) = some v := h; cases h
set_option maxHeartbeats 4000000 in
set_option maxRecDepth 100000 in
theorem r_X4_init (l : Launch) (D : va_G) (cy : Nat → ClassId) (τ : ty_T) (ρ : ty_R) {M : md_T} {b : Nat} (hb : τ b = some (0, 4)) (hρ : ∀ j v, ρ b j v → (dfs 4)[j]? = some v) : KC l D cy yX4_init cX4_init 2 3 181 4380 τ ρ b (fun u => CP M τ ρ b u ∧ CL τ b u) := by
  refine k_metC "EdgeEchoes$Past" rfl rfl (by decide +kernel) (Nat.le_of_ble_eq_true rfl) ?_
  intro p e s m args below meth c Q ls A X hnm hNW hN0 hG hl ret
  have C : CS M (fun _ _ => False) τ ρ b (dfs 4) τ ρ := CS.start hρ
  have T : CT τ (dfs 4) τ ρ := CT.start (by decide)
  refine lv_aload_n X.1 X.2.1 dX4_init_0 rfl (lv_at hl 0 rfl) ?_
  refine k_obj X q_207 q_26 q_27 hl.1 ⟨Nat.le_of_ble_eq_true rfl, Nat.le_of_ble_eq_true rfl⟩ dX4_init_1 ?_
  refine lv_aload_n X.1 X.2.1 dX4_init_4 rfl (lv_at hl 0 rfl) ?_
  refine n_bp X dX4_init_5 (by decide) (by decide) (fun x1 t1 => ?_)
  refine tg_newr X hG hN0 3 (Or.inl ⟨rfl, rfl⟩) q_208 hNW.2.1 (N := 12) (by omega) (by omega) (Nat.le_of_ble_eq_true rfl) (Nat.le_of_ble_eq_true rfl) dX4_init_7 (fun q2 H hq2 hG => ?_)
  have hz := C.fresh hq2
  have hqb : q2 ≠ b := fun z => by rw [z, hb] at hz; cases hz
  have f2 : τ q2 = none := C.fresh hq2
  have T := T.arr (x := (3, 12)) (P := fun j v => j < 12 ∧ v = .null) hq2 (fun j v h => by cases h.2)
  have C := (C.weak (X2 := fun a j => a = q2 ∧ 0 ≤ j) (fun _ _ h => h.elim)).arr hb hq2 (u := (3, 12)) (P := fun j v => j < 12 ∧ v = .null) (fun j v h => Or.inr ⟨rfl, Nat.zero_le _⟩) ⟨by decide, by decide, by decide⟩
  refine tg_putF X hnm hG (C.e1 _ _ hb) (C := RX4) (T := TX4) (N := 3) rfl inB_4 tyX4 tyX4_ok nmX4 0 (by decide) rfl q_211 rfl rfl rfl rfl rfl (ty_i2 tU_at) dX4_init_10 (rU _ b (fun i v => (((dfs 4)).set 0 (.ref q2))[i]? = some v)) CS.off C.oth (CS.new (Nat.le_of_ble_eq_true rfl)) (fun H locs hG => ?_)
  have T := T.put hb (j := 0) (x := (.ref q2)) (fun v z => by cases z; exact ⟨f2, by rw [tU_at]; intro z; cases z⟩)
  have C := C.put hb (j := 0) (x := (.ref q2))
  refine n_ic X dX4_init_13 (by decide) (by decide) (fun x3 t3 => ?_)
  refine lv_istore_n (lv' := [(1, .int x3), (0, .ref b)]) X.1 X.2.1 dX4_init_14 rfl hl (by decide) rfl (fun ls hl => ?_)
  have J : ∀ (n i : Nat) (t : ty_T) (r : ty_R) (H : Heap) (locs : List Loc) (ls : Array Slot) (x : Int32), x.toInt = (i : Int) → i ≤ 12 → 12 - i < n → TG D cy t r A s.heap H locs → CS M (fun a j => a = q2 ∧ i ≤ j) τ ρ b (((dfs 4)).set 0 (.ref q2)) t r → CT τ (((dfs 4)).set 0 (.ref q2)) t r → t q2 = some (3, 12) → (∀ j v, r q2 j v → j < 12) → lv_has ls 2 [(0, .ref b), (1, .int x)] → W p l e (rC 3 181 4380) s m args below meth c H locs (1 + 15 * i) (12 + 364 * i) Q (F0 m 15 ls []) := by
    intro n
    induction n with
    | zero => intro i t r H locs ls x ex hi hm hG C T ht hr hl; exact absurd hm (Nat.not_lt_zero _)
    | succ n ih =>
      intro i t r H locs ls x ex hi hm hG C T ht hr hl
      refine lv_iload_n X.1 X.2.1 dX4_init_15 rfl (lv_at hl 1 rfl) ?_
      refine n_bp X dX4_init_16 (by decide) (by decide) (fun y1 s1 => ?_)
      refine n_icmp_ge (tgt := 40) X dX4_init_18 (by decide) (fun c1 => ?_) (fun c1 => ?_)
      · have hi2 : i = 12 := by omega
        subst hi2
        refine ret _ _ _ _ (_, _) hG ⟨C.done hb (fun a j v h h2 => by obtain ⟨rfl, h⟩ := h; exact absurd (hr j v h2) (by omega)) (fun j v h => ?_), T.done C⟩ dX4_init_40
        match j, h with
        | 0, h => have h : some (Value.ref q2) = some v := h; cases h; exact cnT_r
        | 1, h => have h : some (Value.int 0) = some v := h; cases h; exact cnT_i (fun lo hi h => by have h : (none : Option (Int × Int)) = some (lo, hi) := h; cases h)
        | 2, h => have h : some (Value.int 0) = some v := h; cases h; exact cnT_i (fun lo hi h => by have h : some ((0 : Int), (11 : Int)) = some (lo, hi) := h; cases h; omega)
        | n + 3, h => have h : (none : Option Value) = some v := h; cases h
      · refine lv_aload_n X.1 X.2.1 dX4_init_21 rfl (lv_at hl 0 rfl) ?_
        refine gf_4_0 X hG (C.e1 _ _ hb) q_211 dX4_init_22 (fun h => by have z : some (Value.ref q2) = some Value.null := C.e5 0 _ h; cases z) (fun a1 h1 r1 => ?_)
        have z : some (Value.ref q2) = some (Value.ref a1) := C.e5 0 _ r1
        cases z
        refine lv_iload_n X.1 X.2.1 dX4_init_25 rfl (lv_at hl 1 rfl) ?_
        refine tg_newo X hG hN0 3 (C := RX3) (T := TX3) (N := 4) rfl inB_3 tyX3 tyX3_ok (by decide) dfo_3 q_208 q_54 q_3 (by show _ ≤ 181; omega) (by show _ ≤ 4380; omega) dX4_init_26 (fun e1 H he1 hG => ?_)
        refine lv_dup X.1 X.2.1 dX4_init_29 rfl ?_
        refine k_cN X hNW hG hN0 (r_X3_init l D cy _ _ (M := M) tU_at (fun j v h => by rw [rU_at] at h; exact h)) yc_X3 (List.mem_of_getElem? (i := 6) rfl) ⟨Nat.le_of_ble_eq_true rfl, Nat.le_of_ble_eq_true rfl⟩ hl.1 (Nat.le_of_ble_eq_true rfl) ⟨by show _ ≤ 181; omega, by show _ ≤ 4380; omega⟩ dX4_init_30 (fun u1 H locs hG hu1 => ?_)
        obtain ⟨hu1, hv1⟩ := hu1
        have hk1 := hu1.1 e1 _ tU_at
        have f1 : τ e1 = none := C.fresh he1
        have T2 := T.sub C he1 hu1 hv1
        have C2 := C.sub hb he1 (by decide) hu1
        have hae : q2 ≠ e1 := fun z => by rw [z, he1] at ht; cases ht
        have ht2 := hu1.1 q2 _ (tU_ext he1 q2 _ ht)
        have hr2 : ∀ j v, u1.2 q2 j v → j < 12 := fun j v h => hr j v (by have z := hu1.2.1 q2 j v (by rw [tU_ne hae, ht]; intro z; cases z) hae h; rw [rU_ne hae] at z; exact z)
        have ix : x.toNatClampNeg = i := by have := cI_clamp (x := x) (by omega); omega
        refine tg_aast X hG (Or.inl rfl) ht2 hk1 (cI_in (n := 12) (by omega)) dX4_init_33 (rQ u1.2 q2 i e1) rQ_off (by rw [ix]; exact rQ_oth) (by rw [ix]; exact rQ_new) (fun H locs hG => ?_)
        refine n_inc X (fun z => [(1, .int z), (0, .ref b)]) dX4_init_34 hl (k := 1) rfl (by decide) (by decide) (by omega) (by omega) (by decide) (fun _ => rfl) (fun y2 ls s2 hl => ?_)
        have hl : lv_has ls 2 [(1, .int y2), (0, .ref b)] := hl
        refine lv_goto (tgt := 15) X.1 X.2.1 dX4_init_37 (by decide) ?_
        rw [show 1 + 15 * i + 1 + 14 = 1 + 15 * (i + 1) by omega, show 12 + 364 * i + 4 + 360 = 12 + 364 * (i + 1) by omega]
        exact ih (i + 1) _ _ _ _ _ y2 (by omega) (by omega) (by omega) hG (C2.lay hb hz ht2) (T2.lay (q := q2) (i := i) ⟨f1, by rw [hk1]; intro z; cases z⟩) ht2 (fun j v h => (rQ_in h).elim (fun z => by omega) (hr2 j v)) (lv_sub hl [1, 0] rfl)
  exact J 13 0 _ _ _ _ _ x3 (by omega) (by omega) (by omega) hG C T tU_at (fun j v h => by rw [rU_ne hqb, rU_at] at h; exact h.1) (lv_sub hl [1, 0] rfl)
set_option maxHeartbeats 4000000 in
set_option maxRecDepth 100000 in
theorem r_X9_init (l : Launch) (D : va_G) (cy : Nat → ClassId) (τ : ty_T) (ρ : ty_R) {M : md_T} {b : Nat} (hb : τ b = some (0, 9)) (hτ : ∀ a, a ≠ b → τ a = none) (hρ : ∀ j v, ρ b j v → (dfs 9)[j]? = some v) : KC l D cy yX9_init cX9_init 2 4 258 6367 τ ρ b (fun u => CP M τ ρ b u ∧ DD b u.2 ∧ RF b u.1 u.2) := by
  refine k_metC "EdgeEchoes" rfl rfl (by decide +kernel) (Nat.le_of_ble_eq_true rfl) ?_
  intro p e s m args below meth c Q ls A X hnm hNW hN0 hG hl ret
  have C : CS M (fun _ _ => False) τ ρ b (dfs 9) τ ρ := CS.start hρ
  have T : RR τ τ ρ [] := RR.start
  refine lv_aload_n X.1 X.2.1 dX9_init_0 rfl (lv_at hl 0 rfl) ?_
  refine k_obj X q_25 q_26 q_27 hl.1 ⟨Nat.le_of_ble_eq_true rfl, Nat.le_of_ble_eq_true rfl⟩ dX9_init_1 ?_
  refine lv_aload_n X.1 X.2.1 dX9_init_4 rfl (lv_at hl 0 rfl) ?_
  refine tg_newo X hG hN0 6 (C := RX6) (T := TX6) (N := 5) rfl inB_6 tyX6 tyX6_ok (by decide) dfo_6 q_28 q_29 q_2 (Nat.le_of_ble_eq_true rfl) (Nat.le_of_ble_eq_true rfl) dX9_init_5 (fun q1 H hq1 hG => ?_)
  refine lv_dup X.1 X.2.1 dX9_init_8 rfl ?_
  refine k_cN X hNW hG hN0 (r_X6_init l D cy _ _ (M := M) tU_at (fun j v h => by rw [rU_at] at h; exact h)) yc_X6 (List.mem_of_getElem? (i := 0) rfl) ⟨Nat.le_of_ble_eq_true rfl, Nat.le_of_ble_eq_true rfl⟩ hl.1 (Nat.le_of_ble_eq_true rfl) ⟨Nat.le_of_ble_eq_true rfl, Nat.le_of_ble_eq_true rfl⟩ dX9_init_9 (fun u1 H locs hG hu1 => ?_)
  obtain ⟨hu1, hv1⟩ := hu1
  have hk1 := hu1.1 q1 _ tU_at
  have f1 : τ q1 = none := C.fresh hq1
  have T := T.sub 0 hq1 hu1 hv1
  have C := C.sub hb hq1 (by decide) hu1
  refine tg_putF X hnm hG (C.e1 _ _ hb) (C := RX9) (T := TX9) (N := 9) rfl inB_9 tyX9 tyX9_ok nmX9 0 (by decide) rfl q_295 rfl rfl rfl rfl rfl (ty_i2 hk1) dX9_init_12 (rU _ b (fun i v => (((dfs 9)).set 0 (.ref q1))[i]? = some v)) CS.off C.oth (CS.new (Nat.le_of_ble_eq_true rfl)) (fun H locs hG => ?_)
  have T := T.put hb (P := fun i v => (((dfs 9)).set 0 (.ref q1))[i]? = some v)
  have C := C.put hb (j := 0) (x := (.ref q1))
  refine lv_aload_n X.1 X.2.1 dX9_init_15 rfl (lv_at hl 0 rfl) ?_
  refine tg_newo X hG hN0 3 (C := RX3) (T := TX3) (N := 4) rfl inB_3 tyX3 tyX3_ok (by decide) dfo_3 q_53 q_54 q_3 (Nat.le_of_ble_eq_true rfl) (Nat.le_of_ble_eq_true rfl) dX9_init_16 (fun q2 H hq2 hG => ?_)
  refine lv_dup X.1 X.2.1 dX9_init_19 rfl ?_
  refine k_cN X hNW hG hN0 (r_X3_init l D cy _ _ (M := M) tU_at (fun j v h => by rw [rU_at] at h; exact h)) yc_X3 (List.mem_of_getElem? (i := 1) rfl) ⟨Nat.le_of_ble_eq_true rfl, Nat.le_of_ble_eq_true rfl⟩ hl.1 (Nat.le_of_ble_eq_true rfl) ⟨Nat.le_of_ble_eq_true rfl, Nat.le_of_ble_eq_true rfl⟩ dX9_init_20 (fun u2 H locs hG hu2 => ?_)
  obtain ⟨hu2, hv2⟩ := hu2
  have hk2 := hu2.1 q2 _ tU_at
  have f2 : τ q2 = none := C.fresh hq2
  have T := T.sub 1 hq2 hu2 hv2
  have C := C.sub hb hq2 (by decide) hu2
  refine tg_putF X hnm hG (C.e1 _ _ hb) (C := RX9) (T := TX9) (N := 9) rfl inB_9 tyX9 tyX9_ok nmX9 1 (by decide) rfl q_296 rfl rfl rfl rfl rfl (ty_i2 hk2) dX9_init_23 (rU _ b (fun i v => ((((dfs 9)).set 0 (.ref q1)).set 1 (.ref q2))[i]? = some v)) CS.off C.oth (CS.new (Nat.le_of_ble_eq_true rfl)) (fun H locs hG => ?_)
  have T := T.put hb (P := fun i v => ((((dfs 9)).set 0 (.ref q1)).set 1 (.ref q2))[i]? = some v)
  have C := C.put hb (j := 1) (x := (.ref q2))
  refine lv_aload_n X.1 X.2.1 dX9_init_26 rfl (lv_at hl 0 rfl) ?_
  refine tg_newo X hG hN0 7 (C := RX7) (T := TX7) (N := 2) rfl inB_7 tyX7 tyX7_ok (by decide) dfo_7 q_185 q_186 q_6 (Nat.le_of_ble_eq_true rfl) (Nat.le_of_ble_eq_true rfl) dX9_init_27 (fun q3 H hq3 hG => ?_)
  refine lv_dup X.1 X.2.1 dX9_init_30 rfl ?_
  refine k_cN X hNW hG hN0 (r_X7_init l D cy _ _ (M := M) tU_at (fun j v h => by rw [rU_at] at h; exact h)) yc_X7 (List.mem_of_getElem? (i := 4) rfl) ⟨Nat.le_of_ble_eq_true rfl, Nat.le_of_ble_eq_true rfl⟩ hl.1 (Nat.le_of_ble_eq_true rfl) ⟨Nat.le_of_ble_eq_true rfl, Nat.le_of_ble_eq_true rfl⟩ dX9_init_31 (fun u3 H locs hG hu3 => ?_)
  obtain ⟨hu3, hv3⟩ := hu3
  have hk3 := hu3.1 q3 _ tU_at
  have f3 : τ q3 = none := C.fresh hq3
  have T := T.sub 2 hq3 hu3 hv3
  have C := C.sub hb hq3 (by decide) hu3
  refine tg_putF X hnm hG (C.e1 _ _ hb) (C := RX9) (T := TX9) (N := 9) rfl inB_9 tyX9 tyX9_ok nmX9 2 (by decide) rfl q_297 rfl rfl rfl rfl rfl (ty_i2 hk3) dX9_init_34 (rU _ b (fun i v => (((((dfs 9)).set 0 (.ref q1)).set 1 (.ref q2)).set 2 (.ref q3))[i]? = some v)) CS.off C.oth (CS.new (Nat.le_of_ble_eq_true rfl)) (fun H locs hG => ?_)
  have T := T.put hb (P := fun i v => (((((dfs 9)).set 0 (.ref q1)).set 1 (.ref q2)).set 2 (.ref q3))[i]? = some v)
  have C := C.put hb (j := 2) (x := (.ref q3))
  refine lv_aload_n X.1 X.2.1 dX9_init_37 rfl (lv_at hl 0 rfl) ?_
  refine tg_newo X hG hN0 4 (C := RX4) (T := TX4) (N := 3) rfl inB_4 tyX4 tyX4_ok (by decide) dfo_4 q_202 q_203 q_7 (Nat.le_of_ble_eq_true rfl) (Nat.le_of_ble_eq_true rfl) dX9_init_38 (fun q4 H hq4 hG => ?_)
  refine lv_dup X.1 X.2.1 dX9_init_41 rfl ?_
  refine k_cO X hNW hG hN0 (r_X4_init l D cy _ _ (M := M) tU_at (fun j v h => by rw [rU_at] at h; exact h)) yc_X4 q_204 ⟨Nat.le_of_ble_eq_true rfl, Nat.le_of_ble_eq_true rfl⟩ hl.1 (Nat.le_of_ble_eq_true rfl) ⟨Nat.le_of_ble_eq_true rfl, Nat.le_of_ble_eq_true rfl⟩ dX9_init_42 (fun u4 H locs hG hu4 => ?_)
  obtain ⟨hu4, hv4⟩ := hu4
  have hk4 := hu4.1 q4 _ tU_at
  have f4 : τ q4 = none := C.fresh hq4
  have T := T.sub 3 hq4 hu4 hv4
  have C := C.sub hb hq4 (by decide) hu4
  refine tg_putF X hnm hG (C.e1 _ _ hb) (C := RX9) (T := TX9) (N := 9) rfl inB_9 tyX9 tyX9_ok nmX9 3 (by decide) rfl q_298 rfl rfl rfl rfl rfl (ty_i2 hk4) dX9_init_45 (rU _ b (fun i v => ((((((dfs 9)).set 0 (.ref q1)).set 1 (.ref q2)).set 2 (.ref q3)).set 3 (.ref q4))[i]? = some v)) CS.off C.oth (CS.new (Nat.le_of_ble_eq_true rfl)) (fun H locs hG => ?_)
  have T := T.put hb (P := fun i v => ((((((dfs 9)).set 0 (.ref q1)).set 1 (.ref q2)).set 2 (.ref q3)).set 3 (.ref q4))[i]? = some v)
  have C := C.put hb (j := 3) (x := (.ref q4))
  refine lv_aload_n X.1 X.2.1 dX9_init_48 rfl (lv_at hl 0 rfl) ?_
  refine tg_newo X hG hN0 5 (C := RX5) (T := TX5) (N := 8) rfl inB_5 tyX5 tyX5_ok (by decide) dfo_5 q_222 q_223 q_8 (Nat.le_of_ble_eq_true rfl) (Nat.le_of_ble_eq_true rfl) dX9_init_49 (fun q5 H hq5 hG => ?_)
  refine lv_dup X.1 X.2.1 dX9_init_52 rfl ?_
  refine k_cN X hNW hG hN0 (r_X5_init l D cy _ _ (M := M) tU_at (fun j v h => by rw [rU_at] at h; exact h)) yc_X5 (List.mem_of_getElem? (i := 7) rfl) ⟨Nat.le_of_ble_eq_true rfl, Nat.le_of_ble_eq_true rfl⟩ hl.1 (Nat.le_of_ble_eq_true rfl) ⟨Nat.le_of_ble_eq_true rfl, Nat.le_of_ble_eq_true rfl⟩ dX9_init_53 (fun u5 H locs hG hu5 => ?_)
  obtain ⟨hu5, hv5⟩ := hu5
  have hk5 := hu5.1 q5 _ tU_at
  have f5 : τ q5 = none := C.fresh hq5
  have T := T.sub 4 hq5 hu5 hv5
  have C := C.sub hb hq5 (by decide) hu5
  refine tg_putF X hnm hG (C.e1 _ _ hb) (C := RX9) (T := TX9) (N := 9) rfl inB_9 tyX9 tyX9_ok nmX9 4 (by decide) rfl q_299 rfl rfl rfl rfl rfl (ty_i2 hk5) dX9_init_56 (rU _ b (fun i v => (((((((dfs 9)).set 0 (.ref q1)).set 1 (.ref q2)).set 2 (.ref q3)).set 3 (.ref q4)).set 4 (.ref q5))[i]? = some v)) CS.off C.oth (CS.new (Nat.le_of_ble_eq_true rfl)) (fun H locs hG => ?_)
  have T := T.put hb (P := fun i v => (((((((dfs 9)).set 0 (.ref q1)).set 1 (.ref q2)).set 2 (.ref q3)).set 3 (.ref q4)).set 4 (.ref q5))[i]? = some v)
  have C := C.put hb (j := 4) (x := (.ref q5))
  refine lv_aload_n X.1 X.2.1 dX9_init_59 rfl (lv_at hl 0 rfl) ?_
  refine tg_newo X hG hN0 0 (C := RX0) (T := TX0) (N := 3) rfl inB_0 tyX0 tyX0_ok (by decide) dfo_0 q_258 q_259 q_9 (Nat.le_of_ble_eq_true rfl) (Nat.le_of_ble_eq_true rfl) dX9_init_60 (fun q6 H hq6 hG => ?_)
  refine lv_dup X.1 X.2.1 dX9_init_63 rfl ?_
  refine k_cN X hNW hG hN0 (r_X0_init l D cy _ _ (M := M) tU_at (fun j v h => by rw [rU_at] at h; exact h)) yc_X0 (List.mem_of_getElem? (i := 8) rfl) ⟨Nat.le_of_ble_eq_true rfl, Nat.le_of_ble_eq_true rfl⟩ hl.1 (Nat.le_of_ble_eq_true rfl) ⟨Nat.le_of_ble_eq_true rfl, Nat.le_of_ble_eq_true rfl⟩ dX9_init_64 (fun u6 H locs hG hu6 => ?_)
  obtain ⟨hu6, hv6⟩ := hu6
  have hk6 := hu6.1 q6 _ tU_at
  have f6 : τ q6 = none := C.fresh hq6
  have T := T.sub 5 hq6 hu6 hv6
  have C := C.sub hb hq6 (by decide) hu6
  refine tg_putF X hnm hG (C.e1 _ _ hb) (C := RX9) (T := TX9) (N := 9) rfl inB_9 tyX9 tyX9_ok nmX9 5 (by decide) rfl q_300 rfl rfl rfl rfl rfl (ty_i2 hk6) dX9_init_67 (rU _ b (fun i v => ((((((((dfs 9)).set 0 (.ref q1)).set 1 (.ref q2)).set 2 (.ref q3)).set 3 (.ref q4)).set 4 (.ref q5)).set 5 (.ref q6))[i]? = some v)) CS.off C.oth (CS.new (Nat.le_of_ble_eq_true rfl)) (fun H locs hG => ?_)
  have T := T.put hb (P := fun i v => ((((((((dfs 9)).set 0 (.ref q1)).set 1 (.ref q2)).set 2 (.ref q3)).set 3 (.ref q4)).set 4 (.ref q5)).set 5 (.ref q6))[i]? = some v)
  have C := C.put hb (j := 5) (x := (.ref q6))
  refine lv_aload_n X.1 X.2.1 dX9_init_70 rfl (lv_at hl 0 rfl) ?_
  refine n_ic X dX9_init_71 (by decide) (by decide) (fun x7 t7 => ?_)
  refine tg_newr X hG hN0 4 (Or.inr ⟨rfl, rfl⟩) q_275 hNW.2.2 (N := 2) (by omega) (by omega) (Nat.le_of_ble_eq_true rfl) (Nat.le_of_ble_eq_true rfl) dX9_init_72 (fun q8 H hq8 hG => ?_)
  have hz := C.fresh hq8
  have hqb : q8 ≠ b := fun z => by rw [z, hb] at hz; cases hz
  have f8 : τ q8 = none := C.fresh hq8
  have T := T.arr 6 (x := (4, 2)) (P := fun j v => j < 2 ∧ v = .null) hq8 (fun j v h => by cases h.2)
  have C := (C.weak (X2 := fun a j => a = q8 ∧ 0 ≤ j) (fun _ _ h => h.elim)).arr hb hq8 (u := (4, 2)) (P := fun j v => j < 2 ∧ v = .null) (fun j v h => Or.inr ⟨rfl, Nat.zero_le _⟩) ⟨by decide, by decide, by decide⟩
  refine tg_putF X hnm hG (C.e1 _ _ hb) (C := RX9) (T := TX9) (N := 9) rfl inB_9 tyX9 tyX9_ok nmX9 6 (by decide) rfl q_301 rfl rfl rfl rfl rfl (ty_i2 tU_at) dX9_init_75 (rU _ b (fun i v => (((((((((dfs 9)).set 0 (.ref q1)).set 1 (.ref q2)).set 2 (.ref q3)).set 3 (.ref q4)).set 4 (.ref q5)).set 5 (.ref q6)).set 6 (.ref q8))[i]? = some v)) CS.off C.oth (CS.new (Nat.le_of_ble_eq_true rfl)) (fun H locs hG => ?_)
  have T := T.put hb (P := fun i v => (((((((((dfs 9)).set 0 (.ref q1)).set 1 (.ref q2)).set 2 (.ref q3)).set 3 (.ref q4)).set 4 (.ref q5)).set 5 (.ref q6)).set 6 (.ref q8))[i]? = some v)
  have C := C.put hb (j := 6) (x := (.ref q8))
  refine lv_aload_n X.1 X.2.1 dX9_init_78 rfl (lv_at hl 0 rfl) ?_
  refine n_ic X dX9_init_79 (by decide) (by decide) (fun x9 t9 => ?_)
  refine tg_put X hG (C.e1 _ _ hb) (C := RX9) (T := TX9) (N := 9) rfl inB_9 tyX9 tyX9_ok nmX9 7 (by decide) rfl q_302 rfl rfl rfl rfl (ty_i0 x9) dX9_init_80 (rU _ b (fun i v => ((((((((((dfs 9)).set 0 (.ref q1)).set 1 (.ref q2)).set 2 (.ref q3)).set 3 (.ref q4)).set 4 (.ref q5)).set 5 (.ref q6)).set 6 (.ref q8)).set 7 (.int x9))[i]? = some v)) CS.off C.oth (CS.new (Nat.le_of_ble_eq_true rfl)) (fun H locs hG => ?_)
  have T := T.put hb (P := fun i v => ((((((((((dfs 9)).set 0 (.ref q1)).set 1 (.ref q2)).set 2 (.ref q3)).set 3 (.ref q4)).set 4 (.ref q5)).set 5 (.ref q6)).set 6 (.ref q8)).set 7 (.int x9))[i]? = some v)
  have C := C.put hb (j := 7) (x := (.int x9))
  refine lv_aload_n X.1 X.2.1 dX9_init_83 rfl (lv_at hl 0 rfl) ?_
  refine n_ic X dX9_init_84 (by decide) (by decide) (fun x10 t10 => ?_)
  refine tg_put X hG (C.e1 _ _ hb) (C := RX9) (T := TX9) (N := 9) rfl inB_9 tyX9 tyX9_ok nmX9 8 (by decide) rfl q_303 rfl rfl rfl rfl (ty_i0 x10) dX9_init_85 (rU _ b (fun i v => (((((((((((dfs 9)).set 0 (.ref q1)).set 1 (.ref q2)).set 2 (.ref q3)).set 3 (.ref q4)).set 4 (.ref q5)).set 5 (.ref q6)).set 6 (.ref q8)).set 7 (.int x9)).set 8 (.int x10))[i]? = some v)) CS.off C.oth (CS.new (Nat.le_of_ble_eq_true rfl)) (fun H locs hG => ?_)
  have T := T.put hb (P := fun i v => (((((((((((dfs 9)).set 0 (.ref q1)).set 1 (.ref q2)).set 2 (.ref q3)).set 3 (.ref q4)).set 4 (.ref q5)).set 5 (.ref q6)).set 6 (.ref q8)).set 7 (.int x9)).set 8 (.int x10))[i]? = some v)
  have C := C.put hb (j := 8) (x := (.int x10))
  refine n_ic X dX9_init_88 (by decide) (by decide) (fun x11 t11 => ?_)
  refine lv_istore_n (lv' := [(1, .int x11), (0, .ref b)]) X.1 X.2.1 dX9_init_89 rfl hl (by decide) rfl (fun ls hl => ?_)
  have J : ∀ (n i : Nat) (t : ty_T) (r : ty_R) (H : Heap) (locs : List Loc) (ls : Array Slot) (x : Int32), x.toInt = (i : Int) → i ≤ 2 → 2 - i < n → TG D cy t r A s.heap H locs → CS M (fun a j => a = q8 ∧ i ≤ j) τ ρ b (((((((((((dfs 9)).set 0 (.ref q1)).set 1 (.ref q2)).set 2 (.ref q3)).set 3 (.ref q4)).set 4 (.ref q5)).set 5 (.ref q6)).set 6 (.ref q8)).set 7 (.int x9)).set 8 (.int x10)) t r → RR τ t r [(q8, 6), (q6, 5), (q5, 4), (q4, 3), (q3, 2), (q2, 1), (q1, 0)] → t q8 = some (4, 2) → (∀ j v, r q8 j v → j < 2) → DI q8 i t r → lv_has ls 2 [(0, .ref b), (1, .int x)] → W p l e (rC 4 258 6367) s m args below meth c H locs (226 + 16 * i) (5633 + 367 * i) Q (F0 m 90 ls []) := by
    intro n
    induction n with
    | zero => intro i t r H locs ls x ex hi hm hG C T ht hr hd hl; exact absurd hm (Nat.not_lt_zero _)
    | succ n ih =>
      intro i t r H locs ls x ex hi hm hG C T ht hr hd hl
      refine lv_iload_n X.1 X.2.1 dX9_init_90 rfl (lv_at hl 1 rfl) ?_
      refine n_ic X dX9_init_91 (by decide) (by decide) (fun y1 s1 => ?_)
      refine n_icmp_ge (tgt := 114) X dX9_init_92 (by decide) (fun c1 => ?_) (fun c1 => ?_)
      · have hi2 : i = 2 := by omega
        subst hi2
        have RFd : RF b _ _ := T.done C hτ (fun j v h => by
            match j, h with
            | 0, h => have h : some (Value.ref q1) = some (Value.ref v) := h; cases h; simp
            | 1, h => have h : some (Value.ref q2) = some (Value.ref v) := h; cases h; simp
            | 2, h => have h : some (Value.ref q3) = some (Value.ref v) := h; cases h; simp
            | 3, h => have h : some (Value.ref q4) = some (Value.ref v) := h; cases h; simp
            | 4, h => have h : some (Value.ref q5) = some (Value.ref v) := h; cases h; simp
            | 5, h => have h : some (Value.ref q6) = some (Value.ref v) := h; cases h; simp
            | 6, h => have h : some (Value.ref q8) = some (Value.ref v) := h; cases h; simp
            | 7, h => have h : some (Value.int x9) = some (Value.ref v) := h; cases h
            | 8, h => have h : some (Value.int x10) = some (Value.ref v) := h; cases h
            | n + 9, h => have h : (none : Option Value) = some (Value.ref v) := h; cases h)
        refine ret _ _ _ _ (_, _) hG ⟨C.done hb (fun a j v h h2 => by obtain ⟨rfl, h⟩ := h; exact absurd (hr j v h2) (by omega)) (fun j v h => ?_), (fun im i0 i1 h6 h0 h1 => by have z : some (Value.ref q8) = some (Value.ref im) := C.e5 6 _ h6; cases z; exact hd.2 (Nat.le_refl _) i0 i1 h0 h1), RFd⟩ dX9_init_114
        match j, h with
        | 0, h => have h : some (Value.ref q1) = some v := h; cases h; exact cnT_r
        | 1, h => have h : some (Value.ref q2) = some v := h; cases h; exact cnT_r
        | 2, h => have h : some (Value.ref q3) = some v := h; cases h; exact cnT_r
        | 3, h => have h : some (Value.ref q4) = some v := h; cases h; exact cnT_r
        | 4, h => have h : some (Value.ref q5) = some v := h; cases h; exact cnT_r
        | 5, h => have h : some (Value.ref q6) = some v := h; cases h; exact cnT_r
        | 6, h => have h : some (Value.ref q8) = some v := h; cases h; exact cnT_r
        | 7, h => have h : some (Value.int x9) = some v := h; cases h; exact cnT_no rfl (Or.inr (cI_inj (by rw [t9]; rfl)))
        | 8, h => have h : some (Value.int x10) = some v := h; cases h; exact cnT_no rfl (Or.inr (cI_inj (by rw [t10]; rfl)))
        | n + 9, h => have h : (none : Option Value) = some v := h; cases h
      · refine lv_aload_n X.1 X.2.1 dX9_init_95 rfl (lv_at hl 0 rfl) ?_
        refine gf_9_6 X hG (C.e1 _ _ hb) q_301 dX9_init_96 (fun h => by have z : some (Value.ref q8) = some Value.null := C.e5 6 _ h; cases z) (fun a1 h1 r1 => ?_)
        have z : some (Value.ref q8) = some (Value.ref a1) := C.e5 6 _ r1
        cases z
        refine lv_iload_n X.1 X.2.1 dX9_init_99 rfl (lv_at hl 1 rfl) ?_
        refine tg_newo X hG hN0 2 (C := RX2) (T := TX2) (N := 3) rfl inB_2 tyX2 tyX2_ok (by decide) dfo_2 q_275 q_277 q_10 (by show _ ≤ 258; omega) (by show _ ≤ 6367; omega) dX9_init_100 (fun e1 H he1 hG => ?_)
        refine lv_dup X.1 X.2.1 dX9_init_103 rfl ?_
        refine k_cN X hNW hG hN0 (r_X2_init l D cy _ _ (M := M) tU_at (fun j v h => by rw [rU_at] at h; exact h)) yc_X2 (List.mem_of_getElem? (i := 9) rfl) ⟨Nat.le_of_ble_eq_true rfl, Nat.le_of_ble_eq_true rfl⟩ hl.1 (Nat.le_of_ble_eq_true rfl) ⟨by show _ ≤ 258; omega, by show _ ≤ 6367; omega⟩ dX9_init_104 (fun u1 H locs hG hu1 => ?_)
        obtain ⟨hu1, hv1⟩ := hu1
        have hk1 := hu1.1 e1 _ tU_at
        have f1 : τ e1 = none := C.fresh he1
        have T2 := T.sub 6 he1 hu1 hv1
        have C2 := C.sub hb he1 (by decide) hu1
        have hae : q8 ≠ e1 := fun z => by rw [z, he1] at ht; cases ht
        have ht2 := hu1.1 q8 _ (tU_ext he1 q8 _ ht)
        have hr2 : ∀ j v, u1.2 q8 j v → j < 2 := fun j v h => hr j v (by have z := hu1.2.1 q8 j v (by rw [tU_ne hae, ht]; intro z; cases z) hae h; rw [rU_ne hae] at z; exact z)
        have ix : x.toNatClampNeg = i := by have := cI_clamp (x := x) (by omega); omega
        refine tg_aast X hG (Or.inr rfl) ht2 hk1 (cI_in (n := 2) (by omega)) dX9_init_107 (rQ u1.2 q8 i e1) rQ_off (by rw [ix]; exact rQ_oth) (by rw [ix]; exact rQ_new) (fun H locs hG => ?_)
        refine n_inc X (fun z => [(1, .int z), (0, .ref b)]) dX9_init_108 hl (k := 1) rfl (by decide) (by decide) (by omega) (by omega) (by decide) (fun _ => rfl) (fun y2 ls s2 hl => ?_)
        have hl : lv_has ls 2 [(1, .int y2), (0, .ref b)] := hl
        refine lv_goto (tgt := 90) X.1 X.2.1 dX9_init_111 (by decide) ?_
        rw [show 226 + 16 * i + 1 + 15 = 226 + 16 * (i + 1) by omega, show 5633 + 367 * i + 3 + 364 = 5633 + 367 * (i + 1) by omega]
        exact ih (i + 1) _ _ _ _ _ y2 (by omega) (by omega) (by omega) hG (C2.lay hb hz ht2) ((T2.lay (q := q8) (i := i) (e := e1) (K := 6) (by simp) (by simp)).tl) ht2 (fun j v h => (rQ_in h).elim (fun z => by omega) (hr2 j v)) (DI.step hd (by omega) he1 hk1 (fun a y h => hu1.1 a y (tU_ext he1 a y h)) (fun j v h => by have z := hu1.2.1 q8 j v (by rw [tU_ne hae, ht]; intro z; cases z) hae h; rw [rU_ne hae] at z; exact z)) (lv_sub hl [1, 0] rfl)
  exact J 3 0 _ _ _ _ _ x11 (by omega) (by omega) (by omega) hG C T tU_at (fun j v h => by rw [rU_ne hqb, rU_ne hqb, rU_ne hqb, rU_at] at h; exact h.1) ⟨fun z => by omega, fun z => by omega⟩ (lv_sub hl [1, 0] rfl)
