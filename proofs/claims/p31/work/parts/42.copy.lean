/-! writes that change the bounds; row to row -/
/-- the reference's cells are one of each kind -/
def UQ (τ : ty_T) : Prop := ∀ (a b : Nat) (ta tb : ty_C), τ a = some ta → τ b = some tb → ((ta.1 = tb.1 ∧ 10 ≤ ta.1) ∨ (ta = (0, 10) ∧ tb = (0, 10))) → a = b
theorem rgd_eq {M M' : md_T} {t : ty_C} {j : Nat} (h : ∀ n, (t = (0, 10) ∧ n = 0) ∨ (t.1 = n ∧ 10 ≤ n) → M' n j = M n j) : ty_rgd M' t j = ty_rgd M t j := by
  obtain ⟨a, b⟩ := t
  match a, h with
  | 0, h =>
    match b, h with
    | 10, h => exact h 0 (Or.inl ⟨rfl, rfl⟩)
    | 0, _ => rfl
    | 1, _ => rfl
    | 2, _ => rfl
    | 3, _ => rfl
    | 4, _ => rfl
    | 5, _ => rfl
    | 6, _ => rfl
    | 7, _ => rfl
    | 8, _ => rfl
    | 9, _ => rfl
    | n + 11, _ => rfl
  | 1, _ => rfl
  | 2, _ => rfl
  | 3, _ => rfl
  | 4, _ => rfl
  | 5, _ => rfl
  | 6, _ => rfl
  | 7, _ => rfl
  | 8, _ => rfl
  | 9, _ => rfl
  | n + 10, h => exact h (n + 10) (Or.inr ⟨rfl, by omega⟩)
section CW
variable {M M' : md_T} {τ : ty_T} {a : Nat} {t0 : ty_C} {j0 : Nat} {x : Int32}
theorem cw_off (hU : UQ τ) (ha : τ a = some t0) (h0 : 10 ≤ t0.1) (hM : ∀ n j, n ≠ t0.1 ∨ j ≠ j0 → M' n j = M n j) : ∀ b i v, b ≠ a → cn M τ b i v → cn M' τ b i v := fun b i v hb q => ⟨q.1, fun t y ht hy lo hi hr => q.2 t y ht hy lo hi (by
  rw [rgd_eq (M := M) (M' := M')] at hr
  · exact hr
  · intro n hn
    refine hM n i ?_
    by_cases e : n = t0.1
    · rcases hn with ⟨h1, h2⟩ | ⟨h1, h2⟩
      · omega
      · exact absurd (hU b a t t0 ht ha (Or.inl ⟨by omega, by omega⟩)) hb
    · exact Or.inl e)⟩
theorem cw_oth (ha : τ a = some t0) (hM : ∀ n j, n ≠ t0.1 ∨ j ≠ j0 → M' n j = M n j) : ∀ i v, i ≠ j0 → cn M τ a i v → cn M' τ a i v := fun i v hi q => ⟨q.1, fun t y ht hy lo hi2 hr => q.2 t y ht hy lo hi2 (by
  rw [rgd_eq (M := M) (M' := M')] at hr
  · exact hr
  · exact fun n _ => hM n i (Or.inr hi))⟩
theorem cw_new (ha : τ a = some t0) (hr : ty_rng M' t0 j0 x) : cn M' τ a j0 (.int x) := cn_F (S := [ty_cd t0 j0]) a t0 j0 x ha List.mem_cons_self hr
theorem cf_off (hU : UQ τ) (ha : τ a = some (0, 10)) (hM : ∀ n j, n ≠ 0 ∨ j ≠ j0 → M' n j = M n j) : ∀ b i v, b ≠ a → cn M τ b i v → cn M' τ b i v := fun b i v hb q => ⟨q.1, fun t y ht hy lo hi hr => q.2 t y ht hy lo hi (by
  rw [rgd_eq (M := M) (M' := M')] at hr
  · exact hr
  · intro n hn
    refine hM n i ?_
    by_cases e : n = 0
    · rcases hn with ⟨h1, h2⟩ | ⟨h1, h2⟩
      · exact absurd (hU b a t _ ht ha (Or.inr ⟨h1, rfl⟩)) hb
      · omega
    · exact Or.inl e)⟩
theorem cf_oth (hM : ∀ n j, n ≠ 0 ∨ j ≠ j0 → M' n j = M n j) : ∀ i v, i ≠ j0 → cn M τ a i v → cn M' τ a i v := fun i v hi q => ⟨q.1, fun t y ht hy lo hi2 hr => q.2 t y ht hy lo hi2 (by
  rw [rgd_eq (M := M) (M' := M')] at hr
  · exact hr
  · exact fun n _ => hM n i (Or.inr hi))⟩
end CW
theorem cpM_step {M : md_T} {f t k : Nat} : ∀ n j, n ≠ 10 ∨ j ≠ t + k → cpM M f t (k + 1) n j = cpM M f t k n j := fun n j h => by
  unfold cpM
  by_cases q : n = 10 ∧ t ≤ j ∧ j < t + k
  · rw [if_pos q, if_pos ⟨q.1, q.2.1, by omega⟩]
  · rw [if_neg q, if_neg (by omega)]
set_option maxHeartbeats 4000000 in
set_option maxRecDepth 100000 in
theorem c_X10_copyRow (l : Launch) (D : va_G) (cy : Nat → ClassId) (τ : ty_T) (M : md_T) (hU : UQ τ) {a900 : Nat} (h900 : τ a900 = some (0, 10)) (x901 x902 x903 : Int32) (f t n : Nat) (e1 : x901.toInt = (f : Int)) (e2 : x902.toInt = (t : Int)) (e3 : x903.toInt = (n : Int)) (hf : f + n ≤ 4261) (ht : t + n ≤ 4261) (hd : t ≤ f ∨ f + n ≤ t) : KV l D cy yX10_copyRow cX10_copyRow 5 (rL 0) τ (cn M τ) [.ref a900, .int x901, .int x902, .int x903] (fun u => u = cn (cpM M f t n) τ) := by
  refine k_metV "EdgeEchoesModel" rfl (by decide +kernel) (Nat.le_of_ble_eq_true rfl) ?_
  intro p e s m args below meth c Q ls X hG hl ret
  have hl : lv_has ls 5 [(0, .ref a900), (1, .int x901), (2, .int x902), (3, .int x903)] := hl
  refine n_ic X dX10_copyRow_0 (by decide) (by decide) (fun x1 t1 => ?_)
  refine lv_istore (lv' := [(4, .int x1), (0, .ref a900), (1, .int x901), (2, .int x902), (3, .int x903)]) X.1 X.2.1 dX10_copyRow_1 hl (by decide) rfl (fun ls hl => ?_)
  have J3 : ∀ (d : Nat) (H : Heap) (locs : List Loc) (ls : Array Slot) (x2 : Int32) (k : Nat), x2.toInt = (k : Int) → k ≤ n → n - k < d → TG D cy τ (cn (cpM M f t k) τ) (ty_d τ) s.heap H locs → lv_has ls 5 [(0, .ref a900), (1, .int x901), (2, .int x902), (3, .int x903), (4, .int x2)] → W p l e (rL 0) s m args below meth c H locs 0 0 Q (F0 m 3 ls []) := by
    intro d
    induction d with
    | zero => intro H locs ls x2 k ek hk hm hG hl; exact absurd hm (Nat.not_lt_zero _)
    | succ d ih =>
      intro H locs ls x2 k ek hk hm hG hl
      refine lv_iload X.1 X.2.1 dX10_copyRow_3 (lv_at hl 4 rfl) ?_
      refine lv_iload_n X.1 X.2.1 dX10_copyRow_5 rfl (lv_at hl 3 rfl) ?_
      refine n_icmp_ge (tgt := 33) X dX10_copyRow_6 (by decide) (fun c4 => ?_) (fun c4 => ?_)
      · exact ret _ _ _ _ _ hG (by rw [show k = n by omega]) dX10_copyRow_33
      · refine lv_aload_n X.1 X.2.1 dX10_copyRow_9 rfl (lv_at hl 0 rfl) ?_
        refine gf_10_0 X hG h900 q_876 dX10_copyRow_10 (cn_N _ _ _ h900) (fun a5 h5 r5 => ?_)
        refine lv_iload_n X.1 X.2.1 dX10_copyRow_13 rfl (lv_at hl 2 rfl) ?_
        refine lv_iload X.1 X.2.1 dX10_copyRow_14 (lv_at hl 4 rfl) ?_
        refine n_add X dX10_copyRow_16 (by omega) (by omega) (fun x6 t6 => ?_)
        refine lv_aload_n X.1 X.2.1 dX10_copyRow_17 rfl (lv_at hl 0 rfl) ?_
        refine gf_10_0 X hG h900 q_876 dX10_copyRow_18 (cn_N _ _ _ h900) (fun a7 h7 r7 => ?_)
        refine lv_iload_n X.1 X.2.1 dX10_copyRow_21 rfl (lv_at hl 1 rfl) ?_
        refine lv_iload X.1 X.2.1 dX10_copyRow_22 (lv_at hl 4 rfl) ?_
        refine n_add X dX10_copyRow_24 (by omega) (by omega) (fun x8 t8 => ?_)
        refine tg_iald X hG h7 rfl (cI_in (n := 4261) (by omega)) dX10_copyRow_25 (fun x9 r9 => ?_)
        have i6 : x6.toNatClampNeg = t + k := by have := cI_clamp (x := x6) (by omega); omega
        have i8 : x8.toNatClampNeg = f + k := by have := cI_clamp (x := x8) (by omega); omega
        have g9 := cn_R _ _ _ _ h7 r9
        rw [i8] at g9
        refine tg_iast X hG h5 rfl (cI_in (n := 4261) (by omega)) dX10_copyRow_26 (cn (cpM M f t (k + 1)) τ) (cw_off hU h5 (by decide) (j0 := t + k) cpM_step) (by rw [i6]; exact cw_oth h5 (j0 := t + k) cpM_step) (by
          rw [i6]
          refine cw_new h5 (fun lo hi hr => g9 lo hi ?_)
          have q1 : cpM M f t (k + 1) 10 (t + k) = some (lo, hi) := hr
          rw [cpM_in (by omega) (by omega), show f + (t + k - t) = f + k by omega] at q1
          show cpM M f t k 10 (f + k) = some (lo, hi)
          rw [cpM_out (by omega)]
          exact q1) (fun H locs hG => ?_)
        refine n_inc X (fun z => [(4, .int z), (0, .ref a900), (1, .int x901), (2, .int x902), (3, .int x903)]) dX10_copyRow_27 hl (k := 4) rfl (by decide) (by decide) (by omega) (by omega) (by decide) (fun _ => rfl) (fun x10 ls t10 hl => ?_)
        have hl : lv_has ls 5 [(4, .int x10), (0, .ref a900), (1, .int x901), (2, .int x902), (3, .int x903)] := hl
        refine lv_goto (tgt := 3) X.1 X.2.1 dX10_copyRow_30 (by decide) ?_
        exact ih _ _ _ x10 (k + 1) (by omega) (by omega) (by omega) hG (lv_sub hl [1, 2, 3, 4, 0] rfl)
  exact J3 (n + 1) _ _ _ x1 0 (by omega) (by omega) (by omega) (by rw [cpM_0]; exact hG) (lv_sub hl [1, 2, 3, 4, 0] rfl)
