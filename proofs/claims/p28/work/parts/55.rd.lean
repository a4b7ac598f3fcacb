/-! the whole text: rows at nought, clause by clause; then the line -/
def zM (M : md_T) (k : Nat) : md_T := fun a j => if a = 10 ∧ 3983 ≤ j ∧ j < 3983 + k then rdM 0 0 (fun _ => 0) (j - 3983) else M a j
theorem zM_in {M : md_T} {k j : Nat} (h : 3983 ≤ j ∧ j < 3983 + k) : zM M k 10 j = rdM 0 0 (fun _ => 0) (j - 3983) := if_pos ⟨rfl, h⟩
theorem zM_out {M : md_T} {k a j : Nat} (h : ¬ (a = 10 ∧ 3983 ≤ j ∧ j < 3983 + k)) : zM M k a j = M a j := if_neg h
theorem zM_0 {M : md_T} : zM M 0 = M := by funext a j; exact if_neg (by omega)
theorem zM_s {M : md_T} {k : Nat} : ∀ n j, n ≠ 10 ∨ j ≠ 3983 + k → zM M (k + 1) n j = zM M k n j := by
  intro n j h
  unfold zM
  by_cases e : n = 10 ∧ 3983 ≤ j ∧ j < 3983 + k
  · rw [if_pos e, if_pos (show n = 10 ∧ 3983 ≤ j ∧ j < 3983 + (k + 1) by omega)]
  · rw [if_neg e, if_neg (show ¬ (n = 10 ∧ 3983 ≤ j ∧ j < 3983 + (k + 1)) by omega)]
theorem rd0 {o : Nat} {lo hi : Int} (h : rdM 0 0 (fun _ => 0) o = some (lo, hi)) : lo ≤ 0 ∧ 0 ≤ hi := by
  unfold rdM at h
  rw [if_neg (show ¬ (236 ≤ o ∧ o < 236 + 0) by omega)] at h
  by_cases h2 : o = 245 ∨ o = 246
  · rw [if_pos h2] at h; cases h; omega
  rw [if_neg h2] at h
  by_cases h3 : o = 249
  · rw [if_pos h3] at h; cases h; omega
  rw [if_neg h3, if_neg (show ¬ (250 ≤ o ∧ o < 250 + 0) by omega)] at h
  by_cases h4 : 250 ≤ o ∧ o < 258
  · rw [if_pos h4] at h; cases h; omega
  rw [if_neg h4] at h
  by_cases h5 : o = 258
  · rw [if_pos h5] at h; cases h; show ((0 : Nat) : Int) ≤ 0 ∧ (0 : Int) ≤ ((0 : Nat) : Int); omega
  rw [if_neg h5] at h
  by_cases h6 : o = 259
  · rw [if_pos h6] at h; cases h; omega
  rw [if_neg h6] at h
  cases h
theorem z_R {M0 : md_T} {Lg : Nat} : ∀ n j r, RMM M0 Lg 0 0 0 (fun _ => 0) n j = some r → fsM (zM (fsM M0 7 ((Lg : Int), (Lg : Int))) 278) 16 (((0 : Nat) : Int), (Lg : Int)) n j = some r := by
  intro n j r h
  by_cases e1 : n = 0 ∧ j = 16
  · obtain ⟨rfl, rfl⟩ := e1
    rw [fsM_at]
    exact h
  · rw [fsM_ne n j (by omega)]
    by_cases e2 : n = 0 ∧ j = 7
    · obtain ⟨rfl, rfl⟩ := e2
      rw [zM_out (by omega), fsM_at]
      exact h
    · by_cases e3 : n = 10 ∧ 3983 ≤ j
      · obtain ⟨rfl, e3⟩ := e3
        rw [show j = 3983 + (j - 3983) by omega, RMM_r] at h
        by_cases e4 : j < 4261
        · rw [zM_in (by omega)]
          exact h
        · rw [rd_no (by omega) (by omega)] at h
          cases h
      · rw [RMM_f e2 e1 e3] at h
        rw [zM_out (by omega), fsM_ne n j (by omega)]
        exact h
theorem mm_0k {K : KT} {P N u : Nat} {k0 k1 : Bool} : M0k (MM K P N u k0 k1) := ⟨rfl, rfl, rfl, rfl, trivial⟩
def RDE (τ : ty_T) (M0 : md_T) (w : ty_R) : Prop := ∃ Lg lo, Lg ≤ 240 ∧ RDS τ M0 Lg lo w
set_option maxHeartbeats 4000000 in
set_option maxRecDepth 100000 in
theorem c_X10_reads (l : Launch) (D : va_G) (cy : Nat → ClassId) (τ : ty_T) (hU : UQ τ) {K : KT} {P N u : Nat} {k0 k1 : Bool} (hk : OKK K) {a900 : Nat} (h900 : τ a900 = some (0, 10)) : KI l D cy yX10_reads cX10_reads 2 .boolean (rL 5) τ (cn (MM K P N u k0 k1) τ) [.ref a900] (fun r w => RDE τ (MM K P N u k0 k1) w ∧ (r.toInt = 0 ∨ r.toInt = 1)) := by
  refine k_metI "EdgeEchoesModel" rfl (by decide +kernel) (Nat.le_of_ble_eq_true rfl) (fun r u h => (cI_nar (cI_01 h.2)).1) ?_
  intro p e s m args below meth c Q ls X hG hl ret
  have hl : lv_has ls 2 [(0, .ref a900)] := hl
  obtain ⟨x7, r7, hG⟩ := tg_pin hG h900 7 rfl
  have b7 := (cn_R _ _ _ _ h900 r7) _ _ mm_len
  obtain ⟨Lg, eLg⟩ : ∃ v : Nat, x7.toInt = (v : Int) := ⟨x7.toInt.toNat, by omega⟩
  have hG := exs_p1 hU h900 hG eLg
  have hk7 := hk.1
  have hL : Lg ≤ 240 := by omega
  have h0 : M0k (MM K P N u k0 k1) := mm_0k
  have J42 : ∀ (n lo pc gc : Nat) (f : Nat → Nat) (H : Heap) (locs : List Loc) (ls : Array Slot) (x : Int32), pc ≤ 8 → gc ≤ 6 → (∀ i, f i ≤ 9) → (x.toInt = 0 ∨ x.toInt = 1) → Lg - lo < n → TG D cy τ (cn (RMM (MM K P N u k0 k1) Lg lo pc gc f) τ) (ty_d τ) s.heap H locs → lv_has ls 2 [(0, .ref a900), (1, .int x)] → W p l e (rL 5) s m args below meth c H locs 0 0 Q (F0 m 42 ls []) := by
    intro n
    induction n with
    | zero => intro lo pc gc f H locs ls x hp hg hf hx hm hG hl; exact absurd hm (Nat.not_lt_zero _)
    | succ n ih =>
      intro lo pc gc f H locs ls x hp hg hf hx hm hG hl
      refine lv_iload_n X.1 X.2.1 dX10_reads_42 rfl (lv_at hl 1 rfl) ?_
      refine n_if_eq (tgt := 69) X dX10_reads_43 (by decide) (fun c1 => ?_) (fun c1 => ?_)
      · refine lv_iload_n X.1 X.2.1 dX10_reads_69 rfl (lv_at hl 1 rfl) ?_
        exact ret _ _ _ _ x _ hG ⟨⟨Lg, lo, hL, pc, gc, f, hp, hg, hf, rfl⟩, hx⟩ dX10_reads_70
      · refine lv_aload_n X.1 X.2.1 dX10_reads_46 rfl (lv_at hl 0 rfl) ?_
        refine gf_10_16 X hG h900 q_892 dX10_reads_47 (fun x1 r1 => ?_)
        have b1 := (cn_R _ _ _ _ h900 r1) _ _ (RMM_hr h0 hL).2.1
        refine lv_aload_n X.1 X.2.1 dX10_reads_50 rfl (lv_at hl 0 rfl) ?_
        refine gf_10_7 X hG h900 q_883 dX10_reads_51 (fun x2 r2 => ?_)
        have b2 := (cn_R _ _ _ _ h900 r2) _ _ (RMM_hr h0 hL).1
        refine n_icmp_ge (tgt := 69) X dX10_reads_54 (by decide) (fun c2 => ?_) (fun c2 => ?_)
        · refine lv_iload_n X.1 X.2.1 dX10_reads_69 rfl (lv_at hl 1 rfl) ?_
          exact ret _ _ _ _ x _ hG ⟨⟨Lg, lo, hL, pc, gc, f, hp, hg, hf, rfl⟩, hx⟩ dX10_reads_70
        · refine lv_aload_n X.1 X.2.1 dX10_reads_57 rfl (lv_at hl 0 rfl) ?_
          refine k_cVi X hG (c_X10_readsClause l D cy τ hU h0 hL hp hg hf h900) h900 rfl yv_X10_readsClause q_974 ⟨rfl, rfl⟩ ⟨Nat.le_of_ble_eq_true rfl, Nat.le_of_ble_eq_true rfl⟩ rfl hl.1 rfl (Nat.le_of_ble_eq_true rfl) ⟨Nat.zero_le _, Nat.zero_le _⟩ dX10_reads_58 (fun x3 u3 H locs hG po => ?_)
          obtain ⟨⟨lo', hlo, pc', gc', f', hp', hg', hf', eu⟩, hx3⟩ := po
          rw [eu] at hG
          refine lv_istore_n (lv' := [(1, .int x3), (0, .ref a900)]) X.1 X.2.1 dX10_reads_61 rfl hl (by decide) rfl (fun ls hl => ?_)
          refine lv_aload_n X.1 X.2.1 dX10_reads_62 rfl (lv_at hl 1 rfl) ?_
          refine k_cVv X hG (c_X10_pass l D cy τ _ cn_N cn_R (cn_F (S := [1016])) h900 (RMM_hr h0 hL)) h900 rfl yv_X10_pass q_970 ⟨rfl, rfl⟩ ⟨Nat.le_of_ble_eq_true rfl, Nat.le_of_ble_eq_true rfl⟩ rfl hl.1 rfl (Nat.le_of_ble_eq_true rfl) ⟨Nat.zero_le _, Nat.zero_le _⟩ dX10_reads_63 (fun u4 H locs hG po => ?_)
          rw [po] at hG
          refine lv_goto (tgt := 42) X.1 X.2.1 dX10_reads_66 (by decide) ?_
          rcases (show x3.toInt = 0 ∨ x3.toInt ≠ 0 by omega) with cz | cz
          · refine lv_iload_n X.1 X.2.1 dX10_reads_42 rfl (lv_at hl 0 rfl) ?_
            refine n_if_eq (tgt := 69) X dX10_reads_43 (by decide) (fun c3 => ?_) (fun c3 => ?_)
            · refine lv_iload_n X.1 X.2.1 dX10_reads_69 rfl (lv_at hl 0 rfl) ?_
              exact ret _ _ _ _ x3 _ hG ⟨⟨Lg, lo', hL, pc', gc', f', hp', hg', hf', rfl⟩, hx3⟩ dX10_reads_70
            · exact absurd cz c3
          · exact ih lo' pc' gc' f' _ _ _ x3 hp' hg' hf' hx3 (by have := hlo cz; omega) hG (lv_sub hl [1, 0] rfl)
  refine n_ic X dX10_reads_0 (by decide) (by decide) (fun y1 t1 => ?_)
  refine lv_istore_n (lv' := [(1, .int y1), (0, .ref a900)]) X.1 X.2.1 dX10_reads_1 rfl hl (by decide) rfl (fun ls hl => ?_)
  have J2 : ∀ (n : Nat) (k : Nat) (H : Heap) (locs : List Loc) (ls : Array Slot) (x : Int32), x.toInt = (k : Int) → k ≤ 278 → 278 - k < n → TG D cy τ (cn (zM (fsM (MM K P N u k0 k1) 7 ((Lg : Int), (Lg : Int))) k) τ) (ty_d τ) s.heap H locs → lv_has ls 2 [(0, .ref a900), (1, .int x)] → W p l e (rL 5) s m args below meth c H locs 0 0 Q (F0 m 2 ls []) := by
    intro n
    induction n with
    | zero => intro k H locs ls x ek hk hm hG hl; exact absurd hm (Nat.not_lt_zero _)
    | succ n ih =>
      intro k H locs ls x ek hk hm hG hl
      refine lv_iload_n X.1 X.2.1 dX10_reads_2 rfl (lv_at hl 1 rfl) ?_
      refine n_sp X dX10_reads_3 (by decide) (by decide) (fun x1 t1 => ?_)
      refine n_icmp_ge (tgt := 26) X dX10_reads_6 (by decide) (fun c1 => ?_) (fun c1 => ?_)
      · rw [show k = 278 by omega] at hG
        refine lv_aload_n X.1 X.2.1 dX10_reads_26 rfl (lv_at hl 0 rfl) ?_
        refine n_ic X dX10_reads_27 (by decide) (by decide) (fun x2 t2 => ?_)
        refine pg_10_16 X hG h900 q_892 dX10_reads_28 (cn (fsM (zM (fsM (MM K P N u k0 k1) 7 ((Lg : Int), (Lg : Int))) 278) 16 (((0 : Nat) : Int), (Lg : Int))) τ) (cf_off hU h900 fsM_ne) (cf_oth fsM_ne) (cw_new h900 (ty_ryes fsM_at (by omega))) (fun H locs hG => ?_)
        have hG := TG.sub hG z_R
        refine lv_aload_n X.1 X.2.1 dX10_reads_31 rfl (lv_at hl 0 rfl) ?_
        refine n_ic X dX10_reads_32 (by decide) (by decide) (fun x3 t3 => ?_)
        refine pf_10_20 X hG h900 q_896 (by omega) dX10_reads_33 (cn_F (S := [1020]) _ _ _ _ h900 (ty_in (n := 1020) rfl) (ty_rno (RMM_hr h0 hL).2.2.2.2.2.1)) (fun H locs hG => ?_)
        refine n_ic X dX10_reads_36 (by decide) (by decide) (fun x4 t4 => ?_)
        refine lv_istore_n (lv' := [(1, .int x4), (0, .ref a900)]) X.1 X.2.1 dX10_reads_37 rfl hl (by decide) rfl (fun ls hl => ?_)
        refine lv_aload_n X.1 X.2.1 dX10_reads_38 rfl (lv_at hl 1 rfl) ?_
        refine k_cVv X hG (c_X10_pass l D cy τ _ cn_N cn_R (cn_F (S := [1016])) h900 (RMM_hr h0 hL)) h900 rfl yv_X10_pass q_970 ⟨rfl, rfl⟩ ⟨Nat.le_of_ble_eq_true rfl, Nat.le_of_ble_eq_true rfl⟩ rfl hl.1 rfl (Nat.le_of_ble_eq_true rfl) ⟨Nat.zero_le _, Nat.zero_le _⟩ dX10_reads_39 (fun u4 H locs hG po => ?_)
        rw [po] at hG
        exact J42 (Lg + 1) 0 0 0 (fun _ => 0) _ _ _ x4 (by omega) (by omega) (fun _ => Nat.zero_le _) (by omega) (by omega) hG (lv_sub hl [1, 0] rfl)
      · refine lv_aload_n X.1 X.2.1 dX10_reads_9 rfl (lv_at hl 0 rfl) ?_
        refine gf_10_0 X hG h900 q_876 dX10_reads_10 (cn_N _ _ _ h900) (fun a2 h2 r2 => ?_)
        refine n_sp X dX10_reads_13 (by decide) (by decide) (fun x3 t3 => ?_)
        refine lv_iload_n X.1 X.2.1 dX10_reads_16 rfl (lv_at hl 1 rfl) ?_
        refine n_add X dX10_reads_17 (by omega) (by omega) (fun x4 t4 => ?_)
        refine n_ic X dX10_reads_18 (by decide) (by decide) (fun x5 t5 => ?_)
        have i4 : x4.toNatClampNeg = 3983 + k := by have := cI_clamp (x := x4) (by omega); omega
        refine tg_iast X hG h2 rfl (cI_in (n := 4261) (by omega)) dX10_reads_19 (cn (zM (fsM (MM K P N u k0 k1) 7 ((Lg : Int), (Lg : Int))) (k + 1)) τ) (cw_off hU h2 (by decide) (j0 := 3983 + k) zM_s) (by rw [i4]; exact cw_oth h2 zM_s) (by
          rw [i4]
          refine cw_new h2 (fun lo hi hr => ?_)
          have q1 : zM (fsM (MM K P N u k0 k1) 7 ((Lg : Int), (Lg : Int))) (k + 1) 10 (3983 + k) = some (lo, hi) := hr
          rw [zM_in (by omega)] at q1
          have := rd0 q1
          omega) (fun H locs hG => ?_)
        refine n_inc X (fun z => [(1, .int z), (0, .ref a900)]) dX10_reads_20 hl (k := 1) rfl (by decide) (by decide) (by omega) (by omega) (by decide) (fun _ => rfl) (fun x6 ls t6 hl => ?_)
        have hl : lv_has ls 2 [(1, .int x6), (0, .ref a900)] := hl
        refine lv_goto (tgt := 2) X.1 X.2.1 dX10_reads_23 (by decide) ?_
        exact ih (k + 1) _ _ _ x6 (by omega) (by omega) (by omega) hG (lv_sub hl [1, 0] rfl)
  exact J2 279 0 _ _ _ y1 (by omega) (by omega) (by omega) (by rw [zM_0]; exact hG) (lv_sub hl [1, 0] rfl)
