set_option maxHeartbeats 4000000 in
set_option maxRecDepth 100000 in
/-- keepPast(): the line goes behind the lines to go back to, the eldest of twelve goes -/
theorem c_X10_keepPast (l : Launch) (D : va_G) (cy : Nat → ClassId) (τ : ty_T) (hU : UQ τ) {K : KT} {P N u : Nat} {k0 k1 : Bool} (ok : OKG K P N u) {a900 : Nat} (h900 : τ a900 = some (0, 10)) : KV l D cy yX10_keepPast cX10_keepPast 1 (rL 1) τ (cn (MM K P N u k0 k1) τ) [.ref a900] (fun w => w = cn (MM K P N (upN u) k0 k1) τ) := by
  refine k_metV "EdgeEchoesModel" rfl (by decide +kernel) (Nat.le_of_ble_eq_true rfl) ?_
  intro p e s m args below meth c Q ls X hG hl ret
  have hl : lv_has ls 1 [(0, .ref a900)] := hl
  have hu := ok.2.2.2
  have J32 : ∀ (v : Nat) (H : Heap) (locs : List Loc) (ls : Array Slot), v < 12 → v + 1 = upN u → TG D cy τ (cn (MM K P N v k0 k1) τ) (ty_d τ) s.heap H locs → lv_has ls 1 [(0, .ref a900)] → W p l e (rL 1) s m args below meth c H locs 0 0 Q (F0 m 32 ls []) := by
    intro v H locs ls hv ev hG hl
    refine lv_aload_n X.1 X.2.1 dX10_keepPast_32 rfl (lv_at hl 0 rfl) ?_
    refine n_ic X dX10_keepPast_33 (by decide) (by decide) (fun x1 t1 => ?_)
    refine n_sp X dX10_keepPast_34 (by decide) (by decide) (fun x2 t2 => ?_)
    refine n_sp X dX10_keepPast_37 (by decide) (by decide) (fun x3 t3 => ?_)
    refine lv_aload_n X.1 X.2.1 dX10_keepPast_40 rfl (lv_at hl 0 rfl) ?_
    refine gf_10_2 X hG h900 q_878 dX10_keepPast_41 (fun x4 r4 => ?_)
    have b4 := (cn_R _ _ _ _ h900 r4) ((v : Nat) : Int) ((v : Nat) : Int) rfl
    refine n_mul X dX10_keepPast_44 (by rw [t3]; omega) (by rw [t3]; omega) (fun x5 t5 => ?_)
    rw [t3] at t5
    refine n_add X dX10_keepPast_45 (by omega) (by omega) (fun x6 t6 => ?_)
    refine n_sp X dX10_keepPast_46 (by decide) (by decide) (fun x7 t7 => ?_)
    refine k_cVv X hG (c_X10_copyRow l D cy τ _ hU h900 x1 x6 x7 0 (278 + 247 * v) 247 (by omega) (by omega) (by omega) (by omega) (by omega) (by omega)) h900 rfl yv_X10_copyRow q_1012 ⟨rfl, rfl⟩ ⟨Nat.le_of_ble_eq_true rfl, Nat.le_of_ble_eq_true rfl⟩ rfl hl.1 rfl (Nat.le_of_ble_eq_true rfl) ⟨Nat.zero_le _, Nat.zero_le _⟩ dX10_keepPast_49 (fun w H locs hG pw => ?_)
    rw [pw] at hG
    refine lv_aload_n X.1 X.2.1 dX10_keepPast_52 rfl (lv_at hl 0 rfl) ?_
    refine lv_dup X.1 X.2.1 dX10_keepPast_53 rfl ?_
    refine gf_10_2 X hG h900 q_878 dX10_keepPast_54 (fun x8 r8 => ?_)
    have b8 := (cn_R _ _ _ _ h900 r8) ((v : Nat) : Int) ((v : Nat) : Int) (by show cpM _ _ _ _ 0 2 = _; rw [cpM_ne (by decide)]; rfl)
    refine n_ic X dX10_keepPast_57 (by decide) (by decide) (fun x9 t9 => ?_)
    refine n_add X dX10_keepPast_58 (by omega) (by omega) (fun x10 t10 => ?_)
    refine pg_10_2 X hG h900 q_878 dX10_keepPast_59 (cn (fsM (cpM (MM K P N v k0 k1) 0 (278 + 247 * v) 247) 2 (((v + 1 : Nat) : Int), ((v + 1 : Nat) : Int))) τ) (cf_off hU h900 fsM_ne) (cf_oth fsM_ne) (cw_new h900 (ty_ryes fsM_at (by omega))) (fun H locs hG => ?_)
    exact ret _ _ _ _ _ (TG.sub hG (kp_b hv)) (by rw [ev]) dX10_keepPast_62
  refine lv_aload_n X.1 X.2.1 dX10_keepPast_0 rfl (lv_at hl 0 rfl) ?_
  refine gf_10_2 X hG h900 q_878 dX10_keepPast_1 (fun x1 r1 => ?_)
  have b1 := (cn_R _ _ _ _ h900 r1) ((u : Nat) : Int) ((u : Nat) : Int) rfl
  refine n_bp X dX10_keepPast_4 (by decide) (by decide) (fun x2 t2 => ?_)
  refine n_icmp_ne (tgt := 32) X dX10_keepPast_6 (by decide) (fun c3 => ?_) (fun c3 => ?_)
  · exact J32 u _ _ _ (by omega) (by unfold upN; rw [if_neg (by omega)]) hG (lv_sub hl [0] rfl)
  · have e12 : u = 12 := by omega
    subst e12
    refine lv_aload_n X.1 X.2.1 dX10_keepPast_9 rfl (lv_at hl 0 rfl) ?_
    refine n_sp X dX10_keepPast_10 (by decide) (by decide) (fun x4 t4 => ?_)
    refine n_sp X dX10_keepPast_13 (by decide) (by decide) (fun x5 t5 => ?_)
    refine n_sp X dX10_keepPast_16 (by decide) (by decide) (fun x6 t6 => ?_)
    refine k_cVv X hG (c_X10_copyRow l D cy τ _ hU h900 x4 x5 x6 525 278 2717 (by omega) (by omega) (by omega) (by omega) (by omega) (by omega)) h900 rfl yv_X10_copyRow q_1012 ⟨rfl, rfl⟩ ⟨Nat.le_of_ble_eq_true rfl, Nat.le_of_ble_eq_true rfl⟩ rfl hl.1 rfl (Nat.le_of_ble_eq_true rfl) ⟨Nat.zero_le _, Nat.zero_le _⟩ dX10_keepPast_19 (fun w H locs hG pw => ?_)
    rw [pw] at hG
    refine lv_aload_n X.1 X.2.1 dX10_keepPast_22 rfl (lv_at hl 0 rfl) ?_
    refine lv_dup X.1 X.2.1 dX10_keepPast_23 rfl ?_
    refine gf_10_2 X hG h900 q_878 dX10_keepPast_24 (fun x8 r8 => ?_)
    have b8 := (cn_R _ _ _ _ h900 r8) 12 12 (by show cpM _ _ _ _ 0 2 = _; rw [cpM_ne (by decide)]; rfl)
    refine n_ic X dX10_keepPast_27 (by decide) (by decide) (fun x9 t9 => ?_)
    refine n_sub X dX10_keepPast_28 (by omega) (by omega) (fun x10 t10 => ?_)
    refine pg_10_2 X hG h900 q_878 dX10_keepPast_29 (cn (fsM (cpM (MM K P N 12 k0 k1) 525 278 2717) 2 (11, 11)) τ) (cf_off hU h900 fsM_ne) (cf_oth fsM_ne) (cw_new h900 (ty_ryes fsM_at (by omega))) (fun H locs hG => ?_)
    exact J32 11 _ _ _ (by omega) rfl (TG.sub hG kp_a) (lv_sub hl [0] rfl)
