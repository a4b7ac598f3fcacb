/-! the reference's text to the letter -/
def MX (M : md_T) (c : Nat) (T : Nat → Int32) : Prop := M 0 7 = some ((c : Int), (c : Int)) ∧ ∀ j, j < c → M 16 j = some ((T j).toInt, (T j).toInt)
def FR1 (M' M : md_T) : Prop := ∀ n j, ¬ (n = 0 ∧ 16 ≤ j ∧ j ≤ 19) → M' n j = M n j
section MRD
variable {M M1 M2 : md_T} {c j : Nat} {T : Nat → Int32} {r r' : Int × Int}
theorem fr1_rf : FR1 M M := fun _ _ _ => rfl
theorem fr1_fs (h : FR1 M1 M) (hj : 16 ≤ j ∧ j ≤ 19) : FR1 (fsM M1 j r) M := fun n i q => by rw [fsM_ne n i (by omega)]; exact h n i q
theorem fr1_tr (h1 : FR1 M2 M1) (h2 : FR1 M1 M) : FR1 M2 M := fun n i q => (h1 n i q).trans (h2 n i q)
theorem mx_fr (h : MX M c T) (hf : FR1 M1 M) : MX M1 c T := ⟨(hf 0 7 (by omega)).trans h.1, fun j hj => (hf 16 j (by omega)).trans (h.2 j hj)⟩
theorem fsM_fs : fsM (fsM M j r) j r' = fsM M j r' := by
  funext a i
  unfold fsM
  by_cases h : a = 0 ∧ i = j
  · rw [if_pos h, if_pos h]
  · rw [if_neg h, if_neg h, if_neg h]
theorem fsM_id (h : M 0 j = some r) : fsM M j r = M := by
  funext a i
  unfold fsM
  by_cases e : a = 0 ∧ i = j
  · rw [if_pos e, e.1, e.2, h]
  · rw [if_neg e]
end MRD
set_option maxHeartbeats 4000000 in
set_option maxRecDepth 100000 in
theorem e_X10_pass (l : Launch) (D : va_G) (cy : Nat → ClassId) (τ : ty_T) (hU : UQ τ) {M : md_T} {ma : Nat} (hma : τ ma = some (0, 10)) {c : Nat} {T : Nat → Int32} (hc : c ≤ 240) (hX : MX M c T) {a : Nat} (ha : a ≤ c) (h16 : M 0 16 = some ((a : Int), (a : Int))) : KV l D cy yX10_pass cX10_pass 1 (rL 0) τ (cn M τ) [.ref ma] (fun w => w = cn (fsM M 16 ((sk T c a : Int), (sk T c a : Int))) τ) := by
  refine k_metV "EdgeEchoesModel" rfl (by decide +kernel) (Nat.le_of_ble_eq_true rfl) ?_
  intro p e s m args below meth cod Q ls X hG hl ret
  have hl : lv_has ls 1 [(0, .ref ma)] := hl
  have J0 : ∀ (n a2 : Nat) (H : Heap) (locs : List Loc) (ls : Array Slot), a2 ≤ c → sk T c a2 = sk T c a → c - a2 < n → TG D cy τ (cn (fsM M 16 ((a2 : Int), (a2 : Int))) τ) (ty_d τ) s.heap H locs → lv_has ls 1 [(0, .ref ma)] → W p l e (rL 0) s m args below meth cod H locs 0 0 Q (F0 m 0 ls []) := by
    intro n
    induction n with
    | zero => intro a2 H locs ls h1 h2 h3; exact absurd h3 (Nat.not_lt_zero _)
    | succ n ih =>
      intro a2 H locs ls ha2 hR2 hm hG hl
      have hX2 : MX (fsM M 16 ((a2 : Int), (a2 : Int))) c T := mx_fr hX (fr1_fs fr1_rf (by omega))
      refine lv_aload_n X.1 X.2.1 dX10_pass_0 rfl (lv_at hl 0 rfl) ?_
      refine gf_10_16 X hG hma q_892 dX10_pass_1 (fun x1 r1 => ?_)
      have b1 := (cn_R _ _ _ _ hma r1) _ _ (fsM_at)
      refine lv_aload_n X.1 X.2.1 dX10_pass_4 rfl (lv_at hl 0 rfl) ?_
      refine gf_10_7 X hG hma q_883 dX10_pass_5 (fun x2 r2 => ?_)
      have b2 := (cn_R _ _ _ _ hma r2) _ _ (hX2.1)
      refine n_icmp_ge (tgt := 38) X dX10_pass_8 (by decide) (fun c3 => ?_) (fun c3 => ?_)
      · rw [show a2 = sk T c a by rw [← hR2, sk_n (fun h => absurd h (by omega))]] at hG
        exact ret _ _ _ _ _ hG rfl dX10_pass_38
      · refine lv_aload_n X.1 X.2.1 dX10_pass_11 rfl (lv_at hl 0 rfl) ?_
        refine gf_10_6 X hG hma q_882 dX10_pass_12 (cn_N _ _ _ hma) (fun a4 h4 r4 => ?_)
        refine lv_aload_n X.1 X.2.1 dX10_pass_15 rfl (lv_at hl 0 rfl) ?_
        refine gf_10_16 X hG hma q_892 dX10_pass_16 (fun x5 r5 => ?_)
        have b5 := (cn_R _ _ _ _ hma r5) _ _ (fsM_at)
        refine tg_iald X hG h4 rfl (cI_in (n := 240) (by omega)) dX10_pass_19 (fun x6 r6 => ?_)
        have b6 := rdR (cn_R _ _ _ _ h4 r6) (n := a2) (by omega) (hX2.2 a2 (by omega))
        refine n_bp X dX10_pass_20 (by decide) (by decide) (fun x7 t7 => ?_)
        refine n_icmp_ne (tgt := 38) X dX10_pass_22 (by decide) (fun c8 => ?_) (fun c8 => ?_)
        · rw [show a2 = sk T c a by rw [← hR2, sk_n (fun h => by omega)]] at hG
          exact ret _ _ _ _ _ hG rfl dX10_pass_38
        · refine lv_aload_n X.1 X.2.1 dX10_pass_25 rfl (lv_at hl 0 rfl) ?_
          refine lv_dup X.1 X.2.1 dX10_pass_26 rfl ?_
          refine gf_10_16 X hG hma q_892 dX10_pass_27 (fun x9 r9 => ?_)
          have b9 := (cn_R _ _ _ _ hma r9) _ _ (fsM_at)
          refine n_ic X dX10_pass_30 (by decide) (by decide) (fun x10 t10 => ?_)
          refine n_add X dX10_pass_31 (by omega) (by omega) (fun x11 t11 => ?_)
          refine pg_10_16 X hG hma q_892 dX10_pass_32 (cn (fsM (fsM M 16 ((a2 : Int), (a2 : Int))) 16 (((a2 + 1 : Nat) : Int), ((a2 + 1 : Nat) : Int))) τ) (cf_off hU hma fsM_ne) (cf_oth fsM_ne) (cw_new hma (ty_ryes fsM_at (by omega))) (fun H locs hG => ?_)
          rw [fsM_fs] at hG
          refine lv_goto (tgt := 0) X.1 X.2.1 dX10_pass_35 (by decide) ?_
          exact ih (a2 + 1) _ _ _ (by omega) (by rw [← hR2, sk_y (a := a2) (by omega) (by omega)]) (by omega) hG hl
  rw [← fsM_id h16] at hG
  exact J0 (c - a + 1) a _ _ _ ha rfl (by omega) hG hl
set_option maxHeartbeats 4000000 in
set_option maxRecDepth 100000 in
theorem e_X10_refuse (l : Launch) (D : va_G) (cy : Nat → ClassId) (τ : ty_T) (hU : UQ τ) {M : md_T} {ma : Nat} (hma : τ ma = some (0, 10)) (x901 : Int32) (x902 : Int32) {y z : Int} (hy : x901.toInt = y) (hz : x902.toInt = z) : KI l D cy yX10_refuse cX10_refuse 3 .boolean (rL 0) τ (cn M τ) [.ref ma, .int x901, .int x902] (fun r w => r.toInt = 0 ∧ w = cn (fsM (fsM M 17 (y, y)) 18 (z, z)) τ) := by
  refine k_metI "EdgeEchoesModel" rfl (by decide +kernel) (Nat.le_of_ble_eq_true rfl) (fun r u h => (cI_nar (cI_01 (Or.inl h.1))).1) ?_
  intro p e s m args below meth cod Q ls X hG hl ret
  have hl : lv_has ls 3 [(0, .ref ma), (1, .int x901), (2, .int x902)] := hl
  refine lv_aload_n X.1 X.2.1 dX10_refuse_0 rfl (lv_at hl 0 rfl) ?_
  refine lv_iload_n X.1 X.2.1 dX10_refuse_1 rfl (lv_at hl 1 rfl) ?_
  refine pg_10_17 X hG hma q_893 dX10_refuse_2 (cn (fsM M 17 (y, y)) τ) (cf_off hU hma fsM_ne) (cf_oth fsM_ne) (cw_new hma (ty_ryes fsM_at (by omega))) (fun H locs hG => ?_)
  refine lv_aload_n X.1 X.2.1 dX10_refuse_5 rfl (lv_at hl 0 rfl) ?_
  refine lv_iload_n X.1 X.2.1 dX10_refuse_6 rfl (lv_at hl 2 rfl) ?_
  refine pg_10_18 X hG hma q_894 dX10_refuse_7 (cn (fsM (fsM M 17 (y, y)) 18 (z, z)) τ) (cf_off hU hma fsM_ne) (cf_oth fsM_ne) (cw_new hma (ty_ryes fsM_at (by omega))) (fun H locs hG => ?_)
  refine n_ic X dX10_refuse_10 (by decide) (by decide) (fun x1 t1 => ?_)
  exact ret _ _ _ _ x1 _ hG ⟨by omega, rfl⟩ dX10_refuse_11
set_option maxHeartbeats 4000000 in
set_option maxRecDepth 100000 in
theorem e_X10_isFigure (l : Launch) (D : va_G) (cy : Nat → ClassId) (τ : ty_T) (hU : UQ τ) {M : md_T} {ma : Nat} (hma : τ ma = some (0, 10)) {c : Nat} {T : Nat → Int32} (hc : c ≤ 240) (hX : MX M c T) {k : Nat} (hk : k ≤ c) (x901 : Int32) (h901 : x901.toInt = (k : Int)) : KI l D cy yX10_isFigure cX10_isFigure 2 .boolean (rL 1) τ (cn M τ) [.ref ma, .int x901] (fun r w => w = cn M τ ∧ (r.toInt = 0 ∨ r.toInt = 1) ∧ (r.toInt ≠ 0 → k < c ∧ 48 ≤ (T k).toInt ∧ (T k).toInt ≤ 57) ∧ (r.toInt = 0 → k < c → ¬ (48 ≤ (T k).toInt ∧ (T k).toInt ≤ 57))) := by
  refine k_metI "EdgeEchoesModel" rfl (by decide +kernel) (Nat.le_of_ble_eq_true rfl) (fun r u h => (cI_nar (cI_01 h.2.1)).1) ?_
  intro p e s m args below meth cod Q ls X hG hl ret
  have hl : lv_has ls 2 [(0, .ref ma), (1, .int x901)] := hl
  refine lv_iload_n X.1 X.2.1 dX10_isFigure_0 rfl (lv_at hl 1 rfl) ?_
  refine lv_aload_n X.1 X.2.1 dX10_isFigure_1 rfl (lv_at hl 0 rfl) ?_
  refine gf_10_7 X hG hma q_883 dX10_isFigure_2 (fun x1 r1 => ?_)
  have b1 := (cn_R _ _ _ _ hma r1) _ _ (hX.1)
  refine n_icmp_ge (tgt := 31) X dX10_isFigure_5 (by decide) (fun c2 => ?_) (fun c2 => ?_)
  · refine n_ic X dX10_isFigure_31 (by decide) (by decide) (fun x3 t3 => ?_)
    exact ret _ _ _ _ x3 _ hG ⟨rfl, by omega, (fun h => absurd h (by omega)), (fun _ h => absurd h (by omega))⟩ dX10_isFigure_32
  · refine lv_aload_n X.1 X.2.1 dX10_isFigure_8 rfl (lv_at hl 0 rfl) ?_
    refine gf_10_6 X hG hma q_882 dX10_isFigure_9 (cn_N _ _ _ hma) (fun a4 h4 r4 => ?_)
    refine lv_iload_n X.1 X.2.1 dX10_isFigure_12 rfl (lv_at hl 1 rfl) ?_
    refine tg_iald X hG h4 rfl (cI_in (n := 240) (by omega)) dX10_isFigure_13 (fun x5 r5 => ?_)
    have b5 := rdR (cn_R _ _ _ _ h4 r5) (n := k) (by omega) (hX.2 k (by omega))
    refine n_i2l X dX10_isFigure_14 (fun w6 t6 => ?_)
    refine n_ldl X q_994 (n := 48) (by decide +kernel) dX10_isFigure_15 (fun w7 e7 t7 => ?_)
    refine n_ldl X q_995 (n := 57) (by decide +kernel) dX10_isFigure_18 (fun w8 e8 t8 => ?_)
    refine k_cSi X hG (c_X10_in l D cy τ _ cn_N cn_R (cn_F (S := [])) w6 w7 w8) ys_X10_in q_957 ⟨rfl, rfl⟩ ⟨Nat.le_of_ble_eq_true rfl, Nat.le_of_ble_eq_true rfl⟩ rfl hl.1 rfl (Nat.le_of_ble_eq_true rfl) ⟨Nat.zero_le _, Nat.zero_le _⟩ dX10_isFigure_21 (fun x9 u9 H locs hG po => ?_)
    obtain ⟨eu9, pb, p1, p2⟩ := po
    rw [eu9] at hG
    refine n_if_eq (tgt := 31) X dX10_isFigure_24 (by decide) (fun c10 => ?_) (fun c10 => ?_)
    · refine n_ic X dX10_isFigure_31 (by decide) (by decide) (fun x11 t11 => ?_)
      exact ret _ _ _ _ x11 _ hG ⟨rfl, by omega, (fun h => absurd h (by omega)), (fun _ _ => by have := p2 (by omega); omega)⟩ dX10_isFigure_32
    · refine n_ic X dX10_isFigure_27 (by decide) (by decide) (fun x12 t12 => ?_)
      refine lv_goto (tgt := 32) X.1 X.2.1 dX10_isFigure_28 (by decide) ?_
      exact ret _ _ _ _ x12 _ hG ⟨rfl, by omega, (fun _ => by have := p1 (by omega); omega), (fun h => absurd h (by omega))⟩ dX10_isFigure_32
set_option maxHeartbeats 4000000 in
set_option maxRecDepth 100000 in
theorem e_X10_readsNumber (l : Launch) (D : va_G) (cy : Nat → ClassId) (τ : ty_T) (hU : UQ τ) {M : md_T} {ma : Nat} (hma : τ ma = some (0, 10)) {c : Nat} {T : Nat → Int32} (hc : c ≤ 240) (hX : MX M c T) {a : Nat} (ha : a ≤ c) (h16 : M 0 16 = some ((a : Int), (a : Int))) (x901 : Int32) (x902 : Int32) {lo hi : Int} (h901 : x901.toInt = lo) (h902 : x902.toInt = hi) : KI l D cy yX10_readsNumber cX10_readsNumber 5 .boolean (rL 2) τ (cn M τ) [.ref ma, .int x901, .int x902] (fun r w => (r.toInt = 0 ∨ r.toInt = 1) ∧ ∃ M2, w = cn M2 τ ∧ FR1 M2 M ∧ (nk T c a lo hi = 0 → r.toInt = 1 ∧ M2 0 16 = some ((na T c a : Int), (na T c a : Int)) ∧ M2 0 19 = some (nv T c a, nv T c a)) ∧ (nk T c a lo hi ≠ 0 → r.toInt = 0 ∧ M2 0 17 = some ((nk T c a lo hi : Int), (nk T c a lo hi : Int)) ∧ M2 0 18 = some ((sk T c a : Int), (sk T c a : Int)) ∧ ∃ b : Nat, b ≤ c ∧ M2 0 16 = some ((b : Int), (b : Int)))) := by
  refine k_metI "EdgeEchoesModel" rfl (by decide +kernel) (Nat.le_of_ble_eq_true rfl) (fun r u h => (cI_nar (cI_01 h.1)).1) ?_
  intro p e s m args below meth cod Q ls X hG hl ret
  have hl : lv_has ls 5 [(0, .ref ma), (1, .int x901), (2, .int x902)] := hl
  refine lv_aload_n X.1 X.2.1 dX10_readsNumber_0 rfl (lv_at hl 0 rfl) ?_
  refine k_cVv X hG (e_X10_pass l D cy τ hU hma hc hX ha h16) hma rfl yv_X10_pass q_970 ⟨rfl, rfl⟩ ⟨Nat.le_of_ble_eq_true rfl, Nat.le_of_ble_eq_true rfl⟩ rfl hl.1 rfl (Nat.le_of_ble_eq_true rfl) ⟨Nat.zero_le _, Nat.zero_le _⟩ dX10_readsNumber_1 (fun u1 H locs hG po => ?_)
  rw [po] at hG
  have hs1 : a ≤ sk T c a := sk_ge
  have hs2 : sk T c a ≤ c := sk_le ha
  have en : na T c a = de T c (sk T c a) := rfl
  have ev : nv T c a = vl T (sk T c a) (min (na T c a - sk T c a) 3) := rfl
  have hXs : MX (fsM M 16 ((sk T c a : Int), (sk T c a : Int))) c T := mx_fr hX (fr1_fs fr1_rf (by omega))
  refine lv_aload_n X.1 X.2.1 dX10_readsNumber_4 rfl (lv_at hl 0 rfl) ?_
  refine gf_10_16 X hG hma q_892 dX10_readsNumber_5 (fun x2 r2 => ?_)
  have b2 := (cn_R _ _ _ _ hma r2) _ _ (fsM_at)
  refine lv_istore_n (lv' := [(3, .int x2), (0, .ref ma), (1, .int x901), (2, .int x902)]) X.1 X.2.1 dX10_readsNumber_8 rfl hl (by decide) rfl (fun ls hl => ?_)
  refine lv_aload_n X.1 X.2.1 dX10_readsNumber_9 rfl (lv_at hl 1 rfl) ?_
  refine lv_aload_n X.1 X.2.1 dX10_readsNumber_10 rfl (lv_at hl 1 rfl) ?_
  refine gf_10_16 X hG hma q_892 dX10_readsNumber_11 (fun x3 r3 => ?_)
  have b3 := (cn_R _ _ _ _ hma r3) _ _ (fsM_at)
  refine k_cVi X hG (e_X10_isFigure l D cy τ hU hma hc hXs hs2 x3 (by omega)) hma rfl yv_X10_isFigure q_990 ⟨rfl, rfl⟩ ⟨Nat.le_of_ble_eq_true rfl, Nat.le_of_ble_eq_true rfl⟩ rfl hl.1 rfl (Nat.le_of_ble_eq_true rfl) ⟨Nat.zero_le _, Nat.zero_le _⟩ dX10_readsNumber_14 (fun x4 u4 H locs hG po => ?_)
  obtain ⟨eu4, pb, p1, p2⟩ := po
  rw [eu4] at hG
  refine n_if_ne (tgt := 30) X dX10_readsNumber_17 (by decide) (fun c5 => ?_) (fun c5 => ?_)
  · have hd0 := p1 (by omega)
    refine n_ic X dX10_readsNumber_30 (by decide) (by decide) (fun x6 t6 => ?_)
    refine lv_istore (lv' := [(4, .int x6), (3, .int x2), (0, .ref ma), (1, .int x901), (2, .int x902)]) X.1 X.2.1 dX10_readsNumber_31 hl (by decide) rfl (fun ls hl => ?_)
    have J33 : ∀ (n q : Nat) (H : Heap) (locs : List Loc) (ls : Array Slot) (y4 : Int32), sk T c a ≤ q → q ≤ c → de T c q = de T c (sk T c a) → (∀ i, sk T c a ≤ i → i < q → 48 ≤ (T i).toInt ∧ (T i).toInt ≤ 57) → y4.toInt = vl T (sk T c a) (min (q - sk T c a) 3) → c - q < n → TG D cy τ (cn (fsM M 16 ((q : Int), (q : Int))) τ) (ty_d τ) s.heap H locs → lv_has ls 5 [(0, .ref ma), (1, .int x901), (2, .int x902), (3, .int x2), (4, .int y4)] → W p l e (rL 2) s m args below meth cod H locs 0 0 Q (F0 m 33 ls []) := by
      intro n
      induction n with
      | zero => intro q H locs ls y4 h1 h2 h3 h4 h5 h6; exact absurd h6 (Nat.not_lt_zero _)
      | succ n ih =>
        intro q H locs ls y4 hq1 hq2 hq3 hq4 t4 hm hG hl
        have hXq : MX (fsM M 16 ((q : Int), (q : Int))) c T := mx_fr hX (fr1_fs fr1_rf (by omega))
        have vb := vl_b (T := T) (s := sk T c a) (min (q - sk T c a) 3) (by omega) (fun i hi => hq4 _ (by omega) (by omega))
        have vb9 : 0 ≤ y4.toInt ∧ y4.toInt ≤ 999 := by
          rw [t4]
          refine ⟨vb.1, Int.le_trans vb.2 ?_⟩
          split
          · decide
          · split
            · decide
            · split <;> decide
        refine lv_aload_n X.1 X.2.1 dX10_readsNumber_33 rfl (lv_at hl 0 rfl) ?_
        refine lv_aload_n X.1 X.2.1 dX10_readsNumber_34 rfl (lv_at hl 0 rfl) ?_
        refine gf_10_16 X hG hma q_892 dX10_readsNumber_35 (fun x7 r7 => ?_)
        have b7 := (cn_R _ _ _ _ hma r7) _ _ (fsM_at)
        refine k_cVi X hG (e_X10_isFigure l D cy τ hU hma hc hXq hq2 x7 (by omega)) hma rfl yv_X10_isFigure q_990 ⟨rfl, rfl⟩ ⟨Nat.le_of_ble_eq_true rfl, Nat.le_of_ble_eq_true rfl⟩ rfl hl.1 rfl (Nat.le_of_ble_eq_true rfl) ⟨Nat.zero_le _, Nat.zero_le _⟩ dX10_readsNumber_38 (fun x8 u8 H locs hG po => ?_)
        obtain ⟨eu8, pb2, p3, p4⟩ := po
        rw [eu8] at hG
        refine n_if_eq (tgt := 92) X dX10_readsNumber_41 (by decide) (fun c9 => ?_) (fun c9 => ?_)
        · have hde : de T c (sk T c a) = q := by rw [← hq3, de_n (fun h => p4 (by omega) h)]
          have en2 : na T c a = q := en.trans hde
          have ev2 : nv T c a = y4.toInt := by rw [ev, en2, t4]
          have hne : na T c a ≠ sk T c a := by
            have hq0 : de T c (sk T c a) = de T c (sk T c a + 1) := de_y hd0.1 hd0.2
            have := de_ge (T := T) (c := c) (a := sk T c a + 1)
            omega
          refine lv_aload_n X.1 X.2.1 dX10_readsNumber_92 rfl (lv_at hl 0 rfl) ?_
          refine lv_iload X.1 X.2.1 dX10_readsNumber_93 (lv_at hl 4 rfl) ?_
          refine pg_10_19 X hG hma q_895 dX10_readsNumber_95 (cn (fsM (fsM M 16 ((q : Int), (q : Int))) 19 (y4.toInt, y4.toInt)) τ) (cf_off hU hma fsM_ne) (cf_oth fsM_ne) (cw_new hma (ty_ryes fsM_at (by omega))) (fun H locs hG => ?_)
          refine lv_aload_n X.1 X.2.1 dX10_readsNumber_98 rfl (lv_at hl 0 rfl) ?_
          refine gf_10_16 X hG hma q_892 dX10_readsNumber_99 (fun x10 r10 => ?_)
          have b10 := (cn_R _ _ _ _ hma r10) _ _ ((fsM_ne _ _ (by omega)).trans fsM_at)
          refine lv_iload_n X.1 X.2.1 dX10_readsNumber_102 rfl (lv_at hl 3 rfl) ?_
          refine n_sub X dX10_readsNumber_103 (by omega) (by omega) (fun x11 t11 => ?_)
          refine n_ic X dX10_readsNumber_104 (by decide) (by decide) (fun x12 t12 => ?_)
          refine n_icmp_ge (tgt := 121) X dX10_readsNumber_105 (by decide) (fun c13 => ?_) (fun c13 => ?_)
          · refine lv_aload_n X.1 X.2.1 dX10_readsNumber_121 rfl (lv_at hl 0 rfl) ?_
            refine n_ic X dX10_readsNumber_122 (by decide) (by decide) (fun x14 t14 => ?_)
            refine lv_iload_n X.1 X.2.1 dX10_readsNumber_123 rfl (lv_at hl 3 rfl) ?_
            refine k_cVi X hG (e_X10_refuse l D cy τ hU hma x14 x2 (y := 2) (z := (sk T c a : Int)) (by omega) (by omega)) hma rfl yv_X10_refuse q_978 ⟨rfl, rfl⟩ ⟨Nat.le_of_ble_eq_true rfl, Nat.le_of_ble_eq_true rfl⟩ rfl hl.1 rfl (Nat.le_of_ble_eq_true rfl) ⟨Nat.zero_le _, Nat.zero_le _⟩ dX10_readsNumber_124 (fun x15 u15 H locs hG po => ?_)
            obtain ⟨tr, eu15⟩ := po
            rw [eu15] at hG
            have hk2 : nk T c a lo hi = 2 := nk_2 hne (Or.inl (by omega))
            refine n_if_eq (tgt := 134) X dX10_readsNumber_127 (by decide) (fun cq => ?_) (fun cq => ?_)
            · refine n_ic X dX10_readsNumber_134 (by decide) (by decide) (fun x17 t17 => ?_)
              exact ret _ _ _ _ x17 _ hG ⟨by omega, _, rfl, fr1_fs (fr1_fs (fr1_fs (fr1_fs fr1_rf (by omega)) (by omega)) (by omega)) (by omega), (fun h => by rw [hk2] at h; cases h), (fun _ => ⟨by omega, by rw [fsM_ne _ _ (by omega), fsM_at, hk2]; rfl, fsM_at, q, hq2, by rw [fsM_ne _ _ (by omega), fsM_ne _ _ (by omega), fsM_ne _ _ (by omega), fsM_at]⟩)⟩ dX10_readsNumber_135
            · exact absurd tr cq
          · refine lv_iload X.1 X.2.1 dX10_readsNumber_108 (lv_at hl 4 rfl) ?_
            refine n_i2l X dX10_readsNumber_110 (fun w18 t18 => ?_)
            refine lv_iload_n X.1 X.2.1 dX10_readsNumber_111 rfl (lv_at hl 1 rfl) ?_
            refine n_i2l X dX10_readsNumber_112 (fun w19 t19 => ?_)
            refine lv_iload_n X.1 X.2.1 dX10_readsNumber_113 rfl (lv_at hl 2 rfl) ?_
            refine n_i2l X dX10_readsNumber_114 (fun w20 t20 => ?_)
            refine k_cSi X hG (c_X10_in l D cy τ _ cn_N cn_R (cn_F (S := [])) w18 w19 w20) ys_X10_in q_957 ⟨rfl, rfl⟩ ⟨Nat.le_of_ble_eq_true rfl, Nat.le_of_ble_eq_true rfl⟩ rfl hl.1 rfl (Nat.le_of_ble_eq_true rfl) ⟨Nat.zero_le _, Nat.zero_le _⟩ dX10_readsNumber_115 (fun x21 u21 H locs hG po => ?_)
            obtain ⟨eu21, pb3, p5, p6⟩ := po
            rw [eu21] at hG
            refine n_if_ne (tgt := 130) X dX10_readsNumber_118 (by decide) (fun c22 => ?_) (fun c22 => ?_)
            · refine n_ic X dX10_readsNumber_130 (by decide) (by decide) (fun x23 t23 => ?_)
              refine lv_goto (tgt := 135) X.1 X.2.1 dX10_readsNumber_131 (by decide) ?_
              have hk0 : nk T c a lo hi = 0 := nk_0 hne (by have := p5 (by omega); omega)
              exact ret _ _ _ _ x23 _ hG ⟨by omega, _, rfl, fr1_fs (fr1_fs fr1_rf (by omega)) (by omega), (fun _ => ⟨by omega, (by rw [fsM_ne _ _ (by omega), fsM_at, en2]), (by rw [fsM_at, ev2])⟩), (fun h => absurd hk0 h)⟩ dX10_readsNumber_135
            · refine lv_aload_n X.1 X.2.1 dX10_readsNumber_121 rfl (lv_at hl 0 rfl) ?_
              refine n_ic X dX10_readsNumber_122 (by decide) (by decide) (fun x24 t24 => ?_)
              refine lv_iload_n X.1 X.2.1 dX10_readsNumber_123 rfl (lv_at hl 3 rfl) ?_
              refine k_cVi X hG (e_X10_refuse l D cy τ hU hma x24 x2 (y := 2) (z := (sk T c a : Int)) (by omega) (by omega)) hma rfl yv_X10_refuse q_978 ⟨rfl, rfl⟩ ⟨Nat.le_of_ble_eq_true rfl, Nat.le_of_ble_eq_true rfl⟩ rfl hl.1 rfl (Nat.le_of_ble_eq_true rfl) ⟨Nat.zero_le _, Nat.zero_le _⟩ dX10_readsNumber_124 (fun x25 u25 H locs hG po => ?_)
              obtain ⟨tr, eu25⟩ := po
              rw [eu25] at hG
              have hk2 : nk T c a lo hi = 2 := nk_2 hne (by have := p6 (by omega); omega)
              refine n_if_eq (tgt := 134) X dX10_readsNumber_127 (by decide) (fun cq => ?_) (fun cq => ?_)
              · refine n_ic X dX10_readsNumber_134 (by decide) (by decide) (fun x27 t27 => ?_)
                exact ret _ _ _ _ x27 _ hG ⟨by omega, _, rfl, fr1_fs (fr1_fs (fr1_fs (fr1_fs fr1_rf (by omega)) (by omega)) (by omega)) (by omega), (fun h => by rw [hk2] at h; cases h), (fun _ => ⟨by omega, by rw [fsM_ne _ _ (by omega), fsM_at, hk2]; rfl, fsM_at, q, hq2, by rw [fsM_ne _ _ (by omega), fsM_ne _ _ (by omega), fsM_ne _ _ (by omega), fsM_at]⟩)⟩ dX10_readsNumber_135
              · exact absurd tr cq
        · have hd := p3 (by omega)
          refine lv_aload_n X.1 X.2.1 dX10_readsNumber_44 rfl (lv_at hl 0 rfl) ?_
          refine gf_10_16 X hG hma q_892 dX10_readsNumber_45 (fun x28 r28 => ?_)
          have b28 := (cn_R _ _ _ _ hma r28) _ _ (fsM_at)
          refine lv_iload_n X.1 X.2.1 dX10_readsNumber_48 rfl (lv_at hl 3 rfl) ?_
          refine n_sub X dX10_readsNumber_49 (by omega) (by omega) (fun x29 t29 => ?_)
          refine n_ic X dX10_readsNumber_50 (by decide) (by decide) (fun x30 t30 => ?_)
          refine n_icmp_ge (tgt := 75) X dX10_readsNumber_51 (by decide) (fun c31 => ?_) (fun c31 => ?_)
          · refine lv_iload X.1 X.2.1 dX10_readsNumber_75 (lv_at hl 4 rfl) ?_
            refine lv_istore (lv' := [(4, .int y4), (0, .ref ma), (1, .int x901), (2, .int x902), (3, .int x2)]) X.1 X.2.1 dX10_readsNumber_77 hl (by decide) rfl (fun ls hl => ?_)
            refine lv_aload_n X.1 X.2.1 dX10_readsNumber_79 rfl (lv_at hl 1 rfl) ?_
            refine lv_dup X.1 X.2.1 dX10_readsNumber_80 rfl ?_
            refine gf_10_16 X hG hma q_892 dX10_readsNumber_81 (fun x32 r32 => ?_)
            have b32 := (cn_R _ _ _ _ hma r32) _ _ (fsM_at)
            refine n_ic X dX10_readsNumber_84 (by decide) (by decide) (fun x33 t33 => ?_)
            refine n_add X dX10_readsNumber_85 (by omega) (by omega) (fun x34 t34 => ?_)
            refine pg_10_16 X hG hma q_892 dX10_readsNumber_86 (cn (fsM (fsM M 16 ((q : Int), (q : Int))) 16 (((q + 1 : Nat) : Int), ((q + 1 : Nat) : Int))) τ) (cf_off hU hma fsM_ne) (cf_oth fsM_ne) (cw_new hma (ty_ryes fsM_at (by omega))) (fun H locs hG => ?_)
            rw [fsM_fs] at hG
            refine lv_goto (tgt := 33) X.1 X.2.1 dX10_readsNumber_89 (by decide) ?_
            exact ih (q + 1) _ _ _ y4 (by omega) (by omega) (by rw [← hq3, de_y (a := q) hd.1 hd.2]) (fun i h1 h2 => by
              by_cases e : i = q
              · rw [e]; exact hd.2
              · exact hq4 i h1 (by omega)) (by rw [t4, show min (q - sk T c a) 3 = 3 by omega, show min (q + 1 - sk T c a) 3 = 3 by omega]) (by omega) hG (lv_sub hl [1, 2, 3, 4, 0] rfl)
          · have em : min (q - sk T c a) 3 = q - sk T c a := by omega
            refine n_bp X dX10_readsNumber_54 (by decide) (by decide) (fun x35 t35 => ?_)
            refine lv_iload X.1 X.2.1 dX10_readsNumber_56 (lv_at hl 4 rfl) ?_
            refine n_mul X dX10_readsNumber_58 (by rw [t35]; omega) (by rw [t35]; omega) (fun x36 t36 => ?_)
            rw [t35] at t36
            refine lv_aload_n X.1 X.2.1 dX10_readsNumber_59 rfl (lv_at hl 0 rfl) ?_
            refine gf_10_6 X hG hma q_882 dX10_readsNumber_60 (cn_N _ _ _ hma) (fun a37 h37 r37 => ?_)
            refine lv_aload_n X.1 X.2.1 dX10_readsNumber_63 rfl (lv_at hl 0 rfl) ?_
            refine gf_10_16 X hG hma q_892 dX10_readsNumber_64 (fun x38 r38 => ?_)
            have b38 := (cn_R _ _ _ _ hma r38) _ _ (fsM_at)
            refine tg_iald X hG h37 rfl (cI_in (n := 240) (by omega)) dX10_readsNumber_67 (fun x39 r39 => ?_)
            have b39 := rdR (cn_R _ _ _ _ h37 r39) (n := q) (by omega) (hXq.2 q (by omega))
            refine n_add X dX10_readsNumber_68 (by omega) (by omega) (fun x40 t40 => ?_)
            refine n_bp X dX10_readsNumber_69 (by decide) (by decide) (fun x41 t41 => ?_)
            refine n_sub X dX10_readsNumber_71 (by omega) (by omega) (fun x42 t42 => ?_)
            refine lv_goto (tgt := 77) X.1 X.2.1 dX10_readsNumber_72 (by decide) ?_
            refine lv_istore (lv' := [(4, .int x42), (0, .ref ma), (1, .int x901), (2, .int x902), (3, .int x2)]) X.1 X.2.1 dX10_readsNumber_77 hl (by decide) rfl (fun ls hl => ?_)
            refine lv_aload_n X.1 X.2.1 dX10_readsNumber_79 rfl (lv_at hl 1 rfl) ?_
            refine lv_dup X.1 X.2.1 dX10_readsNumber_80 rfl ?_
            refine gf_10_16 X hG hma q_892 dX10_readsNumber_81 (fun x43 r43 => ?_)
            have b43 := (cn_R _ _ _ _ hma r43) _ _ (fsM_at)
            refine n_ic X dX10_readsNumber_84 (by decide) (by decide) (fun x44 t44 => ?_)
            refine n_add X dX10_readsNumber_85 (by omega) (by omega) (fun x45 t45 => ?_)
            refine pg_10_16 X hG hma q_892 dX10_readsNumber_86 (cn (fsM (fsM M 16 ((q : Int), (q : Int))) 16 (((q + 1 : Nat) : Int), ((q + 1 : Nat) : Int))) τ) (cf_off hU hma fsM_ne) (cf_oth fsM_ne) (cw_new hma (ty_ryes fsM_at (by omega))) (fun H locs hG => ?_)
            rw [fsM_fs] at hG
            refine lv_goto (tgt := 33) X.1 X.2.1 dX10_readsNumber_89 (by decide) ?_
            exact ih (q + 1) _ _ _ x42 (by omega) (by omega) (by rw [← hq3, de_y (a := q) hd.1 hd.2]) (fun i h1 h2 => by
              by_cases e : i = q
              · rw [e]; exact hd.2
              · exact hq4 i h1 (by omega)) (by rw [show min (q + 1 - sk T c a) 3 = (q - sk T c a) + 1 by omega]; show _ = 10 * vl T (sk T c a) (q - sk T c a) + ((T (sk T c a + (q - sk T c a))).toInt - 48); rw [show sk T c a + (q - sk T c a) = q by omega, ← em, ← t4]; omega) (by omega) hG (lv_sub hl [1, 2, 3, 4, 0] rfl)
    exact J33 (c + 1) (sk T c a) _ _ _ x6 (Nat.le_refl _) hs2 rfl (fun i h1 h2 => absurd h1 (by omega)) (by rw [show min (sk T c a - sk T c a) 3 = 0 by omega, t6]; rfl) (by omega) hG (lv_sub hl [2, 3, 4, 1, 0] rfl)
  · refine lv_aload_n X.1 X.2.1 dX10_readsNumber_20 rfl (lv_at hl 1 rfl) ?_
    refine n_ic X dX10_readsNumber_21 (by decide) (by decide) (fun x46 t46 => ?_)
    refine lv_aload_n X.1 X.2.1 dX10_readsNumber_22 rfl (lv_at hl 1 rfl) ?_
    refine gf_10_16 X hG hma q_892 dX10_readsNumber_23 (fun x47 r47 => ?_)
    have b47 := (cn_R _ _ _ _ hma r47) _ _ (fsM_at)
    refine k_cVi X hG (e_X10_refuse l D cy τ hU hma x46 x47 (y := 1) (z := (sk T c a : Int)) (by omega) (by omega)) hma rfl yv_X10_refuse q_978 ⟨rfl, rfl⟩ ⟨Nat.le_of_ble_eq_true rfl, Nat.le_of_ble_eq_true rfl⟩ rfl hl.1 rfl (Nat.le_of_ble_eq_true rfl) ⟨Nat.zero_le _, Nat.zero_le _⟩ dX10_readsNumber_26 (fun x48 u48 H locs hG po => ?_)
    obtain ⟨tr, eu48⟩ := po
    rw [eu48] at hG
    have hk1 : nk T c a lo hi = 1 := nk_1 (by rw [en, de_n (fun h => p2 (by omega) h)])
    exact ret _ _ _ _ x48 _ hG ⟨by omega, _, rfl, fr1_fs (fr1_fs (fr1_fs fr1_rf (by omega)) (by omega)) (by omega), (fun h => by rw [hk1] at h; cases h), (fun _ => ⟨tr, by rw [fsM_ne _ _ (by omega), fsM_at, hk1]; rfl, fsM_at, sk T c a, hs2, by rw [fsM_ne _ _ (by omega), fsM_ne _ _ (by omega), fsM_at]⟩)⟩ dX10_readsNumber_29
set_option maxHeartbeats 4000000 in
set_option maxRecDepth 100000 in
theorem e_X10_readsEnd (l : Launch) (D : va_G) (cy : Nat → ClassId) (τ : ty_T) (hU : UQ τ) {M : md_T} {ma : Nat} (hma : τ ma = some (0, 10)) {c : Nat} {T : Nat → Int32} (hc : c ≤ 240) (hX : MX M c T) {a : Nat} (ha : a ≤ c) (h16 : M 0 16 = some ((a : Int), (a : Int))) : KI l D cy yX10_readsEnd cX10_readsEnd 1 .boolean (rL 1) τ (cn M τ) [.ref ma] (fun r w => (r.toInt = 0 ∨ r.toInt = 1) ∧ ∃ M2, w = cn M2 τ ∧ FR1 M2 M ∧ (sk T c a < c ∧ (T (sk T c a)).toInt = 59 → r.toInt = 1 ∧ M2 0 16 = some (((sk T c a + 1 : Nat) : Int), ((sk T c a + 1 : Nat) : Int))) ∧ (¬ (sk T c a < c ∧ (T (sk T c a)).toInt = 59) → r.toInt = 0 ∧ M2 0 17 = some (1, 1) ∧ M2 0 18 = some ((sk T c a : Int), (sk T c a : Int)) ∧ ∃ b : Nat, b ≤ c ∧ M2 0 16 = some ((b : Int), (b : Int)))) := by
  refine k_metI "EdgeEchoesModel" rfl (by decide +kernel) (Nat.le_of_ble_eq_true rfl) (fun r u h => (cI_nar (cI_01 h.1)).1) ?_
  intro p e s m args below meth cod Q ls X hG hl ret
  have hl : lv_has ls 1 [(0, .ref ma)] := hl
  refine lv_aload_n X.1 X.2.1 dX10_readsEnd_0 rfl (lv_at hl 0 rfl) ?_
  refine k_cVv X hG (e_X10_pass l D cy τ hU hma hc hX ha h16) hma rfl yv_X10_pass q_970 ⟨rfl, rfl⟩ ⟨Nat.le_of_ble_eq_true rfl, Nat.le_of_ble_eq_true rfl⟩ rfl hl.1 rfl (Nat.le_of_ble_eq_true rfl) ⟨Nat.zero_le _, Nat.zero_le _⟩ dX10_readsEnd_1 (fun u1 H locs hG po => ?_)
  rw [po] at hG
  have hs2 : sk T c a ≤ c := sk_le ha
  have hXs : MX (fsM M 16 ((sk T c a : Int), (sk T c a : Int))) c T := mx_fr hX (fr1_fs fr1_rf (by omega))
  refine lv_aload_n X.1 X.2.1 dX10_readsEnd_4 rfl (lv_at hl 0 rfl) ?_
  refine gf_10_16 X hG hma q_892 dX10_readsEnd_5 (fun x2 r2 => ?_)
  have b2 := (cn_R _ _ _ _ hma r2) _ _ (fsM_at)
  refine lv_aload_n X.1 X.2.1 dX10_readsEnd_8 rfl (lv_at hl 0 rfl) ?_
  refine gf_10_7 X hG hma q_883 dX10_readsEnd_9 (fun x3 r3 => ?_)
  have b3 := (cn_R _ _ _ _ hma r3) _ _ (hXs.1)
  refine n_icmp_eq (tgt := 29) X dX10_readsEnd_12 (by decide) (fun c4 => ?_) (fun c4 => ?_)
  · refine lv_aload_n X.1 X.2.1 dX10_readsEnd_29 rfl (lv_at hl 0 rfl) ?_
    refine n_ic X dX10_readsEnd_30 (by decide) (by decide) (fun x5 t5 => ?_)
    refine lv_aload_n X.1 X.2.1 dX10_readsEnd_31 rfl (lv_at hl 0 rfl) ?_
    refine gf_10_16 X hG hma q_892 dX10_readsEnd_32 (fun x6 r6 => ?_)
    have b6 := (cn_R _ _ _ _ hma r6) _ _ (fsM_at)
    refine k_cVi X hG (e_X10_refuse l D cy τ hU hma x5 x6 (y := 1) (z := (sk T c a : Int)) (by omega) (by omega)) hma rfl yv_X10_refuse q_978 ⟨rfl, rfl⟩ ⟨Nat.le_of_ble_eq_true rfl, Nat.le_of_ble_eq_true rfl⟩ rfl hl.1 rfl (Nat.le_of_ble_eq_true rfl) ⟨Nat.zero_le _, Nat.zero_le _⟩ dX10_readsEnd_35 (fun x7 u7 H locs hG po => ?_)
    obtain ⟨tr, eu7⟩ := po
    rw [eu7] at hG
    exact ret _ _ _ _ x7 _ hG ⟨by omega, _, rfl, fr1_fs (fr1_fs (fr1_fs fr1_rf (by omega)) (by omega)) (by omega), (fun h => absurd h (by omega)), (fun _ => ⟨tr, by rw [fsM_ne _ _ (by omega), fsM_at], fsM_at, sk T c a, hs2, by rw [fsM_ne _ _ (by omega), fsM_ne _ _ (by omega), fsM_at]⟩)⟩ dX10_readsEnd_38
  · refine lv_aload_n X.1 X.2.1 dX10_readsEnd_15 rfl (lv_at hl 0 rfl) ?_
    refine gf_10_6 X hG hma q_882 dX10_readsEnd_16 (cn_N _ _ _ hma) (fun a8 h8 r8 => ?_)
    refine lv_aload_n X.1 X.2.1 dX10_readsEnd_19 rfl (lv_at hl 0 rfl) ?_
    refine gf_10_16 X hG hma q_892 dX10_readsEnd_20 (fun x9 r9 => ?_)
    have b9 := (cn_R _ _ _ _ hma r9) _ _ (fsM_at)
    refine tg_iald X hG h8 rfl (cI_in (n := 240) (by omega)) dX10_readsEnd_23 (fun x10 r10 => ?_)
    have b10 := rdR (cn_R _ _ _ _ h8 r10) (n := (sk T c a)) (by omega) (hXs.2 _ (by omega))
    refine n_bp X dX10_readsEnd_24 (by decide) (by decide) (fun x11 t11 => ?_)
    refine n_icmp_eq (tgt := 39) X dX10_readsEnd_26 (by decide) (fun c12 => ?_) (fun c12 => ?_)
    · refine lv_aload_n X.1 X.2.1 dX10_readsEnd_39 rfl (lv_at hl 0 rfl) ?_
      refine lv_dup X.1 X.2.1 dX10_readsEnd_40 rfl ?_
      refine gf_10_16 X hG hma q_892 dX10_readsEnd_41 (fun x13 r13 => ?_)
      have b13 := (cn_R _ _ _ _ hma r13) _ _ (fsM_at)
      refine n_ic X dX10_readsEnd_44 (by decide) (by decide) (fun x14 t14 => ?_)
      refine n_add X dX10_readsEnd_45 (by omega) (by omega) (fun x15 t15 => ?_)
      refine pg_10_16 X hG hma q_892 dX10_readsEnd_46 (cn (fsM (fsM M 16 ((sk T c a : Int), (sk T c a : Int))) 16 (((sk T c a + 1 : Nat) : Int), ((sk T c a + 1 : Nat) : Int))) τ) (cf_off hU hma fsM_ne) (cf_oth fsM_ne) (cw_new hma (ty_ryes fsM_at (by omega))) (fun H locs hG => ?_)
      rw [fsM_fs] at hG
      refine n_ic X dX10_readsEnd_49 (by decide) (by decide) (fun x16 t16 => ?_)
      exact ret _ _ _ _ x16 _ hG ⟨by omega, _, rfl, fr1_fs fr1_rf (by omega), (fun _ => ⟨by omega, fsM_at⟩), (fun h => absurd (by omega) h)⟩ dX10_readsEnd_50
    · refine lv_aload_n X.1 X.2.1 dX10_readsEnd_29 rfl (lv_at hl 0 rfl) ?_
      refine n_ic X dX10_readsEnd_30 (by decide) (by decide) (fun x17 t17 => ?_)
      refine lv_aload_n X.1 X.2.1 dX10_readsEnd_31 rfl (lv_at hl 0 rfl) ?_
      refine gf_10_16 X hG hma q_892 dX10_readsEnd_32 (fun x18 r18 => ?_)
      have b18 := (cn_R _ _ _ _ hma r18) _ _ (fsM_at)
      refine k_cVi X hG (e_X10_refuse l D cy τ hU hma x17 x18 (y := 1) (z := (sk T c a : Int)) (by omega) (by omega)) hma rfl yv_X10_refuse q_978 ⟨rfl, rfl⟩ ⟨Nat.le_of_ble_eq_true rfl, Nat.le_of_ble_eq_true rfl⟩ rfl hl.1 rfl (Nat.le_of_ble_eq_true rfl) ⟨Nat.zero_le _, Nat.zero_le _⟩ dX10_readsEnd_35 (fun x19 u19 H locs hG po => ?_)
      obtain ⟨tr, eu19⟩ := po
      rw [eu19] at hG
      exact ret _ _ _ _ x19 _ hG ⟨by omega, _, rfl, fr1_fs (fr1_fs (fr1_fs fr1_rf (by omega)) (by omega)) (by omega), (fun h => absurd h (by omega)), (fun _ => ⟨tr, by rw [fsM_ne _ _ (by omega), fsM_at], fsM_at, sk T c a, hs2, by rw [fsM_ne _ _ (by omega), fsM_ne _ _ (by omega), fsM_at]⟩)⟩ dX10_readsEnd_38
