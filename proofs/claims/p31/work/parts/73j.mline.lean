/-! the reference's line to the letter -/
theorem ln_f2 {K : KT} {P N u : Nat} {k0 k1 : Bool} {M2 : md_T} {φ : Int} (hu : u ≤ 12) (hf : FR M2 (MM K P N u k0 k1)) : ∀ n j r, MM (0, φ, K.2.2) P N u k0 k1 n j = some r → fsM (fsM M2 7 (((0 : Nat) : Int), ((0 : Nat) : Int))) 8 (φ, φ) n j = some r := by
  intro n j r h
  by_cases e8 : n = 0 ∧ j = 8
  · obtain ⟨rfl, rfl⟩ := e8
    rw [fsM_at]
    exact h
  rw [fsM_ne n j (by omega)]
  by_cases e1 : n = 0 ∧ j = 7
  · obtain ⟨rfl, rfl⟩ := e1
    rw [fsM_at]
    exact h
  rw [fsM_ne n j (by omega)]
  by_cases n0 : n = 0
  · subst n0
    by_cases e2 : 16 ≤ j ∧ j ≤ 20
    · rw [MM_0] at h
      unfold flM at h
      rw [if_neg (by omega), if_neg (by omega), if_neg (by omega), if_neg (by omega), if_neg (by omega), if_neg (by omega)] at h
      cases h
    · rw [hf 0 j (by omega) (by omega)]
      rw [MM_0] at h ⊢
      exact fl_o (v := 0) (K := K) (K2 := (0, φ, K.2.2)) h (fun e => absurd ⟨rfl, e⟩ e1) (fun e => absurd ⟨rfl, e⟩ e8) (fun _ => rfl) (fun _ => rfl)
  by_cases n16 : n = 16
  · subst n16
    have h2 : txM (0, φ, K.2.2) j = some r := h
    unfold txM at h2
    rw [if_neg (show ¬ j < 0 from Nat.not_lt_zero j)] at h2
    cases h2
  by_cases e3 : n = 10 ∧ 3983 ≤ j
  · obtain ⟨rfl, e3⟩ := e3
    rw [MM_10, rw_hi hu e3] at h
    cases h
  · rw [hf n j (by omega) e3, MM_K (K2 := (0, φ, K.2.2)) n0 n16]
    exact h
def bN (b : Bool) : Nat := if b then 1 else 0
theorem bN_1 {b : Bool} : bN b ≤ 1 := by cases b <;> decide
/-- told is kept behind the pieces -/
def gT (g : Nat → Nat) (b : Bool) : Nat → Nat := fun i => if i = 100 then bN b else g i
theorem gT_s {g : Nat → Nat} {b : Bool} {p : Nat} (hp : p ≤ 8) : sumF (gT g b) p = sumF g p := sumF_cg p (fun i hi => by unfold gT; rw [if_neg (by omega)])
theorem gT_r {P G : Nat} {g : Nat → Nat} {b : Bool} {o : Nat} (hp : P ≤ 8) (h : o ≠ 247) : rdM P G (gT g b) o = rdM P G g o := by
  unfold rdM
  rw [gT_s hp, if_neg h, if_neg h]
  by_cases q : 250 ≤ o ∧ o < 250 + P
  · rw [if_pos q, if_pos q]
    have e : gT g b (o - 250) = g (o - 250) := by unfold gT; rw [if_neg (by omega)]
    rw [e]
  · rw [if_neg q, if_neg q]
theorem ln_m {K : KT} {P N u lo : Nat} {k0 k1 : Bool} {M2 : md_T} {st : ST} {g : Nat → Nat} (hf : FR M2 (MM K P N u k0 k1)) (hM : MS M2 st g) (h16 : M2 0 16 = some ((lo : Int), (lo : Int))) (hle : lo ≤ K.1) (hp : st.2.1 ≤ 8) : ∀ n j r, RMM (MM K P N u k0 k1) K.1 lo st.2.1 st.2.2.2.2 (gT g st.1) n j = some r → ∃ q, M2 n j = some q ∧ r.1 ≤ q.1 ∧ q.2 ≤ r.2 := by
  intro n j r h
  have rf : ∀ z : Option (Int × Int), z = some r → ∃ q, z = some q ∧ r.1 ≤ q.1 ∧ q.2 ≤ r.2 := fun z hz => ⟨r, hz, Int.le_refl _, Int.le_refl _⟩
  by_cases e1 : n = 0 ∧ j = 7
  · obtain ⟨rfl, rfl⟩ := e1
    rw [hf 0 7 (by omega) (by omega)]
    exact rf _ h
  by_cases e2 : n = 0 ∧ j = 16
  · obtain ⟨rfl, rfl⟩ := e2
    have h : some ((lo : Int), (K.1 : Int)) = some r := h
    cases h
    exact ⟨_, h16, Int.le_refl _, by show (lo : Int) ≤ (K.1 : Int); omega⟩
  by_cases e3 : n = 10 ∧ 3983 ≤ j
  · obtain ⟨rfl, e3⟩ := e3
    rw [show j = 3983 + (j - 3983) by omega, RMM_r] at h
    by_cases h247 : j - 3983 = 247
    · rw [h247, rd_247 hp] at h
      rw [show j = 4230 by omega, hM.2.1]
      refine rf _ ?_
      rw [← h]
      have e : gT g st.1 100 = bN st.1 := if_pos rfl
      rw [e]
      cases st.1 <;> rfl
    · rw [gT_r hp h247] at h
      rw [show j = 3983 + (j - 3983) by omega, hM.2.2.1 _ h247]
      exact rf _ h
  rw [RMM_f e1 e2 e3] at h
  by_cases e4 : n = 0 ∧ 16 ≤ j ∧ j ≤ 20
  · obtain ⟨rfl, e4⟩ := e4
    rw [MM_0] at h
    unfold flM at h
    rw [if_neg (by omega), if_neg (by omega), if_neg (by omega), if_neg (by omega), if_neg (by omega), if_neg (by omega)] at h
    cases h
  · rw [hf n j e4 e3]
    exact rf _ h
theorem clk_le {T : Nat → Int32} {c a : Nat} {st : ST} : (clk T c st a).1 ≤ 3 := by
  have hn : ∀ {w m k p : Nat}, (cnF T c w m k p).1 ≤ 3 := by
    intro w m
    induction m with
    | zero => intro k p; exact Nat.zero_le _
    | succ m ih =>
      intro k p
      by_cases h : nk T c p (nlo w k) (nhi w k) = 0
      · rw [cnF_y h]; exact ih
      · rw [cnF_n h]
        have := nk_c (T := T) (c := c) (a := p) (lo := nlo w k) (hi := nhi w k)
        show nk T c p (nlo w k) (nhi w k) ≤ 3
        omega
  unfold clk
  split
  · exact Nat.le_of_ble_eq_true rfl
  · split
    · exact Nat.le_of_ble_eq_true rfl
    · split
      · split <;> exact Nat.le_of_ble_eq_true rfl
      · exact hn
theorem rdF_le {T : Nat → Int32} {c : Nat} : ∀ n st a, (rdF T c n st a).1 ≤ 3
  | 0, st, a => Nat.zero_le _
  | n + 1, st, a => by
    show (if a < c then (if (clk T c st a).1 = 0 then rdF T c n (nst T c st a) (sk T c (clk T c st a).2) else ((clk T c st a).1, (clk T c st a).2, st)) else (0, a, st)).1 ≤ 3
    split
    · split
      · exact rdF_le n _ _
      · exact clk_le
    · exact Nat.zero_le _
theorem rdT_le {K : KT} : (rdT K).1 ≤ 3 := rdF_le _ _ _
set_option maxHeartbeats 4000000 in
set_option maxRecDepth 100000 in
theorem e_X10_line (l : Launch) (D : va_G) (cy : Nat → ClassId) (τ : ty_T) (hU : UQ τ) {K : KT} {P N u : Nat} {k0 k1 : Bool} (ok : OKG K P N u) {ma : Nat} (hma : τ ma = some (0, 10)) : KI l D cy yX10_line cX10_line 5 .int (rL 6) τ (cn (MM K P N u k0 k1) τ) [.ref ma] (fun r w => ((rdT K).1 ≠ 0 → r.toInt = -10 - ((rdT K).1 : Int) ∧ w = cn (MM (0, ((rdT K).2.1 : Int), K.2.2) P N u k0 k1) τ) ∧ ((rdT K).1 = 0 → ∃ P2, OKG (0, -1, 0, 0, nlS K.2.2.2.2 (rdT K).2.2.2.2.2.2 (bN (rdT K).2.2.1)) P2 (rdT K).2.2.2.2.1 0 ∧ r.toInt = ((rdT K).2.2.2.2.1 : Int) ∧ w = cn (MM (0, -1, 0, 0, nlS K.2.2.2.2 (rdT K).2.2.2.2.2.2 (bN (rdT K).2.2.1)) P2 (rdT K).2.2.2.2.1 0 false false) τ)) := by
  refine k_metI "EdgeEchoesModel" rfl (by decide +kernel) (Nat.le_of_ble_eq_true rfl) (fun _ _ _ => rfl) ?_
  intro p e s m args below meth c Q ls X hG hl ret
  have hl : lv_has ls 5 [(0, .ref ma)] := hl
  refine lv_aload_n X.1 X.2.1 dX10_line_0 rfl (lv_at hl 0 rfl) ?_
  refine k_cVi X hG (e_X10_reads l D cy τ hU ok hma) hma rfl yv_X10_reads q_966 ⟨rfl, rfl⟩ ⟨Nat.le_of_ble_eq_true rfl, Nat.le_of_ble_eq_true rfl⟩ rfl hl.1 rfl (Nat.le_of_ble_eq_true rfl) ⟨Nat.zero_le _, Nat.zero_le _⟩ dX10_line_1 (fun x1 u1 H locs hG po => ?_)
  obtain ⟨hx1, M2, eu, hfr, hy, hn⟩ := po
  rw [eu] at hG
  by_cases hR : (rdT K).1 = 0
  · obtain ⟨r1, h16, hle, hO, g, hM⟩ := hy hR
    obtain ⟨o1, o2, o3⟩ := hO
    obtain ⟨Lg, lo, pc, gc, f, hL, hp, hg, hgc, hf1, hf, hN, hG⟩ : ∃ (Lg lo pc gc : Nat) (f : Nat → Nat), Lg ≤ 240 ∧ pc ≤ 8 ∧ gc ≤ 6 ∧ gc = (rdT K).2.2.2.2.2.2 ∧ f 100 = bN (rdT K).2.2.1 ∧ (∀ i, f i ≤ 9) ∧ sumF f pc = (rdT K).2.2.2.2.1 ∧ TG D cy τ (cn (RMM (MM K P N u k0 k1) Lg lo pc gc f) τ) (ty_d τ) s.heap H locs := ⟨K.1, _, _, _, gT g (rdT K).2.2.1, ok.1.2.1, o1, o3, rfl, if_pos rfl, (fun i => by unfold gT; split; exact Nat.le_trans bN_1 (by decide); exact hM.2.2.2.2 i), (gT_s o1).trans hM.2.2.2.1.symm, TG.le hG (ln_m hfr hM h16 hle o1)⟩
    have hu := ok.2.2.2
    refine lv_istore_n (lv' := [(1, .int x1), (0, .ref ma)]) X.1 X.2.1 dX10_line_4 rfl hl (by decide) rfl (fun ls hl => ?_)
    refine lv_aload_n X.1 X.2.1 dX10_line_5 rfl (lv_at hl 1 rfl) ?_
    refine n_ic X dX10_line_6 (by decide) (by decide) (fun x2 t2 => ?_)
    refine pg_10_7 X hG hma q_883 dX10_line_7 (cn (fsM (RMM (MM K P N u k0 k1) Lg lo pc gc f) 7 (((0 : Nat) : Int), ((0 : Nat) : Int))) τ) (cf_off hU hma fsM_ne) (cf_oth fsM_ne) (cw_new hma (ty_ryes fsM_at (by omega))) (fun H locs hG => ?_)
    refine lv_aload_n X.1 X.2.1 dX10_line_10 rfl (lv_at hl 1 rfl) ?_
    refine lv_iload_n X.1 X.2.1 dX10_line_11 rfl (lv_at hl 0 rfl) ?_
    refine n_if_eq (tgt := 19) X dX10_line_12 (by decide) (fun c3 => ?_) (fun c3 => ?_)
    · exact absurd c3 (by omega)
    · refine n_ic X dX10_line_15 (by decide) (by decide) (fun x4 t4 => ?_)
      refine lv_goto (tgt := 23) X.1 X.2.1 dX10_line_16 (by decide) ?_
      refine pg_10_8 X hG hma q_884 dX10_line_23 (cn (fsM (fsM (RMM (MM K P N u k0 k1) Lg lo pc gc f) 7 (((0 : Nat) : Int), ((0 : Nat) : Int))) 8 (-1, -1)) τ) (cf_off hU hma fsM_ne) (cf_oth fsM_ne) (cw_new hma (ty_ryes fsM_at (by omega))) (fun H locs hG => ?_)
      refine lv_iload_n X.1 X.2.1 dX10_line_26 rfl (lv_at hl 0 rfl) ?_
      refine n_if_ne (tgt := 38) X dX10_line_27 (by decide) (fun c5 => ?_) (fun c5 => ?_)
      · refine lv_aload_n X.1 X.2.1 dX10_line_38 rfl (lv_at hl 1 rfl) ?_
        refine n_sp X dX10_line_39 (by decide) (by decide) (fun x6 t6 => ?_)
        refine n_ic X dX10_line_42 (by decide) (by decide) (fun x7 t7 => ?_)
        refine n_sp X dX10_line_43 (by decide) (by decide) (fun x8 t8 => ?_)
        refine k_cVv X hG (c_X10_copyRow l D cy τ _ hU hma x6 x7 x8 3983 0 278 (by omega) (by omega) (by omega) (by omega) (by omega) (by omega)) hma rfl yv_X10_copyRow q_1012 ⟨rfl, rfl⟩ ⟨Nat.le_of_ble_eq_true rfl, Nat.le_of_ble_eq_true rfl⟩ rfl hl.1 rfl (Nat.le_of_ble_eq_true rfl) ⟨Nat.zero_le _, Nat.zero_le _⟩ dX10_line_46 (fun u9 H locs hG po => ?_)
        rw [po] at hG
        have hG : TG D cy τ (cn (qM (cM (MM K P N u k0 k1) Lg lo pc gc f) pc 0) τ) (ty_d τ) s.heap H locs := by rw [qM_0]; exact hG
        refine n_ic X dX10_line_49 (by decide) (by decide) (fun x9 t9 => ?_)
        refine lv_istore_n (lv' := [(2, .int x9), (1, .int x1), (0, .ref ma)]) X.1 X.2.1 dX10_line_50 rfl hl (by decide) rfl (fun ls hl => ?_)
        refine n_ic X dX10_line_51 (by decide) (by decide) (fun x10 t10 => ?_)
        refine lv_istore_n (lv' := [(3, .int x10), (2, .int x9), (1, .int x1), (0, .ref ma)]) X.1 X.2.1 dX10_line_52 rfl hl (by decide) rfl (fun ls hl => ?_)
        have J53 : ∀ (d q : Nat) (H : Heap) (locs : List Loc) (ls : Array Slot) (xi xp : Int32), xp.toInt = (q : Int) → q ≤ pc → xi.toInt = (sumF f q : Int) → pc - q < d → TG D cy τ (cn (qM (cM (MM K P N u k0 k1) Lg lo pc gc f) pc (sumF f q)) τ) (ty_d τ) s.heap H locs → lv_has ls 5 [(0, .ref ma), (1, .int x1), (2, .int xi), (3, .int xp)] → W p l e (rL 6) s m args below meth c H locs 0 0 Q (F0 m 53 ls []) := by
          intro d
          induction d with
          | zero => intro q H locs ls xi xp eq hq ei hm hG hl; exact absurd hm (Nat.not_lt_zero _)
          | succ d ih =>
            intro q H locs ls xi xp eq hq ei hm hG hl
            have hsm := sumF_le hf pc
            refine lv_iload_n X.1 X.2.1 dX10_line_53 rfl (lv_at hl 3 rfl) ?_
            refine lv_aload_n X.1 X.2.1 dX10_line_54 rfl (lv_at hl 0 rfl) ?_
            refine gf_10_0 X hG hma q_876 dX10_line_55 (cn_N _ _ _ hma) (fun a11 h11 r11 => ?_)
            refine n_sp X dX10_line_58 (by decide) (by decide) (fun x12 t12 => ?_)
            refine tg_iald X hG h11 rfl (cI_in (n := 4261) (by omega)) dX10_line_61 (fun x13 r13 => ?_)
            have b13 := rdR (cn_R _ _ _ _ h11 r13) (n := 249) (by omega) (show qM (cM (MM K P N u k0 k1) Lg lo pc gc f) pc (sumF f q) 10 249 = some ((pc : Int), (pc : Int)) by rw [qM_out (by omega), cM_r (by omega), rd_249 hp])
            refine n_icmp_ge (tgt := 105) X dX10_line_62 (by decide) (fun c14 => ?_) (fun c14 => ?_)
            · rw [show q = pc by omega] at hG ei
              refine lv_aload_n X.1 X.2.1 dX10_line_105 rfl (lv_at hl 0 rfl) ?_
              refine n_ic X dX10_line_106 (by decide) (by decide) (fun x15 t15 => ?_)
              refine pg_10_2 X hG hma q_878 dX10_line_107 (cn (fsM (qM (cM (MM K P N u k0 k1) Lg lo pc gc f) pc (sumF f pc)) 2 (((0 : Nat) : Int), ((0 : Nat) : Int))) τ) (cf_off hU hma fsM_ne) (cf_oth fsM_ne) (cw_new hma (ty_ryes fsM_at (by omega))) (fun H locs hG => ?_)
              refine lv_aload_n X.1 X.2.1 dX10_line_110 rfl (lv_at hl 0 rfl) ?_
              refine n_ic X dX10_line_111 (by decide) (by decide) (fun x16 t16 => ?_)
              refine pg_10_9 X hG hma q_885 dX10_line_112 (cn (fsM (fsM (qM (cM (MM K P N u k0 k1) Lg lo pc gc f) pc (sumF f pc)) 2 (((0 : Nat) : Int), ((0 : Nat) : Int))) 9 (((0 : Nat) : Int), ((0 : Nat) : Int))) τ) (cf_off hU hma fsM_ne) (cf_oth fsM_ne) (cw_new hma (ty_ryes fsM_at (by omega))) (fun H locs hG => ?_)
              refine lv_aload_n X.1 X.2.1 dX10_line_115 rfl (lv_at hl 0 rfl) ?_
              refine n_ic X dX10_line_116 (by decide) (by decide) (fun x17 t17 => ?_)
              refine pg_10_13 X hG hma q_889 dX10_line_117 (cn (fsM (fsM (fsM (qM (cM (MM K P N u k0 k1) Lg lo pc gc f) pc (sumF f pc)) 2 (((0 : Nat) : Int), ((0 : Nat) : Int))) 9 (((0 : Nat) : Int), ((0 : Nat) : Int))) 13 (((0 : Nat) : Int), ((0 : Nat) : Int))) τ) (cf_off hU hma fsM_ne) (cf_oth fsM_ne) (cw_new hma (ty_ryes fsM_at (by omega))) (fun H locs hG => ?_)
              refine lv_aload_n X.1 X.2.1 dX10_line_120 rfl (lv_at hl 0 rfl) ?_
              refine gf_10_4 X hG hma q_880 dX10_line_121 (cn_N _ _ _ hma) (fun a18 h18 r18 => ?_)
              refine n_ic X dX10_line_124 (by decide) (by decide) (fun x19 t19 => ?_)
              refine n_ic X dX10_line_125 (by decide) (by decide) (fun x20 t20 => ?_)
              have i19 : x19.toNatClampNeg = 0 := by have := cI_clamp (x := x19) (by omega); omega
              refine tg_zast X hG h18 rfl (cI_in (n := 2) (by omega)) (by omega) dX10_line_126 (cn (bsM (fsM (fsM (fsM (qM (cM (MM K P N u k0 k1) Lg lo pc gc f) pc (sumF f pc)) 2 (((0 : Nat) : Int), ((0 : Nat) : Int))) 9 (((0 : Nat) : Int), ((0 : Nat) : Int))) 13 (((0 : Nat) : Int), ((0 : Nat) : Int))) 0 (0, 0)) τ) (cw_off hU h18 (by decide) (j0 := 0) bsM_ne) (by rw [i19]; exact cw_oth h18 bsM_ne) (by rw [i19]; exact cw_new h18 (ty_ryes bsM_at (by omega))) (fun H locs hG => ?_)
              refine lv_aload_n X.1 X.2.1 dX10_line_127 rfl (lv_at hl 0 rfl) ?_
              refine gf_10_4 X hG hma q_880 dX10_line_128 (cn_N _ _ _ hma) (fun a21 h21 r21 => ?_)
              refine n_ic X dX10_line_131 (by decide) (by decide) (fun x22 t22 => ?_)
              refine n_ic X dX10_line_132 (by decide) (by decide) (fun x23 t23 => ?_)
              have i22 : x22.toNatClampNeg = 1 := by have := cI_clamp (x := x22) (by omega); omega
              refine tg_zast X hG h21 rfl (cI_in (n := 2) (by omega)) (by omega) dX10_line_133 (cn (bsM (bsM (fsM (fsM (fsM (qM (cM (MM K P N u k0 k1) Lg lo pc gc f) pc (sumF f pc)) 2 (((0 : Nat) : Int), ((0 : Nat) : Int))) 9 (((0 : Nat) : Int), ((0 : Nat) : Int))) 13 (((0 : Nat) : Int), ((0 : Nat) : Int))) 0 (0, 0)) 1 (0, 0)) τ) (cw_off hU h21 (by decide) (j0 := 1) bsM_ne) (by rw [i22]; exact cw_oth h21 bsM_ne) (by rw [i22]; exact cw_new h21 (ty_ryes bsM_at (by omega))) (fun H locs hG => ?_)
              have hG := TG.le hG (ln_t ok hp hg hf (by rw [hf1]; exact bN_1))
              refine lv_aload_n X.1 X.2.1 dX10_line_134 rfl (lv_at hl 0 rfl) ?_
              refine gf_10_0 X hG hma q_876 dX10_line_135 (cn_N _ _ _ hma) (fun a24 h24 r24 => ?_)
              refine n_sp X dX10_line_138 (by decide) (by decide) (fun x25 t25 => ?_)
              refine tg_iald X hG h24 rfl (cI_in (n := 4261) (by omega)) dX10_line_141 (fun x26 r26 => ?_)
              have b26 := rdR (cn_R _ _ _ _ h24 r26) (n := 258) (by omega) (show MM (0, -1, 0, 0, nlS K.2.2.2.2 gc (f 100)) pc (sumF f pc) 0 false false 10 258 = some ((sumF f pc : Int), (sumF f pc : Int)) by rw [MM_10]; rfl)
              refine ret _ _ _ _ x26 _ hG ⟨fun h => absurd hR h, fun _ => ⟨pc, ?_, ?_, ?_⟩⟩ dX10_line_142
              · rw [← hN, ← hgc, ← hf1]
                exact ⟨⟨by omega, Nat.zero_le _, Nat.zero_le _, Nat.zero_le _⟩, hp, (fun hpos => Nat.pos_of_ne_zero (fun hz => by rw [hz] at hpos; exact absurd hpos (Nat.lt_irrefl 0))), by omega⟩
              · rw [← hN]
                omega
              · rw [← hN, ← hgc, ← hf1]
            · refine n_ic X dX10_line_65 (by decide) (by decide) (fun x15 t15 => ?_)
              refine lv_istore (lv' := [(4, .int x15), (0, .ref ma), (1, .int x1), (2, .int xi), (3, .int xp)]) X.1 X.2.1 dX10_line_66 hl (by decide) rfl (fun ls hl => ?_)
              have hfq := hf q
              have hsq : sumF f q + f q ≤ sumF f pc := sumF_mo (f := f) (p := q + 1) (q := pc) (by omega)
              have J68 : ∀ (d2 k : Nat) (H : Heap) (locs : List Loc) (ls : Array Slot) (xi xk : Int32), xk.toInt = (k : Int) → k ≤ f q → xi.toInt = ((sumF f q + k : Nat) : Int) → f q - k < d2 → TG D cy τ (cn (qM (cM (MM K P N u k0 k1) Lg lo pc gc f) pc (sumF f q + k)) τ) (ty_d τ) s.heap H locs → lv_has ls 5 [(0, .ref ma), (1, .int x1), (2, .int xi), (3, .int xp), (4, .int xk)] → W p l e (rL 6) s m args below meth c H locs 0 0 Q (F0 m 68 ls []) := by
                intro d2
                induction d2 with
                | zero => intro k H locs ls xi xk ek hk ei hm2 hG hl; exact absurd hm2 (Nat.not_lt_zero _)
                | succ d2 ih2 =>
                  intro k H locs ls xi xk ek hk ei hm2 hG hl
                  refine lv_iload X.1 X.2.1 dX10_line_68 (lv_at hl 4 rfl) ?_
                  refine lv_aload_n X.1 X.2.1 dX10_line_70 rfl (lv_at hl 0 rfl) ?_
                  refine gf_10_0 X hG hma q_876 dX10_line_71 (cn_N _ _ _ hma) (fun a16 h16 r16 => ?_)
                  refine n_sp X dX10_line_74 (by decide) (by decide) (fun x17 t17 => ?_)
                  refine lv_iload_n X.1 X.2.1 dX10_line_77 rfl (lv_at hl 3 rfl) ?_
                  refine n_add X dX10_line_78 (by omega) (by omega) (fun x18 t18 => ?_)
                  refine tg_iald X hG h16 rfl (cI_in (n := 4261) (by omega)) dX10_line_79 (fun x19 r19 => ?_)
                  have b19 := rdR (cn_R _ _ _ _ h16 r19) (n := 250 + q) (by omega) (show qM (cM (MM K P N u k0 k1) Lg lo pc gc f) pc (sumF f q + k) 10 (250 + q) = some ((f q : Int), (f q : Int)) by rw [qM_out (by omega), cM_r (by omega), rd_L hp (by omega)])
                  refine n_icmp_ge (tgt := 99) X dX10_line_80 (by decide) (fun c20 => ?_) (fun c20 => ?_)
                  · have ekq : k = f q := by omega
                    refine n_inc X (fun z => [(3, .int z), (0, .ref ma), (1, .int x1), (2, .int xi), (4, .int xk)]) dX10_line_99 hl (k := 3) rfl (by decide) (by decide) (by omega) (by omega) (by decide) (fun _ => rfl) (fun x21 ls t21 hl => ?_)
                    have hl : lv_has ls 5 [(3, .int x21), (0, .ref ma), (1, .int x1), (2, .int xi), (4, .int xk)] := hl
                    refine lv_goto (tgt := 53) X.1 X.2.1 dX10_line_102 (by decide) ?_
                    rw [ekq] at hG ei
                    exact ih (q + 1) _ _ _ xi x21 (by omega) (by omega) ei (by omega) hG (lv_sub hl [1, 2, 3, 0] rfl)
                  · refine lv_aload_n X.1 X.2.1 dX10_line_83 rfl (lv_at hl 0 rfl) ?_
                    refine gf_10_1 X hG hma q_877 dX10_line_84 (cn_N _ _ _ hma) (fun a21 h21 r21 => ?_)
                    refine lv_iload_n X.1 X.2.1 dX10_line_87 rfl (lv_at hl 2 rfl) ?_
                    refine lv_iload_n X.1 X.2.1 dX10_line_88 rfl (lv_at hl 3 rfl) ?_
                    have ii : xi.toNatClampNeg = sumF f q + k := by have := cI_clamp (x := xi) (by omega); omega
                    refine tg_iast X hG h21 rfl (cI_in (n := 72) (by omega)) dX10_line_89 (cn (qM (cM (MM K P N u k0 k1) Lg lo pc gc f) pc (sumF f q + k + 1)) τ) (cw_off hU h21 (by decide) (j0 := sumF f q + k) qM_s) (by rw [ii]; exact cw_oth h21 qM_s) (by rw [ii]; exact cw_new h21 (ty_ryes (qM_in (by omega)) (by omega))) (fun H locs hG => ?_)
                    refine n_inc X (fun z => [(2, .int z), (0, .ref ma), (1, .int x1), (3, .int xp), (4, .int xk)]) dX10_line_90 hl (k := 2) rfl (by decide) (by decide) (by omega) (by omega) (by decide) (fun _ => rfl) (fun x22 ls t22 hl => ?_)
                    have hl : lv_has ls 5 [(2, .int x22), (0, .ref ma), (1, .int x1), (3, .int xp), (4, .int xk)] := hl
                    refine n_inc X (fun z => [(4, .int z), (2, .int x22), (0, .ref ma), (1, .int x1), (3, .int xp)]) dX10_line_93 hl (k := 4) rfl (by decide) (by decide) (by omega) (by omega) (by decide) (fun _ => rfl) (fun x23 ls t23 hl => ?_)
                    have hl : lv_has ls 5 [(4, .int x23), (2, .int x22), (0, .ref ma), (1, .int x1), (3, .int xp)] := hl
                    refine lv_goto (tgt := 68) X.1 X.2.1 dX10_line_96 (by decide) ?_
                    exact ih2 (k + 1) _ _ _ x22 x23 (by omega) (by omega) (by omega) (by omega) hG (lv_sub hl [2, 3, 1, 4, 0] rfl)
              exact J68 (f q + 1) 0 _ _ _ xi x15 (by omega) (by omega) (by rw [ei]; rfl) (by omega) hG (lv_sub hl [1, 2, 3, 4, 0] rfl)
        exact J53 (pc + 1) 0 _ _ _ x9 x10 (by omega) (by omega) (by rw [t9]; rfl) (by omega) hG (lv_sub hl [3, 2, 1, 0] rfl)
      · exact absurd (show x1.toInt = 0 by omega) c3
  · obtain ⟨r0, h17, h18⟩ := hn hR
    have hu := ok.2.2.2
    refine lv_istore_n (lv' := [(1, .int x1), (0, .ref ma)]) X.1 X.2.1 dX10_line_4 rfl hl (by decide) rfl (fun ls hl => ?_)
    refine lv_aload_n X.1 X.2.1 dX10_line_5 rfl (lv_at hl 1 rfl) ?_
    refine n_ic X dX10_line_6 (by decide) (by decide) (fun x2 t2 => ?_)
    refine pg_10_7 X hG hma q_883 dX10_line_7 (cn (fsM M2 7 (((0 : Nat) : Int), ((0 : Nat) : Int))) τ) (cf_off hU hma fsM_ne) (cf_oth fsM_ne) (cw_new hma (ty_ryes fsM_at (by omega))) (fun H locs hG => ?_)
    refine lv_aload_n X.1 X.2.1 dX10_line_10 rfl (lv_at hl 1 rfl) ?_
    refine lv_iload_n X.1 X.2.1 dX10_line_11 rfl (lv_at hl 0 rfl) ?_
    refine n_if_eq (tgt := 19) X dX10_line_12 (by decide) (fun c3 => ?_) (fun c3 => ?_)
    · refine lv_aload_n X.1 X.2.1 dX10_line_19 rfl (lv_at hl 1 rfl) ?_
      refine gf_10_18 X hG hma q_894 dX10_line_20 (fun x4 r4 => ?_)
      have b4 := (cn_R _ _ _ _ hma r4) _ _ ((fsM_ne _ _ (by omega)).trans h18)
      refine pg_10_8 X hG hma q_884 dX10_line_23 (cn (fsM (fsM M2 7 (((0 : Nat) : Int), ((0 : Nat) : Int))) 8 (((rdT K).2.1 : Int), ((rdT K).2.1 : Int))) τ) (cf_off hU hma fsM_ne) (cf_oth fsM_ne) (cw_new hma (ty_ryes fsM_at (by omega))) (fun H locs hG => ?_)
      refine lv_iload_n X.1 X.2.1 dX10_line_26 rfl (lv_at hl 0 rfl) ?_
      refine n_if_ne (tgt := 38) X dX10_line_27 (by decide) (fun c5 => ?_) (fun c5 => ?_)
      · exact absurd c3 c5
      · refine n_bp X dX10_line_30 (by decide) (by decide) (fun x6 t6 => ?_)
        refine lv_aload_n X.1 X.2.1 dX10_line_32 rfl (lv_at hl 1 rfl) ?_
        refine gf_10_17 X hG hma q_893 dX10_line_33 (fun x7 r7 => ?_)
        have b7 := (cn_R _ _ _ _ hma r7) _ _ ((fsM_ne _ _ (by omega)).trans ((fsM_ne _ _ (by omega)).trans h17))
        have hk3 := rdT_le (K := K)
        refine n_sub X dX10_line_36 (by omega) (by omega) (fun x8 t8 => ?_)
        exact ret _ _ _ _ x8 _ (TG.sub hG (ln_f2 hu hfr)) ⟨fun _ => ⟨by omega, rfl⟩, fun h => absurd h hR⟩ dX10_line_37
    · exact absurd r0 c3
