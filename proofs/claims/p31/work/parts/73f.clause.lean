/-! the class's clauses and its whole text to the letter -/
def tkS (st : ST) (w L : Nat) : ST := if w = 0 then (true, st.2) else if w = 1 then (st.1, st.2.1 + 1, st.2.2.1 + L, st.2.2.2) else if w = 2 then (st.1, st.2.1, st.2.2.1, true, st.2.2.2.2) else (st.1, st.2.1, st.2.2.1, st.2.2.2.1, st.2.2.2.2 + 1)
theorem nst_tk {T : Nat → Int32} {c a : Nat} {st : ST} : nst T c st a = tkS st (wd (T a)) (nv T c (na T c (a + 1))).toNat := rfl
/-- the cells of the reading lie apart -/
def AP (tx la nu dr wi ga : Nat) : Prop := tx ≠ la ∧ tx ≠ nu ∧ tx ≠ dr ∧ tx ≠ wi ∧ tx ≠ ga ∧ la ≠ nu ∧ la ≠ dr ∧ la ≠ wi ∧ la ≠ ga ∧ nu ≠ dr ∧ nu ≠ wi ∧ nu ≠ ga ∧ dr ≠ wi ∧ dr ≠ ga ∧ wi ≠ ga
theorem ap_of {τ : ty_T} {tx la nu dr wi ga : Nat} (htx : τ tx = some (0, 6)) (hla : τ la = some (8, 240)) (hnu : τ nu = some (9, 3)) (hdr : τ dr = some (0, 3)) (hwi : τ wi = some (0, 8)) (hga : τ ga = some (0, 1)) : AP tx la nu dr wi ga := by
  have ne : ∀ {a b : Nat} {ta tb : ty_C}, τ a = some ta → τ b = some tb → ta ≠ tb → a ≠ b := fun h1 h2 h3 e => h3 (by rw [e, h2] at h1; cases h1; rfl)
  exact ⟨ne htx hla (by decide), ne htx hnu (by decide), ne htx hdr (by decide), ne htx hwi (by decide), ne htx hga (by decide), ne hla hnu (by decide), ne hla hdr (by decide), ne hla hwi (by decide), ne hla hga (by decide), ne hnu hdr (by decide), ne hnu hwi (by decide), ne hnu hga (by decide), ne hdr hwi (by decide), ne hdr hga (by decide), ne hwi hga (by decide)⟩
section RE
variable {τ : ty_T} {f : Nat → Nat → Option Value} {tx la nu c dr wi ga : Nat} {T : Nat → Int32} {st : ST} {a b k : Nat} {x : Value}
theorem re_at (h : RE τ f tx la nu c T dr wi ga st a) (htx : τ tx = some (0, 6)) (ap : AP tx la nu dr wi ga) : RE τ (fu f tx 3 (.int (nI b))) tx la nu c T dr wi ga st b :=
  ⟨te_fu h.1 (fun z => by omega) (Ne.symm ap.1), de_fu h.2.1 ap.2.2.1 ap.2.2.2.1 ap.2.2.2.2.1 (fun z => by omega), fn_fu h.2.2.1 htx (by decide), fu_at⟩
theorem re_nu (h : RE τ f tx la nu c T dr wi ga st a) (hnu : τ nu = some (9, 3)) (ap : AP tx la nu dr wi ga) : RE τ (fu f nu k x) tx la nu c T dr wi ga st a :=
  ⟨te_fu h.1 (fun z => ap.2.1 z.1) ap.2.2.2.2.2.1, de_fu h.2.1 ap.2.2.2.2.2.2.2.2.2.1 ap.2.2.2.2.2.2.2.2.2.2.1 ap.2.2.2.2.2.2.2.2.2.2.2.1 (fun z => ap.2.1 z.1.symm), fn_fu h.2.2.1 hnu (by have : ty_cd (9, 3) k = 6009 := rfl; rw [this]; decide), by rw [fu_b ap.2.1]; exact h.2.2.2⟩
theorem re_told (h : RE τ f tx la nu c T dr wi ga st a) (hdr : τ dr = some (0, 3)) (ap : AP tx la nu dr wi ga) : RE τ (fu f dr 2 (.int 1)) tx la nu c T dr wi ga (true, st.2) a := by
  obtain ⟨h1, ⟨d0, d1, d2, d3, d4, d5, d6⟩, h3, h4⟩ := h
  exact ⟨te_fu h1 (fun z => ap.2.2.1 z.1) ap.2.2.2.2.2.2.1, ⟨by rw [fu_j (by decide)]; exact d0, by rw [fu_j (by decide)]; exact d1, fu_at, by rw [fu_b (Ne.symm ap.2.2.2.2.2.2.2.2.2.2.2.2.1)]; exact d3, by rw [fu_b (Ne.symm ap.2.2.2.2.2.2.2.2.2.2.2.2.1)]; exact d4, by rw [fu_b ap.2.2.1]; exact d5, by rw [fu_b (Ne.symm ap.2.2.2.2.2.2.2.2.2.2.2.2.2.1)]; exact d6⟩, fn_fu h3 hdr (by decide), by rw [fu_b ap.2.2.1]; exact h4⟩
theorem re_end (h : RE τ f tx la nu c T dr wi ga st a) (htx : τ tx = some (0, 6)) (ap : AP tx la nu dr wi ga) : RE τ (fu f tx 4 (.int 1)) tx la nu c T dr wi ga (st.1, st.2.1, st.2.2.1, true, st.2.2.2.2) a := by
  obtain ⟨h1, ⟨d0, d1, d2, d3, d4, d5, d6⟩, h3, h4⟩ := h
  exact ⟨te_fu h1 (fun z => by omega) (Ne.symm ap.1), ⟨by rw [fu_b (Ne.symm ap.2.2.1)]; exact d0, by rw [fu_b (Ne.symm ap.2.2.1)]; exact d1, by rw [fu_b (Ne.symm ap.2.2.1)]; exact d2, by rw [fu_b (Ne.symm ap.2.2.2.1)]; exact d3, by rw [fu_b (Ne.symm ap.2.2.2.1)]; exact d4, fu_at, by rw [fu_b (Ne.symm ap.2.2.2.2.1)]; exact d6⟩, fn_fu h3 htx (by decide), by rw [fu_j (by decide)]; exact h4⟩
theorem re_pc {P C : Nat} (h : RE τ f tx la nu c T dr wi ga st a) (hwi : τ wi = some (0, 8)) (ap : AP tx la nu dr wi ga) : RE τ (fu (fu f wi 6 (.int (nI P))) wi 7 (.int (nI C))) tx la nu c T dr wi ga (st.1, P, C, st.2.2.2) a := by
  obtain ⟨h1, ⟨d0, d1, d2, d3, d4, d5, d6⟩, h3, h4⟩ := h
  have q1 := ap.2.2.2.1
  have q2 := ap.2.2.2.2.2.2.2.1
  have q3 := ap.2.2.2.2.2.2.2.2.2.2.2.2.1
  have q4 := Ne.symm ap.2.2.2.2.2.2.2.2.2.2.2.2.2.2
  exact ⟨te_fu (te_fu h1 (fun z => q1 z.1) q2) (fun z => q1 z.1) q2, ⟨by rw [fu_b q3, fu_b q3]; exact d0, by rw [fu_b q3, fu_b q3]; exact d1, by rw [fu_b q3, fu_b q3]; exact d2, by rw [fu_j (by decide), fu_at], fu_at, by rw [fu_b q1, fu_b q1]; exact d5, by rw [fu_b q4, fu_b q4]; exact d6⟩, fn_fu (fn_fu h3 hwi (by decide)) hwi (by decide), by rw [fu_b q1, fu_b q1]; exact h4⟩
theorem re_ga {G : Nat} (h : RE τ f tx la nu c T dr wi ga st a) (hga : τ ga = some (0, 1)) (ap : AP tx la nu dr wi ga) : RE τ (fu f ga 6 (.int (nI G))) tx la nu c T dr wi ga (st.1, st.2.1, st.2.2.1, st.2.2.2.1, G) a := by
  obtain ⟨h1, ⟨d0, d1, d2, d3, d4, d5, d6⟩, h3, h4⟩ := h
  have q1 := ap.2.2.2.2.1
  have q2 := ap.2.2.2.2.2.2.2.2.1
  have q3 := ap.2.2.2.2.2.2.2.2.2.2.2.2.2.1
  have q4 := ap.2.2.2.2.2.2.2.2.2.2.2.2.2.2
  exact ⟨te_fu h1 (fun z => q1 z.1) q2, ⟨by rw [fu_b q3]; exact d0, by rw [fu_b q3]; exact d1, by rw [fu_b q3]; exact d2, by rw [fu_b q4]; exact d3, by rw [fu_b q4]; exact d4, by rw [fu_b q1]; exact d5, fu_at⟩, fn_fu h3 hga (by decide), by rw [fu_b q1]; exact h4⟩
end RE
section CLK
variable {T : Nat → Int32} {c a : Nat} {st : ST}
theorem clk_1 (h : 4 ≤ wd (T a) ∨ (st.1 = false ∧ wd (T a) ≠ 0)) : clk T c st a = (1, a) := if_pos h
theorem clk_3 (h : ¬ (4 ≤ wd (T a) ∨ (st.1 = false ∧ wd (T a) ≠ 0))) (h2 : many st (wd (T a)) = true) : clk T c st a = (3, a) := by unfold clk; rw [if_neg h, if_pos h2]
theorem clk_n (h : ¬ (4 ≤ wd (T a) ∨ (st.1 = false ∧ wd (T a) ≠ 0))) (h2 : many st (wd (T a)) = false) (h3 : (cln T c a).1 ≠ 0) : clk T c st a = cln T c a := by unfold clk; rw [if_neg h, if_neg (by rw [h2]; decide), if_neg h3]
theorem clk_e (h : ¬ (4 ≤ wd (T a) ∨ (st.1 = false ∧ wd (T a) ≠ 0))) (h2 : many st (wd (T a)) = false) (h3 : (cln T c a).1 = 0) (h4 : ¬ (sk T c (cln T c a).2 < c ∧ (T (sk T c (cln T c a).2)).toInt = 59)) : clk T c st a = (1, sk T c (cln T c a).2) := by unfold clk; rw [if_neg h, if_neg (by rw [h2]; decide), if_pos h3, if_neg h4]
theorem clk_y (h : ¬ (4 ≤ wd (T a) ∨ (st.1 = false ∧ wd (T a) ≠ 0))) (h2 : many st (wd (T a)) = false) (h3 : (cln T c a).1 = 0) (h4 : sk T c (cln T c a).2 < c ∧ (T (sk T c (cln T c a).2)).toInt = 59) : clk T c st a = (0, sk T c (cln T c a).2 + 1) := by unfold clk; rw [if_neg h, if_neg (by rw [h2]; decide), if_pos h3, if_pos h4]
theorem cnF_y {w m k p : Nat} (h : nk T c p (nlo w k) (nhi w k) = 0) : cnF T c w (m + 1) k p = cnF T c w m (k + 1) (na T c p) := if_pos h
theorem cnF_n {w m k p : Nat} (h : nk T c p (nlo w k) (nhi w k) ≠ 0) : cnF T c w (m + 1) k p = (nk T c p (nlo w k) (nhi w k), sk T c p) := if_neg h
theorem dix_w : dix (T a) = if wd (T a) = 4 then -1 else (wd (T a) : Int) := rfl
end CLK
theorem evN_t {w : Nat} (h : w ≤ 3) : (evN w).toInt = (nnb w : Int) := by
  rcases (show w = 0 ∨ w = 1 ∨ w = 2 ∨ w = 3 by omega) with z | z | z | z <;> subst z <;> decide +kernel
theorem nlo_1 : nlo 1 1 = 1 ∧ nhi 1 1 = 9 := by decide +kernel
theorem oks_n {T : Nat → Int32} {c a : Nat} {st : ST} (hO : OKS st) (h2 : many st (wd (T a)) = false) (h3 : wd (T a) = 1 → 1 ≤ nv T c (na T c (a + 1)) ∧ nv T c (na T c (a + 1)) ≤ 9) (h4 : wd (T a) ≤ 3) : OKS (nst T c st a) := by
  obtain ⟨o1, o2, o3⟩ := hO
  rw [nst_tk]
  rcases (show wd (T a) = 0 ∨ wd (T a) = 1 ∨ wd (T a) = 2 ∨ wd (T a) = 3 by omega) with z | z | z | z
  · rw [z]; exact ⟨o1, o2, o3⟩
  · have q := h3 z
    rw [z] at h2 ⊢
    have e : many st 1 = decide (8 ≤ st.2.1) := rfl
    rw [e] at h2
    have := of_decide_eq_false h2
    exact ⟨by show st.2.1 + 1 ≤ 8; omega, by show st.2.2.1 + (nv T c (na T c (a + 1))).toNat ≤ 9 * (st.2.1 + 1); omega, o3⟩
  · rw [z]; exact ⟨o1, o2, o3⟩
  · rw [z] at h2 ⊢
    have e : many st 3 = decide (6 ≤ st.2.2.2.2) := rfl
    rw [e] at h2
    have := of_decide_eq_false h2
    exact ⟨o1, o2, by show st.2.2.2.2 + 1 ≤ 6; omega⟩
set_option maxHeartbeats 4000000 in
set_option maxRecDepth 100000 in
theorem e_X6_takeClause (l : Launch) (D : va_G) (cy : Nat → ClassId) (τ : ty_T) (ρ : ty_R) {M : md_T} {f : Nat → Nat → Option Value} (hN : ty_N τ ρ) (hR : ty_Rg M τ ρ) (hF : ty_Wf M τ ρ SRd) {tx la nu c dr wi ga : Nat} {T : Nat → Int32} {st : ST} (htx : τ tx = some (0, 6)) (hla : τ la = some (8, 240)) (hnu : τ nu = some (9, 3)) (hdr : τ dr = some (0, 3)) (hwi : τ wi = some (0, 8)) (hga : τ ga = some (0, 1)) (hW : DW M ρ dr wi ga) {a w L : Nat} (hE : RE τ f tx la nu c T dr wi ga st a) (hO : OKS st) (hw : w ≤ 3) (hm : many st w = false) (hn : w = 1 → L ≤ 9 ∧ ∃ v : Int32, f nu 1 = some (.int v) ∧ v.toInt = (L : Int)) (x901 : Int32) (h901 : x901.toInt = (w : Int)) : KV l D cy yX6_takeClause cX6_takeClause 3 (rL 3) τ (pv f ρ) [.ref tx, .int x901, .ref dr] (fun u => ∃ g, u = pv g ρ ∧ RE τ g tx la nu c T dr wi ga (tkS st w L) a) := by
  refine k_metV "EdgeEchoes$Text" rfl (by decide +kernel) (Nat.le_of_ble_eq_true rfl) ?_
  intro p e s m args below meth cod Q ls X hG hl ret
  have hl : lv_has ls 3 [(0, .ref tx), (1, .int x901), (2, .ref dr)] := hl
  have ap := ap_of htx hla hnu hdr hwi hga
  obtain ⟨o1, o2, o3⟩ := hO
  have hE0 := hE
  obtain ⟨hT, ⟨d0, d1, d2, d3, d4, d5, d6⟩, hf, f3⟩ := hE
  refine lv_iload_n X.1 X.2.1 dX6_takeClause_0 rfl (lv_at hl 1 rfl) ?_
  rcases (show w = 0 ∨ w = 1 ∨ w = 2 ∨ w = 3 by omega) with cz | cz | cz | cz
  · subst cz
    refine lv_tableIn (off := 27) (tgt := 28) X.1 X.2.1 dX6_takeClause_1 (by omega) (by omega) (by rw [h901]; rfl) (by decide) ?_
    refine lv_aload_n X.1 X.2.1 dX6_takeClause_28 rfl (lv_at hl 2 rfl) ?_
    refine n_ic X dX6_takeClause_29 (by decide) (by decide) (fun x1 t1 => ?_)
    have uv : x1 = 1 := cI_inj (by rw [t1]; rfl)
    subst uv
    refine pg_3_2 X hG hdr q_172 (Or.inr rfl) dX6_takeClause_30 (pv (fu f dr 2 (.int 1)) ρ) pv_off pv_oth (pv_new (hW.2.2 _)) (fun H locs hG => ?_)
    have hE := re_told hE0 hdr ap
    have hf := hE.2.2.1
    refine lv_aload_n X.1 X.2.1 dX6_takeClause_33 rfl (lv_at hl 2 rfl) ?_
    refine gf_3_0 X hG hdr q_166 dX6_takeClause_34 (pv_N hN _ _ _ hdr) (fun a2 h2 r2 => ?_)
    have e2 := pv_rd r2 hE.2.1.1
    cases e2
    refine lv_aload_n X.1 X.2.1 dX6_takeClause_37 rfl (lv_at hl 0 rfl) ?_
    refine gf_6_1 X hG htx q_35 dX6_takeClause_38 (pv_N hN _ _ _ htx) (fun a3 h3 r3 => ?_)
    have e3 := pv_rd r3 hE.1.2.1
    cases e3
    refine n_ic X dX6_takeClause_41 (by decide) (by decide) (fun x4 t4 => ?_)
    refine tg_iald X hG hnu rfl (cI_in (n := 3) (by omega)) dX6_takeClause_42 (fun x5 r5 => ?_)
    refine pf_8_8 X hG hwi q_87 dX6_takeClause_43 ((pv_FU hF hf) _ _ _ _ hwi (ty_in (n := 808) rfl) (ty_rno rfl)) (fun H locs hG => ?_)
    refine lv_aload_n X.1 X.2.1 dX6_takeClause_46 rfl (lv_at hl 2 rfl) ?_
    refine gf_3_0 X hG hdr q_166 dX6_takeClause_47 (pv_N hN _ _ _ hdr) (fun a6 h6 r6 => ?_)
    have e6 := pv_rd r6 hE.2.1.1
    cases e6
    refine lv_aload_n X.1 X.2.1 dX6_takeClause_50 rfl (lv_at hl 0 rfl) ?_
    refine gf_6_1 X hG htx q_35 dX6_takeClause_51 (pv_N hN _ _ _ htx) (fun a7 h7 r7 => ?_)
    have e7 := pv_rd r7 hE.1.2.1
    cases e7
    refine n_ic X dX6_takeClause_54 (by decide) (by decide) (fun x8 t8 => ?_)
    refine tg_iald X hG hnu rfl (cI_in (n := 3) (by omega)) dX6_takeClause_55 (fun x9 r9 => ?_)
    refine pf_8_9 X hG hwi q_90 dX6_takeClause_56 ((pv_FU hF hf) _ _ _ _ hwi (ty_in (n := 809) rfl) (ty_rno rfl)) (fun H locs hG => ?_)
    refine lv_goto (tgt := 136) X.1 X.2.1 dX6_takeClause_59 (by decide) ?_
    exact ret _ _ _ _ _ hG ⟨_, rfl, hE⟩ dX6_takeClause_136
  · subst cz
    refine lv_tableIn (off := 61) (tgt := 62) X.1 X.2.1 dX6_takeClause_1 (by omega) (by omega) (by rw [h901]; rfl) (by decide) ?_
    obtain ⟨hL, v, fv, tv⟩ := hn rfl
    have em : many st 1 = decide (8 ≤ st.2.1) := rfl
    rw [em] at hm
    have hm := of_decide_eq_false hm
    refine lv_aload_n X.1 X.2.1 dX6_takeClause_62 rfl (lv_at hl 2 rfl) ?_
    refine gf_3_0 X hG hdr q_166 dX6_takeClause_63 (pv_N hN _ _ _ hdr) (fun a10 h10 r10 => ?_)
    have e10 := pv_rd r10 d0
    cases e10
    refine lv_aload_n X.1 X.2.1 dX6_takeClause_66 rfl (lv_at hl 0 rfl) ?_
    refine gf_6_1 X hG htx q_35 dX6_takeClause_67 (pv_N hN _ _ _ htx) (fun a11 h11 r11 => ?_)
    have e11 := pv_rd r11 hT.2.1
    cases e11
    refine n_ic X dX6_takeClause_70 (by decide) (by decide) (fun x12 t12 => ?_)
    refine tg_iald X hG hnu rfl (cI_in (n := 3) (by omega)) dX6_takeClause_71 (fun x13 r13 => ?_)
    refine lv_aload_n X.1 X.2.1 dX6_takeClause_72 rfl (lv_at hl 0 rfl) ?_
    refine gf_6_1 X hG htx q_35 dX6_takeClause_73 (pv_N hN _ _ _ htx) (fun a14 h14 r14 => ?_)
    have e14 := pv_rd r14 hT.2.1
    cases e14
    refine n_ic X dX6_takeClause_76 (by decide) (by decide) (fun x15 t15 => ?_)
    refine tg_iald X hG hnu rfl (cI_in (n := 3) (by omega)) dX6_takeClause_77 (fun x16 r16 => ?_)
    have i16 : x15.toNatClampNeg = 1 := by have := cI_clamp (x := x15) (by omega); omega
    rw [i16] at r16
    have u16 := pv_i r16 fv
    have tb : x16.toInt = (L : Int) := by rw [u16]; exact tv
    refine k_cVv X hG (e_X8_addPiece l D cy τ ρ hN hR hF hf hwi hW.2.1 d3 d4 (by omega) o2 x13 x16 (by omega)) hwi rfl yv_X8_addPiece q_492 ⟨rfl, rfl⟩ ⟨Nat.le_of_ble_eq_true rfl, Nat.le_of_ble_eq_true rfl⟩ rfl hl.1 rfl (Nat.le_of_ble_eq_true rfl) ⟨Nat.zero_le _, Nat.zero_le _⟩ dX6_takeClause_78 (fun u17 H locs hG po => ?_)
    rw [po] at hG
    have hE := re_pc (P := st.2.1 + 1) (C := st.2.2.1 + x16.toInt.toNat) hE0 hwi ap
    rw [show x16.toInt.toNat = L by omega] at hG hE
    refine lv_goto (tgt := 136) X.1 X.2.1 dX6_takeClause_81 (by decide) ?_
    exact ret _ _ _ _ _ hG ⟨_, rfl, hE⟩ dX6_takeClause_136
  · subst cz
    refine lv_tableIn (off := 83) (tgt := 84) X.1 X.2.1 dX6_takeClause_1 (by omega) (by omega) (by rw [h901]; rfl) (by decide) ?_
    refine lv_aload_n X.1 X.2.1 dX6_takeClause_84 rfl (lv_at hl 0 rfl) ?_
    refine n_ic X dX6_takeClause_85 (by decide) (by decide) (fun x18 t18 => ?_)
    have uv : x18 = 1 := cI_inj (by rw [t18]; rfl)
    subst uv
    refine pg_6_4 X hG htx q_40 (Or.inr rfl) dX6_takeClause_86 (pv (fu f tx 4 (.int 1)) ρ) pv_off pv_oth (pv_new (hF _ _ _ _ htx (ty_in (n := 604) rfl) (ty_rno rfl))) (fun H locs hG => ?_)
    have hE := re_end hE0 htx ap
    have hf := hE.2.2.1
    refine lv_aload_n X.1 X.2.1 dX6_takeClause_89 rfl (lv_at hl 2 rfl) ?_
    refine gf_3_0 X hG hdr q_166 dX6_takeClause_90 (pv_N hN _ _ _ hdr) (fun a19 h19 r19 => ?_)
    have e19 := pv_rd r19 hE.2.1.1
    cases e19
    refine lv_aload_n X.1 X.2.1 dX6_takeClause_93 rfl (lv_at hl 0 rfl) ?_
    refine gf_6_1 X hG htx q_35 dX6_takeClause_94 (pv_N hN _ _ _ htx) (fun a20 h20 r20 => ?_)
    have e20 := pv_rd r20 hE.1.2.1
    cases e20
    refine n_ic X dX6_takeClause_97 (by decide) (by decide) (fun x21 t21 => ?_)
    refine tg_iald X hG hnu rfl (cI_in (n := 3) (by omega)) dX6_takeClause_98 (fun x22 r22 => ?_)
    refine lv_aload_n X.1 X.2.1 dX6_takeClause_99 rfl (lv_at hl 0 rfl) ?_
    refine gf_6_1 X hG htx q_35 dX6_takeClause_100 (pv_N hN _ _ _ htx) (fun a23 h23 r23 => ?_)
    have e23 := pv_rd r23 hE.1.2.1
    cases e23
    refine n_ic X dX6_takeClause_103 (by decide) (by decide) (fun x24 t24 => ?_)
    refine tg_iald X hG hnu rfl (cI_in (n := 3) (by omega)) dX6_takeClause_104 (fun x25 r25 => ?_)
    refine k_cVv X hG (c_X8_changeEnd l D cy τ _ (pv_N hN) (pv_R hR) (ty_Wf.sub (S' := [810, 811]) (pv_FU hF hf) (by decide)) hwi x22 x25) hwi rfl yv_X8_changeEnd q_508 ⟨rfl, rfl⟩ ⟨Nat.le_of_ble_eq_true rfl, Nat.le_of_ble_eq_true rfl⟩ rfl hl.1 rfl (Nat.le_of_ble_eq_true rfl) ⟨Nat.zero_le _, Nat.zero_le _⟩ dX6_takeClause_105 (fun u26 H locs hG po => ?_)
    rw [po] at hG
    refine lv_goto (tgt := 136) X.1 X.2.1 dX6_takeClause_108 (by decide) ?_
    exact ret _ _ _ _ _ hG ⟨_, rfl, hE⟩ dX6_takeClause_136
  · subst cz
    refine lv_tableOut (tgt := 111) X.1 X.2.1 dX6_takeClause_1 (Or.inr (by omega)) (by decide) ?_
    have em : many st 3 = decide (6 ≤ st.2.2.2.2) := rfl
    rw [em] at hm
    have hm := of_decide_eq_false hm
    refine lv_aload_n X.1 X.2.1 dX6_takeClause_111 rfl (lv_at hl 2 rfl) ?_
    refine gf_3_1 X hG hdr q_169 dX6_takeClause_112 (pv_N hN _ _ _ hdr) (fun a27 h27 r27 => ?_)
    have e27 := pv_rd r27 d1
    cases e27
    refine lv_aload_n X.1 X.2.1 dX6_takeClause_115 rfl (lv_at hl 0 rfl) ?_
    refine gf_6_1 X hG htx q_35 dX6_takeClause_116 (pv_N hN _ _ _ htx) (fun a28 h28 r28 => ?_)
    have e28 := pv_rd r28 hT.2.1
    cases e28
    refine n_ic X dX6_takeClause_119 (by decide) (by decide) (fun x29 t29 => ?_)
    refine tg_iald X hG hnu rfl (cI_in (n := 3) (by omega)) dX6_takeClause_120 (fun x30 r30 => ?_)
    refine lv_aload_n X.1 X.2.1 dX6_takeClause_121 rfl (lv_at hl 0 rfl) ?_
    refine gf_6_1 X hG htx q_35 dX6_takeClause_122 (pv_N hN _ _ _ htx) (fun a31 h31 r31 => ?_)
    have e31 := pv_rd r31 hT.2.1
    cases e31
    refine n_ic X dX6_takeClause_125 (by decide) (by decide) (fun x32 t32 => ?_)
    refine tg_iald X hG hnu rfl (cI_in (n := 3) (by omega)) dX6_takeClause_126 (fun x33 r33 => ?_)
    refine lv_aload_n X.1 X.2.1 dX6_takeClause_127 rfl (lv_at hl 0 rfl) ?_
    refine gf_6_1 X hG htx q_35 dX6_takeClause_128 (pv_N hN _ _ _ htx) (fun a34 h34 r34 => ?_)
    have e34 := pv_rd r34 hT.2.1
    cases e34
    refine n_ic X dX6_takeClause_131 (by decide) (by decide) (fun x35 t35 => ?_)
    refine tg_iald X hG hnu rfl (cI_in (n := 3) (by omega)) dX6_takeClause_132 (fun x36 r36 => ?_)
    refine k_cVv X hG (e_X1_add l D cy τ ρ hN hR hF hf hga hW.1 d6 (by omega) x30 x33 x36) hga rfl yv_X1_add q_512 ⟨rfl, rfl⟩ ⟨Nat.le_of_ble_eq_true rfl, Nat.le_of_ble_eq_true rfl⟩ rfl hl.1 rfl (Nat.le_of_ble_eq_true rfl) ⟨Nat.zero_le _, Nat.zero_le _⟩ dX6_takeClause_133 (fun u37 H locs hG po => ?_)
    rw [po] at hG
    have hE := re_ga (G := st.2.2.2.2 + 1) hE0 hga ap
    exact ret _ _ _ _ _ hG ⟨_, rfl, hE⟩ dX6_takeClause_136
set_option maxHeartbeats 4000000 in
set_option maxRecDepth 100000 in
theorem e_X6_readClause (z : EVt) (l : Launch) (D : va_G) (cy : Nat → ClassId) (τ : ty_T) (ρ : ty_R) {M : md_T} {f : Nat → Nat → Option Value} (hN : ty_N τ ρ) (hR : ty_Rg M τ ρ) (hF : ty_Wf M τ ρ SRd) {tx la nu c dr wi ga : Nat} {T : Nat → Int32} {st : ST} (htx : τ tx = some (0, 6)) (hla : τ la = some (8, 240)) (hnu : τ nu = some (9, 3)) (hdr : τ dr = some (0, 3)) (hwi : τ wi = some (0, 8)) (hga : τ ga = some (0, 1)) (hW : DW M ρ dr wi ga) (hc : c ≤ 240) (hB : ∀ j, j < c → 0 ≤ (T j).toInt ∧ (T j).toInt ≤ 255) {a : Nat} (ha : a < c) (hE : RE τ f tx la nu c T dr wi ga st a) (hO : OKS st) : KIE l D cy yX6_readClause cX6_readClause 5 .int (rL 8) τ (pv f ρ) z [.ref tx, .ref dr] (fun r u => r.toInt = ((clk T c st a).1 : Int) ∧ ∃ g, u = pv g ρ ∧ TE g tx la nu c T ∧ FN τ g ∧ g dr 0 = some (.ref wi) ∧ g dr 1 = some (.ref ga) ∧ g tx 3 = some (.int (nI (clk T c st a).2)) ∧ ((clk T c st a).1 = 0 → RE τ g tx la nu c T dr wi ga (nst T c st a) (clk T c st a).2 ∧ OKS (nst T c st a))) := by
  refine k_metIE "EdgeEchoes$Text" rfl (by decide +kernel) (Nat.le_of_ble_eq_true rfl) (fun _ _ _ => rfl) ?_
  intro p e s m args below meth cod Q ls X hG hEv hl ret
  obtain ⟨vO, vC, vV, vT, vR, vZ, z1, v1, z2, v2, z3, v3⟩ := id hEv
  have hl : lv_has ls 5 [(0, .ref tx), (1, .ref dr)] := hl
  have ap := ap_of htx hla hnu hdr hwi hga
  have hw4 := wd_le (x := T a)
  have fin : ∀ {k q : Nat} {g : Nat → Nat → Option Value}, clk T c st a = (k, q) → k ≠ 0 → RE τ g tx la nu c T dr wi ga st q → (TE g tx la nu c T ∧ FN τ g ∧ g dr 0 = some (.ref wi) ∧ g dr 1 = some (.ref ga) ∧ g tx 3 = some (.int (nI (clk T c st a).2)) ∧ ((clk T c st a).1 = 0 → RE τ g tx la nu c T dr wi ga (nst T c st a) (clk T c st a).2 ∧ OKS (nst T c st a))) := fun h1 h2 h3 => by
    rw [h1]
    exact ⟨h3.1, h3.2.2.1, h3.2.1.1, h3.2.1.2.1, h3.2.2.2, fun h => absurd h h2⟩
  refine lv_aload_n X.1 X.2.1 dX6_readClause_0 rfl (lv_at hl 0 rfl) ?_
  refine k_cVE X hG (EV.at hEv hG) (e_X6_wordHere z l D cy τ ρ hN hR hF htx hla hnu hc hE.1 hB (Nat.le_of_lt ha) hE.2.2.2) htx rfl yv_X6_wordHere q_377 ⟨rfl, rfl⟩ ⟨Nat.le_of_ble_eq_true rfl, Nat.le_of_ble_eq_true rfl⟩ rfl hl.1 rfl (Nat.le_of_ble_eq_true rfl) ⟨Nat.zero_le _, Nat.zero_le _⟩ dX6_readClause_1 (fun x1 u1 H locs hG po => ?_)
  obtain ⟨eu1, p1, -⟩ := po
  rw [eu1] at hG
  have tw := p1 ha
  rw [dix_w] at tw
  refine lv_istore_n (lv' := [(2, .int x1), (0, .ref tx), (1, .ref dr)]) X.1 X.2.1 dX6_readClause_4 rfl hl (by decide) rfl (fun ls hl => ?_)
  refine lv_iload_n X.1 X.2.1 dX6_readClause_5 rfl (lv_at hl 0 rfl) ?_
  refine n_if_lt (tgt := 28) X dX6_readClause_6 (by decide) (fun c2 => ?_) (fun c2 => ?_)
  · refine n_ic X dX6_readClause_28 (by decide) (by decide) (fun x3 t3 => ?_)
    have hk := clk_1 (T := T) (c := c) (a := a) (st := st) (by split at tw <;> omega)
    exact ret _ _ _ _ x3 _ hG ⟨by rw [hk]; omega, _, rfl, fin hk (by decide) hE⟩ dX6_readClause_29
  · have hw3 : wd (T a) ≤ 3 := by split at tw <;> omega
    have tw : x1.toInt = (wd (T a) : Int) := by rw [if_neg (by omega)] at tw; exact tw
    refine lv_iload_n X.1 X.2.1 dX6_readClause_9 rfl (lv_at hl 0 rfl) ?_
    refine va_gets X.1 X.2.1 z1 hG.2.1 X.2.2.2.1 (X.2.2.2.2.1 _ q_468) (fun _ h => h) dX6_readClause_10 ?_
    refine va_tlen X.1 X.2.1 v1 hG.2.1 rfl dX6_readClause_13 ?_
    refine lv_topi (fun x4 e4 => ?_)
    have t4 : x4.toInt = 4 := by rw [e4]; decide +kernel
    refine n_icmp_ge (tgt := 28) X dX6_readClause_14 (by decide) (fun cq => ?_) (fun cq => ?_)
    · exact absurd cq (by omega)
    · have J30 : ∀ (H : Heap) (locs : List Loc) (ls : Array Slot), ¬ (4 ≤ wd (T a) ∨ (st.1 = false ∧ wd (T a) ≠ 0)) → TG D cy τ (pv f ρ) (ty_d τ) s.heap H locs → lv_has ls 5 [(2, .int x1), (0, .ref tx), (1, .ref dr)] → W p l e (rL 8) s m args below meth cod H locs 0 0 Q (F0 m 30 ls []) := by
        intro H locs ls hk1 hG hl
        refine lv_aload_n X.1 X.2.1 dX6_readClause_30 rfl (lv_at hl 1 rfl) ?_
        refine lv_iload_n X.1 X.2.1 dX6_readClause_31 rfl (lv_at hl 0 rfl) ?_
        refine lv_aload_n X.1 X.2.1 dX6_readClause_32 rfl (lv_at hl 2 rfl) ?_
        refine k_cVi X hG (e_X6_isTooMany (c := c) (T := T) l D cy τ ρ hN hR hF htx hla hnu hdr hwi hga hE.2.1 hO hw3 x1 tw) htx rfl yv_X6_isTooMany q_470 ⟨rfl, rfl⟩ ⟨Nat.le_of_ble_eq_true rfl, Nat.le_of_ble_eq_true rfl⟩ rfl hl.1 rfl (Nat.le_of_ble_eq_true rfl) ⟨Nat.zero_le _, Nat.zero_le _⟩ dX6_readClause_33 (fun x6 u6 H locs hG po => ?_)
        obtain ⟨eu6, pb, q1, q2⟩ := po
        rw [eu6] at hG
        refine n_if_eq (tgt := 41) X dX6_readClause_36 (by decide) (fun cq => ?_) (fun cq => ?_)
        · have hm : many st (wd (T a)) = false := by
            cases hh : many st (wd (T a))
            · rfl
            · exact absurd cq (q1 hh)
          refine lv_aload_n X.1 X.2.1 dX6_readClause_41 rfl (lv_at hl 1 rfl) ?_
          refine lv_dup X.1 X.2.1 dX6_readClause_42 rfl ?_
          refine gf_6_3 X hG htx q_38 dX6_readClause_43 (fun x8 r8 => ?_)
          have u8 := pv_i r8 hE.2.2.2
          have t8 : x8.toInt = (a : Int) := by rw [u8]; exact cI_nI (by omega)
          refine n_ic X dX6_readClause_46 (by decide) (by decide) (fun x9 t9 => ?_)
          refine n_add X dX6_readClause_47 (by omega) (by omega) (fun x10 t10 => ?_)
          have u9 : x10 = nI (a + 1) := cI_inj (by rw [cI_nI (by omega)]; omega)
          subst u9
          refine pg_6_3 X hG htx q_38 dX6_readClause_48 (pv (fu f tx 3 (.int (nI (a + 1)))) ρ) pv_off pv_oth (pv_new (hF _ _ _ _ htx (ty_in (n := 603) rfl) (ty_rno rfl))) (fun H locs hG => ?_)
          have hE1 := re_at (b := a + 1) hE htx ap
          refine n_ic X dX6_readClause_51 (by decide) (by decide) (fun x11 t11 => ?_)
          refine lv_istore_n (lv' := [(3, .int x11), (2, .int x1), (0, .ref tx), (1, .ref dr)]) X.1 X.2.1 dX6_readClause_52 rfl hl (by decide) rfl (fun ls hl => ?_)
          have J53 : ∀ (n k q : Nat) (g : Nat → Nat → Option Value) (H : Heap) (locs : List Loc) (ls : Array Slot) (y3 : Int32), k ≤ nnb (wd (T a)) → q ≤ c → cnF T c (wd (T a)) (nnb (wd (T a)) - k) k q = cln T c a → RE τ g tx la nu c T dr wi ga st q → (k = 1 → q = na T c (a + 1)) → (k = 2 → wd (T a) = 1 → ∃ v : Int32, g nu 1 = some (.int v) ∧ v.toInt = nv T c (na T c (a + 1)) ∧ 1 ≤ v.toInt ∧ v.toInt ≤ 9) → (k = 0 → q = a + 1) → y3.toInt = (k : Int) → nnb (wd (T a)) - k < n → TG D cy τ (pv g ρ) (ty_d τ) s.heap H locs → lv_has ls 5 [(0, .ref tx), (1, .ref dr), (2, .int x1), (3, .int y3)] → W p l e (rL 8) s m args below meth cod H locs 0 0 Q (F0 m 53 ls []) := by
            intro n
            induction n with
            | zero => intro k q g H locs ls y3 h1 h2 h3 h4 h5 h6 h7 h8 h9; exact absurd h9 (Nat.not_lt_zero _)
            | succ n ih =>
              intro k q g H locs ls y3 hk hq hcn hEg hk1q hk2 hk0 ty3 hmm hG hl
              have hnb : nnb (wd (T a)) ≤ 3 := by unfold nnb; split <;> omega
              have J89 : ∀ (H : Heap) (locs : List Loc), k = nnb (wd (T a)) → TG D cy τ (pv g ρ) (ty_d τ) s.heap H locs → W p l e (rL 8) s m args below meth cod H locs 0 0 Q (F0 m 89 ls []) := by
                intro H locs ek hG
                have ecl : cln T c a = (0, q) := by rw [← hcn, ek, Nat.sub_self]; rfl
                have ecl1 : (cln T c a).1 = 0 := by rw [ecl]
                have ecl2 : (cln T c a).2 = q := by rw [ecl]
                refine lv_aload_n X.1 X.2.1 dX6_readClause_89 rfl (lv_at hl 0 rfl) ?_
                refine k_cVv X hG (e_X6_skipBlanks l D cy τ ρ hN hR hF htx hla hnu hc hEg.1 hq hEg.2.2.2) htx rfl yv_X6_skipBlanks q_365 ⟨rfl, rfl⟩ ⟨Nat.le_of_ble_eq_true rfl, Nat.le_of_ble_eq_true rfl⟩ rfl hl.1 rfl (Nat.le_of_ble_eq_true rfl) ⟨Nat.zero_le _, Nat.zero_le _⟩ dX6_readClause_90 (fun u12 H locs hG po => ?_)
                rw [po] at hG
                have hs := sk_le (T := T) hq
                have hE2 := re_at (b := sk T c q) hEg htx ap
                refine lv_aload_n X.1 X.2.1 dX6_readClause_93 rfl (lv_at hl 0 rfl) ?_
                refine k_cVi X hG (e_X6_letterHere l D cy τ ρ hN hR hF htx hla hnu hc hE2.1 hs fu_at) htx rfl yv_X6_letterHere q_369 ⟨rfl, rfl⟩ ⟨Nat.le_of_ble_eq_true rfl, Nat.le_of_ble_eq_true rfl⟩ rfl hl.1 rfl (Nat.le_of_ble_eq_true rfl) ⟨Nat.zero_le _, Nat.zero_le _⟩ dX6_readClause_94 (fun x13 u13 H locs hG po => ?_)
                obtain ⟨eu13, l1, l2⟩ := po
                rw [eu13] at hG
                refine n_bp X dX6_readClause_97 (by decide) (by decide) (fun x14 t14 => ?_)
                refine n_icmp_eq (tgt := 104) X dX6_readClause_99 (by decide) (fun cq => ?_) (fun cq => ?_)
                · have hlt : sk T c q < c := by
                    rcases (show sk T c q < c ∨ sk T c q = c by omega) with y | y
                    · exact y
                    · exact absurd (l2 y) (by omega)
                  have hck := clk_y hk1 hm ecl1 (by rw [ecl2]; exact ⟨hlt, by rw [← l1 hlt]; omega⟩)
                  rw [ecl2] at hck
                  refine lv_aload_n X.1 X.2.1 dX6_readClause_104 rfl (lv_at hl 0 rfl) ?_
                  refine lv_dup X.1 X.2.1 dX6_readClause_105 rfl ?_
                  refine gf_6_3 X hG htx q_38 dX6_readClause_106 (fun x16 r16 => ?_)
                  have u16 := pv_i r16 fu_at
                  have t16 : x16.toInt = (sk T c q : Int) := by rw [u16]; exact cI_nI (by omega)
                  refine n_ic X dX6_readClause_109 (by decide) (by decide) (fun x17 t17 => ?_)
                  refine n_add X dX6_readClause_110 (by omega) (by omega) (fun x18 t18 => ?_)
                  have u9 : x18 = nI (sk T c q + 1) := cI_inj (by rw [cI_nI (by omega)]; omega)
                  subst u9
                  refine pg_6_3 X hG htx q_38 dX6_readClause_111 (pv (fu (fu g tx 3 (.int (nI (sk T c q)))) tx 3 (.int (nI (sk T c q + 1)))) ρ) pv_off pv_oth (pv_new (hF _ _ _ _ htx (ty_in (n := 603) rfl) (ty_rno rfl))) (fun H locs hG => ?_)
                  have hE3 := re_at (b := sk T c q + 1) hE2 htx ap
                  have hnum : wd (T a) = 1 → (nv T c (na T c (a + 1))).toNat ≤ 9 ∧ ∃ v : Int32, fu (fu g tx 3 (.int (nI (sk T c q)))) tx 3 (.int (nI (sk T c q + 1))) nu 1 = some (.int v) ∧ v.toInt = ((nv T c (na T c (a + 1))).toNat : Int) := fun e1 => by
                    obtain ⟨v, g1, g2, g3, g4⟩ := hk2 (by rw [ek, e1]; rfl) e1
                    exact ⟨by omega, v, by rw [fu_b (Ne.symm ap.2.1), fu_b (Ne.symm ap.2.1)]; exact g1, by omega⟩
                  have hnv : wd (T a) = 1 → 1 ≤ nv T c (na T c (a + 1)) ∧ nv T c (na T c (a + 1)) ≤ 9 := fun e1 => by
                    obtain ⟨v, g1, g2, g3, g4⟩ := hk2 (by rw [ek, e1]; rfl) e1
                    omega
                  refine lv_aload_n X.1 X.2.1 dX6_readClause_114 rfl (lv_at hl 0 rfl) ?_
                  refine lv_iload_n X.1 X.2.1 dX6_readClause_115 rfl (lv_at hl 2 rfl) ?_
                  refine lv_aload_n X.1 X.2.1 dX6_readClause_116 rfl (lv_at hl 1 rfl) ?_
                  refine k_cVv X hG (e_X6_takeClause l D cy τ ρ hN hR hF htx hla hnu hdr hwi hga hW hE3 hO hw3 hm hnum x1 tw) htx rfl yv_X6_takeClause q_488 ⟨rfl, rfl⟩ ⟨Nat.le_of_ble_eq_true rfl, Nat.le_of_ble_eq_true rfl⟩ rfl hl.1 rfl (Nat.le_of_ble_eq_true rfl) ⟨Nat.zero_le _, Nat.zero_le _⟩ dX6_readClause_117 (fun u19 H locs hG po => ?_)
                  obtain ⟨g2, eg, hE4⟩ := po
                  rw [eg] at hG
                  rw [← nst_tk] at hE4
                  refine n_ic X dX6_readClause_120 (by decide) (by decide) (fun x20 t20 => ?_)
                  exact ret _ _ _ _ x20 _ hG ⟨by rw [hck]; omega, g2, rfl, hE4.1, hE4.2.2.1, hE4.2.1.1, hE4.2.1.2.1, (by rw [hck]; exact hE4.2.2.2), (fun _ => by rw [hck]; exact ⟨hE4, oks_n hO hm hnv hw3⟩)⟩ dX6_readClause_121
                · have hck := clk_e hk1 hm ecl1 (by rw [ecl2]; intro h; exact cq (by rw [l1 h.1]; omega))
                  rw [ecl2] at hck
                  refine n_ic X dX6_readClause_102 (by decide) (by decide) (fun x21 t21 => ?_)
                  exact ret _ _ _ _ x21 _ hG ⟨by rw [hck]; omega, _, rfl, fin hck (by decide) hE2⟩ dX6_readClause_103
              refine lv_iload_n X.1 X.2.1 dX6_readClause_53 rfl (lv_at hl 3 rfl) ?_
              refine va_gets X.1 X.2.1 z1 hG.2.1 X.2.2.2.1 (X.2.2.2.2.1 _ q_468) (fun _ h => h) dX6_readClause_54 ?_
              refine lv_iload_n X.1 X.2.1 dX6_readClause_57 rfl (lv_at hl 2 rfl) ?_
              refine va_ti X.1 X.2.1 v1 hG.2.1 (cI_in (n := 4) (by omega)) rfl dX6_readClause_58 ?_
              refine lv_topi (fun x22 e22 => ?_)
              have i22 : x1.toNatClampNeg = wd (T a) := by have := cI_clamp (x := x1) (by omega); omega
              have t22 : x22.toInt = (nnb (wd (T a)) : Int) := by rw [e22, i22]; exact evN_t hw3
              refine n_icmp_ge (tgt := 89) X dX6_readClause_59 (by decide) (fun c23 => ?_) (fun c23 => ?_)
              · exact J89 _ _ (by omega) hG
              · refine lv_iload_n X.1 X.2.1 dX6_readClause_62 rfl (lv_at hl 3 rfl) ?_
                refine n_ic X dX6_readClause_63 (by decide) (by decide) (fun x24 t24 => ?_)
                refine n_icmp_ge (tgt := 89) X dX6_readClause_64 (by decide) (fun cq => ?_) (fun cq => ?_)
                · exact absurd cq (by omega)
                · refine lv_aload_n X.1 X.2.1 dX6_readClause_67 rfl (lv_at hl 0 rfl) ?_
                  refine lv_iload_n X.1 X.2.1 dX6_readClause_68 rfl (lv_at hl 2 rfl) ?_
                  refine lv_iload_n X.1 X.2.1 dX6_readClause_69 rfl (lv_at hl 3 rfl) ?_
                  refine k_cVE X hG (EV.at hEv hG) (e_X6_readNumber z l D cy τ ρ hN hR hF htx hla hnu hc hEg.1 hq hEg.2.2.2 hw3 (by omega) x1 tw y3 ty3) htx rfl yv_X6_readNumber q_474 ⟨rfl, rfl⟩ ⟨Nat.le_of_ble_eq_true rfl, Nat.le_of_ble_eq_true rfl⟩ rfl hl.1 rfl (Nat.le_of_ble_eq_true rfl) ⟨Nat.zero_le _, Nat.zero_le _⟩ dX6_readClause_70 (fun x26 u26 H locs hG po => ?_)
                  obtain ⟨tk, pk0, pk1⟩ := po
                  refine lv_istore (lv' := [(4, .int x26), (0, .ref tx), (1, .ref dr), (2, .int x1), (3, .int y3)]) X.1 X.2.1 dX6_readClause_73 hl (by decide) rfl (fun ls hl => ?_)
                  refine lv_iload X.1 X.2.1 dX6_readClause_75 (lv_at hl 0 rfl) ?_
                  refine n_if_eq (tgt := 83) X dX6_readClause_77 (by decide) (fun c27 => ?_) (fun c27 => ?_)
                  · have hk0n : nk T c q (nlo (wd (T a)) k) (nhi (wd (T a)) k) = 0 := by clear pk0 pk1; omega
                    obtain ⟨v, tv, eu⟩ := pk0 hk0n
                    rw [eu] at hG
                    clear pk0 pk1
                    have hin := nk_in hk0n
                    have hE5 := re_nu (k := k) (x := .int v) (re_at (b := na T c q) hEg htx ap) hnu ap
                    have hna := na_le (T := T) hq
                    refine n_inc X (fun z28 => [(3, .int z28), (4, .int x26), (0, .ref tx), (1, .ref dr), (2, .int x1)]) dX6_readClause_83 hl (k := 4) rfl (by decide) (by decide) (by omega) (by omega) (by decide) (fun _ => rfl) (fun x28 ls t28 hl => ?_)
                    have hl : lv_has ls 5 [(3, .int x28), (4, .int x26), (0, .ref tx), (1, .ref dr), (2, .int x1)] := hl
                    refine lv_goto (tgt := 53) X.1 X.2.1 dX6_readClause_86 (by decide) ?_
                    exact ih (k + 1) (na T c q) _ _ _ _ x28 (by omega) hna (by rw [← cnF_y hk0n, show nnb (wd (T a)) - (k + 1) + 1 = nnb (wd (T a)) - k by omega]; exact hcn) hE5 (fun e1 => by rw [hk0 (by omega)]) (fun e2 e1 => by
                      have ek1 : k = 1 := by omega
                      subst ek1
                      rw [e1, nlo_1.1, nlo_1.2] at hin
                      rw [hk1q rfl] at tv hin
                      exact ⟨v, fu_at, tv, by omega, by omega⟩) (fun e1 => by omega) (by omega) (by omega) hG (lv_sub hl [2, 3, 4, 0] rfl)
                  · have hkn : nk T c q (nlo (wd (T a)) k) (nhi (wd (T a)) k) ≠ 0 := by clear pk0 pk1; omega
                    rw [pk1 hkn] at hG
                    clear pk0 pk1
                    have hcl : cln T c a = (nk T c q (nlo (wd (T a)) k) (nhi (wd (T a)) k), sk T c q) := by rw [← hcn, show nnb (wd (T a)) - k = (nnb (wd (T a)) - k - 1) + 1 by omega, cnF_n hkn]
                    have hck := (clk_n hk1 hm (by rw [hcl]; exact hkn)).trans hcl
                    refine lv_iload X.1 X.2.1 dX6_readClause_80 (lv_at hl 0 rfl) ?_
                    exact ret _ _ _ _ x26 _ hG ⟨by rw [hck]; omega, _, rfl, fin hck hkn (re_at hEg htx ap)⟩ dX6_readClause_82
          exact J53 (nnb (wd (T a)) + 1) 0 (a + 1) _ _ _ _ x11 (Nat.zero_le _) ha rfl hE1 (fun h => by cases h) (fun h => by cases h) (fun _ => rfl) (by omega) (by omega) hG (lv_sub hl [2, 3, 1, 0] rfl)
        · have hm : many st (wd (T a)) = true := by
            cases hh : many st (wd (T a))
            · exact absurd (q2 hh) cq
            · rfl
          have hck := clk_3 (c := c) hk1 hm
          refine n_ic X dX6_readClause_39 (by decide) (by decide) (fun x29 t29 => ?_)
          exact ret _ _ _ _ x29 _ hG ⟨by rw [hck]; omega, _, rfl, fin hck (by decide) hE⟩ dX6_readClause_40
      refine lv_aload_n X.1 X.2.1 dX6_readClause_17 rfl (lv_at hl 2 rfl) ?_
      refine gf_3_2 X hG hdr q_172 dX6_readClause_18 (fun x30 b30 r30 => ?_)
      have u30 := pv_i r30 hE.2.1.2.2.1
      have t30 : x30.toInt = if st.1 then 1 else 0 := by rw [u30]; exact bI_t
      refine n_if_ne (tgt := 30) X dX6_readClause_21 (by decide) (fun cq => ?_) (fun cq => ?_)
      · exact J30 _ _ _ (by
          have : st.1 = true := by
            cases hh : st.1
            · rw [hh] at t30; exact absurd t30 cq
            · rfl
          rw [this]; intro h; rcases h with h | h
          · omega
          · exact absurd h.1 (by decide)) hG hl
      · have hst : st.1 = false := by
          cases hh : st.1
          · rfl
          · rw [hh] at t30; exact absurd cq (by rw [t30]; decide)
        refine lv_iload_n X.1 X.2.1 dX6_readClause_24 rfl (lv_at hl 0 rfl) ?_
        refine n_if_eq (tgt := 30) X dX6_readClause_25 (by decide) (fun cq => ?_) (fun cq => ?_)
        · exact J30 _ _ _ (by rw [hst]; omega) hG hl
        · refine n_ic X dX6_readClause_28 (by decide) (by decide) (fun x33 t33 => ?_)
          have hk := clk_1 (T := T) (c := c) (a := a) (st := st) (Or.inr ⟨hst, by omega⟩)
          exact ret _ _ _ _ x33 _ hG ⟨by rw [hk]; omega, _, rfl, fin hk (by decide) hE⟩ dX6_readClause_29
theorem re_start {τ : ty_T} {f : Nat → Nat → Option Value} {tx la nu c dr wi ga : Nat} {T : Nat → Int32} (htx : τ tx = some (0, 6)) (hdr : τ dr = some (0, 3)) (hwi : τ wi = some (0, 8)) (hga : τ ga = some (0, 1)) (ap : AP tx la nu dr wi ga) (hT : TE f tx la nu c T) (hf : FN τ f) (fw : f dr 0 = some (.ref wi)) (fg : f dr 1 = some (.ref ga)) : RE τ (fu (fu (fu (fu (fu (fu f wi 6 (.int 0)) wi 7 (.int 0)) ga 6 (.int 0)) dr 2 (.int 0)) tx 3 (.int 0)) tx 4 (.int 0)) tx la nu c T dr wi ga (false, 0, 0, false, 0) 0 := by
  obtain ⟨a1, a2, a3, a4, a5, a6, a7, a8, a9, a10, a11, a12, a13, a14, a15⟩ := ap
  have e0 : nI 0 = 0 := nI_0
  have eb : bI false = 0 := rfl
  refine ⟨te_fu (te_fu (te_fu (te_fu (te_fu (te_fu hT (fun z => a4 z.1) a8) (fun z => a4 z.1) a8) (fun z => a5 z.1) a9) (fun z => a3 z.1) a7) (fun z => by omega) (Ne.symm a1)) (fun z => by omega) (Ne.symm a1), ⟨?_, ?_, ?_, ?_, ?_, ?_, ?_⟩, fn_fu (fn_fu (fn_fu (fn_fu (fn_fu (fn_fu hf hwi (by decide)) hwi (by decide)) hga (by decide)) hdr (by decide)) htx (by decide)) htx (by decide), ?_⟩
  · rw [fu_b (Ne.symm a3), fu_b (Ne.symm a3), fu_j (by decide), fu_b a14, fu_b a13, fu_b a13]; exact fw
  · rw [fu_b (Ne.symm a3), fu_b (Ne.symm a3), fu_j (by decide), fu_b a14, fu_b a13, fu_b a13]; exact fg
  · rw [fu_b (Ne.symm a3), fu_b (Ne.symm a3), fu_at]; rfl
  · rw [fu_b (Ne.symm a4), fu_b (Ne.symm a4), fu_b (Ne.symm a13), fu_b a15, fu_j (by decide), fu_at]; rw [e0]
  · rw [fu_b (Ne.symm a4), fu_b (Ne.symm a4), fu_b (Ne.symm a13), fu_b a15, fu_at]; rw [e0]
  · rw [fu_at]; rfl
  · rw [fu_b (Ne.symm a5), fu_b (Ne.symm a5), fu_b (Ne.symm a14), fu_at]; rw [e0]
  · rw [fu_j (by decide), fu_at, e0]
set_option maxHeartbeats 4000000 in
set_option maxRecDepth 100000 in
theorem e_X6_readInto (z : EVt) (l : Launch) (D : va_G) (cy : Nat → ClassId) (τ : ty_T) (ρ : ty_R) {M : md_T} {f : Nat → Nat → Option Value} (hN : ty_N τ ρ) (hR : ty_Rg M τ ρ) (hF : ty_Wf M τ ρ SRd) {tx la nu c dr wi ga : Nat} {T : Nat → Int32} (htx : τ tx = some (0, 6)) (hla : τ la = some (8, 240)) (hnu : τ nu = some (9, 3)) (hdr : τ dr = some (0, 3)) (hwi : τ wi = some (0, 8)) (hga : τ ga = some (0, 1)) (hW : DW M ρ dr wi ga) (hW3 : ∀ x, ρ dr 3 (.int x)) (hd3 : f dr 3 = none) (hc : c ≤ 240) (hB : ∀ j, j < c → 0 ≤ (T j).toInt ∧ (T j).toInt ≤ 255) (hT : TE f tx la nu c T) (hf : FN τ f) (fw : f dr 0 = some (.ref wi)) (fg : f dr 1 = some (.ref ga)) : KIE l D cy yX6_readInto cX6_readInto 4 .int (rL 9) τ (pv f ρ) z [.ref tx, .ref dr] (fun r u => r.toInt = ((rdF T c (c + 1) (false, 0, 0, false, 0) (sk T c 0)).1 : Int) ∧ ∃ g, u = pv g (zb ρ dr) ∧ TE g tx la nu c T ∧ FN τ g ∧ g dr 0 = some (.ref wi) ∧ ((rdF T c (c + 1) (false, 0, 0, false, 0) (sk T c 0)).1 ≠ 0 → g tx 3 = some (.int (nI (rdF T c (c + 1) (false, 0, 0, false, 0) (sk T c 0)).2.1))) ∧ ((rdF T c (c + 1) (false, 0, 0, false, 0) (sk T c 0)).1 = 0 → DE g tx dr wi ga (rdF T c (c + 1) (false, 0, 0, false, 0) (sk T c 0)).2.2 ∧ OKS (rdF T c (c + 1) (false, 0, 0, false, 0) (sk T c 0)).2.2)) := by
  refine k_metIE "EdgeEchoes$Text" rfl (by decide +kernel) (Nat.le_of_ble_eq_true rfl) (fun _ _ _ => rfl) ?_
  intro p e s m args below meth cod Q ls X hG hEv hl ret
  have hl : lv_has ls 4 [(0, .ref tx), (1, .ref dr)] := hl
  have ap := ap_of htx hla hnu hdr hwi hga
  refine lv_aload_n X.1 X.2.1 dX6_readInto_0 rfl (lv_at hl 1 rfl) ?_
  refine k_cVv X hG (e_X3_clear l D cy τ ρ hN hR hF hf hdr hwi hga hW hW3 hd3 fw fg) hdr rfl yv_X3_clear q_341 ⟨rfl, rfl⟩ ⟨Nat.le_of_ble_eq_true rfl, Nat.le_of_ble_eq_true rfl⟩ rfl hl.1 rfl (Nat.le_of_ble_eq_true rfl) ⟨Nat.zero_le _, Nat.zero_le _⟩ dX6_readInto_1 (fun u1 H locs hG po => ?_)
  rw [po] at hG
  have hN := zb_N (dr := dr) hN
  have hR := zb_R (dr := dr) hR
  have hF := zb_F hdr hF (by decide)
  have hW := zb_W hW
  refine lv_aload_n X.1 X.2.1 dX6_readInto_4 rfl (lv_at hl 0 rfl) ?_
  refine n_ic X dX6_readInto_5 (by decide) (by decide) (fun x2 t2 => ?_)
  have uz : x2 = 0 := cI_inj (by rw [t2]; rfl)
  subst uz
  refine pg_6_3 X hG htx q_38 dX6_readInto_6 (pv (fu (fu (fu (fu (fu f wi 6 (.int 0)) wi 7 (.int 0)) ga 6 (.int 0)) dr 2 (.int 0)) tx 3 (.int 0)) (zb ρ dr)) pv_off pv_oth (pv_new (hF _ _ _ _ htx (ty_in (n := 603) rfl) (ty_rno rfl))) (fun H locs hG => ?_)
  refine lv_aload_n X.1 X.2.1 dX6_readInto_9 rfl (lv_at hl 0 rfl) ?_
  refine n_ic X dX6_readInto_10 (by decide) (by decide) (fun x3 t3 => ?_)
  have uz : x3 = 0 := cI_inj (by rw [t3]; rfl)
  subst uz
  refine pg_6_4 X hG htx q_40 (Or.inl rfl) dX6_readInto_11 (pv (fu (fu (fu (fu (fu (fu f wi 6 (.int 0)) wi 7 (.int 0)) ga 6 (.int 0)) dr 2 (.int 0)) tx 3 (.int 0)) tx 4 (.int 0)) (zb ρ dr)) pv_off pv_oth (pv_new (hF _ _ _ _ htx (ty_in (n := 604) rfl) (ty_rno rfl))) (fun H locs hG => ?_)
  have hE0 : RE τ (fu (fu (fu (fu (fu (fu f wi 6 (.int 0)) wi 7 (.int 0)) ga 6 (.int 0)) dr 2 (.int 0)) tx 3 (.int 0)) tx 4 (.int 0)) tx la nu c T dr wi ga (false, 0, 0, false, 0) 0 := re_start htx hdr hwi hga ap hT hf fw fg
  generalize (fu (fu (fu (fu (fu (fu f wi 6 (.int 0)) wi 7 (.int 0)) ga 6 (.int 0)) dr 2 (.int 0)) tx 3 (.int 0)) tx 4 (.int 0)) = f1 at hG hE0
  refine lv_aload_n X.1 X.2.1 dX6_readInto_14 rfl (lv_at hl 0 rfl) ?_
  refine k_cVv X hG (e_X6_skipBlanks l D cy τ (zb ρ dr) hN hR hF htx hla hnu hc hE0.1 (Nat.zero_le _) hE0.2.2.2) htx rfl yv_X6_skipBlanks q_365 ⟨rfl, rfl⟩ ⟨Nat.le_of_ble_eq_true rfl, Nat.le_of_ble_eq_true rfl⟩ rfl hl.1 rfl (Nat.le_of_ble_eq_true rfl) ⟨Nat.zero_le _, Nat.zero_le _⟩ dX6_readInto_15 (fun u4 H locs hG po => ?_)
  rw [po] at hG
  have hE1 := re_at (b := sk T c 0) hE0 htx ap
  refine n_ic X dX6_readInto_18 (by decide) (by decide) (fun x5 t5 => ?_)
  refine lv_istore_n (lv' := [(2, .int x5), (0, .ref tx), (1, .ref dr)]) X.1 X.2.1 dX6_readInto_19 rfl hl (by decide) rfl (fun ls hl => ?_)
  have J20 : ∀ (n q : Nat) (st : ST) (g : Nat → Nat → Option Value) (H : Heap) (locs : List Loc) (ls : Array Slot) (y2 : Int32), q ≤ c → rdF T c n st q = rdF T c (c + 1) (false, 0, 0, false, 0) (sk T c 0) → RE τ g tx la nu c T dr wi ga st q → OKS st → 0 ≤ y2.toInt → y2.toInt ≤ (q : Int) → c - q < n → TG D cy τ (pv g (zb ρ dr)) (ty_d τ) s.heap H locs → lv_has ls 4 [(0, .ref tx), (1, .ref dr), (2, .int y2)] → W p l e (rL 9) s m args below meth cod H locs 0 0 Q (F0 m 20 ls []) := by
    intro n
    induction n with
    | zero => intro q st g H locs ls y2 h1 h2 h3 h4 h5 h6 h7; exact absurd h7 (Nat.not_lt_zero _)
    | succ n ih =>
      intro q st g H locs ls y2 hq hrd hE hO hy1 hy2 hm hG hl
      have stop_ : ¬ q < c → rdF T c (c + 1) (false, 0, 0, false, 0) (sk T c 0) = (0, q, st) := fun h => by
        rw [← hrd]
        exact if_neg h
      refine lv_iload_n X.1 X.2.1 dX6_readInto_20 rfl (lv_at hl 2 rfl) ?_
      refine n_sp X dX6_readInto_21 (by decide) (by decide) (fun x6 t6 => ?_)
      refine n_icmp_ge (tgt := 60) X dX6_readInto_24 (by decide) (fun c7 => ?_) (fun c7 => ?_)
      · refine n_ic X dX6_readInto_60 (by decide) (by decide) (fun x8 t8 => ?_)
        have hz := stop_ (by omega)
        exact ret _ _ _ _ x8 _ hG ⟨by rw [hz]; omega, g, rfl, hE.1, hE.2.2.1, hE.2.1.1, (fun h => absurd (by rw [hz]) h), (fun _ => by rw [hz]; exact ⟨hE.2.1, hO⟩)⟩ dX6_readInto_61
      · refine lv_aload_n X.1 X.2.1 dX6_readInto_27 rfl (lv_at hl 0 rfl) ?_
        refine gf_6_3 X hG htx q_38 dX6_readInto_28 (fun x9 r9 => ?_)
        have u9 := pv_i r9 hE.2.2.2
        have t9 : x9.toInt = (q : Int) := by rw [u9]; exact cI_nI (by omega)
        refine lv_aload_n X.1 X.2.1 dX6_readInto_31 rfl (lv_at hl 0 rfl) ?_
        refine gf_6_2 X hG htx q_36 dX6_readInto_32 (fun x10 r10 => ?_)
        have u10 := pv_i r10 hE.1.2.2.1
        have t10 : x10.toInt = (c : Int) := by rw [u10]; exact cI_nI (by omega)
        refine n_icmp_ge (tgt := 60) X dX6_readInto_35 (by decide) (fun c11 => ?_) (fun c11 => ?_)
        · refine n_ic X dX6_readInto_60 (by decide) (by decide) (fun x12 t12 => ?_)
          have hz := stop_ (by omega)
          exact ret _ _ _ _ x12 _ hG ⟨by rw [hz]; omega, g, rfl, hE.1, hE.2.2.1, hE.2.1.1, (fun h => absurd (by rw [hz]) h), (fun _ => by rw [hz]; exact ⟨hE.2.1, hO⟩)⟩ dX6_readInto_61
        · have hqc : q < c := by omega
          refine lv_aload_n X.1 X.2.1 dX6_readInto_38 rfl (lv_at hl 0 rfl) ?_
          refine lv_aload_n X.1 X.2.1 dX6_readInto_39 rfl (lv_at hl 1 rfl) ?_
          refine k_cVE X hG (EV.at hEv hG) (e_X6_readClause z l D cy τ (zb ρ dr) hN hR hF htx hla hnu hdr hwi hga hW hc hB hqc hE hO) htx rfl yv_X6_readClause q_373 ⟨rfl, rfl⟩ ⟨Nat.le_of_ble_eq_true rfl, Nat.le_of_ble_eq_true rfl⟩ rfl hl.1 rfl (Nat.le_of_ble_eq_true rfl) ⟨Nat.zero_le _, Nat.zero_le _⟩ dX6_readInto_40 (fun x13 u13 H locs hG po => ?_)
          obtain ⟨tr, g2, eg, hT2, hf2, hw2, hg2, h32, hok⟩ := po
          rw [eg] at hG
          refine lv_istore_n (lv' := [(3, .int x13), (0, .ref tx), (1, .ref dr), (2, .int y2)]) X.1 X.2.1 dX6_readInto_43 rfl hl (by decide) rfl (fun ls hl => ?_)
          refine lv_iload_n X.1 X.2.1 dX6_readInto_44 rfl (lv_at hl 0 rfl) ?_
          refine n_if_eq (tgt := 50) X dX6_readInto_45 (by decide) (fun c14 => ?_) (fun c14 => ?_)
          · have hk0 : (clk T c st q).1 = 0 := by omega
            obtain ⟨hE2, hO2⟩ := hok hk0
            obtain ⟨hgt, hle⟩ := clk_0 hk0
            have hrd2 : rdF T c n (nst T c st q) (sk T c (clk T c st q).2) = rdF T c (c + 1) (false, 0, 0, false, 0) (sk T c 0) := by
              rw [← hrd]
              show _ = (if q < c then (if (clk T c st q).1 = 0 then _ else _) else _)
              rw [if_pos hqc, if_pos hk0]
            refine lv_aload_n X.1 X.2.1 dX6_readInto_50 rfl (lv_at hl 1 rfl) ?_
            refine k_cVv X hG (e_X6_skipBlanks l D cy τ (zb ρ dr) hN hR hF htx hla hnu hc hE2.1 hle hE2.2.2.2) htx rfl yv_X6_skipBlanks q_365 ⟨rfl, rfl⟩ ⟨Nat.le_of_ble_eq_true rfl, Nat.le_of_ble_eq_true rfl⟩ rfl hl.1 rfl (Nat.le_of_ble_eq_true rfl) ⟨Nat.zero_le _, Nat.zero_le _⟩ dX6_readInto_51 (fun u15 H locs hG po => ?_)
            rw [po] at hG
            have hE3 := re_at (b := sk T c (clk T c st q).2) hE2 htx ap
            have hs1 := sk_ge (T := T) (c := c) (a := (clk T c st q).2)
            have hs2 := sk_le (T := T) hle
            refine n_inc X (fun z16 => [(2, .int z16), (3, .int x13), (0, .ref tx), (1, .ref dr)]) dX6_readInto_54 hl (k := 3) rfl (by decide) (by decide) (by omega) (by omega) (by decide) (fun _ => rfl) (fun x16 ls t16 hl => ?_)
            have hl : lv_has ls 4 [(2, .int x16), (3, .int x13), (0, .ref tx), (1, .ref dr)] := hl
            refine lv_goto (tgt := 20) X.1 X.2.1 dX6_readInto_57 (by decide) ?_
            exact ih _ _ _ _ _ _ x16 hs2 hrd2 hE3 hO2 (by omega) (by omega) (by omega) hG (lv_sub hl [2, 3, 0] rfl)
          · have hkn : (clk T c st q).1 ≠ 0 := by omega
            have hz : rdF T c (c + 1) (false, 0, 0, false, 0) (sk T c 0) = ((clk T c st q).1, (clk T c st q).2, st) := by
              rw [← hrd]
              show (if q < c then (if (clk T c st q).1 = 0 then _ else _) else _) = _
              rw [if_pos hqc, if_neg hkn]
            refine lv_iload_n X.1 X.2.1 dX6_readInto_48 rfl (lv_at hl 0 rfl) ?_
            exact ret _ _ _ _ x13 _ hG ⟨by rw [hz]; omega, g2, rfl, hT2, hf2, hw2, (fun _ => by rw [hz]; exact h32), (fun h => absurd (by rw [hz] at h; exact h) hkn)⟩ dX6_readInto_49
  exact J20 (c + 1) (sk T c 0) _ _ _ _ _ x5 (sk_le (Nat.zero_le _)) rfl hE1 ⟨Nat.zero_le _, Nat.zero_le _, Nat.zero_le _⟩ (by omega) (by omega) (by omega) hG (lv_sub hl [1, 2, 0] rfl)
