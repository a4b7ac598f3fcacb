/-! the class's line, the two faults: by the law's pins -/
def Mx : md_T := fun _ _ => none
/-- the codes that the law pins -/
def PC : List Nat := [900, 902, 907, 600, 601, 602, 6008, 700, 300, 301, 906, 6004, 202]
def SUP (τ : ty_T) (F : Nat → Nat → Option Value) : Prop := (∀ a j, τ a = none → F a j = none) ∧ ∀ a t j, τ a = some t → ty_cd t j ∉ PC → F a j = none
def PF (τ : ty_T) (F : Nat → Nat → Option Value) (xa tx la nu tr dr wi ga c : Nat) (T : Nat → Int32) : Prop := τ xa = some (0, 9) ∧ τ tx = some (0, 6) ∧ τ la = some (8, 240) ∧ τ nu = some (9, 3) ∧ τ tr = some (0, 7) ∧ τ dr = some (0, 3) ∧ τ wi = some (0, 8) ∧ τ ga = some (0, 1) ∧ F xa 0 = some (.ref tx) ∧ F xa 2 = some (.ref tr) ∧ F tr 0 = some (.ref dr) ∧ F dr 0 = some (.ref wi) ∧ F dr 1 = some (.ref ga) ∧ TE F tx la nu c T
section PL
variable {τ : ty_T} {F g : Nat → Nat → Option Value} {ρ : ty_R} {S : List Nat} {b j : Nat} {x : Value}
theorem sup_F (h : SUP τ F) (hd : ∀ n ∈ S, n ∉ PC) : ty_Wf Mx τ (pv F (cn Mx τ)) S := pv_F cn_F (fun a t j ha hc => h.2 a t j ha (hd _ hc))
theorem sup_N (h : SUP τ F) : FN τ F := fun a t j ha hc => h.2 a t j ha ((by decide : ∀ n ∈ SU, n ∉ PC) _ hc)
theorem sup_fu {t0 : ty_C} (h : SUP τ F) (hb : τ b = some t0) (hc : ty_cd t0 j ∈ PC) : SUP τ (fu F b j x) := by
  refine ⟨fun a i ha => ?_, fun a t i ha hn => ?_⟩
  · rw [fu_b (fun e => by rw [e, hb] at ha; cases ha)]
    exact h.1 a i ha
  · by_cases e : a = b ∧ i = j
    · obtain ⟨rfl, rfl⟩ := e
      rw [hb] at ha
      cases ha
      exact absurd hc hn
    · rw [fu_ne e]
      exact h.2 a t i ha hn
theorem pvv_off : ∀ a i v, a ≠ b → pv g (pv F ρ) a i v → pv (fu g b j x) (pv (fu F b j x) ρ) a i v := fun a i v h z => ⟨pv_off a i v h z.1, fun y hy => z.2 y (by rw [fu_b h] at hy; exact hy)⟩
theorem pvv_oth : ∀ i v, i ≠ j → pv g (pv F ρ) b i v → pv (fu g b j x) (pv (fu F b j x) ρ) b i v := fun i v h z => ⟨pv_oth i v h z.1, fun y hy => z.2 y (by rw [fu_j h] at hy; exact hy)⟩
theorem pvv_new (h : ρ b j x) : pv (fu g b j x) (pv (fu F b j x) ρ) b j x := pv_new (pv_new h)
end PL
/-- the pins while line's loop takes the images back -/
def lnG (F : Nat → Nat → Option Value) (i0 i1 : Nat) (k : Int) : Nat → Nat → Option Value := if k = 0 then F else if k = 1 then fu F i0 2 (.int (bI false)) else fu (fu F i0 2 (.int (bI false))) i1 2 (.int (bI false))
def lnI (i0 i1 : Nat) (k : Int) : Nat := if k = 0 then i0 else i1
section LN
variable {τ : ty_T} {F : Nat → Nat → Option Value} {i0 i1 a im : Nat} {k : Int}
theorem lnG_s (h : 0 ≤ k ∧ k < 2) : lnG F i0 i1 (k + 1) = fu (lnG F i0 i1 k) (lnI i0 i1 k) 2 (.int (bI false)) := by
  rcases (show k = 0 ∨ k = 1 by omega) with rfl | rfl <;> rfl
theorem lnG_b {j : Nat} (h0 : a ≠ i0) (h1 : a ≠ i1) : lnG F i0 i1 k a j = F a j := by
  unfold lnG
  split
  · rfl
  · split
    · rw [fu_b h0]
    · rw [fu_b h1, fu_b h0]
theorem lnG_i {x : Int32} (hx : x.toInt = k) (h : 0 ≤ k ∧ k < 2) (m0 : im ≠ i0) (m1 : im ≠ i1) (f0 : F im 0 = some (.ref i0)) (f1 : F im 1 = some (.ref i1)) : lnG F i0 i1 k im x.toNatClampNeg = some (.ref (lnI i0 i1 k)) := by
  rw [lnG_b m0 m1]
  have := cI_clamp (x := x) (by omega)
  rcases (show k = 0 ∨ k = 1 by omega) with rfl | rfl
  · rw [show x.toNatClampNeg = 0 by omega]; exact f0
  · rw [show x.toNatClampNeg = 1 by omega]; exact f1
theorem lnI_t (h0 : τ i0 = some (0, 2)) (h1 : τ i1 = some (0, 2)) : τ (lnI i0 i1 k) = some (0, 2) := by
  unfold lnI
  split
  · exact h0
  · exact h1
theorem lnG_S (hs : SUP τ F) (h0 : τ i0 = some (0, 2)) (h1 : τ i1 = some (0, 2)) : SUP τ (lnG F i0 i1 k) := by
  unfold lnG
  split
  · exact hs
  · split
    · exact sup_fu hs h0 (by decide)
    · exact sup_fu (sup_fu hs h0 (by decide)) h1 (by decide)
end LN
set_option maxHeartbeats 4000000 in
set_option maxRecDepth 100000 in
theorem p_X9_line (l : Launch) (D : va_G) (cy : Nat → ClassId) (τ : ty_T) (z : EVt) {F : Nat → Nat → Option Value} {xa tx la nu tr dr wi ga c : Nat} {T : Nat → Int32} (hp : PF τ F xa tx la nu tr dr wi ga c T) (hs : SUP τ F) {im i0 i1 : Nat} (him : τ im = some (4, 2)) (hi0 : τ i0 = some (0, 2)) (hi1 : τ i1 = some (0, 2)) (fim : F xa 6 = some (.ref im)) (fi0 : F im 0 = some (.ref i0)) (fi1 : F im 1 = some (.ref i1)) (hc : c ≤ 240) (hB : ∀ j, j < c → 0 ≤ (T j).toInt ∧ (T j).toInt ≤ 255) : KIE l D cy yX9_line cX9_line 4 .int (rL 10) τ (pv F (cn Mx τ)) z [.ref xa] (fun r u => ((rdF T c (c + 1) (false, 0, 0, false, 0) (sk T c 0)).1 ≠ 0 → r.toInt = -10 - ((rdF T c (c + 1) (false, 0, 0, false, 0) (sk T c 0)).1 : Int) ∧ u = pv (fu (fu F tx 2 (.int 0)) xa 7 (.int (nI (rdF T c (c + 1) (false, 0, 0, false, 0) (sk T c 0)).2.1))) (cn Mx τ)) ∧ ((rdF T c (c + 1) (false, 0, 0, false, 0) (sk T c 0)).1 = 0 → u = pv (lnG (fu (fu F tx 2 (.int 0)) xa 7 (.int (-1))) i0 i1 2) (cn Mx τ))) := by
  refine k_metIE "EdgeEchoes" rfl (by decide +kernel) (Nat.le_of_ble_eq_true rfl) (fun _ _ _ => rfl) ?_
  intro p e s m args below meth cod Q ls X hG hEv hl ret
  obtain ⟨vO, vC, vV, vT, vR, vZ, z1, v1, z2, v2, z3, v3⟩ := id hEv
  have hl : lv_has ls 4 [(0, .ref xa)] := hl
  obtain ⟨hxa, htx, hla, hnu, htr, hdr, hwi, hga, f0, f2, f70, f30, f31, fT⟩ := hp
  have hN : ty_N τ (pv F (cn Mx τ)) := pv_N cn_N
  have hR : ty_Rg Mx τ (pv F (cn Mx τ)) := pv_R cn_R
  have hFr : ty_Wf Mx τ (pv F (cn Mx τ)) SRd := sup_F hs (by decide)
  have n1 : xa ≠ tx := fun q => by rw [q, htx] at hxa; cases hxa
  refine lv_aload_n X.1 X.2.1 dX9_line_0 rfl (lv_at hl 0 rfl) ?_
  refine gf_9_2 X hG hxa q_297 dX9_line_1 (hN _ _ _ hxa) (fun a1 h1 r1 => ?_)
  have e1 := pv_rd r1 f2
  cases e1
  refine gf_7_0 X hG h1 q_194 dX9_line_4 (hN _ _ _ h1) (fun a2 h2 r2 => ?_)
  have e2 := pv_rd r2 f70
  cases e2
  refine lv_astore_n (lv' := [(1, .ref dr), (0, .ref xa)]) X.1 X.2.1 dX9_line_7 rfl hl (by decide) rfl (fun ls hl => ?_)
  refine lv_aload_n X.1 X.2.1 dX9_line_8 rfl (lv_at hl 1 rfl) ?_
  refine gf_9_0 X hG hxa q_295 dX9_line_9 (hN _ _ _ hxa) (fun a3 h3 r3 => ?_)
  have e3 := pv_rd r3 f0
  cases e3
  refine lv_aload_n X.1 X.2.1 dX9_line_12 rfl (lv_at hl 0 rfl) ?_
  have hG : TG D cy τ (pv F (pv F (cn Mx τ))) (ty_d τ) s.heap s.heap [] := hG.mono (fun _ _ _ _ _ h => ⟨h, h.2⟩)
  refine k_cVE X hG (EV.at hEv hG) (e_X6_readInto z l D cy τ (pv F (cn Mx τ)) (f := F) hN hR hFr htx hla hnu hdr hwi hga hc hB fT (sup_N hs) f30 f31) h3 rfl yv_X6_readInto q_337 ⟨rfl, rfl⟩ ⟨Nat.le_of_ble_eq_true rfl, Nat.le_of_ble_eq_true rfl⟩ rfl hl.1 rfl (Nat.le_of_ble_eq_true rfl) ⟨Nat.zero_le _, Nat.zero_le _⟩ dX9_line_13 (fun x5 u6 H locs hG po4 => ?_)
  obtain ⟨tk, g, eg, gT, gN, gw, gbad, gok⟩ := po4
  rw [eg] at hG
  have g5 := cI_rng x5
  refine lv_istore_n (lv' := [(2, .int x5), (1, .ref dr), (0, .ref xa)]) X.1 X.2.1 dX9_line_16 rfl hl (by decide) rfl (fun ls hl => ?_)
  refine lv_aload_n X.1 X.2.1 dX9_line_17 rfl (lv_at hl 2 rfl) ?_
  refine gf_9_0 X hG hxa q_295 dX9_line_18 (pv_N hN _ _ _ hxa) (fun a7 h7 r7 => ?_)
  have e7 := pv_rd r7.1 f0
  cases e7
  refine n_ic X dX9_line_21 (by decide) (by decide) (fun x8 t8 => ?_)
  have e8 : x8 = 0 := cI_inj (by rw [t8]; rfl)
  subst e8
  refine pg_6_2 X hG h7 q_37 dX9_line_22 (pv (fu g tx 2 (.int 0)) (pv (fu F tx 2 (.int 0)) (cn Mx τ))) pvv_off pvv_oth (pvv_new (cn_F (S := [602]) _ _ _ _ h7 (ty_in (n := 602) rfl) (ty_rno rfl))) (fun H locs hG => ?_)
  refine lv_iload_n X.1 X.2.1 dX9_line_25 rfl (lv_at hl 0 rfl) ?_
  refine n_if_eq (tgt := 45) X dX9_line_26 (by decide) (fun c9 => ?_) (fun c9 => ?_)
  · refine lv_aload_n X.1 X.2.1 dX9_line_45 rfl (lv_at hl 2 rfl) ?_
    refine n_ic X dX9_line_46 (by decide) (by decide) (fun x10 t10 => ?_)
    have e10 : x10 = -1 := cI_inj (by rw [t10]; rfl)
    subst e10
    refine pg_9_7 X hG hxa q_302 dX9_line_47 (pv (fu (fu g tx 2 (.int 0)) xa 7 (.int (-1))) (pv (fu (fu F tx 2 (.int 0)) xa 7 (.int (-1))) (cn Mx τ))) pvv_off pvv_oth (pvv_new (cn_F (S := [907]) _ _ _ _ hxa (ty_in (n := 907) rfl) (ty_rno rfl))) (fun H locs hG => ?_)
    have hG := hG.mono (fun _ _ _ _ _ h => h.1)
    have hs1 := sup_fu (sup_fu hs (x := .int 0) h7 (j := 2) (by decide)) (x := .int (-1)) hxa (j := 7) (by decide)
    have hN1 : ty_N τ (pv (fu (fu F tx 2 (.int 0)) xa 7 (.int (-1))) (cn Mx τ)) := pv_N cn_N
    have hR1 : ty_Rg Mx τ (pv (fu (fu F tx 2 (.int 0)) xa 7 (.int (-1))) (cn Mx τ)) := pv_R cn_R
    have hF1 : ty_Wf Mx τ (pv (fu (fu F tx 2 (.int 0)) xa 7 (.int (-1))) (cn Mx τ)) [2, 106, 302, 303, 401, 504, 603, 604, 806, 807, 808, 809, 810, 811, 812, 5000, 6005, 6009] := sup_F hs1 (by decide)
    obtain ⟨ρ1, eρ⟩ : ∃ r : ty_R, r = pv (fu (fu F tx 2 (.int 0)) xa 7 (.int (-1))) (cn Mx τ) := ⟨_, rfl⟩
    rw [← eρ] at hG hN1 hR1 hF1
    refine lv_aload_n X.1 X.2.1 dX9_line_50 rfl (lv_at hl 2 rfl) ?_
    refine gf_9_1 X hG hxa q_296 dX9_line_51 (hN1 _ _ _ hxa) (fun a11 h11 r11 => ?_)
    refine lv_aload_n X.1 X.2.1 dX9_line_54 rfl (lv_at hl 1 rfl) ?_
    refine k_cVv X hG (c_X3_copyFrom l D cy τ _ hN1 hR1 (ty_Wf.sub (S' := [106, 302, 303, 806, 807, 808, 809, 810, 811, 812, 5000, 6005]) hF1 (by decide)) h11 hdr) h11 rfl yv_X3_copyFrom q_516 ⟨rfl, rfl⟩ ⟨Nat.le_of_ble_eq_true rfl, Nat.le_of_ble_eq_true rfl⟩ rfl hl.1 rfl (Nat.le_of_ble_eq_true rfl) ⟨Nat.zero_le _, Nat.zero_le _⟩ dX9_line_55 (fun u14 H locs hG po12 => ?_)
    rw [po12] at hG
    refine lv_aload_n X.1 X.2.1 dX9_line_58 rfl (lv_at hl 2 rfl) ?_
    refine gf_9_3 X hG hxa q_298 dX9_line_59 (hN1 _ _ _ hxa) (fun a15 h15 r15 => ?_)
    refine n_ic X dX9_line_62 (by decide) (by decide) (fun x16 t16 => ?_)
    refine pf_4_1 X hG h15 q_213 dX9_line_63 (hF1 _ _ _ _ h15 (ty_in (n := 401) rfl) (ty_rno rfl)) (fun H locs hG => ?_)
    refine lv_aload_n X.1 X.2.1 dX9_line_66 rfl (lv_at hl 2 rfl) ?_
    refine gf_9_4 X hG hxa q_299 dX9_line_67 (hN1 _ _ _ hxa) (fun a17 h17 r17 => ?_)
    refine n_ic X dX9_line_70 (by decide) (by decide) (fun x18 t18 => ?_)
    refine pf_5_4 X hG h17 q_233 dX9_line_71 (hF1 _ _ _ _ h17 (ty_in (n := 504) rfl) (ty_rno rfl)) (fun H locs hG => ?_)
    refine lv_aload_n X.1 X.2.1 dX9_line_74 rfl (lv_at hl 2 rfl) ?_
    refine gf_9_5 X hG hxa q_300 dX9_line_75 (hN1 _ _ _ hxa) (fun a19 h19 r19 => ?_)
    refine n_ic X dX9_line_78 (by decide) (by decide) (fun x20 t20 => ?_)
    refine pf_0_2 X hG h19 q_267 dX9_line_79 (hF1 _ _ _ _ h19 (ty_in (n := 2) rfl) (ty_rno rfl)) (fun H locs hG => ?_)
    refine n_ic X dX9_line_82 (by decide) (by decide) (fun x21 t21 => ?_)
    refine lv_istore_n (lv' := [(3, .int x21), (2, .int x5), (1, .ref dr), (0, .ref xa)]) X.1 X.2.1 dX9_line_83 rfl hl (by decide) rfl (fun ls hl => ?_)
    rw [eρ] at hG
    obtain ⟨F1, eF1⟩ : ∃ f : Nat → Nat → Option Value, f = (fu (fu F tx 2 (.int 0)) xa 7 (.int (-1))) := ⟨_, rfl⟩
    rw [← eF1] at hG
    have x0 : xa ≠ i0 := fun q => by rw [q, hi0] at hxa; cases hxa
    have x1 : xa ≠ i1 := fun q => by rw [q, hi1] at hxa; cases hxa
    have m0 : im ≠ i0 := fun q => by rw [q, hi0] at him; cases him
    have m1 : im ≠ i1 := fun q => by rw [q, hi1] at him; cases him
    have m2 : im ≠ xa := fun q => by rw [q, hxa] at him; cases him
    have m3 : im ≠ tx := fun q => by rw [q, htx] at him; cases him
    have fm1 : F1 xa 6 = some (.ref im) := by rw [eF1, fu_j (by decide), fu_b n1]; exact fim
    have fn0 : F1 im 0 = some (.ref i0) := by rw [eF1, fu_b m2, fu_b m3]; exact fi0
    have fn1 : F1 im 1 = some (.ref i1) := by rw [eF1, fu_b m2, fu_b m3]; exact fi1
    have J84 : ∀ (n : Nat) (H : Heap) (locs : List Loc) (ls : Array Slot) (x22 : Int32), (0 ≤ x22.toInt ∧ x22.toInt ≤ 2) → (2 - x22.toInt).toNat < n → TG D cy τ (pv (lnG F1 i0 i1 x22.toInt) (cn Mx τ)) (ty_d τ) s.heap H locs → lv_has ls 4 [(0, .ref xa), (1, .ref dr), (2, .int x5), (3, .int x22)] → W p l e (rL 10) s m args below meth cod H locs 0 0 Q (F0 m 84 ls []) := by
      intro n
      induction n with
      | zero => intro H locs ls x22 bx22 hm84 hG hl; exact absurd hm84 (Nat.not_lt_zero _)
      | succ n ih84 =>
        intro H locs ls x22 bx22 hm84 hG hl
        refine lv_iload_n X.1 X.2.1 dX9_line_84 rfl (lv_at hl 3 rfl) ?_
        refine n_ic X dX9_line_85 (by decide) (by decide) (fun x23 t23 => ?_)
        refine n_icmp_ge (tgt := 105) X dX9_line_86 (by decide) (fun c24 => ?_) (fun c24 => ?_)
        · refine lv_aload_n X.1 X.2.1 dX9_line_105 rfl (lv_at hl 0 rfl) ?_
          refine gf_9_1 X hG hxa q_296 dX9_line_106 (pv_N cn_N _ _ _ hxa) (fun a25 h25 r25 => ?_)
          refine gf_3_0 X hG h25 q_165 dX9_line_109 (pv_N cn_N _ _ _ h25) (fun a26 h26 r26 => ?_)
          refine gf_8_7 X hG h26 q_82 dX9_line_112 (fun x27 r27 => ?_)
          have b27 := (pv_R cn_R _ _ _ _ h26 r27) _ _ rfl
          exact ret _ _ _ _ x27 _ hG ⟨fun h => absurd (by omega) h, fun _ => by rw [show x22.toInt = 2 by omega, eF1]⟩ dX9_line_115
        · refine lv_aload_n X.1 X.2.1 dX9_line_89 rfl (lv_at hl 0 rfl) ?_
          refine gf_9_6 X hG hxa q_301 dX9_line_90 (pv_N cn_N _ _ _ hxa) (fun a28 h28 r28 => ?_)
          have e28 := pv_rd r28 ((lnG_b x0 x1).trans fm1)
          cases e28
          refine lv_iload_n X.1 X.2.1 dX9_line_93 rfl (lv_at hl 3 rfl) ?_
          refine tg_aald X hG h28 (Or.inr rfl) (cI_in (n := 2) (by omega)) dX9_line_94 (pv_N cn_N _ _ _ h28) (fun a29 h29 r29 => ?_)
          have e29 := pv_rd r29 (lnG_i rfl (by omega) m0 m1 fn0 fn1)
          cases e29
          have h29 : τ (lnI i0 i1 x22.toInt) = some (0, 2) := h29
          refine n_ic X dX9_line_95 (by decide) (by decide) (fun x30 t30 => ?_)
          have e30 : x30 = bI false := cI_inj (by rw [t30, bI_t]; rfl)
          subst e30
          refine pg_2_2 X hG h29 q_287 (Or.inl rfl) dX9_line_96 (pv (fu (lnG F1 i0 i1 x22.toInt) (lnI i0 i1 x22.toInt) 2 (.int (bI false))) (cn Mx τ)) pv_off pv_oth (pv_new (cn_F (S := [202]) _ _ _ _ h29 (ty_in (n := 202) rfl) (ty_rno rfl))) (fun H locs hG => ?_)
          refine n_inc X (fun z32 => [(3, .int z32), (0, .ref xa), (1, .ref dr), (2, .int x5)]) dX9_line_99 hl (k := 3) rfl (by decide) (by decide) (by omega) (by omega) (by decide) (fun _ => rfl) (fun x31 ls t31 hl => ?_)
          have hl : lv_has ls 4 [(3, .int x31), (0, .ref xa), (1, .ref dr), (2, .int x5)] := hl
          refine lv_goto (tgt := 84) X.1 X.2.1 dX9_line_102 (by decide) ?_
          exact ih84 _ _ _ x31 (by omega) (by omega) (by rw [show x31.toInt = x22.toInt + 1 by omega, lnG_s (by omega)]; exact hG) (lv_sub hl [1, 2, 3, 0] rfl)
    exact J84 _ _ _ _ x21 (by omega) (Nat.lt_succ_self _) (by rw [t21]; exact hG) (lv_sub hl [3, 2, 1, 0] rfl)
  · have hR0 : (rdF T c (c + 1) (false, 0, 0, false, 0) (sk T c 0)).1 ≠ 0 := by omega
    refine lv_aload_n X.1 X.2.1 dX9_line_29 rfl (lv_at hl 2 rfl) ?_
    refine lv_aload_n X.1 X.2.1 dX9_line_30 rfl (lv_at hl 2 rfl) ?_
    refine gf_9_0 X hG hxa q_295 dX9_line_31 (pv_N (pv_N cn_N) _ _ _ hxa) (fun a33 h33 r33 => ?_)
    have e33 := pv_rd r33.1 ((fu_b n1).trans f0)
    cases e33
    refine gf_6_3 X hG h33 q_39 dX9_line_34 (fun x34 r34 => ?_)
    have u34 := pv_i r34 ((fu_j (by decide)).trans (gbad hR0))
    subst u34
    refine pg_9_7 X hG hxa q_302 dX9_line_37 (pv (fu (fu g tx 2 (.int 0)) xa 7 (.int (nI (rdF T c (c + 1) (false, 0, 0, false, 0) (sk T c 0)).2.1))) (pv (fu (fu F tx 2 (.int 0)) xa 7 (.int (nI (rdF T c (c + 1) (false, 0, 0, false, 0) (sk T c 0)).2.1))) (cn Mx τ))) pvv_off pvv_oth (pvv_new (cn_F (S := [907]) _ _ _ _ hxa (ty_in (n := 907) rfl) (ty_rno rfl))) (fun H locs hG => ?_)
    refine n_bp X dX9_line_40 (by decide) (by decide) (fun x35 t35 => ?_)
    refine lv_iload_n X.1 X.2.1 dX9_line_42 rfl (lv_at hl 0 rfl) ?_
    have hk3 := rdF_le (T := T) (c := c) (c + 1) (false, 0, 0, false, 0) (sk T c 0)
    refine n_sub X dX9_line_43 (by omega) (by omega) (fun x36 t36 => ?_)
    exact ret _ _ _ _ x36 _ (hG.mono (fun _ _ _ _ _ h => h.1)) ⟨fun _ => ⟨by omega, rfl⟩, fun h => absurd h hR0⟩ dX9_line_44
set_option maxHeartbeats 4000000 in
set_option maxRecDepth 100000 in
theorem p_X9_fault (l : Launch) (D : va_G) (cy : Nat → ClassId) (τ : ty_T) (ρ : ty_R)  {a900 : Nat} (h900 : τ a900 = some (0, 9)) {y : Int32} (hy : ∀ v, ρ a900 7 v → v = .int y) : KI l D cy yX9_fault cX9_fault 1 .int (rL 0) τ ρ [.ref a900] (fun r u => u = ρ ∧ r = y) := by
  refine k_metI "EdgeEchoes" rfl (by decide +kernel) (Nat.le_of_ble_eq_true rfl) (fun _ _ _ => rfl) ?_
  intro p e s m args below meth c Q ls X hG hl ret
  have hl : lv_has ls 1 [(0, .ref a900)] := hl
  refine lv_aload_n X.1 X.2.1 dX9_fault_0 rfl (lv_at hl 0 rfl) ?_
  refine gf_9_7 X hG h900 q_302 dX9_fault_1 (fun x1 r1 => ?_)
  have g1 := cI_rng x1
  exact ret _ _ _ _ x1 _ hG ⟨rfl, by have e := hy _ r1; cases e; rfl⟩ dX9_fault_4
set_option maxHeartbeats 4000000 in
set_option maxRecDepth 100000 in
theorem p_X10_fault (l : Launch) (D : va_G) (cy : Nat → ClassId) (τ : ty_T) (ρ : ty_R) {M : md_T} (hN : ty_N τ ρ) (hR : ty_Rg M τ ρ) (hF : ty_Wf M τ ρ []) {a900 : Nat} (h900 : τ a900 = some (0, 10)) {y : Int} (hy : M 0 8 = some (y, y)) : KI l D cy yX10_fault cX10_fault 1 .int (rL 0) τ ρ [.ref a900] (fun r u => u = ρ ∧ r.toInt = y) := by
  refine k_metI "EdgeEchoesModel" rfl (by decide +kernel) (Nat.le_of_ble_eq_true rfl) (fun _ _ _ => rfl) ?_
  intro p e s m args below meth c Q ls X hG hl ret
  have hl : lv_has ls 1 [(0, .ref a900)] := hl
  refine lv_aload_n X.1 X.2.1 dX10_fault_0 rfl (lv_at hl 0 rfl) ?_
  refine gf_10_8 X hG h900 q_884 dX10_fault_1 (fun x1 r1 => ?_)
  have g1 := cI_rng x1
  exact ret _ _ _ _ x1 _ hG ⟨rfl, by have e := hR _ _ _ _ h900 r1 _ _ hy; omega⟩ dX10_fault_4
