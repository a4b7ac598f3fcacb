/-! the class's line with all pins -/
/-- what is so has n cells, is told or not, no ticks; of other lines nothing is known -/
def gdF (τ : ty_T) (F : Nat → Nat → Option Value) (nw wn n : Nat) (b : Bool) : Nat → Nat → Option Value := fun a j => if τ a = some (0, 8) ∧ j = 7 then (if a = wn then some (.int (nI n)) else none) else if τ a = some (0, 3) ∧ (j = 2 ∨ j = 3) then (if a = nw then (if j = 2 then some (.int (bI b)) else some (.int (nI 0))) else none) else F a j
section GD
variable {τ : ty_T} {F g : Nat → Nat → Option Value} {ρ : ty_R} {nw wn n a b j dr wi : Nat} {bb : Bool} {x : Value}
theorem gd_o (h : ¬ (τ a = some (0, 8) ∧ j = 7)) (h2 : ¬ (τ a = some (0, 3) ∧ (j = 2 ∨ j = 3))) : gdF τ F nw wn n bb a j = F a j := by unfold gdF; rw [if_neg h, if_neg h2]
theorem gd_7 (h : τ wn = some (0, 8)) : gdF τ F nw wn n bb wn 7 = some (.int (nI n)) := by unfold gdF; rw [if_pos ⟨h, rfl⟩, if_pos rfl]
theorem gd_2 (h : τ nw = some (0, 3)) : gdF τ F nw wn n bb nw 2 = some (.int (bI bb)) := by unfold gdF; rw [if_neg (fun z => absurd z.2 (by decide)), if_pos ⟨h, Or.inl rfl⟩, if_pos rfl, if_pos rfl]
theorem gd_3 (h : τ nw = some (0, 3)) : gdF τ F nw wn n bb nw 3 = some (.int (nI 0)) := by unfold gdF; rw [if_neg (fun z => absurd z.2 (by decide)), if_pos ⟨h, Or.inr rfl⟩, if_pos rfl, if_neg (by decide)]
theorem gd_n7 (h : τ a = some (0, 8)) (hn : a ≠ wn) : gdF τ F nw wn n bb a 7 = none := by unfold gdF; rw [if_pos ⟨h, rfl⟩, if_neg hn]
theorem gd_n2 (h : τ a = some (0, 3)) (hj : j = 2 ∨ j = 3) (hn : a ≠ nw) : gdF τ F nw wn n bb a j = none := by unfold gdF; rw [if_neg (fun z => by rw [h] at z; cases z.1), if_pos ⟨h, hj⟩, if_neg hn]
theorem gd_sup (h : SUP τ F) : SUP τ (gdF τ F nw wn n bb) := by
  refine ⟨fun a j ha => ?_, fun a t j ha hn => ?_⟩
  · rw [gd_o (fun z => by rw [ha] at z; cases z.1) (fun z => by rw [ha] at z; cases z.1)]
    exact h.1 a j ha
  · rw [gd_o (fun z => by rw [ha] at z; obtain ⟨z, rfl⟩ := z; cases z; exact hn (by decide)) (fun z => by rw [ha] at z; obtain ⟨z, q⟩ := z; cases z; rcases q with rfl | rfl <;> exact hn (by decide))]
    exact h.2 a t j ha hn
theorem pvv_gl (hb : g b j = some x) : ∀ a i v, pv g (pv F ρ) a i v → pv g (pv (fu F b j x) ρ) a i v := fun a i v h => ⟨⟨h.1.1, fun y hy => by
  by_cases e : a = b ∧ i = j
  · obtain ⟨rfl, rfl⟩ := e
    rw [fu_at] at hy
    cases hy
    exact h.2 _ hb
  · rw [fu_ne e] at hy
    exact h.1.2 y hy⟩, h.2⟩
theorem gd_mono (hnw : τ nw = some (0, 3)) (hwn : τ wn = some (0, 8)) (hdr : τ dr = some (0, 3)) (hwi : τ wi = some (0, 8)) {p q r : Value} : ∀ a i v, pv (pinL (fu (fu (fu F wi 7 p) dr 2 q) dr 3 r) nw wn n bb 0) ρ a i v → pv (gdF τ F nw wn n bb) ρ a i v := fun a i v h => ⟨h.1, fun y hy => by
  unfold pinL at h
  by_cases e : τ a = some (0, 8) ∧ i = 7
  · obtain ⟨e1, rfl⟩ := e
    by_cases e2 : a = wn
    · subst e2
      rw [gd_7 hwn] at hy
      exact h.2 y (by rw [fu_j (by decide), fu_j (by decide), fu_at]; exact hy)
    · rw [gd_n7 e1 e2] at hy
      cases hy
  · by_cases e2 : τ a = some (0, 3) ∧ (i = 2 ∨ i = 3)
    · obtain ⟨e3, e4⟩ := e2
      by_cases e5 : a = nw
      · subst e5
        rcases e4 with rfl | rfl
        · rw [gd_2 hnw] at hy
          exact h.2 y (by rw [fu_j (by decide), fu_at]; exact hy)
        · rw [gd_3 hnw] at hy
          exact h.2 y (by rw [fu_at]; exact hy)
      · rw [gd_n2 e3 e4 e5] at hy
        cases hy
    · rw [gd_o e e2] at hy
      refine h.2 y ?_
      rw [fu_ne (fun z => e2 (by obtain ⟨rfl, rfl⟩ := z; exact ⟨hnw, Or.inr rfl⟩)), fu_ne (fun z => e2 (by obtain ⟨rfl, rfl⟩ := z; exact ⟨hnw, Or.inl rfl⟩)), fu_ne (fun z => e (by obtain ⟨rfl, rfl⟩ := z; exact ⟨hwn, rfl⟩)), fu_ne (fun z => e2 (by obtain ⟨rfl, rfl⟩ := z; exact ⟨hdr, Or.inr rfl⟩)), fu_ne (fun z => e2 (by obtain ⟨rfl, rfl⟩ := z; exact ⟨hdr, Or.inl rfl⟩)), fu_ne (fun z => e (by obtain ⟨rfl, rfl⟩ := z; exact ⟨hwi, rfl⟩))]
      exact hy⟩
end GD
set_option maxHeartbeats 4000000 in
set_option maxRecDepth 100000 in
theorem p_X9_line (l : Launch) (D : va_G) (cy : Nat → ClassId) (τ : ty_T) (z : EVt) {F : Nat → Nat → Option Value} {xa tx la nu tr dr wi ga c : Nat} {T : Nat → Int32} (hp : PF τ F xa tx la nu tr dr wi ga c T) (hs : SUP τ F) {im i0 i1 : Nat} (him : τ im = some (4, 2)) (hi0 : τ i0 = some (0, 2)) (hi1 : τ i1 = some (0, 2)) (fim : F xa 6 = some (.ref im)) (fi0 : F im 0 = some (.ref i0)) (fi1 : F im 1 = some (.ref i1)) {nw wn pa lz : Nat} {lk wl : Nat → Nat} (ha : AG τ F xa nw wn pa lz lk wl) (hfr : F wi 7 = none ∧ F dr 2 = none ∧ F dr 3 = none) (hc : c ≤ 240) (hB : ∀ j, j < c → 0 ≤ (T j).toInt ∧ (T j).toInt ≤ 255) : KIE l D cy yX9_line cX9_line 4 .int (rL 10) τ (pv F (cn Mx τ)) z [.ref xa] (fun r u => ((rdF T c (c + 1) (false, 0, 0, false, 0) (sk T c 0)).1 ≠ 0 → r.toInt = -10 - ((rdF T c (c + 1) (false, 0, 0, false, 0) (sk T c 0)).1 : Int) ∧ u = pv (fu (fu F tx 2 (.int 0)) xa 7 (.int (nI (rdF T c (c + 1) (false, 0, 0, false, 0) (sk T c 0)).2.1))) (cn Mx τ)) ∧ ((rdF T c (c + 1) (false, 0, 0, false, 0) (sk T c 0)).1 = 0 → (rdF T c (c + 1) (false, 0, 0, false, 0) (sk T c 0)).2.2.2.2.1 ≤ 72 ∧ u = pv (lnG (fu (gdF τ (fu (fu F tx 2 (.int 0)) xa 7 (.int (-1))) nw wn (rdF T c (c + 1) (false, 0, 0, false, 0) (sk T c 0)).2.2.2.2.1 (rdF T c (c + 1) (false, 0, 0, false, 0) (sk T c 0)).2.2.1) pa 1 (.int (nI 0))) i0 i1 2) (cn Mx τ))) := by
  refine k_metIE "EdgeEchoes" rfl (by decide +kernel) (Nat.le_of_ble_eq_true rfl) (fun _ _ _ => rfl) ?_
  intro p e s m args below meth cod Q ls X hG hEv hl ret
  obtain ⟨vO, vC, vV, vT, vR, vZ, z1, v1, z2, v2, z3, v3⟩ := id hEv
  have hl : lv_has ls 4 [(0, .ref xa)] := hl
  obtain ⟨hxa, htx, hla, hnu, htr, hdr, hwi, hga, f0, f2, f70, f30, f31, fT⟩ := hp
  have hN : ty_N τ (pv F (cn Mx τ)) := pv_N cn_N
  have hR : ty_Rg Mx τ (pv F (cn Mx τ)) := pv_R cn_R
  have hFr : ty_Wf Mx τ (pv F (cn Mx τ)) SRd := sup_F hs (by decide)
  have n1 : xa ≠ tx := fun q => by rw [q, htx] at hxa; cases hxa
  refine lv_aload_n X.1 X.2.1 dX9_line_0 rfl (lv_at hl 0 rfl) ?_
  refine gf_9_2 X hG hxa q_297 dX9_line_1 (hN _ _ _ hxa) (fun a1 h1 r1 => ?_)
  have e1 := pv_rd r1 f2
  cases e1
  refine gf_7_0 X hG h1 q_194 dX9_line_4 (hN _ _ _ h1) (fun a2 h2 r2 => ?_)
  have e2 := pv_rd r2 f70
  cases e2
  refine lv_astore_n (lv' := [(1, .ref dr), (0, .ref xa)]) X.1 X.2.1 dX9_line_7 rfl hl (by decide) rfl (fun ls hl => ?_)
  refine lv_aload_n X.1 X.2.1 dX9_line_8 rfl (lv_at hl 1 rfl) ?_
  refine gf_9_0 X hG hxa q_295 dX9_line_9 (hN _ _ _ hxa) (fun a3 h3 r3 => ?_)
  have e3 := pv_rd r3 f0
  cases e3
  refine lv_aload_n X.1 X.2.1 dX9_line_12 rfl (lv_at hl 0 rfl) ?_
  have hG : TG D cy τ (pv F (pv F (cn Mx τ))) (ty_d τ) s.heap s.heap [] := hG.mono (fun _ _ _ _ _ h => ⟨h, h.2⟩)
  refine k_cVE X hG (EV.at hEv hG) (e_X6_readInto z l D cy τ (pv F (cn Mx τ)) (f := F) hN hR hFr htx hla hnu hdr hwi hga ⟨fun x hx => sup_F hs (S := [106]) (by decide) ga (0, 1) 6 x hga (by decide) hx, fun x hx => ⟨cn_F (S := [807]) wi (0, 8) 7 x hwi (by decide) hx, fun y hy => by rw [hfr.1] at hy; cases hy⟩, fun x => ⟨cn_F (S := [302]) dr (0, 3) 2 x hdr (by decide) (ty_rno rfl), fun y hy => by rw [hfr.2.1] at hy; cases hy⟩⟩ (fun x => ⟨cn_F (S := [303]) dr (0, 3) 3 x hdr (by decide) (ty_rno rfl), fun y hy => by rw [hfr.2.2] at hy; cases hy⟩) hfr.2.2 hc hB fT (sup_N hs) f30 f31) h3 rfl yv_X6_readInto q_337 ⟨rfl, rfl⟩ ⟨Nat.le_of_ble_eq_true rfl, Nat.le_of_ble_eq_true rfl⟩ rfl hl.1 rfl (Nat.le_of_ble_eq_true rfl) ⟨Nat.zero_le _, Nat.zero_le _⟩ dX9_line_13 (fun x5 u6 H locs hG po4 => ?_)
  obtain ⟨tk, g, eg, gT, gN, gw, gbad, gok⟩ := po4
  rw [eg] at hG
  have g5 := cI_rng x5
  refine lv_istore_n (lv' := [(2, .int x5), (1, .ref dr), (0, .ref xa)]) X.1 X.2.1 dX9_line_16 rfl hl (by decide) rfl (fun ls hl => ?_)
  refine lv_aload_n X.1 X.2.1 dX9_line_17 rfl (lv_at hl 2 rfl) ?_
  refine gf_9_0 X hG hxa q_295 dX9_line_18 (pv_N (zb_N hN) _ _ _ hxa) (fun a7 h7 r7 => ?_)
  have e7 := pv_rd r7.1.1 f0
  cases e7
  refine n_ic X dX9_line_21 (by decide) (by decide) (fun x8 t8 => ?_)
  have e8 : x8 = 0 := cI_inj (by rw [t8]; rfl)
  subst e8
  have hG : TG D cy τ (pv (fu g dr 3 (.int 0)) (pv F (cn Mx τ))) (ty_d τ) s.heap H locs := hG.mono (fun a t i v _ h => ⟨h.1.1, fun y hy => by
    by_cases e : a = dr ∧ i = 3
    · obtain ⟨rfl, rfl⟩ := e
      rw [fu_at] at hy
      cases hy
      exact h.1.2 rfl rfl
    · rw [fu_ne e] at hy
      exact h.2 y hy⟩)
  have gbad2 : (rdF T c (c + 1) (false, 0, 0, false, 0) (sk T c 0)).1 ≠ 0 → fu g dr 3 (.int 0) tx 3 = some (.int (nI (rdF T c (c + 1) (false, 0, 0, false, 0) (sk T c 0)).2.1)) := fun h => (fu_b (fun q => by rw [q, hdr] at htx; cases htx)).trans (gbad h)
  have gok2 : (rdF T c (c + 1) (false, 0, 0, false, 0) (sk T c 0)).1 = 0 → (fu g dr 3 (.int 0) wi 7 = some (.int (nI (rdF T c (c + 1) (false, 0, 0, false, 0) (sk T c 0)).2.2.2.2.1)) ∧ fu g dr 3 (.int 0) dr 2 = some (.int (bI (rdF T c (c + 1) (false, 0, 0, false, 0) (sk T c 0)).2.2.1))) ∧ OKS (rdF T c (c + 1) (false, 0, 0, false, 0) (sk T c 0)).2.2 := fun h => ⟨⟨(fu_j (by decide)).trans (gok h).1.2.2.2.2.1, (fu_j (by decide)).trans (gok h).1.2.2.1⟩, (gok h).2⟩
  have g33 : fu g dr 3 (.int 0) dr 3 = some (.int (nI 0)) := fu_at
  clear gT gN gw gbad gok
  generalize fu g dr 3 (.int 0) = g at hG gbad2 gok2 g33
  refine pg_6_2 X hG h7 q_37 dX9_line_22 (pv (fu g tx 2 (.int 0)) (pv (fu F tx 2 (.int 0)) (cn Mx τ))) pvv_off pvv_oth (pvv_new (cn_F (S := [602]) _ _ _ _ h7 (ty_in (n := 602) rfl) (ty_rno rfl))) (fun H locs hG => ?_)
  refine lv_iload_n X.1 X.2.1 dX9_line_25 rfl (lv_at hl 0 rfl) ?_
  refine n_if_eq (tgt := 45) X dX9_line_26 (by decide) (fun c9 => ?_) (fun c9 => ?_)
  · refine lv_aload_n X.1 X.2.1 dX9_line_45 rfl (lv_at hl 2 rfl) ?_
    refine n_ic X dX9_line_46 (by decide) (by decide) (fun x10 t10 => ?_)
    have e10 : x10 = -1 := cI_inj (by rw [t10]; rfl)
    subst e10
    refine pg_9_7 X hG hxa q_302 dX9_line_47 (pv (fu (fu g tx 2 (.int 0)) xa 7 (.int (-1))) (pv (fu (fu F tx 2 (.int 0)) xa 7 (.int (-1))) (cn Mx τ))) pvv_off pvv_oth (pvv_new (cn_F (S := [907]) _ _ _ _ hxa (ty_in (n := 907) rfl) (ty_rno rfl))) (fun H locs hG => ?_)
    have hR0 : (rdF T c (c + 1) (false, 0, 0, false, 0) (sk T c 0)).1 = 0 := by omega
    obtain ⟨⟨gD1, gD2⟩, gO⟩ := gok2 hR0
    obtain ⟨hnw, hwn, hpa, hlz, hk, fnw, fpa, fwn, flz, fk⟩ := id ha
    have ne : ∀ {a b : Nat} {ta tb : ty_C}, τ a = some ta → τ b = some tb → ta ≠ tb → a ≠ b := fun h1 h2 h3 e => h3 (by rw [e, h2] at h1; cases h1; rfl)
    have n2 : xa ≠ wi := ne hxa hwi (by decide)
    have n3 : xa ≠ dr := ne hxa hdr (by decide)
    have n4 : tx ≠ wi := ne htx hwi (by decide)
    have n5 : tx ≠ dr := ne htx hdr (by decide)
    have n6 : nw ≠ wi := ne hnw hwi (by decide)
    have n7 : nw ≠ xa := ne hnw hxa (by decide)
    have n8 : nw ≠ tx := ne hnw htx (by decide)
    have n9 : dr ≠ wi := ne hdr hwi (by decide)
    have n10 : dr ≠ xa := ne hdr hxa (by decide)
    have n11 : dr ≠ tx := ne hdr htx (by decide)
    have n12 : xa ≠ pa := ne hxa hpa (by decide)
    have n13 : wi ≠ dr := ne hwi hdr (by decide)
    have hx8 : τ xa ≠ some (0, 8) := fun z => by rw [hxa] at z; cases z
    have hx3 : τ xa ≠ some (0, 3) := fun z => by rw [hxa] at z; cases z
    have G1 : fu (fu g tx 2 (.int 0)) xa 7 (.int (-1)) wi 7 = some (.int (nI (rdF T c (c + 1) (false, 0, 0, false, 0) (sk T c 0)).2.2.2.2.1)) := by rw [fu_b (Ne.symm n2), fu_b (Ne.symm n4)]; exact gD1
    have G2 : fu (fu g tx 2 (.int 0)) xa 7 (.int (-1)) dr 2 = some (.int (bI (rdF T c (c + 1) (false, 0, 0, false, 0) (sk T c 0)).2.2.1)) := by rw [fu_b n10, fu_b n11]; exact gD2
    have G3 : fu (fu g tx 2 (.int 0)) xa 7 (.int (-1)) dr 3 = some (.int (nI 0)) := by rw [fu_b n10, fu_b n11]; exact g33
    have hG := hG.mono (fun a t i v _ h => (pvv_gl (b := dr) (j := 3) (x := .int (nI 0)) G3 a i v (pvv_gl (b := dr) (j := 2) (x := .int (bI (rdF T c (c + 1) (false, 0, 0, false, 0) (sk T c 0)).2.2.1)) G2 a i v (pvv_gl (b := wi) (j := 7) (x := .int (nI (rdF T c (c + 1) (false, 0, 0, false, 0) (sk T c 0)).2.2.2.2.1)) G1 a i v h))).1)
    have hs1 := sup_fu (sup_fu hs (x := .int 0) h7 (j := 2) (by decide)) (x := .int (-1)) hxa (j := 7) (by decide)
    have hs2 := sup_fu (sup_fu (sup_fu hs1 (x := .int (nI (rdF T c (c + 1) (false, 0, 0, false, 0) (sk T c 0)).2.2.2.2.1)) hwi (j := 7) (by decide)) (x := .int (bI (rdF T c (c + 1) (false, 0, 0, false, 0) (sk T c 0)).2.2.1)) hdr (j := 2) (by decide)) (x := .int (nI 0)) hdr (j := 3) (by decide)
    refine lv_aload_n X.1 X.2.1 dX9_line_50 rfl (lv_at hl 2 rfl) ?_
    refine gf_9_1 X hG hxa q_296 dX9_line_51 (pv_N cn_N _ _ _ hxa) (fun a11 h11 r11 => ?_)
    have e11 := pv_rd r11 (by rw [fu_b n3, fu_b n3, fu_b n2, fu_j (by decide), fu_b n1]; exact fnw)
    cases e11
    refine lv_aload_n X.1 X.2.1 dX9_line_54 rfl (lv_at hl 1 rfl) ?_
    refine k_cVv X hG (e_X3_copyFrom l D cy τ hs2 h11 hdr (w := wn) (by rw [fu_j (by decide), fu_j (by decide), fu_b n6, fu_b n7, fu_b n8]; exact fwn) (h := wi) (by rw [fu_j (by decide), fu_j (by decide), fu_b n9, fu_b n10, fu_b n11]; exact f30) (by rw [fu_b n13, fu_b n13, fu_at]) (by rw [fu_j (by decide), fu_at]) fu_at) h11 rfl yv_X3_copyFrom q_516 ⟨rfl, rfl⟩ ⟨Nat.le_of_ble_eq_true rfl, Nat.le_of_ble_eq_true rfl⟩ rfl hl.1 rfl (Nat.le_of_ble_eq_true rfl) ⟨Nat.zero_le _, Nat.zero_le _⟩ dX9_line_55 (fun u14 H locs hG po12 => ?_)
    rw [po12] at hG
    have hG := hG.mono (fun a t i v _ h => gd_mono hnw hwn hdr hwi a i v h)
    have hs3 := gd_sup (nw := nw) (wn := wn) (n := (rdF T c (c + 1) (false, 0, 0, false, 0) (sk T c 0)).2.2.2.2.1) (bb := (rdF T c (c + 1) (false, 0, 0, false, 0) (sk T c 0)).2.2.1) hs1
    refine lv_aload_n X.1 X.2.1 dX9_line_58 rfl (lv_at hl 2 rfl) ?_
    refine gf_9_3 X hG hxa q_298 dX9_line_59 (pv_N cn_N _ _ _ hxa) (fun a15 h15 r15 => ?_)
    have e15 := pv_rd r15 (by rw [gd_o (fun z => hx8 z.1) (fun z => hx3 z.1), fu_j (by decide), fu_b n1]; exact fpa)
    cases e15
    refine n_ic X dX9_line_62 (by decide) (by decide) (fun x16 t16 => ?_)
    have e16 : x16 = nI 0 := cI_inj (by rw [t16]; rfl)
    subst e16
    refine pg_4_1 X hG h15 q_213 dX9_line_63 (pv (fu (gdF τ (fu (fu F tx 2 (.int 0)) xa 7 (.int (-1))) nw wn (rdF T c (c + 1) (false, 0, 0, false, 0) (sk T c 0)).2.2.2.2.1 (rdF T c (c + 1) (false, 0, 0, false, 0) (sk T c 0)).2.2.1) pa 1 (.int (nI 0))) (cn Mx τ)) pv_off pv_oth (pv_new (cn_F (S := [401]) _ _ _ _ h15 (ty_in (n := 401) rfl) (ty_rno rfl))) (fun H locs hG => ?_)
    have hs4 := sup_fu hs3 (x := .int (nI 0)) h15 (j := 1) (by decide)
    have hF4 : ty_Wf Mx τ (pv (fu (gdF τ (fu (fu F tx 2 (.int 0)) xa 7 (.int (-1))) nw wn (rdF T c (c + 1) (false, 0, 0, false, 0) (sk T c 0)).2.2.2.2.1 (rdF T c (c + 1) (false, 0, 0, false, 0) (sk T c 0)).2.2.1) pa 1 (.int (nI 0))) (cn Mx τ)) [2, 504] := sup_F hs4 (by decide)
    refine lv_aload_n X.1 X.2.1 dX9_line_66 rfl (lv_at hl 2 rfl) ?_
    refine gf_9_4 X hG hxa q_299 dX9_line_67 (pv_N cn_N _ _ _ hxa) (fun a17 h17 r17 => ?_)
    refine n_ic X dX9_line_70 (by decide) (by decide) (fun x18 t18 => ?_)
    refine pf_5_4 X hG h17 q_233 dX9_line_71 (hF4 _ _ _ _ h17 (ty_in (n := 504) rfl) (ty_rno rfl)) (fun H locs hG => ?_)
    refine lv_aload_n X.1 X.2.1 dX9_line_74 rfl (lv_at hl 2 rfl) ?_
    refine gf_9_5 X hG hxa q_300 dX9_line_75 (pv_N cn_N _ _ _ hxa) (fun a19 h19 r19 => ?_)
    refine n_ic X dX9_line_78 (by decide) (by decide) (fun x20 t20 => ?_)
    refine pf_0_2 X hG h19 q_267 dX9_line_79 (hF4 _ _ _ _ h19 (ty_in (n := 2) rfl) (ty_rno rfl)) (fun H locs hG => ?_)
    refine n_ic X dX9_line_82 (by decide) (by decide) (fun x21 t21 => ?_)
    refine lv_istore_n (lv' := [(3, .int x21), (2, .int x5), (1, .ref dr), (0, .ref xa)]) X.1 X.2.1 dX9_line_83 rfl hl (by decide) rfl (fun ls hl => ?_)
    obtain ⟨F1, eF1⟩ : ∃ f : Nat → Nat → Option Value, f = (fu (gdF τ (fu (fu F tx 2 (.int 0)) xa 7 (.int (-1))) nw wn (rdF T c (c + 1) (false, 0, 0, false, 0) (sk T c 0)).2.2.2.2.1 (rdF T c (c + 1) (false, 0, 0, false, 0) (sk T c 0)).2.2.1) pa 1 (.int (nI 0))) := ⟨_, rfl⟩
    rw [← eF1] at hG
    have x0 : xa ≠ i0 := fun q => by rw [q, hi0] at hxa; cases hxa
    have x1 : xa ≠ i1 := fun q => by rw [q, hi1] at hxa; cases hxa
    have m0 : im ≠ i0 := fun q => by rw [q, hi0] at him; cases him
    have m1 : im ≠ i1 := fun q => by rw [q, hi1] at him; cases him
    have m2 : im ≠ xa := fun q => by rw [q, hxa] at him; cases him
    have m3 : im ≠ tx := fun q => by rw [q, htx] at him; cases him
    have m4 : im ≠ pa := ne him hpa (by decide)
    have hm8 : τ im ≠ some (0, 8) := fun z => by rw [him] at z; cases z
    have hm3 : τ im ≠ some (0, 3) := fun z => by rw [him] at z; cases z
    have fm1 : F1 xa 6 = some (.ref im) := by rw [eF1, fu_b n12, gd_o (fun z => hx8 z.1) (fun z => hx3 z.1), fu_j (by decide), fu_b n1]; exact fim
    have fn0 : F1 im 0 = some (.ref i0) := by rw [eF1, fu_b m4, gd_o (fun z => hm8 z.1) (fun z => hm3 z.1), fu_b m2, fu_b m3]; exact fi0
    have fn1 : F1 im 1 = some (.ref i1) := by rw [eF1, fu_b m4, gd_o (fun z => hm8 z.1) (fun z => hm3 z.1), fu_b m2, fu_b m3]; exact fi1
    have J84 : ∀ (n : Nat) (H : Heap) (locs : List Loc) (ls : Array Slot) (x22 : Int32), (0 ≤ x22.toInt ∧ x22.toInt ≤ 2) → (2 - x22.toInt).toNat < n → TG D cy τ (pv (lnG F1 i0 i1 x22.toInt) (cn Mx τ)) (ty_d τ) s.heap H locs → lv_has ls 4 [(0, .ref xa), (1, .ref dr), (2, .int x5), (3, .int x22)] → W p l e (rL 10) s m args below meth cod H locs 0 0 Q (F0 m 84 ls []) := by
      intro n
      induction n with
      | zero => intro H locs ls x22 bx22 hm84 hG hl; exact absurd hm84 (Nat.not_lt_zero _)
      | succ n ih84 =>
        intro H locs ls x22 bx22 hm84 hG hl
        refine lv_iload_n X.1 X.2.1 dX9_line_84 rfl (lv_at hl 3 rfl) ?_
        refine n_ic X dX9_line_85 (by decide) (by decide) (fun x23 t23 => ?_)
        refine n_icmp_ge (tgt := 105) X dX9_line_86 (by decide) (fun c24 => ?_) (fun c24 => ?_)
        · refine lv_aload_n X.1 X.2.1 dX9_line_105 rfl (lv_at hl 0 rfl) ?_
          refine gf_9_1 X hG hxa q_296 dX9_line_106 (pv_N cn_N _ _ _ hxa) (fun a25 h25 r25 => ?_)
          refine gf_3_0 X hG h25 q_165 dX9_line_109 (pv_N cn_N _ _ _ h25) (fun a26 h26 r26 => ?_)
          refine gf_8_7 X hG h26 q_82 dX9_line_112 (fun x27 r27 => ?_)
          have b27 := (pv_R cn_R _ _ _ _ h26 r27) _ _ rfl
          exact ret _ _ _ _ x27 _ hG ⟨fun h => absurd (by omega) h, fun _ => ⟨by have q1 := gO.1; have q2 := gO.2.1; omega, by rw [show x22.toInt = 2 by omega, eF1]⟩⟩ dX9_line_115
        · refine lv_aload_n X.1 X.2.1 dX9_line_89 rfl (lv_at hl 0 rfl) ?_
          refine gf_9_6 X hG hxa q_301 dX9_line_90 (pv_N cn_N _ _ _ hxa) (fun a28 h28 r28 => ?_)
          have e28 := pv_rd r28 ((lnG_b x0 x1).trans fm1)
          cases e28
          refine lv_iload_n X.1 X.2.1 dX9_line_93 rfl (lv_at hl 3 rfl) ?_
          refine tg_aald X hG h28 (Or.inr rfl) (cI_in (n := 2) (by omega)) dX9_line_94 (pv_N cn_N _ _ _ h28) (fun a29 h29 r29 => ?_)
          have e29 := pv_rd r29 (lnG_i rfl (by omega) m0 m1 fn0 fn1)
          cases e29
          have h29 : τ (lnI i0 i1 x22.toInt) = some (0, 2) := h29
          refine n_ic X dX9_line_95 (by decide) (by decide) (fun x30 t30 => ?_)
          have e30 : x30 = bI false := cI_inj (by rw [t30, bI_t]; rfl)
          subst e30
          refine pg_2_2 X hG h29 q_287 (Or.inl rfl) dX9_line_96 (pv (fu (lnG F1 i0 i1 x22.toInt) (lnI i0 i1 x22.toInt) 2 (.int (bI false))) (cn Mx τ)) pv_off pv_oth (pv_new (cn_F (S := [202]) _ _ _ _ h29 (ty_in (n := 202) rfl) (ty_rno rfl))) (fun H locs hG => ?_)
          refine n_inc X (fun z32 => [(3, .int z32), (0, .ref xa), (1, .ref dr), (2, .int x5)]) dX9_line_99 hl (k := 3) rfl (by decide) (by decide) (by omega) (by omega) (by decide) (fun _ => rfl) (fun x31 ls t31 hl => ?_)
          have hl : lv_has ls 4 [(3, .int x31), (0, .ref xa), (1, .ref dr), (2, .int x5)] := hl
          refine lv_goto (tgt := 84) X.1 X.2.1 dX9_line_102 (by decide) ?_
          exact ih84 _ _ _ x31 (by omega) (by omega) (by rw [show x31.toInt = x22.toInt + 1 by omega, lnG_s (by omega)]; exact hG) (lv_sub hl [1, 2, 3, 0] rfl)
    exact J84 _ _ _ _ x21 (by omega) (Nat.lt_succ_self _) (by rw [t21]; exact hG) (lv_sub hl [3, 2, 1, 0] rfl)
  · have hR0 : (rdF T c (c + 1) (false, 0, 0, false, 0) (sk T c 0)).1 ≠ 0 := by omega
    refine lv_aload_n X.1 X.2.1 dX9_line_29 rfl (lv_at hl 2 rfl) ?_
    refine lv_aload_n X.1 X.2.1 dX9_line_30 rfl (lv_at hl 2 rfl) ?_
    refine gf_9_0 X hG hxa q_295 dX9_line_31 (pv_N (pv_N cn_N) _ _ _ hxa) (fun a33 h33 r33 => ?_)
    have e33 := pv_rd r33.1 ((fu_b n1).trans f0)
    cases e33
    refine gf_6_3 X hG h33 q_39 dX9_line_34 (fun x34 r34 => ?_)
    have u34 := pv_i r34 ((fu_j (by decide)).trans (gbad2 hR0))
    subst u34
    refine pg_9_7 X hG hxa q_302 dX9_line_37 (pv (fu (fu g tx 2 (.int 0)) xa 7 (.int (nI (rdF T c (c + 1) (false, 0, 0, false, 0) (sk T c 0)).2.1))) (pv (fu (fu F tx 2 (.int 0)) xa 7 (.int (nI (rdF T c (c + 1) (false, 0, 0, false, 0) (sk T c 0)).2.1))) (cn Mx τ))) pvv_off pvv_oth (pvv_new (cn_F (S := [907]) _ _ _ _ hxa (ty_in (n := 907) rfl) (ty_rno rfl))) (fun H locs hG => ?_)
    refine n_bp X dX9_line_40 (by decide) (by decide) (fun x35 t35 => ?_)
    refine lv_iload_n X.1 X.2.1 dX9_line_42 rfl (lv_at hl 0 rfl) ?_
    have hk3 := rdF_le (T := T) (c := c) (c + 1) (false, 0, 0, false, 0) (sk T c 0)
    refine n_sub X dX9_line_43 (by omega) (by omega) (fun x36 t36 => ?_)
    exact ret _ _ _ _ x36 _ (hG.mono (fun _ _ _ _ _ h => h.1)) ⟨fun _ => ⟨by omega, rfl⟩, fun h => absurd h hR0⟩ dX9_line_44
set_option maxHeartbeats 4000000 in
set_option maxRecDepth 100000 in
theorem p_X9_fault (l : Launch) (D : va_G) (cy : Nat → ClassId) (τ : ty_T) (ρ : ty_R)  {a900 : Nat} (h900 : τ a900 = some (0, 9)) {y : Int32} (hy : ∀ v, ρ a900 7 v → v = .int y) : KI l D cy yX9_fault cX9_fault 1 .int (rL 0) τ ρ [.ref a900] (fun r u => u = ρ ∧ r = y) := by
  refine k_metI "EdgeEchoes" rfl (by decide +kernel) (Nat.le_of_ble_eq_true rfl) (fun _ _ _ => rfl) ?_
  intro p e s m args below meth c Q ls X hG hl ret
  have hl : lv_has ls 1 [(0, .ref a900)] := hl
  refine lv_aload_n X.1 X.2.1 dX9_fault_0 rfl (lv_at hl 0 rfl) ?_
  refine gf_9_7 X hG h900 q_302 dX9_fault_1 (fun x1 r1 => ?_)
  have g1 := cI_rng x1
  exact ret _ _ _ _ x1 _ hG ⟨rfl, by have e := hy _ r1; cases e; rfl⟩ dX9_fault_4
set_option maxHeartbeats 4000000 in
set_option maxRecDepth 100000 in
theorem p_X10_fault (l : Launch) (D : va_G) (cy : Nat → ClassId) (τ : ty_T) (ρ : ty_R) {M : md_T} (hN : ty_N τ ρ) (hR : ty_Rg M τ ρ) (hF : ty_Wf M τ ρ []) {a900 : Nat} (h900 : τ a900 = some (0, 10)) {y : Int} (hy : M 0 8 = some (y, y)) : KI l D cy yX10_fault cX10_fault 1 .int (rL 0) τ ρ [.ref a900] (fun r u => u = ρ ∧ r.toInt = y) := by
  refine k_metI "EdgeEchoesModel" rfl (by decide +kernel) (Nat.le_of_ble_eq_true rfl) (fun _ _ _ => rfl) ?_
  intro p e s m args below meth c Q ls X hG hl ret
  have hl : lv_has ls 1 [(0, .ref a900)] := hl
  refine lv_aload_n X.1 X.2.1 dX10_fault_0 rfl (lv_at hl 0 rfl) ?_
  refine gf_10_8 X hG h900 q_884 dX10_fault_1 (fun x1 r1 => ?_)
  have g1 := cI_rng x1
  exact ret _ _ _ _ x1 _ hG ⟨rfl, by have e := hR _ _ _ _ h900 r1 _ _ hy; omega⟩ dX10_fault_4
