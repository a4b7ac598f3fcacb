/-! ticks, draws, what is undone, the seed, images -/
/-- remembered, and i ticks have passed -/
def tkF (F : Nat → Nat → Option Value) (pa nw : Nat) (ln wl : Nat → Nat) (nx cu N : Nat) (bb : Bool) (z i : Nat) : Nat → Nat → Option Value := fu (remF F pa ln wl nx cu N bb z) nw 3 (.int (nI (z + i)))
section TK
variable {τ : ty_T} {F : Nat → Nat → Option Value} {xa nw wn pa lz : Nat} {ln wl : Nat → Nat} {cu nx N B z i : Nat} {bb : Bool} {D : va_G} {cy : Nat → ClassId} {A : Nat → Prop} {H0 H : Heap} {locs : List Loc}
theorem tk_1 : fu (tkF F pa nw ln wl nx cu N bb z i) nw 3 (.int (nI (z + i + 1))) = tkF F pa nw ln wl nx cu N bb z (i + 1) := fu_f2
theorem tk_s (hs : SUP τ F) (ha : AG τ F xa nw wn pa lz ln wl) (hv : VG F nw wn pa ln wl cu nx N bb B) : SUP τ (tkF F pa nw ln wl nx cu N bb z i) := sup_fu (sup_rem hs ha hv) ha.1 (by decide)
theorem tk_n (ha : AG τ F xa nw wn pa lz ln wl) (hv : VG F nw wn pa ln wl cu nx N bb B) (fz : F nw 3 = some (.int (nI z))) : tkF F pa nw ln wl nx cu N bb z i nw 3 = some (.int (nI (z + i))) := fu_at
theorem tk_x (ha : AG τ F xa nw wn pa lz ln wl) (hv : VG F nw wn pa ln wl cu nx N bb B) (hxa : τ xa = some (0, 9)) (j : Nat) : tkF F pa nw ln wl nx cu N bb z i xa j = F xa j := by
  have g : xa ≠ nw := fun q => by have r := ha.1; rw [← q, hxa] at r; cases r
  exact (fu_b g).trans (rem_x ha hv hxa j)
theorem tk_0 (ha : AG τ F xa nw wn pa lz ln wl) (hv : VG F nw wn pa ln wl cu nx N bb B) (fz : F nw 3 = some (.int (nI z))) (hG : TG D cy τ (pv (remF F pa ln wl nx cu N bb z) (cn Mx τ)) A H0 H locs) : TG D cy τ (pv (tkF F pa nw ln wl nx cu N bb z 0) (cn Mx τ)) A H0 H locs := hG.mono (fun a t j v _ h => ⟨h.1, fun y hy => h.2 y (by
  by_cases e : a = nw ∧ j = 3
  · obtain ⟨rfl, rfl⟩ := e
    rw [tk_n ha hv fz] at hy
    rw [rem_n ha hv fz]
    exact hy
  · unfold tkF at hy
    rw [fu_ne e] at hy
    exact hy)⟩)
end TK
def RT (τ : ty_T) (F : Nat → Nat → Option Value) (pa nw : Nat) (ln wl : Nat → Nat) (nx cu N : Nat) (bb : Bool) (z : Nat) (u : ty_R) : Prop := u = pv F (cn Mx τ) ∨ ∃ i, i ≤ 50 ∧ u = pv (tkF F pa nw ln wl nx cu N bb z i) (cn Mx τ)
set_option maxHeartbeats 4000000 in
set_option maxRecDepth 100000 in
theorem e_X9_tick (l : Launch) (D : va_G) (cy : Nat → ClassId) (τ : ty_T) {F : Nat → Nat → Option Value} (hs : SUP τ F) {xa nw wn pa lz : Nat} {ln wl : Nat → Nat} {cu nx N B : Nat} {bb : Bool} (hxa : τ xa = some (0, 9)) (ha : AG τ F xa nw wn pa lz ln wl) (hv : VG F nw wn pa ln wl cu nx N bb B) {z : Nat} (fz : F nw 3 = some (.int (nI z))) (x901 : Int32) (hz : z ≤ 90000) : KI l D cy yX9_tick cX9_tick 4 .int (rL 5) τ (pv F (cn Mx τ)) [.ref xa, .int x901] (fun r u => RT τ F pa nw ln wl nx cu N bb z u ∧ True) := by
  refine k_metI "EdgeEchoes" rfl (by decide +kernel) (Nat.le_of_ble_eq_true rfl) (fun _ _ _ => rfl) ?_
  intro p e s m args below meth c Q ls X hG hl ret
  have hl : lv_has ls 4 [(0, .ref xa), (1, .int x901)] := hl
  obtain ⟨hnw, hwn, hpa, hlz, hk, fnw, fpa, fwn, flz, fk⟩ := id ha
  have hN : ty_N τ (pv (F) (cn Mx τ)) := pv_N cn_N
  have hR : ty_Rg Mx τ (pv (F) (cn Mx τ)) := pv_R cn_R
  have hF : ty_Wf Mx τ (pv F (cn Mx τ)) [106, 806, 808, 809, 810, 811, 812, 5000, 6005] := sup_F hs (by decide)
  have hs2 := sup_rem hs ha hv (z := z)
  obtain ⟨ρ2, eρ⟩ : ∃ r : ty_R, r = pv (remF F pa ln wl nx cu N bb z) (cn Mx τ) := ⟨_, rfl⟩
  have hN2 : ty_N τ ρ2 := by rw [eρ]; exact pv_N cn_N
  have hR2 : ty_Rg Mx τ ρ2 := by rw [eρ]; exact pv_R cn_R
  have hF2 : ty_Wf Mx τ ρ2 [106, 806, 808, 809, 810, 811, 812, 5000, 6005] := by rw [eρ]; exact sup_F hs2 (by decide)
  have g901 := cI_rng x901
  refine lv_aload_n X.1 X.2.1 dX9_tick_0 rfl (lv_at hl 0 rfl) ?_
  refine lv_iload_n X.1 X.2.1 dX9_tick_1 rfl (lv_at hl 1 rfl) ?_
  refine k_cVi X hG (e_X9_refusalToPass l D cy τ hs hxa fnw hv.2.2.2.2.2.1.2.1 fz hz x901) hxa rfl yv_X9_refusalToPass q_662 ⟨rfl, rfl⟩ ⟨Nat.le_of_ble_eq_true rfl, Nat.le_of_ble_eq_true rfl⟩ rfl hl.1 rfl (Nat.le_of_ble_eq_true rfl) ⟨Nat.zero_le _, Nat.zero_le _⟩ dX9_tick_2 (fun x2 u3 H locs hG po1 => ?_)
  obtain ⟨eu3, po1⟩ := po1
  rw [eu3] at hG
  have g2 := cI_rng x2
  refine lv_istore_n (lv' := [(2, .int x2), (0, .ref xa), (1, .int x901)]) X.1 X.2.1 dX9_tick_5 rfl hl (by decide) rfl (fun ls hl => ?_)
  refine lv_iload_n X.1 X.2.1 dX9_tick_6 rfl (lv_at hl 0 rfl) ?_
  refine n_if_eq (tgt := 12) X dX9_tick_7 (by decide) (fun c4 => ?_) (fun c4 => ?_)
  · have ok := (po1.mp c4).1
    refine lv_aload_n X.1 X.2.1 dX9_tick_12 rfl (lv_at hl 1 rfl) ?_
    refine gf_9_3 X hG hxa q_298 dX9_tick_13 (hN _ _ _ hxa) (fun a5 h5 r5 => ?_)
    refine lv_aload_n X.1 X.2.1 dX9_tick_16 rfl (lv_at hl 1 rfl) ?_
    refine gf_9_1 X hG hxa q_296 dX9_tick_17 (hN _ _ _ hxa) (fun a6 h6 r6 => ?_)
    have e5 := pv_rd r5 fpa
    cases e5
    have e6 := pv_rd r6 fnw
    cases e6
    refine k_cVv X hG (e_X4_remember l D cy τ hs ha hv fz) h5 rfl yv_X4_remember q_668 ⟨rfl, rfl⟩ ⟨Nat.le_of_ble_eq_true rfl, Nat.le_of_ble_eq_true rfl⟩ rfl hl.1 rfl (Nat.le_of_ble_eq_true rfl) ⟨Nat.zero_le _, Nat.zero_le _⟩ dX9_tick_20 (fun u9 H locs hG po7 => ?_)
    rw [po7] at hG
    refine n_ic X dX9_tick_23 (by decide) (by decide) (fun x10 t10 => ?_)
    refine lv_istore_n (lv' := [(3, .int x10), (2, .int x2), (0, .ref xa), (1, .int x901)]) X.1 X.2.1 dX9_tick_24 rfl hl (by decide) rfl (fun ls hl => ?_)
    have J25 : ∀ (n : Nat) (H : Heap) (locs : List Loc) (ls : Array Slot) (x11 : Int32), (0 ≤ x11.toInt ∧ x11.toInt ≤ x901.toInt) → (2147483647 - x11.toInt).toNat < n → TG D cy τ (pv (tkF F pa nw ln wl nx cu N bb z (x11.toInt).toNat) (cn Mx τ)) (ty_d τ) s.heap H locs → lv_has ls 4 [(0, .ref xa), (1, .int x901), (2, .int x2), (3, .int x11)] → W p l e (rL 5) s m args below meth c H locs 0 0 Q (F0 m 25 ls []) := by
      intro n
      induction n with
      | zero => intro H locs ls x11 bx11 hm25 hG hl; exact absurd hm25 (Nat.not_lt_zero _)
      | succ n ih25 =>
        intro H locs ls x11 bx11 hm25 hG hl
        have gx11 := cI_rng x11
        refine lv_iload_n X.1 X.2.1 dX9_tick_25 rfl (lv_at hl 3 rfl) ?_
        refine lv_iload_n X.1 X.2.1 dX9_tick_26 rfl (lv_at hl 1 rfl) ?_
        refine n_icmp_ge (tgt := 43) X dX9_tick_27 (by decide) (fun c12 => ?_) (fun c12 => ?_)
        · refine lv_aload_n X.1 X.2.1 dX9_tick_43 rfl (lv_at hl 0 rfl) ?_
          refine gf_9_1 X hG hxa q_296 dX9_tick_44 (pv_N cn_N _ _ _ hxa) (fun a13 h13 r13 => ?_)
          refine gf_3_3 X hG h13 q_175 dX9_tick_47 (fun x14 r14 => ?_)
          have g14 := cI_rng x14
          exact ret _ _ _ _ x14 _ hG ⟨Or.inr ⟨x11.toInt.toNat, by omega, rfl⟩, trivial⟩ dX9_tick_50
        · refine lv_aload_n X.1 X.2.1 dX9_tick_30 rfl (lv_at hl 0 rfl) ?_
          refine gf_9_1 X hG hxa q_296 dX9_tick_31 (pv_N cn_N _ _ _ hxa) (fun a15 h15 r15 => ?_)
          have e15 := pv_rd r15 ((tk_x ha hv hxa 1).trans fnw)
          cases e15
          refine k_cVv X hG (e_X3_pass l D cy τ (tk_s hs ha hv) h15 (tk_n ha hv fz) (by omega)) h15 rfl yv_X3_pass q_674 ⟨rfl, rfl⟩ ⟨Nat.le_of_ble_eq_true rfl, Nat.le_of_ble_eq_true rfl⟩ rfl hl.1 rfl (Nat.le_of_ble_eq_true rfl) ⟨Nat.zero_le _, Nat.zero_le _⟩ dX9_tick_34 (fun u18 H locs hG po16 => ?_)
          rw [po16, tk_1] at hG
          refine n_inc X (fun z20 => [(3, .int z20), (0, .ref xa), (1, .int x901), (2, .int x2)]) dX9_tick_37 hl (k := 3) rfl (by decide) (by decide) (by omega) (by omega) (by decide) (fun _ => rfl) (fun x19 ls t19 hl => ?_)
          have hl : lv_has ls 4 [(3, .int x19), (0, .ref xa), (1, .int x901), (2, .int x2)] := hl
          refine lv_goto (tgt := 25) X.1 X.2.1 dX9_tick_40 (by decide) ?_
          exact ih25 _ _ _ x19 (by omega) (by omega) (by rw [show x19.toInt.toNat = x11.toInt.toNat + 1 by omega]; exact hG) (lv_sub hl [1, 2, 3, 0] rfl)
    exact J25 _ _ _ _ x10 (by omega) (Nat.lt_succ_self _) (by rw [show x10.toInt.toNat = 0 by omega]; exact tk_0 ha hv fz hG) (lv_sub hl [2, 3, 1, 0] rfl)
  · refine lv_iload_n X.1 X.2.1 dX9_tick_10 rfl (lv_at hl 0 rfl) ?_
    exact ret _ _ _ _ x2 _ hG ⟨Or.inl rfl, trivial⟩ dX9_tick_11
set_option maxHeartbeats 4000000 in
set_option maxRecDepth 100000 in
theorem e_X9_draw (l : Launch) (D : va_G) (cy : Nat → ClassId) (τ : ty_T) {F : Nat → Nat → Option Value} (hs : SUP τ F) {xa : Nat} (hxa : τ xa = some (0, 9)) {sd : Int32} (fs : F xa 8 = some (.int sd)) (x901 : Int32) : KI l D cy yX9_draw cX9_draw 2 .int (rL 0) τ (pv F (cn Mx τ)) [.ref xa, .int x901] (fun r u => u = pv (fu F xa 8 (.int (lcg sd))) (cn Mx τ) ∧ (1 ≤ x901.toInt → r.toInt = (lcg sd).toInt / 65536 % x901.toInt)) := by
  refine k_metI "EdgeEchoes" rfl (by decide +kernel) (Nat.le_of_ble_eq_true rfl) (fun _ _ _ => rfl) ?_
  intro p e s m args below meth c Q ls X hG hl ret
  have hl : lv_has ls 2 [(0, .ref xa), (1, .int x901)] := hl
  have g901 := cI_rng x901
  refine lv_aload_n X.1 X.2.1 dX9_draw_0 rfl (lv_at hl 0 rfl) ?_
  refine lv_aload_n X.1 X.2.1 dX9_draw_1 rfl (lv_at hl 0 rfl) ?_
  refine gf_9_8 X hG hxa q_303 dX9_draw_2 (fun x1 r1 => ?_)
  have u1 := pv_i r1 fs
  rw [u1]
  refine lv_i2l X.1 X.2.1 dX9_draw_5 rfl ?_
  refine lv_topl (fun w2 e2 => ?_)
  refine n_ldl X q_730 (n := 1103515245) (by decide +kernel) dX9_draw_6 (fun w3 e3 t3 => ?_)
  refine lv_lmul X.1 X.2.1 dX9_draw_9 ?_
  refine lv_topl (fun w4 e4 => ?_)
  refine n_ldl X q_731 (n := 12345) (by decide +kernel) dX9_draw_10 (fun w5 e5 t5 => ?_)
  refine lv_ladd X.1 X.2.1 dX9_draw_13 ?_
  refine lv_topl (fun w6 e6 => ?_)
  refine n_ldl X q_732 (n := 2147483647) (by decide +kernel) dX9_draw_14 (fun w7 e7 t7 => ?_)
  refine lv_land X.1 X.2.1 dX9_draw_17 ?_
  refine lv_topl (fun w8 e8 => ?_)
  refine lv_l2i X.1 X.2.1 dX9_draw_18 rfl ?_
  refine lv_topi (fun x9 e9 => ?_)
  have ex : x9 = lcg sd := by rw [e9, e8, e7, e6, e5, e4, e3, e2]; rfl
  rw [ex]
  have lg := lcg_0 (v := sd)
  refine pg_9_8 X hG hxa q_303 dX9_draw_19 (pv (fu F xa 8 (.int (lcg sd))) (cn Mx τ)) pv_off pv_oth (pv_new (cn_F (S := [908]) _ _ _ _ hxa (ty_in (n := 908) rfl) (ty_rno rfl))) (fun H locs hG => ?_)
  refine lv_iload_n X.1 X.2.1 dX9_draw_22 rfl (lv_at hl 1 rfl) ?_
  refine n_ic X dX9_draw_23 (by decide) (by decide) (fun x10 t10 => ?_)
  refine n_icmp_ge (tgt := 31) X dX9_draw_24 (by decide) (fun c11 => ?_) (fun c11 => ?_)
  · refine lv_aload_n X.1 X.2.1 dX9_draw_31 rfl (lv_at hl 0 rfl) ?_
    refine gf_9_8 X hG hxa q_303 dX9_draw_32 (fun x12 r12 => ?_)
    have u12 := pv_i r12 fu_at
    rw [u12]
    refine n_ldcw X q_733 (n := 65536) (by decide +kernel) dX9_draw_35 (fun x13 t13 => ?_)
    refine n_div X dX9_draw_38 (by omega) (by omega) (fun x14 t14 => ?_)
    rw [t13] at t14
    refine lv_iload_n X.1 X.2.1 dX9_draw_39 rfl (lv_at hl 1 rfl) ?_
    refine n_rem X dX9_draw_40 (by omega) (by omega) (fun x15 t15 => ?_)
    exact ret _ _ _ _ x15 _ hG ⟨rfl, fun _ => by rw [t15.2.2, t14]⟩ dX9_draw_41
  · refine n_ic X dX9_draw_27 (by decide) (by decide) (fun x16 t16 => ?_)
    refine lv_goto (tgt := 41) X.1 X.2.1 dX9_draw_28 (by decide) ?_
    exact ret _ _ _ _ x16 _ hG ⟨rfl, fun q => absurd q (by omega)⟩ dX9_draw_41
set_option maxHeartbeats 4000000 in
set_option maxRecDepth 100000 in
theorem e_X9_driftOnce (l : Launch) (D : va_G) (cy : Nat → ClassId) (τ : ty_T) {F : Nat → Nat → Option Value} (hs : SUP τ F) {xa nw wn N z : Nat} (hxa : τ xa = some (0, 9)) (hnw : τ nw = some (0, 3)) (hwn : τ wn = some (0, 8)) (fnw : F xa 1 = some (.ref nw)) (fwn : F nw 0 = some (.ref wn)) (fN : F wn 7 = some (.int (nI N))) (hN72 : N ≤ 72) {sd : Int32} (fs : F xa 8 = some (.int sd)) (fz : F nw 3 = some (.int (nI z))) (hz : z < 1000000) : KV l D cy yX9_driftOnce cX9_driftOnce 3 (rL 5) τ (pv F (cn Mx τ)) [.ref xa] (fun u => u = pv (fu (fu F xa 8 (.int (dr1 N sd))) nw 3 (.int (nI (z + 1)))) (cn Mx τ)) := by
  refine k_metV "EdgeEchoes" rfl (by decide +kernel) (Nat.le_of_ble_eq_true rfl) ?_
  intro p e s m args below meth c Q ls X hG hl ret
  have hl : lv_has ls 3 [(0, .ref xa)] := hl
  have eN : (nI N).toInt = (N : Int) := cI_nI (by omega)
  have wx : nw ≠ xa := fun q => by rw [q, hxa] at hnw; cases hnw
  have vx : wn ≠ xa := fun q => by rw [q, hxa] at hwn; cases hwn
  have F8 : ∀ {v : Value} {j : Nat}, j ≠ 8 → fu F xa 8 v xa j = F xa j := fun h => fu_j h
  have hN : ty_N τ (pv (F) (cn Mx τ)) := pv_N cn_N
  have hR : ty_Rg Mx τ (pv (F) (cn Mx τ)) := pv_R cn_R
  have hs2 := sup_fu hs (x := .int (lcg sd)) hxa (j := 8) (by decide)
  have hs3 := sup_fu hs (x := .int (lcg (lcg sd))) hxa (j := 8) (by decide)
  have hN2 : ty_N τ (pv (fu F xa 8 (.int (lcg sd))) (cn Mx τ)) := pv_N cn_N
  have hR2 : ty_Rg Mx τ (pv (fu F xa 8 (.int (lcg sd))) (cn Mx τ)) := pv_R cn_R
  have hF2 : ty_Wf Mx τ (pv (fu F xa 8 (.int (lcg sd))) (cn Mx τ)) [812, 5000] := sup_F hs2 (by decide)
  have hN3 : ty_N τ (pv (fu F xa 8 (.int (lcg (lcg sd)))) (cn Mx τ)) := pv_N cn_N
  have hR3 : ty_Rg Mx τ (pv (fu F xa 8 (.int (lcg (lcg sd)))) (cn Mx τ)) := pv_R cn_R
  have hF3 : ty_Wf Mx τ (pv (fu F xa 8 (.int (lcg (lcg sd)))) (cn Mx τ)) [812, 5000] := sup_F hs3 (by decide)
  refine lv_aload_n X.1 X.2.1 dX9_driftOnce_0 rfl (lv_at hl 0 rfl) ?_
  refine n_bp X dX9_driftOnce_1 (by decide) (by decide) (fun x1 t1 => ?_)
  refine k_cVi X hG (e_X9_draw l D cy τ hs hxa fs x1) hxa rfl yv_X9_draw q_726 ⟨rfl, rfl⟩ ⟨Nat.le_of_ble_eq_true rfl, Nat.le_of_ble_eq_true rfl⟩ rfl hl.1 rfl (Nat.le_of_ble_eq_true rfl) ⟨Nat.zero_le _, Nat.zero_le _⟩ dX9_driftOnce_3 (fun x3 u4 H locs hG po2 => ?_)
  obtain ⟨eu4, po2⟩ := po2
  rw [eu4] at hG
  have pc := po2 (by omega)
  rw [t1] at pc
  have g3 := cI_rng x3
  refine lv_istore_n (lv' := [(1, .int x3), (0, .ref xa)]) X.1 X.2.1 dX9_driftOnce_6 rfl hl (by decide) rfl (fun ls hl => ?_)
  refine lv_iload_n X.1 X.2.1 dX9_driftOnce_7 rfl (lv_at hl 0 rfl) ?_
  refine n_ic X dX9_driftOnce_8 (by decide) (by decide) (fun x5 t5 => ?_)
  refine n_icmp_gt (tgt := 26) X dX9_driftOnce_9 (by decide) (fun c6 => ?_) (fun c6 => ?_)
  · refine lv_iload_n X.1 X.2.1 dX9_driftOnce_26 rfl (lv_at hl 0 rfl) ?_
    refine n_ic X dX9_driftOnce_27 (by decide) (by decide) (fun x7 t7 => ?_)
    refine n_icmp_ne (tgt := 45) X dX9_driftOnce_28 (by decide) (fun c8 => ?_) (fun c8 => ?_)
    · refine lv_iload_n X.1 X.2.1 dX9_driftOnce_45 rfl (lv_at hl 0 rfl) ?_
      refine n_ic X dX9_driftOnce_46 (by decide) (by decide) (fun x9 t9 => ?_)
      refine n_icmp_ne (tgt := 129) X dX9_driftOnce_47 (by decide) (fun c10 => ?_) (fun c10 => ?_)
      · refine lv_aload_n X.1 X.2.1 dX9_driftOnce_129 rfl (lv_at hl 1 rfl) ?_
        refine gf_9_1 X hG hxa q_296 dX9_driftOnce_130 (hN2 _ _ _ hxa) (fun a11 h11 r11 => ?_)
        have e11 := pv_rd r11 ((F8 (by decide)).trans fnw)
        cases e11
        refine k_cVv X hG (e_X3_pass l D cy τ hs2 h11 ((fu_b wx).trans fz) hz) h11 rfl yv_X3_pass q_674 ⟨rfl, rfl⟩ ⟨Nat.le_of_ble_eq_true rfl, Nat.le_of_ble_eq_true rfl⟩ rfl hl.1 rfl (Nat.le_of_ble_eq_true rfl) ⟨Nat.zero_le _, Nat.zero_le _⟩ dX9_driftOnce_133 (fun u14 H locs hG po12 => ?_)
        rw [po12] at hG
        exact ret _ _ _ _ _ hG (by rw [show dr1 N sd = lcg sd from if_neg (by omega)]) dX9_driftOnce_136
      · refine lv_aload_n X.1 X.2.1 dX9_driftOnce_50 rfl (lv_at hl 1 rfl) ?_
        refine gf_9_1 X hG hxa q_296 dX9_driftOnce_51 (hN2 _ _ _ hxa) (fun a15 h15 r15 => ?_)
        have e15 := pv_rd r15 ((F8 (by decide)).trans fnw)
        cases e15
        refine gf_3_0 X hG h15 q_165 dX9_driftOnce_54 (hN2 _ _ _ h15) (fun a16 h16 r16 => ?_)
        have e16 := pv_rd r16 ((fu_b wx).trans fwn)
        cases e16
        refine gf_8_7 X hG h16 q_82 dX9_driftOnce_57 (fun x17 r17 => ?_)
        have u17 := pv_i r17 ((fu_b vx).trans fN)
        subst u17
        refine n_ic X dX9_driftOnce_60 (by decide) (by decide) (fun x18 t18 => ?_)
        refine n_icmp_le (tgt := 129) X dX9_driftOnce_61 (by decide) (fun c19 => ?_) (fun c19 => ?_)
        · refine lv_aload_n X.1 X.2.1 dX9_driftOnce_129 rfl (lv_at hl 1 rfl) ?_
          refine gf_9_1 X hG hxa q_296 dX9_driftOnce_130 (hN2 _ _ _ hxa) (fun a20 h20 r20 => ?_)
          have e20 := pv_rd r20 ((F8 (by decide)).trans fnw)
          cases e20
          refine k_cVv X hG (e_X3_pass l D cy τ hs2 h20 ((fu_b wx).trans fz) hz) h20 rfl yv_X3_pass q_674 ⟨rfl, rfl⟩ ⟨Nat.le_of_ble_eq_true rfl, Nat.le_of_ble_eq_true rfl⟩ rfl hl.1 rfl (Nat.le_of_ble_eq_true rfl) ⟨Nat.zero_le _, Nat.zero_le _⟩ dX9_driftOnce_133 (fun u23 H locs hG po21 => ?_)
          rw [po21] at hG
          exact ret _ _ _ _ _ hG (by rw [show dr1 N sd = lcg sd from if_neg (by omega)]) dX9_driftOnce_136
        · refine lv_aload_n X.1 X.2.1 dX9_driftOnce_64 rfl (lv_at hl 1 rfl) ?_
          refine lv_aload_n X.1 X.2.1 dX9_driftOnce_65 rfl (lv_at hl 1 rfl) ?_
          refine gf_9_1 X hG hxa q_296 dX9_driftOnce_66 (hN2 _ _ _ hxa) (fun a24 h24 r24 => ?_)
          have e24 := pv_rd r24 ((F8 (by decide)).trans fnw)
          cases e24
          refine gf_3_0 X hG h24 q_165 dX9_driftOnce_69 (hN2 _ _ _ h24) (fun a25 h25 r25 => ?_)
          have e25 := pv_rd r25 ((fu_b wx).trans fwn)
          cases e25
          refine gf_8_7 X hG h25 q_82 dX9_driftOnce_72 (fun x26 r26 => ?_)
          have u26 := pv_i r26 ((fu_b vx).trans fN)
          subst u26
          refine n_ic X dX9_driftOnce_75 (by decide) (by decide) (fun x27 t27 => ?_)
          refine n_sub X dX9_driftOnce_76 (by omega) (by omega) (fun x28 t28 => ?_)
          refine k_cVi X hG (e_X9_draw l D cy τ hs2 hxa fu_at x28) hxa rfl yv_X9_draw q_726 ⟨rfl, rfl⟩ ⟨Nat.le_of_ble_eq_true rfl, Nat.le_of_ble_eq_true rfl⟩ rfl hl.1 rfl (Nat.le_of_ble_eq_true rfl) ⟨Nat.zero_le _, Nat.zero_le _⟩ dX9_driftOnce_77 (fun x30 u31 H locs hG po29 => ?_)
          obtain ⟨eu31, po29⟩ := po29
          rw [eu31, fu_f2] at hG
          have g30 := cI_rng x30
          refine n_ic X dX9_driftOnce_80 (by decide) (by decide) (fun x32 t32 => ?_)
          refine lv_iadd X.1 X.2.1 dX9_driftOnce_81 ?_
          refine n_any (fun x33 => ?_)
          refine lv_istore_n (lv' := [(2, .int x33), (1, .int x3), (0, .ref xa)]) X.1 X.2.1 dX9_driftOnce_82 rfl hl (by decide) rfl (fun ls hl => ?_)
          refine lv_aload_n X.1 X.2.1 dX9_driftOnce_83 rfl (lv_at hl 2 rfl) ?_
          refine gf_9_1 X hG hxa q_296 dX9_driftOnce_84 (hN3 _ _ _ hxa) (fun a34 h34 r34 => ?_)
          refine gf_3_0 X hG h34 q_165 dX9_driftOnce_87 (hN3 _ _ _ h34) (fun a35 h35 r35 => ?_)
          refine lv_iload_n X.1 X.2.1 dX9_driftOnce_90 rfl (lv_at hl 0 rfl) ?_
          refine k_cVi X hG (c_X8_hasPlace l D cy τ _ hN3 hR3 (ty_Wf.sub (S' := []) hF3 (by decide)) h35 x33) h35 rfl yv_X8_hasPlace q_624 ⟨rfl, rfl⟩ ⟨Nat.le_of_ble_eq_true rfl, Nat.le_of_ble_eq_true rfl⟩ rfl hl.1 rfl (Nat.le_of_ble_eq_true rfl) ⟨Nat.zero_le _, Nat.zero_le _⟩ dX9_driftOnce_91 (fun x37 u38 H locs hG po36 => ?_)
          obtain ⟨eu38, po36⟩ := po36
          rw [eu38] at hG
          refine n_if_eq (tgt := 129) X dX9_driftOnce_94 (by decide) (fun c39 => ?_) (fun c39 => ?_)
          · refine lv_aload_n X.1 X.2.1 dX9_driftOnce_129 rfl (lv_at hl 2 rfl) ?_
            refine gf_9_1 X hG hxa q_296 dX9_driftOnce_130 (hN3 _ _ _ hxa) (fun a40 h40 r40 => ?_)
            have e40 := pv_rd r40 ((F8 (by decide)).trans fnw)
            cases e40
            refine k_cVv X hG (e_X3_pass l D cy τ hs3 h40 ((fu_b wx).trans fz) hz) h40 rfl yv_X3_pass q_674 ⟨rfl, rfl⟩ ⟨Nat.le_of_ble_eq_true rfl, Nat.le_of_ble_eq_true rfl⟩ rfl hl.1 rfl (Nat.le_of_ble_eq_true rfl) ⟨Nat.zero_le _, Nat.zero_le _⟩ dX9_driftOnce_133 (fun u43 H locs hG po41 => ?_)
            rw [po41] at hG
            exact ret _ _ _ _ _ hG (by rw [show dr1 N sd = lcg (lcg sd) from if_pos (by omega)]) dX9_driftOnce_136
          · refine lv_aload_n X.1 X.2.1 dX9_driftOnce_97 rfl (lv_at hl 2 rfl) ?_
            refine gf_9_1 X hG hxa q_296 dX9_driftOnce_98 (hN3 _ _ _ hxa) (fun a44 h44 r44 => ?_)
            refine gf_3_0 X hG h44 q_165 dX9_driftOnce_101 (hN3 _ _ _ h44) (fun a45 h45 r45 => ?_)
            refine gf_8_5 X hG h45 q_77 dX9_driftOnce_104 (hN3 _ _ _ h45) (fun a46 h46 r46 => ?_)
            refine lv_iload_n X.1 X.2.1 dX9_driftOnce_107 rfl (lv_at hl 0 rfl) ?_
            refine lv_aload_n X.1 X.2.1 dX9_driftOnce_108 rfl (lv_at hl 2 rfl) ?_
            refine gf_9_1 X hG hxa q_296 dX9_driftOnce_109 (hN3 _ _ _ hxa) (fun a47 h47 r47 => ?_)
            refine gf_3_0 X hG h47 q_165 dX9_driftOnce_112 (hN3 _ _ _ h47) (fun a48 h48 r48 => ?_)
            refine gf_8_5 X hG h48 q_77 dX9_driftOnce_115 (hN3 _ _ _ h48) (fun a49 h49 r49 => ?_)
            refine lv_iload_n X.1 X.2.1 dX9_driftOnce_118 rfl (lv_at hl 0 rfl) ?_
            refine tg_iald X hG h49 rfl (cI_in (n := 72) (by omega)) dX9_driftOnce_119 (fun x50 r50 => ?_)
            have J128 : ∀ (H : Heap) (locs : List Loc) (ls : Array Slot) (x51 : Int32), (0 ≤ x51.toInt ∧ x51.toInt ≤ 1) → TG D cy τ (pv (fu F xa 8 (.int (lcg (lcg sd)))) (cn Mx τ)) (ty_d τ) s.heap H locs → lv_has ls 3 [(0, .ref xa), (1, .int x3), (2, .int x33)] → W p l e (rL 5) s m args below meth c H locs 0 0 Q (F0 m 128 ls [.int x51, .int x33, .ref a46]) := by
              intro H locs ls x51 bx51 hG hl
              refine tg_iasf X hG h46 rfl (cI_in (n := 72) (by omega)) dX9_driftOnce_128 (hF3 _ _ _ _ h46 (ty_in (n := 5000) rfl) (ty_rno rfl)) (fun H locs hG => ?_)
              refine lv_aload_n X.1 X.2.1 dX9_driftOnce_129 rfl (lv_at hl 0 rfl) ?_
              refine gf_9_1 X hG hxa q_296 dX9_driftOnce_130 (hN3 _ _ _ hxa) (fun a52 h52 r52 => ?_)
              have e52 := pv_rd r52 ((F8 (by decide)).trans fnw)
              cases e52
              refine k_cVv X hG (e_X3_pass l D cy τ hs3 h52 ((fu_b wx).trans fz) hz) h52 rfl yv_X3_pass q_674 ⟨rfl, rfl⟩ ⟨Nat.le_of_ble_eq_true rfl, Nat.le_of_ble_eq_true rfl⟩ rfl hl.1 rfl (Nat.le_of_ble_eq_true rfl) ⟨Nat.zero_le _, Nat.zero_le _⟩ dX9_driftOnce_133 (fun u55 H locs hG po53 => ?_)
              rw [po53] at hG
              exact ret _ _ _ _ _ hG (by rw [show dr1 N sd = lcg (lcg sd) from if_pos (by omega)]) dX9_driftOnce_136
            refine n_if_ne (tgt := 127) X dX9_driftOnce_120 (by decide) (fun c56 => ?_) (fun c56 => ?_)
            · refine n_ic X dX9_driftOnce_127 (by decide) (by decide) (fun x57 t57 => ?_)
              exact J128 _ _ _ x57 (by omega) hG (lv_sub hl [2, 1, 0] rfl)
            · refine n_ic X dX9_driftOnce_123 (by decide) (by decide) (fun x58 t58 => ?_)
              refine lv_goto (tgt := 128) X.1 X.2.1 dX9_driftOnce_124 (by decide) ?_
              exact J128 _ _ _ x58 (by omega) hG (lv_sub hl [2, 1, 0] rfl)
    · refine lv_aload_n X.1 X.2.1 dX9_driftOnce_31 rfl (lv_at hl 1 rfl) ?_
      refine gf_9_1 X hG hxa q_296 dX9_driftOnce_32 (hN2 _ _ _ hxa) (fun a59 h59 r59 => ?_)
      refine gf_3_0 X hG h59 q_165 dX9_driftOnce_35 (hN2 _ _ _ h59) (fun a60 h60 r60 => ?_)
      refine n_ic X dX9_driftOnce_38 (by decide) (by decide) (fun x61 t61 => ?_)
      refine pf_8_12 X hG h60 q_97 (by omega) dX9_driftOnce_39 (hF2 _ _ _ _ h60 (ty_in (n := 812) rfl) (ty_rno rfl)) (fun H locs hG => ?_)
      refine lv_goto (tgt := 129) X.1 X.2.1 dX9_driftOnce_42 (by decide) ?_
      refine lv_aload_n X.1 X.2.1 dX9_driftOnce_129 rfl (lv_at hl 1 rfl) ?_
      refine gf_9_1 X hG hxa q_296 dX9_driftOnce_130 (hN2 _ _ _ hxa) (fun a62 h62 r62 => ?_)
      have e62 := pv_rd r62 ((F8 (by decide)).trans fnw)
      cases e62
      refine k_cVv X hG (e_X3_pass l D cy τ hs2 h62 ((fu_b wx).trans fz) hz) h62 rfl yv_X3_pass q_674 ⟨rfl, rfl⟩ ⟨Nat.le_of_ble_eq_true rfl, Nat.le_of_ble_eq_true rfl⟩ rfl hl.1 rfl (Nat.le_of_ble_eq_true rfl) ⟨Nat.zero_le _, Nat.zero_le _⟩ dX9_driftOnce_133 (fun u65 H locs hG po63 => ?_)
      rw [po63] at hG
      exact ret _ _ _ _ _ hG (by rw [show dr1 N sd = lcg sd from if_neg (by omega)]) dX9_driftOnce_136
  · refine lv_aload_n X.1 X.2.1 dX9_driftOnce_12 rfl (lv_at hl 1 rfl) ?_
    refine gf_9_1 X hG hxa q_296 dX9_driftOnce_13 (hN2 _ _ _ hxa) (fun a66 h66 r66 => ?_)
    refine gf_3_0 X hG h66 q_165 dX9_driftOnce_16 (hN2 _ _ _ h66) (fun a67 h67 r67 => ?_)
    refine n_ic X dX9_driftOnce_19 (by decide) (by decide) (fun x68 t68 => ?_)
    refine pf_8_12 X hG h67 q_97 (by omega) dX9_driftOnce_20 (hF2 _ _ _ _ h67 (ty_in (n := 812) rfl) (ty_rno rfl)) (fun H locs hG => ?_)
    refine lv_goto (tgt := 129) X.1 X.2.1 dX9_driftOnce_23 (by decide) ?_
    refine lv_aload_n X.1 X.2.1 dX9_driftOnce_129 rfl (lv_at hl 1 rfl) ?_
    refine gf_9_1 X hG hxa q_296 dX9_driftOnce_130 (hN2 _ _ _ hxa) (fun a69 h69 r69 => ?_)
    have e69 := pv_rd r69 ((F8 (by decide)).trans fnw)
    cases e69
    refine k_cVv X hG (e_X3_pass l D cy τ hs2 h69 ((fu_b wx).trans fz) hz) h69 rfl yv_X3_pass q_674 ⟨rfl, rfl⟩ ⟨Nat.le_of_ble_eq_true rfl, Nat.le_of_ble_eq_true rfl⟩ rfl hl.1 rfl (Nat.le_of_ble_eq_true rfl) ⟨Nat.zero_le _, Nat.zero_le _⟩ dX9_driftOnce_133 (fun u72 H locs hG po70 => ?_)
    rw [po70] at hG
    exact ret _ _ _ _ _ hG (by rw [show dr1 N sd = lcg sd from if_neg (by omega)]) dX9_driftOnce_136
/-- remembered, and i times by draws -/
def dfF (F : Nat → Nat → Option Value) (xa pa nw : Nat) (ln wl : Nat → Nat) (nx cu N : Nat) (bb : Bool) (z : Nat) (sd : Int32) (i : Nat) : Nat → Nat → Option Value := fu (fu (remF F pa ln wl nx cu N bb z) xa 8 (.int (drN N i sd))) nw 3 (.int (nI (z + i)))
theorem fu_sw {F : Nat → Nat → Option Value} {a b i j : Nat} {x y : Value} (h : a ≠ b) : fu (fu F a i x) b j y = fu (fu F b j y) a i x := by
  funext c k
  by_cases e1 : c = a ∧ k = i
  · obtain ⟨rfl, rfl⟩ := e1
    rw [fu_b h, fu_at, fu_at]
  · rw [fu_ne e1]
    by_cases e2 : c = b ∧ k = j
    · obtain ⟨rfl, rfl⟩ := e2
      rw [fu_at, fu_at]
    · rw [fu_ne e2, fu_ne e1, fu_ne e2]
section DF
variable {τ : ty_T} {F : Nat → Nat → Option Value} {xa nw wn pa lz : Nat} {ln wl : Nat → Nat} {cu nx N B z i : Nat} {bb : Bool} {sd : Int32} {D : va_G} {cy : Nat → ClassId} {A : Nat → Prop} {H0 H : Heap} {locs : List Loc}
theorem df_g (ha : AG τ F xa nw wn pa lz ln wl) (hxa : τ xa = some (0, 9)) : xa ≠ nw := fun q => by have r := ha.1; rw [← q, hxa] at r; cases r
theorem df_s (hs : SUP τ F) (ha : AG τ F xa nw wn pa lz ln wl) (hv : VG F nw wn pa ln wl cu nx N bb B) (hxa : τ xa = some (0, 9)) : SUP τ (dfF F xa pa nw ln wl nx cu N bb z sd i) := sup_fu (sup_fu (sup_rem hs ha hv) hxa (by decide)) ha.1 (by decide)
theorem df_x (ha : AG τ F xa nw wn pa lz ln wl) (hv : VG F nw wn pa ln wl cu nx N bb B) (hxa : τ xa = some (0, 9)) {j : Nat} (hj : j ≠ 8) : dfF F xa pa nw ln wl nx cu N bb z sd i xa j = F xa j := by
  unfold dfF
  rw [fu_b (df_g ha hxa), fu_j hj]
  exact rem_x ha hv hxa j
theorem df_8 (ha : AG τ F xa nw wn pa lz ln wl) (hxa : τ xa = some (0, 9)) : dfF F xa pa nw ln wl nx cu N bb z sd i xa 8 = some (.int (drN N i sd)) := by
  unfold dfF
  rw [fu_b (df_g ha hxa), fu_at]
theorem df_n : dfF F xa pa nw ln wl nx cu N bb z sd i nw 3 = some (.int (nI (z + i))) := fu_at
theorem df_0 (ha : AG τ F xa nw wn pa lz ln wl) (hv : VG F nw wn pa ln wl cu nx N bb B) (hxa : τ xa = some (0, 9)) : dfF F xa pa nw ln wl nx cu N bb z sd i nw 0 = some (.ref wn) := by
  unfold dfF
  rw [fu_j (by decide), fu_b (Ne.symm (df_g ha hxa))]
  exact rem_0 ha hv
theorem df_w (ha : AG τ F xa nw wn pa lz ln wl) (hv : VG F nw wn pa ln wl cu nx N bb B) (hxa : τ xa = some (0, 9)) : dfF F xa pa nw ln wl nx cu N bb z sd i wn 7 = some (.int (nI N)) := by
  have g1 : wn ≠ xa := fun q => by have r := ha.2.1; rw [q, hxa] at r; cases r
  have g2 : wn ≠ nw := fun q => by have r := ha.2.1; rw [q, ha.1] at r; cases r
  unfold dfF
  rw [fu_b g2, fu_b g1]
  exact rem_w ha hv
theorem df_1 (ha : AG τ F xa nw wn pa lz ln wl) (hxa : τ xa = some (0, 9)) : fu (fu (dfF F xa pa nw ln wl nx cu N bb z sd i) xa 8 (.int (dr1 N (drN N i sd)))) nw 3 (.int (nI (z + i + 1))) = dfF F xa pa nw ln wl nx cu N bb z sd (i + 1) := by
  unfold dfF
  rw [fu_sw (Ne.symm (df_g ha hxa)), fu_f2, fu_f2]
  rfl
theorem df_st (ha : AG τ F xa nw wn pa lz ln wl) (hv : VG F nw wn pa ln wl cu nx N bb B) (hxa : τ xa = some (0, 9)) (fs : F xa 8 = some (.int sd)) (fz : F nw 3 = some (.int (nI z))) (hG : TG D cy τ (pv (remF F pa ln wl nx cu N bb z) (cn Mx τ)) A H0 H locs) : TG D cy τ (pv (dfF F xa pa nw ln wl nx cu N bb z sd 0) (cn Mx τ)) A H0 H locs := hG.mono (fun a t j v _ h => ⟨h.1, fun y hy => h.2 y (by
  by_cases e : a = nw ∧ j = 3
  · obtain ⟨rfl, rfl⟩ := e
    rw [df_n] at hy
    rw [rem_n ha hv fz]
    exact hy
  · by_cases e2 : a = xa ∧ j = 8
    · obtain ⟨rfl, rfl⟩ := e2
      rw [df_8 ha hxa] at hy
      rw [rem_x ha hv hxa, fs]
      exact hy
    · unfold dfF at hy
      rw [fu_ne e, fu_ne e2] at hy
      exact hy)⟩)
end DF
set_option maxHeartbeats 4000000 in
set_option maxRecDepth 100000 in
theorem e_X9_drift (l : Launch) (D : va_G) (cy : Nat → ClassId) (τ : ty_T) {F : Nat → Nat → Option Value} (hs : SUP τ F) {xa nw wn pa lz : Nat} {ln wl : Nat → Nat} {cu nx N B : Nat} {bb : Bool} (hxa : τ xa = some (0, 9)) (ha : AG τ F xa nw wn pa lz ln wl) (hv : VG F nw wn pa ln wl cu nx N bb B) {z : Nat} (fz : F nw 3 = some (.int (nI z))) (x901 : Int32) (hz : z ≤ 90000) {sd : Int32} (fs : F xa 8 = some (.int sd)) : KI l D cy yX9_drift cX9_drift 4 .int (rL 6) τ (pv F (cn Mx τ)) [.ref xa, .int x901] (fun r u => (okN bb x901 → u = pv (dfF F xa pa nw ln wl nx cu N bb z sd x901.toInt.toNat) (cn Mx τ)) ∧ (¬ okN bb x901 → u = pv F (cn Mx τ))) := by
  refine k_metI "EdgeEchoes" rfl (by decide +kernel) (Nat.le_of_ble_eq_true rfl) (fun _ _ _ => rfl) ?_
  intro p e s m args below meth c Q ls X hG hl ret
  have hl : lv_has ls 4 [(0, .ref xa), (1, .int x901)] := hl
  obtain ⟨hnw, hwn, hpa, hlz, hk, fnw, fpa, fwn, flz, fk⟩ := id ha
  have hN : ty_N τ (pv (F) (cn Mx τ)) := pv_N cn_N
  have hR : ty_Rg Mx τ (pv (F) (cn Mx τ)) := pv_R cn_R
  have hF : ty_Wf Mx τ (pv F (cn Mx τ)) [106, 806, 808, 809, 810, 811, 812, 5000, 6005] := sup_F hs (by decide)
  have hs2 := sup_rem hs ha hv (z := z)
  obtain ⟨ρ2, eρ⟩ : ∃ r : ty_R, r = pv (remF F pa ln wl nx cu N bb z) (cn Mx τ) := ⟨_, rfl⟩
  have hN2 : ty_N τ ρ2 := by rw [eρ]; exact pv_N cn_N
  have hR2 : ty_Rg Mx τ ρ2 := by rw [eρ]; exact pv_R cn_R
  have hF2 : ty_Wf Mx τ ρ2 [106, 806, 808, 809, 810, 811, 812, 5000, 6005] := by rw [eρ]; exact sup_F hs2 (by decide)
  have g901 := cI_rng x901
  refine lv_aload_n X.1 X.2.1 dX9_drift_0 rfl (lv_at hl 0 rfl) ?_
  refine lv_iload_n X.1 X.2.1 dX9_drift_1 rfl (lv_at hl 1 rfl) ?_
  refine k_cVi X hG (e_X9_refusalToPass l D cy τ hs hxa fnw hv.2.2.2.2.2.1.2.1 fz hz x901) hxa rfl yv_X9_refusalToPass q_662 ⟨rfl, rfl⟩ ⟨Nat.le_of_ble_eq_true rfl, Nat.le_of_ble_eq_true rfl⟩ rfl hl.1 rfl (Nat.le_of_ble_eq_true rfl) ⟨Nat.zero_le _, Nat.zero_le _⟩ dX9_drift_2 (fun x2 u3 H locs hG po1 => ?_)
  obtain ⟨eu3, po1⟩ := po1
  rw [eu3] at hG
  have g2 := cI_rng x2
  refine lv_istore_n (lv' := [(2, .int x2), (0, .ref xa), (1, .int x901)]) X.1 X.2.1 dX9_drift_5 rfl hl (by decide) rfl (fun ls hl => ?_)
  refine lv_iload_n X.1 X.2.1 dX9_drift_6 rfl (lv_at hl 0 rfl) ?_
  refine n_if_eq (tgt := 12) X dX9_drift_7 (by decide) (fun c4 => ?_) (fun c4 => ?_)
  · have ok := (po1.mp c4).1
    refine lv_aload_n X.1 X.2.1 dX9_drift_12 rfl (lv_at hl 1 rfl) ?_
    refine gf_9_3 X hG hxa q_298 dX9_drift_13 (hN _ _ _ hxa) (fun a5 h5 r5 => ?_)
    refine lv_aload_n X.1 X.2.1 dX9_drift_16 rfl (lv_at hl 1 rfl) ?_
    refine gf_9_1 X hG hxa q_296 dX9_drift_17 (hN _ _ _ hxa) (fun a6 h6 r6 => ?_)
    have e5 := pv_rd r5 fpa
    cases e5
    have e6 := pv_rd r6 fnw
    cases e6
    refine k_cVv X hG (e_X4_remember l D cy τ hs ha hv fz) h5 rfl yv_X4_remember q_668 ⟨rfl, rfl⟩ ⟨Nat.le_of_ble_eq_true rfl, Nat.le_of_ble_eq_true rfl⟩ rfl hl.1 rfl (Nat.le_of_ble_eq_true rfl) ⟨Nat.zero_le _, Nat.zero_le _⟩ dX9_drift_20 (fun u9 H locs hG po7 => ?_)
    rw [po7] at hG
    refine n_ic X dX9_drift_23 (by decide) (by decide) (fun x10 t10 => ?_)
    refine lv_istore_n (lv' := [(3, .int x10), (2, .int x2), (0, .ref xa), (1, .int x901)]) X.1 X.2.1 dX9_drift_24 rfl hl (by decide) rfl (fun ls hl => ?_)
    have J25 : ∀ (n : Nat) (H : Heap) (locs : List Loc) (ls : Array Slot) (x11 : Int32), (0 ≤ x11.toInt ∧ x11.toInt ≤ x901.toInt) → (2147483647 - x11.toInt).toNat < n → TG D cy τ (pv (dfF F xa pa nw ln wl nx cu N bb z sd (x11.toInt).toNat) (cn Mx τ)) (ty_d τ) s.heap H locs → lv_has ls 4 [(0, .ref xa), (1, .int x901), (2, .int x2), (3, .int x11)] → W p l e (rL 6) s m args below meth c H locs 0 0 Q (F0 m 25 ls []) := by
      intro n
      induction n with
      | zero => intro H locs ls x11 bx11 hm25 hG hl; exact absurd hm25 (Nat.not_lt_zero _)
      | succ n ih25 =>
        intro H locs ls x11 bx11 hm25 hG hl
        have gx11 := cI_rng x11
        refine lv_iload_n X.1 X.2.1 dX9_drift_25 rfl (lv_at hl 3 rfl) ?_
        refine lv_iload_n X.1 X.2.1 dX9_drift_26 rfl (lv_at hl 1 rfl) ?_
        refine n_icmp_ge (tgt := 40) X dX9_drift_27 (by decide) (fun c12 => ?_) (fun c12 => ?_)
        · refine lv_aload_n X.1 X.2.1 dX9_drift_40 rfl (lv_at hl 0 rfl) ?_
          refine gf_9_1 X hG hxa q_296 dX9_drift_41 (pv_N cn_N _ _ _ hxa) (fun a13 h13 r13 => ?_)
          refine gf_3_3 X hG h13 q_175 dX9_drift_44 (fun x14 r14 => ?_)
          have g14 := cI_rng x14
          exact ret _ _ _ _ x14 _ hG ⟨fun _ => by rw [show x901.toInt.toNat = x11.toInt.toNat by omega], fun q => absurd (po1.mp c4) q⟩ dX9_drift_47
        · refine lv_aload_n X.1 X.2.1 dX9_drift_30 rfl (lv_at hl 0 rfl) ?_
          refine k_cVv X hG (e_X9_driftOnce l D cy τ (df_s hs ha hv hxa) hxa hnw hwn ((df_x ha hv hxa (by decide)).trans fnw) (df_0 ha hv hxa) (df_w ha hv hxa) hv.2.2.1 (df_8 ha hxa) df_n (by omega)) hxa rfl yv_X9_driftOnce q_722 ⟨rfl, rfl⟩ ⟨Nat.le_of_ble_eq_true rfl, Nat.le_of_ble_eq_true rfl⟩ rfl hl.1 rfl (Nat.le_of_ble_eq_true rfl) ⟨Nat.zero_le _, Nat.zero_le _⟩ dX9_drift_31 (fun u17 H locs hG po15 => ?_)
          rw [po15, df_1 ha hxa] at hG
          refine n_inc X (fun z19 => [(3, .int z19), (0, .ref xa), (1, .int x901), (2, .int x2)]) dX9_drift_34 hl (k := 3) rfl (by decide) (by decide) (by omega) (by omega) (by decide) (fun _ => rfl) (fun x18 ls t18 hl => ?_)
          have hl : lv_has ls 4 [(3, .int x18), (0, .ref xa), (1, .int x901), (2, .int x2)] := hl
          refine lv_goto (tgt := 25) X.1 X.2.1 dX9_drift_37 (by decide) ?_
          exact ih25 _ _ _ x18 (by omega) (by omega) (by rw [show x18.toInt.toNat = x11.toInt.toNat + 1 by omega]; exact hG) (lv_sub hl [1, 2, 3, 0] rfl)
    exact J25 _ _ _ _ x10 (by omega) (Nat.lt_succ_self _) (by rw [show x10.toInt.toNat = 0 by omega]; exact df_st ha hv hxa fs fz hG) (lv_sub hl [2, 3, 1, 0] rfl)
  · refine lv_iload_n X.1 X.2.1 dX9_drift_10 rfl (lv_at hl 0 rfl) ?_
    exact ret _ _ _ _ x2 _ hG ⟨fun q => absurd (po1.mpr q) c4, fun _ => rfl⟩ dX9_drift_11
def UB (τ : ty_T) (F : Nat → Nat → Option Value) (pa nw wn nx cu N : Nat) (bb : Bool) (B : Nat) (u : ty_R) : Prop := u = pv F (cn Mx τ) ∨ ∃ k z, 1 ≤ k ∧ k ≤ cu ∧ z ≤ B ∧ u = pv (bbF F pa nw wn nx cu N bb z k) (cn Mx τ)
set_option maxHeartbeats 4000000 in
set_option maxRecDepth 100000 in
theorem e_X9_undo (l : Launch) (D : va_G) (cy : Nat → ClassId) (τ : ty_T) {F : Nat → Nat → Option Value} (hs : SUP τ F) {xa nw wn pa lz : Nat} {ln wl : Nat → Nat} {cu nx N B : Nat} {bb : Bool} (hxa : τ xa = some (0, 9)) (ha : AG τ F xa nw wn pa lz ln wl) (hv : VG F nw wn pa ln wl cu nx N bb B) (x901 : Int32) : KI l D cy yX9_undo cX9_undo 2 .int (rL 4) τ (pv F (cn Mx τ)) [.ref xa, .int x901] (fun r u => UB τ F pa nw wn nx cu N bb B u ∧ True) := by
  refine k_metI "EdgeEchoes" rfl (by decide +kernel) (Nat.le_of_ble_eq_true rfl) (fun _ _ _ => rfl) ?_
  intro p e s m args below meth c Q ls X hG hl ret
  have hl : lv_has ls 2 [(0, .ref xa), (1, .int x901)] := hl
  obtain ⟨hnw, hwn, hpa, hlz, hk, fnw, fpa, fwn, flz, fk⟩ := id ha
  obtain ⟨vc, vn, vN, f1, f2, fl0, fv⟩ := id hv
  have en : (nI nx).toInt = (nx : Int) := cI_nI (by omega)
  have ec : (nI cu).toInt = (cu : Int) := cI_nI (by omega)
  have hN : ty_N τ (pv (F) (cn Mx τ)) := pv_N cn_N
  have hR : ty_Rg Mx τ (pv (F) (cn Mx τ)) := pv_R cn_R
  have g901 := cI_rng x901
  refine lv_iload_n X.1 X.2.1 dX9_undo_0 rfl (lv_at hl 1 rfl) ?_
  refine n_ic X dX9_undo_1 (by decide) (by decide) (fun x1 t1 => ?_)
  refine n_icmp_lt (tgt := 11) X dX9_undo_2 (by decide) (fun c2 => ?_) (fun c2 => ?_)
  · refine n_ldc X q_327 (n := -1000000002) (by decide +kernel) dX9_undo_11 (fun x3 t3 => ?_)
    exact ret _ _ _ _ x3 _ hG ⟨Or.inl rfl, trivial⟩ dX9_undo_13
  · refine lv_iload_n X.1 X.2.1 dX9_undo_5 rfl (lv_at hl 1 rfl) ?_
    refine n_bp X dX9_undo_6 (by decide) (by decide) (fun x4 t4 => ?_)
    refine n_icmp_le (tgt := 14) X dX9_undo_8 (by decide) (fun c5 => ?_) (fun c5 => ?_)
    · refine lv_iload_n X.1 X.2.1 dX9_undo_14 rfl (lv_at hl 1 rfl) ?_
      refine lv_aload_n X.1 X.2.1 dX9_undo_15 rfl (lv_at hl 0 rfl) ?_
      refine gf_9_3 X hG hxa q_298 dX9_undo_16 (hN _ _ _ hxa) (fun a6 h6 r6 => ?_)
      have e6 := pv_rd r6 fpa
      cases e6
      refine gf_4_1 X hG h6 q_213 dX9_undo_19 (fun x7 r7 => ?_)
      have u7 := pv_i r7 f1
      subst u7
      refine n_icmp_le (tgt := 28) X dX9_undo_22 (by decide) (fun c8 => ?_) (fun c8 => ?_)
      · refine lv_aload_n X.1 X.2.1 dX9_undo_28 rfl (lv_at hl 0 rfl) ?_
        refine gf_9_3 X hG hxa q_298 dX9_undo_29 (hN _ _ _ hxa) (fun a9 h9 r9 => ?_)
        have e9 := pv_rd r9 fpa
        cases e9
        refine lv_aload_n X.1 X.2.1 dX9_undo_32 rfl (lv_at hl 0 rfl) ?_
        refine gf_9_1 X hG hxa q_296 dX9_undo_33 (hN _ _ _ hxa) (fun a10 h10 r10 => ?_)
        have e10 := pv_rd r10 fnw
        cases e10
        refine lv_iload_n X.1 X.2.1 dX9_undo_36 rfl (lv_at hl 1 rfl) ?_
        refine k_cVv X hG (e_X4_bringBack l D cy τ hs ha hv (k := x901.toInt.toNat) (by omega) (by omega) x901 (by omega)) h9 rfl yv_X4_bringBack q_738 ⟨rfl, rfl⟩ ⟨Nat.le_of_ble_eq_true rfl, Nat.le_of_ble_eq_true rfl⟩ rfl hl.1 rfl (Nat.le_of_ble_eq_true rfl) ⟨Nat.zero_le _, Nat.zero_le _⟩ dX9_undo_37 (fun u13 H locs hG po11 => ?_)
        obtain ⟨z, zB, po11⟩ := po11
        rw [po11] at hG
        refine lv_aload_n X.1 X.2.1 dX9_undo_40 rfl (lv_at hl 0 rfl) ?_
        refine gf_9_1 X hG hxa q_296 dX9_undo_41 (pv_N cn_N _ _ _ hxa) (fun a14 h14 r14 => ?_)
        refine gf_3_3 X hG h14 q_175 dX9_undo_44 (fun x15 r15 => ?_)
        have g15 := cI_rng x15
        exact ret _ _ _ _ x15 _ hG ⟨Or.inr ⟨_, z, by omega, by omega, zB, rfl⟩, trivial⟩ dX9_undo_47
      · refine n_ldc X q_666 (n := -1000000003) (by decide +kernel) dX9_undo_25 (fun x16 t16 => ?_)
        exact ret _ _ _ _ x16 _ hG ⟨Or.inl rfl, trivial⟩ dX9_undo_27
    · refine n_ldc X q_327 (n := -1000000002) (by decide +kernel) dX9_undo_11 (fun x17 t17 => ?_)
      exact ret _ _ _ _ x17 _ hG ⟨Or.inl rfl, trivial⟩ dX9_undo_13
set_option maxHeartbeats 4000000 in
set_option maxRecDepth 100000 in
theorem e_X9_seed (l : Launch) (D : va_G) (cy : Nat → ClassId) (τ : ty_T) {F : Nat → Nat → Option Value} (hs : SUP τ F) {xa : Nat} (hxa : τ xa = some (0, 9)) {sd : Int32} (fs : F xa 8 = some (.int sd)) (x901 : Int32) : KI l D cy yX9_seed cX9_seed 3 .int (rL 0) τ (pv F (cn Mx τ)) [.ref xa, .int x901] (fun r u => (0 ≤ x901.toInt → r = sd ∧ u = pv (fu F xa 8 (.int x901)) (cn Mx τ)) ∧ (x901.toInt < 0 → r.toInt = -1000000002 ∧ u = pv F (cn Mx τ))) := by
  refine k_metI "EdgeEchoes" rfl (by decide +kernel) (Nat.le_of_ble_eq_true rfl) (fun _ _ _ => rfl) ?_
  intro p e s m args below meth c Q ls X hG hl ret
  have hl : lv_has ls 3 [(0, .ref xa), (1, .int x901)] := hl
  have g901 := cI_rng x901
  refine lv_iload_n X.1 X.2.1 dX9_seed_0 rfl (lv_at hl 1 rfl) ?_
  refine n_if_ge (tgt := 7) X dX9_seed_1 (by decide) (fun c1 => ?_) (fun c1 => ?_)
  · refine lv_aload_n X.1 X.2.1 dX9_seed_7 rfl (lv_at hl 0 rfl) ?_
    refine gf_9_8 X hG hxa q_303 dX9_seed_8 (fun x2 r2 => ?_)
    have u2 := pv_i r2 fs
    refine lv_istore_n (lv' := [(2, .int x2), (0, .ref xa), (1, .int x901)]) X.1 X.2.1 dX9_seed_11 rfl hl (by decide) rfl (fun ls hl => ?_)
    refine lv_aload_n X.1 X.2.1 dX9_seed_12 rfl (lv_at hl 1 rfl) ?_
    refine lv_iload_n X.1 X.2.1 dX9_seed_13 rfl (lv_at hl 2 rfl) ?_
    refine pg_9_8 X hG hxa q_303 dX9_seed_14 (pv (fu F xa 8 (.int x901)) (cn Mx τ)) pv_off pv_oth (pv_new (cn_F (S := [908]) _ _ _ _ hxa (ty_in (n := 908) rfl) (ty_rno rfl))) (fun H locs hG => ?_)
    refine lv_iload_n X.1 X.2.1 dX9_seed_17 rfl (lv_at hl 0 rfl) ?_
    exact ret _ _ _ _ x2 _ hG ⟨fun _ => ⟨u2, rfl⟩, fun q => absurd q (by omega)⟩ dX9_seed_18
  · refine n_ldc X q_327 (n := -1000000002) (by decide +kernel) dX9_seed_4 (fun x3 t3 => ?_)
    exact ret _ _ _ _ x3 _ hG ⟨fun q => absurd q (by omega), fun _ => ⟨by omega, rfl⟩⟩ dX9_seed_6
set_option maxHeartbeats 4000000 in
set_option maxRecDepth 100000 in
theorem e_X9_keep (l : Launch) (D : va_G) (cy : Nat → ClassId) (τ : ty_T) {F : Nat → Nat → Option Value} (hs : SUP τ F) {xa nw wn pa lz : Nat} {ln wl : Nat → Nat} {cu nx N B : Nat} {bb : Bool} (hxa : τ xa = some (0, 9)) (ha : AG τ F xa nw wn pa lz ln wl) (hv : VG F nw wn pa ln wl cu nx N bb B) {z : Nat} (fz : F nw 3 = some (.int (nI z))) (x901 : Int32) {sd : Int32} (fs : F xa 8 = some (.int sd)) {im ii li wi : Nat} (him : τ im = some (4, 2)) (hii : τ ii = some (0, 2)) (hli : τ li = some (0, 3)) (hwi : τ wi = some (0, 8)) (fim : F xa 6 = some (.ref im)) (fi : 0 ≤ x901.toInt ∧ x901.toInt ≤ 1 → F im x901.toNatClampNeg = some (.ref ii)) (fl : F ii 0 = some (.ref li)) (fg : F li 0 = some (.ref wi)) : KI l D cy yX9_keep cX9_keep 2 .int (rL 3) τ (pv F (cn Mx τ)) [.ref xa, .int x901] (fun r u => (0 ≤ x901.toInt ∧ x901.toInt ≤ 1 → r.toInt = 1 ∧ u = pv (kpF F li wi ii pa N bb z sd) (cn Mx τ)) ∧ (x901.toInt < 0 ∨ 1 < x901.toInt → r.toInt = -1000000001 ∧ u = pv F (cn Mx τ))) := by
  refine k_metI "EdgeEchoes" rfl (by decide +kernel) (Nat.le_of_ble_eq_true rfl) (fun _ _ _ => rfl) ?_
  intro p e s m args below meth c Q ls X hG hl ret
  have hl : lv_has ls 2 [(0, .ref xa), (1, .int x901)] := hl
  obtain ⟨hnw, hwn, hpa, hlz, hk, fnw, fpa, fwn, flz, fk⟩ := id ha
  obtain ⟨vc, vn, vN, f1, f2, fl0, fv⟩ := id hv
  have en : (nI nx).toInt = (nx : Int) := cI_nI (by omega)
  have ec : (nI cu).toInt = (cu : Int) := cI_nI (by omega)
  have xl : xa ≠ li := fun q => by rw [q, hli] at hxa; cases hxa
  have xw : xa ≠ wi := fun q => by rw [q, hwi] at hxa; cases hxa
  have ml : im ≠ li := fun q => by rw [q, hli] at him; cases him
  have mw : im ≠ wi := fun q => by rw [q, hwi] at him; cases him
  have mi : im ≠ ii := fun q => by rw [q, hii] at him; cases him
  have xi : xa ≠ ii := fun q => by rw [q, hii] at hxa; cases hxa
  have px : ∀ j, (pinL F li wi N bb z) xa j = F xa j := fun j => by unfold pinL; rw [fu_b xl, fu_b xl, fu_b xw]
  have pm : ∀ j, (pinL F li wi N bb z) im j = F im j := fun j => by unfold pinL; rw [fu_b ml, fu_b ml, fu_b mw]
  have hN : ty_N τ (pv (F) (cn Mx τ)) := pv_N cn_N
  have hR : ty_Rg Mx τ (pv (F) (cn Mx τ)) := pv_R cn_R
  have g901 := cI_rng x901
  refine lv_iload_n X.1 X.2.1 dX9_keep_0 rfl (lv_at hl 1 rfl) ?_
  refine n_if_lt (tgt := 9) X dX9_keep_1 (by decide) (fun c1 => ?_) (fun c1 => ?_)
  · refine n_ldc X q_609 (n := -1000000001) (by decide +kernel) dX9_keep_9 (fun x2 t2 => ?_)
    exact ret _ _ _ _ x2 _ hG ⟨fun q => absurd q (by omega), fun _ => ⟨by omega, rfl⟩⟩ dX9_keep_11
  · refine lv_iload_n X.1 X.2.1 dX9_keep_4 rfl (lv_at hl 1 rfl) ?_
    refine n_ic X dX9_keep_5 (by decide) (by decide) (fun x3 t3 => ?_)
    refine n_icmp_lt (tgt := 12) X dX9_keep_6 (by decide) (fun c4 => ?_) (fun c4 => ?_)
    · refine lv_aload_n X.1 X.2.1 dX9_keep_12 rfl (lv_at hl 0 rfl) ?_
      refine gf_9_6 X hG hxa q_301 dX9_keep_13 (hN _ _ _ hxa) (fun a5 h5 r5 => ?_)
      have e5 := pv_rd r5 fim
      cases e5
      refine lv_iload_n X.1 X.2.1 dX9_keep_16 rfl (lv_at hl 1 rfl) ?_
      refine tg_aald X hG h5 (Or.inr rfl) (cI_in (n := 2) (by omega)) dX9_keep_17 (hN _ _ _ h5) (fun a6 h6 r6 => ?_)
      have e6 := pv_rd r6 (fi (by omega))
      cases e6
      have h6 := hii
      refine gf_2_0 X hG h6 q_285 dX9_keep_18 (hN _ _ _ h6) (fun a7 h7 r7 => ?_)
      have e7 := pv_rd r7 fl
      cases e7
      refine lv_aload_n X.1 X.2.1 dX9_keep_21 rfl (lv_at hl 0 rfl) ?_
      refine gf_9_1 X hG hxa q_296 dX9_keep_22 (hN _ _ _ hxa) (fun a8 h8 r8 => ?_)
      have e8 := pv_rd r8 fnw
      cases e8
      refine k_cVv X hG (e_X3_copyFrom l D cy τ hs h7 h8 fg fwn fl0.1 fl0.2.1 fz) h7 rfl yv_X3_copyFrom q_516 ⟨rfl, rfl⟩ ⟨Nat.le_of_ble_eq_true rfl, Nat.le_of_ble_eq_true rfl⟩ rfl hl.1 rfl (Nat.le_of_ble_eq_true rfl) ⟨Nat.zero_le _, Nat.zero_le _⟩ dX9_keep_25 (fun u11 H locs hG po9 => ?_)
      rw [po9] at hG
      refine lv_aload_n X.1 X.2.1 dX9_keep_28 rfl (lv_at hl 0 rfl) ?_
      refine gf_9_6 X hG hxa q_301 dX9_keep_29 (pv_N cn_N _ _ _ hxa) (fun a12 h12 r12 => ?_)
      have e12 := pv_rd r12 ((px 6).trans fim)
      cases e12
      refine lv_iload_n X.1 X.2.1 dX9_keep_32 rfl (lv_at hl 1 rfl) ?_
      refine tg_aald X hG h12 (Or.inr rfl) (cI_in (n := 2) (by omega)) dX9_keep_33 (pv_N cn_N _ _ _ h12) (fun a13 h13 r13 => ?_)
      have e13 := pv_rd r13 ((pm _).trans (fi (by omega)))
      cases e13
      have h13 := hii
      refine lv_aload_n X.1 X.2.1 dX9_keep_34 rfl (lv_at hl 0 rfl) ?_
      refine gf_9_8 X hG hxa q_303 dX9_keep_35 (fun x14 r14 => ?_)
      have u14 := pv_i r14 ((px 8).trans fs)
      rw [u14]
      refine pg_2_1 X hG h13 q_286 dX9_keep_38 (pv (fu (pinL F li wi N bb z) ii 1 (.int sd)) (cn Mx τ)) pv_off pv_oth (pv_new (cn_F (S := [201]) _ _ _ _ h13 (ty_in (n := 201) rfl) (ty_rno rfl))) (fun H locs hG => ?_)
      refine lv_aload_n X.1 X.2.1 dX9_keep_41 rfl (lv_at hl 0 rfl) ?_
      refine gf_9_6 X hG hxa q_301 dX9_keep_42 (pv_N cn_N _ _ _ hxa) (fun a15 h15 r15 => ?_)
      have e15 := pv_rd r15 ((fu_b xi).trans ((px 6).trans fim))
      cases e15
      refine lv_iload_n X.1 X.2.1 dX9_keep_45 rfl (lv_at hl 1 rfl) ?_
      refine tg_aald X hG h15 (Or.inr rfl) (cI_in (n := 2) (by omega)) dX9_keep_46 (pv_N cn_N _ _ _ h15) (fun a16 h16 r16 => ?_)
      have e16 := pv_rd r16 ((fu_b mi).trans ((pm _).trans (fi (by omega))))
      cases e16
      have h16 := hii
      refine n_ic X dX9_keep_47 (by decide) (by decide) (fun x17 t17 => ?_)
      have e17 : x17 = bI true := cI_inj (by rw [t17, bI_t]; rfl)
      subst e17
      refine pg_2_2 X hG h16 q_287 (Or.inr rfl) dX9_keep_48 (pv (fu (fu (pinL F li wi N bb z) ii 1 (.int sd)) ii 2 (.int (bI true))) (cn Mx τ)) pv_off pv_oth (pv_new (cn_F (S := [202]) _ _ _ _ h16 (ty_in (n := 202) rfl) (ty_rno rfl))) (fun H locs hG => ?_)
      refine lv_aload_n X.1 X.2.1 dX9_keep_51 rfl (lv_at hl 0 rfl) ?_
      refine gf_9_3 X hG hxa q_298 dX9_keep_52 (pv_N cn_N _ _ _ hxa) (fun a18 h18 r18 => ?_)
      have e18 := pv_rd r18 ((fu_b xi).trans ((fu_b xi).trans ((px 3).trans fpa)))
      cases e18
      refine n_ic X dX9_keep_55 (by decide) (by decide) (fun x19 t19 => ?_)
      have e19 : x19 = nI 0 := cI_inj (by rw [t19]; rfl)
      subst e19
      refine pg_4_1 X hG h18 q_213 dX9_keep_56 (pv (kpF F li wi ii pa N bb z sd) (cn Mx τ)) pv_off pv_oth (pv_new (cn_F (S := [401]) _ _ _ _ h18 (ty_in (n := 401) rfl) (ty_rno rfl))) (fun H locs hG => ?_)
      refine n_ic X dX9_keep_59 (by decide) (by decide) (fun x20 t20 => ?_)
      exact ret _ _ _ _ x20 _ hG ⟨fun _ => ⟨by omega, rfl⟩, fun q => absurd q (by omega)⟩ dX9_keep_60
    · refine n_ldc X q_609 (n := -1000000001) (by decide +kernel) dX9_keep_9 (fun x21 t21 => ?_)
      exact ret _ _ _ _ x21 _ hG ⟨fun q => absurd q (by omega), fun _ => ⟨by omega, rfl⟩⟩ dX9_keep_11
set_option maxHeartbeats 4000000 in
set_option maxRecDepth 100000 in
theorem e_X9_goBack (l : Launch) (D : va_G) (cy : Nat → ClassId) (τ : ty_T) {F : Nat → Nat → Option Value} (hs : SUP τ F) {xa nw wn pa lz : Nat} {ln wl : Nat → Nat} {cu nx N B : Nat} {bb : Bool} (hxa : τ xa = some (0, 9)) (ha : AG τ F xa nw wn pa lz ln wl) (hv : VG F nw wn pa ln wl cu nx N bb B) (x901 : Int32) {im ii li wi : Nat} (him : τ im = some (4, 2)) (hii : τ ii = some (0, 2)) (hli : τ li = some (0, 3)) (hwi : τ wi = some (0, 8)) (fim : F xa 6 = some (.ref im)) (fi : 0 ≤ x901.toInt ∧ x901.toInt ≤ 1 → F im x901.toNatClampNeg = some (.ref ii)) (fl : F ii 0 = some (.ref li)) (fg : F li 0 = some (.ref wi)) {kp : Bool} (fb : F ii 2 = some (.int (bI kp))) {z : Nat} {sd : Int32} (fgi : kp = true → F wi 7 = some (.int (nI N)) ∧ F li 2 = some (.int (bI bb)) ∧ F li 3 = some (.int (nI z)) ∧ F ii 1 = some (.int sd)) : KI l D cy yX9_goBack cX9_goBack 2 .int (rL 3) τ (pv F (cn Mx τ)) [.ref xa, .int x901] (fun r u => (0 ≤ x901.toInt ∧ x901.toInt ≤ 1 → kp = true → r.toInt = 1 ∧ u = pv (gbF F xa nw wn pa N bb z sd) (cn Mx τ)) ∧ (0 ≤ x901.toInt ∧ x901.toInt ≤ 1 → kp = false → r.toInt = -1000000003 ∧ u = pv F (cn Mx τ)) ∧ (x901.toInt < 0 ∨ 1 < x901.toInt → r.toInt = -1000000001 ∧ u = pv F (cn Mx τ))) := by
  refine k_metI "EdgeEchoes" rfl (by decide +kernel) (Nat.le_of_ble_eq_true rfl) (fun _ _ _ => rfl) ?_
  intro p e s m args below meth c Q ls X hG hl ret
  have hl : lv_has ls 2 [(0, .ref xa), (1, .int x901)] := hl
  obtain ⟨hnw, hwn, hpa, hlz, hk, fnw, fpa, fwn, flz, fk⟩ := id ha
  obtain ⟨vc, vn, vN, f1, f2, fl0, fv⟩ := id hv
  have en : (nI nx).toInt = (nx : Int) := cI_nI (by omega)
  have ec : (nI cu).toInt = (cu : Int) := cI_nI (by omega)
  have xl : xa ≠ nw := fun q => by rw [q, hnw] at hxa; cases hxa
  have xw : xa ≠ wn := fun q => by rw [q, hwn] at hxa; cases hxa
  have ml : im ≠ nw := fun q => by rw [q, hnw] at him; cases him
  have mw : im ≠ wn := fun q => by rw [q, hwn] at him; cases him
  have il : ii ≠ nw := fun q => by rw [q, hnw] at hii; cases hii
  have iw : ii ≠ wn := fun q => by rw [q, hwn] at hii; cases hii
  have px : ∀ j, (pinL F nw wn N bb z) xa j = F xa j := fun j => by unfold pinL; rw [fu_b xl, fu_b xl, fu_b xw]
  have pm : ∀ j, (pinL F nw wn N bb z) im j = F im j := fun j => by unfold pinL; rw [fu_b ml, fu_b ml, fu_b mw]
  have pi : ∀ j, (pinL F nw wn N bb z) ii j = F ii j := fun j => by unfold pinL; rw [fu_b il, fu_b il, fu_b iw]
  have hN : ty_N τ (pv (F) (cn Mx τ)) := pv_N cn_N
  have hR : ty_Rg Mx τ (pv (F) (cn Mx τ)) := pv_R cn_R
  have g901 := cI_rng x901
  refine lv_iload_n X.1 X.2.1 dX9_goBack_0 rfl (lv_at hl 1 rfl) ?_
  refine n_if_lt (tgt := 9) X dX9_goBack_1 (by decide) (fun c1 => ?_) (fun c1 => ?_)
  · refine n_ldc X q_609 (n := -1000000001) (by decide +kernel) dX9_goBack_9 (fun x2 t2 => ?_)
    exact ret _ _ _ _ x2 _ hG ⟨fun q => absurd q (by omega), fun q => absurd q (by omega), fun _ => ⟨by omega, rfl⟩⟩ dX9_goBack_11
  · refine lv_iload_n X.1 X.2.1 dX9_goBack_4 rfl (lv_at hl 1 rfl) ?_
    refine n_ic X dX9_goBack_5 (by decide) (by decide) (fun x3 t3 => ?_)
    refine n_icmp_lt (tgt := 12) X dX9_goBack_6 (by decide) (fun c4 => ?_) (fun c4 => ?_)
    · refine lv_aload_n X.1 X.2.1 dX9_goBack_12 rfl (lv_at hl 0 rfl) ?_
      refine gf_9_6 X hG hxa q_301 dX9_goBack_13 (hN _ _ _ hxa) (fun a5 h5 r5 => ?_)
      have e5 := pv_rd r5 fim
      cases e5
      refine lv_iload_n X.1 X.2.1 dX9_goBack_16 rfl (lv_at hl 1 rfl) ?_
      refine tg_aald X hG h5 (Or.inr rfl) (cI_in (n := 2) (by omega)) dX9_goBack_17 (hN _ _ _ h5) (fun a6 h6 r6 => ?_)
      have e6 := pv_rd r6 (fi (by omega))
      cases e6
      have h6 := hii
      refine gf_2_2 X hG h6 q_287 dX9_goBack_18 (fun x7 b7 r7 => ?_)
      have u7 := pv_i r7 fb
      subst u7
      have tb := bI_t (b := kp)
      refine n_if_ne (tgt := 27) X dX9_goBack_21 (by decide) (fun c8 => ?_) (fun c8 => ?_)
      · have hbb : kp = true := by cases kp with | true => rfl | false => exact absurd tb c8
        obtain ⟨i1, i2, i3, i4⟩ := fgi hbb
        refine lv_aload_n X.1 X.2.1 dX9_goBack_27 rfl (lv_at hl 0 rfl) ?_
        refine gf_9_1 X hG hxa q_296 dX9_goBack_28 (hN _ _ _ hxa) (fun a9 h9 r9 => ?_)
        have e9 := pv_rd r9 fnw
        cases e9
        refine lv_aload_n X.1 X.2.1 dX9_goBack_31 rfl (lv_at hl 0 rfl) ?_
        refine gf_9_6 X hG hxa q_301 dX9_goBack_32 (hN _ _ _ hxa) (fun a10 h10 r10 => ?_)
        have e10 := pv_rd r10 fim
        cases e10
        refine lv_iload_n X.1 X.2.1 dX9_goBack_35 rfl (lv_at hl 1 rfl) ?_
        refine tg_aald X hG h10 (Or.inr rfl) (cI_in (n := 2) (by omega)) dX9_goBack_36 (hN _ _ _ h10) (fun a11 h11 r11 => ?_)
        have e11 := pv_rd r11 (fi (by omega))
        cases e11
        have h11 := hii
        refine gf_2_0 X hG h11 q_285 dX9_goBack_37 (hN _ _ _ h11) (fun a12 h12 r12 => ?_)
        have e12 := pv_rd r12 fl
        cases e12
        refine k_cVv X hG (e_X3_copyFrom l D cy τ hs h9 h12 fwn fg i1 i2 i3) h9 rfl yv_X3_copyFrom q_516 ⟨rfl, rfl⟩ ⟨Nat.le_of_ble_eq_true rfl, Nat.le_of_ble_eq_true rfl⟩ rfl hl.1 rfl (Nat.le_of_ble_eq_true rfl) ⟨Nat.zero_le _, Nat.zero_le _⟩ dX9_goBack_40 (fun u15 H locs hG po13 => ?_)
        rw [po13] at hG
        refine lv_aload_n X.1 X.2.1 dX9_goBack_43 rfl (lv_at hl 0 rfl) ?_
        refine lv_aload_n X.1 X.2.1 dX9_goBack_44 rfl (lv_at hl 0 rfl) ?_
        refine gf_9_6 X hG hxa q_301 dX9_goBack_45 (pv_N cn_N _ _ _ hxa) (fun a16 h16 r16 => ?_)
        have e16 := pv_rd r16 ((px 6).trans fim)
        cases e16
        refine lv_iload_n X.1 X.2.1 dX9_goBack_48 rfl (lv_at hl 1 rfl) ?_
        refine tg_aald X hG h16 (Or.inr rfl) (cI_in (n := 2) (by omega)) dX9_goBack_49 (pv_N cn_N _ _ _ h16) (fun a17 h17 r17 => ?_)
        have e17 := pv_rd r17 ((pm _).trans (fi (by omega)))
        cases e17
        have h17 := hii
        refine gf_2_1 X hG h17 q_286 dX9_goBack_50 (fun x18 r18 => ?_)
        have u18 := pv_i r18 ((pi 1).trans i4)
        rw [u18]
        refine pg_9_8 X hG hxa q_303 dX9_goBack_53 (pv (fu (pinL F nw wn N bb z) xa 8 (.int sd)) (cn Mx τ)) pv_off pv_oth (pv_new (cn_F (S := [908]) _ _ _ _ hxa (ty_in (n := 908) rfl) (ty_rno rfl))) (fun H locs hG => ?_)
        refine lv_aload_n X.1 X.2.1 dX9_goBack_56 rfl (lv_at hl 0 rfl) ?_
        refine gf_9_3 X hG hxa q_298 dX9_goBack_57 (pv_N cn_N _ _ _ hxa) (fun a19 h19 r19 => ?_)
        have e19 := pv_rd r19 ((fu_j (by decide)).trans ((px 3).trans fpa))
        cases e19
        refine n_ic X dX9_goBack_60 (by decide) (by decide) (fun x20 t20 => ?_)
        have e20 : x20 = nI 0 := cI_inj (by rw [t20]; rfl)
        subst e20
        refine pg_4_1 X hG h19 q_213 dX9_goBack_61 (pv (gbF F xa nw wn pa N bb z sd) (cn Mx τ)) pv_off pv_oth (pv_new (cn_F (S := [401]) _ _ _ _ h19 (ty_in (n := 401) rfl) (ty_rno rfl))) (fun H locs hG => ?_)
        refine n_ic X dX9_goBack_64 (by decide) (by decide) (fun x21 t21 => ?_)
        exact ret _ _ _ _ x21 _ hG ⟨fun _ _ => ⟨by omega, rfl⟩, (fun _ q => by rw [hbb] at q; cases q), fun q => absurd q (by omega)⟩ dX9_goBack_65
      · refine n_ldc X q_666 (n := -1000000003) (by decide +kernel) dX9_goBack_24 (fun x22 t22 => ?_)
        exact ret _ _ _ _ x22 _ hG ⟨(fun _ q => by rw [q] at tb; exact absurd tb (by rw [q] at c8; rw [c8]; decide)), fun _ _ => ⟨by omega, rfl⟩, fun q => absurd q (by omega)⟩ dX9_goBack_26
    · refine n_ldc X q_609 (n := -1000000001) (by decide +kernel) dX9_goBack_9 (fun x23 t23 => ?_)
      exact ret _ _ _ _ x23 _ hG ⟨fun q => absurd q (by omega), fun q => absurd q (by omega), fun _ => ⟨by omega, rfl⟩⟩ dX9_goBack_11
