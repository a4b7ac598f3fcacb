set_option maxHeartbeats 4000000 in
set_option maxRecDepth 100000 in
theorem law_c0 {p : Program} {l : Launch} {e : Env} {s : State} {m : MethodId} {below : List Frame} {meth : Method} {c : Code} {H : Heap} {locs : List Loc} {cells slots : Nat} {Q : State → Prop} {ls : Array Slot} {D : va_G} {cy : Nat → ClassId} {b L xa ma : Nat} {xs : Nat → Int32} {z : EVt} {x : Int32} {ic : Nat} (X : ty_X p c s m #[Value.ref b] cL_law "EdgeEchoesLaw" 4 D cy) (hE : EW (fun q => s.heap.size ≤ q) s s.heap z) (hX : va_X b L xs s s.heap) (hbl : b < s.heap.size) (hL : L ≤ 2048) (hl : lv_has ls 4 [(0, .ref b), (1, .ref xa), (2, .ref ma), (3, .int x)]) (hx : 0 ≤ x.toInt ∧ x.toInt + 4 ≤ L) (hcs : cells + 1 ≤ 138320 ∧ slots + 8520 ≤ 8687290) (hic : ic ≤ 512) (hJ : LJ D cy s xa ma ic H locs) (kk : ∀ H locs, LJ D cy s xa ma (ic + 1) H locs → W p l e room_1 s m #[Value.ref b] below meth c H locs (cells + 1) (slots + 8520) Q (F0 m 1014 ls [])) : W p l e room_1 s m #[Value.ref b] below meth c H locs cells slots Q (F0 m 176 ls []) := by
  have hc0 : cells ≤ room_1.cells ∧ slots ≤ room_1.slots := ⟨Nat.le_trans (Nat.le_succ _) hcs.1, Nat.le_trans (Nat.le_add_right _ _) hcs.2⟩
  obtain ⟨τ, τm, F, tx, la, nu, tr, dr, wi, ga, im, i0, i1, l0, l1, w0, w1, nw, wn, pa, lz, lk, wl, y, K, P, N, u, k0, k1, cu, nx, tb, hGx, hGm, ok, hU, hq, hyK, hB, hma, hdj, hS, hsk⟩ := hJ
  obtain ⟨hp, hs, hy, hr, hv⟩ := id hq
  have hxa := hp.1
  have hk9 := ok.1.2.2.1
  have hk13 := ok.1.2.2.2
  have hbk := SK.lt hsk hic
  obtain ⟨zn, hzn, fzn⟩ := hv.1.2.2.2.2.2.1.2.2
  have hk7 := ok.1.2.1
  refine lv_aload_n X.1 X.2.1 dL_law_176 rfl (lv_at hl 1 rfl) ?_
  refine lw_arg (j := 1) X hX hbl hL hl hx hGx.2.1 (by decide) dL_law_177 dL_law_178 dL_law_179 dL_law_180 dL_law_181 (fun v1 e1 => ?_)
  refine f_cVi X hGx (e_X9_feed l D cy τ _ (pv_N cn_N) hxa hp.2.1 hp.2.2.1 (fun v h => pv_rd h hp.2.2.2.2.2.2.2.2.1) (fun v h => pv_rd h hp.2.2.2.2.2.2.2.2.2.2.2.2.2.1) (x := nI K.1) (fun v h => pv_rd h hp.2.2.2.2.2.2.2.2.2.2.2.2.2.2.2.1) (by rw [cI_nI (by omega)]; omega) v1) hxa rfl yv_X9_feed q_323 ⟨rfl, rfl⟩ ⟨Nat.le_of_ble_eq_true rfl, Nat.le_of_ble_eq_true rfl⟩ rfl hl.1 rfl (Nat.le_of_ble_eq_true rfl) hc0 dL_law_182 (fun r2 o2 H locs hGx hf po => ?_)
  obtain ⟨po2, q1, q2⟩ := po
  have hGm := TG.fr hGm (fun a h => (hdj a).resolve_right h) hf hGx.2.1
  refine lv_pop X.1 X.2.1 dL_law_185 rfl ?_
  refine lv_aload_n X.1 X.2.1 dL_law_186 rfl (lv_at hl 2 rfl) ?_
  refine lw_arg (j := 1) X hX hbl hL hl hx hGx.2.1 (by decide) dL_law_187 dL_law_188 dL_law_189 dL_law_190 dL_law_191 (fun v3 e3 => ?_)
  refine f_cVi X hGm (e_X10_feed l D cy τm hU ok hma v3) hma rfl yv_X10_feed q_952 ⟨rfl, rfl⟩ ⟨Nat.le_of_ble_eq_true rfl, Nat.le_of_ble_eq_true rfl⟩ rfl hl.1 rfl (Nat.le_of_ble_eq_true rfl) hc0 dL_law_192 (fun r4 o4 H locs hGm hf po => ?_)
  have hGx := TG.fr hGx (fun a h => (hdj a).resolve_left h) hf hGm.2.1
  have po4 := po
  refine lv_pop X.1 X.2.1 dL_law_195 rfl ?_
  refine lv_goto (tgt := 1014) X.1 X.2.1 dL_law_196 (by decide) ?_
  obtain ⟨po4, ew⟩ := po4
  rw [ew] at hGm
  have ee : v3 = v1 := by rw [e3, e1]
  rw [ee] at hGm
  obtain ⟨F2, hGx, hp, hs, hy, hB, he⟩ := law_feed hp hs hy hB hk7 q1 q2 hGx
  have hq := qq_tx hq he hp hs hy
  rw [← bK_fd (x := v1) hk7, ← fd_T (x := v1) (i := 1002) hk7 (by decide), ← fd_T (x := v1) (i := 1003) hk7 (by decide), ← fd_T (x := v1) (i := 1004) hk7 (by decide)] at hq
  have hyK : y.toInt = (feedS K v1).2.1 := by rw [hyK]; unfold feedS; split <;> rfl
  have ok := feed_ok (x := v1) ok
  refine W.widen (k := cells + 1) (n := slots + 8520) (Nat.le_succ _) (Nat.le_add_right _ _) ?_
  exact kk _ _ ⟨_, _, _, _, _, _, _, _, _, _, _, _, _, _, _, _, _, _, _, _, _, _, _, _, feedS K v1, _, _, _, _, _, _, _, _, hGx, hGm, ok, hU, hq, hyK, hB, hma, hdj, hS, SK.up (SK.fd hsk hk7)⟩
set_option maxHeartbeats 4000000 in
set_option maxRecDepth 100000 in
theorem law_c1 {p : Program} {l : Launch} {e : Env} {s : State} {m : MethodId} {below : List Frame} {meth : Method} {c : Code} {H : Heap} {locs : List Loc} {cells slots : Nat} {Q : State → Prop} {ls : Array Slot} {D : va_G} {cy : Nat → ClassId} {b L xa ma : Nat} {xs : Nat → Int32} {z : EVt} {x : Int32} {ic : Nat} (X : ty_X p c s m #[Value.ref b] cL_law "EdgeEchoesLaw" 4 D cy) (hE : EW (fun q => s.heap.size ≤ q) s s.heap z) (hX : va_X b L xs s s.heap) (hbl : b < s.heap.size) (hL : L ≤ 2048) (hl : lv_has ls 4 [(0, .ref b), (1, .ref xa), (2, .ref ma), (3, .int x)]) (hx : 0 ≤ x.toInt ∧ x.toInt + 4 ≤ L) (hcs : cells + 1 ≤ 138320 ∧ slots + 8520 ≤ 8687290) (hic : ic ≤ 512) (hJ : LJ D cy s xa ma ic H locs) (kk : ∀ H locs, LJ D cy s xa ma (ic + 1) H locs → W p l e room_1 s m #[Value.ref b] below meth c H locs (cells + 1) (slots + 8520) Q (F0 m 1014 ls [])) : W p l e room_1 s m #[Value.ref b] below meth c H locs cells slots Q (F0 m 199 ls []) := by
  have hc0 : cells ≤ room_1.cells ∧ slots ≤ room_1.slots := ⟨Nat.le_trans (Nat.le_succ _) hcs.1, Nat.le_trans (Nat.le_add_right _ _) hcs.2⟩
  obtain ⟨τ, τm, F, tx, la, nu, tr, dr, wi, ga, im, i0, i1, l0, l1, w0, w1, nw, wn, pa, lz, lk, wl, y, K, P, N, u, k0, k1, cu, nx, tb, hGx, hGm, ok, hU, hq, hyK, hB, hma, hdj, hS, hsk⟩ := hJ
  obtain ⟨hp, hs, hy, hr, hv⟩ := id hq
  have hxa := hp.1
  have hk9 := ok.1.2.2.1
  have hk13 := ok.1.2.2.2
  have hbk := SK.lt hsk hic
  obtain ⟨zn, hzn, fzn⟩ := hv.1.2.2.2.2.2.1.2.2
  have hk7 := ok.1.2.1
  refine lv_aload_n X.1 X.2.1 dL_law_199 rfl (lv_at hl 1 rfl) ?_
  refine f_cVE X hGx (EV.law hE hGx) (p_X9_line l D cy τ z hp hs hr.2.1.1 hr.2.1.2.1 hr.2.1.2.2.1 hr.2.1.2.2.2.2.1 hr.2.1.2.2.2.2.2.1 hr.2.1.2.2.2.2.2.2 hr.1 hv.2.1 hk7 hB) hxa rfl yv_X9_line q_333 ⟨rfl, rfl⟩ ⟨Nat.le_of_ble_eq_true rfl, Nat.le_of_ble_eq_true rfl⟩ rfl hl.1 rfl (Nat.le_of_ble_eq_true rfl) hc0 dL_law_200 (fun r1 o1 H locs hGx hf po => ?_)
  obtain ⟨l1, l2⟩ := po
  have hGm := TG.fr hGm (fun a h => (hdj a).resolve_right h) hf hGx.2.1
  refine lv_pop X.1 X.2.1 dL_law_203 rfl ?_
  refine lv_aload_n X.1 X.2.1 dL_law_204 rfl (lv_at hl 2 rfl) ?_
  refine f_cVi X hGm (e_X10_line l D cy τm hU ok hma ) hma rfl yv_X10_line q_962 ⟨rfl, rfl⟩ ⟨Nat.le_of_ble_eq_true rfl, Nat.le_of_ble_eq_true rfl⟩ rfl hl.1 rfl (Nat.le_of_ble_eq_true rfl) hc0 dL_law_205 (fun r2 o2 H locs hGm hf po => ?_)
  have hGx := TG.fr hGx (fun a h => (hdj a).resolve_left h) hf hGm.2.1
  have po2 := po
  refine lv_pop X.1 X.2.1 dL_law_208 rfl ?_
  refine lv_goto (tgt := 1014) X.1 X.2.1 dL_law_209 (by decide) ?_
  refine W.widen (k := cells + 1) (n := slots + 8520) (Nat.le_succ _) (Nat.le_add_right _ _) ?_
  obtain ⟨m1, m2⟩ := po2
  have h2 := rdT2_le (K := K)
  by_cases hR : (rdT K).1 = 0
  · obtain ⟨P2, ok2, -, ew⟩ := m2 hR
    rw [ew] at hGm
    rw [(l2 hR).2, lnG_2] at hGx
    have g4 := qq_cS (sd2 := nlS K.2.2.2.2 (rdT K).2.2.2.2.2.2 (bN (rdT K).2.2.1) 1002) (s2 := nlS K.2.2.2.2 (rdT K).2.2.2.2.2.2 (bN (rdT K).2.2.1) 1003) (s3 := nlS K.2.2.2.2 (rdT K).2.2.2.2.2.2 (bN (rdT K).2.2.1) 1004) (nls_t (by decide)) (nls_t (by decide)) (nls_t (by decide)) (qq_cB (bK_ln (K := K) (g := (rdT K).2.2.2.2.2.2) (t := bN (rdT K).2.2.1)) (qq_T (T2 := nlS K.2.2.2.2 (rdT K).2.2.2.2.2.2 (bN (rdT K).2.2.1)) (qq_ln (bz := (rdT K).2.2.1) (l2 hR).1 hq) (fun j hj => absurd hj (Nat.not_lt_zero _))))
    exact kk _ _ ⟨_, _, _, _, _, _, _, _, _, _, _, _, _, _, _, _, _, _, _, _, _, _, _, -1, (0, -1, 0, 0, nlS K.2.2.2.2 (rdT K).2.2.2.2.2.2 (bN (rdT K).2.2.1)), _, _, _, _, _, _, _, _, hGx, hGm, ok2, hU, g4, rfl, (fun j hj => absurd hj (Nat.not_lt_zero _)), hma, hdj, hS, SK.ln hsk⟩
  · rw [(m1 hR).2] at hGm
    rw [(l1 hR).2] at hGx
    have ok2 : OKG (0, ((rdT K).2.1 : Int), K.2.2) P N u := ⟨⟨ok.1.1, Nat.zero_le _, ok.1.2.2⟩, ok.2⟩
    exact kk _ _ ⟨_, _, _, _, _, _, _, _, _, _, _, _, _, _, _, _, _, _, _, _, _, _, _, nI (rdT K).2.1, (0, ((rdT K).2.1 : Int), K.2.2), _, _, _, _, _, _, _, _, hGx, hGm, ok2, hU, qq_no hq, cI_nI (by omega), (fun j hj => absurd hj (Nat.not_lt_zero _)), hma, hdj, hS, SK.up hsk⟩
set_option maxHeartbeats 4000000 in
set_option maxRecDepth 100000 in
theorem law_c2 {p : Program} {l : Launch} {e : Env} {s : State} {m : MethodId} {below : List Frame} {meth : Method} {c : Code} {H : Heap} {locs : List Loc} {cells slots : Nat} {Q : State → Prop} {ls : Array Slot} {D : va_G} {cy : Nat → ClassId} {b L xa ma : Nat} {xs : Nat → Int32} {z : EVt} {x : Int32} {ic : Nat} (X : ty_X p c s m #[Value.ref b] cL_law "EdgeEchoesLaw" 4 D cy) (hE : EW (fun q => s.heap.size ≤ q) s s.heap z) (hX : va_X b L xs s s.heap) (hbl : b < s.heap.size) (hL : L ≤ 2048) (hl : lv_has ls 4 [(0, .ref b), (1, .ref xa), (2, .ref ma), (3, .int x)]) (hx : 0 ≤ x.toInt ∧ x.toInt + 4 ≤ L) (hcs : cells + 1 ≤ 138320 ∧ slots + 8520 ≤ 8687290) (hic : ic ≤ 512) (hJ : LJ D cy s xa ma ic H locs) (kk : ∀ H locs, LJ D cy s xa ma (ic + 1) H locs → W p l e room_1 s m #[Value.ref b] below meth c H locs (cells + 1) (slots + 8520) Q (F0 m 1014 ls [])) : W p l e room_1 s m #[Value.ref b] below meth c H locs cells slots Q (F0 m 212 ls []) := by
  have hc0 : cells ≤ room_1.cells ∧ slots ≤ room_1.slots := ⟨Nat.le_trans (Nat.le_succ _) hcs.1, Nat.le_trans (Nat.le_add_right _ _) hcs.2⟩
  obtain ⟨τ, τm, F, tx, la, nu, tr, dr, wi, ga, im, i0, i1, l0, l1, w0, w1, nw, wn, pa, lz, lk, wl, y, K, P, N, u, k0, k1, cu, nx, tb, hGx, hGm, ok, hU, hq, hyK, hB, hma, hdj, hS, hsk⟩ := hJ
  obtain ⟨hp, hs, hy, hr, hv⟩ := id hq
  have hxa := hp.1
  have hk9 := ok.1.2.2.1
  have hk13 := ok.1.2.2.2
  have hbk := SK.lt hsk hic
  obtain ⟨zn, hzn, fzn⟩ := hv.1.2.2.2.2.2.1.2.2
  have hk7 := ok.1.2.1
  refine lv_aload_n X.1 X.2.1 dL_law_212 rfl (lv_at hl 1 rfl) ?_
  refine f_cVi X hGx (p_X9_fault l D cy τ _ hxa (fun v h => pv_rd h hy)) hxa rfl yv_X9_fault q_533 ⟨rfl, rfl⟩ ⟨Nat.le_of_ble_eq_true rfl, Nat.le_of_ble_eq_true rfl⟩ rfl hl.1 rfl (Nat.le_of_ble_eq_true rfl) hc0 dL_law_213 (fun r1 o1 H locs hGx hf po => ?_)
  obtain ⟨ew, po1⟩ := po
  rw [ew] at hGx
  have hGm := TG.fr hGm (fun a h => (hdj a).resolve_right h) hf hGx.2.1
  refine lv_pop X.1 X.2.1 dL_law_216 rfl ?_
  refine lv_aload_n X.1 X.2.1 dL_law_217 rfl (lv_at hl 2 rfl) ?_
  refine f_cVi X hGm (p_X10_fault l D cy τm _ cn_N cn_R cn_F hma (y := K.2.1) rfl) hma rfl yv_X10_fault q_1016 ⟨rfl, rfl⟩ ⟨Nat.le_of_ble_eq_true rfl, Nat.le_of_ble_eq_true rfl⟩ rfl hl.1 rfl (Nat.le_of_ble_eq_true rfl) hc0 dL_law_218 (fun r2 o2 H locs hGm hf po => ?_)
  have hGx := TG.fr hGx (fun a h => (hdj a).resolve_left h) hf hGm.2.1
  obtain ⟨ew, po2⟩ := po
  rw [ew] at hGm
  refine lv_pop X.1 X.2.1 dL_law_221 rfl ?_
  refine lv_goto (tgt := 1014) X.1 X.2.1 dL_law_222 (by decide) ?_
  refine W.widen (k := cells + 1) (n := slots + 8520) (Nat.le_succ _) (Nat.le_add_right _ _) ?_
  exact kk _ _ ⟨_, _, _, _, _, _, _, _, _, _, _, _, _, _, _, _, _, _, _, _, _, _, _, _, K, _, _, _, _, _, _, _, _, hGx, hGm, ok, hU, hq, hyK, hB, hma, hdj, hS, SK.up hsk⟩
set_option maxHeartbeats 4000000 in
set_option maxRecDepth 100000 in
theorem law_c3 {p : Program} {l : Launch} {e : Env} {s : State} {m : MethodId} {below : List Frame} {meth : Method} {c : Code} {H : Heap} {locs : List Loc} {cells slots : Nat} {Q : State → Prop} {ls : Array Slot} {D : va_G} {cy : Nat → ClassId} {b L xa ma : Nat} {xs : Nat → Int32} {z : EVt} {x : Int32} {ic : Nat} (X : ty_X p c s m #[Value.ref b] cL_law "EdgeEchoesLaw" 4 D cy) (hE : EW (fun q => s.heap.size ≤ q) s s.heap z) (hX : va_X b L xs s s.heap) (hbl : b < s.heap.size) (hL : L ≤ 2048) (hl : lv_has ls 4 [(0, .ref b), (1, .ref xa), (2, .ref ma), (3, .int x)]) (hx : 0 ≤ x.toInt ∧ x.toInt + 4 ≤ L) (hcs : cells + 1 ≤ 138320 ∧ slots + 8520 ≤ 8687290) (hic : ic ≤ 512) (hJ : LJ D cy s xa ma ic H locs) (kk : ∀ H locs, LJ D cy s xa ma (ic + 1) H locs → W p l e room_1 s m #[Value.ref b] below meth c H locs (cells + 1) (slots + 8520) Q (F0 m 1014 ls [])) : W p l e room_1 s m #[Value.ref b] below meth c H locs cells slots Q (F0 m 225 ls []) := by
  have hc0 : cells ≤ room_1.cells ∧ slots ≤ room_1.slots := ⟨Nat.le_trans (Nat.le_succ _) hcs.1, Nat.le_trans (Nat.le_add_right _ _) hcs.2⟩
  obtain ⟨τ, τm, F, tx, la, nu, tr, dr, wi, ga, im, i0, i1, l0, l1, w0, w1, nw, wn, pa, lz, lk, wl, y, K, P, N, u, k0, k1, cu, nx, tb, hGx, hGm, ok, hU, hq, hyK, hB, hma, hdj, hS, hsk⟩ := hJ
  obtain ⟨hp, hs, hy, hr, hv⟩ := id hq
  have hxa := hp.1
  have hk9 := ok.1.2.2.1
  have hk13 := ok.1.2.2.2
  have hbk := SK.lt hsk hic
  obtain ⟨zn, hzn, fzn⟩ := hv.1.2.2.2.2.2.1.2.2
  have hk7 := ok.1.2.1
  refine lv_aload_n X.1 X.2.1 dL_law_225 rfl (lv_at hl 1 rfl) ?_
  refine lw_arg (j := 1) X hX hbl hL hl hx hGx.2.1 (by decide) dL_law_226 dL_law_227 dL_law_228 dL_law_229 dL_law_230 (fun v1 e1 => ?_)
  refine f_cVi X hGx (n_X9_told l D cy τ _ (pv_N cn_N) (pv_R cn_R) (sup_F hs (by decide)) hxa v1 (qq_TF hq)) hxa rfl yv_X9_told q_537 ⟨rfl, rfl⟩ ⟨Nat.le_of_ble_eq_true rfl, Nat.le_of_ble_eq_true rfl⟩ rfl hl.1 rfl (Nat.le_of_ble_eq_true rfl) hc0 dL_law_231 (fun r2 o2 H locs hGx hf po => ?_)
  obtain ⟨ew, po2⟩ := po
  rw [ew] at hGx
  have hGm := TG.fr hGm (fun a h => (hdj a).resolve_right h) hf hGx.2.1
  refine lv_pop X.1 X.2.1 dL_law_234 rfl ?_
  refine lv_aload_n X.1 X.2.1 dL_law_235 rfl (lv_at hl 2 rfl) ?_
  refine lw_arg (j := 1) X hX hbl hL hl hx hGx.2.1 (by decide) dL_law_236 dL_law_237 dL_law_238 dL_law_239 dL_law_240 (fun v3 e3 => ?_)
  refine f_cVi X hGm (c_X10_told l D cy τm (MM K P N u k0 k1) hU (MM_HB ok) (MM_LV ok) (MM_HT ok.2.2.2) hma v3) hma rfl yv_X10_told q_1020 ⟨rfl, rfl⟩ ⟨Nat.le_of_ble_eq_true rfl, Nat.le_of_ble_eq_true rfl⟩ rfl hl.1 rfl (Nat.le_of_ble_eq_true rfl) hc0 dL_law_241 (fun r4 o4 H locs hGm hf po => ?_)
  have hGx := TG.fr hGx (fun a h => (hdj a).resolve_left h) hf hGm.2.1
  obtain ⟨ew, po4⟩ := po
  rw [ew] at hGm
  refine lv_pop X.1 X.2.1 dL_law_244 rfl ?_
  refine lv_goto (tgt := 1014) X.1 X.2.1 dL_law_245 (by decide) ?_
  refine W.widen (k := cells + 1) (n := slots + 8520) (Nat.le_succ _) (Nat.le_add_right _ _) ?_
  exact kk _ _ ⟨_, _, _, _, _, _, _, _, _, _, _, _, _, _, _, _, _, _, _, _, _, _, _, _, K, _, _, _, _, _, _, _, _, hGx, hGm, ok, hU, hq, hyK, hB, hma, hdj, hS, SK.up hsk⟩
set_option maxHeartbeats 4000000 in
set_option maxRecDepth 100000 in
theorem law_c4 {p : Program} {l : Launch} {e : Env} {s : State} {m : MethodId} {below : List Frame} {meth : Method} {c : Code} {H : Heap} {locs : List Loc} {cells slots : Nat} {Q : State → Prop} {ls : Array Slot} {D : va_G} {cy : Nat → ClassId} {b L xa ma : Nat} {xs : Nat → Int32} {z : EVt} {x : Int32} {ic : Nat} (X : ty_X p c s m #[Value.ref b] cL_law "EdgeEchoesLaw" 4 D cy) (hE : EW (fun q => s.heap.size ≤ q) s s.heap z) (hX : va_X b L xs s s.heap) (hbl : b < s.heap.size) (hL : L ≤ 2048) (hl : lv_has ls 4 [(0, .ref b), (1, .ref xa), (2, .ref ma), (3, .int x)]) (hx : 0 ≤ x.toInt ∧ x.toInt + 4 ≤ L) (hcs : cells + 1 ≤ 138320 ∧ slots + 8520 ≤ 8687290) (hic : ic ≤ 512) (hJ : LJ D cy s xa ma ic H locs) (kk : ∀ H locs, LJ D cy s xa ma (ic + 1) H locs → W p l e room_1 s m #[Value.ref b] below meth c H locs (cells + 1) (slots + 8520) Q (F0 m 1014 ls [])) : W p l e room_1 s m #[Value.ref b] below meth c H locs cells slots Q (F0 m 248 ls []) := by
  have hc0 : cells ≤ room_1.cells ∧ slots ≤ room_1.slots := ⟨Nat.le_trans (Nat.le_succ _) hcs.1, Nat.le_trans (Nat.le_add_right _ _) hcs.2⟩
  obtain ⟨τ, τm, F, tx, la, nu, tr, dr, wi, ga, im, i0, i1, l0, l1, w0, w1, nw, wn, pa, lz, lk, wl, y, K, P, N, u, k0, k1, cu, nx, tb, hGx, hGm, ok, hU, hq, hyK, hB, hma, hdj, hS, hsk⟩ := hJ
  obtain ⟨hp, hs, hy, hr, hv⟩ := id hq
  have hxa := hp.1
  have hk9 := ok.1.2.2.1
  have hk13 := ok.1.2.2.2
  have hbk := SK.lt hsk hic
  obtain ⟨zn, hzn, fzn⟩ := hv.1.2.2.2.2.2.1.2.2
  have hk7 := ok.1.2.1
  refine lv_aload_n X.1 X.2.1 dL_law_248 rfl (lv_at hl 1 rfl) ?_
  refine lw_arg (j := 1) X hX hbl hL hl hx hGx.2.1 (by decide) dL_law_249 dL_law_250 dL_law_251 dL_law_252 dL_law_253 (fun v1 e1 => ?_)
  refine lw_arg (j := 2) X hX hbl hL hl hx hGx.2.1 (by decide) dL_law_254 dL_law_255 dL_law_256 dL_law_257 dL_law_258 (fun v2 e2 => ?_)
  refine f_cVi X hGx (c_X9_wire l D cy τ _ (pv_N cn_N) (pv_R cn_R) (sup_F hs (by decide)) hxa v1 v2) hxa rfl yv_X9_wire q_604 ⟨rfl, rfl⟩ ⟨Nat.le_of_ble_eq_true rfl, Nat.le_of_ble_eq_true rfl⟩ rfl hl.1 rfl (Nat.le_of_ble_eq_true rfl) hc0 dL_law_259 (fun r3 o3 H locs hGx hf po => ?_)
  obtain ⟨ew, po3⟩ := po
  rw [ew] at hGx
  have hGm := TG.fr hGm (fun a h => (hdj a).resolve_right h) hf hGx.2.1
  refine lv_pop X.1 X.2.1 dL_law_262 rfl ?_
  refine lv_aload_n X.1 X.2.1 dL_law_263 rfl (lv_at hl 2 rfl) ?_
  refine lw_arg (j := 1) X hX hbl hL hl hx hGx.2.1 (by decide) dL_law_264 dL_law_265 dL_law_266 dL_law_267 dL_law_268 (fun v4 e4 => ?_)
  refine lw_arg (j := 2) X hX hbl hL hl hx hGx.2.1 (by decide) dL_law_269 dL_law_270 dL_law_271 dL_law_272 dL_law_273 (fun v5 e5 => ?_)
  refine f_cVi X hGm (c_X10_wire l D cy τm _ cn_N cn_R cn_F hma v4 v5 (MM_HB ok)) hma rfl yv_X10_wire q_1091 ⟨rfl, rfl⟩ ⟨Nat.le_of_ble_eq_true rfl, Nat.le_of_ble_eq_true rfl⟩ rfl hl.1 rfl (Nat.le_of_ble_eq_true rfl) hc0 dL_law_274 (fun r6 o6 H locs hGm hf po => ?_)
  have hGx := TG.fr hGx (fun a h => (hdj a).resolve_left h) hf hGm.2.1
  obtain ⟨ew, po6⟩ := po
  rw [ew] at hGm
  refine lv_pop X.1 X.2.1 dL_law_277 rfl ?_
  refine lv_goto (tgt := 1014) X.1 X.2.1 dL_law_278 (by decide) ?_
  refine W.widen (k := cells + 1) (n := slots + 8520) (Nat.le_succ _) (Nat.le_add_right _ _) ?_
  exact kk _ _ ⟨_, _, _, _, _, _, _, _, _, _, _, _, _, _, _, _, _, _, _, _, _, _, _, _, K, _, _, _, _, _, _, _, _, hGx, hGm, ok, hU, hq, hyK, hB, hma, hdj, hS, SK.up hsk⟩
set_option maxHeartbeats 4000000 in
set_option maxRecDepth 100000 in
theorem law_c5 {p : Program} {l : Launch} {e : Env} {s : State} {m : MethodId} {below : List Frame} {meth : Method} {c : Code} {H : Heap} {locs : List Loc} {cells slots : Nat} {Q : State → Prop} {ls : Array Slot} {D : va_G} {cy : Nat → ClassId} {b L xa ma : Nat} {xs : Nat → Int32} {z : EVt} {x : Int32} {ic : Nat} (X : ty_X p c s m #[Value.ref b] cL_law "EdgeEchoesLaw" 4 D cy) (hE : EW (fun q => s.heap.size ≤ q) s s.heap z) (hX : va_X b L xs s s.heap) (hbl : b < s.heap.size) (hL : L ≤ 2048) (hl : lv_has ls 4 [(0, .ref b), (1, .ref xa), (2, .ref ma), (3, .int x)]) (hx : 0 ≤ x.toInt ∧ x.toInt + 4 ≤ L) (hcs : cells + 1 ≤ 138320 ∧ slots + 8520 ≤ 8687290) (hic : ic ≤ 512) (hJ : LJ D cy s xa ma ic H locs) (kk : ∀ H locs, LJ D cy s xa ma (ic + 1) H locs → W p l e room_1 s m #[Value.ref b] below meth c H locs (cells + 1) (slots + 8520) Q (F0 m 1014 ls [])) : W p l e room_1 s m #[Value.ref b] below meth c H locs cells slots Q (F0 m 281 ls []) := by
  have hc0 : cells ≤ room_1.cells ∧ slots ≤ room_1.slots := ⟨Nat.le_trans (Nat.le_succ _) hcs.1, Nat.le_trans (Nat.le_add_right _ _) hcs.2⟩
  obtain ⟨τ, τm, F, tx, la, nu, tr, dr, wi, ga, im, i0, i1, l0, l1, w0, w1, nw, wn, pa, lz, lk, wl, y, K, P, N, u, k0, k1, cu, nx, tb, hGx, hGm, ok, hU, hq, hyK, hB, hma, hdj, hS, hsk⟩ := hJ
  obtain ⟨hp, hs, hy, hr, hv⟩ := id hq
  have hxa := hp.1
  have hk9 := ok.1.2.2.1
  have hk13 := ok.1.2.2.2
  have hbk := SK.lt hsk hic
  obtain ⟨zn, hzn, fzn⟩ := hv.1.2.2.2.2.2.1.2.2
  have hk7 := ok.1.2.1
  refine lv_aload_n X.1 X.2.1 dL_law_281 rfl (lv_at hl 1 rfl) ?_
  refine lw_arg (j := 1) X hX hbl hL hl hx hGx.2.1 (by decide) dL_law_282 dL_law_283 dL_law_284 dL_law_285 dL_law_286 (fun v1 e1 => ?_)
  refine lw_arg (j := 2) X hX hbl hL hl hx hGx.2.1 (by decide) dL_law_287 dL_law_288 dL_law_289 dL_law_290 dL_law_291 (fun v2 e2 => ?_)
  refine f_cVi X hGx (c_X9_cell l D cy τ _ (pv_N cn_N) (pv_R cn_R) (sup_F hs (by decide)) hxa v1 v2) hxa rfl yv_X9_cell q_611 ⟨rfl, rfl⟩ ⟨Nat.le_of_ble_eq_true rfl, Nat.le_of_ble_eq_true rfl⟩ rfl hl.1 rfl (Nat.le_of_ble_eq_true rfl) hc0 dL_law_292 (fun r3 o3 H locs hGx hf po => ?_)
  obtain ⟨ew, po3⟩ := po
  rw [ew] at hGx
  have hGm := TG.fr hGm (fun a h => (hdj a).resolve_right h) hf hGx.2.1
  refine lv_pop X.1 X.2.1 dL_law_295 rfl ?_
  refine lv_aload_n X.1 X.2.1 dL_law_296 rfl (lv_at hl 2 rfl) ?_
  refine lw_arg (j := 1) X hX hbl hL hl hx hGx.2.1 (by decide) dL_law_297 dL_law_298 dL_law_299 dL_law_300 dL_law_301 (fun v4 e4 => ?_)
  refine lw_arg (j := 2) X hX hbl hL hl hx hGx.2.1 (by decide) dL_law_302 dL_law_303 dL_law_304 dL_law_305 dL_law_306 (fun v5 e5 => ?_)
  refine f_cVi X hGm (c_X10_cell l D cy τm _ cn_N cn_R cn_F hma v4 v5 (MM_HB ok)) hma rfl yv_X10_cell q_1101 ⟨rfl, rfl⟩ ⟨Nat.le_of_ble_eq_true rfl, Nat.le_of_ble_eq_true rfl⟩ rfl hl.1 rfl (Nat.le_of_ble_eq_true rfl) hc0 dL_law_307 (fun r6 o6 H locs hGm hf po => ?_)
  have hGx := TG.fr hGx (fun a h => (hdj a).resolve_left h) hf hGm.2.1
  obtain ⟨ew, po6⟩ := po
  rw [ew] at hGm
  refine lv_pop X.1 X.2.1 dL_law_310 rfl ?_
  refine lv_goto (tgt := 1014) X.1 X.2.1 dL_law_311 (by decide) ?_
  refine W.widen (k := cells + 1) (n := slots + 8520) (Nat.le_succ _) (Nat.le_add_right _ _) ?_
  exact kk _ _ ⟨_, _, _, _, _, _, _, _, _, _, _, _, _, _, _, _, _, _, _, _, _, _, _, _, K, _, _, _, _, _, _, _, _, hGx, hGm, ok, hU, hq, hyK, hB, hma, hdj, hS, SK.up hsk⟩
set_option maxHeartbeats 4000000 in
set_option maxRecDepth 100000 in
theorem law_c6 {p : Program} {l : Launch} {e : Env} {s : State} {m : MethodId} {below : List Frame} {meth : Method} {c : Code} {H : Heap} {locs : List Loc} {cells slots : Nat} {Q : State → Prop} {ls : Array Slot} {D : va_G} {cy : Nat → ClassId} {b L xa ma : Nat} {xs : Nat → Int32} {z : EVt} {x : Int32} {ic : Nat} (X : ty_X p c s m #[Value.ref b] cL_law "EdgeEchoesLaw" 4 D cy) (hE : EW (fun q => s.heap.size ≤ q) s s.heap z) (hX : va_X b L xs s s.heap) (hbl : b < s.heap.size) (hL : L ≤ 2048) (hl : lv_has ls 4 [(0, .ref b), (1, .ref xa), (2, .ref ma), (3, .int x)]) (hx : 0 ≤ x.toInt ∧ x.toInt + 4 ≤ L) (hcs : cells + 1 ≤ 138320 ∧ slots + 8520 ≤ 8687290) (hic : ic ≤ 512) (hJ : LJ D cy s xa ma ic H locs) (kk : ∀ H locs, LJ D cy s xa ma (ic + 1) H locs → W p l e room_1 s m #[Value.ref b] below meth c H locs (cells + 1) (slots + 8520) Q (F0 m 1014 ls [])) : W p l e room_1 s m #[Value.ref b] below meth c H locs cells slots Q (F0 m 314 ls []) := by
  have hc0 : cells ≤ room_1.cells ∧ slots ≤ room_1.slots := ⟨Nat.le_trans (Nat.le_succ _) hcs.1, Nat.le_trans (Nat.le_add_right _ _) hcs.2⟩
  obtain ⟨τ, τm, F, tx, la, nu, tr, dr, wi, ga, im, i0, i1, l0, l1, w0, w1, nw, wn, pa, lz, lk, wl, y, K, P, N, u, k0, k1, cu, nx, tb, hGx, hGm, ok, hU, hq, hyK, hB, hma, hdj, hS, hsk⟩ := hJ
  obtain ⟨hp, hs, hy, hr, hv⟩ := id hq
  have hxa := hp.1
  have hk9 := ok.1.2.2.1
  have hk13 := ok.1.2.2.2
  have hbk := SK.lt hsk hic
  obtain ⟨zn, hzn, fzn⟩ := hv.1.2.2.2.2.2.1.2.2
  have hk7 := ok.1.2.1
  refine lv_aload_n X.1 X.2.1 dL_law_314 rfl (lv_at hl 1 rfl) ?_
  refine lw_arg (j := 1) X hX hbl hL hl hx hGx.2.1 (by decide) dL_law_315 dL_law_316 dL_law_317 dL_law_318 dL_law_319 (fun v1 e1 => ?_)
  refine f_cVi X hGx (c_X9_place l D cy τ _ (pv_N cn_N) (pv_R cn_R) (sup_F hs (by decide)) hxa v1) hxa rfl yv_X9_place q_617 ⟨rfl, rfl⟩ ⟨Nat.le_of_ble_eq_true rfl, Nat.le_of_ble_eq_true rfl⟩ rfl hl.1 rfl (Nat.le_of_ble_eq_true rfl) hc0 dL_law_320 (fun r2 o2 H locs hGx hf po => ?_)
  obtain ⟨ew, po2⟩ := po
  rw [ew] at hGx
  have hGm := TG.fr hGm (fun a h => (hdj a).resolve_right h) hf hGx.2.1
  refine lv_pop X.1 X.2.1 dL_law_323 rfl ?_
  refine lv_aload_n X.1 X.2.1 dL_law_324 rfl (lv_at hl 2 rfl) ?_
  refine lw_arg (j := 1) X hX hbl hL hl hx hGx.2.1 (by decide) dL_law_325 dL_law_326 dL_law_327 dL_law_328 dL_law_329 (fun v3 e3 => ?_)
  refine f_cVi X hGm (c_X10_place l D cy τm _ cn_N cn_R cn_F hma v3 (MM_HB ok)) hma rfl yv_X10_place q_1107 ⟨rfl, rfl⟩ ⟨Nat.le_of_ble_eq_true rfl, Nat.le_of_ble_eq_true rfl⟩ rfl hl.1 rfl (Nat.le_of_ble_eq_true rfl) hc0 dL_law_330 (fun r4 o4 H locs hGm hf po => ?_)
  have hGx := TG.fr hGx (fun a h => (hdj a).resolve_left h) hf hGm.2.1
  obtain ⟨ew, po4⟩ := po
  rw [ew] at hGm
  refine lv_pop X.1 X.2.1 dL_law_333 rfl ?_
  refine lv_goto (tgt := 1014) X.1 X.2.1 dL_law_334 (by decide) ?_
  refine W.widen (k := cells + 1) (n := slots + 8520) (Nat.le_succ _) (Nat.le_add_right _ _) ?_
  exact kk _ _ ⟨_, _, _, _, _, _, _, _, _, _, _, _, _, _, _, _, _, _, _, _, _, _, _, _, K, _, _, _, _, _, _, _, _, hGx, hGm, ok, hU, hq, hyK, hB, hma, hdj, hS, SK.up hsk⟩
set_option maxHeartbeats 4000000 in
set_option maxRecDepth 100000 in
theorem law_c7 {p : Program} {l : Launch} {e : Env} {s : State} {m : MethodId} {below : List Frame} {meth : Method} {c : Code} {H : Heap} {locs : List Loc} {cells slots : Nat} {Q : State → Prop} {ls : Array Slot} {D : va_G} {cy : Nat → ClassId} {b L xa ma : Nat} {xs : Nat → Int32} {z : EVt} {x : Int32} {ic : Nat} (X : ty_X p c s m #[Value.ref b] cL_law "EdgeEchoesLaw" 4 D cy) (hE : EW (fun q => s.heap.size ≤ q) s s.heap z) (hX : va_X b L xs s s.heap) (hbl : b < s.heap.size) (hL : L ≤ 2048) (hl : lv_has ls 4 [(0, .ref b), (1, .ref xa), (2, .ref ma), (3, .int x)]) (hx : 0 ≤ x.toInt ∧ x.toInt + 4 ≤ L) (hcs : cells + 1 ≤ 138320 ∧ slots + 8520 ≤ 8687290) (hic : ic ≤ 512) (hJ : LJ D cy s xa ma ic H locs) (kk : ∀ H locs, LJ D cy s xa ma (ic + 1) H locs → W p l e room_1 s m #[Value.ref b] below meth c H locs (cells + 1) (slots + 8520) Q (F0 m 1014 ls [])) : W p l e room_1 s m #[Value.ref b] below meth c H locs cells slots Q (F0 m 337 ls []) := by
  have hc0 : cells ≤ room_1.cells ∧ slots ≤ room_1.slots := ⟨Nat.le_trans (Nat.le_succ _) hcs.1, Nat.le_trans (Nat.le_add_right _ _) hcs.2⟩
  obtain ⟨τ, τm, F, tx, la, nu, tr, dr, wi, ga, im, i0, i1, l0, l1, w0, w1, nw, wn, pa, lz, lk, wl, y, K, P, N, u, k0, k1, cu, nx, tb, hGx, hGm, ok, hU, hq, hyK, hB, hma, hdj, hS, hsk⟩ := hJ
  obtain ⟨hp, hs, hy, hr, hv⟩ := id hq
  have hxa := hp.1
  have hk9 := ok.1.2.2.1
  have hk13 := ok.1.2.2.2
  have hbk := SK.lt hsk hic
  obtain ⟨zn, hzn, fzn⟩ := hv.1.2.2.2.2.2.1.2.2
  have hk7 := ok.1.2.1
  refine lv_aload_n X.1 X.2.1 dL_law_337 rfl (lv_at hl 1 rfl) ?_
  refine lw_arg (j := 1) X hX hbl hL hl hx hGx.2.1 (by decide) dL_law_338 dL_law_339 dL_law_340 dL_law_341 dL_law_342 (fun v1 e1 => ?_)
  refine lw_arg (j := 2) X hX hbl hL hl hx hGx.2.1 (by decide) dL_law_343 dL_law_344 dL_law_345 dL_law_346 dL_law_347 (fun v2 e2 => ?_)
  refine f_cVi X hGx (n_X9_gate l D cy τ _ (pv_N cn_N) (pv_R cn_R) (sup_F hs (by decide)) hxa v1 v2 (qq_TF hq)) hxa rfl yv_X9_gate q_625 ⟨rfl, rfl⟩ ⟨Nat.le_of_ble_eq_true rfl, Nat.le_of_ble_eq_true rfl⟩ rfl hl.1 rfl (Nat.le_of_ble_eq_true rfl) hc0 dL_law_348 (fun r3 o3 H locs hGx hf po => ?_)
  obtain ⟨ew, po3⟩ := po
  rw [ew] at hGx
  have hGm := TG.fr hGm (fun a h => (hdj a).resolve_right h) hf hGx.2.1
  refine lv_pop X.1 X.2.1 dL_law_351 rfl ?_
  refine lv_aload_n X.1 X.2.1 dL_law_352 rfl (lv_at hl 2 rfl) ?_
  refine lw_arg (j := 1) X hX hbl hL hl hx hGx.2.1 (by decide) dL_law_353 dL_law_354 dL_law_355 dL_law_356 dL_law_357 (fun v4 e4 => ?_)
  refine lw_arg (j := 2) X hX hbl hL hl hx hGx.2.1 (by decide) dL_law_358 dL_law_359 dL_law_360 dL_law_361 dL_law_362 (fun v5 e5 => ?_)
  refine f_cVi X hGm (c_X10_gate l D cy τm (MM K P N u k0 k1) hU (MM_HB ok) (MM_LV ok) (MM_HT ok.2.2.2) hma v4 v5) hma rfl yv_X10_gate q_1115 ⟨rfl, rfl⟩ ⟨Nat.le_of_ble_eq_true rfl, Nat.le_of_ble_eq_true rfl⟩ rfl hl.1 rfl (Nat.le_of_ble_eq_true rfl) hc0 dL_law_363 (fun r6 o6 H locs hGm hf po => ?_)
  have hGx := TG.fr hGx (fun a h => (hdj a).resolve_left h) hf hGm.2.1
  obtain ⟨ew, po6⟩ := po
  rw [ew] at hGm
  refine lv_pop X.1 X.2.1 dL_law_366 rfl ?_
  refine lv_goto (tgt := 1014) X.1 X.2.1 dL_law_367 (by decide) ?_
  refine W.widen (k := cells + 1) (n := slots + 8520) (Nat.le_succ _) (Nat.le_add_right _ _) ?_
  exact kk _ _ ⟨_, _, _, _, _, _, _, _, _, _, _, _, _, _, _, _, _, _, _, _, _, _, _, _, K, _, _, _, _, _, _, _, _, hGx, hGm, ok, hU, hq, hyK, hB, hma, hdj, hS, SK.up hsk⟩
set_option maxHeartbeats 4000000 in
set_option maxRecDepth 100000 in
theorem law_c8 {p : Program} {l : Launch} {e : Env} {s : State} {m : MethodId} {below : List Frame} {meth : Method} {c : Code} {H : Heap} {locs : List Loc} {cells slots : Nat} {Q : State → Prop} {ls : Array Slot} {D : va_G} {cy : Nat → ClassId} {b L xa ma : Nat} {xs : Nat → Int32} {z : EVt} {x : Int32} {ic : Nat} (X : ty_X p c s m #[Value.ref b] cL_law "EdgeEchoesLaw" 4 D cy) (hE : EW (fun q => s.heap.size ≤ q) s s.heap z) (hX : va_X b L xs s s.heap) (hbl : b < s.heap.size) (hL : L ≤ 2048) (hl : lv_has ls 4 [(0, .ref b), (1, .ref xa), (2, .ref ma), (3, .int x)]) (hx : 0 ≤ x.toInt ∧ x.toInt + 4 ≤ L) (hcs : cells + 1 ≤ 138320 ∧ slots + 8520 ≤ 8687290) (hic : ic ≤ 512) (hJ : LJ D cy s xa ma ic H locs) (kk : ∀ H locs, LJ D cy s xa ma (ic + 1) H locs → W p l e room_1 s m #[Value.ref b] below meth c H locs (cells + 1) (slots + 8520) Q (F0 m 1014 ls [])) : W p l e room_1 s m #[Value.ref b] below meth c H locs cells slots Q (F0 m 370 ls []) := by
  have hc0 : cells ≤ room_1.cells ∧ slots ≤ room_1.slots := ⟨Nat.le_trans (Nat.le_succ _) hcs.1, Nat.le_trans (Nat.le_add_right _ _) hcs.2⟩
  obtain ⟨τ, τm, F, tx, la, nu, tr, dr, wi, ga, im, i0, i1, l0, l1, w0, w1, nw, wn, pa, lz, lk, wl, y, K, P, N, u, k0, k1, cu, nx, tb, hGx, hGm, ok, hU, hq, hyK, hB, hma, hdj, hS, hsk⟩ := hJ
  obtain ⟨hp, hs, hy, hr, hv⟩ := id hq
  have hxa := hp.1
  have hk9 := ok.1.2.2.1
  have hk13 := ok.1.2.2.2
  have hbk := SK.lt hsk hic
  obtain ⟨zn, hzn, fzn⟩ := hv.1.2.2.2.2.2.1.2.2
  have hk7 := ok.1.2.1
  refine lv_aload_n X.1 X.2.1 dL_law_370 rfl (lv_at hl 1 rfl) ?_
  refine lw_arg (j := 1) X hX hbl hL hl hx hGx.2.1 (by decide) dL_law_371 dL_law_372 dL_law_373 dL_law_374 dL_law_375 (fun v1 e1 => ?_)
  refine f_cVi X hGx (e_X9_tick l D cy τ hs hxa hr.1 hv.1 fzn v1 (by omega)) hxa rfl yv_X9_tick q_658 ⟨rfl, rfl⟩ ⟨Nat.le_of_ble_eq_true rfl, Nat.le_of_ble_eq_true rfl⟩ rfl hl.1 rfl (Nat.le_of_ble_eq_true rfl) hc0 dL_law_376 (fun r2 o2 H locs hGx hf po => ?_)
  obtain ⟨ew, po2⟩ := po
  obtain ⟨F2, c2, n2, hGx, hq⟩ : ∃ F2 c2 n2, TG D cy τ (pv F2 (cn Mx τ)) (fun q => s.heap.size ≤ q) s.heap H locs ∧ QQ τ F2 xa tx la nu tr dr wi ga im i0 i1 l0 l1 w0 w1 nw wn pa lz lk wl y K.1 K.2.2.2.2 k0 k1 c2 n2 N tb (bK K + 50) (K.2.2.2.2 1002) (K.2.2.2.2 1003) (K.2.2.2.2 1004) := by
    rcases ew with e | ⟨i, hi, e⟩
    · rw [e] at hGx; exact ⟨_, _, _, hGx, qq_B (Nat.le_add_right _ _) hq⟩
    · rw [e] at hGx; exact ⟨_, _, _, hGx, qq_tkF hzn (by omega) (Nat.le_add_right _ _) hq⟩
  have hGm := TG.fr hGm (fun a h => (hdj a).resolve_right h) hf hGx.2.1
  refine lv_pop X.1 X.2.1 dL_law_379 rfl ?_
  refine lv_aload_n X.1 X.2.1 dL_law_380 rfl (lv_at hl 2 rfl) ?_
  refine lw_arg (j := 1) X hX hbl hL hl hx hGx.2.1 (by decide) dL_law_381 dL_law_382 dL_law_383 dL_law_384 dL_law_385 (fun v3 e3 => ?_)
  refine f_cVi X hGm (e_X10_tick l D cy τm hU ok hma v3 hsk.2.2.1 hbk) hma rfl yv_X10_tick q_1127 ⟨rfl, rfl⟩ ⟨Nat.le_of_ble_eq_true rfl, Nat.le_of_ble_eq_true rfl⟩ rfl hl.1 rfl (Nat.le_of_ble_eq_true rfl) hc0 dL_law_386 (fun r4 o4 H locs hGm hf po => ?_)
  have hGx := TG.fr hGx (fun a h => (hdj a).resolve_left h) hf hGm.2.1
  have po4 := po
  refine lv_pop X.1 X.2.1 dL_law_389 rfl ?_
  refine lv_goto (tgt := 1014) X.1 X.2.1 dL_law_390 (by decide) ?_
  refine W.widen (k := cells + 1) (n := slots + 8520) (Nat.le_succ _) (Nat.le_add_right _ _) ?_
  obtain ⟨⟨y9, ok, ew⟩, -⟩ := po4
  rw [ew] at hGm
  have hq := qq_cS (sd2 := (KU K 1005 (nI (bK K + 50))).2.2.2.2 1002) (s2 := (KU K 1005 (nI (bK K + 50))).2.2.2.2 1003) (s3 := (KU K 1005 (nI (bK K + 50))).2.2.2.2 1004) (KU_ne (by decide)) (KU_ne (by decide)) (KU_ne (by decide)) (qq_cB (B2 := bK (KU K 1005 (nI (bK K + 50)))) (bK_50 hsk hic) (qq_T (T2 := (KU K 1005 (nI (bK K + 50))).2.2.2.2) hq (KU_T hk7 (by decide))))
  exact kk _ _ ⟨_, _, _, _, _, _, _, _, _, _, _, _, _, _, _, _, _, _, _, _, _, _, _, _, KU K 1005 (nI (bK K + 50)), _, _, _, _, _, _, _, _, hGx, hGm, ok, hU, hq, hyK, (BY_KU hk7 (by decide) hB), hma, hdj, hS, SK.tk hsk hic⟩
set_option maxHeartbeats 4000000 in
set_option maxRecDepth 100000 in
theorem law_c9 {p : Program} {l : Launch} {e : Env} {s : State} {m : MethodId} {below : List Frame} {meth : Method} {c : Code} {H : Heap} {locs : List Loc} {cells slots : Nat} {Q : State → Prop} {ls : Array Slot} {D : va_G} {cy : Nat → ClassId} {b L xa ma : Nat} {xs : Nat → Int32} {z : EVt} {x : Int32} {ic : Nat} (X : ty_X p c s m #[Value.ref b] cL_law "EdgeEchoesLaw" 4 D cy) (hE : EW (fun q => s.heap.size ≤ q) s s.heap z) (hX : va_X b L xs s s.heap) (hbl : b < s.heap.size) (hL : L ≤ 2048) (hl : lv_has ls 4 [(0, .ref b), (1, .ref xa), (2, .ref ma), (3, .int x)]) (hx : 0 ≤ x.toInt ∧ x.toInt + 4 ≤ L) (hcs : cells + 1 ≤ 138320 ∧ slots + 8520 ≤ 8687290) (hic : ic ≤ 512) (hJ : LJ D cy s xa ma ic H locs) (kk : ∀ H locs, LJ D cy s xa ma (ic + 1) H locs → W p l e room_1 s m #[Value.ref b] below meth c H locs (cells + 1) (slots + 8520) Q (F0 m 1014 ls [])) : W p l e room_1 s m #[Value.ref b] below meth c H locs cells slots Q (F0 m 393 ls []) := by
  have hc0 : cells ≤ room_1.cells ∧ slots ≤ room_1.slots := ⟨Nat.le_trans (Nat.le_succ _) hcs.1, Nat.le_trans (Nat.le_add_right _ _) hcs.2⟩
  obtain ⟨τ, τm, F, tx, la, nu, tr, dr, wi, ga, im, i0, i1, l0, l1, w0, w1, nw, wn, pa, lz, lk, wl, y, K, P, N, u, k0, k1, cu, nx, tb, hGx, hGm, ok, hU, hq, hyK, hB, hma, hdj, hS, hsk⟩ := hJ
  obtain ⟨hp, hs, hy, hr, hv⟩ := id hq
  have hxa := hp.1
  have hk9 := ok.1.2.2.1
  have hk13 := ok.1.2.2.2
  have hbk := SK.lt hsk hic
  obtain ⟨zn, hzn, fzn⟩ := hv.1.2.2.2.2.2.1.2.2
  have hk7 := ok.1.2.1
  refine lv_aload_n X.1 X.2.1 dL_law_393 rfl (lv_at hl 1 rfl) ?_
  refine lw_arg (j := 1) X hX hbl hL hl hx hGx.2.1 (by decide) dL_law_394 dL_law_395 dL_law_396 dL_law_397 dL_law_398 (fun v1 e1 => ?_)
  refine lw_nz X dL_law_399 dL_law_402 dL_law_403 dL_law_406 (fun v2 z2 => ?_)
  refine f_cVi X hGx (e_X9_drive l D cy τ hs hxa hr.1 hv.1 fzn v2 z2) hxa rfl yv_X9_drive q_675 ⟨rfl, rfl⟩ ⟨Nat.le_of_ble_eq_true rfl, Nat.le_of_ble_eq_true rfl⟩ rfl hl.1 rfl (Nat.le_of_ble_eq_true rfl) hc0 dL_law_407 (fun r3 o3 H locs hGx hf po => ?_)
  obtain ⟨ew, po3⟩ := po
  obtain ⟨F2, c2, n2, hGx, hq⟩ : ∃ F2 c2 n2, TG D cy τ (pv F2 (cn Mx τ)) (fun q => s.heap.size ≤ q) s.heap H locs ∧ QQ τ F2 xa tx la nu tr dr wi ga im i0 i1 l0 l1 w0 w1 nw wn pa lz lk wl y K.1 K.2.2.2.2 k0 k1 c2 n2 N tb (bK K) (K.2.2.2.2 1002) (K.2.2.2.2 1003) (K.2.2.2.2 1004) := by
    rcases ew with e | e
    · rw [e] at hGx; exact ⟨_, _, _, hGx, hq⟩
    · rw [e] at hGx; exact ⟨_, _, _, hGx, qq_rem hzn hq⟩
  have hGm := TG.fr hGm (fun a h => (hdj a).resolve_right h) hf hGx.2.1
  refine lv_pop X.1 X.2.1 dL_law_410 rfl ?_
  refine lv_aload_n X.1 X.2.1 dL_law_411 rfl (lv_at hl 2 rfl) ?_
  refine lw_arg (j := 1) X hX hbl hL hl hx hGx.2.1 (by decide) dL_law_412 dL_law_413 dL_law_414 dL_law_415 dL_law_416 (fun v4 e4 => ?_)
  refine lw_nz X dL_law_417 dL_law_420 dL_law_421 dL_law_424 (fun v5 z5 => ?_)
  refine f_cVi X hGm (c_X10_drive l D cy τm hU ok hma v5 z5) hma rfl yv_X10_drive q_1138 ⟨rfl, rfl⟩ ⟨Nat.le_of_ble_eq_true rfl, Nat.le_of_ble_eq_true rfl⟩ rfl hl.1 rfl (Nat.le_of_ble_eq_true rfl) hc0 dL_law_425 (fun r6 o6 H locs hGm hf po => ?_)
  have hGx := TG.fr hGx (fun a h => (hdj a).resolve_left h) hf hGm.2.1
  obtain ⟨⟨y6, ok, ew⟩, po6⟩ := po
  rw [ew] at hGm
  refine lv_pop X.1 X.2.1 dL_law_428 rfl ?_
  refine lv_goto (tgt := 1014) X.1 X.2.1 dL_law_429 (by decide) ?_
  refine W.widen (k := cells + 1) (n := slots + 8520) (Nat.le_succ _) (Nat.le_add_right _ _) ?_
  exact kk _ _ ⟨_, _, _, _, _, _, _, _, _, _, _, _, _, _, _, _, _, _, _, _, _, _, _, _, K, _, _, _, _, _, _, _, _, hGx, hGm, ok, hU, hq, hyK, hB, hma, hdj, hS, SK.up hsk⟩
set_option maxHeartbeats 4000000 in
set_option maxRecDepth 100000 in
theorem law_c10 {p : Program} {l : Launch} {e : Env} {s : State} {m : MethodId} {below : List Frame} {meth : Method} {c : Code} {H : Heap} {locs : List Loc} {cells slots : Nat} {Q : State → Prop} {ls : Array Slot} {D : va_G} {cy : Nat → ClassId} {b L xa ma : Nat} {xs : Nat → Int32} {z : EVt} {x : Int32} {ic : Nat} (X : ty_X p c s m #[Value.ref b] cL_law "EdgeEchoesLaw" 4 D cy) (hE : EW (fun q => s.heap.size ≤ q) s s.heap z) (hX : va_X b L xs s s.heap) (hbl : b < s.heap.size) (hL : L ≤ 2048) (hl : lv_has ls 4 [(0, .ref b), (1, .ref xa), (2, .ref ma), (3, .int x)]) (hx : 0 ≤ x.toInt ∧ x.toInt + 4 ≤ L) (hcs : cells + 1 ≤ 138320 ∧ slots + 8520 ≤ 8687290) (hic : ic ≤ 512) (hJ : LJ D cy s xa ma ic H locs) (kk : ∀ H locs, LJ D cy s xa ma (ic + 1) H locs → W p l e room_1 s m #[Value.ref b] below meth c H locs (cells + 1) (slots + 8520) Q (F0 m 1014 ls [])) : W p l e room_1 s m #[Value.ref b] below meth c H locs cells slots Q (F0 m 432 ls []) := by
  have hc0 : cells ≤ room_1.cells ∧ slots ≤ room_1.slots := ⟨Nat.le_trans (Nat.le_succ _) hcs.1, Nat.le_trans (Nat.le_add_right _ _) hcs.2⟩
  obtain ⟨τ, τm, F, tx, la, nu, tr, dr, wi, ga, im, i0, i1, l0, l1, w0, w1, nw, wn, pa, lz, lk, wl, y, K, P, N, u, k0, k1, cu, nx, tb, hGx, hGm, ok, hU, hq, hyK, hB, hma, hdj, hS, hsk⟩ := hJ
  obtain ⟨hp, hs, hy, hr, hv⟩ := id hq
  have hxa := hp.1
  have hk9 := ok.1.2.2.1
  have hk13 := ok.1.2.2.2
  have hbk := SK.lt hsk hic
  obtain ⟨zn, hzn, fzn⟩ := hv.1.2.2.2.2.2.1.2.2
  have hk7 := ok.1.2.1
  refine lv_aload_n X.1 X.2.1 dL_law_432 rfl (lv_at hl 1 rfl) ?_
  refine lw_arg (j := 1) X hX hbl hL hl hx hGx.2.1 (by decide) dL_law_433 dL_law_434 dL_law_435 dL_law_436 dL_law_437 (fun v1 e1 => ?_)
  refine f_cVi X hGx (e_X9_cut l D cy τ hs hxa hr.1 hv.1 fzn v1) hxa rfl yv_X9_cut q_679 ⟨rfl, rfl⟩ ⟨Nat.le_of_ble_eq_true rfl, Nat.le_of_ble_eq_true rfl⟩ rfl hl.1 rfl (Nat.le_of_ble_eq_true rfl) hc0 dL_law_438 (fun r2 o2 H locs hGx hf po => ?_)
  obtain ⟨ew, po2⟩ := po
  obtain ⟨F2, c2, n2, hGx, hq⟩ : ∃ F2 c2 n2, TG D cy τ (pv F2 (cn Mx τ)) (fun q => s.heap.size ≤ q) s.heap H locs ∧ QQ τ F2 xa tx la nu tr dr wi ga im i0 i1 l0 l1 w0 w1 nw wn pa lz lk wl y K.1 K.2.2.2.2 k0 k1 c2 n2 N tb (bK K) (K.2.2.2.2 1002) (K.2.2.2.2 1003) (K.2.2.2.2 1004) := by
    rcases ew with e | e
    · rw [e] at hGx; exact ⟨_, _, _, hGx, hq⟩
    · rw [e] at hGx; exact ⟨_, _, _, hGx, qq_rem hzn hq⟩
  have hGm := TG.fr hGm (fun a h => (hdj a).resolve_right h) hf hGx.2.1
  refine lv_pop X.1 X.2.1 dL_law_441 rfl ?_
  refine lv_aload_n X.1 X.2.1 dL_law_442 rfl (lv_at hl 2 rfl) ?_
  refine lw_arg (j := 1) X hX hbl hL hl hx hGx.2.1 (by decide) dL_law_443 dL_law_444 dL_law_445 dL_law_446 dL_law_447 (fun v3 e3 => ?_)
  refine f_cVi X hGm (c_X10_cut l D cy τm hU ok hma v3) hma rfl yv_X10_cut q_1146 ⟨rfl, rfl⟩ ⟨Nat.le_of_ble_eq_true rfl, Nat.le_of_ble_eq_true rfl⟩ rfl hl.1 rfl (Nat.le_of_ble_eq_true rfl) hc0 dL_law_448 (fun r4 o4 H locs hGm hf po => ?_)
  have hGx := TG.fr hGx (fun a h => (hdj a).resolve_left h) hf hGm.2.1
  obtain ⟨⟨y4, ok, ew⟩, po4⟩ := po
  rw [ew] at hGm
  refine lv_pop X.1 X.2.1 dL_law_451 rfl ?_
  refine lv_goto (tgt := 1014) X.1 X.2.1 dL_law_452 (by decide) ?_
  refine W.widen (k := cells + 1) (n := slots + 8520) (Nat.le_succ _) (Nat.le_add_right _ _) ?_
  exact kk _ _ ⟨_, _, _, _, _, _, _, _, _, _, _, _, _, _, _, _, _, _, _, _, _, _, _, _, K, _, _, _, _, _, _, _, _, hGx, hGm, ok, hU, hq, hyK, hB, hma, hdj, hS, SK.up hsk⟩
set_option maxHeartbeats 4000000 in
set_option maxRecDepth 100000 in
theorem law_c11 {p : Program} {l : Launch} {e : Env} {s : State} {m : MethodId} {below : List Frame} {meth : Method} {c : Code} {H : Heap} {locs : List Loc} {cells slots : Nat} {Q : State → Prop} {ls : Array Slot} {D : va_G} {cy : Nat → ClassId} {b L xa ma : Nat} {xs : Nat → Int32} {z : EVt} {x : Int32} {ic : Nat} (X : ty_X p c s m #[Value.ref b] cL_law "EdgeEchoesLaw" 4 D cy) (hE : EW (fun q => s.heap.size ≤ q) s s.heap z) (hX : va_X b L xs s s.heap) (hbl : b < s.heap.size) (hL : L ≤ 2048) (hl : lv_has ls 4 [(0, .ref b), (1, .ref xa), (2, .ref ma), (3, .int x)]) (hx : 0 ≤ x.toInt ∧ x.toInt + 4 ≤ L) (hcs : cells + 1 ≤ 138320 ∧ slots + 8520 ≤ 8687290) (hic : ic ≤ 512) (hJ : LJ D cy s xa ma ic H locs) (kk : ∀ H locs, LJ D cy s xa ma (ic + 1) H locs → W p l e room_1 s m #[Value.ref b] below meth c H locs (cells + 1) (slots + 8520) Q (F0 m 1014 ls [])) : W p l e room_1 s m #[Value.ref b] below meth c H locs cells slots Q (F0 m 455 ls []) := by
  have hc0 : cells ≤ room_1.cells ∧ slots ≤ room_1.slots := ⟨Nat.le_trans (Nat.le_succ _) hcs.1, Nat.le_trans (Nat.le_add_right _ _) hcs.2⟩
  obtain ⟨τ, τm, F, tx, la, nu, tr, dr, wi, ga, im, i0, i1, l0, l1, w0, w1, nw, wn, pa, lz, lk, wl, y, K, P, N, u, k0, k1, cu, nx, tb, hGx, hGm, ok, hU, hq, hyK, hB, hma, hdj, hS, hsk⟩ := hJ
  obtain ⟨hp, hs, hy, hr, hv⟩ := id hq
  have hxa := hp.1
  have hk9 := ok.1.2.2.1
  have hk13 := ok.1.2.2.2
  have hbk := SK.lt hsk hic
  obtain ⟨zn, hzn, fzn⟩ := hv.1.2.2.2.2.2.1.2.2
  have hk7 := ok.1.2.1
  refine lv_aload_n X.1 X.2.1 dL_law_455 rfl (lv_at hl 1 rfl) ?_
  refine lw_arg (j := 1) X hX hbl hL hl hx hGx.2.1 (by decide) dL_law_456 dL_law_457 dL_law_458 dL_law_459 dL_law_460 (fun v1 e1 => ?_)
  refine f_cVi X hGx (e_X9_brief l D cy τ hs hxa hr.1 hv.1 fzn v1) hxa rfl yv_X9_brief q_687 ⟨rfl, rfl⟩ ⟨Nat.le_of_ble_eq_true rfl, Nat.le_of_ble_eq_true rfl⟩ rfl hl.1 rfl (Nat.le_of_ble_eq_true rfl) hc0 dL_law_461 (fun r2 o2 H locs hGx hf po => ?_)
  obtain ⟨ew, po2⟩ := po
  obtain ⟨F2, c2, n2, hGx, hq⟩ : ∃ F2 c2 n2, TG D cy τ (pv F2 (cn Mx τ)) (fun q => s.heap.size ≤ q) s.heap H locs ∧ QQ τ F2 xa tx la nu tr dr wi ga im i0 i1 l0 l1 w0 w1 nw wn pa lz lk wl y K.1 K.2.2.2.2 k0 k1 c2 n2 N tb (bK K) (K.2.2.2.2 1002) (K.2.2.2.2 1003) (K.2.2.2.2 1004) := by
    rcases ew with e | e
    · rw [e] at hGx; exact ⟨_, _, _, hGx, hq⟩
    · rw [e] at hGx; exact ⟨_, _, _, hGx, qq_rem hzn hq⟩
  have hGm := TG.fr hGm (fun a h => (hdj a).resolve_right h) hf hGx.2.1
  refine lv_pop X.1 X.2.1 dL_law_464 rfl ?_
  refine lv_aload_n X.1 X.2.1 dL_law_465 rfl (lv_at hl 2 rfl) ?_
  refine lw_arg (j := 1) X hX hbl hL hl hx hGx.2.1 (by decide) dL_law_466 dL_law_467 dL_law_468 dL_law_469 dL_law_470 (fun v3 e3 => ?_)
  refine f_cVi X hGm (c_X10_brief l D cy τm hU ok hma v3) hma rfl yv_X10_brief q_1154 ⟨rfl, rfl⟩ ⟨Nat.le_of_ble_eq_true rfl, Nat.le_of_ble_eq_true rfl⟩ rfl hl.1 rfl (Nat.le_of_ble_eq_true rfl) hc0 dL_law_471 (fun r4 o4 H locs hGm hf po => ?_)
  have hGx := TG.fr hGx (fun a h => (hdj a).resolve_left h) hf hGm.2.1
  obtain ⟨⟨y4, ok, ew⟩, po4⟩ := po
  rw [ew] at hGm
  refine lv_pop X.1 X.2.1 dL_law_474 rfl ?_
  refine lv_goto (tgt := 1014) X.1 X.2.1 dL_law_475 (by decide) ?_
  refine W.widen (k := cells + 1) (n := slots + 8520) (Nat.le_succ _) (Nat.le_add_right _ _) ?_
  exact kk _ _ ⟨_, _, _, _, _, _, _, _, _, _, _, _, _, _, _, _, _, _, _, _, _, _, _, _, K, _, _, _, _, _, _, _, _, hGx, hGm, ok, hU, hq, hyK, hB, hma, hdj, hS, SK.up hsk⟩
set_option maxHeartbeats 4000000 in
set_option maxRecDepth 100000 in
theorem law_c12 {p : Program} {l : Launch} {e : Env} {s : State} {m : MethodId} {below : List Frame} {meth : Method} {c : Code} {H : Heap} {locs : List Loc} {cells slots : Nat} {Q : State → Prop} {ls : Array Slot} {D : va_G} {cy : Nat → ClassId} {b L xa ma : Nat} {xs : Nat → Int32} {z : EVt} {x : Int32} {ic : Nat} (X : ty_X p c s m #[Value.ref b] cL_law "EdgeEchoesLaw" 4 D cy) (hE : EW (fun q => s.heap.size ≤ q) s s.heap z) (hX : va_X b L xs s s.heap) (hbl : b < s.heap.size) (hL : L ≤ 2048) (hl : lv_has ls 4 [(0, .ref b), (1, .ref xa), (2, .ref ma), (3, .int x)]) (hx : 0 ≤ x.toInt ∧ x.toInt + 4 ≤ L) (hcs : cells + 1 ≤ 138320 ∧ slots + 8520 ≤ 8687290) (hic : ic ≤ 512) (hJ : LJ D cy s xa ma ic H locs) (kk : ∀ H locs, LJ D cy s xa ma (ic + 1) H locs → W p l e room_1 s m #[Value.ref b] below meth c H locs (cells + 1) (slots + 8520) Q (F0 m 1014 ls [])) : W p l e room_1 s m #[Value.ref b] below meth c H locs cells slots Q (F0 m 478 ls []) := by
  have hc0 : cells ≤ room_1.cells ∧ slots ≤ room_1.slots := ⟨Nat.le_trans (Nat.le_succ _) hcs.1, Nat.le_trans (Nat.le_add_right _ _) hcs.2⟩
  obtain ⟨τ, τm, F, tx, la, nu, tr, dr, wi, ga, im, i0, i1, l0, l1, w0, w1, nw, wn, pa, lz, lk, wl, y, K, P, N, u, k0, k1, cu, nx, tb, hGx, hGm, ok, hU, hq, hyK, hB, hma, hdj, hS, hsk⟩ := hJ
  obtain ⟨hp, hs, hy, hr, hv⟩ := id hq
  have hxa := hp.1
  have hk9 := ok.1.2.2.1
  have hk13 := ok.1.2.2.2
  have hbk := SK.lt hsk hic
  obtain ⟨zn, hzn, fzn⟩ := hv.1.2.2.2.2.2.1.2.2
  have hk7 := ok.1.2.1
  refine lv_aload_n X.1 X.2.1 dL_law_478 rfl (lv_at hl 1 rfl) ?_
  refine lw_arg (j := 1) X hX hbl hL hl hx hGx.2.1 (by decide) dL_law_479 dL_law_480 dL_law_481 dL_law_482 dL_law_483 (fun v1 e1 => ?_)
  refine f_cVi X hGx (e_X9_mend l D cy τ hs hxa hr.1 hv.1 fzn v1) hxa rfl yv_X9_mend q_691 ⟨rfl, rfl⟩ ⟨Nat.le_of_ble_eq_true rfl, Nat.le_of_ble_eq_true rfl⟩ rfl hl.1 rfl (Nat.le_of_ble_eq_true rfl) hc0 dL_law_484 (fun r2 o2 H locs hGx hf po => ?_)
  obtain ⟨ew, po2⟩ := po
  obtain ⟨F2, c2, n2, hGx, hq⟩ : ∃ F2 c2 n2, TG D cy τ (pv F2 (cn Mx τ)) (fun q => s.heap.size ≤ q) s.heap H locs ∧ QQ τ F2 xa tx la nu tr dr wi ga im i0 i1 l0 l1 w0 w1 nw wn pa lz lk wl y K.1 K.2.2.2.2 k0 k1 c2 n2 N tb (bK K) (K.2.2.2.2 1002) (K.2.2.2.2 1003) (K.2.2.2.2 1004) := by
    rcases ew with e | e
    · rw [e] at hGx; exact ⟨_, _, _, hGx, hq⟩
    · rw [e] at hGx; exact ⟨_, _, _, hGx, qq_rem hzn hq⟩
  have hGm := TG.fr hGm (fun a h => (hdj a).resolve_right h) hf hGx.2.1
  refine lv_pop X.1 X.2.1 dL_law_487 rfl ?_
  refine lv_aload_n X.1 X.2.1 dL_law_488 rfl (lv_at hl 2 rfl) ?_
  refine lw_arg (j := 1) X hX hbl hL hl hx hGx.2.1 (by decide) dL_law_489 dL_law_490 dL_law_491 dL_law_492 dL_law_493 (fun v3 e3 => ?_)
  refine f_cVi X hGm (c_X10_mend l D cy τm hU ok hma v3) hma rfl yv_X10_mend q_1158 ⟨rfl, rfl⟩ ⟨Nat.le_of_ble_eq_true rfl, Nat.le_of_ble_eq_true rfl⟩ rfl hl.1 rfl (Nat.le_of_ble_eq_true rfl) hc0 dL_law_494 (fun r4 o4 H locs hGm hf po => ?_)
  have hGx := TG.fr hGx (fun a h => (hdj a).resolve_left h) hf hGm.2.1
  obtain ⟨⟨y4, ok, ew⟩, po4⟩ := po
  rw [ew] at hGm
  refine lv_pop X.1 X.2.1 dL_law_497 rfl ?_
  refine lv_goto (tgt := 1014) X.1 X.2.1 dL_law_498 (by decide) ?_
  refine W.widen (k := cells + 1) (n := slots + 8520) (Nat.le_succ _) (Nat.le_add_right _ _) ?_
  exact kk _ _ ⟨_, _, _, _, _, _, _, _, _, _, _, _, _, _, _, _, _, _, _, _, _, _, _, _, K, _, _, _, _, _, _, _, _, hGx, hGm, ok, hU, hq, hyK, hB, hma, hdj, hS, SK.up hsk⟩
set_option maxHeartbeats 4000000 in
set_option maxRecDepth 100000 in
theorem law_c13 {p : Program} {l : Launch} {e : Env} {s : State} {m : MethodId} {below : List Frame} {meth : Method} {c : Code} {H : Heap} {locs : List Loc} {cells slots : Nat} {Q : State → Prop} {ls : Array Slot} {D : va_G} {cy : Nat → ClassId} {b L xa ma : Nat} {xs : Nat → Int32} {z : EVt} {x : Int32} {ic : Nat} (X : ty_X p c s m #[Value.ref b] cL_law "EdgeEchoesLaw" 4 D cy) (hE : EW (fun q => s.heap.size ≤ q) s s.heap z) (hX : va_X b L xs s s.heap) (hbl : b < s.heap.size) (hL : L ≤ 2048) (hl : lv_has ls 4 [(0, .ref b), (1, .ref xa), (2, .ref ma), (3, .int x)]) (hx : 0 ≤ x.toInt ∧ x.toInt + 4 ≤ L) (hcs : cells + 1 ≤ 138320 ∧ slots + 8520 ≤ 8687290) (hic : ic ≤ 512) (hJ : LJ D cy s xa ma ic H locs) (kk : ∀ H locs, LJ D cy s xa ma (ic + 1) H locs → W p l e room_1 s m #[Value.ref b] below meth c H locs (cells + 1) (slots + 8520) Q (F0 m 1014 ls [])) : W p l e room_1 s m #[Value.ref b] below meth c H locs cells slots Q (F0 m 501 ls []) := by
  have hc0 : cells ≤ room_1.cells ∧ slots ≤ room_1.slots := ⟨Nat.le_trans (Nat.le_succ _) hcs.1, Nat.le_trans (Nat.le_add_right _ _) hcs.2⟩
  obtain ⟨τ, τm, F, tx, la, nu, tr, dr, wi, ga, im, i0, i1, l0, l1, w0, w1, nw, wn, pa, lz, lk, wl, y, K, P, N, u, k0, k1, cu, nx, tb, hGx, hGm, ok, hU, hq, hyK, hB, hma, hdj, hS, hsk⟩ := hJ
  obtain ⟨hp, hs, hy, hr, hv⟩ := id hq
  have hxa := hp.1
  have hk9 := ok.1.2.2.1
  have hk13 := ok.1.2.2.2
  have hbk := SK.lt hsk hic
  obtain ⟨zn, hzn, fzn⟩ := hv.1.2.2.2.2.2.1.2.2
  have hk7 := ok.1.2.1
  refine lv_aload_n X.1 X.2.1 dL_law_501 rfl (lv_at hl 1 rfl) ?_
  refine lw_arg (j := 1) X hX hbl hL hl hx hGx.2.1 (by decide) dL_law_502 dL_law_503 dL_law_504 dL_law_505 dL_law_506 (fun v1 e1 => ?_)
  refine lw_arg (j := 2) X hX hbl hL hl hx hGx.2.1 (by decide) dL_law_507 dL_law_508 dL_law_509 dL_law_510 dL_law_511 (fun v2 e2 => ?_)
  refine f_cVi X hGx (e_X9_piece l D cy τ hs hxa hr.1 hv.1 fzn v1 v2) hxa rfl yv_X9_piece q_695 ⟨rfl, rfl⟩ ⟨Nat.le_of_ble_eq_true rfl, Nat.le_of_ble_eq_true rfl⟩ rfl hl.1 rfl (Nat.le_of_ble_eq_true rfl) hc0 dL_law_512 (fun r3 o3 H locs hGx hf po => ?_)
  obtain ⟨ew, po3⟩ := po
  obtain ⟨F2, c2, n2, hGx, hq⟩ : ∃ F2 c2 n2, TG D cy τ (pv F2 (cn Mx τ)) (fun q => s.heap.size ≤ q) s.heap H locs ∧ QQ τ F2 xa tx la nu tr dr wi ga im i0 i1 l0 l1 w0 w1 nw wn pa lz lk wl y K.1 K.2.2.2.2 k0 k1 c2 n2 N tb (bK K) (K.2.2.2.2 1002) (K.2.2.2.2 1003) (K.2.2.2.2 1004) := by
    rcases ew with e | e
    · rw [e] at hGx; exact ⟨_, _, _, hGx, hq⟩
    · rw [e] at hGx; exact ⟨_, _, _, hGx, qq_rem hzn hq⟩
  have hGm := TG.fr hGm (fun a h => (hdj a).resolve_right h) hf hGx.2.1
  refine lv_pop X.1 X.2.1 dL_law_515 rfl ?_
  refine lv_aload_n X.1 X.2.1 dL_law_516 rfl (lv_at hl 2 rfl) ?_
  refine lw_arg (j := 1) X hX hbl hL hl hx hGx.2.1 (by decide) dL_law_517 dL_law_518 dL_law_519 dL_law_520 dL_law_521 (fun v4 e4 => ?_)
  refine lw_arg (j := 2) X hX hbl hL hl hx hGx.2.1 (by decide) dL_law_522 dL_law_523 dL_law_524 dL_law_525 dL_law_526 (fun v5 e5 => ?_)
  refine f_cVi X hGm (c_X10_piece l D cy τm hU ok hma v4 v5) hma rfl yv_X10_piece q_1162 ⟨rfl, rfl⟩ ⟨Nat.le_of_ble_eq_true rfl, Nat.le_of_ble_eq_true rfl⟩ rfl hl.1 rfl (Nat.le_of_ble_eq_true rfl) hc0 dL_law_527 (fun r6 o6 H locs hGm hf po => ?_)
  have hGx := TG.fr hGx (fun a h => (hdj a).resolve_left h) hf hGm.2.1
  obtain ⟨⟨y6, ok, ew⟩, po6⟩ := po
  rw [ew] at hGm
  refine lv_pop X.1 X.2.1 dL_law_530 rfl ?_
  refine lv_goto (tgt := 1014) X.1 X.2.1 dL_law_531 (by decide) ?_
  refine W.widen (k := cells + 1) (n := slots + 8520) (Nat.le_succ _) (Nat.le_add_right _ _) ?_
  exact kk _ _ ⟨_, _, _, _, _, _, _, _, _, _, _, _, _, _, _, _, _, _, _, _, _, _, _, _, K, _, _, _, _, _, _, _, _, hGx, hGm, ok, hU, hq, hyK, hB, hma, hdj, hS, SK.up hsk⟩
set_option maxHeartbeats 4000000 in
set_option maxRecDepth 100000 in
theorem law_c14 {p : Program} {l : Launch} {e : Env} {s : State} {m : MethodId} {below : List Frame} {meth : Method} {c : Code} {H : Heap} {locs : List Loc} {cells slots : Nat} {Q : State → Prop} {ls : Array Slot} {D : va_G} {cy : Nat → ClassId} {b L xa ma : Nat} {xs : Nat → Int32} {z : EVt} {x : Int32} {ic : Nat} (X : ty_X p c s m #[Value.ref b] cL_law "EdgeEchoesLaw" 4 D cy) (hE : EW (fun q => s.heap.size ≤ q) s s.heap z) (hX : va_X b L xs s s.heap) (hbl : b < s.heap.size) (hL : L ≤ 2048) (hl : lv_has ls 4 [(0, .ref b), (1, .ref xa), (2, .ref ma), (3, .int x)]) (hx : 0 ≤ x.toInt ∧ x.toInt + 4 ≤ L) (hcs : cells + 1 ≤ 138320 ∧ slots + 8520 ≤ 8687290) (hic : ic ≤ 512) (hJ : LJ D cy s xa ma ic H locs) (kk : ∀ H locs, LJ D cy s xa ma (ic + 1) H locs → W p l e room_1 s m #[Value.ref b] below meth c H locs (cells + 1) (slots + 8520) Q (F0 m 1014 ls [])) : W p l e room_1 s m #[Value.ref b] below meth c H locs cells slots Q (F0 m 534 ls []) := by
  have hc0 : cells ≤ room_1.cells ∧ slots ≤ room_1.slots := ⟨Nat.le_trans (Nat.le_succ _) hcs.1, Nat.le_trans (Nat.le_add_right _ _) hcs.2⟩
  obtain ⟨τ, τm, F, tx, la, nu, tr, dr, wi, ga, im, i0, i1, l0, l1, w0, w1, nw, wn, pa, lz, lk, wl, y, K, P, N, u, k0, k1, cu, nx, tb, hGx, hGm, ok, hU, hq, hyK, hB, hma, hdj, hS, hsk⟩ := hJ
  obtain ⟨hp, hs, hy, hr, hv⟩ := id hq
  have hxa := hp.1
  have hk9 := ok.1.2.2.1
  have hk13 := ok.1.2.2.2
  have hbk := SK.lt hsk hic
  obtain ⟨zn, hzn, fzn⟩ := hv.1.2.2.2.2.2.1.2.2
  have hk7 := ok.1.2.1
  refine lv_aload_n X.1 X.2.1 dL_law_534 rfl (lv_at hl 1 rfl) ?_
  refine lw_arg (j := 1) X hX hbl hL hl hx hGx.2.1 (by decide) dL_law_535 dL_law_536 dL_law_537 dL_law_538 dL_law_539 (fun v1 e1 => ?_)
  refine lw_arg (j := 2) X hX hbl hL hl hx hGx.2.1 (by decide) dL_law_540 dL_law_541 dL_law_542 dL_law_543 dL_law_544 (fun v2 e2 => ?_)
  refine f_cVi X hGx (e_X9_end l D cy τ hs hxa hr.1 hv.1 fzn v1 v2) hxa rfl yv_X9_end q_700 ⟨rfl, rfl⟩ ⟨Nat.le_of_ble_eq_true rfl, Nat.le_of_ble_eq_true rfl⟩ rfl hl.1 rfl (Nat.le_of_ble_eq_true rfl) hc0 dL_law_545 (fun r3 o3 H locs hGx hf po => ?_)
  obtain ⟨ew, po3⟩ := po
  obtain ⟨F2, c2, n2, hGx, hq⟩ : ∃ F2 c2 n2, TG D cy τ (pv F2 (cn Mx τ)) (fun q => s.heap.size ≤ q) s.heap H locs ∧ QQ τ F2 xa tx la nu tr dr wi ga im i0 i1 l0 l1 w0 w1 nw wn pa lz lk wl y K.1 K.2.2.2.2 k0 k1 c2 n2 N tb (bK K) (K.2.2.2.2 1002) (K.2.2.2.2 1003) (K.2.2.2.2 1004) := by
    rcases ew with e | e
    · rw [e] at hGx; exact ⟨_, _, _, hGx, hq⟩
    · rw [e] at hGx; exact ⟨_, _, _, hGx, qq_rem hzn hq⟩
  have hGm := TG.fr hGm (fun a h => (hdj a).resolve_right h) hf hGx.2.1
  refine lv_pop X.1 X.2.1 dL_law_548 rfl ?_
  refine lv_aload_n X.1 X.2.1 dL_law_549 rfl (lv_at hl 2 rfl) ?_
  refine lw_arg (j := 1) X hX hbl hL hl hx hGx.2.1 (by decide) dL_law_550 dL_law_551 dL_law_552 dL_law_553 dL_law_554 (fun v4 e4 => ?_)
  refine lw_arg (j := 2) X hX hbl hL hl hx hGx.2.1 (by decide) dL_law_555 dL_law_556 dL_law_557 dL_law_558 dL_law_559 (fun v5 e5 => ?_)
  refine f_cVi X hGm (c_X10_end l D cy τm hU ok hma v4 v5) hma rfl yv_X10_end q_1167 ⟨rfl, rfl⟩ ⟨Nat.le_of_ble_eq_true rfl, Nat.le_of_ble_eq_true rfl⟩ rfl hl.1 rfl (Nat.le_of_ble_eq_true rfl) hc0 dL_law_560 (fun r6 o6 H locs hGm hf po => ?_)
  have hGx := TG.fr hGx (fun a h => (hdj a).resolve_left h) hf hGm.2.1
  obtain ⟨⟨y6, ok, ew⟩, po6⟩ := po
  rw [ew] at hGm
  refine lv_pop X.1 X.2.1 dL_law_563 rfl ?_
  refine lv_goto (tgt := 1014) X.1 X.2.1 dL_law_564 (by decide) ?_
  refine W.widen (k := cells + 1) (n := slots + 8520) (Nat.le_succ _) (Nat.le_add_right _ _) ?_
  exact kk _ _ ⟨_, _, _, _, _, _, _, _, _, _, _, _, _, _, _, _, _, _, _, _, _, _, _, _, K, _, _, _, _, _, _, _, _, hGx, hGm, ok, hU, hq, hyK, hB, hma, hdj, hS, SK.up hsk⟩
set_option maxHeartbeats 4000000 in
set_option maxRecDepth 100000 in
theorem law_c15 {p : Program} {l : Launch} {e : Env} {s : State} {m : MethodId} {below : List Frame} {meth : Method} {c : Code} {H : Heap} {locs : List Loc} {cells slots : Nat} {Q : State → Prop} {ls : Array Slot} {D : va_G} {cy : Nat → ClassId} {b L xa ma : Nat} {xs : Nat → Int32} {z : EVt} {x : Int32} {ic : Nat} (X : ty_X p c s m #[Value.ref b] cL_law "EdgeEchoesLaw" 4 D cy) (hE : EW (fun q => s.heap.size ≤ q) s s.heap z) (hX : va_X b L xs s s.heap) (hbl : b < s.heap.size) (hL : L ≤ 2048) (hl : lv_has ls 4 [(0, .ref b), (1, .ref xa), (2, .ref ma), (3, .int x)]) (hx : 0 ≤ x.toInt ∧ x.toInt + 4 ≤ L) (hcs : cells + 1 ≤ 138320 ∧ slots + 8520 ≤ 8687290) (hic : ic ≤ 512) (hJ : LJ D cy s xa ma ic H locs) (kk : ∀ H locs, LJ D cy s xa ma (ic + 1) H locs → W p l e room_1 s m #[Value.ref b] below meth c H locs (cells + 1) (slots + 8520) Q (F0 m 1014 ls [])) : W p l e room_1 s m #[Value.ref b] below meth c H locs cells slots Q (F0 m 567 ls []) := by
  have hc0 : cells ≤ room_1.cells ∧ slots ≤ room_1.slots := ⟨Nat.le_trans (Nat.le_succ _) hcs.1, Nat.le_trans (Nat.le_add_right _ _) hcs.2⟩
  obtain ⟨τ, τm, F, tx, la, nu, tr, dr, wi, ga, im, i0, i1, l0, l1, w0, w1, nw, wn, pa, lz, lk, wl, y, K, P, N, u, k0, k1, cu, nx, tb, hGx, hGm, ok, hU, hq, hyK, hB, hma, hdj, hS, hsk⟩ := hJ
  obtain ⟨hp, hs, hy, hr, hv⟩ := id hq
  have hxa := hp.1
  have hk9 := ok.1.2.2.1
  have hk13 := ok.1.2.2.2
  have hbk := SK.lt hsk hic
  obtain ⟨zn, hzn, fzn⟩ := hv.1.2.2.2.2.2.1.2.2
  have hk7 := ok.1.2.1
  refine lv_aload_n X.1 X.2.1 dL_law_567 rfl (lv_at hl 1 rfl) ?_
  refine lw_arg (j := 1) X hX hbl hL hl hx hGx.2.1 (by decide) dL_law_568 dL_law_569 dL_law_570 dL_law_571 dL_law_572 (fun v1 e1 => ?_)
  refine f_cVi X hGx (e_X9_ohms l D cy τ hs hxa hr.1 hv.1 fzn v1) hxa rfl yv_X9_ohms q_705 ⟨rfl, rfl⟩ ⟨Nat.le_of_ble_eq_true rfl, Nat.le_of_ble_eq_true rfl⟩ rfl hl.1 rfl (Nat.le_of_ble_eq_true rfl) hc0 dL_law_573 (fun r2 o2 H locs hGx hf po => ?_)
  obtain ⟨ew, po2⟩ := po
  obtain ⟨F2, c2, n2, hGx, hq⟩ : ∃ F2 c2 n2, TG D cy τ (pv F2 (cn Mx τ)) (fun q => s.heap.size ≤ q) s.heap H locs ∧ QQ τ F2 xa tx la nu tr dr wi ga im i0 i1 l0 l1 w0 w1 nw wn pa lz lk wl y K.1 K.2.2.2.2 k0 k1 c2 n2 N tb (bK K) (K.2.2.2.2 1002) (K.2.2.2.2 1003) (K.2.2.2.2 1004) := by
    rcases ew with e | e
    · rw [e] at hGx; exact ⟨_, _, _, hGx, hq⟩
    · rw [e] at hGx; exact ⟨_, _, _, hGx, qq_rem hzn hq⟩
  have hGm := TG.fr hGm (fun a h => (hdj a).resolve_right h) hf hGx.2.1
  refine lv_pop X.1 X.2.1 dL_law_576 rfl ?_
  refine lv_aload_n X.1 X.2.1 dL_law_577 rfl (lv_at hl 2 rfl) ?_
  refine lw_arg (j := 1) X hX hbl hL hl hx hGx.2.1 (by decide) dL_law_578 dL_law_579 dL_law_580 dL_law_581 dL_law_582 (fun v3 e3 => ?_)
  refine f_cVi X hGm (c_X10_ohms l D cy τm hU ok hma v3) hma rfl yv_X10_ohms q_1171 ⟨rfl, rfl⟩ ⟨Nat.le_of_ble_eq_true rfl, Nat.le_of_ble_eq_true rfl⟩ rfl hl.1 rfl (Nat.le_of_ble_eq_true rfl) hc0 dL_law_583 (fun r4 o4 H locs hGm hf po => ?_)
  have hGx := TG.fr hGx (fun a h => (hdj a).resolve_left h) hf hGm.2.1
  obtain ⟨⟨y4, ok, ew⟩, po4⟩ := po
  rw [ew] at hGm
  refine lv_pop X.1 X.2.1 dL_law_586 rfl ?_
  refine lv_goto (tgt := 1014) X.1 X.2.1 dL_law_587 (by decide) ?_
  refine W.widen (k := cells + 1) (n := slots + 8520) (Nat.le_succ _) (Nat.le_add_right _ _) ?_
  exact kk _ _ ⟨_, _, _, _, _, _, _, _, _, _, _, _, _, _, _, _, _, _, _, _, _, _, _, _, K, _, _, _, _, _, _, _, _, hGx, hGm, ok, hU, hq, hyK, hB, hma, hdj, hS, SK.up hsk⟩
set_option maxHeartbeats 4000000 in
set_option maxRecDepth 100000 in
theorem law_c16 {p : Program} {l : Launch} {e : Env} {s : State} {m : MethodId} {below : List Frame} {meth : Method} {c : Code} {H : Heap} {locs : List Loc} {cells slots : Nat} {Q : State → Prop} {ls : Array Slot} {D : va_G} {cy : Nat → ClassId} {b L xa ma : Nat} {xs : Nat → Int32} {z : EVt} {x : Int32} {ic : Nat} (X : ty_X p c s m #[Value.ref b] cL_law "EdgeEchoesLaw" 4 D cy) (hE : EW (fun q => s.heap.size ≤ q) s s.heap z) (hX : va_X b L xs s s.heap) (hbl : b < s.heap.size) (hL : L ≤ 2048) (hl : lv_has ls 4 [(0, .ref b), (1, .ref xa), (2, .ref ma), (3, .int x)]) (hx : 0 ≤ x.toInt ∧ x.toInt + 4 ≤ L) (hcs : cells + 1 ≤ 138320 ∧ slots + 8520 ≤ 8687290) (hic : ic ≤ 512) (hJ : LJ D cy s xa ma ic H locs) (kk : ∀ H locs, LJ D cy s xa ma (ic + 1) H locs → W p l e room_1 s m #[Value.ref b] below meth c H locs (cells + 1) (slots + 8520) Q (F0 m 1014 ls [])) : W p l e room_1 s m #[Value.ref b] below meth c H locs cells slots Q (F0 m 590 ls []) := by
  have hc0 : cells ≤ room_1.cells ∧ slots ≤ room_1.slots := ⟨Nat.le_trans (Nat.le_succ _) hcs.1, Nat.le_trans (Nat.le_add_right _ _) hcs.2⟩
  obtain ⟨τ, τm, F, tx, la, nu, tr, dr, wi, ga, im, i0, i1, l0, l1, w0, w1, nw, wn, pa, lz, lk, wl, y, K, P, N, u, k0, k1, cu, nx, tb, hGx, hGm, ok, hU, hq, hyK, hB, hma, hdj, hS, hsk⟩ := hJ
  obtain ⟨hp, hs, hy, hr, hv⟩ := id hq
  have hxa := hp.1
  have hk9 := ok.1.2.2.1
  have hk13 := ok.1.2.2.2
  have hbk := SK.lt hsk hic
  obtain ⟨zn, hzn, fzn⟩ := hv.1.2.2.2.2.2.1.2.2
  have hk7 := ok.1.2.1
  refine lv_aload_n X.1 X.2.1 dL_law_590 rfl (lv_at hl 1 rfl) ?_
  refine f_cVi X hGx (e_X9_quiet l D cy τ hs hxa hr.1 hv.1 fzn ) hxa rfl yv_X9_quiet q_709 ⟨rfl, rfl⟩ ⟨Nat.le_of_ble_eq_true rfl, Nat.le_of_ble_eq_true rfl⟩ rfl hl.1 rfl (Nat.le_of_ble_eq_true rfl) hc0 dL_law_591 (fun r1 o1 H locs hGx hf po => ?_)
  obtain ⟨ew, po1⟩ := po
  obtain ⟨F2, c2, n2, hGx, hq⟩ : ∃ F2 c2 n2, TG D cy τ (pv F2 (cn Mx τ)) (fun q => s.heap.size ≤ q) s.heap H locs ∧ QQ τ F2 xa tx la nu tr dr wi ga im i0 i1 l0 l1 w0 w1 nw wn pa lz lk wl y K.1 K.2.2.2.2 k0 k1 c2 n2 N tb (bK K) (K.2.2.2.2 1002) (K.2.2.2.2 1003) (K.2.2.2.2 1004) := by
    rcases ew with e | e
    · rw [e] at hGx; exact ⟨_, _, _, hGx, hq⟩
    · rw [e] at hGx; exact ⟨_, _, _, hGx, qq_rem hzn hq⟩
  have hGm := TG.fr hGm (fun a h => (hdj a).resolve_right h) hf hGx.2.1
  refine lv_pop X.1 X.2.1 dL_law_594 rfl ?_
  refine lv_aload_n X.1 X.2.1 dL_law_595 rfl (lv_at hl 2 rfl) ?_
  refine f_cVi X hGm (c_X10_quiet l D cy τm hU ok hma ) hma rfl yv_X10_quiet q_1175 ⟨rfl, rfl⟩ ⟨Nat.le_of_ble_eq_true rfl, Nat.le_of_ble_eq_true rfl⟩ rfl hl.1 rfl (Nat.le_of_ble_eq_true rfl) hc0 dL_law_596 (fun r2 o2 H locs hGm hf po => ?_)
  have hGx := TG.fr hGx (fun a h => (hdj a).resolve_left h) hf hGm.2.1
  obtain ⟨⟨y2, ok, ew⟩, po2⟩ := po
  rw [ew] at hGm
  refine lv_pop X.1 X.2.1 dL_law_599 rfl ?_
  refine lv_goto (tgt := 1014) X.1 X.2.1 dL_law_600 (by decide) ?_
  refine W.widen (k := cells + 1) (n := slots + 8520) (Nat.le_succ _) (Nat.le_add_right _ _) ?_
  exact kk _ _ ⟨_, _, _, _, _, _, _, _, _, _, _, _, _, _, _, _, _, _, _, _, _, _, _, _, K, _, _, _, _, _, _, _, _, hGx, hGm, ok, hU, hq, hyK, hB, hma, hdj, hS, SK.up hsk⟩
set_option maxHeartbeats 4000000 in
set_option maxRecDepth 100000 in
theorem law_c17 {p : Program} {l : Launch} {e : Env} {s : State} {m : MethodId} {below : List Frame} {meth : Method} {c : Code} {H : Heap} {locs : List Loc} {cells slots : Nat} {Q : State → Prop} {ls : Array Slot} {D : va_G} {cy : Nat → ClassId} {b L xa ma : Nat} {xs : Nat → Int32} {z : EVt} {x : Int32} {ic : Nat} (X : ty_X p c s m #[Value.ref b] cL_law "EdgeEchoesLaw" 4 D cy) (hE : EW (fun q => s.heap.size ≤ q) s s.heap z) (hX : va_X b L xs s s.heap) (hbl : b < s.heap.size) (hL : L ≤ 2048) (hl : lv_has ls 4 [(0, .ref b), (1, .ref xa), (2, .ref ma), (3, .int x)]) (hx : 0 ≤ x.toInt ∧ x.toInt + 4 ≤ L) (hcs : cells + 1 ≤ 138320 ∧ slots + 8520 ≤ 8687290) (hic : ic ≤ 512) (hJ : LJ D cy s xa ma ic H locs) (kk : ∀ H locs, LJ D cy s xa ma (ic + 1) H locs → W p l e room_1 s m #[Value.ref b] below meth c H locs (cells + 1) (slots + 8520) Q (F0 m 1014 ls [])) : W p l e room_1 s m #[Value.ref b] below meth c H locs cells slots Q (F0 m 603 ls []) := by
  have hc0 : cells ≤ room_1.cells ∧ slots ≤ room_1.slots := ⟨Nat.le_trans (Nat.le_succ _) hcs.1, Nat.le_trans (Nat.le_add_right _ _) hcs.2⟩
  obtain ⟨τ, τm, F, tx, la, nu, tr, dr, wi, ga, im, i0, i1, l0, l1, w0, w1, nw, wn, pa, lz, lk, wl, y, K, P, N, u, k0, k1, cu, nx, tb, hGx, hGm, ok, hU, hq, hyK, hB, hma, hdj, hS, hsk⟩ := hJ
  obtain ⟨hp, hs, hy, hr, hv⟩ := id hq
  have hxa := hp.1
  have hk9 := ok.1.2.2.1
  have hk13 := ok.1.2.2.2
  have hbk := SK.lt hsk hic
  obtain ⟨zn, hzn, fzn⟩ := hv.1.2.2.2.2.2.1.2.2
  have hk7 := ok.1.2.1
  refine lv_aload_n X.1 X.2.1 dL_law_603 rfl (lv_at hl 1 rfl) ?_
  refine lw_arg (j := 1) X hX hbl hL hl hx hGx.2.1 (by decide) dL_law_604 dL_law_605 dL_law_606 dL_law_607 dL_law_608 (fun v1 e1 => ?_)
  refine f_cVi X hGx (e_X9_drift l D cy τ hs hxa hr.1 hv.1 fzn v1 (by omega) hv.2.2.2.2.2.2) hxa rfl yv_X9_drift q_718 ⟨rfl, rfl⟩ ⟨Nat.le_of_ble_eq_true rfl, Nat.le_of_ble_eq_true rfl⟩ rfl hl.1 rfl (Nat.le_of_ble_eq_true rfl) hc0 dL_law_609 (fun r2 o2 H locs hGx hf po => ?_)
  obtain ⟨d1, d2⟩ := po
  have hGm := TG.fr hGm (fun a h => (hdj a).resolve_right h) hf hGx.2.1
  refine lv_pop X.1 X.2.1 dL_law_612 rfl ?_
  refine lv_aload_n X.1 X.2.1 dL_law_613 rfl (lv_at hl 2 rfl) ?_
  refine lw_arg (j := 1) X hX hbl hL hl hx hGx.2.1 (by decide) dL_law_614 dL_law_615 dL_law_616 dL_law_617 dL_law_618 (fun v3 e3 => ?_)
  refine f_cVi X hGm (e_X10_drift l D cy τm hU ok hma v3 hsk.2.2.1 hbk (bb := tb) hsk.1) hma rfl yv_X10_drift q_1183 ⟨rfl, rfl⟩ ⟨Nat.le_of_ble_eq_true rfl, Nat.le_of_ble_eq_true rfl⟩ rfl hl.1 rfl (Nat.le_of_ble_eq_true rfl) hc0 dL_law_619 (fun r4 o4 H locs hGm hf po => ?_)
  have hGx := TG.fr hGx (fun a h => (hdj a).resolve_left h) hf hGm.2.1
  have po4 := po
  refine lv_pop X.1 X.2.1 dL_law_622 rfl ?_
  refine lv_goto (tgt := 1014) X.1 X.2.1 dL_law_623 (by decide) ?_
  refine W.widen (k := cells + 1) (n := slots + 8520) (Nat.le_succ _) (Nat.le_add_right _ _) ?_
  obtain ⟨c1, c2⟩ := po4
  have ee : v3 = v1 := by rw [e3, e1]
  rw [ee] at c1 c2
  by_cases hok : okN tb v1
  · obtain ⟨y9, ok, ew⟩ := c1 hok
    rw [ew] at hGm
    rw [d1 hok] at hGx
    have hx5 := hok.1
    have hq := qq_df hzn (show zn + v1.toInt.toNat ≤ bK K + 50 by omega) (Nat.le_add_right _ _) hq
    have hq := qq_cS (sd2 := (KU (KU K 1005 (nI (bK K + 50))) 1002 (drN N v1.toInt.toNat (K.2.2.2.2 1002))).2.2.2.2 1002) (s2 := (KU (KU K 1005 (nI (bK K + 50))) 1002 (drN N v1.toInt.toNat (K.2.2.2.2 1002))).2.2.2.2 1003) (s3 := (KU (KU K 1005 (nI (bK K + 50))) 1002 (drN N v1.toInt.toNat (K.2.2.2.2 1002))).2.2.2.2 1004) KU_at ((KU_ne (by decide)).trans (KU_ne (by decide))) ((KU_ne (by decide)).trans (KU_ne (by decide))) (qq_cB (B2 := bK (KU (KU K 1005 (nI (bK K + 50))) 1002 (drN N v1.toInt.toNat (K.2.2.2.2 1002)))) ((KU_b (by decide)).trans (bK_50 hsk hic)) (qq_T (T2 := (KU (KU K 1005 (nI (bK K + 50))) 1002 (drN N v1.toInt.toNat (K.2.2.2.2 1002))).2.2.2.2) hq (fun j hj => (KU_T (K := KU K 1005 (nI (bK K + 50))) hk7 (by decide) j hj).trans (KU_T hk7 (by decide) j hj))))
    exact kk _ _ ⟨_, _, _, _, _, _, _, _, _, _, _, _, _, _, _, _, _, _, _, _, _, _, _, _, KU (KU K 1005 (nI (bK K + 50))) 1002 (drN N v1.toInt.toNat (K.2.2.2.2 1002)), _, _, _, _, _, _, _, _, hGx, hGm, ok, hU, hq, hyK, (BY_KU (K := KU K 1005 (nI (bK K + 50))) hk7 (by decide) (BY_KU hk7 (by decide) hB)), hma, hdj, hS, SK.sd (SK.tk hsk hic) (drN_0 hsk.2.2.1)⟩
  · obtain ⟨y9, ok, ew⟩ := c2 hok
    rw [ew] at hGm
    rw [d2 hok] at hGx
    have hq := qq_B (Nat.le_add_right (bK K) 50) hq
    have hq := qq_cS (sd2 := (KU K 1005 (nI (bK K + 50))).2.2.2.2 1002) (s2 := (KU K 1005 (nI (bK K + 50))).2.2.2.2 1003) (s3 := (KU K 1005 (nI (bK K + 50))).2.2.2.2 1004) (KU_ne (by decide)) (KU_ne (by decide)) (KU_ne (by decide)) (qq_cB (B2 := bK (KU K 1005 (nI (bK K + 50)))) (bK_50 hsk hic) (qq_T (T2 := (KU K 1005 (nI (bK K + 50))).2.2.2.2) hq (KU_T hk7 (by decide))))
    exact kk _ _ ⟨_, _, _, _, _, _, _, _, _, _, _, _, _, _, _, _, _, _, _, _, _, _, _, _, KU K 1005 (nI (bK K + 50)), _, _, _, _, _, _, _, _, hGx, hGm, ok, hU, hq, hyK, (BY_KU hk7 (by decide) hB), hma, hdj, hS, SK.tk hsk hic⟩
set_option maxHeartbeats 4000000 in
set_option maxRecDepth 100000 in
theorem law_c18 {p : Program} {l : Launch} {e : Env} {s : State} {m : MethodId} {below : List Frame} {meth : Method} {c : Code} {H : Heap} {locs : List Loc} {cells slots : Nat} {Q : State → Prop} {ls : Array Slot} {D : va_G} {cy : Nat → ClassId} {b L xa ma : Nat} {xs : Nat → Int32} {z : EVt} {x : Int32} {ic : Nat} (X : ty_X p c s m #[Value.ref b] cL_law "EdgeEchoesLaw" 4 D cy) (hE : EW (fun q => s.heap.size ≤ q) s s.heap z) (hX : va_X b L xs s s.heap) (hbl : b < s.heap.size) (hL : L ≤ 2048) (hl : lv_has ls 4 [(0, .ref b), (1, .ref xa), (2, .ref ma), (3, .int x)]) (hx : 0 ≤ x.toInt ∧ x.toInt + 4 ≤ L) (hcs : cells + 1 ≤ 138320 ∧ slots + 8520 ≤ 8687290) (hic : ic ≤ 512) (hJ : LJ D cy s xa ma ic H locs) (kk : ∀ H locs, LJ D cy s xa ma (ic + 1) H locs → W p l e room_1 s m #[Value.ref b] below meth c H locs (cells + 1) (slots + 8520) Q (F0 m 1014 ls [])) : W p l e room_1 s m #[Value.ref b] below meth c H locs cells slots Q (F0 m 626 ls []) := by
  have hc0 : cells ≤ room_1.cells ∧ slots ≤ room_1.slots := ⟨Nat.le_trans (Nat.le_succ _) hcs.1, Nat.le_trans (Nat.le_add_right _ _) hcs.2⟩
  obtain ⟨τ, τm, F, tx, la, nu, tr, dr, wi, ga, im, i0, i1, l0, l1, w0, w1, nw, wn, pa, lz, lk, wl, y, K, P, N, u, k0, k1, cu, nx, tb, hGx, hGm, ok, hU, hq, hyK, hB, hma, hdj, hS, hsk⟩ := hJ
  obtain ⟨hp, hs, hy, hr, hv⟩ := id hq
  have hxa := hp.1
  have hk9 := ok.1.2.2.1
  have hk13 := ok.1.2.2.2
  have hbk := SK.lt hsk hic
  obtain ⟨zn, hzn, fzn⟩ := hv.1.2.2.2.2.2.1.2.2
  have hk7 := ok.1.2.1
  refine lv_aload_n X.1 X.2.1 dL_law_626 rfl (lv_at hl 1 rfl) ?_
  refine lw_arg (j := 1) X hX hbl hL hl hx hGx.2.1 (by decide) dL_law_627 dL_law_628 dL_law_629 dL_law_630 dL_law_631 (fun v1 e1 => ?_)
  refine f_cVi X hGx (e_X9_undo l D cy τ hs hxa hr.1 hv.1 v1) hxa rfl yv_X9_undo q_734 ⟨rfl, rfl⟩ ⟨Nat.le_of_ble_eq_true rfl, Nat.le_of_ble_eq_true rfl⟩ rfl hl.1 rfl (Nat.le_of_ble_eq_true rfl) hc0 dL_law_632 (fun r2 o2 H locs hGx hf po => ?_)
  obtain ⟨ew, po2⟩ := po
  obtain ⟨F2, c2, n2, hGx, hq⟩ : ∃ F2 c2 n2, TG D cy τ (pv F2 (cn Mx τ)) (fun q => s.heap.size ≤ q) s.heap H locs ∧ QQ τ F2 xa tx la nu tr dr wi ga im i0 i1 l0 l1 w0 w1 nw wn pa lz lk wl y K.1 K.2.2.2.2 k0 k1 c2 n2 N tb (bK K) (K.2.2.2.2 1002) (K.2.2.2.2 1003) (K.2.2.2.2 1004) := by
    rcases ew with e | ⟨k, z9, h1, h2, h3, e⟩
    · rw [e] at hGx; exact ⟨_, _, _, hGx, hq⟩
    · rw [e] at hGx; exact ⟨_, _, _, hGx, qq_bb h1 h2 h3 hq⟩
  have hGm := TG.fr hGm (fun a h => (hdj a).resolve_right h) hf hGx.2.1
  refine lv_pop X.1 X.2.1 dL_law_635 rfl ?_
  refine lv_aload_n X.1 X.2.1 dL_law_636 rfl (lv_at hl 2 rfl) ?_
  refine lw_arg (j := 1) X hX hbl hL hl hx hGx.2.1 (by decide) dL_law_637 dL_law_638 dL_law_639 dL_law_640 dL_law_641 (fun v3 e3 => ?_)
  refine f_cVi X hGm (c_X10_undo l D cy τm hU ok hma v3) hma rfl yv_X10_undo q_1199 ⟨rfl, rfl⟩ ⟨Nat.le_of_ble_eq_true rfl, Nat.le_of_ble_eq_true rfl⟩ rfl hl.1 rfl (Nat.le_of_ble_eq_true rfl) hc0 dL_law_642 (fun r4 o4 H locs hGm hf po => ?_)
  have hGx := TG.fr hGx (fun a h => (hdj a).resolve_left h) hf hGm.2.1
  obtain ⟨⟨y4, ok, ew⟩, po4⟩ := po
  rw [ew] at hGm
  refine lv_pop X.1 X.2.1 dL_law_645 rfl ?_
  refine lv_goto (tgt := 1014) X.1 X.2.1 dL_law_646 (by decide) ?_
  refine W.widen (k := cells + 1) (n := slots + 8520) (Nat.le_succ _) (Nat.le_add_right _ _) ?_
  exact kk _ _ ⟨_, _, _, _, _, _, _, _, _, _, _, _, _, _, _, _, _, _, _, _, _, _, _, _, K, _, _, _, _, _, _, _, _, hGx, hGm, ok, hU, hq, hyK, hB, hma, hdj, hS, SK.up hsk⟩
set_option maxHeartbeats 4000000 in
set_option maxRecDepth 100000 in
theorem law_c19 {p : Program} {l : Launch} {e : Env} {s : State} {m : MethodId} {below : List Frame} {meth : Method} {c : Code} {H : Heap} {locs : List Loc} {cells slots : Nat} {Q : State → Prop} {ls : Array Slot} {D : va_G} {cy : Nat → ClassId} {b L xa ma : Nat} {xs : Nat → Int32} {z : EVt} {x : Int32} {ic : Nat} (X : ty_X p c s m #[Value.ref b] cL_law "EdgeEchoesLaw" 4 D cy) (hE : EW (fun q => s.heap.size ≤ q) s s.heap z) (hX : va_X b L xs s s.heap) (hbl : b < s.heap.size) (hL : L ≤ 2048) (hl : lv_has ls 4 [(0, .ref b), (1, .ref xa), (2, .ref ma), (3, .int x)]) (hx : 0 ≤ x.toInt ∧ x.toInt + 4 ≤ L) (hcs : cells + 1 ≤ 138320 ∧ slots + 8520 ≤ 8687290) (hic : ic ≤ 512) (hJ : LJ D cy s xa ma ic H locs) (kk : ∀ H locs, LJ D cy s xa ma (ic + 1) H locs → W p l e room_1 s m #[Value.ref b] below meth c H locs (cells + 1) (slots + 8520) Q (F0 m 1014 ls [])) : W p l e room_1 s m #[Value.ref b] below meth c H locs cells slots Q (F0 m 649 ls []) := by
  have hc0 : cells ≤ room_1.cells ∧ slots ≤ room_1.slots := ⟨Nat.le_trans (Nat.le_succ _) hcs.1, Nat.le_trans (Nat.le_add_right _ _) hcs.2⟩
  obtain ⟨τ, τm, F, tx, la, nu, tr, dr, wi, ga, im, i0, i1, l0, l1, w0, w1, nw, wn, pa, lz, lk, wl, y, K, P, N, u, k0, k1, cu, nx, tb, hGx, hGm, ok, hU, hq, hyK, hB, hma, hdj, hS, hsk⟩ := hJ
  obtain ⟨hp, hs, hy, hr, hv⟩ := id hq
  have hxa := hp.1
  have hk9 := ok.1.2.2.1
  have hk13 := ok.1.2.2.2
  have hbk := SK.lt hsk hic
  obtain ⟨zn, hzn, fzn⟩ := hv.1.2.2.2.2.2.1.2.2
  have hk7 := ok.1.2.1
  refine lv_aload_n X.1 X.2.1 dL_law_649 rfl (lv_at hl 1 rfl) ?_
  refine lw_arg (j := 1) X hX hbl hL hl hx hGx.2.1 (by decide) dL_law_650 dL_law_651 dL_law_652 dL_law_653 dL_law_654 (fun v1 e1 => ?_)
  refine lw_arg (j := 2) X hX hbl hL hl hx hGx.2.1 (by decide) dL_law_655 dL_law_656 dL_law_657 dL_law_658 dL_law_659 (fun v2 e2 => ?_)
  refine lw_arg (j := 3) X hX hbl hL hl hx hGx.2.1 (by decide) dL_law_660 dL_law_661 dL_law_662 dL_law_663 dL_law_664 (fun v3 e3 => ?_)
  refine f_cVi X hGx (n_X9_volts l D cy τ _ (pv_N cn_N) (pv_R cn_R) (sup_F hs (by decide)) hxa v1 v2 v3 (qq_TF hq)) hxa rfl yv_X9_volts q_745 ⟨rfl, rfl⟩ ⟨Nat.le_of_ble_eq_true rfl, Nat.le_of_ble_eq_true rfl⟩ rfl hl.1 rfl (Nat.le_of_ble_eq_true rfl) hc0 dL_law_665 (fun r4 o4 H locs hGx hf po => ?_)
  obtain ⟨ew, po4⟩ := po
  rw [ew] at hGx
  have hGm := TG.fr hGm (fun a h => (hdj a).resolve_right h) hf hGx.2.1
  refine lv_pop X.1 X.2.1 dL_law_668 rfl ?_
  refine lv_aload_n X.1 X.2.1 dL_law_669 rfl (lv_at hl 2 rfl) ?_
  refine lw_arg (j := 1) X hX hbl hL hl hx hGx.2.1 (by decide) dL_law_670 dL_law_671 dL_law_672 dL_law_673 dL_law_674 (fun v5 e5 => ?_)
  refine lw_arg (j := 2) X hX hbl hL hl hx hGx.2.1 (by decide) dL_law_675 dL_law_676 dL_law_677 dL_law_678 dL_law_679 (fun v6 e6 => ?_)
  refine lw_arg (j := 3) X hX hbl hL hl hx hGx.2.1 (by decide) dL_law_680 dL_law_681 dL_law_682 dL_law_683 dL_law_684 (fun v7 e7 => ?_)
  refine f_cVi X hGm (c_X10_volts l D cy τm (MM K P N u k0 k1) hU (MM_HB ok) (MM_LV ok) (MM_HT ok.2.2.2) hma v5 v6 v7) hma rfl yv_X10_volts q_1204 ⟨rfl, rfl⟩ ⟨Nat.le_of_ble_eq_true rfl, Nat.le_of_ble_eq_true rfl⟩ rfl hl.1 rfl (Nat.le_of_ble_eq_true rfl) hc0 dL_law_685 (fun r8 o8 H locs hGm hf po => ?_)
  have hGx := TG.fr hGx (fun a h => (hdj a).resolve_left h) hf hGm.2.1
  obtain ⟨ew, po8⟩ := po
  rw [ew] at hGm
  refine lv_pop X.1 X.2.1 dL_law_688 rfl ?_
  refine lv_goto (tgt := 1014) X.1 X.2.1 dL_law_689 (by decide) ?_
  refine W.widen (k := cells + 1) (n := slots + 8520) (Nat.le_succ _) (Nat.le_add_right _ _) ?_
  exact kk _ _ ⟨_, _, _, _, _, _, _, _, _, _, _, _, _, _, _, _, _, _, _, _, _, _, _, _, K, _, _, _, _, _, _, _, _, hGx, hGm, ok, hU, hq, hyK, hB, hma, hdj, hS, SK.up hsk⟩
set_option maxHeartbeats 4000000 in
set_option maxRecDepth 100000 in
theorem law_c20 {p : Program} {l : Launch} {e : Env} {s : State} {m : MethodId} {below : List Frame} {meth : Method} {c : Code} {H : Heap} {locs : List Loc} {cells slots : Nat} {Q : State → Prop} {ls : Array Slot} {D : va_G} {cy : Nat → ClassId} {b L xa ma : Nat} {xs : Nat → Int32} {z : EVt} {x : Int32} {ic : Nat} (X : ty_X p c s m #[Value.ref b] cL_law "EdgeEchoesLaw" 4 D cy) (hE : EW (fun q => s.heap.size ≤ q) s s.heap z) (hX : va_X b L xs s s.heap) (hbl : b < s.heap.size) (hL : L ≤ 2048) (hl : lv_has ls 4 [(0, .ref b), (1, .ref xa), (2, .ref ma), (3, .int x)]) (hx : 0 ≤ x.toInt ∧ x.toInt + 4 ≤ L) (hcs : cells + 1 ≤ 138320 ∧ slots + 8520 ≤ 8687290) (hic : ic ≤ 512) (hJ : LJ D cy s xa ma ic H locs) (kk : ∀ H locs, LJ D cy s xa ma (ic + 1) H locs → W p l e room_1 s m #[Value.ref b] below meth c H locs (cells + 1) (slots + 8520) Q (F0 m 1014 ls [])) : W p l e room_1 s m #[Value.ref b] below meth c H locs cells slots Q (F0 m 692 ls []) := by
  have hc0 : cells ≤ room_1.cells ∧ slots ≤ room_1.slots := ⟨Nat.le_trans (Nat.le_succ _) hcs.1, Nat.le_trans (Nat.le_add_right _ _) hcs.2⟩
  obtain ⟨τ, τm, F, tx, la, nu, tr, dr, wi, ga, im, i0, i1, l0, l1, w0, w1, nw, wn, pa, lz, lk, wl, y, K, P, N, u, k0, k1, cu, nx, tb, hGx, hGm, ok, hU, hq, hyK, hB, hma, hdj, hS, hsk⟩ := hJ
  obtain ⟨hp, hs, hy, hr, hv⟩ := id hq
  have hxa := hp.1
  have hk9 := ok.1.2.2.1
  have hk13 := ok.1.2.2.2
  have hbk := SK.lt hsk hic
  obtain ⟨zn, hzn, fzn⟩ := hv.1.2.2.2.2.2.1.2.2
  have hk7 := ok.1.2.1
  refine lv_aload_n X.1 X.2.1 dL_law_692 rfl (lv_at hl 1 rfl) ?_
  refine lw_arg (j := 1) X hX hbl hL hl hx hGx.2.1 (by decide) dL_law_693 dL_law_694 dL_law_695 dL_law_696 dL_law_697 (fun v1 e1 => ?_)
  refine f_cVi X hGx (n_X9_rest l D cy τ _ (pv_N cn_N) (pv_R cn_R) (sup_F hs (by decide)) hxa v1 (qq_TF hq)) hxa rfl yv_X9_rest q_762 ⟨rfl, rfl⟩ ⟨Nat.le_of_ble_eq_true rfl, Nat.le_of_ble_eq_true rfl⟩ rfl hl.1 rfl (Nat.le_of_ble_eq_true rfl) hc0 dL_law_698 (fun r2 o2 H locs hGx hf po => ?_)
  obtain ⟨ew, po2⟩ := po
  rw [ew] at hGx
  have hGm := TG.fr hGm (fun a h => (hdj a).resolve_right h) hf hGx.2.1
  refine lv_pop X.1 X.2.1 dL_law_701 rfl ?_
  refine lv_aload_n X.1 X.2.1 dL_law_702 rfl (lv_at hl 2 rfl) ?_
  refine lw_arg (j := 1) X hX hbl hL hl hx hGx.2.1 (by decide) dL_law_703 dL_law_704 dL_law_705 dL_law_706 dL_law_707 (fun v3 e3 => ?_)
  refine f_cVi X hGm (c_X10_rest l D cy τm (MM K P N u k0 k1) hU (MM_HB ok) (MM_LV ok) (MM_HT ok.2.2.2) hma v3) hma rfl yv_X10_rest q_1209 ⟨rfl, rfl⟩ ⟨Nat.le_of_ble_eq_true rfl, Nat.le_of_ble_eq_true rfl⟩ rfl hl.1 rfl (Nat.le_of_ble_eq_true rfl) hc0 dL_law_708 (fun r4 o4 H locs hGm hf po => ?_)
  have hGx := TG.fr hGx (fun a h => (hdj a).resolve_left h) hf hGm.2.1
  obtain ⟨ew, po4⟩ := po
  rw [ew] at hGm
  refine lv_pop X.1 X.2.1 dL_law_711 rfl ?_
  refine lv_goto (tgt := 1014) X.1 X.2.1 dL_law_712 (by decide) ?_
  refine W.widen (k := cells + 1) (n := slots + 8520) (Nat.le_succ _) (Nat.le_add_right _ _) ?_
  exact kk _ _ ⟨_, _, _, _, _, _, _, _, _, _, _, _, _, _, _, _, _, _, _, _, _, _, _, _, K, _, _, _, _, _, _, _, _, hGx, hGm, ok, hU, hq, hyK, hB, hma, hdj, hS, SK.up hsk⟩
set_option maxHeartbeats 4000000 in
set_option maxRecDepth 100000 in
theorem law_c21 {p : Program} {l : Launch} {e : Env} {s : State} {m : MethodId} {below : List Frame} {meth : Method} {c : Code} {H : Heap} {locs : List Loc} {cells slots : Nat} {Q : State → Prop} {ls : Array Slot} {D : va_G} {cy : Nat → ClassId} {b L xa ma : Nat} {xs : Nat → Int32} {z : EVt} {x : Int32} {ic : Nat} (X : ty_X p c s m #[Value.ref b] cL_law "EdgeEchoesLaw" 4 D cy) (hE : EW (fun q => s.heap.size ≤ q) s s.heap z) (hX : va_X b L xs s s.heap) (hbl : b < s.heap.size) (hL : L ≤ 2048) (hl : lv_has ls 4 [(0, .ref b), (1, .ref xa), (2, .ref ma), (3, .int x)]) (hx : 0 ≤ x.toInt ∧ x.toInt + 4 ≤ L) (hcs : cells + 1 ≤ 138320 ∧ slots + 8520 ≤ 8687290) (hic : ic ≤ 512) (hJ : LJ D cy s xa ma ic H locs) (kk : ∀ H locs, LJ D cy s xa ma (ic + 1) H locs → W p l e room_1 s m #[Value.ref b] below meth c H locs (cells + 1) (slots + 8520) Q (F0 m 1014 ls [])) : W p l e room_1 s m #[Value.ref b] below meth c H locs cells slots Q (F0 m 715 ls []) := by
  have hc0 : cells ≤ room_1.cells ∧ slots ≤ room_1.slots := ⟨Nat.le_trans (Nat.le_succ _) hcs.1, Nat.le_trans (Nat.le_add_right _ _) hcs.2⟩
  obtain ⟨τ, τm, F, tx, la, nu, tr, dr, wi, ga, im, i0, i1, l0, l1, w0, w1, nw, wn, pa, lz, lk, wl, y, K, P, N, u, k0, k1, cu, nx, tb, hGx, hGm, ok, hU, hq, hyK, hB, hma, hdj, hS, hsk⟩ := hJ
  obtain ⟨hp, hs, hy, hr, hv⟩ := id hq
  have hxa := hp.1
  have hk9 := ok.1.2.2.1
  have hk13 := ok.1.2.2.2
  have hbk := SK.lt hsk hic
  obtain ⟨zn, hzn, fzn⟩ := hv.1.2.2.2.2.2.1.2.2
  have hk7 := ok.1.2.1
  refine lv_aload_n X.1 X.2.1 dL_law_715 rfl (lv_at hl 1 rfl) ?_
  refine lw_arg (j := 1) X hX hbl hL hl hx hGx.2.1 (by decide) dL_law_716 dL_law_717 dL_law_718 dL_law_719 dL_law_720 (fun v1 e1 => ?_)
  refine lw_arg (j := 2) X hX hbl hL hl hx hGx.2.1 (by decide) dL_law_721 dL_law_722 dL_law_723 dL_law_724 dL_law_725 (fun v2 e2 => ?_)
  refine lw_arg (j := 3) X hX hbl hL hl hx hGx.2.1 (by decide) dL_law_726 dL_law_727 dL_law_728 dL_law_729 dL_law_730 (fun v3 e3 => ?_)
  refine f_cVi X hGx (n_X9_sees l D cy τ _ (pv_N cn_N) (pv_R cn_R) (sup_F hs (by decide)) hxa v1 v2 v3 (qq_TF hq)) hxa rfl yv_X9_sees q_773 ⟨rfl, rfl⟩ ⟨Nat.le_of_ble_eq_true rfl, Nat.le_of_ble_eq_true rfl⟩ rfl hl.1 rfl (Nat.le_of_ble_eq_true rfl) hc0 dL_law_731 (fun r4 o4 H locs hGx hf po => ?_)
  obtain ⟨ew, po4⟩ := po
  rw [ew] at hGx
  have hGm := TG.fr hGm (fun a h => (hdj a).resolve_right h) hf hGx.2.1
  refine lv_pop X.1 X.2.1 dL_law_734 rfl ?_
  refine lv_aload_n X.1 X.2.1 dL_law_735 rfl (lv_at hl 2 rfl) ?_
  refine lw_arg (j := 1) X hX hbl hL hl hx hGx.2.1 (by decide) dL_law_736 dL_law_737 dL_law_738 dL_law_739 dL_law_740 (fun v5 e5 => ?_)
  refine lw_arg (j := 2) X hX hbl hL hl hx hGx.2.1 (by decide) dL_law_741 dL_law_742 dL_law_743 dL_law_744 dL_law_745 (fun v6 e6 => ?_)
  refine lw_arg (j := 3) X hX hbl hL hl hx hGx.2.1 (by decide) dL_law_746 dL_law_747 dL_law_748 dL_law_749 dL_law_750 (fun v7 e7 => ?_)
  refine f_cVi X hGm (c_X10_sees l D cy τm (MM K P N u k0 k1) hU (MM_HB ok) (MM_LV ok) (MM_HT ok.2.2.2) hma v5 v6 v7) hma rfl yv_X10_sees q_1215 ⟨rfl, rfl⟩ ⟨Nat.le_of_ble_eq_true rfl, Nat.le_of_ble_eq_true rfl⟩ rfl hl.1 rfl (Nat.le_of_ble_eq_true rfl) hc0 dL_law_751 (fun r8 o8 H locs hGm hf po => ?_)
  have hGx := TG.fr hGx (fun a h => (hdj a).resolve_left h) hf hGm.2.1
  obtain ⟨ew, po8⟩ := po
  rw [ew] at hGm
  refine lv_pop X.1 X.2.1 dL_law_754 rfl ?_
  refine lv_goto (tgt := 1014) X.1 X.2.1 dL_law_755 (by decide) ?_
  refine W.widen (k := cells + 1) (n := slots + 8520) (Nat.le_succ _) (Nat.le_add_right _ _) ?_
  exact kk _ _ ⟨_, _, _, _, _, _, _, _, _, _, _, _, _, _, _, _, _, _, _, _, _, _, _, _, K, _, _, _, _, _, _, _, _, hGx, hGm, ok, hU, hq, hyK, hB, hma, hdj, hS, SK.up hsk⟩
set_option maxHeartbeats 4000000 in
set_option maxRecDepth 100000 in
theorem law_c22 {p : Program} {l : Launch} {e : Env} {s : State} {m : MethodId} {below : List Frame} {meth : Method} {c : Code} {H : Heap} {locs : List Loc} {cells slots : Nat} {Q : State → Prop} {ls : Array Slot} {D : va_G} {cy : Nat → ClassId} {b L xa ma : Nat} {xs : Nat → Int32} {z : EVt} {x : Int32} {ic : Nat} (X : ty_X p c s m #[Value.ref b] cL_law "EdgeEchoesLaw" 4 D cy) (hE : EW (fun q => s.heap.size ≤ q) s s.heap z) (hX : va_X b L xs s s.heap) (hbl : b < s.heap.size) (hL : L ≤ 2048) (hl : lv_has ls 4 [(0, .ref b), (1, .ref xa), (2, .ref ma), (3, .int x)]) (hx : 0 ≤ x.toInt ∧ x.toInt + 4 ≤ L) (hcs : cells + 1 ≤ 138320 ∧ slots + 8520 ≤ 8687290) (hic : ic ≤ 512) (hJ : LJ D cy s xa ma ic H locs) (kk : ∀ H locs, LJ D cy s xa ma (ic + 1) H locs → W p l e room_1 s m #[Value.ref b] below meth c H locs (cells + 1) (slots + 8520) Q (F0 m 1014 ls [])) : W p l e room_1 s m #[Value.ref b] below meth c H locs cells slots Q (F0 m 758 ls []) := by
  have hc0 : cells ≤ room_1.cells ∧ slots ≤ room_1.slots := ⟨Nat.le_trans (Nat.le_succ _) hcs.1, Nat.le_trans (Nat.le_add_right _ _) hcs.2⟩
  obtain ⟨τ, τm, F, tx, la, nu, tr, dr, wi, ga, im, i0, i1, l0, l1, w0, w1, nw, wn, pa, lz, lk, wl, y, K, P, N, u, k0, k1, cu, nx, tb, hGx, hGm, ok, hU, hq, hyK, hB, hma, hdj, hS, hsk⟩ := hJ
  obtain ⟨hp, hs, hy, hr, hv⟩ := id hq
  have hxa := hp.1
  have hk9 := ok.1.2.2.1
  have hk13 := ok.1.2.2.2
  have hbk := SK.lt hsk hic
  obtain ⟨zn, hzn, fzn⟩ := hv.1.2.2.2.2.2.1.2.2
  have hk7 := ok.1.2.1
  refine lv_aload_n X.1 X.2.1 dL_law_758 rfl (lv_at hl 1 rfl) ?_
  refine lw_arg (j := 1) X hX hbl hL hl hx hGx.2.1 (by decide) dL_law_759 dL_law_760 dL_law_761 dL_law_762 dL_law_763 (fun v1 e1 => ?_)
  refine lw_arg (j := 2) X hX hbl hL hl hx hGx.2.1 (by decide) dL_law_764 dL_law_765 dL_law_766 dL_law_767 dL_law_768 (fun v2 e2 => ?_)
  refine f_cVi X hGx (c_X9_noNoise l D cy τ _ (pv_N cn_N) (pv_R cn_R) (sup_F hs (by decide)) hxa v1 v2) hxa rfl yv_X9_noNoise q_781 ⟨rfl, rfl⟩ ⟨Nat.le_of_ble_eq_true rfl, Nat.le_of_ble_eq_true rfl⟩ rfl hl.1 rfl (Nat.le_of_ble_eq_true rfl) hc0 dL_law_769 (fun r3 o3 H locs hGx hf po => ?_)
  obtain ⟨ew, po3⟩ := po
  rw [ew] at hGx
  have hGm := TG.fr hGm (fun a h => (hdj a).resolve_right h) hf hGx.2.1
  refine lv_pop X.1 X.2.1 dL_law_772 rfl ?_
  refine lv_aload_n X.1 X.2.1 dL_law_773 rfl (lv_at hl 2 rfl) ?_
  refine lw_arg (j := 1) X hX hbl hL hl hx hGx.2.1 (by decide) dL_law_774 dL_law_775 dL_law_776 dL_law_777 dL_law_778 (fun v4 e4 => ?_)
  refine lw_arg (j := 2) X hX hbl hL hl hx hGx.2.1 (by decide) dL_law_779 dL_law_780 dL_law_781 dL_law_782 dL_law_783 (fun v5 e5 => ?_)
  refine f_cVi X hGm (c_X10_noNoise l D cy τm _ cn_N cn_R cn_F hma v4 v5) hma rfl yv_X10_noNoise q_1219 ⟨rfl, rfl⟩ ⟨Nat.le_of_ble_eq_true rfl, Nat.le_of_ble_eq_true rfl⟩ rfl hl.1 rfl (Nat.le_of_ble_eq_true rfl) hc0 dL_law_784 (fun r6 o6 H locs hGm hf po => ?_)
  have hGx := TG.fr hGx (fun a h => (hdj a).resolve_left h) hf hGm.2.1
  obtain ⟨ew, po6⟩ := po
  rw [ew] at hGm
  refine lv_pop X.1 X.2.1 dL_law_787 rfl ?_
  refine lv_goto (tgt := 1014) X.1 X.2.1 dL_law_788 (by decide) ?_
  refine W.widen (k := cells + 1) (n := slots + 8520) (Nat.le_succ _) (Nat.le_add_right _ _) ?_
  exact kk _ _ ⟨_, _, _, _, _, _, _, _, _, _, _, _, _, _, _, _, _, _, _, _, _, _, _, _, K, _, _, _, _, _, _, _, _, hGx, hGm, ok, hU, hq, hyK, hB, hma, hdj, hS, SK.up hsk⟩
set_option maxHeartbeats 4000000 in
set_option maxRecDepth 100000 in
theorem law_c23 {p : Program} {l : Launch} {e : Env} {s : State} {m : MethodId} {below : List Frame} {meth : Method} {c : Code} {H : Heap} {locs : List Loc} {cells slots : Nat} {Q : State → Prop} {ls : Array Slot} {D : va_G} {cy : Nat → ClassId} {b L xa ma : Nat} {xs : Nat → Int32} {z : EVt} {x : Int32} {ic : Nat} (X : ty_X p c s m #[Value.ref b] cL_law "EdgeEchoesLaw" 4 D cy) (hE : EW (fun q => s.heap.size ≤ q) s s.heap z) (hX : va_X b L xs s s.heap) (hbl : b < s.heap.size) (hL : L ≤ 2048) (hl : lv_has ls 4 [(0, .ref b), (1, .ref xa), (2, .ref ma), (3, .int x)]) (hx : 0 ≤ x.toInt ∧ x.toInt + 4 ≤ L) (hcs : cells + 1 ≤ 138320 ∧ slots + 8520 ≤ 8687290) (hic : ic ≤ 512) (hJ : LJ D cy s xa ma ic H locs) (kk : ∀ H locs, LJ D cy s xa ma (ic + 1) H locs → W p l e room_1 s m #[Value.ref b] below meth c H locs (cells + 1) (slots + 8520) Q (F0 m 1014 ls [])) : W p l e room_1 s m #[Value.ref b] below meth c H locs cells slots Q (F0 m 791 ls []) := by
  have hc0 : cells ≤ room_1.cells ∧ slots ≤ room_1.slots := ⟨Nat.le_trans (Nat.le_succ _) hcs.1, Nat.le_trans (Nat.le_add_right _ _) hcs.2⟩
  obtain ⟨τ, τm, F, tx, la, nu, tr, dr, wi, ga, im, i0, i1, l0, l1, w0, w1, nw, wn, pa, lz, lk, wl, y, K, P, N, u, k0, k1, cu, nx, tb, hGx, hGm, ok, hU, hq, hyK, hB, hma, hdj, hS, hsk⟩ := hJ
  obtain ⟨hp, hs, hy, hr, hv⟩ := id hq
  have hxa := hp.1
  have hk9 := ok.1.2.2.1
  have hk13 := ok.1.2.2.2
  have hbk := SK.lt hsk hic
  obtain ⟨zn, hzn, fzn⟩ := hv.1.2.2.2.2.2.1.2.2
  have hk7 := ok.1.2.1
  refine lv_aload_n X.1 X.2.1 dL_law_791 rfl (lv_at hl 1 rfl) ?_
  refine lw_arg (j := 1) X hX hbl hL hl hx hGx.2.1 (by decide) dL_law_792 dL_law_793 dL_law_794 dL_law_795 dL_law_796 (fun v1 e1 => ?_)
  refine lw_arg (j := 2) X hX hbl hL hl hx hGx.2.1 (by decide) dL_law_797 dL_law_798 dL_law_799 dL_law_800 dL_law_801 (fun v2 e2 => ?_)
  refine lw_arg (j := 3) X hX hbl hL hl hx hGx.2.1 (by decide) dL_law_802 dL_law_803 dL_law_804 dL_law_805 dL_law_806 (fun v3 e3 => ?_)
  refine lw_nz X dL_law_807 dL_law_810 dL_law_811 dL_law_814 (fun v4 z4 => ?_)
  refine f_cVi X hGx (c_X9_see l D cy τ _ (pv_N cn_N) (pv_R cn_R) (sup_F hs (by decide)) hxa v1 v2 v4 z4) hxa rfl yv_X9_see q_787 ⟨rfl, rfl⟩ ⟨Nat.le_of_ble_eq_true rfl, Nat.le_of_ble_eq_true rfl⟩ rfl hl.1 rfl (Nat.le_of_ble_eq_true rfl) hc0 dL_law_815 (fun r5 o5 H locs hGx hf po => ?_)
  obtain ⟨ew, po5⟩ := po
  rw [ew] at hGx
  have hGm := TG.fr hGm (fun a h => (hdj a).resolve_right h) hf hGx.2.1
  refine lv_pop X.1 X.2.1 dL_law_818 rfl ?_
  refine lv_aload_n X.1 X.2.1 dL_law_819 rfl (lv_at hl 2 rfl) ?_
  refine lw_arg (j := 1) X hX hbl hL hl hx hGx.2.1 (by decide) dL_law_820 dL_law_821 dL_law_822 dL_law_823 dL_law_824 (fun v6 e6 => ?_)
  refine lw_arg (j := 2) X hX hbl hL hl hx hGx.2.1 (by decide) dL_law_825 dL_law_826 dL_law_827 dL_law_828 dL_law_829 (fun v7 e7 => ?_)
  refine lw_arg (j := 3) X hX hbl hL hl hx hGx.2.1 (by decide) dL_law_830 dL_law_831 dL_law_832 dL_law_833 dL_law_834 (fun v8 e8 => ?_)
  refine lw_nz X dL_law_835 dL_law_838 dL_law_839 dL_law_842 (fun v9 z9 => ?_)
  refine f_cVi X hGm (e_X10_see l D cy τm hU ok hma v6 v7 v9 z9) hma rfl yv_X10_see q_1226 ⟨rfl, rfl⟩ ⟨Nat.le_of_ble_eq_true rfl, Nat.le_of_ble_eq_true rfl⟩ rfl hl.1 rfl (Nat.le_of_ble_eq_true rfl) hc0 dL_law_843 (fun r10 o10 H locs hGm hf po => ?_)
  have hGx := TG.fr hGx (fun a h => (hdj a).resolve_left h) hf hGm.2.1
  have po10 := po
  refine lv_pop X.1 X.2.1 dL_law_846 rfl ?_
  refine lv_goto (tgt := 1014) X.1 X.2.1 dL_law_847 (by decide) ?_
  refine W.widen (k := cells + 1) (n := slots + 8520) (Nat.le_succ _) (Nat.le_add_right _ _) ?_
  obtain ⟨c1, c2, c3⟩ := po10
  by_cases g1 : seeO v6 v7
  · rw [(c1 g1).2] at hGm
    exact kk _ _ ⟨_, _, _, _, _, _, _, _, _, _, _, _, _, _, _, _, _, _, _, _, _, _, _, _, K, _, _, _, _, _, _, _, _, hGx, hGm, ok, hU, hq, hyK, hB, hma, hdj, hS, SK.up hsk⟩
  · by_cases g2 : K.2.2.1 = 6
    · rw [(c2 g1 g2).2] at hGm
      exact kk _ _ ⟨_, _, _, _, _, _, _, _, _, _, _, _, _, _, _, _, _, _, _, _, _, _, _, _, K, _, _, _, _, _, _, _, _, hGx, hGm, ok, hU, hq, hyK, hB, hma, hdj, hS, SK.up hsk⟩
    · rw [(c3 g1 g2).2] at hGm
      have ok : OKG (K9 K (K.2.2.1 + 1)) P N u := ⟨⟨ok.1.1, ok.1.2.1, (show K.2.2.1 + 1 ≤ 6 by omega), ok.1.2.2.2⟩, ok.2⟩
      exact kk _ _ ⟨_, _, _, _, _, _, _, _, _, _, _, _, _, _, _, _, _, _, _, _, _, _, _, _, K9 K (K.2.2.1 + 1), _, _, _, _, _, _, _, _, hGx, hGm, ok, hU, hq, hyK, hB, hma, hdj, hS, SK.up hsk⟩
set_option maxHeartbeats 4000000 in
set_option maxRecDepth 100000 in
theorem law_c24 {p : Program} {l : Launch} {e : Env} {s : State} {m : MethodId} {below : List Frame} {meth : Method} {c : Code} {H : Heap} {locs : List Loc} {cells slots : Nat} {Q : State → Prop} {ls : Array Slot} {D : va_G} {cy : Nat → ClassId} {b L xa ma : Nat} {xs : Nat → Int32} {z : EVt} {x : Int32} {ic : Nat} (X : ty_X p c s m #[Value.ref b] cL_law "EdgeEchoesLaw" 4 D cy) (hE : EW (fun q => s.heap.size ≤ q) s s.heap z) (hX : va_X b L xs s s.heap) (hbl : b < s.heap.size) (hL : L ≤ 2048) (hl : lv_has ls 4 [(0, .ref b), (1, .ref xa), (2, .ref ma), (3, .int x)]) (hx : 0 ≤ x.toInt ∧ x.toInt + 4 ≤ L) (hcs : cells + 1 ≤ 138320 ∧ slots + 8520 ≤ 8687290) (hic : ic ≤ 512) (hJ : LJ D cy s xa ma ic H locs) (kk : ∀ H locs, LJ D cy s xa ma (ic + 1) H locs → W p l e room_1 s m #[Value.ref b] below meth c H locs (cells + 1) (slots + 8520) Q (F0 m 1014 ls [])) : W p l e room_1 s m #[Value.ref b] below meth c H locs cells slots Q (F0 m 850 ls []) := by
  have hc0 : cells ≤ room_1.cells ∧ slots ≤ room_1.slots := ⟨Nat.le_trans (Nat.le_succ _) hcs.1, Nat.le_trans (Nat.le_add_right _ _) hcs.2⟩
  obtain ⟨τ, τm, F, tx, la, nu, tr, dr, wi, ga, im, i0, i1, l0, l1, w0, w1, nw, wn, pa, lz, lk, wl, y, K, P, N, u, k0, k1, cu, nx, tb, hGx, hGm, ok, hU, hq, hyK, hB, hma, hdj, hS, hsk⟩ := hJ
  obtain ⟨hp, hs, hy, hr, hv⟩ := id hq
  have hxa := hp.1
  have hk9 := ok.1.2.2.1
  have hk13 := ok.1.2.2.2
  have hbk := SK.lt hsk hic
  obtain ⟨zn, hzn, fzn⟩ := hv.1.2.2.2.2.2.1.2.2
  have hk7 := ok.1.2.1
  refine lv_aload_n X.1 X.2.1 dL_law_850 rfl (lv_at hl 1 rfl) ?_
  refine lw_arg (j := 1) X hX hbl hL hl hx hGx.2.1 (by decide) dL_law_851 dL_law_852 dL_law_853 dL_law_854 dL_law_855 (fun v1 e1 => ?_)
  have hGp : TG D cy τ (pn (pf F) (cn Mx τ)) (fun q => s.heap.size ≤ q) s.heap H locs := hGx
  refine f_cHi X hGp (fun _ h => h) (n_X9_couldBe l D cy τ (sup_PO hs) hS (qq_PT hq) hxa v1) hxa rfl yv_X9_couldBe q_796 ⟨Nat.le_of_ble_eq_true rfl, Nat.le_of_ble_eq_true rfl⟩ rfl hl.1 rfl (Nat.le_of_ble_eq_true rfl) ⟨hcs.1, hcs.2⟩ dL_law_856 (fun r2 o2 H2 locs hGx hf hnew hu => ?_)
  obtain ⟨t, r⟩ := o2
  have hr : r = pn (pf F) (cn Mx t) := hu.2.2
  subst hr
  have hGx : TG D cy t (pv F (cn Mx t)) (fun q => s.heap.size ≤ q) s.heap H2 locs := hGx
  have hdj2 : DJ t τm := DJ.up hdj hnew (fun a h => hGm.lt h)
  have hGm := TG.fr hGm (fun a h => (hdj a).resolve_right h) hf hGx.2.1
  have hq := qq_up hq hu
  have hS := hu.sz hS
  generalize t = τ at hGx hq hS hdj2
  have hdj := hdj2
  refine lv_pop X.1 X.2.1 dL_law_859 rfl ?_
  refine lv_aload_n X.1 X.2.1 dL_law_860 rfl (lv_at hl 2 rfl) ?_
  refine lw_arg (j := 1) X hX hbl hL hl hx hGx.2.1 (by decide) dL_law_861 dL_law_862 dL_law_863 dL_law_864 dL_law_865 (fun v3 e3 => ?_)
  refine f_cVi X hGm (c_X10_couldBe l D cy τm (MM K P N u k0 k1) hU (MM_HB ok) (MM_LV ok) (MM_HT ok.2.2.2) hma v3) hma rfl yv_X10_couldBe q_1232 ⟨rfl, rfl⟩ ⟨Nat.le_of_ble_eq_true rfl, Nat.le_of_ble_eq_true rfl⟩ rfl hl.1 rfl (Nat.le_of_ble_eq_true rfl) ⟨hcs.1, hcs.2⟩ dL_law_866 (fun r4 o4 H locs hGm hf po => ?_)
  have hGx := TG.fr hGx (fun a h => (hdj a).resolve_left h) hf hGm.2.1
  obtain ⟨ew, po4⟩ := po
  rw [ew] at hGm
  refine lv_pop X.1 X.2.1 dL_law_869 rfl ?_
  refine lv_goto (tgt := 1014) X.1 X.2.1 dL_law_870 (by decide) ?_
  exact kk _ _ ⟨_, _, _, _, _, _, _, _, _, _, _, _, _, _, _, _, _, _, _, _, _, _, _, _, K, _, _, _, _, _, _, _, _, hGx, hGm, ok, hU, hq, hyK, hB, hma, hdj, hS, SK.up hsk⟩
set_option maxHeartbeats 4000000 in
set_option maxRecDepth 100000 in
theorem law_c25 {p : Program} {l : Launch} {e : Env} {s : State} {m : MethodId} {below : List Frame} {meth : Method} {c : Code} {H : Heap} {locs : List Loc} {cells slots : Nat} {Q : State → Prop} {ls : Array Slot} {D : va_G} {cy : Nat → ClassId} {b L xa ma : Nat} {xs : Nat → Int32} {z : EVt} {x : Int32} {ic : Nat} (X : ty_X p c s m #[Value.ref b] cL_law "EdgeEchoesLaw" 4 D cy) (hE : EW (fun q => s.heap.size ≤ q) s s.heap z) (hX : va_X b L xs s s.heap) (hbl : b < s.heap.size) (hL : L ≤ 2048) (hl : lv_has ls 4 [(0, .ref b), (1, .ref xa), (2, .ref ma), (3, .int x)]) (hx : 0 ≤ x.toInt ∧ x.toInt + 4 ≤ L) (hcs : cells + 1 ≤ 138320 ∧ slots + 8520 ≤ 8687290) (hic : ic ≤ 512) (hJ : LJ D cy s xa ma ic H locs) (kk : ∀ H locs, LJ D cy s xa ma (ic + 1) H locs → W p l e room_1 s m #[Value.ref b] below meth c H locs (cells + 1) (slots + 8520) Q (F0 m 1014 ls [])) : W p l e room_1 s m #[Value.ref b] below meth c H locs cells slots Q (F0 m 873 ls []) := by
  have hc0 : cells ≤ room_1.cells ∧ slots ≤ room_1.slots := ⟨Nat.le_trans (Nat.le_succ _) hcs.1, Nat.le_trans (Nat.le_add_right _ _) hcs.2⟩
  obtain ⟨τ, τm, F, tx, la, nu, tr, dr, wi, ga, im, i0, i1, l0, l1, w0, w1, nw, wn, pa, lz, lk, wl, y, K, P, N, u, k0, k1, cu, nx, tb, hGx, hGm, ok, hU, hq, hyK, hB, hma, hdj, hS, hsk⟩ := hJ
  obtain ⟨hp, hs, hy, hr, hv⟩ := id hq
  have hxa := hp.1
  have hk9 := ok.1.2.2.1
  have hk13 := ok.1.2.2.2
  have hbk := SK.lt hsk hic
  obtain ⟨zn, hzn, fzn⟩ := hv.1.2.2.2.2.2.1.2.2
  have hk7 := ok.1.2.1
  refine lv_aload_n X.1 X.2.1 dL_law_873 rfl (lv_at hl 1 rfl) ?_
  have hGp : TG D cy τ (pn (pf F) (cn Mx τ)) (fun q => s.heap.size ≤ q) s.heap H locs := hGx
  refine f_cHi X hGp (fun _ h => h) (n_X9_look l D cy τ (sup_PO hs) hS (qq_PT hq) hxa ) hxa rfl yv_X9_look q_825 ⟨Nat.le_of_ble_eq_true rfl, Nat.le_of_ble_eq_true rfl⟩ rfl hl.1 rfl (Nat.le_of_ble_eq_true rfl) ⟨hcs.1, hcs.2⟩ dL_law_874 (fun r1 o1 H2 locs hGx hf hnew hu => ?_)
  obtain ⟨t, r⟩ := o1
  have hr : r = pn (pf F) (cn Mx t) := hu.2.2
  subst hr
  have hGx : TG D cy t (pv F (cn Mx t)) (fun q => s.heap.size ≤ q) s.heap H2 locs := hGx
  have hdj2 : DJ t τm := DJ.up hdj hnew (fun a h => hGm.lt h)
  have hGm := TG.fr hGm (fun a h => (hdj a).resolve_right h) hf hGx.2.1
  have hq := qq_up hq hu
  have hS := hu.sz hS
  generalize t = τ at hGx hq hS hdj2
  have hdj := hdj2
  refine lv_pop X.1 X.2.1 dL_law_877 rfl ?_
  refine lv_aload_n X.1 X.2.1 dL_law_878 rfl (lv_at hl 2 rfl) ?_
  refine f_cVi X hGm (c_X10_look l D cy τm (MM K P N u k0 k1) hU (MM_HB ok) (MM_LV ok) (MM_HT ok.2.2.2) hma ) hma rfl yv_X10_look q_1252 ⟨rfl, rfl⟩ ⟨Nat.le_of_ble_eq_true rfl, Nat.le_of_ble_eq_true rfl⟩ rfl hl.1 rfl (Nat.le_of_ble_eq_true rfl) ⟨hcs.1, hcs.2⟩ dL_law_879 (fun r2 o2 H locs hGm hf po => ?_)
  have hGx := TG.fr hGx (fun a h => (hdj a).resolve_left h) hf hGm.2.1
  obtain ⟨ew, po2⟩ := po
  rw [ew] at hGm
  refine lv_pop X.1 X.2.1 dL_law_882 rfl ?_
  refine lv_goto (tgt := 1014) X.1 X.2.1 dL_law_883 (by decide) ?_
  exact kk _ _ ⟨_, _, _, _, _, _, _, _, _, _, _, _, _, _, _, _, _, _, _, _, _, _, _, _, K, _, _, _, _, _, _, _, _, hGx, hGm, ok, hU, hq, hyK, hB, hma, hdj, hS, SK.up hsk⟩
set_option maxHeartbeats 4000000 in
set_option maxRecDepth 100000 in
theorem law_c26 {p : Program} {l : Launch} {e : Env} {s : State} {m : MethodId} {below : List Frame} {meth : Method} {c : Code} {H : Heap} {locs : List Loc} {cells slots : Nat} {Q : State → Prop} {ls : Array Slot} {D : va_G} {cy : Nat → ClassId} {b L xa ma : Nat} {xs : Nat → Int32} {z : EVt} {x : Int32} {ic : Nat} (X : ty_X p c s m #[Value.ref b] cL_law "EdgeEchoesLaw" 4 D cy) (hE : EW (fun q => s.heap.size ≤ q) s s.heap z) (hX : va_X b L xs s s.heap) (hbl : b < s.heap.size) (hL : L ≤ 2048) (hl : lv_has ls 4 [(0, .ref b), (1, .ref xa), (2, .ref ma), (3, .int x)]) (hx : 0 ≤ x.toInt ∧ x.toInt + 4 ≤ L) (hcs : cells + 1 ≤ 138320 ∧ slots + 8520 ≤ 8687290) (hic : ic ≤ 512) (hJ : LJ D cy s xa ma ic H locs) (kk : ∀ H locs, LJ D cy s xa ma (ic + 1) H locs → W p l e room_1 s m #[Value.ref b] below meth c H locs (cells + 1) (slots + 8520) Q (F0 m 1014 ls [])) : W p l e room_1 s m #[Value.ref b] below meth c H locs cells slots Q (F0 m 886 ls []) := by
  have hc0 : cells ≤ room_1.cells ∧ slots ≤ room_1.slots := ⟨Nat.le_trans (Nat.le_succ _) hcs.1, Nat.le_trans (Nat.le_add_right _ _) hcs.2⟩
  obtain ⟨τ, τm, F, tx, la, nu, tr, dr, wi, ga, im, i0, i1, l0, l1, w0, w1, nw, wn, pa, lz, lk, wl, y, K, P, N, u, k0, k1, cu, nx, tb, hGx, hGm, ok, hU, hq, hyK, hB, hma, hdj, hS, hsk⟩ := hJ
  obtain ⟨hp, hs, hy, hr, hv⟩ := id hq
  have hxa := hp.1
  have hk9 := ok.1.2.2.1
  have hk13 := ok.1.2.2.2
  have hbk := SK.lt hsk hic
  obtain ⟨zn, hzn, fzn⟩ := hv.1.2.2.2.2.2.1.2.2
  have hk7 := ok.1.2.1
  refine lv_aload_n X.1 X.2.1 dL_law_886 rfl (lv_at hl 1 rfl) ?_
  refine lw_arg (j := 1) X hX hbl hL hl hx hGx.2.1 (by decide) dL_law_887 dL_law_888 dL_law_889 dL_law_890 dL_law_891 (fun v1 e1 => ?_)
  refine lw_arg (j := 2) X hX hbl hL hl hx hGx.2.1 (by decide) dL_law_892 dL_law_893 dL_law_894 dL_law_895 dL_law_896 (fun v2 e2 => ?_)
  refine f_cVi X hGx (c_X9_write l D cy τ _ (pv_N cn_N) (pv_R cn_R) (sup_F hs (by decide)) hxa v1 v2) hxa rfl yv_X9_write q_837 ⟨rfl, rfl⟩ ⟨Nat.le_of_ble_eq_true rfl, Nat.le_of_ble_eq_true rfl⟩ rfl hl.1 rfl (Nat.le_of_ble_eq_true rfl) hc0 dL_law_897 (fun r3 o3 H locs hGx hf po => ?_)
  obtain ⟨ew, po3⟩ := po
  rw [ew] at hGx
  have hGm := TG.fr hGm (fun a h => (hdj a).resolve_right h) hf hGx.2.1
  refine lv_pop X.1 X.2.1 dL_law_900 rfl ?_
  refine lv_aload_n X.1 X.2.1 dL_law_901 rfl (lv_at hl 2 rfl) ?_
  refine lw_arg (j := 1) X hX hbl hL hl hx hGx.2.1 (by decide) dL_law_902 dL_law_903 dL_law_904 dL_law_905 dL_law_906 (fun v4 e4 => ?_)
  refine lw_arg (j := 2) X hX hbl hL hl hx hGx.2.1 (by decide) dL_law_907 dL_law_908 dL_law_909 dL_law_910 dL_law_911 (fun v5 e5 => ?_)
  refine f_cVi X hGm (e_X10_write l D cy τm hU ok hma v4 v5) hma rfl yv_X10_write q_1256 ⟨rfl, rfl⟩ ⟨Nat.le_of_ble_eq_true rfl, Nat.le_of_ble_eq_true rfl⟩ rfl hl.1 rfl (Nat.le_of_ble_eq_true rfl) hc0 dL_law_912 (fun r6 o6 H locs hGm hf po => ?_)
  have hGx := TG.fr hGx (fun a h => (hdj a).resolve_left h) hf hGm.2.1
  have po6 := po
  refine lv_pop X.1 X.2.1 dL_law_915 rfl ?_
  refine lv_goto (tgt := 1014) X.1 X.2.1 dL_law_916 (by decide) ?_
  refine W.widen (k := cells + 1) (n := slots + 8520) (Nat.le_succ _) (Nat.le_add_right _ _) ?_
  obtain ⟨c1, c2, c3, c4⟩ := po6
  by_cases h1 : wrU (gK K) v4
  · rw [(c1 h1).2] at hGm
    exact kk _ _ ⟨_, _, _, _, _, _, _, _, _, _, _, _, _, _, _, _, _, _, _, _, _, _, _, _, K, _, _, _, _, _, _, _, _, hGx, hGm, ok, hU, hq, hyK, hB, hma, hdj, hS, SK.up hsk⟩
  by_cases h2 : wrO v5
  · rw [(c2 h1 h2).2] at hGm
    exact kk _ _ ⟨_, _, _, _, _, _, _, _, _, _, _, _, _, _, _, _, _, _, _, _, _, _, _, _, K, _, _, _, _, _, _, _, _, hGx, hGm, ok, hU, hq, hyK, hB, hma, hdj, hS, SK.up hsk⟩
  by_cases h3 : K.2.2.2.1 = 20
  · rw [(c3 h1 h2 h3).2] at hGm
    exact kk _ _ ⟨_, _, _, _, _, _, _, _, _, _, _, _, _, _, _, _, _, _, _, _, _, _, _, _, K, _, _, _, _, _, _, _, _, hGx, hGm, ok, hU, hq, hyK, hB, hma, hdj, hS, SK.up hsk⟩
  rw [(c4 h1 h2 h3).2] at hGm
  have ok : OKG (K13 K (K.2.2.2.1 + 1)) P N u := ⟨⟨ok.1.1, ok.1.2.1, ok.1.2.2.1, (show K.2.2.2.1 + 1 ≤ 20 by omega)⟩, ok.2⟩
  exact kk _ _ ⟨_, _, _, _, _, _, _, _, _, _, _, _, _, _, _, _, _, _, _, _, _, _, _, _, K13 K (K.2.2.2.1 + 1), _, _, _, _, _, _, _, _, hGx, hGm, ok, hU, hq, hyK, hB, hma, hdj, hS, SK.up hsk⟩
set_option maxHeartbeats 4000000 in
set_option maxRecDepth 100000 in
theorem law_c27 {p : Program} {l : Launch} {e : Env} {s : State} {m : MethodId} {below : List Frame} {meth : Method} {c : Code} {H : Heap} {locs : List Loc} {cells slots : Nat} {Q : State → Prop} {ls : Array Slot} {D : va_G} {cy : Nat → ClassId} {b L xa ma : Nat} {xs : Nat → Int32} {z : EVt} {x : Int32} {ic : Nat} (X : ty_X p c s m #[Value.ref b] cL_law "EdgeEchoesLaw" 4 D cy) (hE : EW (fun q => s.heap.size ≤ q) s s.heap z) (hX : va_X b L xs s s.heap) (hbl : b < s.heap.size) (hL : L ≤ 2048) (hl : lv_has ls 4 [(0, .ref b), (1, .ref xa), (2, .ref ma), (3, .int x)]) (hx : 0 ≤ x.toInt ∧ x.toInt + 4 ≤ L) (hcs : cells + 1 ≤ 138320 ∧ slots + 8520 ≤ 8687290) (hic : ic ≤ 512) (hJ : LJ D cy s xa ma ic H locs) (kk : ∀ H locs, LJ D cy s xa ma (ic + 1) H locs → W p l e room_1 s m #[Value.ref b] below meth c H locs (cells + 1) (slots + 8520) Q (F0 m 1014 ls [])) : W p l e room_1 s m #[Value.ref b] below meth c H locs cells slots Q (F0 m 919 ls []) := by
  have hc0 : cells ≤ room_1.cells ∧ slots ≤ room_1.slots := ⟨Nat.le_trans (Nat.le_succ _) hcs.1, Nat.le_trans (Nat.le_add_right _ _) hcs.2⟩
  obtain ⟨τ, τm, F, tx, la, nu, tr, dr, wi, ga, im, i0, i1, l0, l1, w0, w1, nw, wn, pa, lz, lk, wl, y, K, P, N, u, k0, k1, cu, nx, tb, hGx, hGm, ok, hU, hq, hyK, hB, hma, hdj, hS, hsk⟩ := hJ
  obtain ⟨hp, hs, hy, hr, hv⟩ := id hq
  have hxa := hp.1
  have hk9 := ok.1.2.2.1
  have hk13 := ok.1.2.2.2
  have hbk := SK.lt hsk hic
  obtain ⟨zn, hzn, fzn⟩ := hv.1.2.2.2.2.2.1.2.2
  have hk7 := ok.1.2.1
  refine lv_aload_n X.1 X.2.1 dL_law_919 rfl (lv_at hl 1 rfl) ?_
  refine f_cVi X hGx (c_X9_judge l D cy τ _ (pv_N cn_N) (pv_R cn_R) (sup_F hs (by decide)) hxa ) hxa rfl yv_X9_judge q_845 ⟨rfl, rfl⟩ ⟨Nat.le_of_ble_eq_true rfl, Nat.le_of_ble_eq_true rfl⟩ rfl hl.1 rfl (Nat.le_of_ble_eq_true rfl) hc0 dL_law_920 (fun r1 o1 H locs hGx hf po => ?_)
  obtain ⟨ew, po1⟩ := po
  rw [ew] at hGx
  have hGm := TG.fr hGm (fun a h => (hdj a).resolve_right h) hf hGx.2.1
  refine lv_pop X.1 X.2.1 dL_law_923 rfl ?_
  refine lv_aload_n X.1 X.2.1 dL_law_924 rfl (lv_at hl 2 rfl) ?_
  refine f_cVi X hGm (c_X10_judge l D cy τm _ cn_N cn_R cn_F hma  (MM_HB ok)) hma rfl yv_X10_judge q_1261 ⟨rfl, rfl⟩ ⟨Nat.le_of_ble_eq_true rfl, Nat.le_of_ble_eq_true rfl⟩ rfl hl.1 rfl (Nat.le_of_ble_eq_true rfl) hc0 dL_law_925 (fun r2 o2 H locs hGm hf po => ?_)
  have hGx := TG.fr hGx (fun a h => (hdj a).resolve_left h) hf hGm.2.1
  obtain ⟨ew, po2⟩ := po
  rw [ew] at hGm
  refine lv_pop X.1 X.2.1 dL_law_928 rfl ?_
  refine lv_goto (tgt := 1014) X.1 X.2.1 dL_law_929 (by decide) ?_
  refine W.widen (k := cells + 1) (n := slots + 8520) (Nat.le_succ _) (Nat.le_add_right _ _) ?_
  exact kk _ _ ⟨_, _, _, _, _, _, _, _, _, _, _, _, _, _, _, _, _, _, _, _, _, _, _, _, K, _, _, _, _, _, _, _, _, hGx, hGm, ok, hU, hq, hyK, hB, hma, hdj, hS, SK.up hsk⟩
set_option maxHeartbeats 4000000 in
set_option maxRecDepth 100000 in
theorem law_c28 {p : Program} {l : Launch} {e : Env} {s : State} {m : MethodId} {below : List Frame} {meth : Method} {c : Code} {H : Heap} {locs : List Loc} {cells slots : Nat} {Q : State → Prop} {ls : Array Slot} {D : va_G} {cy : Nat → ClassId} {b L xa ma : Nat} {xs : Nat → Int32} {z : EVt} {x : Int32} {ic : Nat} (X : ty_X p c s m #[Value.ref b] cL_law "EdgeEchoesLaw" 4 D cy) (hE : EW (fun q => s.heap.size ≤ q) s s.heap z) (hX : va_X b L xs s s.heap) (hbl : b < s.heap.size) (hL : L ≤ 2048) (hl : lv_has ls 4 [(0, .ref b), (1, .ref xa), (2, .ref ma), (3, .int x)]) (hx : 0 ≤ x.toInt ∧ x.toInt + 4 ≤ L) (hcs : cells + 1 ≤ 138320 ∧ slots + 8520 ≤ 8687290) (hic : ic ≤ 512) (hJ : LJ D cy s xa ma ic H locs) (kk : ∀ H locs, LJ D cy s xa ma (ic + 1) H locs → W p l e room_1 s m #[Value.ref b] below meth c H locs (cells + 1) (slots + 8520) Q (F0 m 1014 ls [])) : W p l e room_1 s m #[Value.ref b] below meth c H locs cells slots Q (F0 m 932 ls []) := by
  have hc0 : cells ≤ room_1.cells ∧ slots ≤ room_1.slots := ⟨Nat.le_trans (Nat.le_succ _) hcs.1, Nat.le_trans (Nat.le_add_right _ _) hcs.2⟩
  obtain ⟨τ, τm, F, tx, la, nu, tr, dr, wi, ga, im, i0, i1, l0, l1, w0, w1, nw, wn, pa, lz, lk, wl, y, K, P, N, u, k0, k1, cu, nx, tb, hGx, hGm, ok, hU, hq, hyK, hB, hma, hdj, hS, hsk⟩ := hJ
  obtain ⟨hp, hs, hy, hr, hv⟩ := id hq
  have hxa := hp.1
  have hk9 := ok.1.2.2.1
  have hk13 := ok.1.2.2.2
  have hbk := SK.lt hsk hic
  obtain ⟨zn, hzn, fzn⟩ := hv.1.2.2.2.2.2.1.2.2
  have hk7 := ok.1.2.1
  refine lv_aload_n X.1 X.2.1 dL_law_932 rfl (lv_at hl 1 rfl) ?_
  refine f_cVi X hGx (c_X9_tear l D cy τ _ (pv_N cn_N) (pv_R cn_R) (sup_F hs (by decide)) hxa ) hxa rfl yv_X9_tear q_854 ⟨rfl, rfl⟩ ⟨Nat.le_of_ble_eq_true rfl, Nat.le_of_ble_eq_true rfl⟩ rfl hl.1 rfl (Nat.le_of_ble_eq_true rfl) hc0 dL_law_933 (fun r1 o1 H locs hGx hf po => ?_)
  obtain ⟨ew, po1⟩ := po
  rw [ew] at hGx
  have hGm := TG.fr hGm (fun a h => (hdj a).resolve_right h) hf hGx.2.1
  refine lv_pop X.1 X.2.1 dL_law_936 rfl ?_
  refine lv_aload_n X.1 X.2.1 dL_law_937 rfl (lv_at hl 2 rfl) ?_
  refine f_cVi X hGm (e_X10_tear l D cy τm hU ok hma ) hma rfl yv_X10_tear q_1265 ⟨rfl, rfl⟩ ⟨Nat.le_of_ble_eq_true rfl, Nat.le_of_ble_eq_true rfl⟩ rfl hl.1 rfl (Nat.le_of_ble_eq_true rfl) hc0 dL_law_938 (fun r2 o2 H locs hGm hf po => ?_)
  have hGx := TG.fr hGx (fun a h => (hdj a).resolve_left h) hf hGm.2.1
  have po2 := po
  refine lv_pop X.1 X.2.1 dL_law_941 rfl ?_
  refine lv_goto (tgt := 1014) X.1 X.2.1 dL_law_942 (by decide) ?_
  refine W.widen (k := cells + 1) (n := slots + 8520) (Nat.le_succ _) (Nat.le_add_right _ _) ?_
  obtain ⟨y1, ew⟩ := po2
  rw [ew] at hGm
  have ok : OKG (K13 (K9 K 0) 0) P N u := ⟨⟨ok.1.1, ok.1.2.1, Nat.zero_le _, Nat.zero_le _⟩, ok.2⟩
  exact kk _ _ ⟨_, _, _, _, _, _, _, _, _, _, _, _, _, _, _, _, _, _, _, _, _, _, _, _, K13 (K9 K 0) 0, _, _, _, _, _, _, _, _, hGx, hGm, ok, hU, hq, hyK, hB, hma, hdj, hS, SK.up hsk⟩
set_option maxHeartbeats 4000000 in
set_option maxRecDepth 100000 in
theorem law_c29 {p : Program} {l : Launch} {e : Env} {s : State} {m : MethodId} {below : List Frame} {meth : Method} {c : Code} {H : Heap} {locs : List Loc} {cells slots : Nat} {Q : State → Prop} {ls : Array Slot} {D : va_G} {cy : Nat → ClassId} {b L xa ma : Nat} {xs : Nat → Int32} {z : EVt} {x : Int32} {ic : Nat} (X : ty_X p c s m #[Value.ref b] cL_law "EdgeEchoesLaw" 4 D cy) (hE : EW (fun q => s.heap.size ≤ q) s s.heap z) (hX : va_X b L xs s s.heap) (hbl : b < s.heap.size) (hL : L ≤ 2048) (hl : lv_has ls 4 [(0, .ref b), (1, .ref xa), (2, .ref ma), (3, .int x)]) (hx : 0 ≤ x.toInt ∧ x.toInt + 4 ≤ L) (hcs : cells + 1 ≤ 138320 ∧ slots + 8520 ≤ 8687290) (hic : ic ≤ 512) (hJ : LJ D cy s xa ma ic H locs) (kk : ∀ H locs, LJ D cy s xa ma (ic + 1) H locs → W p l e room_1 s m #[Value.ref b] below meth c H locs (cells + 1) (slots + 8520) Q (F0 m 1014 ls [])) : W p l e room_1 s m #[Value.ref b] below meth c H locs cells slots Q (F0 m 945 ls []) := by
  have hc0 : cells ≤ room_1.cells ∧ slots ≤ room_1.slots := ⟨Nat.le_trans (Nat.le_succ _) hcs.1, Nat.le_trans (Nat.le_add_right _ _) hcs.2⟩
  obtain ⟨τ, τm, F, tx, la, nu, tr, dr, wi, ga, im, i0, i1, l0, l1, w0, w1, nw, wn, pa, lz, lk, wl, y, K, P, N, u, k0, k1, cu, nx, tb, hGx, hGm, ok, hU, hq, hyK, hB, hma, hdj, hS, hsk⟩ := hJ
  obtain ⟨hp, hs, hy, hr, hv⟩ := id hq
  have hxa := hp.1
  have hk9 := ok.1.2.2.1
  have hk13 := ok.1.2.2.2
  have hbk := SK.lt hsk hic
  obtain ⟨zn, hzn, fzn⟩ := hv.1.2.2.2.2.2.1.2.2
  have hk7 := ok.1.2.1
  refine lv_aload_n X.1 X.2.1 dL_law_945 rfl (lv_at hl 1 rfl) ?_
  refine lw_arg (j := 1) X hX hbl hL hl hx hGx.2.1 (by decide) dL_law_946 dL_law_947 dL_law_948 dL_law_949 dL_law_950 (fun v1 e1 => ?_)
  refine f_cVi X hGx (e_X9_seed l D cy τ hs hxa hv.2.2.2.2.2.2 v1) hxa rfl yv_X9_seed q_858 ⟨rfl, rfl⟩ ⟨Nat.le_of_ble_eq_true rfl, Nat.le_of_ble_eq_true rfl⟩ rfl hl.1 rfl (Nat.le_of_ble_eq_true rfl) hc0 dL_law_951 (fun r2 o2 H locs hGx hf po => ?_)
  obtain ⟨d1, d2⟩ := po
  have hGm := TG.fr hGm (fun a h => (hdj a).resolve_right h) hf hGx.2.1
  refine lv_aload_n X.1 X.2.1 dL_law_954 rfl (lv_at hl 2 rfl) ?_
  refine lw_arg (j := 1) X hX hbl hL hl hx hGx.2.1 (by decide) dL_law_955 dL_law_956 dL_law_957 dL_law_958 dL_law_959 (fun v3 e3 => ?_)
  refine f_cVi X hGm (e_X10_seed l D cy τm hU ok hma v3 hsk.2.2.1) hma rfl yv_X10_seed q_1269 ⟨rfl, rfl⟩ ⟨Nat.le_of_ble_eq_true rfl, Nat.le_of_ble_eq_true rfl⟩ rfl hl.1 rfl (Nat.le_of_ble_eq_true rfl) hc0 dL_law_960 (fun r4 o4 H locs hGm hf po => ?_)
  have hGx := TG.fr hGx (fun a h => (hdj a).resolve_left h) hf hGm.2.1
  have po4 := po
  refine n_icmp_eq (tgt := 1014) X dL_law_963 (by decide) (fun cq => ?_) (fun cq => ?_)
  · refine W.widen (k := cells + 1) (n := slots + 8520) (Nat.le_succ _) (Nat.le_add_right _ _) ?_
    obtain ⟨c1, c2⟩ := po4
    have ee : v3 = v1 := by rw [e3, e1]
    rw [ee] at c1 c2
    by_cases h0 : 0 ≤ v1.toInt
    · rw [(c1 h0).2] at hGm
      rw [(d1 h0).2] at hGx
      have hq := qq_sd (v := v1) hq
      have ok := KU_ok (i := 1002) (v := v1) ok
      have hq := qq_cS (sd2 := (KU K 1002 v1).2.2.2.2 1002) (s2 := (KU K 1002 v1).2.2.2.2 1003) (s3 := (KU K 1002 v1).2.2.2.2 1004) KU_at (KU_ne (by decide)) (KU_ne (by decide)) (qq_cB (B2 := bK (KU K 1002 v1)) (KU_b (by decide)) (qq_T (T2 := (KU K 1002 v1).2.2.2.2) hq (KU_T hk7 (by decide))))
      exact kk _ _ ⟨_, _, _, _, _, _, _, _, _, _, _, _, _, _, _, _, _, _, _, _, _, _, _, _, KU K 1002 v1, _, _, _, _, _, _, _, _, hGx, hGm, ok, hU, hq, hyK, (BY_KU hk7 (by decide) hB), hma, hdj, hS, SK.up (SK.sd hsk h0)⟩
    · rw [(c2 (by omega)).2] at hGm
      rw [(d2 (by omega)).2] at hGx
      exact kk _ _ ⟨_, _, _, _, _, _, _, _, _, _, _, _, _, _, _, _, _, _, _, _, _, _, _, _, K, _, _, _, _, _, _, _, _, hGx, hGm, ok, hU, hq, hyK, hB, hma, hdj, hS, SK.up hsk⟩
  · refine absurd ?_ cq
    obtain ⟨c1, c2⟩ := po4
    have ee : v3 = v1 := by rw [e3, e1]
    rw [ee] at c1 c2
    by_cases h0 : 0 ≤ v1.toInt
    · rw [(d1 h0).1, (c1 h0).1]
    · exact (d2 (by omega)).1.trans (c2 (by omega)).1.symm
set_option maxHeartbeats 4000000 in
set_option maxRecDepth 100000 in
theorem law_c30 {p : Program} {l : Launch} {e : Env} {s : State} {m : MethodId} {below : List Frame} {meth : Method} {c : Code} {H : Heap} {locs : List Loc} {cells slots : Nat} {Q : State → Prop} {ls : Array Slot} {D : va_G} {cy : Nat → ClassId} {b L xa ma : Nat} {xs : Nat → Int32} {z : EVt} {x : Int32} {ic : Nat} (X : ty_X p c s m #[Value.ref b] cL_law "EdgeEchoesLaw" 4 D cy) (hE : EW (fun q => s.heap.size ≤ q) s s.heap z) (hX : va_X b L xs s s.heap) (hbl : b < s.heap.size) (hL : L ≤ 2048) (hl : lv_has ls 4 [(0, .ref b), (1, .ref xa), (2, .ref ma), (3, .int x)]) (hx : 0 ≤ x.toInt ∧ x.toInt + 4 ≤ L) (hcs : cells + 1 ≤ 138320 ∧ slots + 8520 ≤ 8687290) (hic : ic ≤ 512) (hJ : LJ D cy s xa ma ic H locs) (kk : ∀ H locs, LJ D cy s xa ma (ic + 1) H locs → W p l e room_1 s m #[Value.ref b] below meth c H locs (cells + 1) (slots + 8520) Q (F0 m 1014 ls [])) : W p l e room_1 s m #[Value.ref b] below meth c H locs cells slots Q (F0 m 968 ls []) := by
  have hc0 : cells ≤ room_1.cells ∧ slots ≤ room_1.slots := ⟨Nat.le_trans (Nat.le_succ _) hcs.1, Nat.le_trans (Nat.le_add_right _ _) hcs.2⟩
  obtain ⟨τ, τm, F, tx, la, nu, tr, dr, wi, ga, im, i0, i1, l0, l1, w0, w1, nw, wn, pa, lz, lk, wl, y, K, P, N, u, k0, k1, cu, nx, tb, hGx, hGm, ok, hU, hq, hyK, hB, hma, hdj, hS, hsk⟩ := hJ
  obtain ⟨hp, hs, hy, hr, hv⟩ := id hq
  have hxa := hp.1
  have hk9 := ok.1.2.2.1
  have hk13 := ok.1.2.2.2
  have hbk := SK.lt hsk hic
  obtain ⟨zn, hzn, fzn⟩ := hv.1.2.2.2.2.2.1.2.2
  have hk7 := ok.1.2.1
  refine lv_aload_n X.1 X.2.1 dL_law_968 rfl (lv_at hl 1 rfl) ?_
  refine lw_arg (j := 1) X hX hbl hL hl hx hGx.2.1 (by decide) dL_law_969 dL_law_970 dL_law_971 dL_law_972 dL_law_973 (fun v1 e1 => ?_)
  refine f_cVi X hGx (e_X9_keep l D cy τ hs hxa hr.1 hv.1 fzn v1 hv.2.2.2.2.2.2 (ii := lnI i0 i1 v1.toInt) (li := lnI l0 l1 v1.toInt) (wi := lnI w0 w1 v1.toInt) hr.2.1.1 (lnI_x (fun a => τ a = some (0, 2)) hr.2.1.2.1 hr.2.1.2.2.1) (lnI_x (fun a => τ a = some (0, 3)) hr.2.2.1.1 hr.2.2.1.2.1) (lnI_x (fun a => τ a = some (0, 8)) hr.2.2.1.2.2.1 hr.2.2.1.2.2.2.1) hr.2.1.2.2.2.2.1 (rq_i hr) (lnI_2 (fun a b => F a 0 = some (.ref b)) hr.2.2.1.2.2.2.2.1 hr.2.2.1.2.2.2.2.2.1) (lnI_2 (fun a b => F a 0 = some (.ref b)) hr.2.2.1.2.2.2.2.2.2.1 hr.2.2.1.2.2.2.2.2.2.2)) hxa rfl yv_X9_keep q_862 ⟨rfl, rfl⟩ ⟨Nat.le_of_ble_eq_true rfl, Nat.le_of_ble_eq_true rfl⟩ rfl hl.1 rfl (Nat.le_of_ble_eq_true rfl) hc0 dL_law_974 (fun r2 o2 H locs hGx hf po => ?_)
  obtain ⟨d1, d2⟩ := po
  have hGm := TG.fr hGm (fun a h => (hdj a).resolve_right h) hf hGx.2.1
  refine lv_pop X.1 X.2.1 dL_law_977 rfl ?_
  refine lv_aload_n X.1 X.2.1 dL_law_978 rfl (lv_at hl 2 rfl) ?_
  refine lw_arg (j := 1) X hX hbl hL hl hx hGx.2.1 (by decide) dL_law_979 dL_law_980 dL_law_981 dL_law_982 dL_law_983 (fun v3 e3 => ?_)
  refine f_cVi X hGm (e_X10_keep l D cy τm hU ok hma v3 hsk.2.2.1) hma rfl yv_X10_keep q_1273 ⟨rfl, rfl⟩ ⟨Nat.le_of_ble_eq_true rfl, Nat.le_of_ble_eq_true rfl⟩ rfl hl.1 rfl (Nat.le_of_ble_eq_true rfl) hc0 dL_law_984 (fun r4 o4 H locs hGm hf po => ?_)
  have hGx := TG.fr hGx (fun a h => (hdj a).resolve_left h) hf hGm.2.1
  have po4 := po
  refine lv_pop X.1 X.2.1 dL_law_987 rfl ?_
  refine lv_goto (tgt := 1014) X.1 X.2.1 dL_law_988 (by decide) ?_
  refine W.widen (k := cells + 1) (n := slots + 8520) (Nat.le_succ _) (Nat.le_add_right _ _) ?_
  obtain ⟨c1, c2, c3⟩ := po4
  have ee : v3 = v1 := by rw [e3, e1]
  rw [ee] at c1 c2 c3
  by_cases h0 : v1.toInt = 0
  · obtain ⟨-, y9, ok, ew⟩ := c1 h0
    rw [ew] at hGm
    rw [(d1 (by omega)).2, h0, show lnI i0 i1 0 = i0 from rfl, show lnI l0 l1 0 = l0 from rfl, show lnI w0 w1 0 = w0 from rfl] at hGx
    have hq := qq_kp0 hzn hq
    have hq := qq_cS (sd2 := (KU K 1003 (K.2.2.2.2 1002)).2.2.2.2 1002) (s2 := (KU K 1003 (K.2.2.2.2 1002)).2.2.2.2 1003) (s3 := (KU K 1003 (K.2.2.2.2 1002)).2.2.2.2 1004) (KU_ne (by decide)) KU_at (KU_ne (by decide)) (qq_cB (B2 := bK (KU K 1003 (K.2.2.2.2 1002))) (KU_b (by decide)) (qq_T (T2 := (KU K 1003 (K.2.2.2.2 1002)).2.2.2.2) hq (KU_T hk7 (by decide))))
    exact kk _ _ ⟨_, _, _, _, _, _, _, _, _, _, _, _, _, _, _, _, _, _, _, _, _, _, _, _, KU K 1003 (K.2.2.2.2 1002), _, _, _, _, _, _, _, _, hGx, hGm, ok, hU, hq, hyK, (BY_KU hk7 (by decide) hB), hma, hdj, hS, SK.up (SK.i0 hsk hsk.2.2.1)⟩
  by_cases h1 : v1.toInt = 1
  · obtain ⟨-, y9, ok, ew⟩ := c2 h1
    rw [ew] at hGm
    rw [(d1 (by omega)).2, h1, show lnI i0 i1 1 = i1 from rfl, show lnI l0 l1 1 = l1 from rfl, show lnI w0 w1 1 = w1 from rfl] at hGx
    have hq := qq_kp1 hzn hq
    have hq := qq_cS (sd2 := (KU K 1004 (K.2.2.2.2 1002)).2.2.2.2 1002) (s2 := (KU K 1004 (K.2.2.2.2 1002)).2.2.2.2 1003) (s3 := (KU K 1004 (K.2.2.2.2 1002)).2.2.2.2 1004) (KU_ne (by decide)) (KU_ne (by decide)) KU_at (qq_cB (B2 := bK (KU K 1004 (K.2.2.2.2 1002))) (KU_b (by decide)) (qq_T (T2 := (KU K 1004 (K.2.2.2.2 1002)).2.2.2.2) hq (KU_T hk7 (by decide))))
    exact kk _ _ ⟨_, _, _, _, _, _, _, _, _, _, _, _, _, _, _, _, _, _, _, _, _, _, _, _, KU K 1004 (K.2.2.2.2 1002), _, _, _, _, _, _, _, _, hGx, hGm, ok, hU, hq, hyK, (BY_KU hk7 (by decide) hB), hma, hdj, hS, SK.up (SK.i1 hsk hsk.2.2.1)⟩
  obtain ⟨-, y9, ok, ew⟩ := c3 (by omega)
  rw [ew] at hGm
  rw [(d2 (by omega)).2] at hGx
  exact kk _ _ ⟨_, _, _, _, _, _, _, _, _, _, _, _, _, _, _, _, _, _, _, _, _, _, _, _, K, _, _, _, _, _, _, _, _, hGx, hGm, ok, hU, hq, hyK, hB, hma, hdj, hS, SK.up hsk⟩
set_option maxHeartbeats 4000000 in
set_option maxRecDepth 100000 in
theorem law_c31 {p : Program} {l : Launch} {e : Env} {s : State} {m : MethodId} {below : List Frame} {meth : Method} {c : Code} {H : Heap} {locs : List Loc} {cells slots : Nat} {Q : State → Prop} {ls : Array Slot} {D : va_G} {cy : Nat → ClassId} {b L xa ma : Nat} {xs : Nat → Int32} {z : EVt} {x : Int32} {ic : Nat} (X : ty_X p c s m #[Value.ref b] cL_law "EdgeEchoesLaw" 4 D cy) (hE : EW (fun q => s.heap.size ≤ q) s s.heap z) (hX : va_X b L xs s s.heap) (hbl : b < s.heap.size) (hL : L ≤ 2048) (hl : lv_has ls 4 [(0, .ref b), (1, .ref xa), (2, .ref ma), (3, .int x)]) (hx : 0 ≤ x.toInt ∧ x.toInt + 4 ≤ L) (hcs : cells + 1 ≤ 138320 ∧ slots + 8520 ≤ 8687290) (hic : ic ≤ 512) (hJ : LJ D cy s xa ma ic H locs) (kk : ∀ H locs, LJ D cy s xa ma (ic + 1) H locs → W p l e room_1 s m #[Value.ref b] below meth c H locs (cells + 1) (slots + 8520) Q (F0 m 1014 ls [])) : W p l e room_1 s m #[Value.ref b] below meth c H locs cells slots Q (F0 m 991 ls []) := by
  have hc0 : cells ≤ room_1.cells ∧ slots ≤ room_1.slots := ⟨Nat.le_trans (Nat.le_succ _) hcs.1, Nat.le_trans (Nat.le_add_right _ _) hcs.2⟩
  obtain ⟨τ, τm, F, tx, la, nu, tr, dr, wi, ga, im, i0, i1, l0, l1, w0, w1, nw, wn, pa, lz, lk, wl, y, K, P, N, u, k0, k1, cu, nx, tb, hGx, hGm, ok, hU, hq, hyK, hB, hma, hdj, hS, hsk⟩ := hJ
  obtain ⟨hp, hs, hy, hr, hv⟩ := id hq
  have hxa := hp.1
  have hk9 := ok.1.2.2.1
  have hk13 := ok.1.2.2.2
  have hbk := SK.lt hsk hic
  obtain ⟨zn, hzn, fzn⟩ := hv.1.2.2.2.2.2.1.2.2
  have hk7 := ok.1.2.1
  refine lv_aload_n X.1 X.2.1 dL_law_991 rfl (lv_at hl 1 rfl) ?_
  refine lw_arg (j := 1) X hX hbl hL hl hx hGx.2.1 (by decide) dL_law_992 dL_law_993 dL_law_994 dL_law_995 dL_law_996 (fun v1 e1 => ?_)
  obtain ⟨zg, hzg, fgi⟩ := vq_g (x := v1) hv
  refine f_cVi X hGx (e_X9_goBack l D cy τ hs hxa hr.1 hv.1 v1 (ii := lnI i0 i1 v1.toInt) (li := lnI l0 l1 v1.toInt) (wi := lnI w0 w1 v1.toInt) hr.2.1.1 (lnI_x (fun a => τ a = some (0, 2)) hr.2.1.2.1 hr.2.1.2.2.1) (lnI_x (fun a => τ a = some (0, 3)) hr.2.2.1.1 hr.2.2.1.2.1) (lnI_x (fun a => τ a = some (0, 8)) hr.2.2.1.2.2.1 hr.2.2.1.2.2.2.1) hr.2.1.2.2.2.2.1 (rq_i hr) (lnI_2 (fun a b => F a 0 = some (.ref b)) hr.2.2.1.2.2.2.2.1 hr.2.2.1.2.2.2.2.2.1) (lnI_2 (fun a b => F a 0 = some (.ref b)) hr.2.2.1.2.2.2.2.2.2.1 hr.2.2.1.2.2.2.2.2.2.2) (kp := kB k0 k1 v1.toInt) (vq_b hv) (z := zg) fgi) hxa rfl yv_X9_goBack q_866 ⟨rfl, rfl⟩ ⟨Nat.le_of_ble_eq_true rfl, Nat.le_of_ble_eq_true rfl⟩ rfl hl.1 rfl (Nat.le_of_ble_eq_true rfl) hc0 dL_law_997 (fun r2 o2 H locs hGx hf po => ?_)
  obtain ⟨d1, d2, d3⟩ := po
  have hGm := TG.fr hGm (fun a h => (hdj a).resolve_right h) hf hGx.2.1
  refine lv_pop X.1 X.2.1 dL_law_1000 rfl ?_
  refine lv_aload_n X.1 X.2.1 dL_law_1001 rfl (lv_at hl 2 rfl) ?_
  refine lw_arg (j := 1) X hX hbl hL hl hx hGx.2.1 (by decide) dL_law_1002 dL_law_1003 dL_law_1004 dL_law_1005 dL_law_1006 (fun v3 e3 => ?_)
  refine f_cVi X hGm (e_X10_goBack l D cy τm hU ok hma v3 hsk.2.2.2.1 hsk.2.2.2.2) hma rfl yv_X10_goBack q_1277 ⟨rfl, rfl⟩ ⟨Nat.le_of_ble_eq_true rfl, Nat.le_of_ble_eq_true rfl⟩ rfl hl.1 rfl (Nat.le_of_ble_eq_true rfl) hc0 dL_law_1007 (fun r4 o4 H locs hGm hf po => ?_)
  have hGx := TG.fr hGx (fun a h => (hdj a).resolve_left h) hf hGm.2.1
  have po4 := po
  refine lv_pop X.1 X.2.1 dL_law_1010 rfl ?_
  refine lv_goto (tgt := 1014) X.1 X.2.1 dL_law_1011 (by decide) ?_
  refine W.widen (k := cells + 1) (n := slots + 8520) (Nat.le_succ _) (Nat.le_add_right _ _) ?_
  obtain ⟨c1, c2, c3⟩ := po4
  have ee : v3 = v1 := by rw [e3, e1]
  rw [ee] at c1 c2 c3
  by_cases h0 : v1.toInt = 0
  · obtain ⟨-, g1, g2⟩ := c1 h0
    cases hb : kB k0 k1 v1.toInt with
    | true =>
      have hb2 : k0 = true := by rw [h0] at hb; exact hb
      obtain ⟨y9, ok, ew⟩ := g1 hb2
      rw [ew] at hGm
      rw [(d1 (by omega) hb).2, h0, show lnS (K.2.2.2.2 1003) (K.2.2.2.2 1004) 0 = K.2.2.2.2 1003 from rfl] at hGx
      have hq := qq_gb (s := K.2.2.2.2 1003) hzg hq
      have hq := qq_cS (sd2 := (KU K 1002 (K.2.2.2.2 1003)).2.2.2.2 1002) (s2 := (KU K 1002 (K.2.2.2.2 1003)).2.2.2.2 1003) (s3 := (KU K 1002 (K.2.2.2.2 1003)).2.2.2.2 1004) KU_at (KU_ne (by decide)) (KU_ne (by decide)) (qq_cB (B2 := bK (KU K 1002 (K.2.2.2.2 1003))) (KU_b (by decide)) (qq_T (T2 := (KU K 1002 (K.2.2.2.2 1003)).2.2.2.2) hq (KU_T hk7 (by decide))))
      exact kk _ _ ⟨_, _, _, _, _, _, _, _, _, _, _, _, _, _, _, _, _, _, _, _, _, _, _, _, KU K 1002 (K.2.2.2.2 1003), _, _, _, _, _, _, _, _, hGx, hGm, ok, hU, hq, hyK, (BY_KU hk7 (by decide) hB), hma, hdj, hS, SK.up (SK.sd hsk hsk.2.2.2.1)⟩
    | false =>
      have hb2 : k0 = false := by rw [h0] at hb; exact hb
      obtain ⟨y9, ok, ew⟩ := g2 hb2
      rw [ew] at hGm
      rw [(d2 (by omega) hb).2] at hGx
      exact kk _ _ ⟨_, _, _, _, _, _, _, _, _, _, _, _, _, _, _, _, _, _, _, _, _, _, _, _, K, _, _, _, _, _, _, _, _, hGx, hGm, ok, hU, hq, hyK, hB, hma, hdj, hS, SK.up hsk⟩
  by_cases h1 : v1.toInt = 1
  · obtain ⟨-, g1, g2⟩ := c2 h1
    cases hb : kB k0 k1 v1.toInt with
    | true =>
      have hb2 : k1 = true := by rw [h1] at hb; exact hb
      obtain ⟨y9, ok, ew⟩ := g1 hb2
      rw [ew] at hGm
      rw [(d1 (by omega) hb).2, h1, show lnS (K.2.2.2.2 1003) (K.2.2.2.2 1004) 1 = K.2.2.2.2 1004 from rfl] at hGx
      have hq := qq_gb (s := K.2.2.2.2 1004) hzg hq
      have hq := qq_cS (sd2 := (KU K 1002 (K.2.2.2.2 1004)).2.2.2.2 1002) (s2 := (KU K 1002 (K.2.2.2.2 1004)).2.2.2.2 1003) (s3 := (KU K 1002 (K.2.2.2.2 1004)).2.2.2.2 1004) KU_at (KU_ne (by decide)) (KU_ne (by decide)) (qq_cB (B2 := bK (KU K 1002 (K.2.2.2.2 1004))) (KU_b (by decide)) (qq_T (T2 := (KU K 1002 (K.2.2.2.2 1004)).2.2.2.2) hq (KU_T hk7 (by decide))))
      exact kk _ _ ⟨_, _, _, _, _, _, _, _, _, _, _, _, _, _, _, _, _, _, _, _, _, _, _, _, KU K 1002 (K.2.2.2.2 1004), _, _, _, _, _, _, _, _, hGx, hGm, ok, hU, hq, hyK, (BY_KU hk7 (by decide) hB), hma, hdj, hS, SK.up (SK.sd hsk hsk.2.2.2.2)⟩
    | false =>
      have hb2 : k1 = false := by rw [h1] at hb; exact hb
      obtain ⟨y9, ok, ew⟩ := g2 hb2
      rw [ew] at hGm
      rw [(d2 (by omega) hb).2] at hGx
      exact kk _ _ ⟨_, _, _, _, _, _, _, _, _, _, _, _, _, _, _, _, _, _, _, _, _, _, _, _, K, _, _, _, _, _, _, _, _, hGx, hGm, ok, hU, hq, hyK, hB, hma, hdj, hS, SK.up hsk⟩
  obtain ⟨-, y9, ok, ew⟩ := c3 (by omega)
  rw [ew] at hGm
  rw [(d3 (by omega)).2] at hGx
  exact kk _ _ ⟨_, _, _, _, _, _, _, _, _, _, _, _, _, _, _, _, _, _, _, _, _, _, _, _, K, _, _, _, _, _, _, _, _, hGx, hGm, ok, hU, hq, hyK, hB, hma, hdj, hS, SK.up hsk⟩
