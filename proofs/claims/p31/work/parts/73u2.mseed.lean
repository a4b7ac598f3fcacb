set_option maxHeartbeats 4000000 in
set_option maxRecDepth 100000 in
theorem e_X10_draw (l : Launch) (D : va_G) (cy : Nat → ClassId) (τ : ty_T) (hU : UQ τ) {M : md_T} {P N : Nat} (hB0 : HB M P N) {v : Int32} (hv : 0 ≤ v.toInt) {B : Nat} {a900 : Nat} (h900 : τ a900 = some (0, 10)) (x901 : Int32) (zx901 : 1 ≤ x901.toInt ∧ x901.toInt ≤ 2147483647) : KI l D cy yX10_draw cX10_draw 2 .int (rL 0) τ (cn (SDM M v B) τ) [.ref a900, .int x901] (fun r u => u = cn (SDM M (lcg v) B) τ ∧ r.toInt = (lcg v).toInt / 65536 % x901.toInt) := by
  have lg := lcg_0 (v := v)
  generalize elc : lcg v = lv at lg ⊢
  refine k_metI "EdgeEchoesModel" rfl (by decide +kernel) (Nat.le_of_ble_eq_true rfl) (fun _ _ _ => rfl) ?_
  intro p e s m args below meth c Q ls X hG hl ret
  have hl : lv_has ls 2 [(0, .ref a900), (1, .int x901)] := hl
  refine lv_aload_n X.1 X.2.1 dX10_draw_0 rfl (lv_at hl 0 rfl) ?_
  refine lv_aload_n X.1 X.2.1 dX10_draw_1 rfl (lv_at hl 0 rfl) ?_
  refine gf_10_3 X hG h900 q_879 dX10_draw_2 (fun x1 r1 => ?_)
  have b1 := (cn_R _ _ _ _ h900 r1) _ _ SD_3
  have ev : x1 = v := cI_inj (by omega)
  rw [ev]
  refine lv_i2l X.1 X.2.1 dX10_draw_5 rfl ?_
  refine lv_topl (fun w2 e2 => ?_)
  refine n_ldl X q_1195 (n := 1103515245) (by decide +kernel) dX10_draw_6 (fun w3 e3 t3 => ?_)
  refine lv_lmul X.1 X.2.1 dX10_draw_9 ?_
  refine lv_topl (fun w4 e4 => ?_)
  refine n_ldl X q_1196 (n := 12345) (by decide +kernel) dX10_draw_10 (fun w5 e5 t5 => ?_)
  refine lv_ladd X.1 X.2.1 dX10_draw_13 ?_
  refine lv_topl (fun w6 e6 => ?_)
  refine n_ldl X q_1197 (n := 2147483647) (by decide +kernel) dX10_draw_14 (fun w7 e7 t7 => ?_)
  refine lv_land X.1 X.2.1 dX10_draw_17 ?_
  refine lv_topl (fun w8 e8 => ?_)
  refine lv_l2i X.1 X.2.1 dX10_draw_18 rfl ?_
  refine lv_topi (fun x9 e9 => ?_)
  have ex : x9 = lv := by rw [e9, e8, e7, e6, e5, e4, e3, e2]; exact elc
  rw [ex]
  refine pg_10_3 X hG h900 q_879 dX10_draw_19 (cn (SDM M (lv) B) τ) (cf_off hU h900 SD_v) (cf_oth SD_v) (cw_new h900 (ty_ryes SD_3 (by omega))) (fun H locs hG => ?_)
  refine lv_aload_n X.1 X.2.1 dX10_draw_22 rfl (lv_at hl 0 rfl) ?_
  refine gf_10_3 X hG h900 q_879 dX10_draw_23 (fun x19 r19 => ?_)
  have b19 := (cn_R _ _ _ _ h900 r19) _ _ SD_3
  refine n_ldc X q_1198 (n := 65536) (by decide +kernel) dX10_draw_26 (fun x10 t10 => ?_)
  refine n_div X dX10_draw_28 (by omega) (by omega) (fun x11 t11 => ?_)
  rw [t10, show x19.toInt = (lv).toInt by omega] at t11
  refine lv_iload_n X.1 X.2.1 dX10_draw_29 rfl (lv_at hl 1 rfl) ?_
  refine n_rem X dX10_draw_30 (by omega) (by omega) (fun x12 t12 => ?_)
  exact ret _ _ _ _ x12 _ hG ⟨rfl, by rw [t12.2.2, t11]⟩ dX10_draw_31
