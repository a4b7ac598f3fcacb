/-! what is so, what can be undone, the images: cells, ticks and whether a line is told go along with each copy; draws -/
def AG (τ : ty_T) (F : Nat → Nat → Option Value) (xa nw wn pa lz : Nat) (ln wl : Nat → Nat) : Prop := τ nw = some (0, 3) ∧ τ wn = some (0, 8) ∧ τ pa = some (0, 4) ∧ τ lz = some (3, 12) ∧ (∀ k, k < 12 → τ (ln k) = some (0, 3) ∧ τ (wl k) = some (0, 8)) ∧ F xa 1 = some (.ref nw) ∧ F xa 3 = some (.ref pa) ∧ F nw 0 = some (.ref wn) ∧ F pa 0 = some (.ref lz) ∧ ∀ k, k < 12 → F lz k = some (.ref (ln k)) ∧ F (ln k) 0 = some (.ref (wl k))
/-- a line that counts: N cells, told or not, its ticks no more than B -/
def LG (F : Nat → Nat → Option Value) (l w N : Nat) (b : Bool) (B : Nat) : Prop := F w 7 = some (.int (nI N)) ∧ F l 2 = some (.int (bI b)) ∧ ∃ z : Nat, z ≤ B ∧ F l 3 = some (.int (nI z))
def VG (F : Nat → Nat → Option Value) (nw wn pa : Nat) (ln wl : Nat → Nat) (cu nx N : Nat) (b : Bool) (B : Nat) : Prop := cu ≤ 12 ∧ nx < 12 ∧ N ≤ 72 ∧ F pa 1 = some (.int (nI cu)) ∧ F pa 2 = some (.int (nI nx)) ∧ LG F nw wn N b B ∧ ∀ k, 1 ≤ k → k ≤ cu → LG F (ln ((nx + 12 - k) % 12)) (wl ((nx + 12 - k) % 12)) N b B
def pinL (F : Nat → Nat → Option Value) (l w N : Nat) (b : Bool) (z : Nat) : Nat → Nat → Option Value := fu (fu (fu F w 7 (.int (nI N))) l 2 (.int (bI b))) l 3 (.int (nI z))
def remF (F : Nat → Nat → Option Value) (pa : Nat) (ln wl : Nat → Nat) (nx cu N : Nat) (b : Bool) (z : Nat) : Nat → Nat → Option Value := fu (fu (pinL F (ln nx) (wl nx) N b z) pa 2 (.int (nI ((nx + 1) % 12)))) pa 1 (.int (nI (min 12 (cu + 1))))
def bbF (F : Nat → Nat → Option Value) (pa nw wn nx cu N : Nat) (b : Bool) (z k : Nat) : Nat → Nat → Option Value := fu (pinL (fu F pa 2 (.int (nI ((nx + 12 - k) % 12)))) nw wn N b z) pa 1 (.int (nI (cu - k)))
def kpF (F : Nat → Nat → Option Value) (li wi ii pa N : Nat) (b : Bool) (z : Nat) (sd : Int32) : Nat → Nat → Option Value := fu (fu (fu (pinL F li wi N b z) ii 1 (.int sd)) ii 2 (.int (bI true))) pa 1 (.int (nI 0))
def gbF (F : Nat → Nat → Option Value) (xa nw wn pa N : Nat) (b : Bool) (z : Nat) (sd : Int32) : Nat → Nat → Option Value := fu (fu (pinL F nw wn N b z) xa 8 (.int sd)) pa 1 (.int (nI 0))
theorem nI_cl {n : Nat} (h : n < 2147483648) : (nI n).toNatClampNeg = n := by
  have h1 := cI_nI h
  have h2 := cI_clamp (x := nI n) (by omega)
  omega
theorem fu_f2 {F : Nat → Nat → Option Value} {b j : Nat} {x y : Value} : fu (fu F b j x) b j y = fu F b j y := by
  funext a i
  by_cases e : a = b ∧ i = j
  · obtain ⟨rfl, rfl⟩ := e
    rw [fu_at, fu_at]
  · rw [fu_ne e, fu_ne e, fu_ne e]
/-- a draw; once and n times BY DRAWS -/
def lcg (v : Int32) : Int32 := ((v.toInt64 * 1103515245 + 12345) &&& 2147483647).toInt32
theorem lcg_0 {v : Int32} : 0 ≤ (lcg v).toInt := m_and _
def dr1 (N : Nat) (v : Int32) : Int32 := if (lcg v).toInt / 65536 % 8 = 3 ∧ 1 < N then lcg (lcg v) else lcg v
def drN (N : Nat) : Nat → Int32 → Int32
  | 0, v => v
  | n + 1, v => dr1 N (drN N n v)
theorem pin_sup {τ : ty_T} {F : Nat → Nat → Option Value} {l w N z : Nat} {b : Bool} (hs : SUP τ F) (hl : τ l = some (0, 3)) (hw : τ w = some (0, 8)) : SUP τ (pinL F l w N b z) := sup_fu (sup_fu (sup_fu hs hw (by decide)) hl (by decide)) hl (by decide)
set_option maxHeartbeats 4000000 in
set_option maxRecDepth 100000 in
theorem e_X8_copyFrom (l : Launch) (D : va_G) (cy : Nat → ClassId) (τ : ty_T) {F : Nat → Nat → Option Value} (hs : SUP τ F) {a900 a901 : Nat} (h900 : τ a900 = some (0, 8)) (h901 : τ a901 = some (0, 8)) {x : Int32} (hx : F a901 7 = some (.int x)) : KV l D cy yX8_copyFrom cX8_copyFrom 2 (rL 1) τ (pv F (cn Mx τ)) [.ref a900, .ref a901] (fun w => w = pv (fu F a900 7 (.int x)) (cn Mx τ)) := by
  refine k_metV "EdgeEchoes$Wire" rfl (by decide +kernel) (Nat.le_of_ble_eq_true rfl) ?_
  intro p e s m args below meth c Q ls X hG hl ret
  have hl : lv_has ls 2 [(0, .ref a900), (1, .ref a901)] := hl
  have hN : ty_N τ (pv (F) (cn Mx τ)) := pv_N cn_N
  have hR : ty_Rg Mx τ (pv (F) (cn Mx τ)) := pv_R cn_R
  have hF : ty_Wf Mx τ (pv F (cn Mx τ)) [806, 808, 809, 810, 811, 812, 5000, 6005] := sup_F hs (by decide)
  have hF2 : ty_Wf Mx τ (pv (fu F a900 7 (.int x)) (cn Mx τ)) [806, 808, 809, 810, 811, 812, 5000, 6005] := sup_F (sup_fu hs h900 (j := 7) (by decide)) (by decide)
  refine lv_aload_n X.1 X.2.1 dX8_copyFrom_0 rfl (lv_at hl 1 rfl) ?_
  refine gf_8_0 X hG h901 q_65 dX8_copyFrom_1 (hN _ _ _ h901) (fun a1 h1 r1 => ?_)
  refine n_ic X dX8_copyFrom_4 (by decide) (by decide) (fun x2 t2 => ?_)
  refine lv_aload_n X.1 X.2.1 dX8_copyFrom_5 rfl (lv_at hl 0 rfl) ?_
  refine gf_8_0 X hG h900 q_65 dX8_copyFrom_6 (hN _ _ _ h900) (fun a3 h3 r3 => ?_)
  refine n_ic X dX8_copyFrom_9 (by decide) (by decide) (fun x4 t4 => ?_)
  refine n_bp X dX8_copyFrom_10 (by decide) (by decide) (fun x5 t5 => ?_)
  refine tg_copy X hG hl.1 h1 h3 rfl rfl (by omega) (by omega) (by omega) (by show _ ≤ ((8 : Nat) : Int); omega) (by show _ ≤ ((8 : Nat) : Int); omega) q_524 q_526 q_525 q_19 (Nat.le_of_ble_eq_true rfl) (Nat.le_of_ble_eq_true rfl) dX8_copyFrom_12 (fun j j2 x hx => hF _ _ _ _ h3 (ty_in (n := 5000) rfl) (ty_rno rfl)) (fun H locs hG => ?_)
  refine lv_aload_n X.1 X.2.1 dX8_copyFrom_15 rfl (lv_at hl 1 rfl) ?_
  refine gf_8_1 X hG h901 q_67 dX8_copyFrom_16 (hN _ _ _ h901) (fun a6 h6 r6 => ?_)
  refine n_ic X dX8_copyFrom_19 (by decide) (by decide) (fun x7 t7 => ?_)
  refine lv_aload_n X.1 X.2.1 dX8_copyFrom_20 rfl (lv_at hl 0 rfl) ?_
  refine gf_8_1 X hG h900 q_67 dX8_copyFrom_21 (hN _ _ _ h900) (fun a8 h8 r8 => ?_)
  refine n_ic X dX8_copyFrom_24 (by decide) (by decide) (fun x9 t9 => ?_)
  refine n_bp X dX8_copyFrom_25 (by decide) (by decide) (fun x10 t10 => ?_)
  refine tg_copy X hG hl.1 h6 h8 rfl rfl (by omega) (by omega) (by omega) (by show _ ≤ ((8 : Nat) : Int); omega) (by show _ ≤ ((8 : Nat) : Int); omega) q_524 q_526 q_525 q_19 (Nat.le_of_ble_eq_true rfl) (Nat.le_of_ble_eq_true rfl) dX8_copyFrom_27 (fun j j2 x hx => hF _ _ _ _ h8 (ty_in (n := 6005) rfl) (fun lo hi q => hR _ _ j _ h6 hx lo hi q)) (fun H locs hG => ?_)
  refine lv_aload_n X.1 X.2.1 dX8_copyFrom_30 rfl (lv_at hl 1 rfl) ?_
  refine gf_8_2 X hG h901 q_69 dX8_copyFrom_31 (hN _ _ _ h901) (fun a11 h11 r11 => ?_)
  refine n_ic X dX8_copyFrom_34 (by decide) (by decide) (fun x12 t12 => ?_)
  refine lv_aload_n X.1 X.2.1 dX8_copyFrom_35 rfl (lv_at hl 0 rfl) ?_
  refine gf_8_2 X hG h900 q_69 dX8_copyFrom_36 (hN _ _ _ h900) (fun a13 h13 r13 => ?_)
  refine n_ic X dX8_copyFrom_39 (by decide) (by decide) (fun x14 t14 => ?_)
  refine n_bp X dX8_copyFrom_40 (by decide) (by decide) (fun x15 t15 => ?_)
  refine tg_copy X hG hl.1 h11 h13 rfl rfl (by omega) (by omega) (by omega) (by show _ ≤ ((72 : Nat) : Int); omega) (by show _ ≤ ((72 : Nat) : Int); omega) q_524 q_526 q_525 q_19 (Nat.le_of_ble_eq_true rfl) (Nat.le_of_ble_eq_true rfl) dX8_copyFrom_42 (fun j j2 x hx => hF _ _ _ _ h13 (ty_in (n := 5000) rfl) (ty_rno rfl)) (fun H locs hG => ?_)
  refine lv_aload_n X.1 X.2.1 dX8_copyFrom_45 rfl (lv_at hl 1 rfl) ?_
  refine gf_8_3 X hG h901 q_70 dX8_copyFrom_46 (hN _ _ _ h901) (fun a16 h16 r16 => ?_)
  refine n_ic X dX8_copyFrom_49 (by decide) (by decide) (fun x17 t17 => ?_)
  refine lv_aload_n X.1 X.2.1 dX8_copyFrom_50 rfl (lv_at hl 0 rfl) ?_
  refine gf_8_3 X hG h900 q_70 dX8_copyFrom_51 (hN _ _ _ h900) (fun a18 h18 r18 => ?_)
  refine n_ic X dX8_copyFrom_54 (by decide) (by decide) (fun x19 t19 => ?_)
  refine n_bp X dX8_copyFrom_55 (by decide) (by decide) (fun x20 t20 => ?_)
  refine tg_copy X hG hl.1 h16 h18 rfl rfl (by omega) (by omega) (by omega) (by show _ ≤ ((72 : Nat) : Int); omega) (by show _ ≤ ((72 : Nat) : Int); omega) q_524 q_526 q_525 q_19 (Nat.le_of_ble_eq_true rfl) (Nat.le_of_ble_eq_true rfl) dX8_copyFrom_57 (fun j j2 x hx => hF _ _ _ _ h18 (ty_in (n := 5000) rfl) (ty_rno rfl)) (fun H locs hG => ?_)
  refine lv_aload_n X.1 X.2.1 dX8_copyFrom_60 rfl (lv_at hl 1 rfl) ?_
  refine gf_8_4 X hG h901 q_72 dX8_copyFrom_61 (hN _ _ _ h901) (fun a21 h21 r21 => ?_)
  refine n_ic X dX8_copyFrom_64 (by decide) (by decide) (fun x22 t22 => ?_)
  refine lv_aload_n X.1 X.2.1 dX8_copyFrom_65 rfl (lv_at hl 0 rfl) ?_
  refine gf_8_4 X hG h900 q_72 dX8_copyFrom_66 (hN _ _ _ h900) (fun a23 h23 r23 => ?_)
  refine n_ic X dX8_copyFrom_69 (by decide) (by decide) (fun x24 t24 => ?_)
  refine n_bp X dX8_copyFrom_70 (by decide) (by decide) (fun x25 t25 => ?_)
  refine tg_copy X hG hl.1 h21 h23 rfl rfl (by omega) (by omega) (by omega) (by show _ ≤ ((72 : Nat) : Int); omega) (by show _ ≤ ((72 : Nat) : Int); omega) q_524 q_526 q_525 q_19 (Nat.le_of_ble_eq_true rfl) (Nat.le_of_ble_eq_true rfl) dX8_copyFrom_72 (fun j j2 x hx => hF _ _ _ _ h23 (ty_in (n := 5000) rfl) (ty_rno rfl)) (fun H locs hG => ?_)
  refine lv_aload_n X.1 X.2.1 dX8_copyFrom_75 rfl (lv_at hl 1 rfl) ?_
  refine gf_8_5 X hG h901 q_75 dX8_copyFrom_76 (hN _ _ _ h901) (fun a26 h26 r26 => ?_)
  refine n_ic X dX8_copyFrom_79 (by decide) (by decide) (fun x27 t27 => ?_)
  refine lv_aload_n X.1 X.2.1 dX8_copyFrom_80 rfl (lv_at hl 0 rfl) ?_
  refine gf_8_5 X hG h900 q_75 dX8_copyFrom_81 (hN _ _ _ h900) (fun a28 h28 r28 => ?_)
  refine n_ic X dX8_copyFrom_84 (by decide) (by decide) (fun x29 t29 => ?_)
  refine n_bp X dX8_copyFrom_85 (by decide) (by decide) (fun x30 t30 => ?_)
  refine tg_copy X hG hl.1 h26 h28 rfl rfl (by omega) (by omega) (by omega) (by show _ ≤ ((72 : Nat) : Int); omega) (by show _ ≤ ((72 : Nat) : Int); omega) q_524 q_526 q_525 q_19 (Nat.le_of_ble_eq_true rfl) (Nat.le_of_ble_eq_true rfl) dX8_copyFrom_87 (fun j j2 x hx => hF _ _ _ _ h28 (ty_in (n := 5000) rfl) (ty_rno rfl)) (fun H locs hG => ?_)
  refine lv_aload_n X.1 X.2.1 dX8_copyFrom_90 rfl (lv_at hl 0 rfl) ?_
  refine lv_aload_n X.1 X.2.1 dX8_copyFrom_91 rfl (lv_at hl 1 rfl) ?_
  refine gf_8_6 X hG h901 q_78 dX8_copyFrom_92 (fun x31 r31 => ?_)
  have b31 := (hR _ _ _ _ h901 r31) _ _ rfl
  refine pf_8_6 X hG h900 q_78 dX8_copyFrom_95 (hF _ _ _ _ h900 (ty_in (n := 806) rfl) (ty_ryes rfl (by omega))) (fun H locs hG => ?_)
  refine lv_aload_n X.1 X.2.1 dX8_copyFrom_98 rfl (lv_at hl 0 rfl) ?_
  refine lv_aload_n X.1 X.2.1 dX8_copyFrom_99 rfl (lv_at hl 1 rfl) ?_
  refine gf_8_7 X hG h901 q_81 dX8_copyFrom_100 (fun x32 r32 => ?_)
  have b32 := (hR _ _ _ _ h901 r32) _ _ rfl
  have ux := pv_i r32 hx
  have bx : 0 ≤ x.toInt ∧ x.toInt ≤ 72 := by rw [← ux]; omega
  rw [ux]
  refine pg_8_7 X hG h900 q_81 dX8_copyFrom_103 (pv (fu F a900 7 (.int x)) (cn Mx τ)) pv_off pv_oth (pv_new (cn_F (S := [807]) _ _ _ _ h900 (ty_in (n := 807) rfl) (ty_ryes rfl (by omega)))) (fun H locs hG => ?_)
  refine lv_aload_n X.1 X.2.1 dX8_copyFrom_106 rfl (lv_at hl 0 rfl) ?_
  refine lv_aload_n X.1 X.2.1 dX8_copyFrom_107 rfl (lv_at hl 1 rfl) ?_
  refine gf_8_8 X hG h901 q_84 dX8_copyFrom_108 (fun x33 r33 => ?_)
  have g33 := cI_rng x33
  refine pf_8_8 X hG h900 q_84 dX8_copyFrom_111 (hF2 _ _ _ _ h900 (ty_in (n := 808) rfl) (ty_rno rfl)) (fun H locs hG => ?_)
  refine lv_aload_n X.1 X.2.1 dX8_copyFrom_114 rfl (lv_at hl 0 rfl) ?_
  refine lv_aload_n X.1 X.2.1 dX8_copyFrom_115 rfl (lv_at hl 1 rfl) ?_
  refine gf_8_9 X hG h901 q_88 dX8_copyFrom_116 (fun x34 r34 => ?_)
  have g34 := cI_rng x34
  refine pf_8_9 X hG h900 q_88 dX8_copyFrom_119 (hF2 _ _ _ _ h900 (ty_in (n := 809) rfl) (ty_rno rfl)) (fun H locs hG => ?_)
  refine lv_aload_n X.1 X.2.1 dX8_copyFrom_122 rfl (lv_at hl 0 rfl) ?_
  refine lv_aload_n X.1 X.2.1 dX8_copyFrom_123 rfl (lv_at hl 1 rfl) ?_
  refine gf_8_10 X hG h901 q_91 dX8_copyFrom_124 (fun x35 r35 => ?_)
  have g35 := cI_rng x35
  refine pf_8_10 X hG h900 q_91 dX8_copyFrom_127 (hF2 _ _ _ _ h900 (ty_in (n := 810) rfl) (ty_rno rfl)) (fun H locs hG => ?_)
  refine lv_aload_n X.1 X.2.1 dX8_copyFrom_130 rfl (lv_at hl 0 rfl) ?_
  refine lv_aload_n X.1 X.2.1 dX8_copyFrom_131 rfl (lv_at hl 1 rfl) ?_
  refine gf_8_11 X hG h901 q_93 dX8_copyFrom_132 (fun x36 r36 => ?_)
  have g36 := cI_rng x36
  refine pf_8_11 X hG h900 q_93 dX8_copyFrom_135 (hF2 _ _ _ _ h900 (ty_in (n := 811) rfl) (ty_rno rfl)) (fun H locs hG => ?_)
  refine lv_aload_n X.1 X.2.1 dX8_copyFrom_138 rfl (lv_at hl 0 rfl) ?_
  refine lv_aload_n X.1 X.2.1 dX8_copyFrom_139 rfl (lv_at hl 1 rfl) ?_
  refine gf_8_12 X hG h901 q_95 dX8_copyFrom_140 (fun x37 b37 r37 => ?_)
  refine pf_8_12 X hG h900 q_95 (by omega) dX8_copyFrom_143 (hF2 _ _ _ _ h900 (ty_in (n := 812) rfl) (ty_rno rfl)) (fun H locs hG => ?_)
  exact ret _ _ _ _ _ hG rfl dX8_copyFrom_146
set_option maxHeartbeats 4000000 in
set_option maxRecDepth 100000 in
theorem e_X3_copyFrom (l : Launch) (D : va_G) (cy : Nat → ClassId) (τ : ty_T) {F : Nat → Nat → Option Value} (hs : SUP τ F) {a900 a901 : Nat} (h900 : τ a900 = some (0, 3)) (h901 : τ a901 = some (0, 3)) {w h N z : Nat} {bb : Bool} (fa : F a900 0 = some (.ref w)) (fb : F a901 0 = some (.ref h)) (hx : F h 7 = some (.int (nI N))) (hy : F a901 2 = some (.int (bI bb))) (hz : F a901 3 = some (.int (nI z))) : KV l D cy yX3_copyFrom cX3_copyFrom 2 (rL 2) τ (pv F (cn Mx τ)) [.ref a900, .ref a901] (fun u => u = pv (pinL F a900 w N bb z) (cn Mx τ)) := by
  refine k_metV "EdgeEchoes$Line" rfl (by decide +kernel) (Nat.le_of_ble_eq_true rfl) ?_
  intro p e s m args below meth c Q ls X hG hl ret
  have hl : lv_has ls 2 [(0, .ref a900), (1, .ref a901)] := hl
  have hN : ty_N τ (pv (F) (cn Mx τ)) := pv_N cn_N
  have hR : ty_Rg Mx τ (pv (F) (cn Mx τ)) := pv_R cn_R
  refine lv_aload_n X.1 X.2.1 dX3_copyFrom_0 rfl (lv_at hl 0 rfl) ?_
  refine gf_3_0 X hG h900 q_162 dX3_copyFrom_1 (hN _ _ _ h900) (fun a1 h1 r1 => ?_)
  have e1 := pv_rd r1 fa
  cases e1
  refine lv_aload_n X.1 X.2.1 dX3_copyFrom_4 rfl (lv_at hl 1 rfl) ?_
  refine gf_3_0 X hG h901 q_162 dX3_copyFrom_5 (hN _ _ _ h901) (fun a2 h2 r2 => ?_)
  have e2 := pv_rd r2 fb
  cases e2
  refine k_cVv X hG (e_X8_copyFrom l D cy τ hs h1 h2 hx) h1 rfl yv_X8_copyFrom q_520 ⟨rfl, rfl⟩ ⟨Nat.le_of_ble_eq_true rfl, Nat.le_of_ble_eq_true rfl⟩ rfl hl.1 rfl (Nat.le_of_ble_eq_true rfl) ⟨Nat.zero_le _, Nat.zero_le _⟩ dX3_copyFrom_8 (fun u5 H locs hG po3 => ?_)
  rw [po3] at hG
  have hF1 : ty_Wf Mx τ (pv (fu F w 7 (.int (nI N))) (cn Mx τ)) [106, 5000] := sup_F (sup_fu hs h1 (j := 7) (by decide)) (by decide)
  have n1 : a901 ≠ w := fun q => by rw [q, h1] at h901; cases h901
  refine lv_aload_n X.1 X.2.1 dX3_copyFrom_11 rfl (lv_at hl 0 rfl) ?_
  refine gf_3_1 X hG h900 q_167 dX3_copyFrom_12 (pv_N cn_N _ _ _ h900) (fun a6 h6 r6 => ?_)
  refine lv_aload_n X.1 X.2.1 dX3_copyFrom_15 rfl (lv_at hl 1 rfl) ?_
  refine gf_3_1 X hG h901 q_167 dX3_copyFrom_16 (pv_N cn_N _ _ _ h901) (fun a7 h7 r7 => ?_)
  refine k_cVv X hG (c_X1_copyFrom l D cy τ _ (pv_N cn_N) (pv_R cn_R) (ty_Wf.sub (S' := [106, 5000]) hF1 (by decide)) h6 h7) h6 rfl yv_X1_copyFrom q_527 ⟨rfl, rfl⟩ ⟨Nat.le_of_ble_eq_true rfl, Nat.le_of_ble_eq_true rfl⟩ rfl hl.1 rfl (Nat.le_of_ble_eq_true rfl) ⟨Nat.zero_le _, Nat.zero_le _⟩ dX3_copyFrom_19 (fun u10 H locs hG po8 => ?_)
  rw [po8] at hG
  refine lv_aload_n X.1 X.2.1 dX3_copyFrom_22 rfl (lv_at hl 0 rfl) ?_
  refine lv_aload_n X.1 X.2.1 dX3_copyFrom_23 rfl (lv_at hl 1 rfl) ?_
  refine gf_3_2 X hG h901 q_171 dX3_copyFrom_24 (fun x11 b11 r11 => ?_)
  have u2 := pv_i r11 ((fu_b n1).trans hy)
  subst u2
  refine pg_3_2 X hG h900 q_171 (by rw [bI_t]; split <;> omega) dX3_copyFrom_27 (pv (fu (fu F w 7 (.int (nI N))) a900 2 (.int (bI bb))) (cn Mx τ)) pv_off pv_oth (pv_new (cn_F (S := [302]) _ _ _ _ h900 (ty_in (n := 302) rfl) (ty_rno rfl))) (fun H locs hG => ?_)
  refine lv_aload_n X.1 X.2.1 dX3_copyFrom_30 rfl (lv_at hl 0 rfl) ?_
  refine lv_aload_n X.1 X.2.1 dX3_copyFrom_31 rfl (lv_at hl 1 rfl) ?_
  refine gf_3_3 X hG h901 q_174 dX3_copyFrom_32 (fun x12 r12 => ?_)
  have g12 := cI_rng x12
  have u3 := pv_i r12 ((fu_j (by decide)).trans ((fu_b n1).trans hz))
  subst u3
  refine pg_3_3 X hG h900 q_174 dX3_copyFrom_35 (pv (pinL F a900 w N bb z) (cn Mx τ)) pv_off pv_oth (pv_new (cn_F (S := [303]) _ _ _ _ h900 (ty_in (n := 303) rfl) (ty_rno rfl))) (fun H locs hG => ?_)
  exact ret _ _ _ _ _ hG rfl dX3_copyFrom_38
set_option maxHeartbeats 4000000 in
set_option maxRecDepth 100000 in
theorem e_X3_pass (l : Launch) (D : va_G) (cy : Nat → ClassId) (τ : ty_T) {F : Nat → Nat → Option Value} (hs : SUP τ F) {a900 : Nat} (h900 : τ a900 = some (0, 3)) {z : Nat} (hz : F a900 3 = some (.int (nI z))) (hb : z < 1000000) : KV l D cy yX3_pass cX3_pass 1 (rL 4) τ (pv F (cn Mx τ)) [.ref a900] (fun u => u = pv (fu F a900 3 (.int (nI (z + 1)))) (cn Mx τ)) := by
  refine k_metV "EdgeEchoes$Line" rfl (by decide +kernel) (Nat.le_of_ble_eq_true rfl) ?_
  intro p e s m args below meth c Q ls X hG hl ret
  have hl : lv_has ls 1 [(0, .ref a900)] := hl
  have hN : ty_N τ (pv (F) (cn Mx τ)) := pv_N cn_N
  have hR : ty_Rg Mx τ (pv (F) (cn Mx τ)) := pv_R cn_R
  have hF : ty_Wf Mx τ (pv F (cn Mx τ)) [5000] := sup_F hs (by decide)
  have ez : (nI z).toInt = (z : Int) := cI_nI (by omega)
  refine lv_aload_n X.1 X.2.1 dX3_pass_0 rfl (lv_at hl 0 rfl) ?_
  refine gf_3_0 X hG h900 q_162 dX3_pass_1 (hN _ _ _ h900) (fun a1 h1 r1 => ?_)
  refine k_cVv X hG (c_X8_step l D cy τ _ hN hR (ty_Wf.sub (S' := [5000]) hF (by decide)) h1) h1 rfl yv_X8_step q_642 ⟨rfl, rfl⟩ ⟨Nat.le_of_ble_eq_true rfl, Nat.le_of_ble_eq_true rfl⟩ rfl hl.1 rfl (Nat.le_of_ble_eq_true rfl) ⟨Nat.zero_le _, Nat.zero_le _⟩ dX3_pass_4 (fun u4 H locs hG po2 => ?_)
  rw [po2] at hG
  refine lv_aload_n X.1 X.2.1 dX3_pass_7 rfl (lv_at hl 0 rfl) ?_
  refine gf_3_1 X hG h900 q_167 dX3_pass_8 (hN _ _ _ h900) (fun a5 h5 r5 => ?_)
  refine lv_aload_n X.1 X.2.1 dX3_pass_11 rfl (lv_at hl 0 rfl) ?_
  refine gf_3_0 X hG h900 q_162 dX3_pass_12 (hN _ _ _ h900) (fun a6 h6 r6 => ?_)
  refine k_cVv X hG (c_X1_watch l D cy τ _ hN hR (ty_Wf.sub (S' := [5000]) hF (by decide)) h5 h6) h5 rfl yv_X1_watch q_643 ⟨rfl, rfl⟩ ⟨Nat.le_of_ble_eq_true rfl, Nat.le_of_ble_eq_true rfl⟩ rfl hl.1 rfl (Nat.le_of_ble_eq_true rfl) ⟨Nat.zero_le _, Nat.zero_le _⟩ dX3_pass_15 (fun u9 H locs hG po7 => ?_)
  rw [po7] at hG
  refine lv_aload_n X.1 X.2.1 dX3_pass_18 rfl (lv_at hl 0 rfl) ?_
  refine lv_dup X.1 X.2.1 dX3_pass_19 rfl ?_
  refine gf_3_3 X hG h900 q_174 dX3_pass_20 (fun x10 r10 => ?_)
  have u10 := pv_i r10 hz
  subst u10
  refine n_ic X dX3_pass_23 (by decide) (by decide) (fun x11 t11 => ?_)
  refine n_add X dX3_pass_24 (by omega) (by omega) (fun x12 t12 => ?_)
  have e12 : x12 = nI (z + 1) := cI_inj (by rw [cI_nI (by omega)]; omega)
  subst e12
  refine pg_3_3 X hG h900 q_174 dX3_pass_25 (pv (fu F a900 3 (.int (nI (z + 1)))) (cn Mx τ)) pv_off pv_oth (pv_new (cn_F (S := [303]) _ _ _ _ h900 (ty_in (n := 303) rfl) (ty_rno rfl))) (fun H locs hG => ?_)
  exact ret _ _ _ _ _ hG rfl dX3_pass_28
set_option maxHeartbeats 4000000 in
set_option maxRecDepth 100000 in
theorem e_X4_remember (l : Launch) (D : va_G) (cy : Nat → ClassId) (τ : ty_T) {F : Nat → Nat → Option Value} (hs : SUP τ F) {xa nw wn pa lz : Nat} {ln wl : Nat → Nat} {cu nx N B : Nat} {bb : Bool} (ha : AG τ F xa nw wn pa lz ln wl) (hv : VG F nw wn pa ln wl cu nx N bb B) {z : Nat} (fz : F nw 3 = some (.int (nI z))) : KV l D cy yX4_remember cX4_remember 2 (rL 3) τ (pv F (cn Mx τ)) [.ref pa, .ref nw] (fun w => w = pv (remF F pa ln wl nx cu N bb z) (cn Mx τ)) := by
  refine k_metV "EdgeEchoes$Past" rfl (by decide +kernel) (Nat.le_of_ble_eq_true rfl) ?_
  intro p e s m args below meth c Q ls X hG hl ret
  have hl : lv_has ls 2 [(0, .ref pa), (1, .ref nw)] := hl
  obtain ⟨hnw, hwn, hpa, hlz, hk, fnw, fpa, fwn, flz, fk⟩ := id ha
  obtain ⟨vc, vn, vN, f1, f2, fl0, fv⟩ := id hv
  have en : (nI nx).toInt = (nx : Int) := cI_nI (by omega)
  have ec : (nI cu).toInt = (cu : Int) := cI_nI (by omega)
  have g1 : pa ≠ ln nx := fun q => by have r := (hk nx vn).1; rw [← q, hpa] at r; cases r
  have g2 : pa ≠ wl nx := fun q => by have r := (hk nx vn).2; rw [← q, hpa] at r; cases r
  have pp : ∀ j, (pinL F (ln nx) (wl nx) N bb z) pa j = F pa j := fun j => by unfold pinL; rw [fu_b g1, fu_b g1, fu_b g2]
  have hN : ty_N τ (pv (F) (cn Mx τ)) := pv_N cn_N
  have hR : ty_Rg Mx τ (pv (F) (cn Mx τ)) := pv_R cn_R
  refine lv_aload_n X.1 X.2.1 dX4_remember_0 rfl (lv_at hl 0 rfl) ?_
  refine gf_4_2 X hG hpa q_214 dX4_remember_1 (fun x1 r1 => ?_)
  have u1 := pv_i r1 f2
  subst u1
  have b1 := (hR _ _ _ _ hpa r1) _ _ rfl
  refine n_if_lt (tgt := 16) X dX4_remember_4 (by decide) (fun c2 => ?_) (fun c2 => ?_)
  · exact absurd c2 (by omega)
  · refine lv_aload_n X.1 X.2.1 dX4_remember_7 rfl (lv_at hl 0 rfl) ?_
    refine gf_4_2 X hG hpa q_214 dX4_remember_8 (fun x3 r3 => ?_)
    have u3 := pv_i r3 f2
    subst u3
    have b3 := (hR _ _ _ _ hpa r3) _ _ rfl
    refine n_bp X dX4_remember_11 (by decide) (by decide) (fun x4 t4 => ?_)
    refine n_icmp_lt (tgt := 21) X dX4_remember_13 (by decide) (fun c5 => ?_) (fun c5 => ?_)
    · refine lv_aload_n X.1 X.2.1 dX4_remember_21 rfl (lv_at hl 0 rfl) ?_
      refine gf_4_0 X hG hpa q_211 dX4_remember_22 (hN _ _ _ hpa) (fun a6 h6 r6 => ?_)
      have e6 := pv_rd r6 flz
      cases e6
      refine lv_aload_n X.1 X.2.1 dX4_remember_25 rfl (lv_at hl 0 rfl) ?_
      refine gf_4_2 X hG hpa q_214 dX4_remember_26 (fun x7 r7 => ?_)
      have u7 := pv_i r7 f2
      subst u7
      have b7 := (hR _ _ _ _ hpa r7) _ _ rfl
      refine tg_aald X hG h6 (Or.inl rfl) (cI_in (n := 12) (by omega)) dX4_remember_29 (hN _ _ _ h6) (fun a8 h8 r8 => ?_)
      rw [nI_cl (by omega)] at r8
      have e8 := pv_rd r8 (fk nx vn).1
      cases e8
      have h8 : τ (ln nx) = some (0, 3) := (hk nx vn).1
      refine lv_aload_n X.1 X.2.1 dX4_remember_30 rfl (lv_at hl 1 rfl) ?_
      refine k_cVv X hG (e_X3_copyFrom l D cy τ hs h8 hnw (fk nx vn).2 fwn fl0.1 fl0.2.1 fz) h8 rfl yv_X3_copyFrom q_672 ⟨rfl, rfl⟩ ⟨Nat.le_of_ble_eq_true rfl, Nat.le_of_ble_eq_true rfl⟩ rfl hl.1 rfl (Nat.le_of_ble_eq_true rfl) ⟨Nat.zero_le _, Nat.zero_le _⟩ dX4_remember_31 (fun u11 H locs hG po9 => ?_)
      rw [po9] at hG
      refine lv_aload_n X.1 X.2.1 dX4_remember_34 rfl (lv_at hl 0 rfl) ?_
      refine lv_aload_n X.1 X.2.1 dX4_remember_35 rfl (lv_at hl 0 rfl) ?_
      refine gf_4_2 X hG hpa q_214 dX4_remember_36 (fun x12 r12 => ?_)
      have u12 := pv_i r12 ((pp 2).trans f2)
      subst u12
      refine n_ic X dX4_remember_39 (by decide) (by decide) (fun x13 t13 => ?_)
      refine n_add X dX4_remember_40 (by omega) (by omega) (fun x14 t14 => ?_)
      refine n_bp X dX4_remember_41 (by decide) (by decide) (fun x15 t15 => ?_)
      refine n_rem X dX4_remember_43 (by omega) (by omega) (fun x16 t16 => ?_)
      rw [t15] at t16
      have e16 : x16 = nI ((nx + 1) % 12) := cI_inj (by rw [cI_nI (by omega)]; omega)
      subst e16
      refine pg_4_2 X hG hpa q_214 dX4_remember_44 (pv (fu (pinL F (ln nx) (wl nx) N bb z) pa 2 (.int (nI ((nx + 1) % 12)))) (cn Mx τ)) pv_off pv_oth (pv_new (cn_F (S := [402]) _ _ _ _ hpa (ty_in (n := 402) rfl) (ty_ryes rfl (by rw [cI_nI (by omega)]; omega)))) (fun H locs hG => ?_)
      refine lv_aload_n X.1 X.2.1 dX4_remember_47 rfl (lv_at hl 0 rfl) ?_
      refine n_bp X dX4_remember_48 (by decide) (by decide) (fun x17 t17 => ?_)
      refine lv_aload_n X.1 X.2.1 dX4_remember_50 rfl (lv_at hl 0 rfl) ?_
      refine gf_4_1 X hG hpa q_212 dX4_remember_51 (fun x18 r18 => ?_)
      have u18 := pv_i r18 ((fu_j (by decide)).trans ((pp 1).trans f1))
      subst u18
      refine n_ic X dX4_remember_54 (by decide) (by decide) (fun x19 t19 => ?_)
      refine n_add X dX4_remember_55 (by omega) (by omega) (fun x20 t20 => ?_)
      refine n_min X hl.1 q_673 q_414 q_15 q_415 (Nat.le_of_ble_eq_true rfl) (Nat.le_of_ble_eq_true rfl) ⟨Nat.zero_le _, Nat.zero_le _⟩ dX4_remember_56 (fun x21 t21 => ?_)
      have e21 : x21 = nI (min 12 (cu + 1)) := cI_inj (by rw [cI_nI (by omega)]; omega)
      subst e21
      refine pg_4_1 X hG hpa q_212 dX4_remember_59 (pv (remF F pa ln wl nx cu N bb z) (cn Mx τ)) pv_off pv_oth (pv_new (cn_F (S := [401]) _ _ _ _ hpa (ty_in (n := 401) rfl) (ty_rno rfl))) (fun H locs hG => ?_)
      exact ret _ _ _ _ _ hG rfl dX4_remember_62
    · exact absurd c5 (by omega)
set_option maxHeartbeats 4000000 in
set_option maxRecDepth 100000 in
theorem e_X4_bringBack (l : Launch) (D : va_G) (cy : Nat → ClassId) (τ : ty_T) {F : Nat → Nat → Option Value} (hs : SUP τ F) {xa nw wn pa lz : Nat} {ln wl : Nat → Nat} {cu nx N B : Nat} {bb : Bool} (ha : AG τ F xa nw wn pa lz ln wl) (hv : VG F nw wn pa ln wl cu nx N bb B) {k : Nat} (k1 : 1 ≤ k) (k2 : k ≤ cu) (x902 : Int32) (ek : x902.toInt = (k : Int)) : KV l D cy yX4_bringBack cX4_bringBack 3 (rL 3) τ (pv F (cn Mx τ)) [.ref pa, .ref nw, .int x902] (fun w => ∃ z, z ≤ B ∧ w = pv (bbF F pa nw wn nx cu N bb z k) (cn Mx τ)) := by
  refine k_metV "EdgeEchoes$Past" rfl (by decide +kernel) (Nat.le_of_ble_eq_true rfl) ?_
  intro p e s m args below meth c Q ls X hG hl ret
  have hl : lv_has ls 3 [(0, .ref pa), (1, .ref nw), (2, .int x902)] := hl
  obtain ⟨hnw, hwn, hpa, hlz, hk, fnw, fpa, fwn, flz, fk⟩ := id ha
  obtain ⟨vc, vn, vN, f1, f2, fl0, fv⟩ := id hv
  have en : (nI nx).toInt = (nx : Int) := cI_nI (by omega)
  have ec : (nI cu).toInt = (cu : Int) := cI_nI (by omega)
  obtain ⟨n2, en2⟩ : ∃ n2, n2 = (nx + 12 - k) % 12 := ⟨_, rfl⟩
  have l2 : n2 < 12 := by omega
  have en3 : (nI n2).toInt = (n2 : Int) := cI_nI (by omega)
  have wne : nw ≠ pa := fun q => by rw [q, hpa] at hnw; cases hnw
  have wn2 : wn ≠ pa := fun q => by rw [q, hpa] at hwn; cases hwn
  have zne : lz ≠ pa := fun q => by rw [q, hpa] at hlz; cases hlz
  have kne : ln n2 ≠ pa := fun q => by have r := (hk n2 l2).1; rw [q, hpa] at r; cases r
  have hne : wl n2 ≠ pa := fun q => by have r := (hk n2 l2).2; rw [q, hpa] at r; cases r
  have fk2 := fv k k1 k2
  rw [← en2] at fk2
  obtain ⟨q1, q2, z, zB, q3⟩ := fk2
  have hN : ty_N τ (pv (F) (cn Mx τ)) := pv_N cn_N
  have hR : ty_Rg Mx τ (pv (F) (cn Mx τ)) := pv_R cn_R
  have hF : ty_Wf Mx τ (pv F (cn Mx τ)) [106] := sup_F hs (by decide)
  have hs1 := sup_fu (x := .int (nI n2)) hs hpa (j := 2) (by decide)
  have pp : ∀ j, pinL (fu F pa 2 (.int (nI n2))) nw wn N bb z pa j = fu F pa 2 (.int (nI n2)) pa j := fun j => by unfold pinL; rw [fu_b (Ne.symm wne), fu_b (Ne.symm wne), fu_b (Ne.symm wn2)]
  have g902 := cI_rng x902
  refine lv_iload_n X.1 X.2.1 dX4_bringBack_0 rfl (lv_at hl 2 rfl) ?_
  refine n_ic X dX4_bringBack_1 (by decide) (by decide) (fun x1 t1 => ?_)
  refine n_icmp_lt (tgt := 19) X dX4_bringBack_2 (by decide) (fun c2 => ?_) (fun c2 => ?_)
  · exact absurd c2 (by omega)
  · refine lv_iload_n X.1 X.2.1 dX4_bringBack_5 rfl (lv_at hl 2 rfl) ?_
    refine lv_aload_n X.1 X.2.1 dX4_bringBack_6 rfl (lv_at hl 0 rfl) ?_
    refine gf_4_1 X hG hpa q_212 dX4_bringBack_7 (fun x3 r3 => ?_)
    have u3 := pv_i r3 f1
    subst u3
    refine n_icmp_gt (tgt := 19) X dX4_bringBack_10 (by decide) (fun c4 => ?_) (fun c4 => ?_)
    · exact absurd c4 (by omega)
    · refine lv_iload_n X.1 X.2.1 dX4_bringBack_13 rfl (lv_at hl 2 rfl) ?_
      refine n_bp X dX4_bringBack_14 (by decide) (by decide) (fun x5 t5 => ?_)
      refine n_icmp_le (tgt := 20) X dX4_bringBack_16 (by decide) (fun c6 => ?_) (fun c6 => ?_)
      · refine lv_aload_n X.1 X.2.1 dX4_bringBack_20 rfl (lv_at hl 0 rfl) ?_
        refine lv_aload_n X.1 X.2.1 dX4_bringBack_21 rfl (lv_at hl 0 rfl) ?_
        refine gf_4_2 X hG hpa q_214 dX4_bringBack_22 (fun x7 r7 => ?_)
        have u7 := pv_i r7 f2
        subst u7
        refine lv_iload_n X.1 X.2.1 dX4_bringBack_25 rfl (lv_at hl 2 rfl) ?_
        refine n_sub X dX4_bringBack_26 (by omega) (by omega) (fun x8 t8 => ?_)
        refine n_bp X dX4_bringBack_27 (by decide) (by decide) (fun x9 t9 => ?_)
        refine k_cSi X hG (c_J9_floorMod_7cf53 l D cy τ _ hN hR (ty_Wf.sub (S' := []) hF (by decide)) x8 (by omega) x9 (by omega)) ys_J9_floorMod_7cf53 q_742 ⟨rfl, rfl⟩ ⟨Nat.le_of_ble_eq_true rfl, Nat.le_of_ble_eq_true rfl⟩ rfl hl.1 rfl (Nat.le_of_ble_eq_true rfl) ⟨Nat.zero_le _, Nat.zero_le _⟩ dX4_bringBack_29 (fun x11 u12 H locs hG po10 => ?_)
        obtain ⟨eu12, po10⟩ := po10
        rw [eu12] at hG
        have e11 : x11 = nI n2 := cI_inj (by rw [en3]; omega)
        subst e11
        refine pg_4_2 X hG hpa q_214 dX4_bringBack_32 (pv (fu F pa 2 (.int (nI n2))) (cn Mx τ)) pv_off pv_oth (pv_new (cn_F (S := [402]) _ _ _ _ hpa (ty_in (n := 402) rfl) (ty_ryes rfl (by rw [en3]; omega)))) (fun H locs hG => ?_)
        have hN : ty_N τ (pv (fu F pa 2 (.int (nI n2))) (cn Mx τ)) := pv_N cn_N
        refine lv_aload_n X.1 X.2.1 dX4_bringBack_35 rfl (lv_at hl 1 rfl) ?_
        refine lv_aload_n X.1 X.2.1 dX4_bringBack_36 rfl (lv_at hl 0 rfl) ?_
        refine gf_4_0 X hG hpa q_211 dX4_bringBack_37 (hN _ _ _ hpa) (fun a13 h13 r13 => ?_)
        have e13 := pv_rd r13 ((fu_j (by decide)).trans flz)
        cases e13
        refine lv_aload_n X.1 X.2.1 dX4_bringBack_40 rfl (lv_at hl 0 rfl) ?_
        refine gf_4_2 X hG hpa q_214 dX4_bringBack_41 (fun x14 r14 => ?_)
        have u14 := pv_i r14 fu_at
        subst u14
        refine tg_aald X hG h13 (Or.inl rfl) (cI_in (n := 12) (by omega)) dX4_bringBack_44 (hN _ _ _ h13) (fun a15 h15 r15 => ?_)
        rw [nI_cl (by omega)] at r15
        have e15 := pv_rd r15 ((fu_b zne).trans (fk n2 l2).1)
        cases e15
        have h15 : τ (ln n2) = some (0, 3) := (hk n2 l2).1
        refine k_cVv X hG (e_X3_copyFrom l D cy τ hs1 hnw h15 ((fu_b wne).trans fwn) ((fu_b kne).trans (fk n2 l2).2) ((fu_b hne).trans q1) ((fu_b kne).trans q2) ((fu_b kne).trans q3)) hnw rfl yv_X3_copyFrom q_672 ⟨rfl, rfl⟩ ⟨Nat.le_of_ble_eq_true rfl, Nat.le_of_ble_eq_true rfl⟩ rfl hl.1 rfl (Nat.le_of_ble_eq_true rfl) ⟨Nat.zero_le _, Nat.zero_le _⟩ dX4_bringBack_45 (fun u18 H locs hG po16 => ?_)
        rw [po16] at hG
        refine lv_aload_n X.1 X.2.1 dX4_bringBack_48 rfl (lv_at hl 0 rfl) ?_
        refine lv_dup X.1 X.2.1 dX4_bringBack_49 rfl ?_
        refine gf_4_1 X hG hpa q_212 dX4_bringBack_50 (fun x19 r19 => ?_)
        have u19 := pv_i r19 ((pp 1).trans ((fu_j (by decide)).trans f1))
        subst u19
        refine lv_iload_n X.1 X.2.1 dX4_bringBack_53 rfl (lv_at hl 2 rfl) ?_
        refine n_sub X dX4_bringBack_54 (by omega) (by omega) (fun x20 t20 => ?_)
        have e20 : x20 = nI (cu - k) := cI_inj (by rw [cI_nI (by omega)]; omega)
        subst e20
        refine pg_4_1 X hG hpa q_212 dX4_bringBack_55 (pv (fu (pinL (fu F pa 2 (.int (nI n2))) nw wn N bb z) pa 1 (.int (nI (cu - k)))) (cn Mx τ)) pv_off pv_oth (pv_new (cn_F (S := [401]) _ _ _ _ hpa (ty_in (n := 401) rfl) (ty_rno rfl))) (fun H locs hG => ?_)
        exact ret _ _ _ _ _ hG ⟨z, zB, by rw [en2]; rfl⟩ dX4_bringBack_58
      · exact absurd c6 (by omega)
theorem sup_rem {τ : ty_T} {F : Nat → Nat → Option Value} (hs : SUP τ F) {xa nw wn pa lz : Nat} {ln wl : Nat → Nat} {cu nx N B : Nat} {bb : Bool} (ha : AG τ F xa nw wn pa lz ln wl) (hv : VG F nw wn pa ln wl cu nx N bb B) {z : Nat} : SUP τ (remF F pa ln wl nx cu N bb z) := sup_fu (sup_fu (pin_sup hs (ha.2.2.2.2.1 nx hv.2.1).1 (ha.2.2.2.2.1 nx hv.2.1).2) ha.2.2.1 (by decide)) ha.2.2.1 (by decide)
/-- behind a deed: as it was; remembered; remembered and z2 ticks, the seed v -/
def RM (τ : ty_T) (F : Nat → Nat → Option Value) (pa : Nat) (ln wl : Nat → Nat) (nx cu N : Nat) (bb : Bool) (z : Nat) (u : ty_R) : Prop := u = pv F (cn Mx τ) ∨ u = pv (remF F pa ln wl nx cu N bb z) (cn Mx τ)
theorem rem_n {τ : ty_T} {F : Nat → Nat → Option Value} {xa nw wn pa lz : Nat} {ln wl : Nat → Nat} {cu nx N B : Nat} {bb : Bool} (ha : AG τ F xa nw wn pa lz ln wl) (hv : VG F nw wn pa ln wl cu nx N bb B) {z : Nat} (fz : F nw 3 = some (.int (nI z))) : remF F pa ln wl nx cu N bb z nw 3 = some (.int (nI z)) := by
  obtain ⟨hnw, hwn, hpa, hlz, hk, fnw, fpa, fwn, flz, fk⟩ := id ha
  have g1 : nw ≠ pa := fun q => by rw [q, hpa] at hnw; cases hnw
  have g2 : nw ≠ wl nx := fun q => by have r := (hk nx hv.2.1).2; rw [← q, hnw] at r; cases r
  unfold remF pinL
  rw [fu_b g1, fu_b g1]
  by_cases e : nw = ln nx
  · rw [← e, fu_at]
  · rw [fu_b e, fu_b e, fu_b g2]
    exact fz
theorem rem_x {τ : ty_T} {F : Nat → Nat → Option Value} {xa nw wn pa lz : Nat} {ln wl : Nat → Nat} {cu nx N B : Nat} {bb : Bool} (ha : AG τ F xa nw wn pa lz ln wl) (hv : VG F nw wn pa ln wl cu nx N bb B) (hxa : τ xa = some (0, 9)) {z : Nat} (j : Nat) : remF F pa ln wl nx cu N bb z xa j = F xa j := by
  obtain ⟨hnw, hwn, hpa, hlz, hk, fnw, fpa, fwn, flz, fk⟩ := id ha
  have g1 : xa ≠ pa := fun q => by rw [q, hpa] at hxa; cases hxa
  have g2 : xa ≠ wl nx := fun q => by have r := (hk nx hv.2.1).2; rw [← q, hxa] at r; cases r
  have g3 : xa ≠ ln nx := fun q => by have r := (hk nx hv.2.1).1; rw [← q, hxa] at r; cases r
  unfold remF pinL
  rw [fu_b g1, fu_b g1, fu_b g3, fu_b g3, fu_b g2]
theorem rem_w {τ : ty_T} {F : Nat → Nat → Option Value} {xa nw wn pa lz : Nat} {ln wl : Nat → Nat} {cu nx N B : Nat} {bb : Bool} (ha : AG τ F xa nw wn pa lz ln wl) (hv : VG F nw wn pa ln wl cu nx N bb B) {z : Nat} : remF F pa ln wl nx cu N bb z wn 7 = some (.int (nI N)) := by
  obtain ⟨hnw, hwn, hpa, hlz, hk, fnw, fpa, fwn, flz, fk⟩ := id ha
  have g1 : wn ≠ pa := fun q => by rw [q, hpa] at hwn; cases hwn
  have g3 : wn ≠ ln nx := fun q => by have r := (hk nx hv.2.1).1; rw [← q, hwn] at r; cases r
  unfold remF pinL
  rw [fu_b g1, fu_b g1, fu_b g3, fu_b g3]
  by_cases e : wn = wl nx
  · rw [← e, fu_at]
  · rw [fu_b e]
    exact hv.2.2.2.2.2.1.1
theorem rem_0 {τ : ty_T} {F : Nat → Nat → Option Value} {xa nw wn pa lz : Nat} {ln wl : Nat → Nat} {cu nx N B : Nat} {bb : Bool} (ha : AG τ F xa nw wn pa lz ln wl) (hv : VG F nw wn pa ln wl cu nx N bb B) {z : Nat} : remF F pa ln wl nx cu N bb z nw 0 = some (.ref wn) := by
  obtain ⟨hnw, hwn, hpa, hlz, hk, fnw, fpa, fwn, flz, fk⟩ := id ha
  have g1 : nw ≠ pa := fun q => by rw [q, hpa] at hnw; cases hnw
  have g2 : nw ≠ wl nx := fun q => by have r := (hk nx hv.2.1).2; rw [← q, hnw] at r; cases r
  unfold remF pinL
  rw [fu_b g1, fu_b g1, fu_j (by decide), fu_j (by decide), fu_b g2]
  exact fwn
set_option maxHeartbeats 4000000 in
set_option maxRecDepth 100000 in
theorem e_X9_drive (l : Launch) (D : va_G) (cy : Nat → ClassId) (τ : ty_T) {F : Nat → Nat → Option Value} (hs : SUP τ F) {xa nw wn pa lz : Nat} {ln wl : Nat → Nat} {cu nx N B : Nat} {bb : Bool} (hxa : τ xa = some (0, 9)) (ha : AG τ F xa nw wn pa lz ln wl) (hv : VG F nw wn pa ln wl cu nx N bb B) {z : Nat} (fz : F nw 3 = some (.int (nI z))) (x901 : Int32) (zx901 : x901.toInt = 0 ∨ x901.toInt = 1) : KI l D cy yX9_drive cX9_drive 3 .int (rL 4) τ (pv F (cn Mx τ)) [.ref xa, .int x901] (fun r u => RM τ F pa ln wl nx cu N bb z u ∧ True) := by
  refine k_metI "EdgeEchoes" rfl (by decide +kernel) (Nat.le_of_ble_eq_true rfl) (fun _ _ _ => rfl) ?_
  intro p e s m args below meth c Q ls X hG hl ret
  have hl : lv_has ls 3 [(0, .ref xa), (1, .int x901)] := hl
  obtain ⟨hnw, hwn, hpa, hlz, hk, fnw, fpa, fwn, flz, fk⟩ := id ha
  have hN : ty_N τ (pv (F) (cn Mx τ)) := pv_N cn_N
  have hR : ty_Rg Mx τ (pv (F) (cn Mx τ)) := pv_R cn_R
  have hF : ty_Wf Mx τ (pv F (cn Mx τ)) [106, 806, 808, 809, 810, 811, 812, 5000, 6005] := sup_F hs (by decide)
  have hs2 := sup_rem hs ha hv (z := z)
  obtain ⟨ρ2, eρ⟩ : ∃ r : ty_R, r = pv (remF F pa ln wl nx cu N bb z) (cn Mx τ) := ⟨_, rfl⟩
  have hN2 : ty_N τ ρ2 := by rw [eρ]; exact pv_N cn_N
  have hR2 : ty_Rg Mx τ ρ2 := by rw [eρ]; exact pv_R cn_R
  have hF2 : ty_Wf Mx τ ρ2 [106, 806, 808, 809, 810, 811, 812, 5000, 6005] := by rw [eρ]; exact sup_F hs2 (by decide)
  refine lv_aload_n X.1 X.2.1 dX9_drive_0 rfl (lv_at hl 0 rfl) ?_
  refine gf_9_1 X hG hxa q_296 dX9_drive_1 (hN _ _ _ hxa) (fun a1 h1 r1 => ?_)
  refine gf_3_2 X hG h1 q_173 dX9_drive_4 (fun x2 b2 r2 => ?_)
  refine n_if_ne (tgt := 13) X dX9_drive_7 (by decide) (fun c3 => ?_) (fun c3 => ?_)
  · refine lv_aload_n X.1 X.2.1 dX9_drive_13 rfl (lv_at hl 0 rfl) ?_
    refine gf_9_3 X hG hxa q_298 dX9_drive_14 (hN _ _ _ hxa) (fun a4 h4 r4 => ?_)
    refine lv_aload_n X.1 X.2.1 dX9_drive_17 rfl (lv_at hl 0 rfl) ?_
    refine gf_9_1 X hG hxa q_296 dX9_drive_18 (hN _ _ _ hxa) (fun a5 h5 r5 => ?_)
    have e4 := pv_rd r4 fpa
    cases e4
    have e5 := pv_rd r5 fnw
    cases e5
    refine k_cVv X hG (e_X4_remember l D cy τ hs ha hv fz) h4 rfl yv_X4_remember q_668 ⟨rfl, rfl⟩ ⟨Nat.le_of_ble_eq_true rfl, Nat.le_of_ble_eq_true rfl⟩ rfl hl.1 rfl (Nat.le_of_ble_eq_true rfl) ⟨Nat.zero_le _, Nat.zero_le _⟩ dX9_drive_21 (fun u8 H locs hG po6 => ?_)
    rw [po6, ← eρ] at hG
    refine lv_aload_n X.1 X.2.1 dX9_drive_24 rfl (lv_at hl 0 rfl) ?_
    refine gf_9_1 X hG hxa q_296 dX9_drive_25 (hN2 _ _ _ hxa) (fun a9 h9 r9 => ?_)
    refine gf_3_0 X hG h9 q_165 dX9_drive_28 (hN2 _ _ _ h9) (fun a10 h10 r10 => ?_)
    refine gf_8_12 X hG h10 q_97 dX9_drive_31 (fun x11 b11 r11 => ?_)
    have J42 : ∀ (H : Heap) (locs : List Loc) (ls : Array Slot) (x12 : Int32), (0 ≤ x12.toInt ∧ x12.toInt ≤ 1) → TG D cy τ ρ2 (ty_d τ) s.heap H locs → lv_has ls 3 [(0, .ref xa), (1, .int x901)] → W p l e (rL 4) s m args below meth c H locs 0 0 Q (F0 m 42 ls [.int x12]) := by
      intro H locs ls x12 bx12 hG hl
      refine lv_istore_n (lv' := [(2, .int x12), (0, .ref xa), (1, .int x901)]) X.1 X.2.1 dX9_drive_42 rfl hl (by decide) rfl (fun ls hl => ?_)
      refine lv_aload_n X.1 X.2.1 dX9_drive_43 rfl (lv_at hl 1 rfl) ?_
      refine gf_9_1 X hG hxa q_296 dX9_drive_44 (hN2 _ _ _ hxa) (fun a13 h13 r13 => ?_)
      refine gf_3_0 X hG h13 q_165 dX9_drive_47 (hN2 _ _ _ h13) (fun a14 h14 r14 => ?_)
      refine lv_iload_n X.1 X.2.1 dX9_drive_50 rfl (lv_at hl 2 rfl) ?_
      refine pf_8_12 X hG h14 q_97 (by omega) dX9_drive_51 (hF2 _ _ _ _ h14 (ty_in (n := 812) rfl) (ty_rno rfl)) (fun H locs hG => ?_)
      refine lv_iload_n X.1 X.2.1 dX9_drive_54 rfl (lv_at hl 0 rfl) ?_
      exact ret _ _ _ _ x12 _ hG ⟨Or.inr eρ, trivial⟩ dX9_drive_55
    refine n_if_eq (tgt := 41) X dX9_drive_34 (by decide) (fun c15 => ?_) (fun c15 => ?_)
    · refine n_ic X dX9_drive_41 (by decide) (by decide) (fun x16 t16 => ?_)
      exact J42 _ _ _ x16 (by omega) hG (lv_sub hl [0, 1] rfl)
    · refine n_ic X dX9_drive_37 (by decide) (by decide) (fun x17 t17 => ?_)
      refine lv_goto (tgt := 42) X.1 X.2.1 dX9_drive_38 (by decide) ?_
      exact J42 _ _ _ x17 (by omega) hG (lv_sub hl [0, 1] rfl)
  · refine n_ldc X q_666 (n := -1000000003) (by decide +kernel) dX9_drive_10 (fun x18 t18 => ?_)
    exact ret _ _ _ _ x18 _ hG ⟨Or.inl rfl, trivial⟩ dX9_drive_12
set_option maxHeartbeats 4000000 in
set_option maxRecDepth 100000 in
theorem e_X9_turnPlace (l : Launch) (D : va_G) (cy : Nat → ClassId) (τ : ty_T) {F : Nat → Nat → Option Value} (hs : SUP τ F) {xa nw wn pa lz : Nat} {ln wl : Nat → Nat} {cu nx N B : Nat} {bb : Bool} (hxa : τ xa = some (0, 9)) (ha : AG τ F xa nw wn pa lz ln wl) (hv : VG F nw wn pa ln wl cu nx N bb B) {z : Nat} (fz : F nw 3 = some (.int (nI z))) (x901 : Int32) (x902 : Int32) : KI l D cy yX9_turnPlace cX9_turnPlace 4 .int (rL 4) τ (pv F (cn Mx τ)) [.ref xa, .int x901, .int x902] (fun r u => RM τ F pa ln wl nx cu N bb z u ∧ True) := by
  refine k_metI "EdgeEchoes" rfl (by decide +kernel) (Nat.le_of_ble_eq_true rfl) (fun _ _ _ => rfl) ?_
  intro p e s m args below meth c Q ls X hG hl ret
  have hl : lv_has ls 4 [(0, .ref xa), (1, .int x901), (2, .int x902)] := hl
  obtain ⟨hnw, hwn, hpa, hlz, hk, fnw, fpa, fwn, flz, fk⟩ := id ha
  have hN : ty_N τ (pv (F) (cn Mx τ)) := pv_N cn_N
  have hR : ty_Rg Mx τ (pv (F) (cn Mx τ)) := pv_R cn_R
  have hF : ty_Wf Mx τ (pv F (cn Mx τ)) [106, 806, 808, 809, 810, 811, 812, 5000, 6005] := sup_F hs (by decide)
  have hs2 := sup_rem hs ha hv (z := z)
  obtain ⟨ρ2, eρ⟩ : ∃ r : ty_R, r = pv (remF F pa ln wl nx cu N bb z) (cn Mx τ) := ⟨_, rfl⟩
  have hN2 : ty_N τ ρ2 := by rw [eρ]; exact pv_N cn_N
  have hR2 : ty_Rg Mx τ ρ2 := by rw [eρ]; exact pv_R cn_R
  have hF2 : ty_Wf Mx τ ρ2 [106, 806, 808, 809, 810, 811, 812, 5000, 6005] := by rw [eρ]; exact sup_F hs2 (by decide)
  have g901 := cI_rng x901
  have g902 := cI_rng x902
  refine lv_iload_n X.1 X.2.1 dX9_turnPlace_0 rfl (lv_at hl 1 rfl) ?_
  refine k_cSi X hG (c_X9_isPlaceNumber l D cy τ _ hN hR (ty_Wf.sub (S' := []) hF (by decide)) x901) ys_X9_isPlaceNumber q_621 ⟨rfl, rfl⟩ ⟨Nat.le_of_ble_eq_true rfl, Nat.le_of_ble_eq_true rfl⟩ rfl hl.1 rfl (Nat.le_of_ble_eq_true rfl) ⟨Nat.zero_le _, Nat.zero_le _⟩ dX9_turnPlace_1 (fun x2 u3 H locs hG po1 => ?_)
  obtain ⟨eu3, po1⟩ := po1
  rw [eu3] at hG
  refine n_if_ne (tgt := 10) X dX9_turnPlace_4 (by decide) (fun c4 => ?_) (fun c4 => ?_)
  · refine lv_aload_n X.1 X.2.1 dX9_turnPlace_10 rfl (lv_at hl 0 rfl) ?_
    refine gf_9_1 X hG hxa q_296 dX9_turnPlace_11 (hN _ _ _ hxa) (fun a5 h5 r5 => ?_)
    refine gf_3_0 X hG h5 q_165 dX9_turnPlace_14 (hN _ _ _ h5) (fun a6 h6 r6 => ?_)
    refine lv_iload_n X.1 X.2.1 dX9_turnPlace_17 rfl (lv_at hl 1 rfl) ?_
    refine k_cVi X hG (c_X8_hasPlace l D cy τ _ hN hR (ty_Wf.sub (S' := []) hF (by decide)) h6 x901) h6 rfl yv_X8_hasPlace q_624 ⟨rfl, rfl⟩ ⟨Nat.le_of_ble_eq_true rfl, Nat.le_of_ble_eq_true rfl⟩ rfl hl.1 rfl (Nat.le_of_ble_eq_true rfl) ⟨Nat.zero_le _, Nat.zero_le _⟩ dX9_turnPlace_18 (fun x8 u9 H locs hG po7 => ?_)
    obtain ⟨eu9, po7⟩ := po7
    rw [eu9] at hG
    refine n_if_eq (tgt := 40) X dX9_turnPlace_21 (by decide) (fun c10 => ?_) (fun c10 => ?_)
    · refine n_ldc X q_666 (n := -1000000003) (by decide +kernel) dX9_turnPlace_40 (fun x11 t11 => ?_)
      exact ret _ _ _ _ x11 _ hG ⟨Or.inl rfl, trivial⟩ dX9_turnPlace_42
    · refine lv_aload_n X.1 X.2.1 dX9_turnPlace_24 rfl (lv_at hl 0 rfl) ?_
      refine gf_9_1 X hG hxa q_296 dX9_turnPlace_25 (hN _ _ _ hxa) (fun a12 h12 r12 => ?_)
      refine gf_3_0 X hG h12 q_165 dX9_turnPlace_28 (hN _ _ _ h12) (fun a13 h13 r13 => ?_)
      refine gf_8_5 X hG h13 q_77 dX9_turnPlace_31 (hN _ _ _ h13) (fun a14 h14 r14 => ?_)
      refine lv_iload_n X.1 X.2.1 dX9_turnPlace_34 rfl (lv_at hl 1 rfl) ?_
      refine tg_iald X hG h14 rfl (cI_in (n := 72) (by omega)) dX9_turnPlace_35 (fun x15 r15 => ?_)
      refine lv_iload_n X.1 X.2.1 dX9_turnPlace_36 rfl (lv_at hl 2 rfl) ?_
      refine n_icmp_ne (tgt := 43) X dX9_turnPlace_37 (by decide) (fun c16 => ?_) (fun c16 => ?_)
      · refine lv_aload_n X.1 X.2.1 dX9_turnPlace_43 rfl (lv_at hl 0 rfl) ?_
        refine gf_9_3 X hG hxa q_298 dX9_turnPlace_44 (hN _ _ _ hxa) (fun a17 h17 r17 => ?_)
        refine lv_aload_n X.1 X.2.1 dX9_turnPlace_47 rfl (lv_at hl 0 rfl) ?_
        refine gf_9_1 X hG hxa q_296 dX9_turnPlace_48 (hN _ _ _ hxa) (fun a18 h18 r18 => ?_)
        have e17 := pv_rd r17 fpa
        cases e17
        have e18 := pv_rd r18 fnw
        cases e18
        refine k_cVv X hG (e_X4_remember l D cy τ hs ha hv fz) h17 rfl yv_X4_remember q_668 ⟨rfl, rfl⟩ ⟨Nat.le_of_ble_eq_true rfl, Nat.le_of_ble_eq_true rfl⟩ rfl hl.1 rfl (Nat.le_of_ble_eq_true rfl) ⟨Nat.zero_le _, Nat.zero_le _⟩ dX9_turnPlace_51 (fun u21 H locs hG po19 => ?_)
        rw [po19, ← eρ] at hG
        refine lv_aload_n X.1 X.2.1 dX9_turnPlace_54 rfl (lv_at hl 0 rfl) ?_
        refine gf_9_1 X hG hxa q_296 dX9_turnPlace_55 (hN2 _ _ _ hxa) (fun a22 h22 r22 => ?_)
        refine gf_3_0 X hG h22 q_165 dX9_turnPlace_58 (hN2 _ _ _ h22) (fun a23 h23 r23 => ?_)
        refine gf_8_5 X hG h23 q_77 dX9_turnPlace_61 (hN2 _ _ _ h23) (fun a24 h24 r24 => ?_)
        refine lv_iload_n X.1 X.2.1 dX9_turnPlace_64 rfl (lv_at hl 1 rfl) ?_
        refine tg_iald X hG h24 rfl (cI_in (n := 72) (by omega)) dX9_turnPlace_65 (fun x25 r25 => ?_)
        refine lv_istore_n (lv' := [(3, .int x25), (0, .ref xa), (1, .int x901), (2, .int x902)]) X.1 X.2.1 dX9_turnPlace_66 rfl hl (by decide) rfl (fun ls hl => ?_)
        refine lv_aload_n X.1 X.2.1 dX9_turnPlace_67 rfl (lv_at hl 1 rfl) ?_
        refine gf_9_1 X hG hxa q_296 dX9_turnPlace_68 (hN2 _ _ _ hxa) (fun a26 h26 r26 => ?_)
        refine gf_3_0 X hG h26 q_165 dX9_turnPlace_71 (hN2 _ _ _ h26) (fun a27 h27 r27 => ?_)
        refine gf_8_5 X hG h27 q_77 dX9_turnPlace_74 (hN2 _ _ _ h27) (fun a28 h28 r28 => ?_)
        refine lv_iload_n X.1 X.2.1 dX9_turnPlace_77 rfl (lv_at hl 2 rfl) ?_
        refine lv_iload_n X.1 X.2.1 dX9_turnPlace_78 rfl (lv_at hl 3 rfl) ?_
        refine tg_iasf X hG h28 rfl (cI_in (n := 72) (by omega)) dX9_turnPlace_79 (hF2 _ _ _ _ h28 (ty_in (n := 5000) rfl) (ty_rno rfl)) (fun H locs hG => ?_)
        refine lv_iload_n X.1 X.2.1 dX9_turnPlace_80 rfl (lv_at hl 0 rfl) ?_
        exact ret _ _ _ _ x25 _ hG ⟨Or.inr eρ, trivial⟩ dX9_turnPlace_81
      · refine n_ldc X q_666 (n := -1000000003) (by decide +kernel) dX9_turnPlace_40 (fun x29 t29 => ?_)
        exact ret _ _ _ _ x29 _ hG ⟨Or.inl rfl, trivial⟩ dX9_turnPlace_42
  · refine n_ldc X q_327 (n := -1000000002) (by decide +kernel) dX9_turnPlace_7 (fun x30 t30 => ?_)
    exact ret _ _ _ _ x30 _ hG ⟨Or.inl rfl, trivial⟩ dX9_turnPlace_9
set_option maxHeartbeats 4000000 in
set_option maxRecDepth 100000 in
theorem e_X9_cut (l : Launch) (D : va_G) (cy : Nat → ClassId) (τ : ty_T) {F : Nat → Nat → Option Value} (hs : SUP τ F) {xa nw wn pa lz : Nat} {ln wl : Nat → Nat} {cu nx N B : Nat} {bb : Bool} (hxa : τ xa = some (0, 9)) (ha : AG τ F xa nw wn pa lz ln wl) (hv : VG F nw wn pa ln wl cu nx N bb B) {z : Nat} (fz : F nw 3 = some (.int (nI z))) (x901 : Int32) : KI l D cy yX9_cut cX9_cut 2 .int (rL 5) τ (pv F (cn Mx τ)) [.ref xa, .int x901] (fun r u => RM τ F pa ln wl nx cu N bb z u ∧ True) := by
  refine k_metI "EdgeEchoes" rfl (by decide +kernel) (Nat.le_of_ble_eq_true rfl) (fun _ _ _ => rfl) ?_
  intro p e s m args below meth c Q ls X hG hl ret
  have hl : lv_has ls 2 [(0, .ref xa), (1, .int x901)] := hl
  have g901 := cI_rng x901
  refine lv_aload_n X.1 X.2.1 dX9_cut_0 rfl (lv_at hl 0 rfl) ?_
  refine lv_iload_n X.1 X.2.1 dX9_cut_1 rfl (lv_at hl 1 rfl) ?_
  refine n_ic X dX9_cut_2 (by decide) (by decide) (fun x1 t1 => ?_)
  refine k_cVi X hG (e_X9_turnPlace l D cy τ hs hxa ha hv fz x901 x1) hxa rfl yv_X9_turnPlace q_683 ⟨rfl, rfl⟩ ⟨Nat.le_of_ble_eq_true rfl, Nat.le_of_ble_eq_true rfl⟩ rfl hl.1 rfl (Nat.le_of_ble_eq_true rfl) ⟨Nat.zero_le _, Nat.zero_le _⟩ dX9_cut_3 (fun x3 u4 H locs hG po2 => ?_)
  obtain ⟨eu4, po2⟩ := po2
  have g3 := cI_rng x3
  exact ret _ _ _ _ x3 _ hG ⟨eu4, trivial⟩ dX9_cut_6
set_option maxHeartbeats 4000000 in
set_option maxRecDepth 100000 in
theorem e_X9_brief (l : Launch) (D : va_G) (cy : Nat → ClassId) (τ : ty_T) {F : Nat → Nat → Option Value} (hs : SUP τ F) {xa nw wn pa lz : Nat} {ln wl : Nat → Nat} {cu nx N B : Nat} {bb : Bool} (hxa : τ xa = some (0, 9)) (ha : AG τ F xa nw wn pa lz ln wl) (hv : VG F nw wn pa ln wl cu nx N bb B) {z : Nat} (fz : F nw 3 = some (.int (nI z))) (x901 : Int32) : KI l D cy yX9_brief cX9_brief 2 .int (rL 5) τ (pv F (cn Mx τ)) [.ref xa, .int x901] (fun r u => RM τ F pa ln wl nx cu N bb z u ∧ True) := by
  refine k_metI "EdgeEchoes" rfl (by decide +kernel) (Nat.le_of_ble_eq_true rfl) (fun _ _ _ => rfl) ?_
  intro p e s m args below meth c Q ls X hG hl ret
  have hl : lv_has ls 2 [(0, .ref xa), (1, .int x901)] := hl
  have g901 := cI_rng x901
  refine lv_aload_n X.1 X.2.1 dX9_brief_0 rfl (lv_at hl 0 rfl) ?_
  refine lv_iload_n X.1 X.2.1 dX9_brief_1 rfl (lv_at hl 1 rfl) ?_
  refine n_ic X dX9_brief_2 (by decide) (by decide) (fun x1 t1 => ?_)
  refine k_cVi X hG (e_X9_turnPlace l D cy τ hs hxa ha hv fz x901 x1) hxa rfl yv_X9_turnPlace q_683 ⟨rfl, rfl⟩ ⟨Nat.le_of_ble_eq_true rfl, Nat.le_of_ble_eq_true rfl⟩ rfl hl.1 rfl (Nat.le_of_ble_eq_true rfl) ⟨Nat.zero_le _, Nat.zero_le _⟩ dX9_brief_3 (fun x3 u4 H locs hG po2 => ?_)
  obtain ⟨eu4, po2⟩ := po2
  have g3 := cI_rng x3
  exact ret _ _ _ _ x3 _ hG ⟨eu4, trivial⟩ dX9_brief_6
set_option maxHeartbeats 4000000 in
set_option maxRecDepth 100000 in
theorem e_X9_mend (l : Launch) (D : va_G) (cy : Nat → ClassId) (τ : ty_T) {F : Nat → Nat → Option Value} (hs : SUP τ F) {xa nw wn pa lz : Nat} {ln wl : Nat → Nat} {cu nx N B : Nat} {bb : Bool} (hxa : τ xa = some (0, 9)) (ha : AG τ F xa nw wn pa lz ln wl) (hv : VG F nw wn pa ln wl cu nx N bb B) {z : Nat} (fz : F nw 3 = some (.int (nI z))) (x901 : Int32) : KI l D cy yX9_mend cX9_mend 2 .int (rL 5) τ (pv F (cn Mx τ)) [.ref xa, .int x901] (fun r u => RM τ F pa ln wl nx cu N bb z u ∧ True) := by
  refine k_metI "EdgeEchoes" rfl (by decide +kernel) (Nat.le_of_ble_eq_true rfl) (fun _ _ _ => rfl) ?_
  intro p e s m args below meth c Q ls X hG hl ret
  have hl : lv_has ls 2 [(0, .ref xa), (1, .int x901)] := hl
  have g901 := cI_rng x901
  refine lv_aload_n X.1 X.2.1 dX9_mend_0 rfl (lv_at hl 0 rfl) ?_
  refine lv_iload_n X.1 X.2.1 dX9_mend_1 rfl (lv_at hl 1 rfl) ?_
  refine n_ic X dX9_mend_2 (by decide) (by decide) (fun x1 t1 => ?_)
  refine k_cVi X hG (e_X9_turnPlace l D cy τ hs hxa ha hv fz x901 x1) hxa rfl yv_X9_turnPlace q_683 ⟨rfl, rfl⟩ ⟨Nat.le_of_ble_eq_true rfl, Nat.le_of_ble_eq_true rfl⟩ rfl hl.1 rfl (Nat.le_of_ble_eq_true rfl) ⟨Nat.zero_le _, Nat.zero_le _⟩ dX9_mend_3 (fun x3 u4 H locs hG po2 => ?_)
  obtain ⟨eu4, po2⟩ := po2
  have g3 := cI_rng x3
  exact ret _ _ _ _ x3 _ hG ⟨eu4, trivial⟩ dX9_mend_6
set_option maxHeartbeats 4000000 in
set_option maxRecDepth 100000 in
theorem e_X9_piece (l : Launch) (D : va_G) (cy : Nat → ClassId) (τ : ty_T) {F : Nat → Nat → Option Value} (hs : SUP τ F) {xa nw wn pa lz : Nat} {ln wl : Nat → Nat} {cu nx N B : Nat} {bb : Bool} (hxa : τ xa = some (0, 9)) (ha : AG τ F xa nw wn pa lz ln wl) (hv : VG F nw wn pa ln wl cu nx N bb B) {z : Nat} (fz : F nw 3 = some (.int (nI z))) (x901 : Int32) (x902 : Int32) : KI l D cy yX9_piece cX9_piece 4 .int (rL 4) τ (pv F (cn Mx τ)) [.ref xa, .int x901, .int x902] (fun r u => RM τ F pa ln wl nx cu N bb z u ∧ True) := by
  refine k_metI "EdgeEchoes" rfl (by decide +kernel) (Nat.le_of_ble_eq_true rfl) (fun _ _ _ => rfl) ?_
  intro p e s m args below meth c Q ls X hG hl ret
  have hl : lv_has ls 4 [(0, .ref xa), (1, .int x901), (2, .int x902)] := hl
  obtain ⟨hnw, hwn, hpa, hlz, hk, fnw, fpa, fwn, flz, fk⟩ := id ha
  have hN : ty_N τ (pv (F) (cn Mx τ)) := pv_N cn_N
  have hR : ty_Rg Mx τ (pv (F) (cn Mx τ)) := pv_R cn_R
  have hF : ty_Wf Mx τ (pv F (cn Mx τ)) [106, 806, 808, 809, 810, 811, 812, 5000, 6005] := sup_F hs (by decide)
  have hs2 := sup_rem hs ha hv (z := z)
  obtain ⟨ρ2, eρ⟩ : ∃ r : ty_R, r = pv (remF F pa ln wl nx cu N bb z) (cn Mx τ) := ⟨_, rfl⟩
  have hN2 : ty_N τ ρ2 := by rw [eρ]; exact pv_N cn_N
  have hR2 : ty_Rg Mx τ ρ2 := by rw [eρ]; exact pv_R cn_R
  have hF2 : ty_Wf Mx τ ρ2 [106, 806, 808, 809, 810, 811, 812, 5000, 6005] := by rw [eρ]; exact sup_F hs2 (by decide)
  have g901 := cI_rng x901
  have g902 := cI_rng x902
  refine lv_aload_n X.1 X.2.1 dX9_piece_0 rfl (lv_at hl 0 rfl) ?_
  refine gf_9_1 X hG hxa q_296 dX9_piece_1 (hN _ _ _ hxa) (fun a1 h1 r1 => ?_)
  refine gf_3_0 X hG h1 q_165 dX9_piece_4 (hN _ _ _ h1) (fun a2 h2 r2 => ?_)
  refine lv_iload_n X.1 X.2.1 dX9_piece_7 rfl (lv_at hl 1 rfl) ?_
  refine k_cVi X hG (c_X8_hasPiece l D cy τ _ hN hR (ty_Wf.sub (S' := []) hF (by decide)) h2 x901) h2 rfl yv_X8_hasPiece q_608 ⟨rfl, rfl⟩ ⟨Nat.le_of_ble_eq_true rfl, Nat.le_of_ble_eq_true rfl⟩ rfl hl.1 rfl (Nat.le_of_ble_eq_true rfl) ⟨Nat.zero_le _, Nat.zero_le _⟩ dX9_piece_8 (fun x4 u5 H locs hG po3 => ?_)
  obtain ⟨eu5, po3⟩ := po3
  rw [eu5] at hG
  refine n_if_ne (tgt := 17) X dX9_piece_11 (by decide) (fun c6 => ?_) (fun c6 => ?_)
  · refine lv_iload_n X.1 X.2.1 dX9_piece_17 rfl (lv_at hl 2 rfl) ?_
    refine n_ic X dX9_piece_18 (by decide) (by decide) (fun x7 t7 => ?_)
    refine n_icmp_lt (tgt := 28) X dX9_piece_19 (by decide) (fun c8 => ?_) (fun c8 => ?_)
    · refine n_ldc X q_327 (n := -1000000002) (by decide +kernel) dX9_piece_28 (fun x9 t9 => ?_)
      exact ret _ _ _ _ x9 _ hG ⟨Or.inl rfl, trivial⟩ dX9_piece_30
    · refine lv_iload_n X.1 X.2.1 dX9_piece_22 rfl (lv_at hl 2 rfl) ?_
      refine n_bp X dX9_piece_23 (by decide) (by decide) (fun x10 t10 => ?_)
      refine n_icmp_le (tgt := 31) X dX9_piece_25 (by decide) (fun c11 => ?_) (fun c11 => ?_)
      · refine lv_aload_n X.1 X.2.1 dX9_piece_31 rfl (lv_at hl 0 rfl) ?_
        refine gf_9_3 X hG hxa q_298 dX9_piece_32 (hN _ _ _ hxa) (fun a12 h12 r12 => ?_)
        refine lv_aload_n X.1 X.2.1 dX9_piece_35 rfl (lv_at hl 0 rfl) ?_
        refine gf_9_1 X hG hxa q_296 dX9_piece_36 (hN _ _ _ hxa) (fun a13 h13 r13 => ?_)
        have e12 := pv_rd r12 fpa
        cases e12
        have e13 := pv_rd r13 fnw
        cases e13
        refine k_cVv X hG (e_X4_remember l D cy τ hs ha hv fz) h12 rfl yv_X4_remember q_668 ⟨rfl, rfl⟩ ⟨Nat.le_of_ble_eq_true rfl, Nat.le_of_ble_eq_true rfl⟩ rfl hl.1 rfl (Nat.le_of_ble_eq_true rfl) ⟨Nat.zero_le _, Nat.zero_le _⟩ dX9_piece_39 (fun u16 H locs hG po14 => ?_)
        rw [po14, ← eρ] at hG
        refine lv_aload_n X.1 X.2.1 dX9_piece_42 rfl (lv_at hl 0 rfl) ?_
        refine gf_9_1 X hG hxa q_296 dX9_piece_43 (hN2 _ _ _ hxa) (fun a17 h17 r17 => ?_)
        refine gf_3_0 X hG h17 q_165 dX9_piece_46 (hN2 _ _ _ h17) (fun a18 h18 r18 => ?_)
        refine gf_8_0 X hG h18 q_66 dX9_piece_49 (hN2 _ _ _ h18) (fun a19 h19 r19 => ?_)
        refine lv_iload_n X.1 X.2.1 dX9_piece_52 rfl (lv_at hl 1 rfl) ?_
        refine tg_iald X hG h19 rfl (cI_in (n := 8) (by omega)) dX9_piece_53 (fun x20 r20 => ?_)
        refine lv_istore_n (lv' := [(3, .int x20), (0, .ref xa), (1, .int x901), (2, .int x902)]) X.1 X.2.1 dX9_piece_54 rfl hl (by decide) rfl (fun ls hl => ?_)
        refine lv_aload_n X.1 X.2.1 dX9_piece_55 rfl (lv_at hl 1 rfl) ?_
        refine gf_9_1 X hG hxa q_296 dX9_piece_56 (hN2 _ _ _ hxa) (fun a21 h21 r21 => ?_)
        refine gf_3_0 X hG h21 q_165 dX9_piece_59 (hN2 _ _ _ h21) (fun a22 h22 r22 => ?_)
        refine lv_iload_n X.1 X.2.1 dX9_piece_62 rfl (lv_at hl 2 rfl) ?_
        refine lv_iload_n X.1 X.2.1 dX9_piece_63 rfl (lv_at hl 3 rfl) ?_
        refine k_cVv X hG (c_X8_changePiece l D cy τ _ hN2 hR2 (ty_Wf.sub (S' := [5000]) hF2 (by decide)) h22 x901 x902) h22 rfl yv_X8_changePiece q_699 ⟨rfl, rfl⟩ ⟨Nat.le_of_ble_eq_true rfl, Nat.le_of_ble_eq_true rfl⟩ rfl hl.1 rfl (Nat.le_of_ble_eq_true rfl) ⟨Nat.zero_le _, Nat.zero_le _⟩ dX9_piece_64 (fun u25 H locs hG po23 => ?_)
        rw [po23] at hG
        refine lv_iload_n X.1 X.2.1 dX9_piece_67 rfl (lv_at hl 0 rfl) ?_
        exact ret _ _ _ _ x20 _ hG ⟨Or.inr eρ, trivial⟩ dX9_piece_68
      · refine n_ldc X q_327 (n := -1000000002) (by decide +kernel) dX9_piece_28 (fun x26 t26 => ?_)
        exact ret _ _ _ _ x26 _ hG ⟨Or.inl rfl, trivial⟩ dX9_piece_30
  · refine n_ldc X q_609 (n := -1000000001) (by decide +kernel) dX9_piece_14 (fun x27 t27 => ?_)
    exact ret _ _ _ _ x27 _ hG ⟨Or.inl rfl, trivial⟩ dX9_piece_16
set_option maxHeartbeats 4000000 in
set_option maxRecDepth 100000 in
theorem e_X9_end (l : Launch) (D : va_G) (cy : Nat → ClassId) (τ : ty_T) {F : Nat → Nat → Option Value} (hs : SUP τ F) {xa nw wn pa lz : Nat} {ln wl : Nat → Nat} {cu nx N B : Nat} {bb : Bool} (hxa : τ xa = some (0, 9)) (ha : AG τ F xa nw wn pa lz ln wl) (hv : VG F nw wn pa ln wl cu nx N bb B) {z : Nat} (fz : F nw 3 = some (.int (nI z))) (x901 : Int32) (x902 : Int32) : KI l D cy yX9_end cX9_end 4 .int (rL 4) τ (pv F (cn Mx τ)) [.ref xa, .int x901, .int x902] (fun r u => RM τ F pa ln wl nx cu N bb z u ∧ True) := by
  refine k_metI "EdgeEchoes" rfl (by decide +kernel) (Nat.le_of_ble_eq_true rfl) (fun _ _ _ => rfl) ?_
  intro p e s m args below meth c Q ls X hG hl ret
  have hl : lv_has ls 4 [(0, .ref xa), (1, .int x901), (2, .int x902)] := hl
  obtain ⟨hnw, hwn, hpa, hlz, hk, fnw, fpa, fwn, flz, fk⟩ := id ha
  have hN : ty_N τ (pv (F) (cn Mx τ)) := pv_N cn_N
  have hR : ty_Rg Mx τ (pv (F) (cn Mx τ)) := pv_R cn_R
  have hF : ty_Wf Mx τ (pv F (cn Mx τ)) [106, 806, 808, 809, 810, 811, 812, 5000, 6005] := sup_F hs (by decide)
  have hs2 := sup_rem hs ha hv (z := z)
  obtain ⟨ρ2, eρ⟩ : ∃ r : ty_R, r = pv (remF F pa ln wl nx cu N bb z) (cn Mx τ) := ⟨_, rfl⟩
  have hN2 : ty_N τ ρ2 := by rw [eρ]; exact pv_N cn_N
  have hR2 : ty_Rg Mx τ ρ2 := by rw [eρ]; exact pv_R cn_R
  have hF2 : ty_Wf Mx τ ρ2 [106, 806, 808, 809, 810, 811, 812, 5000, 6005] := by rw [eρ]; exact sup_F hs2 (by decide)
  have g901 := cI_rng x901
  have g902 := cI_rng x902
  refine lv_iload_n X.1 X.2.1 dX9_end_0 rfl (lv_at hl 1 rfl) ?_
  refine n_if_lt (tgt := 25) X dX9_end_1 (by decide) (fun c1 => ?_) (fun c1 => ?_)
  · refine n_ldc X q_327 (n := -1000000002) (by decide +kernel) dX9_end_25 (fun x2 t2 => ?_)
    exact ret _ _ _ _ x2 _ hG ⟨Or.inl rfl, trivial⟩ dX9_end_27
  · refine lv_iload_n X.1 X.2.1 dX9_end_4 rfl (lv_at hl 1 rfl) ?_
    refine n_ic X dX9_end_5 (by decide) (by decide) (fun x3 t3 => ?_)
    refine n_icmp_gt (tgt := 25) X dX9_end_6 (by decide) (fun c4 => ?_) (fun c4 => ?_)
    · refine n_ldc X q_327 (n := -1000000002) (by decide +kernel) dX9_end_25 (fun x5 t5 => ?_)
      exact ret _ _ _ _ x5 _ hG ⟨Or.inl rfl, trivial⟩ dX9_end_27
    · refine lv_iload_n X.1 X.2.1 dX9_end_9 rfl (lv_at hl 1 rfl) ?_
      refine n_ic X dX9_end_10 (by decide) (by decide) (fun x6 t6 => ?_)
      have J28 : ∀ (H : Heap) (locs : List Loc) (ls : Array Slot), TG D cy τ (pv F (cn Mx τ)) (ty_d τ) s.heap H locs → lv_has ls 4 [(0, .ref xa), (1, .int x901), (2, .int x902)] → W p l e (rL 4) s m args below meth c H locs 0 0 Q (F0 m 28 ls []) := by
        intro H locs ls hG hl
        refine lv_aload_n X.1 X.2.1 dX9_end_28 rfl (lv_at hl 0 rfl) ?_
        refine gf_9_1 X hG hxa q_296 dX9_end_29 (hN _ _ _ hxa) (fun a7 h7 r7 => ?_)
        refine gf_3_2 X hG h7 q_173 dX9_end_32 (fun x8 b8 r8 => ?_)
        refine n_if_ne (tgt := 41) X dX9_end_35 (by decide) (fun c9 => ?_) (fun c9 => ?_)
        · refine lv_aload_n X.1 X.2.1 dX9_end_41 rfl (lv_at hl 0 rfl) ?_
          refine gf_9_3 X hG hxa q_298 dX9_end_42 (hN _ _ _ hxa) (fun a10 h10 r10 => ?_)
          refine lv_aload_n X.1 X.2.1 dX9_end_45 rfl (lv_at hl 0 rfl) ?_
          refine gf_9_1 X hG hxa q_296 dX9_end_46 (hN _ _ _ hxa) (fun a11 h11 r11 => ?_)
          have e10 := pv_rd r10 fpa
          cases e10
          have e11 := pv_rd r11 fnw
          cases e11
          refine k_cVv X hG (e_X4_remember l D cy τ hs ha hv fz) h10 rfl yv_X4_remember q_668 ⟨rfl, rfl⟩ ⟨Nat.le_of_ble_eq_true rfl, Nat.le_of_ble_eq_true rfl⟩ rfl hl.1 rfl (Nat.le_of_ble_eq_true rfl) ⟨Nat.zero_le _, Nat.zero_le _⟩ dX9_end_49 (fun u14 H locs hG po12 => ?_)
          rw [po12, ← eρ] at hG
          refine lv_aload_n X.1 X.2.1 dX9_end_52 rfl (lv_at hl 0 rfl) ?_
          refine gf_9_1 X hG hxa q_296 dX9_end_53 (hN2 _ _ _ hxa) (fun a15 h15 r15 => ?_)
          refine gf_3_0 X hG h15 q_165 dX9_end_56 (hN2 _ _ _ h15) (fun a16 h16 r16 => ?_)
          refine gf_8_10 X hG h16 q_92 dX9_end_59 (fun x17 r17 => ?_)
          have g17 := cI_rng x17
          refine lv_istore_n (lv' := [(3, .int x17), (0, .ref xa), (1, .int x901), (2, .int x902)]) X.1 X.2.1 dX9_end_62 rfl hl (by decide) rfl (fun ls hl => ?_)
          refine lv_aload_n X.1 X.2.1 dX9_end_63 rfl (lv_at hl 1 rfl) ?_
          refine gf_9_1 X hG hxa q_296 dX9_end_64 (hN2 _ _ _ hxa) (fun a18 h18 r18 => ?_)
          refine gf_3_0 X hG h18 q_165 dX9_end_67 (hN2 _ _ _ h18) (fun a19 h19 r19 => ?_)
          refine lv_iload_n X.1 X.2.1 dX9_end_70 rfl (lv_at hl 2 rfl) ?_
          refine lv_iload_n X.1 X.2.1 dX9_end_71 rfl (lv_at hl 3 rfl) ?_
          refine k_cVv X hG (c_X8_changeEnd l D cy τ _ hN2 hR2 (ty_Wf.sub (S' := [810, 811]) hF2 (by decide)) h19 x901 x902) h19 rfl yv_X8_changeEnd q_704 ⟨rfl, rfl⟩ ⟨Nat.le_of_ble_eq_true rfl, Nat.le_of_ble_eq_true rfl⟩ rfl hl.1 rfl (Nat.le_of_ble_eq_true rfl) ⟨Nat.zero_le _, Nat.zero_le _⟩ dX9_end_72 (fun u22 H locs hG po20 => ?_)
          rw [po20] at hG
          refine lv_iload_n X.1 X.2.1 dX9_end_75 rfl (lv_at hl 0 rfl) ?_
          exact ret _ _ _ _ x17 _ hG ⟨Or.inr eρ, trivial⟩ dX9_end_76
        · refine n_ldc X q_666 (n := -1000000003) (by decide +kernel) dX9_end_38 (fun x23 t23 => ?_)
          exact ret _ _ _ _ x23 _ hG ⟨Or.inl rfl, trivial⟩ dX9_end_40
      refine n_icmp_ne (tgt := 28) X dX9_end_11 (by decide) (fun c24 => ?_) (fun c24 => ?_)
      · exact J28 _ _ _  hG (lv_sub hl [0, 1, 2] rfl)
      · refine lv_iload_n X.1 X.2.1 dX9_end_14 rfl (lv_at hl 2 rfl) ?_
        refine n_ic X dX9_end_15 (by decide) (by decide) (fun x25 t25 => ?_)
        refine n_icmp_lt (tgt := 25) X dX9_end_16 (by decide) (fun c26 => ?_) (fun c26 => ?_)
        · refine n_ldc X q_327 (n := -1000000002) (by decide +kernel) dX9_end_25 (fun x27 t27 => ?_)
          exact ret _ _ _ _ x27 _ hG ⟨Or.inl rfl, trivial⟩ dX9_end_27
        · refine lv_iload_n X.1 X.2.1 dX9_end_19 rfl (lv_at hl 2 rfl) ?_
          refine n_bp X dX9_end_20 (by decide) (by decide) (fun x28 t28 => ?_)
          refine n_icmp_le (tgt := 28) X dX9_end_22 (by decide) (fun c29 => ?_) (fun c29 => ?_)
          · exact J28 _ _ _  hG (lv_sub hl [0, 1, 2] rfl)
          · refine n_ldc X q_327 (n := -1000000002) (by decide +kernel) dX9_end_25 (fun x30 t30 => ?_)
            exact ret _ _ _ _ x30 _ hG ⟨Or.inl rfl, trivial⟩ dX9_end_27
set_option maxHeartbeats 4000000 in
set_option maxRecDepth 100000 in
theorem e_X9_ohms (l : Launch) (D : va_G) (cy : Nat → ClassId) (τ : ty_T) {F : Nat → Nat → Option Value} (hs : SUP τ F) {xa nw wn pa lz : Nat} {ln wl : Nat → Nat} {cu nx N B : Nat} {bb : Bool} (hxa : τ xa = some (0, 9)) (ha : AG τ F xa nw wn pa lz ln wl) (hv : VG F nw wn pa ln wl cu nx N bb B) {z : Nat} (fz : F nw 3 = some (.int (nI z))) (x901 : Int32) : KI l D cy yX9_ohms cX9_ohms 3 .int (rL 4) τ (pv F (cn Mx τ)) [.ref xa, .int x901] (fun r u => RM τ F pa ln wl nx cu N bb z u ∧ True) := by
  refine k_metI "EdgeEchoes" rfl (by decide +kernel) (Nat.le_of_ble_eq_true rfl) (fun _ _ _ => rfl) ?_
  intro p e s m args below meth c Q ls X hG hl ret
  have hl : lv_has ls 3 [(0, .ref xa), (1, .int x901)] := hl
  obtain ⟨hnw, hwn, hpa, hlz, hk, fnw, fpa, fwn, flz, fk⟩ := id ha
  have hN : ty_N τ (pv (F) (cn Mx τ)) := pv_N cn_N
  have hR : ty_Rg Mx τ (pv (F) (cn Mx τ)) := pv_R cn_R
  have hF : ty_Wf Mx τ (pv F (cn Mx τ)) [106, 806, 808, 809, 810, 811, 812, 5000, 6005] := sup_F hs (by decide)
  have hs2 := sup_rem hs ha hv (z := z)
  obtain ⟨ρ2, eρ⟩ : ∃ r : ty_R, r = pv (remF F pa ln wl nx cu N bb z) (cn Mx τ) := ⟨_, rfl⟩
  have hN2 : ty_N τ ρ2 := by rw [eρ]; exact pv_N cn_N
  have hR2 : ty_Rg Mx τ ρ2 := by rw [eρ]; exact pv_R cn_R
  have hF2 : ty_Wf Mx τ ρ2 [106, 806, 808, 809, 810, 811, 812, 5000, 6005] := by rw [eρ]; exact sup_F hs2 (by decide)
  have g901 := cI_rng x901
  refine lv_iload_n X.1 X.2.1 dX9_ohms_0 rfl (lv_at hl 1 rfl) ?_
  refine n_if_lt (tgt := 10) X dX9_ohms_1 (by decide) (fun c1 => ?_) (fun c1 => ?_)
  · refine n_ldc X q_327 (n := -1000000002) (by decide +kernel) dX9_ohms_10 (fun x2 t2 => ?_)
    exact ret _ _ _ _ x2 _ hG ⟨Or.inl rfl, trivial⟩ dX9_ohms_12
  · refine lv_iload_n X.1 X.2.1 dX9_ohms_4 rfl (lv_at hl 1 rfl) ?_
    refine n_bp X dX9_ohms_5 (by decide) (by decide) (fun x3 t3 => ?_)
    refine n_icmp_le (tgt := 13) X dX9_ohms_7 (by decide) (fun c4 => ?_) (fun c4 => ?_)
    · refine lv_aload_n X.1 X.2.1 dX9_ohms_13 rfl (lv_at hl 0 rfl) ?_
      refine gf_9_1 X hG hxa q_296 dX9_ohms_14 (hN _ _ _ hxa) (fun a5 h5 r5 => ?_)
      refine gf_3_2 X hG h5 q_173 dX9_ohms_17 (fun x6 b6 r6 => ?_)
      refine n_if_ne (tgt := 26) X dX9_ohms_20 (by decide) (fun c7 => ?_) (fun c7 => ?_)
      · refine lv_aload_n X.1 X.2.1 dX9_ohms_26 rfl (lv_at hl 0 rfl) ?_
        refine gf_9_3 X hG hxa q_298 dX9_ohms_27 (hN _ _ _ hxa) (fun a8 h8 r8 => ?_)
        refine lv_aload_n X.1 X.2.1 dX9_ohms_30 rfl (lv_at hl 0 rfl) ?_
        refine gf_9_1 X hG hxa q_296 dX9_ohms_31 (hN _ _ _ hxa) (fun a9 h9 r9 => ?_)
        have e8 := pv_rd r8 fpa
        cases e8
        have e9 := pv_rd r9 fnw
        cases e9
        refine k_cVv X hG (e_X4_remember l D cy τ hs ha hv fz) h8 rfl yv_X4_remember q_668 ⟨rfl, rfl⟩ ⟨Nat.le_of_ble_eq_true rfl, Nat.le_of_ble_eq_true rfl⟩ rfl hl.1 rfl (Nat.le_of_ble_eq_true rfl) ⟨Nat.zero_le _, Nat.zero_le _⟩ dX9_ohms_34 (fun u12 H locs hG po10 => ?_)
        rw [po10, ← eρ] at hG
        refine lv_aload_n X.1 X.2.1 dX9_ohms_37 rfl (lv_at hl 0 rfl) ?_
        refine gf_9_1 X hG hxa q_296 dX9_ohms_38 (hN2 _ _ _ hxa) (fun a13 h13 r13 => ?_)
        refine gf_3_0 X hG h13 q_165 dX9_ohms_41 (hN2 _ _ _ h13) (fun a14 h14 r14 => ?_)
        refine gf_8_8 X hG h14 q_85 dX9_ohms_44 (fun x15 r15 => ?_)
        have g15 := cI_rng x15
        refine lv_istore_n (lv' := [(2, .int x15), (0, .ref xa), (1, .int x901)]) X.1 X.2.1 dX9_ohms_47 rfl hl (by decide) rfl (fun ls hl => ?_)
        refine lv_aload_n X.1 X.2.1 dX9_ohms_48 rfl (lv_at hl 1 rfl) ?_
        refine gf_9_1 X hG hxa q_296 dX9_ohms_49 (hN2 _ _ _ hxa) (fun a16 h16 r16 => ?_)
        refine gf_3_0 X hG h16 q_165 dX9_ohms_52 (hN2 _ _ _ h16) (fun a17 h17 r17 => ?_)
        refine lv_iload_n X.1 X.2.1 dX9_ohms_55 rfl (lv_at hl 2 rfl) ?_
        refine pf_8_8 X hG h17 q_85 dX9_ohms_56 (hF2 _ _ _ _ h17 (ty_in (n := 808) rfl) (ty_rno rfl)) (fun H locs hG => ?_)
        refine lv_iload_n X.1 X.2.1 dX9_ohms_59 rfl (lv_at hl 0 rfl) ?_
        exact ret _ _ _ _ x15 _ hG ⟨Or.inr eρ, trivial⟩ dX9_ohms_60
      · refine n_ldc X q_666 (n := -1000000003) (by decide +kernel) dX9_ohms_23 (fun x18 t18 => ?_)
        exact ret _ _ _ _ x18 _ hG ⟨Or.inl rfl, trivial⟩ dX9_ohms_25
    · refine n_ldc X q_327 (n := -1000000002) (by decide +kernel) dX9_ohms_10 (fun x19 t19 => ?_)
      exact ret _ _ _ _ x19 _ hG ⟨Or.inl rfl, trivial⟩ dX9_ohms_12
set_option maxHeartbeats 4000000 in
set_option maxRecDepth 100000 in
theorem e_X9_quiet (l : Launch) (D : va_G) (cy : Nat → ClassId) (τ : ty_T) {F : Nat → Nat → Option Value} (hs : SUP τ F) {xa nw wn pa lz : Nat} {ln wl : Nat → Nat} {cu nx N B : Nat} {bb : Bool} (hxa : τ xa = some (0, 9)) (ha : AG τ F xa nw wn pa lz ln wl) (hv : VG F nw wn pa ln wl cu nx N bb B) {z : Nat} (fz : F nw 3 = some (.int (nI z))) : KI l D cy yX9_quiet cX9_quiet 2 .int (rL 4) τ (pv F (cn Mx τ)) [.ref xa] (fun r u => RM τ F pa ln wl nx cu N bb z u ∧ True) := by
  refine k_metI "EdgeEchoes" rfl (by decide +kernel) (Nat.le_of_ble_eq_true rfl) (fun _ _ _ => rfl) ?_
  intro p e s m args below meth c Q ls X hG hl ret
  have hl : lv_has ls 2 [(0, .ref xa)] := hl
  obtain ⟨hnw, hwn, hpa, hlz, hk, fnw, fpa, fwn, flz, fk⟩ := id ha
  have hN : ty_N τ (pv (F) (cn Mx τ)) := pv_N cn_N
  have hR : ty_Rg Mx τ (pv (F) (cn Mx τ)) := pv_R cn_R
  have hF : ty_Wf Mx τ (pv F (cn Mx τ)) [106, 806, 808, 809, 810, 811, 812, 5000, 6005] := sup_F hs (by decide)
  have hs2 := sup_rem hs ha hv (z := z)
  obtain ⟨ρ2, eρ⟩ : ∃ r : ty_R, r = pv (remF F pa ln wl nx cu N bb z) (cn Mx τ) := ⟨_, rfl⟩
  have hN2 : ty_N τ ρ2 := by rw [eρ]; exact pv_N cn_N
  have hR2 : ty_Rg Mx τ ρ2 := by rw [eρ]; exact pv_R cn_R
  have hF2 : ty_Wf Mx τ ρ2 [106, 806, 808, 809, 810, 811, 812, 5000, 6005] := by rw [eρ]; exact sup_F hs2 (by decide)
  refine lv_aload_n X.1 X.2.1 dX9_quiet_0 rfl (lv_at hl 0 rfl) ?_
  refine gf_9_1 X hG hxa q_296 dX9_quiet_1 (hN _ _ _ hxa) (fun a1 h1 r1 => ?_)
  refine gf_3_2 X hG h1 q_173 dX9_quiet_4 (fun x2 b2 r2 => ?_)
  refine n_if_ne (tgt := 13) X dX9_quiet_7 (by decide) (fun c3 => ?_) (fun c3 => ?_)
  · refine lv_aload_n X.1 X.2.1 dX9_quiet_13 rfl (lv_at hl 0 rfl) ?_
    refine gf_9_3 X hG hxa q_298 dX9_quiet_14 (hN _ _ _ hxa) (fun a4 h4 r4 => ?_)
    refine lv_aload_n X.1 X.2.1 dX9_quiet_17 rfl (lv_at hl 0 rfl) ?_
    refine gf_9_1 X hG hxa q_296 dX9_quiet_18 (hN _ _ _ hxa) (fun a5 h5 r5 => ?_)
    have e4 := pv_rd r4 fpa
    cases e4
    have e5 := pv_rd r5 fnw
    cases e5
    refine k_cVv X hG (e_X4_remember l D cy τ hs ha hv fz) h4 rfl yv_X4_remember q_668 ⟨rfl, rfl⟩ ⟨Nat.le_of_ble_eq_true rfl, Nat.le_of_ble_eq_true rfl⟩ rfl hl.1 rfl (Nat.le_of_ble_eq_true rfl) ⟨Nat.zero_le _, Nat.zero_le _⟩ dX9_quiet_21 (fun u8 H locs hG po6 => ?_)
    rw [po6, ← eρ] at hG
    refine lv_aload_n X.1 X.2.1 dX9_quiet_24 rfl (lv_at hl 0 rfl) ?_
    refine gf_9_1 X hG hxa q_296 dX9_quiet_25 (hN2 _ _ _ hxa) (fun a9 h9 r9 => ?_)
    refine gf_3_1 X hG h9 q_168 dX9_quiet_28 (hN2 _ _ _ h9) (fun a10 h10 r10 => ?_)
    refine k_cVi X hG (c_X1_allEdges l D cy τ _ hN2 hR2 (ty_Wf.sub (S' := []) hF2 (by decide)) h10) h10 rfl yv_X1_allEdges q_713 ⟨rfl, rfl⟩ ⟨Nat.le_of_ble_eq_true rfl, Nat.le_of_ble_eq_true rfl⟩ rfl hl.1 rfl (Nat.le_of_ble_eq_true rfl) ⟨Nat.zero_le _, Nat.zero_le _⟩ dX9_quiet_31 (fun x12 u13 H locs hG po11 => ?_)
    obtain ⟨eu13, po11⟩ := po11
    rw [eu13] at hG
    have g12 := cI_rng x12
    refine lv_istore_n (lv' := [(1, .int x12), (0, .ref xa)]) X.1 X.2.1 dX9_quiet_34 rfl hl (by decide) rfl (fun ls hl => ?_)
    refine lv_aload_n X.1 X.2.1 dX9_quiet_35 rfl (lv_at hl 1 rfl) ?_
    refine gf_9_1 X hG hxa q_296 dX9_quiet_36 (hN2 _ _ _ hxa) (fun a14 h14 r14 => ?_)
    refine k_cVv X hG (c_X3_calm l D cy τ _ hN2 hR2 (ty_Wf.sub (S' := [5000]) hF2 (by decide)) h14) h14 rfl yv_X3_calm q_717 ⟨rfl, rfl⟩ ⟨Nat.le_of_ble_eq_true rfl, Nat.le_of_ble_eq_true rfl⟩ rfl hl.1 rfl (Nat.le_of_ble_eq_true rfl) ⟨Nat.zero_le _, Nat.zero_le _⟩ dX9_quiet_39 (fun u17 H locs hG po15 => ?_)
    rw [po15] at hG
    refine lv_iload_n X.1 X.2.1 dX9_quiet_42 rfl (lv_at hl 0 rfl) ?_
    exact ret _ _ _ _ x12 _ hG ⟨Or.inr eρ, trivial⟩ dX9_quiet_43
  · refine n_ldc X q_666 (n := -1000000003) (by decide +kernel) dX9_quiet_10 (fun x18 t18 => ?_)
    exact ret _ _ _ _ x18 _ hG ⟨Or.inl rfl, trivial⟩ dX9_quiet_12
def okN (bb : Bool) (x : Int32) : Prop := (1 ≤ x.toInt ∧ x.toInt ≤ 50) ∧ bb = true
set_option maxHeartbeats 4000000 in
set_option maxRecDepth 100000 in
theorem e_X9_refusalToPass (l : Launch) (D : va_G) (cy : Nat → ClassId) (τ : ty_T) {F : Nat → Nat → Option Value} (hs : SUP τ F) {xa nw z : Nat} {bb : Bool} (hxa : τ xa = some (0, 9)) (fnw : F xa 1 = some (.ref nw)) (fb : F nw 2 = some (.int (bI bb))) (fz : F nw 3 = some (.int (nI z))) (hz : z ≤ 90000) (x901 : Int32) : KI l D cy yX9_refusalToPass cX9_refusalToPass 2 .int (rL 0) τ (pv F (cn Mx τ)) [.ref xa, .int x901] (fun r u => u = pv F (cn Mx τ) ∧ (r.toInt = 0 ↔ okN bb x901)) := by
  refine k_metI "EdgeEchoes" rfl (by decide +kernel) (Nat.le_of_ble_eq_true rfl) (fun _ _ _ => rfl) ?_
  intro p e s m args below meth c Q ls X hG hl ret
  have hl : lv_has ls 2 [(0, .ref xa), (1, .int x901)] := hl
  have hN : ty_N τ (pv (F) (cn Mx τ)) := pv_N cn_N
  have hR : ty_Rg Mx τ (pv (F) (cn Mx τ)) := pv_R cn_R
  have ez : (nI z).toInt = (z : Int) := cI_nI (by omega)
  have eb := bI_t (b := bb)
  have g901 := cI_rng x901
  refine lv_iload_n X.1 X.2.1 dX9_refusalToPass_0 rfl (lv_at hl 1 rfl) ?_
  refine n_ic X dX9_refusalToPass_1 (by decide) (by decide) (fun x1 t1 => ?_)
  refine n_icmp_lt (tgt := 11) X dX9_refusalToPass_2 (by decide) (fun c2 => ?_) (fun c2 => ?_)
  · refine n_ldc X q_327 (n := -1000000002) (by decide +kernel) dX9_refusalToPass_11 (fun x3 t3 => ?_)
    exact ret _ _ _ _ x3 _ hG ⟨rfl, fun q => absurd q (by omega), fun q => absurd q.1 (by omega)⟩ dX9_refusalToPass_13
  · refine lv_iload_n X.1 X.2.1 dX9_refusalToPass_5 rfl (lv_at hl 1 rfl) ?_
    refine n_bp X dX9_refusalToPass_6 (by decide) (by decide) (fun x4 t4 => ?_)
    refine n_icmp_le (tgt := 14) X dX9_refusalToPass_8 (by decide) (fun c5 => ?_) (fun c5 => ?_)
    · refine lv_aload_n X.1 X.2.1 dX9_refusalToPass_14 rfl (lv_at hl 0 rfl) ?_
      refine gf_9_1 X hG hxa q_296 dX9_refusalToPass_15 (hN _ _ _ hxa) (fun a6 h6 r6 => ?_)
      have e6 := pv_rd r6 fnw
      cases e6
      refine gf_3_2 X hG h6 q_173 dX9_refusalToPass_18 (fun x7 b7 r7 => ?_)
      have u7 := pv_i r7 fb
      subst u7
      refine n_if_ne (tgt := 27) X dX9_refusalToPass_21 (by decide) (fun c8 => ?_) (fun c8 => ?_)
      · refine lv_aload_n X.1 X.2.1 dX9_refusalToPass_27 rfl (lv_at hl 0 rfl) ?_
        refine gf_9_1 X hG hxa q_296 dX9_refusalToPass_28 (hN _ _ _ hxa) (fun a9 h9 r9 => ?_)
        have e9 := pv_rd r9 fnw
        cases e9
        refine gf_3_3 X hG h9 q_175 dX9_refusalToPass_31 (fun x10 r10 => ?_)
        have u10 := pv_i r10 fz
        subst u10
        refine n_ldcw X q_667 (n := 90000) (by decide +kernel) dX9_refusalToPass_34 (fun x11 t11 => ?_)
        refine n_icmp_le (tgt := 45) X dX9_refusalToPass_37 (by decide) (fun c12 => ?_) (fun c12 => ?_)
        · refine n_ic X dX9_refusalToPass_45 (by decide) (by decide) (fun x13 t13 => ?_)
          exact ret _ _ _ _ x13 _ hG ⟨rfl, fun _ => ⟨by omega, by cases hb : bb with | true => rfl | false => (rw [hb] at c8; exact absurd rfl c8)⟩, fun _ => by omega⟩ dX9_refusalToPass_46
        · refine n_ldc X q_332 (n := -1000000004) (by decide +kernel) dX9_refusalToPass_40 (fun x14 t14 => ?_)
          refine lv_goto (tgt := 46) X.1 X.2.1 dX9_refusalToPass_42 (by decide) ?_
          exact ret _ _ _ _ x14 _ hG ⟨rfl, fun q => absurd q (by omega), fun q => absurd c12 (by omega)⟩ dX9_refusalToPass_46
      · refine n_ldc X q_666 (n := -1000000003) (by decide +kernel) dX9_refusalToPass_24 (fun x15 t15 => ?_)
        exact ret _ _ _ _ x15 _ hG ⟨rfl, fun q => absurd q (by omega), fun q => by rw [q.2] at eb; exact absurd (show (bI bb).toInt = 1 by rw [q.2]; rfl) (by rw [c8]; decide)⟩ dX9_refusalToPass_26
    · refine n_ldc X q_327 (n := -1000000002) (by decide +kernel) dX9_refusalToPass_11 (fun x16 t16 => ?_)
      exact ret _ _ _ _ x16 _ hG ⟨rfl, fun q => absurd q (by omega), fun q => absurd q.1 (by omega)⟩ dX9_refusalToPass_13
