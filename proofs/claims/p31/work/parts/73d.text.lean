/-! the class's text to the letter -/
def SRd : List Nat := [603, 604, 806, 808, 809, 810, 811, 812, 5000, 6005, 6009]
theorem wf_nil {M : md_T} {τ : ty_T} {ρ : ty_R} : ty_Wf M τ ρ [] := fun _ _ _ _ _ h _ => absurd h List.not_mem_nil
theorem te_at {f : Nat → Nat → Option Value} {tx la nu c : Nat} {T : Nat → Int32} {τ : ty_T} {x : Value} (h : TE f tx la nu c T) (htx : τ tx = some (0, 6)) (hla : τ la = some (8, 240)) : TE (fu f tx 3 x) tx la nu c T := te_fu h (fun z => by omega) (fun z => by rw [z, htx] at hla; cases hla)
theorem te_nu {f : Nat → Nat → Option Value} {tx la nu c k : Nat} {T : Nat → Int32} {τ : ty_T} {x : Value} (h : TE f tx la nu c T) (htx : τ tx = some (0, 6)) (hla : τ la = some (8, 240)) (hnu : τ nu = some (9, 3)) : TE (fu f nu k x) tx la nu c T := te_fu h (fun z => by rw [z.1, hnu] at htx; cases htx) (fun z => by rw [z, hnu] at hla; cases hla)
set_option maxHeartbeats 4000000 in
set_option maxRecDepth 100000 in
theorem e_X6_letterHere (l : Launch) (D : va_G) (cy : Nat → ClassId) (τ : ty_T) (ρ : ty_R) {M : md_T} {f : Nat → Nat → Option Value} (hN : ty_N τ ρ) (hR : ty_Rg M τ ρ) (hF : ty_Wf M τ ρ SRd) {tx la nu c : Nat} {T : Nat → Int32} (htx : τ tx = some (0, 6)) (hla : τ la = some (8, 240)) (hnu : τ nu = some (9, 3)) (hc : c ≤ 240) (hT : TE f tx la nu c T) {a : Nat} (ha : a ≤ c) (f3 : f tx 3 = some (.int (nI a))) : KI l D cy yX6_letterHere cX6_letterHere 1 .int (rL 0) τ (pv f ρ) [.ref tx] (fun r u => u = pv f ρ ∧ (a < c → r = T a) ∧ (a = c → r.toInt = -1)) := by
  refine k_metI "EdgeEchoes$Text" rfl (by decide +kernel) (Nat.le_of_ble_eq_true rfl) (fun _ _ _ => rfl) ?_
  intro p e s m args below meth cod Q ls X hG hl ret
  have hl : lv_has ls 1 [(0, .ref tx)] := hl
  refine lv_aload_n X.1 X.2.1 dX6_letterHere_0 rfl (lv_at hl 0 rfl) ?_
  refine gf_6_3 X hG htx q_38 dX6_letterHere_1 (fun x1 r1 => ?_)
  have u1 := pv_i r1 f3
  have t1 : x1.toInt = (a : Int) := by rw [u1]; exact cI_nI (by omega)
  refine n_if_lt (tgt := 40) X dX6_letterHere_4 (by decide) (fun cq => ?_) (fun cq => ?_)
  · exact absurd cq (by omega)
  · refine lv_aload_n X.1 X.2.1 dX6_letterHere_7 rfl (lv_at hl 0 rfl) ?_
    refine gf_6_3 X hG htx q_38 dX6_letterHere_8 (fun x3 r3 => ?_)
    have u3 := pv_i r3 f3
    have t3 : x3.toInt = (a : Int) := by rw [u3]; exact cI_nI (by omega)
    refine lv_aload_n X.1 X.2.1 dX6_letterHere_11 rfl (lv_at hl 0 rfl) ?_
    refine gf_6_2 X hG htx q_36 dX6_letterHere_12 (fun x4 r4 => ?_)
    have u4 := pv_i r4 hT.2.2.1
    have t4 : x4.toInt = (c : Int) := by rw [u4]; exact cI_nI (by omega)
    refine n_icmp_ge (tgt := 40) X dX6_letterHere_15 (by decide) (fun cq => ?_) (fun cq => ?_)
    · refine n_ic X dX6_letterHere_40 (by decide) (by decide) (fun x6 t6 => ?_)
      exact ret _ _ _ _ x6 _ hG ⟨rfl, (fun h => absurd h (by omega)), (fun _ => by omega)⟩ dX6_letterHere_41
    · refine lv_aload_n X.1 X.2.1 dX6_letterHere_18 rfl (lv_at hl 0 rfl) ?_
      refine gf_6_3 X hG htx q_38 dX6_letterHere_19 (fun x7 r7 => ?_)
      have u7 := pv_i r7 f3
      have t7 : x7.toInt = (a : Int) := by rw [u7]; exact cI_nI (by omega)
      refine n_sp X dX6_letterHere_22 (by decide) (by decide) (fun x8 t8 => ?_)
      refine n_icmp_ge (tgt := 40) X dX6_letterHere_25 (by decide) (fun cq => ?_) (fun cq => ?_)
      · exact absurd cq (by omega)
      · refine lv_aload_n X.1 X.2.1 dX6_letterHere_28 rfl (lv_at hl 0 rfl) ?_
        refine gf_6_0 X hG htx q_34 dX6_letterHere_29 (pv_N hN _ _ _ htx) (fun a10 h10 r10 => ?_)
        have e10 := pv_rd r10 hT.1
        cases e10
        refine lv_aload_n X.1 X.2.1 dX6_letterHere_32 rfl (lv_at hl 0 rfl) ?_
        refine gf_6_3 X hG htx q_38 dX6_letterHere_33 (fun x11 r11 => ?_)
        have u11 := pv_i r11 f3
        have t11 : x11.toInt = (a : Int) := by rw [u11]; exact cI_nI (by omega)
        have i11 : x11.toNatClampNeg = a := by have := cI_clamp (x := x11) (by omega); omega
        refine tg_iald X hG hla rfl (cI_in (n := 240) (by omega)) dX6_letterHere_36 (fun x12 r12 => ?_)
        rw [i11] at r12
        have u12 := pv_i r12 (hT.2.2.2 a (by omega))
        refine lv_goto (tgt := 41) X.1 X.2.1 dX6_letterHere_37 (by decide) ?_
        exact ret _ _ _ _ x12 _ hG ⟨rfl, (fun _ => u12), (fun h => absurd h (by omega))⟩ dX6_letterHere_41
set_option maxHeartbeats 4000000 in
set_option maxRecDepth 100000 in
theorem e_X6_skipBlanks (l : Launch) (D : va_G) (cy : Nat → ClassId) (τ : ty_T) (ρ : ty_R) {M : md_T} {f : Nat → Nat → Option Value} (hN : ty_N τ ρ) (hR : ty_Rg M τ ρ) (hF : ty_Wf M τ ρ SRd) {tx la nu c : Nat} {T : Nat → Int32} (htx : τ tx = some (0, 6)) (hla : τ la = some (8, 240)) (hnu : τ nu = some (9, 3)) (hc : c ≤ 240) (hT : TE f tx la nu c T) {a : Nat} (ha : a ≤ c) (f3 : f tx 3 = some (.int (nI a))) : KV l D cy yX6_skipBlanks cX6_skipBlanks 1 (rL 1) τ (pv f ρ) [.ref tx] (fun u => u = pv (fu f tx 3 (.int (nI (sk T c a)))) ρ) := by
  refine k_metV "EdgeEchoes$Text" rfl (by decide +kernel) (Nat.le_of_ble_eq_true rfl) ?_
  intro p e s m args below meth cod Q ls X hG hl ret
  have hl : lv_has ls 1 [(0, .ref tx)] := hl
  have J0 : ∀ (n a2 : Nat) (H : Heap) (locs : List Loc) (ls : Array Slot), a2 ≤ c → sk T c a2 = sk T c a → c - a2 < n → TG D cy τ (pv (fu f tx 3 (.int (nI a2))) ρ) (ty_d τ) s.heap H locs → lv_has ls 1 [(0, .ref tx)] → W p l e (rL 1) s m args below meth cod H locs 0 0 Q (F0 m 0 ls []) := by
    intro n
    induction n with
    | zero => intro a2 H locs ls h1 h2 h3; exact absurd h3 (Nat.not_lt_zero _)
    | succ n ih =>
      intro a2 H locs ls ha2 hR2 hm hG hl
      have hT2 : TE (fu f tx 3 (.int (nI a2))) tx la nu c T := te_at hT htx hla
      refine lv_aload_n X.1 X.2.1 dX6_skipBlanks_0 rfl (lv_at hl 0 rfl) ?_
      refine gf_6_3 X hG htx q_38 dX6_skipBlanks_1 (fun x1 r1 => ?_)
      have u1 := pv_i r1 fu_at
      have t1 : x1.toInt = (a2 : Int) := by rw [u1]; exact cI_nI (by omega)
      refine lv_aload_n X.1 X.2.1 dX6_skipBlanks_4 rfl (lv_at hl 0 rfl) ?_
      refine gf_6_2 X hG htx q_36 dX6_skipBlanks_5 (fun x2 r2 => ?_)
      have u2 := pv_i r2 hT2.2.2.1
      have t2 : x2.toInt = (c : Int) := by rw [u2]; exact cI_nI (by omega)
      refine n_icmp_ge (tgt := 33) X dX6_skipBlanks_8 (by decide) (fun c3 => ?_) (fun c3 => ?_)
      · rw [show a2 = sk T c a by rw [← hR2, sk_n (fun h => absurd h (by omega))]] at hG
        exact ret _ _ _ _ _ hG rfl dX6_skipBlanks_33
      · refine lv_aload_n X.1 X.2.1 dX6_skipBlanks_11 rfl (lv_at hl 0 rfl) ?_
        refine k_cVi X hG (e_X6_letterHere l D cy τ ρ hN hR hF htx hla hnu hc hT2 ha2 fu_at) htx rfl yv_X6_letterHere q_369 ⟨rfl, rfl⟩ ⟨Nat.le_of_ble_eq_true rfl, Nat.le_of_ble_eq_true rfl⟩ rfl hl.1 rfl (Nat.le_of_ble_eq_true rfl) ⟨Nat.zero_le _, Nat.zero_le _⟩ dX6_skipBlanks_12 (fun x4 u4 H locs hG po => ?_)
        obtain ⟨eu4, po, -⟩ := po
        rw [eu4] at hG
        have u4 := po (by omega)
        rw [u4]
        refine n_bp X dX6_skipBlanks_15 (by decide) (by decide) (fun x5 t5 => ?_)
        refine n_icmp_ne (tgt := 33) X dX6_skipBlanks_17 (by decide) (fun c6 => ?_) (fun c6 => ?_)
        · rw [show a2 = sk T c a by rw [← hR2, sk_n (fun h => by omega)]] at hG
          exact ret _ _ _ _ _ hG rfl dX6_skipBlanks_33
        · refine lv_aload_n X.1 X.2.1 dX6_skipBlanks_20 rfl (lv_at hl 0 rfl) ?_
          refine lv_dup X.1 X.2.1 dX6_skipBlanks_21 rfl ?_
          refine gf_6_3 X hG htx q_38 dX6_skipBlanks_22 (fun x7 r7 => ?_)
          have u7 := pv_i r7 fu_at
          have t7 : x7.toInt = (a2 : Int) := by rw [u7]; exact cI_nI (by omega)
          refine n_ic X dX6_skipBlanks_25 (by decide) (by decide) (fun x8 t8 => ?_)
          refine n_add X dX6_skipBlanks_26 (by omega) (by omega) (fun x9 t9 => ?_)
          have u9 : x9 = nI (a2 + 1) := cI_inj (by rw [cI_nI (by omega)]; omega)
          refine pg_6_3 X hG htx q_38 dX6_skipBlanks_27 (pv (fu (fu f tx 3 (.int (nI a2))) tx 3 (.int x9)) ρ) pv_off pv_oth (pv_new (hF _ _ _ _ htx (ty_in (n := 603) rfl) (ty_rno rfl))) (fun H locs hG => ?_)
          rw [fu_fu, u9] at hG
          refine lv_goto (tgt := 0) X.1 X.2.1 dX6_skipBlanks_30 (by decide) ?_
          exact ih (a2 + 1) _ _ _ (by omega) (by rw [← hR2, sk_y (a := a2) (by omega) (by omega)]) (by omega) hG hl
  rw [← fu_id f3] at hG
  exact J0 (c - a + 1) a _ _ _ ha rfl (by omega) hG hl
set_option maxHeartbeats 4000000 in
set_option maxRecDepth 100000 in
theorem e_X6_wordHere (z : EVt) (l : Launch) (D : va_G) (cy : Nat → ClassId) (τ : ty_T) (ρ : ty_R) {M : md_T} {f : Nat → Nat → Option Value} (hN : ty_N τ ρ) (hR : ty_Rg M τ ρ) (hF : ty_Wf M τ ρ SRd) {tx la nu c : Nat} {T : Nat → Int32} (htx : τ tx = some (0, 6)) (hla : τ la = some (8, 240)) (hnu : τ nu = some (9, 3)) (hc : c ≤ 240) (hT : TE f tx la nu c T) (hB : ∀ j, j < c → 0 ≤ (T j).toInt ∧ (T j).toInt ≤ 255) {a : Nat} (ha : a ≤ c) (f3 : f tx 3 = some (.int (nI a))) : KIE l D cy yX6_wordHere cX6_wordHere 2 .int (rL 7) τ (pv f ρ) z [.ref tx] (fun r u => u = pv f ρ ∧ (a < c → r.toInt = dix (T a)) ∧ (a = c → r.toInt = -1)) := by
  refine k_metIE "EdgeEchoes$Text" rfl (by decide +kernel) (Nat.le_of_ble_eq_true rfl) (fun _ _ _ => rfl) ?_
  intro p e s m args below meth cod Q ls X hG hEv hl ret
  obtain ⟨vO, vC, vV, vT, vR, vZ, z1, v1, z2, v2, z3, v3⟩ := id hEv
  have hl : lv_has ls 2 [(0, .ref tx)] := hl
  refine lv_aload_n X.1 X.2.1 dX6_wordHere_0 rfl (lv_at hl 0 rfl) ?_
  refine k_cVi X hG (e_X6_letterHere l D cy τ ρ hN hR hF htx hla hnu hc hT ha f3) htx rfl yv_X6_letterHere q_369 ⟨rfl, rfl⟩ ⟨Nat.le_of_ble_eq_true rfl, Nat.le_of_ble_eq_true rfl⟩ rfl hl.1 rfl (Nat.le_of_ble_eq_true rfl) ⟨Nat.zero_le _, Nat.zero_le _⟩ dX6_wordHere_1 (fun x1 u1 H locs hG po => ?_)
  obtain ⟨eu1, p1, p2⟩ := po
  rw [eu1] at hG
  refine lv_istore_n (lv' := [(1, .int x1), (0, .ref tx)]) X.1 X.2.1 dX6_wordHere_4 rfl hl (by decide) rfl (fun ls hl => ?_)
  refine lv_iload_n X.1 X.2.1 dX6_wordHere_5 rfl (lv_at hl 0 rfl) ?_
  refine n_if_ge (tgt := 13) X dX6_wordHere_6 (by decide) (fun c2 => ?_) (fun c2 => ?_)
  · have hac : a < c := by
      rcases (show a < c ∨ a = c by omega) with q | q
      · exact q
      · exact absurd (p2 q) (by omega)
    have uL := p1 hac
    have bL := hB a hac
    refine va_ldcS X.1 X.2.1 X.2.2.2.1 vR dX6_wordHere_13 ?_
    refine lv_iload_n X.1 X.2.1 dX6_wordHere_15 rfl (lv_at hl 0 rfl) ?_
    refine lv_i2c X.1 X.2.1 dX6_wordHere_16 rfl ?_
    refine lv_topi (fun x3 e3 => ?_)
    have t3 : x3.toInt = x1.toInt := by rw [e3]; exact cI_i2c (by rw [uL]; exact bL)
    have q3 : x3 = T a := by rw [← uL]; exact cI_inj t3
    refine k_cRE X hG (EV.at hEv hG) (e_J0_indexOf_0f7a4 l D cy τ _ z (pv_N hN) (pv_R hR) wf_nil x3 (by rw [q3]; exact bL))  (EV.rec (EV.at hEv hG)) yv_J0_indexOf_0f7a4 q_382 ⟨rfl, rfl⟩ ⟨Nat.le_of_ble_eq_true rfl, Nat.le_of_ble_eq_true rfl⟩ rfl hl.1 rfl (Nat.le_of_ble_eq_true rfl) ⟨Nat.zero_le _, Nat.zero_le _⟩ dX6_wordHere_17 (fun x4 u4 H locs hG po => ?_)
    obtain ⟨eu4, po⟩ := po
    rw [eu4] at hG
    rw [q3] at po
    exact ret _ _ _ _ x4 _ hG ⟨rfl, (fun _ => po), (fun h => absurd h (by omega))⟩ dX6_wordHere_20
  · have hac : a = c := by
      rcases (show a < c ∨ a = c by omega) with q | q
      · have bL := hB a q
        rw [← p1 q] at bL
        exact absurd bL.1 (by omega)
      · exact q
    refine n_ic X dX6_wordHere_9 (by decide) (by decide) (fun x5 t5 => ?_)
    refine lv_goto (tgt := 20) X.1 X.2.1 dX6_wordHere_10 (by decide) ?_
    exact ret _ _ _ _ x5 _ hG ⟨rfl, (fun h => absurd h (by omega)), (fun _ => by omega)⟩ dX6_wordHere_20
set_option maxHeartbeats 4000000 in
set_option maxRecDepth 100000 in
theorem e_X6_readNumber (z : EVt) (l : Launch) (D : va_G) (cy : Nat → ClassId) (τ : ty_T) (ρ : ty_R) {M : md_T} {f : Nat → Nat → Option Value} (hN : ty_N τ ρ) (hR : ty_Rg M τ ρ) (hF : ty_Wf M τ ρ SRd) {tx la nu c : Nat} {T : Nat → Int32} (htx : τ tx = some (0, 6)) (hla : τ la = some (8, 240)) (hnu : τ nu = some (9, 3)) (hc : c ≤ 240) (hT : TE f tx la nu c T) {a w k : Nat} (ha : a ≤ c) (f3 : f tx 3 = some (.int (nI a))) (hw : w ≤ 3) (hk : k ≤ 2) (x901 : Int32) (h901 : x901.toInt = (w : Int)) (x902 : Int32) (h902 : x902.toInt = (k : Int)) : KIE l D cy yX6_readNumber cX6_readNumber 7 .int (rL 2) τ (pv f ρ) z [.ref tx, .int x901, .int x902] (fun r u => r.toInt = (nk T c a (nlo w k) (nhi w k) : Int) ∧ (nk T c a (nlo w k) (nhi w k) = 0 → ∃ v : Int32, v.toInt = nv T c a ∧ u = pv (fu (fu f tx 3 (.int (nI (na T c a)))) nu k (.int v)) ρ) ∧ (nk T c a (nlo w k) (nhi w k) ≠ 0 → u = pv (fu f tx 3 (.int (nI (sk T c a)))) ρ)) := by
  refine k_metIE "EdgeEchoes$Text" rfl (by decide +kernel) (Nat.le_of_ble_eq_true rfl) (fun _ _ _ => rfl) ?_
  intro p e s m args below meth cod Q ls X hG hEv hl ret
  have hl : lv_has ls 7 [(0, .ref tx), (1, .int x901), (2, .int x902)] := hl
  refine lv_aload_n X.1 X.2.1 dX6_readNumber_0 rfl (lv_at hl 0 rfl) ?_
  refine k_cVv X hG (e_X6_skipBlanks l D cy τ ρ hN hR hF htx hla hnu hc hT ha f3) htx rfl yv_X6_skipBlanks q_365 ⟨rfl, rfl⟩ ⟨Nat.le_of_ble_eq_true rfl, Nat.le_of_ble_eq_true rfl⟩ rfl hl.1 rfl (Nat.le_of_ble_eq_true rfl) ⟨Nat.zero_le _, Nat.zero_le _⟩ dX6_readNumber_1 (fun u1 H locs hG po => ?_)
  rw [po] at hG
  have hs1 : a ≤ sk T c a := sk_ge
  have hs2 : sk T c a ≤ c := sk_le ha
  have en : na T c a = de T c (sk T c a) := rfl
  have ev : nv T c a = vl T (sk T c a) (min (na T c a - sk T c a) 3) := rfl
  refine lv_aload_n X.1 X.2.1 dX6_readNumber_4 rfl (lv_at hl 0 rfl) ?_
  refine gf_6_3 X hG htx q_38 dX6_readNumber_5 (fun x2 r2 => ?_)
  have u2 := pv_i r2 fu_at
  have t2 : x2.toInt = (sk T c a : Int) := by rw [u2]; exact cI_nI (by omega)
  refine lv_istore_n (lv' := [(3, .int x2), (0, .ref tx), (1, .int x901), (2, .int x902)]) X.1 X.2.1 dX6_readNumber_8 rfl hl (by decide) rfl (fun ls hl => ?_)
  refine n_ic X dX6_readNumber_9 (by decide) (by decide) (fun x3 t3 => ?_)
  refine lv_istore (lv' := [(4, .int x3), (3, .int x2), (0, .ref tx), (1, .int x901), (2, .int x902)]) X.1 X.2.1 dX6_readNumber_10 hl (by decide) rfl (fun ls hl => ?_)
  refine n_ic X dX6_readNumber_12 (by decide) (by decide) (fun x4 t4 => ?_)
  refine lv_istore (lv' := [(5, .int x4), (4, .int x3), (3, .int x2), (0, .ref tx), (1, .int x901), (2, .int x902)]) X.1 X.2.1 dX6_readNumber_13 hl (by decide) rfl (fun ls hl => ?_)
  have J15 : ∀ (n q : Nat) (H : Heap) (locs : List Loc) (ls : Array Slot) (y4 y5 : Int32), sk T c a ≤ q → q ≤ c → de T c q = de T c (sk T c a) → (∀ i, sk T c a ≤ i → i < q → 48 ≤ (T i).toInt ∧ (T i).toInt ≤ 57) → y4.toInt = (q : Int) - (sk T c a : Int) → y5.toInt = vl T (sk T c a) (min (q - sk T c a) 3) → c - q < n → TG D cy τ (pv (fu f tx 3 (.int (nI q))) ρ) (ty_d τ) s.heap H locs → lv_has ls 7 [(0, .ref tx), (1, .int x901), (2, .int x902), (3, .int x2), (4, .int y4), (5, .int y5)] → W p l e (rL 2) s m args below meth cod H locs 0 0 Q (F0 m 15 ls []) := by
    intro n
    induction n with
    | zero => intro q H locs ls y4 y5 h1 h2 h3 h4 h5 h6 h7; exact absurd h7 (Nat.not_lt_zero _)
    | succ n ih =>
      intro q H locs ls y4 y5 hq1 hq2 hq3 hq4 t4 t5 hm hG hl
      have hT2 : TE (fu f tx 3 (.int (nI q))) tx la nu c T := te_at hT htx hla
      have vb := vl_b (T := T) (s := sk T c a) (min (q - sk T c a) 3) (by omega) (fun i hi => hq4 _ (by omega) (by omega))
      have tail : ∀ (H : Heap) (locs : List Loc), TG D cy τ (pv (fu f tx 3 (.int (nI q))) ρ) (ty_d τ) s.heap H locs → de T c (sk T c a) = q → W p l e (rL 2) s m args below meth cod H locs 0 0 Q (F0 m 73 ls []) := by
        intro H locs hG hde
        have en2 : na T c a = q := en.trans hde
        have ev2 : nv T c a = y5.toInt := by rw [ev, en2, t5]
        refine lv_iload X.1 X.2.1 dX6_readNumber_73 (lv_at hl 4 rfl) ?_
        refine n_if_ne (tgt := 80) X dX6_readNumber_75 (by decide) (fun c5 => ?_) (fun c5 => ?_)
        · have hne : na T c a ≠ sk T c a := by omega
          refine lv_iload_n X.1 X.2.1 dX6_readNumber_80 rfl (lv_at hl 1 rfl) ?_
          refine n_ic X dX6_readNumber_81 (by decide) (by decide) (fun x6 t6 => ?_)
          refine n_mul X dX6_readNumber_82 (by rw [t6]; omega) (by rw [t6]; omega) (fun x7 t7 => ?_)
          rw [t6] at t7
          refine lv_iload_n X.1 X.2.1 dX6_readNumber_83 rfl (lv_at hl 2 rfl) ?_
          refine n_add X dX6_readNumber_84 (by omega) (by omega) (fun x8 t8 => ?_)
          refine lv_istore (lv' := [(6, .int x8), (0, .ref tx), (1, .int x901), (2, .int x902), (3, .int x2), (4, .int y4), (5, .int y5)]) X.1 X.2.1 dX6_readNumber_85 hl (by decide) rfl (fun ls hl => ?_)
          refine lv_iload X.1 X.2.1 dX6_readNumber_87 (lv_at hl 5 rfl) ?_
          refine n_ic X dX6_readNumber_89 (by decide) (by decide) (fun x9 t9 => ?_)
          refine n_icmp_gt (tgt := 103) X dX6_readNumber_90 (by decide) (fun c10 => ?_) (fun c10 => ?_)
          · refine lv_aload_n X.1 X.2.1 dX6_readNumber_103 rfl (lv_at hl 1 rfl) ?_
            refine lv_iload_n X.1 X.2.1 dX6_readNumber_104 rfl (lv_at hl 4 rfl) ?_
            have uS : x2 = nI (sk T c a) := cI_inj (by rw [cI_nI (by omega)]; omega)
            refine pg_6_3 X hG htx q_38 dX6_readNumber_105 (pv (fu (fu f tx 3 (.int (nI q))) tx 3 (.int x2)) ρ) pv_off pv_oth (pv_new (hF _ _ _ _ htx (ty_in (n := 603) rfl) (ty_rno rfl))) (fun H locs hG => ?_)
            rw [fu_fu, uS] at hG
            refine n_ic X dX6_readNumber_108 (by decide) (by decide) (fun x11 t11 => ?_)
            have hk2 : nk T c a (nlo w k) (nhi w k) = 2 := nk_2 hne (Or.inl (by omega))
            exact ret _ _ _ _ x11 _ hG ⟨by rw [hk2]; omega, (fun h => by rw [hk2] at h; cases h), (fun _ => rfl)⟩ dX6_readNumber_109
          · refine lv_iload X.1 X.2.1 dX6_readNumber_93 (lv_at hl 0 rfl) ?_
            refine lv_iload X.1 X.2.1 dX6_readNumber_95 (lv_at hl 6 rfl) ?_
            refine k_cSE X hG (EV.at hEv hG) (e_X6_isWithin l D cy τ _ z (pv_N hN) (pv_R hR) wf_nil x8 (by omega) y5) ys_X6_isWithin q_481 ⟨rfl, rfl⟩ ⟨Nat.le_of_ble_eq_true rfl, Nat.le_of_ble_eq_true rfl⟩ rfl hl.1 rfl (Nat.le_of_ble_eq_true rfl) ⟨Nat.zero_le _, Nat.zero_le _⟩ dX6_readNumber_97 (fun x12 u12 H locs hG po => ?_)
            obtain ⟨eu12, pb, p1, p2⟩ := po
            rw [eu12] at hG
            have iR : x8.toNatClampNeg = 3 * w + k := by have := cI_clamp (x := x8) (by omega); omega
            rw [iR] at p1 p2
            have elo : nlo w k = (evL (3 * w + k)).toInt := rfl
            have ehi : nhi w k = (evG (3 * w + k)).toInt := rfl
            refine n_if_ne (tgt := 110) X dX6_readNumber_100 (by decide) (fun c13 => ?_) (fun c13 => ?_)
            · refine lv_iload_n X.1 X.2.1 dX6_readNumber_110 rfl (lv_at hl 3 rfl) ?_
              refine n_if_lt (tgt := 127) X dX6_readNumber_111 (by decide) (fun cq => ?_) (fun cq => ?_)
              · exact absurd cq (by omega)
              · refine lv_iload_n X.1 X.2.1 dX6_readNumber_114 rfl (lv_at hl 3 rfl) ?_
                refine n_ic X dX6_readNumber_115 (by decide) (by decide) (fun x15 t15 => ?_)
                refine n_icmp_ge (tgt := 127) X dX6_readNumber_116 (by decide) (fun cq => ?_) (fun cq => ?_)
                · exact absurd cq (by omega)
                · refine lv_aload_n X.1 X.2.1 dX6_readNumber_119 rfl (lv_at hl 1 rfl) ?_
                  refine gf_6_1 X hG htx q_35 dX6_readNumber_120 (pv_N hN _ _ _ htx) (fun a17 h17 r17 => ?_)
                  have e17 := pv_rd r17 hT2.2.1
                  cases e17
                  refine lv_iload_n X.1 X.2.1 dX6_readNumber_123 rfl (lv_at hl 3 rfl) ?_
                  refine lv_iload X.1 X.2.1 dX6_readNumber_124 (lv_at hl 6 rfl) ?_
                  have ik : x902.toNatClampNeg = k := by have := cI_clamp (x := x902) (by omega); omega
                  refine tg_iast X hG hnu rfl (cI_in (n := 3) (by omega)) dX6_readNumber_126 (pv (fu (fu f tx 3 (.int (nI q))) nu k (.int y5)) ρ) pv_off (by rw [ik]; exact pv_oth) (by rw [ik]; exact pv_new (hF _ _ _ _ hnu (ty_in (n := 6009) rfl) (ty_rno rfl))) (fun H locs hG => ?_)
                  refine n_ic X dX6_readNumber_127 (by decide) (by decide) (fun x18 t18 => ?_)
                  have hk0 : nk T c a (nlo w k) (nhi w k) = 0 := nk_0 hne (by have := p1 (by omega); omega)
                  exact ret _ _ _ _ x18 _ hG ⟨by rw [hk0]; omega, (fun _ => ⟨y5, ev2.symm, by rw [en2]⟩), (fun h => absurd hk0 h)⟩ dX6_readNumber_128
            · refine lv_aload_n X.1 X.2.1 dX6_readNumber_103 rfl (lv_at hl 1 rfl) ?_
              refine lv_iload_n X.1 X.2.1 dX6_readNumber_104 rfl (lv_at hl 4 rfl) ?_
              have uS : x2 = nI (sk T c a) := cI_inj (by rw [cI_nI (by omega)]; omega)
              refine pg_6_3 X hG htx q_38 dX6_readNumber_105 (pv (fu (fu f tx 3 (.int (nI q))) tx 3 (.int x2)) ρ) pv_off pv_oth (pv_new (hF _ _ _ _ htx (ty_in (n := 603) rfl) (ty_rno rfl))) (fun H locs hG => ?_)
              rw [fu_fu, uS] at hG
              refine n_ic X dX6_readNumber_108 (by decide) (by decide) (fun x19 t19 => ?_)
              have hk2 : nk T c a (nlo w k) (nhi w k) = 2 := nk_2 hne (by have := p2 (by omega); omega)
              exact ret _ _ _ _ x19 _ hG ⟨by rw [hk2]; omega, (fun h => by rw [hk2] at h; cases h), (fun _ => rfl)⟩ dX6_readNumber_109
        · refine n_ic X dX6_readNumber_78 (by decide) (by decide) (fun x20 t20 => ?_)
          have hk1 : nk T c a (nlo w k) (nhi w k) = 1 := nk_1 (by omega)
          rw [show q = sk T c a by omega] at hG
          exact ret _ _ _ _ x20 _ hG ⟨by rw [hk1]; omega, (fun h => by rw [hk1] at h; cases h), (fun _ => rfl)⟩ dX6_readNumber_79
      refine lv_aload_n X.1 X.2.1 dX6_readNumber_15 rfl (lv_at hl 0 rfl) ?_
      refine gf_6_3 X hG htx q_38 dX6_readNumber_16 (fun x21 r21 => ?_)
      have u21 := pv_i r21 fu_at
      have t21 : x21.toInt = (q : Int) := by rw [u21]; exact cI_nI (by omega)
      refine lv_aload_n X.1 X.2.1 dX6_readNumber_19 rfl (lv_at hl 0 rfl) ?_
      refine gf_6_2 X hG htx q_36 dX6_readNumber_20 (fun x22 r22 => ?_)
      have u22 := pv_i r22 hT2.2.2.1
      have t22 : x22.toInt = (c : Int) := by rw [u22]; exact cI_nI (by omega)
      refine n_icmp_ge (tgt := 73) X dX6_readNumber_23 (by decide) (fun c23 => ?_) (fun c23 => ?_)
      · exact tail _ _ hG (by rw [← hq3, de_n (fun h => absurd h (by omega))])
      · refine lv_aload_n X.1 X.2.1 dX6_readNumber_26 rfl (lv_at hl 0 rfl) ?_
        refine k_cVi X hG (e_X6_letterHere l D cy τ ρ hN hR hF htx hla hnu hc hT2 hq2 fu_at) htx rfl yv_X6_letterHere q_369 ⟨rfl, rfl⟩ ⟨Nat.le_of_ble_eq_true rfl, Nat.le_of_ble_eq_true rfl⟩ rfl hl.1 rfl (Nat.le_of_ble_eq_true rfl) ⟨Nat.zero_le _, Nat.zero_le _⟩ dX6_readNumber_27 (fun x24 u24 H locs hG po => ?_)
        obtain ⟨eu24, p1, -⟩ := po
        rw [eu24] at hG
        have uT := p1 (by omega)
        refine k_cSi X hG (e_X6_isFigure l D cy τ _ (pv_N hN) (pv_R hR) wf_nil x24) ys_X6_isFigure q_478 ⟨rfl, rfl⟩ ⟨Nat.le_of_ble_eq_true rfl, Nat.le_of_ble_eq_true rfl⟩ rfl hl.1 rfl (Nat.le_of_ble_eq_true rfl) ⟨Nat.zero_le _, Nat.zero_le _⟩ dX6_readNumber_30 (fun x25 u25 H locs hG po => ?_)
        obtain ⟨eu25, pb, p2, p3⟩ := po
        rw [eu25] at hG
        rw [uT] at p2 p3
        refine n_if_eq (tgt := 73) X dX6_readNumber_33 (by decide) (fun c26 => ?_) (fun c26 => ?_)
        · exact tail _ _ hG (by rw [← hq3, de_n (fun _ h => by have := p3 (by omega); omega)])
        · have hd := p2 (by omega)
          refine n_inc X (fun z27 => [(4, .int z27), (0, .ref tx), (1, .int x901), (2, .int x902), (3, .int x2), (5, .int y5)]) dX6_readNumber_36 hl (k := 4) rfl (by decide) (by decide) (by omega) (by omega) (by decide) (fun _ => rfl) (fun x27 ls t27 hl => ?_)
          have hl : lv_has ls 7 [(4, .int x27), (0, .ref tx), (1, .int x901), (2, .int x902), (3, .int x2), (5, .int y5)] := hl
          refine lv_iload X.1 X.2.1 dX6_readNumber_39 (lv_at hl 0 rfl) ?_
          refine n_ic X dX6_readNumber_41 (by decide) (by decide) (fun x28 t28 => ?_)
          refine n_icmp_gt (tgt := 60) X dX6_readNumber_42 (by decide) (fun c29 => ?_) (fun c29 => ?_)
          · refine lv_aload_n X.1 X.2.1 dX6_readNumber_60 rfl (lv_at hl 1 rfl) ?_
            refine lv_dup X.1 X.2.1 dX6_readNumber_61 rfl ?_
            refine gf_6_3 X hG htx q_38 dX6_readNumber_62 (fun x30 r30 => ?_)
            have u30 := pv_i r30 fu_at
            have t30 : x30.toInt = (q : Int) := by rw [u30]; exact cI_nI (by omega)
            refine n_ic X dX6_readNumber_65 (by decide) (by decide) (fun x31 t31 => ?_)
            refine n_add X dX6_readNumber_66 (by omega) (by omega) (fun x32 t32 => ?_)
            have u9 : x32 = nI (q + 1) := cI_inj (by rw [cI_nI (by omega)]; omega)
            refine pg_6_3 X hG htx q_38 dX6_readNumber_67 (pv (fu (fu f tx 3 (.int (nI q))) tx 3 (.int x32)) ρ) pv_off pv_oth (pv_new (hF _ _ _ _ htx (ty_in (n := 603) rfl) (ty_rno rfl))) (fun H locs hG => ?_)
            rw [fu_fu, u9] at hG
            refine lv_goto (tgt := 15) X.1 X.2.1 dX6_readNumber_70 (by decide) ?_
            exact ih (q + 1) _ _ _ x27 y5 (by omega) (by omega) (by rw [← hq3, de_y (a := q) (by omega) hd]) (fun i h1 h2 => by
              by_cases e : i = q
              · rw [e]; exact hd
              · exact hq4 i h1 (by omega)) (by omega) (by rw [t5, show min (q - sk T c a) 3 = 3 by omega, show min (q + 1 - sk T c a) 3 = 3 by omega]) (by omega) hG (lv_sub hl [1, 2, 3, 4, 0, 5] rfl)
          · have em : min (q - sk T c a) 3 = q - sk T c a := by omega
            have vb2 : y5.toInt ≤ 99 := by
              rw [em] at vb
              rw [t5, em]
              rcases (show q - sk T c a = 0 ∨ q - sk T c a = 1 ∨ q - sk T c a = 2 by omega) with z | z | z <;> rw [z] at vb ⊢ <;> exact Int.le_trans vb.2 (by decide)
            have vb3 : 0 ≤ y5.toInt := by rw [t5]; exact vb.1
            refine lv_iload X.1 X.2.1 dX6_readNumber_45 (lv_at hl 5 rfl) ?_
            refine n_bp X dX6_readNumber_47 (by decide) (by decide) (fun x33 t33 => ?_)
            refine n_mul X dX6_readNumber_49 (by rw [t33]; omega) (by rw [t33]; omega) (fun x34 t34 => ?_)
            rw [t33] at t34
            refine lv_aload_n X.1 X.2.1 dX6_readNumber_50 rfl (lv_at hl 1 rfl) ?_
            refine k_cVi X hG (e_X6_letterHere l D cy τ ρ hN hR hF htx hla hnu hc hT2 hq2 fu_at) htx rfl yv_X6_letterHere q_369 ⟨rfl, rfl⟩ ⟨Nat.le_of_ble_eq_true rfl, Nat.le_of_ble_eq_true rfl⟩ rfl hl.1 rfl (Nat.le_of_ble_eq_true rfl) ⟨Nat.zero_le _, Nat.zero_le _⟩ dX6_readNumber_51 (fun x35 u35 H locs hG po => ?_)
            obtain ⟨eu35, p4, -⟩ := po
            rw [eu35] at hG
            have uV : x35.toInt = (T q).toInt := by rw [p4 (by omega)]
            refine n_add X dX6_readNumber_54 (by omega) (by omega) (fun x36 t36 => ?_)
            refine n_bp X dX6_readNumber_55 (by decide) (by decide) (fun x37 t37 => ?_)
            refine n_sub X dX6_readNumber_57 (by omega) (by omega) (fun x38 t38 => ?_)
            refine lv_istore (lv' := [(5, .int x38), (4, .int x27), (0, .ref tx), (1, .int x901), (2, .int x902), (3, .int x2)]) X.1 X.2.1 dX6_readNumber_58 hl (by decide) rfl (fun ls hl => ?_)
            refine lv_aload_n X.1 X.2.1 dX6_readNumber_60 rfl (lv_at hl 2 rfl) ?_
            refine lv_dup X.1 X.2.1 dX6_readNumber_61 rfl ?_
            refine gf_6_3 X hG htx q_38 dX6_readNumber_62 (fun x39 r39 => ?_)
            have u39 := pv_i r39 fu_at
            have t39 : x39.toInt = (q : Int) := by rw [u39]; exact cI_nI (by omega)
            refine n_ic X dX6_readNumber_65 (by decide) (by decide) (fun x40 t40 => ?_)
            refine n_add X dX6_readNumber_66 (by omega) (by omega) (fun x41 t41 => ?_)
            have u9 : x41 = nI (q + 1) := cI_inj (by rw [cI_nI (by omega)]; omega)
            refine pg_6_3 X hG htx q_38 dX6_readNumber_67 (pv (fu (fu f tx 3 (.int (nI q))) tx 3 (.int x41)) ρ) pv_off pv_oth (pv_new (hF _ _ _ _ htx (ty_in (n := 603) rfl) (ty_rno rfl))) (fun H locs hG => ?_)
            rw [fu_fu, u9] at hG
            refine lv_goto (tgt := 15) X.1 X.2.1 dX6_readNumber_70 (by decide) ?_
            exact ih (q + 1) _ _ _ x27 x38 (by omega) (by omega) (by rw [← hq3, de_y (a := q) (by omega) hd]) (fun i h1 h2 => by
              by_cases e : i = q
              · rw [e]; exact hd
              · exact hq4 i h1 (by omega)) (by omega) (by rw [show min (q + 1 - sk T c a) 3 = (q - sk T c a) + 1 by omega]; show _ = 10 * vl T (sk T c a) (q - sk T c a) + ((T (sk T c a + (q - sk T c a))).toInt - 48); rw [show sk T c a + (q - sk T c a) = q by omega, ← em, ← t5]; omega) (by omega) hG (lv_sub hl [2, 3, 4, 5, 1, 0] rfl)
  exact J15 (c + 1) (sk T c a) _ _ _ x3 x4 (Nat.le_refl _) hs2 rfl (fun i h1 h2 => absurd h1 (by omega)) (by omega) (by rw [show min (sk T c a - sk T c a) 3 = 0 by omega, t4]; rfl) (by omega) hG (lv_sub hl [3, 4, 5, 2, 1, 0] rfl)
