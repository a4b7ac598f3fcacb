theorem and31 (x y : Int32) (hy : y.toInt = 31) : 0 ≤ (x &&& y).toInt ∧ (x &&& y).toInt ≤ 31 := by
  have ey : y = nI 31 := cI_inj (by rw [hy]; rfl)
  have ex : x = nI x.toBitVec.toNat := by
    apply Int32.toBitVec_inj.1
    show x.toBitVec = BitVec.ofNat 32 x.toBitVec.toNat
    simp
  have ea : nI x.toBitVec.toNat &&& nI 31 = nI (x.toBitVec.toNat &&& 31) := by
    apply Int32.toBitVec_inj.1
    show BitVec.ofNat 32 x.toBitVec.toNat &&& BitVec.ofNat 32 31 = BitVec.ofNat 32 (x.toBitVec.toNat &&& 31)
    apply BitVec.eq_of_getLsbD_eq
    intro i hi
    simp [hi]
  have em : x.toBitVec.toNat &&& 31 < 32 := by
    rw [show (31 : Nat) = 2 ^ 5 - 1 from rfl, Nat.and_two_pow_sub_one_eq_mod]
    exact Nat.mod_lt _ (by decide)
  rw [ey, ex, ea, cI_nI (by omega)]
  omega
set_option maxHeartbeats 4000000 in
set_option maxRecDepth 100000 in
theorem law_loop {p : Program} {l : Launch} {e : Env} {s : State} {m : MethodId} {below : List Frame} {meth : Method} {c : Code} {D : va_G} {cy : Nat → ClassId} {b L xa ma : Nat} {xs : Nat → Int32} {z : EVt} (X : ty_X p c s m #[Value.ref b] cL_law "EdgeEchoesLaw" 4 D cy) (hr : meth.sig.returnType = ret) (hlocks : meth.locks = false) (hE : EW (fun q => s.heap.size ≤ q) s s.heap z) (hX : va_X b L xs s s.heap) (hbl : b < s.heap.size) (hL : L ≤ 2048) :
    ∀ (n k : Nat) (x : Int32) (H : Heap) (locs : List Loc) (ls : Array Slot), x.toInt = 4 * k → 4 * k ≤ L → L < 4 * (k + n) → LJ D cy s xa ma k H locs → lv_has ls 4 [(0, .ref b), (1, .ref xa), (2, .ref ma), (3, .int x)] → W p l e room_1 s m #[Value.ref b] below meth c H locs (274 + k) (19901 + 8520 * k) (lw_Z below #[Value.ref b] s) (F0 m 18 ls []) := by
  intro n
  induction n with
  | zero =>
    intro k x H locs ls h1 h2 h3
    exact absurd h3 (by omega)
  | succ n ih =>
    intro k x H locs ls hk hkL hn hJ hl
    have hJ0 := hJ
    obtain ⟨τ, τm, F, tx, la, nu, tr, dr, wi, ga, im, i0, i1, l0, l1, w0, w1, nw, wn, pa, lz, lk, wl, y, K, P, N, u, k0, k1, cu, nx, tb, hG, -⟩ := hJ0
    refine lv_iload_n X.1 X.2.1 dL_law_18 rfl (lv_at hl 3 rfl) ?_
    refine lv_aload_n X.1 X.2.1 dL_law_19 rfl (lv_at hl 0 rfl) ?_
    refine va_slen X.1 X.2.1 hX hbl (Nat.not_le.mpr hbl) hG.2.1 dL_law_20 ?_
    have eL : (Int32.ofNat L).toInt = L := cI_nI (by omega)
    refine n_ic X dL_law_21 (by decide) (by decide) (fun y1 t1 => ?_)
    refine n_sub X dL_law_22 (by omega) (by omega) (fun y2 t2 => ?_)
    refine n_icmp_gt (tgt := 1020) X dL_law_23 (by decide) (fun c1 => ?_) (fun c1 => ?_)
    · refine lv_iconst (v := 1) X.1 X.2.1 dL_law_1020 (by decide) ?_
      refine va_forget (fun q hq => hG.2.1.2.2 q hq) ?_
      refine W.widen (k := 138320) (n := 8687290) (by omega) (by omega) ?_
      exact lw_ret X.1 X.2.1 hr hlocks dL_law_1021
    · refine lv_aload_n X.1 X.2.1 dL_law_26 rfl (lv_at hl 0 rfl) ?_
      refine lv_iload_n X.1 X.2.1 dL_law_27 rfl (lv_at hl 3 rfl) ?_
      refine va_sld X.1 X.2.1 hX hbl (Nat.not_le.mpr hbl) hG.2.1 (vp_inI (by omega) (by omega)) dL_law_28 ?_
      refine n_bp X dL_law_29 (by decide) (by decide) (fun y3 t3 => ?_)
      refine lv_iand X.1 X.2.1 dL_law_31 ?_
      obtain ⟨g1, g2⟩ := and31 (xs x.toNatClampNeg) y3 t3
      generalize (xs x.toNatClampNeg &&& y3) = k9 at g1 g2
      have next : ∀ H locs, LJ D cy s xa ma (k + 1) H locs → W p l e room_1 s m #[Value.ref b] below meth c H locs (274 + k + 1) (19901 + 8520 * k + 8520) (lw_Z below #[Value.ref b] s) (F0 m 1014 ls []) := fun H locs hJ => by
        have e4 : (Int32.ofInt 4).toInt = 4 := rfl
        obtain ⟨x9, ex9⟩ : ∃ y : Int32, y = x + Int32.ofInt 4 := ⟨_, rfl⟩
        have tx9 : x9.toInt = 4 * (k + 1 : Nat) := by rw [ex9, cI_add (by omega) (by omega)]; omega
        refine lv_iinc (v := x9) (lv' := [(3, .int x9), (0, .ref b), (1, .ref xa), (2, .ref ma)]) X.1 X.2.1 dL_law_1014 hl (k := 3) rfl ex9.symm (by decide) rfl (fun ls hl => ?_)
        refine lv_goto (tgt := 18) X.1 X.2.1 dL_law_1017 (by decide) ?_
        rw [show 274 + k + 1 = 274 + (k + 1) by omega, show 19901 + 8520 * k + 8520 = 19901 + 8520 * (k + 1) by omega]
        exact ih (k + 1) x9 H locs ls tx9 (by omega) (by omega) hJ (lv_sub hl [1, 2, 3, 0] rfl)
      clear ih
      rcases (show k9.toInt = 0 ∨ k9.toInt = 1 ∨ k9.toInt = 2 ∨ k9.toInt = 3 ∨ k9.toInt = 4 ∨ k9.toInt = 5 ∨ k9.toInt = 6 ∨ k9.toInt = 7 ∨ k9.toInt = 8 ∨ k9.toInt = 9 ∨ k9.toInt = 10 ∨ k9.toInt = 11 ∨ k9.toInt = 12 ∨ k9.toInt = 13 ∨ k9.toInt = 14 ∨ k9.toInt = 15 ∨ k9.toInt = 16 ∨ k9.toInt = 17 ∨ k9.toInt = 18 ∨ k9.toInt = 19 ∨ k9.toInt = 20 ∨ k9.toInt = 21 ∨ k9.toInt = 22 ∨ k9.toInt = 23 ∨ k9.toInt = 24 ∨ k9.toInt = 25 ∨ k9.toInt = 26 ∨ k9.toInt = 27 ∨ k9.toInt = 28 ∨ k9.toInt = 29 ∨ k9.toInt = 30 ∨ k9.toInt = 31 by omega) with cz | cz | cz | cz | cz | cz | cz | cz | cz | cz | cz | cz | cz | cz | cz | cz | cz | cz | cz | cz | cz | cz | cz | cz | cz | cz | cz | cz | cz | cz | cz | cz
      · refine lv_tableIn (off := 144) (tgt := 176) X.1 X.2.1 dL_law_32 (by omega) (by omega) (by rw [cz]; rfl) (by decide) ?_
        exact law_c0 X hE hX hbl hL hl ⟨by omega, by omega⟩ ⟨by omega, by omega⟩ (by omega) hJ next
      · refine lv_tableIn (off := 167) (tgt := 199) X.1 X.2.1 dL_law_32 (by omega) (by omega) (by rw [cz]; rfl) (by decide) ?_
        exact law_c1 X hE hX hbl hL hl ⟨by omega, by omega⟩ ⟨by omega, by omega⟩ (by omega) hJ next
      · refine lv_tableIn (off := 180) (tgt := 212) X.1 X.2.1 dL_law_32 (by omega) (by omega) (by rw [cz]; rfl) (by decide) ?_
        exact law_c2 X hE hX hbl hL hl ⟨by omega, by omega⟩ ⟨by omega, by omega⟩ (by omega) hJ next
      · refine lv_tableIn (off := 193) (tgt := 225) X.1 X.2.1 dL_law_32 (by omega) (by omega) (by rw [cz]; rfl) (by decide) ?_
        exact law_c3 X hE hX hbl hL hl ⟨by omega, by omega⟩ ⟨by omega, by omega⟩ (by omega) hJ next
      · refine lv_tableIn (off := 216) (tgt := 248) X.1 X.2.1 dL_law_32 (by omega) (by omega) (by rw [cz]; rfl) (by decide) ?_
        exact law_c4 X hE hX hbl hL hl ⟨by omega, by omega⟩ ⟨by omega, by omega⟩ (by omega) hJ next
      · refine lv_tableIn (off := 249) (tgt := 281) X.1 X.2.1 dL_law_32 (by omega) (by omega) (by rw [cz]; rfl) (by decide) ?_
        exact law_c5 X hE hX hbl hL hl ⟨by omega, by omega⟩ ⟨by omega, by omega⟩ (by omega) hJ next
      · refine lv_tableIn (off := 282) (tgt := 314) X.1 X.2.1 dL_law_32 (by omega) (by omega) (by rw [cz]; rfl) (by decide) ?_
        exact law_c6 X hE hX hbl hL hl ⟨by omega, by omega⟩ ⟨by omega, by omega⟩ (by omega) hJ next
      · refine lv_tableIn (off := 305) (tgt := 337) X.1 X.2.1 dL_law_32 (by omega) (by omega) (by rw [cz]; rfl) (by decide) ?_
        exact law_c7 X hE hX hbl hL hl ⟨by omega, by omega⟩ ⟨by omega, by omega⟩ (by omega) hJ next
      · refine lv_tableIn (off := 338) (tgt := 370) X.1 X.2.1 dL_law_32 (by omega) (by omega) (by rw [cz]; rfl) (by decide) ?_
        exact law_c8 X hE hX hbl hL hl ⟨by omega, by omega⟩ ⟨by omega, by omega⟩ (by omega) hJ next
      · refine lv_tableIn (off := 361) (tgt := 393) X.1 X.2.1 dL_law_32 (by omega) (by omega) (by rw [cz]; rfl) (by decide) ?_
        exact law_c9 X hE hX hbl hL hl ⟨by omega, by omega⟩ ⟨by omega, by omega⟩ (by omega) hJ next
      · refine lv_tableIn (off := 400) (tgt := 432) X.1 X.2.1 dL_law_32 (by omega) (by omega) (by rw [cz]; rfl) (by decide) ?_
        exact law_c10 X hE hX hbl hL hl ⟨by omega, by omega⟩ ⟨by omega, by omega⟩ (by omega) hJ next
      · refine lv_tableIn (off := 423) (tgt := 455) X.1 X.2.1 dL_law_32 (by omega) (by omega) (by rw [cz]; rfl) (by decide) ?_
        exact law_c11 X hE hX hbl hL hl ⟨by omega, by omega⟩ ⟨by omega, by omega⟩ (by omega) hJ next
      · refine lv_tableIn (off := 446) (tgt := 478) X.1 X.2.1 dL_law_32 (by omega) (by omega) (by rw [cz]; rfl) (by decide) ?_
        exact law_c12 X hE hX hbl hL hl ⟨by omega, by omega⟩ ⟨by omega, by omega⟩ (by omega) hJ next
      · refine lv_tableIn (off := 469) (tgt := 501) X.1 X.2.1 dL_law_32 (by omega) (by omega) (by rw [cz]; rfl) (by decide) ?_
        exact law_c13 X hE hX hbl hL hl ⟨by omega, by omega⟩ ⟨by omega, by omega⟩ (by omega) hJ next
      · refine lv_tableIn (off := 502) (tgt := 534) X.1 X.2.1 dL_law_32 (by omega) (by omega) (by rw [cz]; rfl) (by decide) ?_
        exact law_c14 X hE hX hbl hL hl ⟨by omega, by omega⟩ ⟨by omega, by omega⟩ (by omega) hJ next
      · refine lv_tableIn (off := 535) (tgt := 567) X.1 X.2.1 dL_law_32 (by omega) (by omega) (by rw [cz]; rfl) (by decide) ?_
        exact law_c15 X hE hX hbl hL hl ⟨by omega, by omega⟩ ⟨by omega, by omega⟩ (by omega) hJ next
      · refine lv_tableIn (off := 558) (tgt := 590) X.1 X.2.1 dL_law_32 (by omega) (by omega) (by rw [cz]; rfl) (by decide) ?_
        exact law_c16 X hE hX hbl hL hl ⟨by omega, by omega⟩ ⟨by omega, by omega⟩ (by omega) hJ next
      · refine lv_tableIn (off := 571) (tgt := 603) X.1 X.2.1 dL_law_32 (by omega) (by omega) (by rw [cz]; rfl) (by decide) ?_
        exact law_c17 X hE hX hbl hL hl ⟨by omega, by omega⟩ ⟨by omega, by omega⟩ (by omega) hJ next
      · refine lv_tableIn (off := 594) (tgt := 626) X.1 X.2.1 dL_law_32 (by omega) (by omega) (by rw [cz]; rfl) (by decide) ?_
        exact law_c18 X hE hX hbl hL hl ⟨by omega, by omega⟩ ⟨by omega, by omega⟩ (by omega) hJ next
      · refine lv_tableIn (off := 617) (tgt := 649) X.1 X.2.1 dL_law_32 (by omega) (by omega) (by rw [cz]; rfl) (by decide) ?_
        exact law_c19 X hE hX hbl hL hl ⟨by omega, by omega⟩ ⟨by omega, by omega⟩ (by omega) hJ next
      · refine lv_tableIn (off := 660) (tgt := 692) X.1 X.2.1 dL_law_32 (by omega) (by omega) (by rw [cz]; rfl) (by decide) ?_
        exact law_c20 X hE hX hbl hL hl ⟨by omega, by omega⟩ ⟨by omega, by omega⟩ (by omega) hJ next
      · refine lv_tableIn (off := 683) (tgt := 715) X.1 X.2.1 dL_law_32 (by omega) (by omega) (by rw [cz]; rfl) (by decide) ?_
        exact law_c21 X hE hX hbl hL hl ⟨by omega, by omega⟩ ⟨by omega, by omega⟩ (by omega) hJ next
      · refine lv_tableIn (off := 726) (tgt := 758) X.1 X.2.1 dL_law_32 (by omega) (by omega) (by rw [cz]; rfl) (by decide) ?_
        exact law_c22 X hE hX hbl hL hl ⟨by omega, by omega⟩ ⟨by omega, by omega⟩ (by omega) hJ next
      · refine lv_tableIn (off := 759) (tgt := 791) X.1 X.2.1 dL_law_32 (by omega) (by omega) (by rw [cz]; rfl) (by decide) ?_
        exact law_c23 X hE hX hbl hL hl ⟨by omega, by omega⟩ ⟨by omega, by omega⟩ (by omega) hJ next
      · refine lv_tableIn (off := 818) (tgt := 850) X.1 X.2.1 dL_law_32 (by omega) (by omega) (by rw [cz]; rfl) (by decide) ?_
        exact law_c24 X hE hX hbl hL hl ⟨by omega, by omega⟩ ⟨by omega, by omega⟩ (by omega) hJ next
      · refine lv_tableIn (off := 841) (tgt := 873) X.1 X.2.1 dL_law_32 (by omega) (by omega) (by rw [cz]; rfl) (by decide) ?_
        exact law_c25 X hE hX hbl hL hl ⟨by omega, by omega⟩ ⟨by omega, by omega⟩ (by omega) hJ next
      · refine lv_tableIn (off := 854) (tgt := 886) X.1 X.2.1 dL_law_32 (by omega) (by omega) (by rw [cz]; rfl) (by decide) ?_
        exact law_c26 X hE hX hbl hL hl ⟨by omega, by omega⟩ ⟨by omega, by omega⟩ (by omega) hJ next
      · refine lv_tableIn (off := 887) (tgt := 919) X.1 X.2.1 dL_law_32 (by omega) (by omega) (by rw [cz]; rfl) (by decide) ?_
        exact law_c27 X hE hX hbl hL hl ⟨by omega, by omega⟩ ⟨by omega, by omega⟩ (by omega) hJ next
      · refine lv_tableIn (off := 900) (tgt := 932) X.1 X.2.1 dL_law_32 (by omega) (by omega) (by rw [cz]; rfl) (by decide) ?_
        exact law_c28 X hE hX hbl hL hl ⟨by omega, by omega⟩ ⟨by omega, by omega⟩ (by omega) hJ next
      · refine lv_tableIn (off := 913) (tgt := 945) X.1 X.2.1 dL_law_32 (by omega) (by omega) (by rw [cz]; rfl) (by decide) ?_
        exact law_c29 X hE hX hbl hL hl ⟨by omega, by omega⟩ ⟨by omega, by omega⟩ (by omega) hJ next
      · refine lv_tableIn (off := 936) (tgt := 968) X.1 X.2.1 dL_law_32 (by omega) (by omega) (by rw [cz]; rfl) (by decide) ?_
        exact law_c30 X hE hX hbl hL hl ⟨by omega, by omega⟩ ⟨by omega, by omega⟩ (by omega) hJ next
      · refine lv_tableIn (off := 959) (tgt := 991) X.1 X.2.1 dL_law_32 (by omega) (by omega) (by rw [cz]; rfl) (by decide) ?_
        exact law_c31 X hE hX hbl hL hl ⟨by omega, by omega⟩ ⟨by omega, by omega⟩ (by omega) hJ next
set_option maxHeartbeats 4000000 in
set_option maxRecDepth 100000 in
/-- THE LAW, from its entry -/
theorem whole_start {p : Program} {e : Env} {s : State} {m : MethodId} {below : List Frame} {meth : Method} {c : Code} (l : Launch) (hflags : l.flags = flags0) {b L : Nat} {xs : Nat → Int32} (hL : L ≤ 2048) (C0 : lw_At p s m meth c b L xs) : W p l e room_1 s m #[Value.ref b] below meth c s.heap [] 0 0 (lw_Z below #[Value.ref b] s) (entryFrame m ([Value.ref b] : List Value).toArray 4) := by
  obtain ⟨hx, hb, hr, hml, hown, hts, hX, hbl, hlocks, hgv⟩ := C0
  obtain ⟨cy, hcy⟩ := en_cy (hts _ (List.mem_append_right _ (by decide +kernel))) (hts _ (List.mem_append_right _ (by decide +kernel))) (hts _ (List.mem_append_right _ (by decide +kernel))) (hts _ (List.mem_append_right _ (by decide +kernel)))
  have hB : ∀ w ∈ BG, w.before #[Value.ref b] s = true := fun w hw => hts w (bg_of hw)
  obtain ⟨D, hK⟩ := en_K hB hcy
  have hNW : NWs s := en_nw hts
  obtain ⟨z, hE⟩ := en_E hts hgv
  have X : ty_X p c s m #[Value.ref b] cL_law "EdgeEchoesLaw" 4 D cy := ⟨hx, hb, hml, hown, hB, hK⟩
  have hN0 : ∀ q, s.heap.size ≤ q → (fun q => s.heap.size ≤ q) q := fun _ h => h
  have hG := en_G (D := D) (cy := cy) (s := s) (ρ := fun _ _ _ => True)
  have hl := lv_entry [Value.ref b] (n := 4) (Nat.le_of_ble_eq_true rfl)
  rw [lg_entry_eq]
  refine tg_newo X hG hN0 9 (C := RX9) (T := TX9) (N := 9) rfl inB_9 tyX9 tyX9_ok (by decide) dfo_9 q_20 q_21 q_1 (Nat.le_of_ble_eq_true rfl) (Nat.le_of_ble_eq_true rfl) dL_law_0 (fun xa H hxa hG => ?_)
  refine lv_dup X.1 X.2.1 dL_law_3 rfl ?_
  refine k_cO X hNW hG hN0 (r_X9_init (M := MM Kz 0 0 0 false false) l D cy _ _ tU_at (fun a h => tU_ne h) (fun j v h => by rw [rU_at] at h; exact h)) yc_X9 q_22 ⟨Nat.le_of_ble_eq_true rfl, Nat.le_of_ble_eq_true rfl⟩ hl.1 (Nat.le_of_ble_eq_true rfl) ⟨Nat.le_of_ble_eq_true rfl, Nat.le_of_ble_eq_true rfl⟩ dL_law_4 (fun u H locs hG hu => ?_)
  obtain ⟨t1, r1⟩ := u
  have hG : TG D cy t1 r1 (fun q => s.heap.size ≤ q) s.heap H locs := hG
  obtain ⟨⟨c1, c2, c3, c4⟩, dd1, rf1⟩ := hu
  have t1x : t1 xa = some (0, 9) := c1 xa _ tU_at
  have v1 : ∀ a t j v, t1 a = some t → r1 a j v → cnT (MM Kz 0 0 0 false false) t j v := fun a t j v h1 h2 => c3 a t j v (by
    by_cases e : a = xa
    · exact Or.inl e
    · exact Or.inr (tU_ne e)) h1 h2
  have n1 : ∀ a t, t1 a = some t → t.1 < 10 ∧ t ≠ (0, 10) ∧ t.2 < 2147483648 := fun a t h => by
    by_cases e : a = xa
    · rw [e, t1x] at h
      cases h
      decide
    · exact c4 a t (tU_ne e) h
  clear c1 c2 c3 c4
  refine lv_astore_n (lv' := [(1, .ref xa), (0, .ref b)]) X.1 X.2.1 dL_law_7 rfl hl (by decide) rfl (fun ls hl => ?_)
  refine tg_newo X hG hN0 10 (C := RX10) (T := TX10) (N := 25) rfl inB_10 tyX10 tyX10_ok (by decide) dfo_10 q_870 q_871 q_11 (Nat.le_of_ble_eq_true rfl) (Nat.le_of_ble_eq_true rfl) dL_law_8 (fun ma H hma hG => ?_)
  refine lv_dup X.1 X.2.1 dL_law_11 rfl ?_
  refine k_cO X hNW hG hN0 (c_X10_init l D cy _ _ tU_at (fun a x h he => by rw [tU_ne he] at h; exact ⟨(n1 a x h).1, (n1 a x h).2.1⟩) (fun j v h => by rw [rU_at] at h; exact h)) yc_X10 q_872 ⟨Nat.le_of_ble_eq_true rfl, Nat.le_of_ble_eq_true rfl⟩ hl.1 (Nat.le_of_ble_eq_true rfl) ⟨Nat.le_of_ble_eq_true rfl, Nat.le_of_ble_eq_true rfl⟩ dL_law_12 (fun u H locs hG hu => ?_)
  obtain ⟨t2, r2⟩ := u
  have hG : TG D cy t2 r2 (fun q => s.heap.size ≤ q) s.heap H locs := hG
  obtain ⟨c1, c2, c3, c4, c5⟩ := hu
  have t2m : t2 ma = some (0, 10) := c1 ma _ tU_at
  have t2x : t2 xa = some (0, 9) := c1 xa _ (tU_ext hma _ _ t1x)
  have hU : UQ t2 := c4
  have hS : ∀ a n, t2 a = some (1, n) → n < 2147483648 := fun a n h => by
    cases e : tU t1 ma (0, 10) a with
    | none => exact absurd (show 10 ≤ 1 from c5 a _ e h) (by decide)
    | some y =>
      have h0 : t2 a = some y := c1 a y e
      rw [h0] at h
      cases h
      by_cases e2 : a = ma
      · rw [e2, tU_at] at e
        cases e
      · rw [tU_ne e2] at e
        exact (n1 a _ e).2.2
  have ini : ∀ a t j v, t2 a = some t → r2 a j v → cnT (MM Kz 0 0 0 false false) t j v := fun a t j v ha hv => by
    by_cases e2 : a = ma
    · exact c3 a t j v (Or.inl e2) ha hv
    · cases e : t1 a with
      | none => exact c3 a t j v (Or.inr (by show tU t1 ma (0, 10) a = none; rw [tU_ne e2]; exact e)) ha hv
      | some y =>
        have h0 : t2 a = some y := c1 a y (by rw [tU_ne e2]; exact e)
        rw [h0] at ha
        cases ha
        have h5 := c2 a j v (by rw [tU_ne e2, e]; intro z; cases z) e2 hv
        rw [rU_ne e2] at h5
        exact v1 a t j v e h5
  have hdd : ∀ im i0 i1, t2 im = some (4, 2) → r2 xa 6 (.ref im) → r2 im 0 (.ref i0) → r2 im 1 (.ref i1) → i0 ≠ i1 := fun im i0 i1 h0 h1 h2 h3 => by
    have xm : xa ≠ ma := fun z => by rw [z, hma] at t1x; cases t1x
    have nm : im ≠ ma := fun z => by rw [z, t2m] at h0; cases h0
    have ti : tU t1 ma (0, 10) im ≠ none := fun z => absurd (show 10 ≤ 4 from c5 im _ z h0) (by decide)
    have h1 := c2 xa 6 _ (by rw [tU_ne xm, t1x]; intro z; cases z) xm h1
    have h2 := c2 im 0 _ ti nm h2
    have h3 := c2 im 1 _ ti nm h3
    rw [rU_ne xm] at h1
    rw [rU_ne nm] at h2 h3
    exact dd1 im i0 i1 h1 h2 h3
  have hrk : ∃ rk : Nat → Nat, (∀ a j v, a ≠ xa → tR cPx t2 a ≠ none → r2 a j (.ref v) → rk v = rk a) ∧ ∀ j v, r2 xa j (.ref v) → rk v = j := by
    obtain ⟨rk, R1, R2⟩ := rf1
    have xm : xa ≠ ma := fun z => by rw [z, hma] at t1x; cases t1x
    refine ⟨rk, fun a j v h1 h2 h3 => ?_, fun j v h3 => ?_⟩
    · cases e0 : tR cPx t2 a with
      | none => exact absurd e0 h2
      | some y =>
        obtain ⟨e1, e2⟩ := tR_to e0
        have nm : a ≠ ma := fun z => by rw [z, t2m] at e1; cases e1; cases e2
        have ti : tU t1 ma (0, 10) a ≠ none := fun z => by
          have q := c5 a _ z e1
          unfold cPx at e2
          rw [decide_eq_false (Nat.not_lt.mpr q)] at e2
          cases e2
        have h4 := c2 a j _ ti nm h3
        rw [rU_ne nm] at h4
        rw [tU_ne nm] at ti
        exact R1 a j v h1 ti h4
    · have h4 := c2 xa j _ (by rw [tU_ne xm, t1x]; intro z; cases z) xm h3
      rw [rU_ne xm] at h4
      exact R2 j v h4
  obtain ⟨F, tx, la, nu, tr, dr, wi, ga, im, i0, i1, l0, l1, w0, w1, nw, wn, pa, lz, lk, wl, hGx, hq, hGm⟩ := law_split hG t2x ini hdd hrk
  have hS2 : ∀ a n, tR cPx t2 a = some (1, n) → n < 2147483648 := fun a n h => hS a n (tR_to h).1
  have hU2 : UQ (tR cPm t2) := fun a b ta tb h1 h2 h3 => hU a b ta tb (tR_to h1).1 (tR_to h2).1 h3
  refine lv_astore_n (lv' := [(2, .ref ma), (1, .ref xa), (0, .ref b)]) X.1 X.2.1 dL_law_15 rfl hl (by decide) rfl (fun ls hl => ?_)
  refine n_ic X dL_law_16 (by decide) (by decide) (fun x ex0 => ?_)
  refine lv_istore_n (lv' := [(3, .int x), (2, .ref ma), (1, .ref xa), (0, .ref b)]) X.1 X.2.1 dL_law_17 rfl hl (by decide) rfl (fun ls hl => ?_)
  exact law_loop X hr hlocks hE hX hbl hL 513 0 x H locs ls (by rw [ex0]; rfl) (by omega) (by omega) ⟨tR cPx t2, tR cPm t2, F, tx, la, nu, tr, dr, wi, ga, im, i0, i1, l0, l1, w0, w1, nw, wn, pa, lz, lk, wl, -1, Kz, 0, 0, 0, false, false, 0, 0, false, hGx, hGm, ⟨⟨by omega, Nat.zero_le _, Nat.zero_le _, Nat.zero_le _⟩, by omega, fun h => h, by omega⟩, hU2, qq_cB (by decide) hq, rfl, (fun j hj => absurd hj (Nat.not_lt_zero _)), tR_of t2m rfl, law_dj, hS2, ⟨by decide, by decide, by decide, by decide, by decide⟩⟩ (lv_sub hl [3, 2, 1, 0] rfl)
