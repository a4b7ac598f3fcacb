def R_law : String := "EdgeEchoesLaw"
def lw_P (b : Addr) (xs : List Int32) (args : Array Value) (s : State) : Prop := args = #[.ref b] ∧ s.IntsAt b xs ∧ xs.length ≤ 2048 ∧ (Jvm.Cond.and given_1 narrow_1).before args s = true
def lw_Q (_ : Array Value) (s : State) (o : Outcome) (t : State) : Prop := o = .returned (some (.int 1)) ∧ Framed s o t [] 138320 8687290
def lw_Z (below : List Frame) (a : Array Value) (s : State) : State → Prop := fun t => ∃ o, t.status = .running ∧ Ended t below o ∧ lw_Q a s o t
/-- the law's own end, with 1 on the stack, nothing written that was there before, its room as the claim has it -/
theorem lw_ret {p : Program} {l : Launch} {e : Env} {s : State} {m : MethodId} {below : List Frame} {meth : Method} {c : Code} {b : Nat} (hx : p.tables.exec = Jvm.exec) (hb : c.code = code) (hr : meth.sig.returnType = ret) (hlocks : meth.locks = false) {pc : Nat} {H : Heap} {ls : Array Slot} (hdg : decode code pc = .ok (.ireturn, 1)) : W p l e room_1 s m #[Value.ref b] below meth c H [] 138320 8687290 (lw_Z below #[Value.ref b] s) (F0 m pc ls [.int 1]) := by
  intro T hT X
  obtain ⟨fs, hret, hrun, hended, hW, hframe⟩ := X.leave (v := some (.int 1)) (hlocks := hlocks) (fun h => by rw [hr] at h; cases h)
  have hmeth' : T.vm.method? m = some meth := X.method'
  refine ⟨T.setFrames fs, ?_, .returned (some (.int 1)), hrun, hended, rfl, ⟨_, rfl⟩, hW, hframe⟩
  jvm_step X.here [X.here.top, hx, hb, hdg, hmeth', hr, ret, narrow_b1]
  (try refine ⟨rfl, ?_⟩); (try refine ⟨rfl, ?_⟩)
  first | (intro acts; rw [hret _ acts rfl rfl rfl]) | rw [hret _ _ rfl rfl rfl]
  exact Steps.refl _
/-- what holds at the law's entry: the machine, the code, the tables' words (any of lw_tbl by 'hts w (by decide +kernel)'), the script of L ints xs at the cell b, what the Statement gives of the start (any of its parts by flat_of_before) -/
def lw_At (p : Program) (s : State) (m : MethodId) (meth : Method) (c : Code) (b L : Nat) (xs : Nat → Int32) : Prop :=
  p.tables.exec = Jvm.exec ∧ c.code = code ∧ meth.sig.returnType = ret ∧ c.maxLocals = 4 ∧ s.vm.findClass R_law = some m.cls ∧ (∀ w ∈ lw_tbl, w.before #[Value.ref b] s = true) ∧ va_X b L xs s s.heap ∧ b < s.heap.size ∧ meth.locks = false ∧ (Jvm.Cond.and given_1 narrow_1).before #[Value.ref b] s = true
/-- between two calls of the law: each side's typed heap, the reference's counts, the class's pins -/
def DJ (τ τm : ty_T) : Prop := ∀ a, τ a = none ∨ τm a = none
def pf (F : Nat → Nat → Option Value) : ty_R := fun b j v => ∀ x, F b j = some x → v = x
def BY (K : KT) : Prop := ∀ j, j < K.1 → 0 ≤ (K.2.2.2.2 j).toInt ∧ (K.2.2.2.2 j).toInt ≤ 255
def PI (τ : ty_T) (F : Nat → Nat → Option Value) (xa im i0 i1 : Nat) (b0 b1 : Bool) : Prop := τ im = some (4, 2) ∧ τ i0 = some (0, 2) ∧ τ i1 = some (0, 2) ∧ i0 ≠ i1 ∧ F xa 6 = some (.ref im) ∧ F im 0 = some (.ref i0) ∧ F im 1 = some (.ref i1) ∧ F i0 2 = some (.int (bI b0)) ∧ F i1 2 = some (.int (bI b1))
def LJ (D : va_G) (cy : Nat → ClassId) (s : State) (xa ma : Nat) (H : Heap) (locs : List Loc) : Prop :=
  ∃ (τ τm : ty_T) (F : Nat → Nat → Option Value) (tx la nu tr dr wi ga im i0 i1 : Nat) (y : Int32) (K : KT) (P N u : Nat) (k0 k1 : Bool), TG D cy τ (pv F (cn Mx τ)) (fun q => s.heap.size ≤ q) s.heap H locs ∧ TG D cy τm (cn (MM K P N u k0 k1) τm) (fun q => s.heap.size ≤ q) s.heap H locs ∧ OKG K P N u ∧ UQ τm ∧ PF τ F xa tx la nu tr dr wi ga K.1 K.2.2.2.2 ∧ SUP τ F ∧ F xa 7 = some (.int y) ∧ y.toInt = K.2.1 ∧ PI τ F xa im i0 i1 k0 k1 ∧ BY K ∧ τm ma = some (0, 10) ∧ DJ τ τm ∧ ∀ a n, τ a = some (1, n) → n < 2147483648
section LAW3
variable {τ τm : ty_T} {xa tx la nu tr dr wi ga c : Nat} {T : Nat → Int32} {S : List Nat} {D : va_G} {cy : Nat → ClassId} {A : Nat → Prop} {H0 H : Heap} {locs : List Loc} {F : Nat → Nat → Option Value} {ρ : ty_R}
theorem DJ.up {t : ty_T} (h : DJ τ τm) (hn : ∀ a, t a ≠ none → (τ a ≠ none ∨ H.size ≤ a)) (hl : ∀ a, τm a ≠ none → a < H.size) : DJ t τm := fun a => by
  cases e : t a with
  | none => exact Or.inl rfl
  | some y =>
    right
    rcases hn a (by rw [e]; intro z; cases z) with z | z
    · exact (h a).resolve_left z
    · cases e2 : τm a with
      | none => rfl
      | some w => exact absurd (hl a (by rw [e2]; intro z; cases z)) (Nat.not_lt.mpr z)
theorem feed_ok {K : KT} {P N u : Nat} {x : Int32} (ok : OKG K P N u) : OKG (feedS K x) P N u := by
  by_cases h : (x.toInt < 0 ∨ 255 < x.toInt) ∨ K.1 = 240
  · rw [feedS_n h]
    exact ok
  · rw [feedS_y h]
    have := ok.1.2.1
    exact ⟨⟨ok.1.1, (show K.1 + 1 ≤ 240 by omega), ok.1.2.2⟩, ok.2⟩
theorem sup_PO (h : SUP τ F) : PO τ (pf F) := by
  refine ⟨fun a t j x ha hc y hy => ?_, fun a v ha y hy => ?_, fun a j v ha y hy => ?_⟩
  · rw [h.2 a t j ha ((by decide : ∀ n ∈ SG, n ∉ PC) _ hc)] at hy; cases hy
  · rw [h.2 a _ 3 ha (by decide)] at hy; cases hy
  · rw [h.1 a j ha] at hy; cases hy
theorem sup_up {M : md_T} {π : ty_R} {t : ty_T} {r : ty_R} (h : SUP τ F) (hu : GP M π τ (t, r)) : SUP t F := by
  refine ⟨fun a j ha => h.1 a j ?_, fun a x j ha hc => ?_⟩
  · cases e : τ a with
    | none => rfl
    | some y => have z : t a = some y := hu.1 a y e; rw [ha] at z; cases z
  · cases e : τ a with
    | none => exact h.1 a j e
    | some y => have z : t a = some y := hu.1 a y e; rw [z] at ha; cases ha; exact h.2 a x j e hc
theorem pf_up {M : md_T} {π : ty_R} {t : ty_T} {r : ty_R} (h : PF τ F xa tx la nu tr dr wi ga c T) (hu : GP M π τ (t, r)) : PF t F xa tx la nu tr dr wi ga c T := by
  obtain ⟨h1, h2, h3, h4, h5, h6, h7, h8, h9⟩ := h
  exact ⟨hu.1 _ _ h1, hu.1 _ _ h2, hu.1 _ _ h3, hu.1 _ _ h4, hu.1 _ _ h5, hu.1 _ _ h6, hu.1 _ _ h7, hu.1 _ _ h8, h9⟩
theorem pi_up {M : md_T} {π : ty_R} {t : ty_T} {r : ty_R} {im i0 i1 : Nat} {b0 b1 : Bool} (h : PI τ F xa im i0 i1 b0 b1) (hu : GP M π τ (t, r)) : PI t F xa im i0 i1 b0 b1 := ⟨hu.1 _ _ h.1, hu.1 _ _ h.2.1, hu.1 _ _ h.2.2.1, h.2.2.2⟩
theorem pi_fu {b j : Nat} {x : Value} {t0 : ty_C} {im i0 i1 : Nat} {b0 b1 : Bool} (hxa : τ xa = some (0, 9)) (h : PI τ F xa im i0 i1 b0 b1) (hb : τ b = some t0) (hc : ty_cd t0 j ≠ 906 ∧ ty_cd t0 j ≠ 6004 ∧ ty_cd t0 j ≠ 202) : PI τ (fu F b j x) xa im i0 i1 b0 b1 := by
  obtain ⟨h1, h2, h3, h4, p1, p2, p3, p4, p5⟩ := h
  have ne : ∀ {a : Nat} {ta : ty_C} {i : Nat}, τ a = some ta → ty_cd ta i ≠ ty_cd t0 j → ¬ (a = b ∧ i = j) := fun ha hn z => by
    obtain ⟨rfl, rfl⟩ := z
    rw [ha] at hb
    cases hb
    exact hn rfl
  exact ⟨h1, h2, h3, h4, (fu_ne (ne (i := 6) hxa (Ne.symm hc.1))).trans p1, (fu_ne (ne (i := 0) h1 (Ne.symm hc.2.1))).trans p2, (fu_ne (ne (i := 1) h1 (Ne.symm hc.2.1))).trans p3, (fu_ne (ne (i := 2) h2 (Ne.symm hc.2.2))).trans p4, (fu_ne (ne (i := 2) h3 (Ne.symm hc.2.2))).trans p5⟩
theorem law_im {b : Nat} {x : Value} {y : Int32} (hp : PF τ F xa tx la nu tr dr wi ga c T) (hs : SUP τ F) (hy : F xa 7 = some (.int y)) (hb : τ b = some (0, 2)) : PF τ (fu F b 2 x) xa tx la nu tr dr wi ga c T ∧ SUP τ (fu F b 2 x) ∧ fu F b 2 x xa 7 = some (.int y) := by
  obtain ⟨h1, h2, h3, h4, h5, h6, h7, h8, p1, p2, p3, p4, p5, p6⟩ := hp
  have ne : ∀ {a : Nat} {ta : ty_C}, τ a = some ta → ta ≠ (0, 2) → a ≠ b := fun h1 h3 e => h3 (by rw [e, hb] at h1; cases h1; rfl)
  have nx := ne h1 (by decide)
  have nt := ne h2 (by decide)
  exact ⟨⟨h1, h2, h3, h4, h5, h6, h7, h8, (fu_b nx).trans p1, (fu_b nx).trans p2, (fu_b (ne h5 (by decide))).trans p3, (fu_b (ne h6 (by decide))).trans p4, (fu_b (ne h6 (by decide))).trans p5, (fu_b nt).trans p6.1, (fu_b nt).trans p6.2.1, (fu_b nt).trans p6.2.2.1, fun j hj => (fu_b (ne h3 (by decide))).trans (p6.2.2.2 j hj)⟩, sup_fu hs hb (by decide), (fu_b nx).trans hy⟩
theorem pi_0 {im i0 i1 : Nat} {b0 b1 b : Bool} (hxa : τ xa = some (0, 9)) (h : PI τ F xa im i0 i1 b0 b1) : PI τ (fu F i0 2 (.int (bI b))) xa im i0 i1 b b1 := by
  obtain ⟨h1, h2, h3, h4, p1, p2, p3, p4, p5⟩ := h
  have nx : xa ≠ i0 := fun e => by rw [e, h2] at hxa; cases hxa
  have nm : im ≠ i0 := fun e => by rw [e, h2] at h1; cases h1
  exact ⟨h1, h2, h3, h4, (fu_b nx).trans p1, (fu_b nm).trans p2, (fu_b nm).trans p3, fu_at, (fu_b (Ne.symm h4)).trans p5⟩
theorem pi_1 {im i0 i1 : Nat} {b0 b1 b : Bool} (hxa : τ xa = some (0, 9)) (h : PI τ F xa im i0 i1 b0 b1) : PI τ (fu F i1 2 (.int (bI b))) xa im i0 i1 b0 b := by
  obtain ⟨h1, h2, h3, h4, p1, p2, p3, p4, p5⟩ := h
  have nx : xa ≠ i1 := fun e => by rw [e, h3] at hxa; cases hxa
  have nm : im ≠ i1 := fun e => by rw [e, h3] at h1; cases h1
  exact ⟨h1, h2, h3, h4, (fu_b nx).trans p1, (fu_b nm).trans p2, (fu_b nm).trans p3, (fu_b h4).trans p4, fu_at⟩
/-- a pin at the text's count, the letters, the fault: the rest stays -/
theorem pf_fu {b j : Nat} {x : Value} {c2 : Nat} {T2 : Nat → Int32} (h : PF τ F xa tx la nu tr dr wi ga c T) (hb : (b = tx ∧ j = 2) ∨ b = la ∨ (b = xa ∧ j = 7)) (hT : TE (fu F b j x) tx la nu c2 T2) : PF τ (fu F b j x) xa tx la nu tr dr wi ga c2 T2 := by
  obtain ⟨h1, h2, h3, h4, h5, h6, h7, h8, p1, p2, p3, p4, p5, p6⟩ := h
  have ne : ∀ {a b : Nat} {ta tb : ty_C}, τ a = some ta → τ b = some tb → ta ≠ tb → a ≠ b := fun h1 h2 h3 e => h3 (by rw [e, h2] at h1; cases h1; rfl)
  refine ⟨h1, h2, h3, h4, h5, h6, h7, h8, ?_, ?_, ?_, ?_, ?_, hT⟩
  · rw [fu_ne (fun z => ?_)]
    · exact p1
    · rcases hb with w | w | w
      · exact ne h1 h2 (by decide) (z.1.trans w.1)
      · exact ne h1 h3 (by decide) (z.1.trans w)
      · have := z.2; have := w.2; omega
  · rw [fu_ne (fun z => ?_)]
    · exact p2
    · rcases hb with w | w | w
      · exact ne h1 h2 (by decide) (z.1.trans w.1)
      · exact ne h1 h3 (by decide) (z.1.trans w)
      · have := z.2; have := w.2; omega
  · rw [fu_b (fun z => ?_)]
    · exact p3
    · rcases hb with w | w | w
      · exact ne h5 h2 (by decide) (z.trans w.1)
      · exact ne h5 h3 (by decide) (z.trans w)
      · exact ne h5 h1 (by decide) (z.trans w.1)
  · rw [fu_b (fun z => ?_)]
    · exact p4
    · rcases hb with w | w | w
      · exact ne h6 h2 (by decide) (z.trans w.1)
      · exact ne h6 h3 (by decide) (z.trans w)
      · exact ne h6 h1 (by decide) (z.trans w.1)
  · rw [fu_b (fun z => ?_)]
    · exact p5
    · rcases hb with w | w | w
      · exact ne h6 h2 (by decide) (z.trans w.1)
      · exact ne h6 h3 (by decide) (z.trans w)
      · exact ne h6 h1 (by decide) (z.trans w.1)
theorem rP_pv {b j : Nat} {x : Value} (hx : ρ b j x) : ∀ a i v, rP (pv F ρ) b j x a i v → pv (fu F b j x) ρ a i v := fun a i v h => by
  by_cases e : a = b ∧ i = j
  · obtain ⟨rfl, rfl⟩ := e
    have := rP_at h
    subst this
    exact pv_new hx
  · have h := rP_ne e h
    exact ⟨h.1, fun y hy => h.2 y (by rw [fu_ne e] at hy; exact hy)⟩
theorem law_feed {K : KT} {x : Int32} {u : ty_R} {y : Int32} (hp : PF τ F xa tx la nu tr dr wi ga K.1 K.2.2.2.2) (hs : SUP τ F) (hy : F xa 7 = some (.int y)) (hB : BY K) {im i0 i1 : Nat} {b0 b1 : Bool} (hpi : PI τ F xa im i0 i1 b0 b1) (hk : K.1 ≤ 240) (q1 : ((x.toInt < 0 ∨ 255 < x.toInt) ∨ (nI K.1).toInt = 240) → u = pv F (cn Mx τ)) (q2 : ¬ ((x.toInt < 0 ∨ 255 < x.toInt) ∨ (nI K.1).toInt = 240) → u = rP (rP (pv F (cn Mx τ)) la (nI K.1).toNatClampNeg (.int x)) tx 2 (.int (nI K.1 + 1))) (hG : TG D cy τ u A H0 H locs) : ∃ F2, TG D cy τ (pv F2 (cn Mx τ)) A H0 H locs ∧ PF τ F2 xa tx la nu tr dr wi ga (feedS K x).1 (feedS K x).2.2.2.2 ∧ SUP τ F2 ∧ F2 xa 7 = some (.int y) ∧ BY (feedS K x) ∧ PI τ F2 xa im i0 i1 b0 b1 := by
  have ec : (nI K.1).toInt = (K.1 : Int) := cI_nI (by omega)
  obtain ⟨hxa, htx, hla, hnu, htr, hdr, hwi, hga, p1, p2, p3, p4, p5, hT⟩ := id hp
  by_cases h : (x.toInt < 0 ∨ 255 < x.toInt) ∨ K.1 = 240
  · rw [feedS_n h]
    rw [q1 (by omega)] at hG
    exact ⟨F, hG, hp, hs, hy, hB, hpi⟩
  · rw [feedS_y h]
    rw [q2 (by omega)] at hG
    have ei : (nI K.1).toNatClampNeg = K.1 := nI_clamp (by omega)
    have n1 : tx ≠ la := fun z => by rw [z, hla] at htx; cases htx
    have n2 : xa ≠ la := fun z => by rw [z, hla] at hxa; cases hxa
    have n3 : xa ≠ tx := fun z => by rw [z, htx] at hxa; cases hxa
    rw [ei, nI_1] at hG
    have i1 : ∀ y : Int32, cn Mx τ la K.1 (.int y) := fun y => cn_F (S := [6008]) la _ K.1 y hla (by show 6008 ∈ [6008]; decide) (ty_rno rfl)
    have i2 : ∀ y : Int32, cn Mx τ tx 2 (.int y) := fun y => cn_F (S := [602]) tx _ 2 y htx (by show 602 ∈ [602]; decide) (ty_rno rfl)
    refine ⟨fu (fu F la K.1 (.int x)) tx 2 (.int (nI (K.1 + 1))), hG.mono (fun a t j v _ hv => ?_), ?_, sup_fu (sup_fu hs hla (by show 6008 ∈ PC; decide)) htx (by decide), by rw [fu_b n3, fu_b n2]; exact hy, fun j hj => ?_, pi_fu hxa (pi_fu hxa hpi hla (by show 6008 ≠ 906 ∧ 6008 ≠ 6004 ∧ 6008 ≠ 202; decide)) htx (by decide)⟩
    · refine rP_pv (i2 _) a j v ?_
      unfold rP at hv ⊢
      by_cases e : a = tx ∧ j = 2
      · rw [if_pos e] at hv ⊢; exact hv
      · rw [if_neg e] at hv ⊢
        exact rP_pv (i1 _) a j v (by unfold rP; exact hv)
    · have t1 : TE (fu F la K.1 (.int x)) tx la nu K.1 K.2.2.2.2 := ⟨by rw [fu_b n1]; exact hT.1, by rw [fu_b n1]; exact hT.2.1, by rw [fu_b n1]; exact hT.2.2.1, fun j hj => by rw [fu_j (by omega)]; exact hT.2.2.2 j hj⟩
      refine pf_fu (pf_fu hp (Or.inr (Or.inl rfl)) t1) (Or.inl ⟨rfl, rfl⟩) ⟨?_, ?_, fu_at, fun j hj => ?_⟩
      · rw [fu_j (by decide)]; exact t1.1
      · rw [fu_j (by decide)]; exact t1.2.1
      · have hj : j < K.1 + 1 := hj
        show fu _ tx 2 _ la j = some (.int (if j = K.1 then x else K.2.2.2.2 j))
        rw [fu_b (Ne.symm n1)]
        by_cases e : j = K.1
        · subst e
          rw [fu_at, if_pos rfl]
        · rw [fu_j e, if_neg e]
          exact hT.2.2.2 j (by omega)
    · have hj : j < K.1 + 1 := hj
      show 0 ≤ (if j = K.1 then x else K.2.2.2.2 j).toInt ∧ (if j = K.1 then x else K.2.2.2.2 j).toInt ≤ 255
      by_cases e : j = K.1
      · rw [if_pos e]; omega
      · rw [if_neg e]; exact hB j (by omega)
theorem law_line {x : Int32} (hp : PF τ F xa tx la nu tr dr wi ga c T) (hs : SUP τ F) : PF τ (fu (fu F tx 2 (.int 0)) xa 7 (.int x)) xa tx la nu tr dr wi ga 0 T ∧ SUP τ (fu (fu F tx 2 (.int 0)) xa 7 (.int x)) ∧ fu (fu F tx 2 (.int 0)) xa 7 (.int x) xa 7 = some (.int x) := by
  obtain ⟨hxa, htx, hla, hnu, htr, hdr, hwi, hga, p1, p2, p3, p4, p5, hT⟩ := id hp
  have n3 : tx ≠ xa := fun z => by rw [z, hxa] at htx; cases htx
  have t1 : TE (fu F tx 2 (.int 0)) tx la nu 0 T := ⟨by rw [fu_j (by decide)]; exact hT.1, by rw [fu_j (by decide)]; exact hT.2.1, by rw [fu_at, nI_0], fun j hj => absurd hj (Nat.not_lt_zero _)⟩
  refine ⟨pf_fu (pf_fu hp (Or.inl ⟨rfl, rfl⟩) t1) (Or.inr (Or.inr ⟨rfl, rfl⟩)) ⟨by rw [fu_b n3]; exact t1.1, by rw [fu_b n3]; exact t1.2.1, by rw [fu_b n3]; exact t1.2.2.1, fun j hj => absurd hj (Nat.not_lt_zero _)⟩, sup_fu (sup_fu hs htx (by decide)) hxa (by decide), fu_at⟩
theorem pi_line {x : Int32} {im i0 i1 : Nat} {b0 b1 : Bool} (hp : PF τ F xa tx la nu tr dr wi ga c T) (h : PI τ F xa im i0 i1 b0 b1) : PI τ (fu (fu F tx 2 (.int 0)) xa 7 (.int x)) xa im i0 i1 b0 b1 := pi_fu hp.1 (pi_fu hp.1 h hp.2.1 (j := 2) (by decide)) hp.1 (j := 7) (by decide)
theorem pi_i {x : Int32} {im i0 i1 : Nat} {b0 b1 : Bool} (h : PI τ F xa im i0 i1 b0 b1) : 0 ≤ x.toInt ∧ x.toInt ≤ 1 → F im x.toNatClampNeg = some (.ref (lnI i0 i1 x.toInt)) := fun hx => by
  have := cI_clamp (x := x) (by omega)
  rcases (show x.toInt = 0 ∨ x.toInt = 1 by omega) with e | e
  · rw [e, show x.toNatClampNeg = 0 by omega]; exact h.2.2.2.2.2.1
  · rw [e, show x.toNatClampNeg = 1 by omega]; exact h.2.2.2.2.2.2.1
def kB (k0 k1 : Bool) (x : Int) : Bool := if x = 0 then k0 else k1
theorem pi_b {x : Int32} {im i0 i1 : Nat} {b0 b1 : Bool} (h : PI τ F xa im i0 i1 b0 b1) : F (lnI i0 i1 x.toInt) 2 = some (.int (bI (kB b0 b1 x.toInt))) := by
  unfold lnI kB
  split
  · exact h.2.2.2.2.2.2.2.1
  · exact h.2.2.2.2.2.2.2.2
theorem lnG_2 {i0 i1 : Nat} : lnG F i0 i1 2 = fu (fu F i0 2 (.int (bI false))) i1 2 (.int (bI false)) := rfl
end LAW3
theorem cnF_le {T : Nat → Int32} {c w : Nat} : ∀ m k p, p ≤ c → (cnF T c w m k p).2 ≤ c
  | 0, k, p, h => h
  | m + 1, k, p, h => by
    by_cases q : nk T c p (nlo w k) (nhi w k) = 0
    · rw [cnF_y q]; exact cnF_le m (k + 1) _ (na_le h)
    · rw [cnF_n q]; exact sk_le h
theorem clk2_le {T : Nat → Int32} {c a : Nat} {st : ST} (h : a < c) : (clk T c st a).2 ≤ c := by
  have h1 : (cln T c a).2 ≤ c := cnF_le _ _ _ h
  unfold clk
  split
  · exact Nat.le_of_lt h
  · split
    · exact Nat.le_of_lt h
    · split
      · split
        · next w => exact w.1
        · exact sk_le h1
      · exact h1
theorem rdF2_le {T : Nat → Int32} {c : Nat} : ∀ n st a, a ≤ c → (rdF T c n st a).2.1 ≤ c
  | 0, st, a, h => h
  | n + 1, st, a, h => by
    show (if a < c then (if (clk T c st a).1 = 0 then rdF T c n (nst T c st a) (sk T c (clk T c st a).2) else ((clk T c st a).1, (clk T c st a).2, st)) else (0, a, st)).2.1 ≤ c
    split
    · next w =>
      split
      · exact rdF2_le n _ _ (sk_le (clk2_le w))
      · exact clk2_le w
    · exact h
theorem rdT2_le {K : KT} : (rdT K).2.1 ≤ K.1 := rdF2_le _ _ _ (sk_le (Nat.zero_le _))
def cPx (t : ty_C) : Bool := decide (t.1 < 10) && !(decide (t.1 = 0) && decide (10 ≤ t.2))
def cPm (t : ty_C) : Bool := !(cPx t)
theorem law_dj {t : ty_T} : DJ (tR cPx t) (tR cPm t) := fun a => by
  cases e : tR cPx t a with
  | none => exact Or.inl rfl
  | some y =>
    right
    cases e2 : tR cPm t a with
    | none => rfl
    | some w =>
      obtain ⟨h1, h2⟩ := tR_to e
      obtain ⟨h3, h4⟩ := tR_to e2
      rw [h1] at h3
      cases h3
      unfold cPm at h4
      rw [h2] at h4
      cases h4
theorem cPx_k {k : Nat} (h : cPx (0, k) = true) : k < 10 := by
  rcases Nat.lt_or_ge k 10 with z | z
  · exact z
  · have e : cPx (0, k) = !(decide (10 ≤ k)) := rfl
    rw [e, decide_eq_true z] at h
    cases h
theorem cPm_k {k : Nat} (h : cPm (0, k) = true) : 10 ≤ k := by
  rcases Nat.lt_or_ge k 10 with z | z
  · have e : cPm (0, k) = !(!(decide (10 ≤ k))) := rfl
    rw [e, decide_eq_false (Nat.not_le.mpr z)] at h
    cases h
  · exact z
theorem cPx_c : ∀ k g, cPx (0, k) = true → g ∈ ty_fs k → (g.1 = 2 → cPx g.2 = true) ∧ (g.1 = 3 → ∀ n, cPx (1, n) = true) := by
  intro k g hk hg
  have all : ∀ k, k < 10 → ∀ g ∈ ty_fs k, g.1 = 2 → cPx g.2 = true := by decide +kernel
  exact ⟨fun h2 => all k (cPx_k hk) g hg h2, fun _ n => rfl⟩
theorem cPm_c : ∀ k g, cPm (0, k) = true → g ∈ ty_fs k → (g.1 = 2 → cPm g.2 = true) ∧ (g.1 = 3 → ∀ n, cPm (1, n) = true) := by
  intro k g hk hg
  have e : ty_fs k = ty_fs 10 := by
    match k, cPm_k hk with
    | n + 10, _ => rfl
  rw [e] at hg
  have all : ∀ g ∈ ty_fs 10, (g.1 = 2 → cPm g.2 = true) ∧ g.1 ≠ 3 := by decide +kernel
  exact ⟨fun h2 => (all g hg).1 h2, fun h3 => absurd h3 (all g hg).2⟩
/-- a field that is no null has a name -/
theorem tg_pinr {D : va_G} {cy : Nat → ClassId} {τ : ty_T} {ρ : ty_R} {A : Nat → Prop} {H0 H : Heap} {locs : List Loc} {k j : Nat} {t : ty_C} (hG : TG D cy τ ρ A H0 H locs) {a : Nat} (ha : τ a = some (0, k)) (hg : (ty_fs k)[j]? = some (2, t)) (hn : ¬ ρ a j .null) : ∃ q, τ q = some t ∧ TG D cy τ (pn (fun b i v => b = a → i = j → v = .ref q) ρ) A H0 H locs := by
  obtain ⟨⟨L, f, hP, hD, hdom, hok⟩, hS, hA⟩ := hG
  obtain ⟨fs, he, hlen, hv⟩ := (hok a _ ha).1 rfl
  have hjl : j < fs.length := by rw [hlen]; exact (List.getElem?_eq_some_iff.mp hg).1
  obtain ⟨hV, hR⟩ := hv j (2, t) fs[j] hg (List.getElem?_eq_getElem hjl)
  rcases ty_V2 hV with hx | ⟨q, hx, hq⟩
  · rw [hx] at hR
    exact absurd hR hn
  · refine ⟨q, hq, ⟨L, f, hP, hD, hdom, fun b t2 hb => ?_⟩, hS, hA⟩
    by_cases hba : b = a
    · subst hba
      rw [ha] at hb
      cases hb
      refine ⟨fun _ => ⟨fs, he, hlen, fun i g v hg2 hi => ⟨(hv i g v hg2 hi).1, (hv i g v hg2 hi).2, fun _ e => ?_⟩⟩, (fun h => by cases h), (fun h => by cases h), (fun h => by cases h)⟩
      subst e
      rw [List.getElem?_eq_getElem hjl] at hi
      cases hi
      exact hx
    · exact (hok b t2 hb).mono (fun i v h => ⟨h, fun e => absurd e hba⟩)
theorem tg_nmr {D : va_G} {cy : Nat → ClassId} {τ : ty_T} {ρ : ty_R} {A : Nat → Prop} {H0 H : Heap} {locs : List Loc} {k j : Nat} {t : ty_C} (hG : TG D cy τ ρ A H0 H locs) {a : Nat} (ha : τ a = some (0, k)) (hg : (ty_fs k)[j]? = some (2, t)) (hn : ¬ ρ a j .null) : ∃ q, τ q = some t ∧ ρ a j (.ref q) ∧ TG D cy τ (pn (fun b i v => b = a → i = j → v = .ref q) ρ) A H0 H locs := by
  obtain ⟨⟨L, f, hP, hD, hdom, hok⟩, hS, hA⟩ := hG
  obtain ⟨fs, he, hlen, hv⟩ := (hok a _ ha).1 rfl
  have hjl : j < fs.length := by rw [hlen]; exact (List.getElem?_eq_some_iff.mp hg).1
  obtain ⟨hV, hR⟩ := hv j (2, t) fs[j] hg (List.getElem?_eq_getElem hjl)
  rcases ty_V2 hV with hx | ⟨q, hx, hq⟩
  · rw [hx] at hR
    exact absurd hR hn
  · refine ⟨q, hq, by rw [hx] at hR; exact hR, ⟨L, f, hP, hD, hdom, fun b t2 hb => ?_⟩, hS, hA⟩
    by_cases hba : b = a
    · subst hba
      rw [ha] at hb
      cases hb
      refine ⟨fun _ => ⟨fs, he, hlen, fun i g v hg2 hi => ⟨(hv i g v hg2 hi).1, (hv i g v hg2 hi).2, fun _ e => ?_⟩⟩, (fun h => by cases h), (fun h => by cases h), (fun h => by cases h)⟩
      subst e
      rw [List.getElem?_eq_getElem hjl] at hi
      cases hi
      exact hx
    · exact (hok b t2 hb).mono (fun i v h => ⟨h, fun e => absurd e hba⟩)
/-- a place of a row of references has a name (images: 4, lines: 3) -/
theorem tg_nma {D : va_G} {cy : Nat → ClassId} {τ : ty_T} {ρ : ty_R} {A : Nat → Prop} {H0 H : Heap} {locs : List Loc} {n j w : Nat} (hw : w = 3 ∨ w = 4) (hG : TG D cy τ ρ A H0 H locs) {a : Nat} (ha : τ a = some (w, n)) (hj : j < n) (hn : ¬ ρ a j .null) : ∃ q, τ q = some (0, if w = 3 then 3 else 2) ∧ ρ a j (.ref q) ∧ TG D cy τ (pn (fun b i v => b = a → i = j → v = .ref q) ρ) A H0 H locs := by
  obtain ⟨⟨L, f, hP, hD, hdom, hok⟩, hS, hA⟩ := hG
  have kd : ty_kd w = 3 := by rcases hw with rfl | rfl <;> rfl
  obtain ⟨g, he, hv⟩ := (hok a _ ha).2.2.2 kd
  obtain ⟨h1, h2⟩ := hv j hj
  cases hgj : g j with
  | none => rw [hgj] at h2; exact absurd h2 hn
  | some q =>
    refine ⟨q, h1 q hgj, by rw [hgj] at h2; exact h2, ⟨L, f, hP, hD, hdom, fun b t2 hb => ?_⟩, hS, hA⟩
    by_cases hba : b = a
    · subst hba
      rw [ha] at hb
      cases hb
      refine ⟨(fun h => by rw [kd] at h; cases h), (fun h => by rw [kd] at h; cases h), (fun h => by rw [kd] at h; cases h), fun _ => ⟨g, he, fun i hi => ⟨(hv i hi).1, (hv i hi).2, fun _ e => ?_⟩⟩⟩
      subst e
      rw [hgj]
      rfl
    · exact (hok b t2 hb).mono (fun i v h => ⟨h, fun e => absurd e hba⟩)
theorem tg_fold {D : va_G} {cy : Nat → ClassId} {τ : ty_T} {ρ : ty_R} {F : Nat → Nat → Option Value} {A : Nat → Prop} {H0 H : Heap} {locs : List Loc} {j q a : Nat} (h : TG D cy τ (pn (fun b i v => b = a → i = j → v = .ref q) (pv F ρ)) A H0 H locs) : TG D cy τ (pv (fu F a j (.ref q)) ρ) A H0 H locs := h.mono (fun b t i v _ z => ⟨z.1.1, fun y hy => by
  by_cases e : b = a ∧ i = j
  · obtain ⟨rfl, rfl⟩ := e
    rw [fu_at] at hy
    cases hy
    exact z.2 rfl rfl
  · rw [fu_ne e] at hy
    exact z.1.2 y hy⟩)
/-- a pin more: a reference, a number -/
theorem tg_addr {D : va_G} {cy : Nat → ClassId} {τ : ty_T} {ρ : ty_R} {F : Nat → Nat → Option Value} {A : Nat → Prop} {H0 H : Heap} {locs : List Loc} {k j : Nat} {t : ty_C} (hG : TG D cy τ (pv F ρ) A H0 H locs) {a : Nat} (ha : τ a = some (0, k)) (hg : (ty_fs k)[j]? = some (2, t)) (hn : ¬ ρ a j .null) : ∃ q, τ q = some t ∧ TG D cy τ (pv (fu F a j (.ref q)) ρ) A H0 H locs := by
  obtain ⟨q, hq, h⟩ := tg_pinr hG ha hg (fun z => hn z.1)
  refine ⟨q, hq, h.mono (fun b t i v _ z => ⟨z.1.1, fun y hy => ?_⟩)⟩
  by_cases e : b = a ∧ i = j
  · obtain ⟨rfl, rfl⟩ := e
    rw [fu_at] at hy
    cases hy
    exact z.2 rfl rfl
  · rw [fu_ne e] at hy
    exact z.1.2 y hy
theorem tg_addi {D : va_G} {cy : Nat → ClassId} {τ : ty_T} {ρ : ty_R} {F : Nat → Nat → Option Value} {A : Nat → Prop} {H0 H : Heap} {locs : List Loc} {j : Nat} {x : Value} (hG : TG D cy τ (pv F ρ) A H0 H locs) {a : Nat} {t0 : ty_C} (ha : τ a = some t0) (hx : ∀ v, ρ a j v → v = x) : TG D cy τ (pv (fu F a j x) ρ) A H0 H locs := hG.mono (fun b t i v _ z => ⟨z.1, fun y hy => by
  by_cases e : b = a ∧ i = j
  · obtain ⟨rfl, rfl⟩ := e
    rw [fu_at] at hy
    cases hy
    exact hx v z.1
  · rw [fu_ne e] at hy
    exact z.2 y hy⟩)
theorem law_split0 {D : va_G} {cy : Nat → ClassId} {t2 : ty_T} {r2 : ty_R} {A : Nat → Prop} {H0 H : Heap} {locs : List Loc} {xa : Nat} (hG : TG D cy t2 r2 A H0 H locs) (t2x : t2 xa = some (0, 9)) (ini : ∀ a t j v, t2 a = some t → r2 a j v → cnT (MM Kz 0 0 0 false false) t j v) : ∃ F tx la nu tr dr wi ga, TG D cy (tR cPx t2) (pv F r2) A H0 H locs ∧ PF (tR cPx t2) F xa tx la nu tr dr wi ga Kz.1 Kz.2.2.2.2 ∧ SUP (tR cPx t2) F ∧ F xa 7 = some (.int (-1)) := by
  have hx := hG.part cPx_c (fun n _ => rfl) (fun n _ => rfl)
  have hxa : tR cPx t2 xa = some (0, 9) := tR_of t2x rfl
  have nn : ∀ a t j, tR cPx t2 a = some t → ¬ r2 a j .null := fun a t j ha h => (ini _ _ _ _ (tR_to ha).1 h).1 rfl
  have h0 : TG D cy (tR cPx t2) (pv (fun _ _ => none) r2) A H0 H locs := hx.mono (fun _ _ _ _ _ h => ⟨h, fun y hy => by cases hy⟩)
  have s0 : SUP (tR cPx t2) (fun _ _ => none) := ⟨fun _ _ _ => rfl, fun _ _ _ _ _ => rfl⟩
  obtain ⟨tx, htx, h1⟩ := tg_addr (j := 0) h0 hxa rfl (nn _ _ _ hxa)
  have s1 := sup_fu (x := .ref tx) (j := 0) s0 hxa (by decide)
  obtain ⟨tr, htr, h2⟩ := tg_addr (j := 2) h1 hxa rfl (nn _ _ _ hxa)
  have s2 := sup_fu (x := .ref tr) (j := 2) s1 hxa (by decide)
  obtain ⟨dr, hdr, h3⟩ := tg_addr (j := 0) h2 htr rfl (nn _ _ _ htr)
  have s3 := sup_fu (x := .ref dr) (j := 0) s2 htr (by decide)
  obtain ⟨wi, hwi, h4⟩ := tg_addr (j := 0) h3 hdr rfl (nn _ _ _ hdr)
  have s4 := sup_fu (x := .ref wi) (j := 0) s3 hdr (by decide)
  obtain ⟨ga, hga, h5⟩ := tg_addr (j := 1) h4 hdr rfl (nn _ _ _ hdr)
  have s5 := sup_fu (x := .ref ga) (j := 1) s4 hdr (by decide)
  obtain ⟨la, hla, h6⟩ := tg_addr (j := 0) h5 htx rfl (nn _ _ _ htx)
  have s6 := sup_fu (x := .ref la) (j := 0) s5 htx (by decide)
  obtain ⟨nu, hnu, h7⟩ := tg_addr (j := 1) h6 htx rfl (nn _ _ _ htx)
  have s7 := sup_fu (x := .ref nu) (j := 1) s6 htx (by decide)
  have h8 := tg_addi (j := 2) (x := .int 0) h7 htx (fun v hv => ((ini _ _ _ _ (tR_to htx).1 hv).2.2).elim (fun z => by cases z) (fun z => z))
  have s8 := sup_fu (x := .int 0) (j := 2) s7 htx (by decide)
  have h9 := tg_addi (j := 7) (x := .int (-1)) h8 hxa (fun v hv => ((ini _ _ _ _ t2x hv).2.2).elim (fun z => by cases z) (fun z => z))
  have s9 := sup_fu (x := .int (-1)) (j := 7) s8 hxa (by decide)
  have ne : ∀ {a b : Nat} {ta tb : ty_C}, tR cPx t2 a = some ta → tR cPx t2 b = some tb → ta ≠ tb → a ≠ b := fun h1 h2 h3 e => h3 (by rw [e, h2] at h1; cases h1; rfl)
  have n1 : xa ≠ tx := ne hxa htx (by decide)
  have n2 : xa ≠ tr := ne hxa htr (by decide)
  have n3 : xa ≠ dr := ne hxa hdr (by decide)
  have n4 : tx ≠ tr := ne htx htr (by decide)
  have n5 : tx ≠ dr := ne htx hdr (by decide)
  have n6 : tr ≠ dr := ne htr hdr (by decide)
  refine ⟨_, tx, la, nu, tr, dr, wi, ga, h9, ⟨hxa, htx, hla, hnu, htr, hdr, hwi, hga, ?_, ?_, ?_, ?_, ?_, ?_, ?_, ?_, fun j hj => absurd hj (Nat.not_lt_zero _)⟩, s9, fu_at⟩
  · rw [fu_j (by decide), fu_b n1, fu_b n1, fu_b n1, fu_b n3, fu_b n3, fu_b n2, fu_j (by decide), fu_at]
  · rw [fu_j (by decide), fu_b n1, fu_b n1, fu_b n1, fu_b n3, fu_b n3, fu_b n2, fu_at]
  · rw [fu_b (Ne.symm n2), fu_b (Ne.symm n4), fu_b (Ne.symm n4), fu_b (Ne.symm n4), fu_b n6, fu_b n6, fu_at]
  · rw [fu_b (Ne.symm n3), fu_b (Ne.symm n5), fu_b (Ne.symm n5), fu_b (Ne.symm n5), fu_j (by decide), fu_at]
  · rw [fu_b (Ne.symm n3), fu_b (Ne.symm n5), fu_b (Ne.symm n5), fu_b (Ne.symm n5), fu_at]
  · rw [fu_b (Ne.symm n1), fu_j (by decide), fu_j (by decide), fu_at]
  · rw [fu_b (Ne.symm n1), fu_j (by decide), fu_at]
  · rw [fu_b (Ne.symm n1), fu_at]; rfl
/-- PF's codes -/
def PFC : List Nat := [900, 902, 700, 300, 301, 600, 601, 602, 6008]
theorem pf_cd {τ : ty_T} {F : Nat → Nat → Option Value} {xa tx la nu tr dr wi ga c : Nat} {T : Nat → Int32} {b j : Nat} {x : Value} {t0 : ty_C} (h : PF τ F xa tx la nu tr dr wi ga c T) (hb : τ b = some t0) (hc : ty_cd t0 j ∉ PFC) : PF τ (fu F b j x) xa tx la nu tr dr wi ga c T := by
  obtain ⟨h1, h2, h3, h4, h5, h6, h7, h8, p1, p2, p3, p4, p5, p6⟩ := h
  have ne : ∀ {a : Nat} {ta : ty_C} (i : Nat), τ a = some ta → ty_cd ta i ∈ PFC → ¬ (a = b ∧ i = j) := fun i ha hn z => by
    obtain ⟨rfl, rfl⟩ := z
    rw [ha] at hb
    cases hb
    exact hc hn
  exact ⟨h1, h2, h3, h4, h5, h6, h7, h8, (fu_ne (ne 0 h1 (by decide))).trans p1, (fu_ne (ne 2 h1 (by decide))).trans p2, (fu_ne (ne 0 h5 (by decide))).trans p3, (fu_ne (ne 0 h6 (by decide))).trans p4, (fu_ne (ne 1 h6 (by decide))).trans p5, (fu_ne (ne 0 h2 (by decide))).trans p6.1, (fu_ne (ne 1 h2 (by decide))).trans p6.2.1, (fu_ne (ne 2 h2 (by decide))).trans p6.2.2.1, fun i hi => (fu_ne (ne i h3 (by show 6008 ∈ PFC; decide))).trans (p6.2.2.2 i hi)⟩
theorem law_split {D : va_G} {cy : Nat → ClassId} {t2 : ty_T} {r2 : ty_R} {A : Nat → Prop} {H0 H : Heap} {locs : List Loc} {xa : Nat} (hG : TG D cy t2 r2 A H0 H locs) (t2x : t2 xa = some (0, 9)) (ini : ∀ a t j v, t2 a = some t → r2 a j v → cnT (MM Kz 0 0 0 false false) t j v) (hdd : ∀ im i0 i1, t2 im = some (4, 2) → r2 xa 6 (.ref im) → r2 im 0 (.ref i0) → r2 im 1 (.ref i1) → i0 ≠ i1) : ∃ F tx la nu tr dr wi ga im i0 i1, TG D cy (tR cPx t2) (pv F (cn Mx (tR cPx t2))) A H0 H locs ∧ PF (tR cPx t2) F xa tx la nu tr dr wi ga Kz.1 Kz.2.2.2.2 ∧ SUP (tR cPx t2) F ∧ F xa 7 = some (.int (-1)) ∧ PI (tR cPx t2) F xa im i0 i1 false false ∧ TG D cy (tR cPm t2) (cn (MM Kz 0 0 0 false false) (tR cPm t2)) A H0 H locs := by
  have hm := hG.part cPm_c (fun n h => by cases h) (fun n h => by cases h)
  obtain ⟨F, tx, la, nu, tr, dr, wi, ga, h9, hp, s9, hy⟩ := law_split0 hG t2x ini
  have hxa := hp.1
  have nn : ∀ a t j, tR cPx t2 a = some t → ¬ r2 a j .null := fun a t j ha h => (ini _ _ _ _ (tR_to ha).1 h).1 rfl
  obtain ⟨im, him, rm, h10⟩ := tg_nmr (j := 6) (t := (4, 2)) h9 hxa rfl (fun z => nn _ _ _ hxa z.1)
  have h10 := tg_fold h10
  have p10 := pf_cd (j := 6) (x := .ref im) hp hxa (by decide)
  have s10 := sup_fu (j := 6) (x := .ref im) s9 hxa (by decide)
  obtain ⟨i0, hi0, r0, h11⟩ := tg_nma (j := 0) (Or.inr rfl) h10 him (by decide) (fun z => nn _ _ _ him z.1)
  have hi0 : tR cPx t2 i0 = some (0, 2) := hi0
  have h11 := tg_fold h11
  have p11 := pf_cd (j := 0) (x := .ref i0) p10 him (by decide)
  have s11 := sup_fu (j := 0) (x := .ref i0) s10 him (by decide)
  obtain ⟨i1, hi1, r1, h12⟩ := tg_nma (j := 1) (Or.inr rfl) h11 him (by decide) (fun z => nn _ _ _ him z.1)
  have hi1 : tR cPx t2 i1 = some (0, 2) := hi1
  have h12 := tg_fold h12
  have p12 := pf_cd (j := 1) (x := .ref i1) p11 him (by decide)
  have s12 := sup_fu (j := 1) (x := .ref i1) s11 him (by decide)
  have h13 := tg_addi (j := 2) (x := .int (bI false)) h12 hi0 (fun v hv => ((ini _ _ _ _ (tR_to hi0).1 hv).2.2).elim (fun z => by cases z) (fun z => z))
  have p13 := pf_cd (j := 2) (x := .int (bI false)) p12 hi0 (by decide)
  have s13 := sup_fu (j := 2) (x := .int (bI false)) s12 hi0 (by decide)
  have h14 := tg_addi (j := 2) (x := .int (bI false)) h13 hi1 (fun v hv => ((ini _ _ _ _ (tR_to hi1).1 hv).2.2).elim (fun z => by cases z) (fun z => z))
  have p14 := pf_cd (j := 2) (x := .int (bI false)) p13 hi1 (by decide)
  have s14 := sup_fu (j := 2) (x := .int (bI false)) s13 hi1 (by decide)
  have hne : i0 ≠ i1 := hdd im i0 i1 (tR_to him).1 rm.1 r0.1 r1.1
  have ne : ∀ {a b : Nat} {ta tb : ty_C}, tR cPx t2 a = some ta → tR cPx t2 b = some tb → ta ≠ tb → a ≠ b := fun h1 h2 h3 e => h3 (by rw [e, h2] at h1; cases h1; rfl)
  have n1 : xa ≠ im := ne hxa him (by decide)
  have n2 : xa ≠ i0 := ne hxa hi0 (by decide)
  have n3 : xa ≠ i1 := ne hxa hi1 (by decide)
  have n4 : im ≠ i0 := ne him hi0 (by decide)
  have n5 : im ≠ i1 := ne him hi1 (by decide)
  refine ⟨_, tx, la, nu, tr, dr, wi, ga, im, i0, i1, h14.mono (fun a t j v ha z => ⟨?_, z.2⟩), p14, s14, ?_, ⟨him, hi0, hi1, hne, ?_, ?_, ?_, ?_, fu_at⟩, hm.mono (fun a t j v ha hv => ?_)⟩
  · have k := ini a t j v (tR_to ha).1 z.1
    refine ⟨k.1, fun t3 x h4 e lo hi hr => ?_⟩
    rw [ha] at h4
    cases h4
    exact k.2.1 x e lo hi (rgd_sub (M := MM Kz 0 0 0 false false) (M' := Mx) (fun n j r z => by cases z) hr)
  · rw [fu_b n3, fu_b n2, fu_b n1, fu_b n1, fu_j (by decide)]; exact hy
  · rw [fu_b n3, fu_b n2, fu_b n1, fu_b n1, fu_at]
  · rw [fu_b n5, fu_b n4, fu_j (by decide), fu_at]
  · rw [fu_b n5, fu_b n4, fu_at]
  · rw [fu_b hne, fu_at]
  · have k := ini a t j v (tR_to ha).1 hv
    refine ⟨k.1, fun t3 x h4 e => ?_⟩
    rw [ha] at h4
    cases h4
    exact k.2.1 x e
section LAWL
variable {p : Program} {l : Launch} {e : Env} {R : Room} {s : State} {m : MethodId} {args : Array Value} {below : List Frame} {meth : Method} {c : Code} {H : Heap} {locs : List Loc} {cells slots : Nat} {Q : State → Prop} {cc : ByteArray} {pc : Nat} {ls : Array Slot} {rest : List Value} {D : va_G} {cy : Nat → ClassId} {own : String} {nL : Nat}
/-- the script's int at x + j -/
def sv (xs : Nat → Int32) (x : Int32) (j : Int) : Int32 := xs (x + Int32.ofInt j).toNatClampNeg
theorem vp_inI {x : Int32} {L : Nat} (h1 : 0 ≤ x.toInt) (h2 : x.toInt < L) : vp_in x L := cI_in ⟨h1, h2⟩
theorem lw_arg {b L xa ma : Nat} {xs : Nat → Int32} {x : Int32} {j : Int} (X : ty_X p c s m args cc own nL D cy) (hX : va_X b L xs s s.heap) (hbl : b < s.heap.size) (hL : L ≤ 2048) (hl : lv_has ls nL [(0, .ref b), (1, .ref xa), (2, .ref ma), (3, .int x)]) (hx : 0 ≤ x.toInt ∧ x.toInt + 4 ≤ L) (hS : va_S (fun q => s.heap.size ≤ q) s.heap H locs) (hj : 0 ≤ j ∧ j ≤ 3) (d0 : decode cc pc = .ok (.aload_n 0, 1)) (d1 : decode cc (pc + 1) = .ok (.iload_n 3, 1)) (d2 : decode cc (pc + 2) = .ok (.iconst j, 1)) (d3 : decode cc (pc + 3) = .ok (.iadd, 1)) (d4 : decode cc (pc + 4) = .ok (.iaload, 1))
    (kk : ∀ v : Int32, v = sv xs x j → W p l e R s m args below meth c H locs cells slots Q (F0 m (pc + 5) ls (.int v :: rest))) : W p l e R s m args below meth c H locs cells slots Q (F0 m pc ls rest) := by
  refine lv_aload_n X.1 X.2.1 d0 rfl (lv_at hl 0 rfl) ?_
  refine lv_iload_n X.1 X.2.1 d1 rfl (lv_at hl 3 rfl) ?_
  refine lv_iconst X.1 X.2.1 d2 rfl ?_
  refine lv_iadd X.1 X.2.1 d3 ?_
  have ej : (Int32.ofInt j).toInt = j := cI_of (by omega) (by omega)
  have e1 : (x + Int32.ofInt j).toInt = x.toInt + j := by
    rw [cI_add (by omega) (by omega), ej]
  exact va_sld X.1 X.2.1 hX hbl (Nat.not_le.mpr hbl) hS (vp_inI (by omega) (by omega)) d4 (kk _ rfl)
/-- 'is it not 0', as 1 or 0 -/
theorem lw_nz {y : Int32} (X : ty_X p c s m args cc own nL D cy) (d0 : decode cc pc = .ok (.ifCond .eq 7, 3)) (d1 : decode cc (pc + 3) = .ok (.iconst 1, 1)) (d2 : decode cc (pc + 4) = .ok (.goto 4, 3)) (d3 : decode cc (pc + 7) = .ok (.iconst 0, 1))
    (kk : ∀ v : Int32, (v.toInt = 0 ∨ v.toInt = 1) → W p l e R s m args below meth c H locs cells slots Q (F0 m (pc + 8) ls (.int v :: rest))) : W p l e R s m args below meth c H locs cells slots Q (F0 m pc ls (.int y :: rest)) := by
  refine n_if_eq (tgt := pc + 7) X d0 (by omega) (fun _ => ?_) (fun _ => ?_)
  · exact n_ic X d3 (by decide) (by decide) (fun v hv => kk v (Or.inl hv))
  · refine n_ic X d1 (by decide) (by decide) (fun v hv => ?_)
    exact lv_goto (tgt := pc + 8) X.1 X.2.1 d2 (by omega) (kk v (Or.inr hv))
end LAWL
