def R_law : String := "EdgeEchoesLaw"
def lw_P (b : Addr) (xs : List Int32) (args : Array Value) (s : State) : Prop := args = #[.ref b] ∧ s.IntsAt b xs ∧ xs.length ≤ 2048 ∧ (Jvm.Cond.and given_1 narrow_1).before args s = true
def lw_Q (_ : Array Value) (s : State) (o : Outcome) (t : State) : Prop := o = .returned (some (.int 1)) ∧ Framed s o t [] 138320 8687290
def lw_Z (below : List Frame) (a : Array Value) (s : State) : State → Prop := fun t => ∃ o, t.status = .running ∧ Ended t below o ∧ lw_Q a s o t
/-- the law's own end, with 1 on the stack, nothing written that was there before, its room as the claim has it -/
theorem lw_ret {p : Program} {l : Launch} {e : Env} {s : State} {m : MethodId} {below : List Frame} {meth : Method} {c : Code} {b : Nat} (hx : p.tables.exec = Jvm.exec) (hb : c.code = code) (hr : meth.sig.returnType = ret) (hlocks : meth.locks = false) {pc : Nat} {H : Heap} {ls : Array Slot} (hdg : decode code pc = .ok (.ireturn, 1)) : W p l e room_1 s m #[Value.ref b] below meth c H [] 138320 8687290 (lw_Z below #[Value.ref b] s) (F0 m pc ls [.int 1]) := by
  intro T hT X
  obtain ⟨fs, hret, hrun, hended, hW, hframe⟩ := X.leave (v := some (.int 1)) (hlocks := hlocks) (fun h => by rw [hr] at h; cases h)
  have hmeth' : T.vm.method? m = some meth := X.method'
  refine ⟨T.setFrames fs, ?_, .returned (some (.int 1)), hrun, hended, rfl, ⟨_, rfl⟩, hW, hframe⟩
  jvm_step X.here [X.here.top, hx, hb, hdg, hmeth', hr, ret, narrow_b1]
  (try refine ⟨rfl, ?_⟩); (try refine ⟨rfl, ?_⟩)
  first | (intro acts; rw [hret _ acts rfl rfl rfl]) | rw [hret _ _ rfl rfl rfl]
  exact Steps.refl _
/-- what holds at the law's entry: the machine, the code, the tables' words (any of lw_tbl by 'hts w (by decide +kernel)'), the script of L ints xs at the cell b, what the Statement gives of the start (any of its parts by flat_of_before) -/
def lw_At (p : Program) (s : State) (m : MethodId) (meth : Method) (c : Code) (b L : Nat) (xs : Nat → Int32) : Prop :=
  p.tables.exec = Jvm.exec ∧ c.code = code ∧ meth.sig.returnType = ret ∧ c.maxLocals = 4 ∧ s.vm.findClass R_law = some m.cls ∧ (∀ w ∈ lw_tbl, w.before #[Value.ref b] s = true) ∧ va_X b L xs s s.heap ∧ b < s.heap.size ∧ meth.locks = false ∧ (Jvm.Cond.and given_1 narrow_1).before #[Value.ref b] s = true
/-- between two calls of the law: each side's typed heap, the reference's counts, the class's pins -/
def DJ (τ τm : ty_T) : Prop := ∀ a, τ a = none ∨ τm a = none
def pf (F : Nat → Nat → Option Value) : ty_R := fun b j v => ∀ x, F b j = some x → v = x
def BY (K : KT) : Prop := ∀ j, j < K.1 → 0 ≤ (K.2.2.2.2 j).toInt ∧ (K.2.2.2.2 j).toInt ≤ 255
def RC : List Nat := [901, 903, 300, 400, 6003, 906, 6004, 200]
/-- PF's codes -/
def PFC : List Nat := [900, 902, 700, 300, 301, 600, 601, 602, 6008]
/-- F' says as F at these codes -/
def AGR (S : List Nat) (τ : ty_T) (F F' : Nat → Nat → Option Value) : Prop := ∀ a t j, τ a = some t → ty_cd t j ∈ S → F' a j = F a j
/-- the references: what is so, what can be undone, the images; the draft and its wire are no others' -/
def RQ (τ : ty_T) (F : Nat → Nat → Option Value) (xa wi dr im i0 i1 l0 l1 w0 w1 nw wn pa lz : Nat) (lk wl : Nat → Nat) : Prop := AG τ F xa nw wn pa lz lk wl ∧ (τ im = some (4, 2) ∧ τ i0 = some (0, 2) ∧ τ i1 = some (0, 2) ∧ i0 ≠ i1 ∧ F xa 6 = some (.ref im) ∧ F im 0 = some (.ref i0) ∧ F im 1 = some (.ref i1)) ∧ (τ l0 = some (0, 3) ∧ τ l1 = some (0, 3) ∧ τ w0 = some (0, 8) ∧ τ w1 = some (0, 8) ∧ F i0 0 = some (.ref l0) ∧ F i1 0 = some (.ref l1) ∧ F l0 0 = some (.ref w0) ∧ F l1 0 = some (.ref w1)) ∧ (nw ≠ dr ∧ wn ≠ wi ∧ (∀ k, k < 12 → lk k ≠ dr ∧ wl k ≠ wi) ∧ l0 ≠ dr ∧ w0 ≠ wi ∧ l1 ≠ dr ∧ w1 ≠ wi) ∧ τ wi = some (0, 8) ∧ τ dr = some (0, 3) ∧ τ xa = some (0, 9)
/-- the numbers: which images are kept and their seeds, what can be undone, each line that counts, the seed -/
def VQ (F : Nat → Nat → Option Value) (xa wi dr i0 i1 l0 l1 w0 w1 nw wn pa : Nat) (lk wl : Nat → Nat) (k0 k1 : Bool) (cu nx N : Nat) (b : Bool) (B : Nat) (sd s0 s1 : Int32) : Prop := VG F nw wn pa lk wl cu nx N b B ∧ (F wi 7 = none ∧ F dr 2 = none ∧ F dr 3 = none) ∧ F i0 2 = some (.int (bI k0)) ∧ F i1 2 = some (.int (bI k1)) ∧ (k0 = true → LG F l0 w0 N b B ∧ F i0 1 = some (.int s0)) ∧ (k1 = true → LG F l1 w1 N b B ∧ F i1 1 = some (.int s1)) ∧ F xa 8 = some (.int sd)
def QQ (τ : ty_T) (F : Nat → Nat → Option Value) (xa tx la nu tr dr wi ga im i0 i1 l0 l1 w0 w1 nw wn pa lz : Nat) (lk wl : Nat → Nat) (y : Int32) (c : Nat) (T : Nat → Int32) (k0 k1 : Bool) (cu nx N : Nat) (b : Bool) (B : Nat) (sd s0 s1 : Int32) : Prop := PF τ F xa tx la nu tr dr wi ga c T ∧ SUP τ F ∧ F xa 7 = some (.int y) ∧ RQ τ F xa wi dr im i0 i1 l0 l1 w0 w1 nw wn pa lz lk wl ∧ VQ F xa wi dr i0 i1 l0 l1 w0 w1 nw wn pa lk wl k0 k1 cu nx N b B sd s0 s1
/-- told, a bound of the ticks after so many calls, the seeds -/
def SK (K : KT) (b : Bool) (ic : Nat) : Prop := tK K = bN b ∧ bK K ≤ 50 * ic ∧ 0 ≤ (K.2.2.2.2 1002).toInt ∧ 0 ≤ (K.2.2.2.2 1003).toInt ∧ 0 ≤ (K.2.2.2.2 1004).toInt
def LJ (D : va_G) (cy : Nat → ClassId) (s : State) (xa ma ic : Nat) (H : Heap) (locs : List Loc) : Prop :=
  ∃ (τ τm : ty_T) (F : Nat → Nat → Option Value) (tx la nu tr dr wi ga im i0 i1 l0 l1 w0 w1 nw wn pa lz : Nat) (lk wl : Nat → Nat) (y : Int32) (K : KT) (P N u : Nat) (k0 k1 : Bool) (cu nx : Nat) (b : Bool), TG D cy τ (pv F (cn Mx τ)) (fun q => s.heap.size ≤ q) s.heap H locs ∧ TG D cy τm (cn (MM K P N u k0 k1) τm) (fun q => s.heap.size ≤ q) s.heap H locs ∧ OKG K P N u ∧ UQ τm ∧ QQ τ F xa tx la nu tr dr wi ga im i0 i1 l0 l1 w0 w1 nw wn pa lz lk wl y K.1 K.2.2.2.2 k0 k1 cu nx N b (bK K) (K.2.2.2.2 1002) (K.2.2.2.2 1003) (K.2.2.2.2 1004) ∧ y.toInt = K.2.1 ∧ BY K ∧ τm ma = some (0, 10) ∧ DJ τ τm ∧ (∀ a n, τ a = some (1, n) → n < 2147483648) ∧ SK K b ic
section LAW3
variable {τ τm : ty_T} {xa tx la nu tr dr wi ga c : Nat} {T : Nat → Int32} {S : List Nat} {D : va_G} {cy : Nat → ClassId} {A : Nat → Prop} {H0 H : Heap} {locs : List Loc} {F : Nat → Nat → Option Value} {ρ : ty_R}
theorem AGR.rf {S : List Nat} : AGR S τ F F := fun _ _ _ _ _ => rfl
theorem AGR.ad {S : List Nat} {F1 : Nat → Nat → Option Value} {b j : Nat} {x : Value} {t0 : ty_C} (h : AGR S τ F F1) (hb : τ b = some t0) (hc : ty_cd t0 j ∉ S) : AGR S τ F (fu F1 b j x) := fun a t i ha hn => by
  rw [fu_ne (fun z => by obtain ⟨rfl, rfl⟩ := z; rw [hb] at ha; cases ha; exact hc hn)]
  exact h a t i ha hn
theorem AGR.gd {S : List Nat} {F1 : Nat → Nat → Option Value} {nw wn g : Nat} {bb : Bool} (h : AGR S τ F F1) (hc : 807 ∉ S ∧ 302 ∉ S ∧ 303 ∉ S) : AGR S τ F (gdF τ F1 nw wn g bb) := fun a t i ha hn => by
  rw [gd_o (fun z => by obtain ⟨z, rfl⟩ := z; rw [ha] at z; cases z; exact hc.1 hn) (fun z => by
    obtain ⟨z, e⟩ := z
    rw [ha] at z
    cases z
    rcases e with rfl | rfl
    · exact hc.2.1 hn
    · exact hc.2.2 hn)]
  exact h a t i ha hn
theorem AGR.sub {S S2 : List Nat} {F1 : Nat → Nat → Option Value} (h : AGR S τ F F1) (hs : ∀ n ∈ S2, n ∈ S) : AGR S2 τ F F1 := fun a t j ha hn => h a t j ha (hs _ hn)
/-- all codes but the text's own, the numbers alone, all but these -/
def QT : List Nat := [901, 903, 300, 400, 6003, 906, 6004, 200, 807, 302, 303, 401, 402, 202, 201, 908]
def VC : List Nat := [401, 402, 202, 201]
def LC : List Nat := [807, 302, 303]
def QS : List Nat := [901, 903, 300, 301, 400, 6003, 906, 6004, 200, 900, 902, 700, 600, 601, 602, 6008, 907]
theorem DJ.up {t : ty_T} (h : DJ τ τm) (hn : ∀ a, t a ≠ none → (τ a ≠ none ∨ H.size ≤ a)) (hl : ∀ a, τm a ≠ none → a < H.size) : DJ t τm := fun a => by
  cases e : t a with
  | none => exact Or.inl rfl
  | some y =>
    right
    rcases hn a (by rw [e]; intro z; cases z) with z | z
    · exact (h a).resolve_left z
    · cases e2 : τm a with
      | none => rfl
      | some w => exact absurd (hl a (by rw [e2]; intro z; cases z)) (Nat.not_lt.mpr z)
theorem feed_ok {K : KT} {P N u : Nat} {x : Int32} (ok : OKG K P N u) : OKG (feedS K x) P N u := by
  by_cases h : (x.toInt < 0 ∨ 255 < x.toInt) ∨ K.1 = 240
  · rw [feedS_n h]
    exact ok
  · rw [feedS_y h]
    have := ok.1.2.1
    exact ⟨⟨ok.1.1, (show K.1 + 1 ≤ 240 by omega), ok.1.2.2⟩, ok.2⟩
theorem sup_PO (h : SUP τ F) : PO τ (pf F) := by
  refine ⟨fun a t j x ha hc y hy => ?_, fun a v ha y hy => ?_, fun a j v ha y hy => ?_⟩
  · rw [h.2 a t j ha ((by decide : ∀ n ∈ SG, n ∉ PC) _ hc)] at hy; cases hy
  · rw [h.2 a _ 3 ha (by decide)] at hy; cases hy
  · rw [h.1 a j ha] at hy; cases hy
theorem sup_up {M : md_T} {π : ty_R} {t : ty_T} {r : ty_R} (h : SUP τ F) (hu : GP M π τ (t, r)) : SUP t F := by
  refine ⟨fun a j ha => h.1 a j ?_, fun a x j ha hc => ?_⟩
  · cases e : τ a with
    | none => rfl
    | some y => have z : t a = some y := hu.1 a y e; rw [ha] at z; cases z
  · cases e : τ a with
    | none => exact h.1 a j e
    | some y => have z : t a = some y := hu.1 a y e; rw [z] at ha; cases ha; exact h.2 a x j e hc
theorem pf_up {M : md_T} {π : ty_R} {t : ty_T} {r : ty_R} (h : PF τ F xa tx la nu tr dr wi ga c T) (hu : GP M π τ (t, r)) : PF t F xa tx la nu tr dr wi ga c T := by
  obtain ⟨h1, h2, h3, h4, h5, h6, h7, h8, h9⟩ := h
  exact ⟨hu.1 _ _ h1, hu.1 _ _ h2, hu.1 _ _ h3, hu.1 _ _ h4, hu.1 _ _ h5, hu.1 _ _ h6, hu.1 _ _ h7, hu.1 _ _ h8, h9⟩
/-- a pin at the text's count, the letters, the fault: the rest stays -/
theorem pf_fu {b j : Nat} {x : Value} {c2 : Nat} {T2 : Nat → Int32} (h : PF τ F xa tx la nu tr dr wi ga c T) (hb : (b = tx ∧ j = 2) ∨ b = la ∨ (b = xa ∧ j = 7)) (hT : TE (fu F b j x) tx la nu c2 T2) : PF τ (fu F b j x) xa tx la nu tr dr wi ga c2 T2 := by
  obtain ⟨h1, h2, h3, h4, h5, h6, h7, h8, p1, p2, p3, p4, p5, p6⟩ := h
  have ne : ∀ {a b : Nat} {ta tb : ty_C}, τ a = some ta → τ b = some tb → ta ≠ tb → a ≠ b := fun h1 h2 h3 e => h3 (by rw [e, h2] at h1; cases h1; rfl)
  refine ⟨h1, h2, h3, h4, h5, h6, h7, h8, ?_, ?_, ?_, ?_, ?_, hT⟩
  · rw [fu_ne (fun z => ?_)]
    · exact p1
    · rcases hb with w | w | w
      · exact ne h1 h2 (by decide) (z.1.trans w.1)
      · exact ne h1 h3 (by decide) (z.1.trans w)
      · have := z.2; have := w.2; omega
  · rw [fu_ne (fun z => ?_)]
    · exact p2
    · rcases hb with w | w | w
      · exact ne h1 h2 (by decide) (z.1.trans w.1)
      · exact ne h1 h3 (by decide) (z.1.trans w)
      · have := z.2; have := w.2; omega
  · rw [fu_b (fun z => ?_)]
    · exact p3
    · rcases hb with w | w | w
      · exact ne h5 h2 (by decide) (z.trans w.1)
      · exact ne h5 h3 (by decide) (z.trans w)
      · exact ne h5 h1 (by decide) (z.trans w.1)
  · rw [fu_b (fun z => ?_)]
    · exact p4
    · rcases hb with w | w | w
      · exact ne h6 h2 (by decide) (z.trans w.1)
      · exact ne h6 h3 (by decide) (z.trans w)
      · exact ne h6 h1 (by decide) (z.trans w.1)
  · rw [fu_b (fun z => ?_)]
    · exact p5
    · rcases hb with w | w | w
      · exact ne h6 h2 (by decide) (z.trans w.1)
      · exact ne h6 h3 (by decide) (z.trans w)
      · exact ne h6 h1 (by decide) (z.trans w.1)
theorem rP_pv {b j : Nat} {x : Value} (hx : ρ b j x) : ∀ a i v, rP (pv F ρ) b j x a i v → pv (fu F b j x) ρ a i v := fun a i v h => by
  by_cases e : a = b ∧ i = j
  · obtain ⟨rfl, rfl⟩ := e
    have := rP_at h
    subst this
    exact pv_new hx
  · have h := rP_ne e h
    exact ⟨h.1, fun y hy => h.2 y (by rw [fu_ne e] at hy; exact hy)⟩
theorem law_feed {K : KT} {x : Int32} {u : ty_R} {y : Int32} (hp : PF τ F xa tx la nu tr dr wi ga K.1 K.2.2.2.2) (hs : SUP τ F) (hy : F xa 7 = some (.int y)) (hB : BY K) (hk : K.1 ≤ 240) (q1 : ((x.toInt < 0 ∨ 255 < x.toInt) ∨ (nI K.1).toInt = 240) → u = pv F (cn Mx τ)) (q2 : ¬ ((x.toInt < 0 ∨ 255 < x.toInt) ∨ (nI K.1).toInt = 240) → u = rP (rP (pv F (cn Mx τ)) la (nI K.1).toNatClampNeg (.int x)) tx 2 (.int (nI K.1 + 1))) (hG : TG D cy τ u A H0 H locs) : ∃ F2, TG D cy τ (pv F2 (cn Mx τ)) A H0 H locs ∧ PF τ F2 xa tx la nu tr dr wi ga (feedS K x).1 (feedS K x).2.2.2.2 ∧ SUP τ F2 ∧ F2 xa 7 = some (.int y) ∧ BY (feedS K x) ∧ AGR QT τ F F2 := by
  have ec : (nI K.1).toInt = (K.1 : Int) := cI_nI (by omega)
  obtain ⟨hxa, htx, hla, hnu, htr, hdr, hwi, hga, p1, p2, p3, p4, p5, hT⟩ := id hp
  by_cases h : (x.toInt < 0 ∨ 255 < x.toInt) ∨ K.1 = 240
  · rw [feedS_n h]
    rw [q1 (by omega)] at hG
    exact ⟨F, hG, hp, hs, hy, hB, AGR.rf⟩
  · rw [feedS_y h]
    rw [q2 (by omega)] at hG
    have ei : (nI K.1).toNatClampNeg = K.1 := nI_clamp (by omega)
    have n1 : tx ≠ la := fun z => by rw [z, hla] at htx; cases htx
    have n2 : xa ≠ la := fun z => by rw [z, hla] at hxa; cases hxa
    have n3 : xa ≠ tx := fun z => by rw [z, htx] at hxa; cases hxa
    rw [ei, nI_1] at hG
    have i1 : ∀ y : Int32, cn Mx τ la K.1 (.int y) := fun y => cn_F (S := [6008]) la _ K.1 y hla (by show 6008 ∈ [6008]; decide) (ty_rno rfl)
    have i2 : ∀ y : Int32, cn Mx τ tx 2 (.int y) := fun y => cn_F (S := [602]) tx _ 2 y htx (by show 602 ∈ [602]; decide) (ty_rno rfl)
    refine ⟨fu (fu F la K.1 (.int x)) tx 2 (.int (nI (K.1 + 1))), hG.mono (fun a t j v _ hv => ?_), ?_, sup_fu (sup_fu hs hla (by show 6008 ∈ PC; decide)) htx (by decide), by rw [fu_b n3, fu_b n2]; exact hy, fun j hj => ?_, (AGR.rf.ad hla (by show 6008 ∉ QT; decide)).ad htx (by decide)⟩
    · refine rP_pv (i2 _) a j v ?_
      unfold rP at hv ⊢
      by_cases e : a = tx ∧ j = 2
      · rw [if_pos e] at hv ⊢; exact hv
      · rw [if_neg e] at hv ⊢
        exact rP_pv (i1 _) a j v (by unfold rP; exact hv)
    · have t1 : TE (fu F la K.1 (.int x)) tx la nu K.1 K.2.2.2.2 := ⟨by rw [fu_b n1]; exact hT.1, by rw [fu_b n1]; exact hT.2.1, by rw [fu_b n1]; exact hT.2.2.1, fun j hj => by rw [fu_j (by omega)]; exact hT.2.2.2 j hj⟩
      refine pf_fu (pf_fu hp (Or.inr (Or.inl rfl)) t1) (Or.inl ⟨rfl, rfl⟩) ⟨?_, ?_, fu_at, fun j hj => ?_⟩
      · rw [fu_j (by decide)]; exact t1.1
      · rw [fu_j (by decide)]; exact t1.2.1
      · have hj : j < K.1 + 1 := hj
        show fu _ tx 2 _ la j = some (.int (if j = K.1 then x else K.2.2.2.2 j))
        rw [fu_b (Ne.symm n1)]
        by_cases e : j = K.1
        · subst e
          rw [fu_at, if_pos rfl]
        · rw [fu_j e, if_neg e]
          exact hT.2.2.2 j (by omega)
    · have hj : j < K.1 + 1 := hj
      show 0 ≤ (if j = K.1 then x else K.2.2.2.2 j).toInt ∧ (if j = K.1 then x else K.2.2.2.2 j).toInt ≤ 255
      by_cases e : j = K.1
      · rw [if_pos e]; omega
      · rw [if_neg e]; exact hB j (by omega)
theorem law_line {x : Int32} (hp : PF τ F xa tx la nu tr dr wi ga c T) (hs : SUP τ F) : PF τ (fu (fu F tx 2 (.int 0)) xa 7 (.int x)) xa tx la nu tr dr wi ga 0 T ∧ SUP τ (fu (fu F tx 2 (.int 0)) xa 7 (.int x)) ∧ fu (fu F tx 2 (.int 0)) xa 7 (.int x) xa 7 = some (.int x) := by
  obtain ⟨hxa, htx, hla, hnu, htr, hdr, hwi, hga, p1, p2, p3, p4, p5, hT⟩ := id hp
  have n3 : tx ≠ xa := fun z => by rw [z, hxa] at htx; cases htx
  have t1 : TE (fu F tx 2 (.int 0)) tx la nu 0 T := ⟨by rw [fu_j (by decide)]; exact hT.1, by rw [fu_j (by decide)]; exact hT.2.1, by rw [fu_at, nI_0], fun j hj => absurd hj (Nat.not_lt_zero _)⟩
  refine ⟨pf_fu (pf_fu hp (Or.inl ⟨rfl, rfl⟩) t1) (Or.inr (Or.inr ⟨rfl, rfl⟩)) ⟨by rw [fu_b n3]; exact t1.1, by rw [fu_b n3]; exact t1.2.1, by rw [fu_b n3]; exact t1.2.2.1, fun j hj => absurd hj (Nat.not_lt_zero _)⟩, sup_fu (sup_fu hs htx (by decide)) hxa (by decide), fu_at⟩
def kB (k0 k1 : Bool) (x : Int) : Bool := if x = 0 then k0 else k1
theorem lnG_2 {i0 i1 : Nat} : lnG F i0 i1 2 = fu (fu F i0 2 (.int (bI false))) i1 2 (.int (bI false)) := rfl
theorem pf_ex {F' : Nat → Nat → Option Value} (h : PF τ F xa tx la nu tr dr wi ga c T) (he : AGR PFC τ F F') : PF τ F' xa tx la nu tr dr wi ga c T := by
  obtain ⟨h1, h2, h3, h4, h5, h6, h7, h8, p1, p2, p3, p4, p5, p6⟩ := h
  exact ⟨h1, h2, h3, h4, h5, h6, h7, h8, (he _ _ 0 h1 (by decide)).trans p1, (he _ _ 2 h1 (by decide)).trans p2, (he _ _ 0 h5 (by decide)).trans p3, (he _ _ 0 h6 (by decide)).trans p4, (he _ _ 1 h6 (by decide)).trans p5, (he _ _ 0 h2 (by decide)).trans p6.1, (he _ _ 1 h2 (by decide)).trans p6.2.1, (he _ _ 2 h2 (by decide)).trans p6.2.2.1, fun i hi => (he _ _ i h3 (by show 6008 ∈ PFC; decide)).trans (p6.2.2.2 i hi)⟩
section QQL
variable {im i0 i1 l0 l1 w0 w1 nw wn pa lz : Nat} {lk wl : Nat → Nat} {y : Int32} {k0 k1 : Bool} {cu nx N B B' : Nat} {b : Bool} {sd s0 s1 : Int32}
/-- what a copy of a line writes -/
theorem pin_7 {l w z : Nat} : pinL F l w N b z w 7 = some (.int (nI N)) := by unfold pinL; rw [fu_j (by decide), fu_j (by decide), fu_at]
theorem pin_2 {l w z : Nat} : pinL F l w N b z l 2 = some (.int (bI b)) := by unfold pinL; rw [fu_j (by decide), fu_at]
theorem pin_3 {l w z : Nat} : pinL F l w N b z l 3 = some (.int (nI z)) := by unfold pinL; rw [fu_at]
theorem pin_w {l w z a : Nat} (h : a ≠ w) : pinL F l w N b z a 7 = F a 7 := by unfold pinL; rw [fu_j (by decide), fu_j (by decide), fu_b h]
theorem pin_l2 {l w z a : Nat} (h : a ≠ l) : pinL F l w N b z a 2 = F a 2 := by unfold pinL; rw [fu_j (by decide), fu_b h, fu_j (by decide)]
theorem pin_l3 {l w z a : Nat} (h : a ≠ l) : pinL F l w N b z a 3 = F a 3 := by unfold pinL; rw [fu_b h, fu_j (by decide), fu_j (by decide)]
theorem pin_o {l w z a j : Nat} (h : a ≠ l) (h2 : a ≠ w) : pinL F l w N b z a j = F a j := by unfold pinL; rw [fu_b h, fu_b h, fu_b h2]
theorem fu_cm {f : Nat → Nat → Option Value} {a i c j : Nat} {x y : Value} (h : a ≠ c) : fu (fu f a i x) c j y = fu (fu f c j y) a i x := by
  funext d m
  by_cases e1 : d = a ∧ m = i
  · obtain ⟨rfl, rfl⟩ := e1
    rw [fu_at, fu_b h, fu_at]
  · rw [fu_ne e1]
    by_cases e2 : d = c ∧ m = j
    · obtain ⟨rfl, rfl⟩ := e2
      rw [fu_at, fu_at]
    · rw [fu_ne e2, fu_ne e2, fu_ne e1]
theorem pin_fu {l w z a j : Nat} {x : Value} (h : a ≠ l) (h2 : a ≠ w) : pinL (fu F a j x) l w N b z = fu (pinL F l w N b z) a j x := by
  unfold pinL
  rw [fu_cm h2, fu_cm h, fu_cm h]
/-- lines that count stay lines that count -/
def LKp (τ : ty_T) (F F' : Nat → Nat → Option Value) (N : Nat) (b : Bool) (B B' : Nat) : Prop := (∀ w, τ w = some (0, 8) → F w 7 = some (.int (nI N)) → F' w 7 = some (.int (nI N))) ∧ (∀ l, τ l = some (0, 3) → F l 2 = some (.int (bI b)) → F' l 2 = some (.int (bI b))) ∧ ∀ l z, τ l = some (0, 3) → z ≤ B → F l 3 = some (.int (nI z)) → ∃ y, y ≤ B' ∧ F' l 3 = some (.int (nI y))
theorem LKp.rf (hB : B ≤ B') : LKp τ F F N b B B' := ⟨fun _ _ h => h, fun _ _ h => h, fun _ z _ hz h => ⟨z, Nat.le_trans hz hB, h⟩⟩
theorem LKp.ad {F1 : Nat → Nat → Option Value} {a j : Nat} {x : Value} {t0 : ty_C} (L : LKp τ F F1 N b B B') (ha : τ a = some t0) (hc : ty_cd t0 j ∉ LC) : LKp τ F (fu F1 a j x) N b B B' := by
  have q : ∀ c t i, τ c = some t → ty_cd t i ∈ LC → fu F1 a j x c i = F1 c i := fun c t i h1 h2 => fu_ne (fun z => by obtain ⟨rfl, rfl⟩ := z; rw [ha] at h1; cases h1; exact hc h2)
  refine ⟨fun w h1 h2 => (q w _ 7 h1 (by decide)).trans (L.1 w h1 h2), fun l h1 h2 => (q l _ 2 h1 (by decide)).trans (L.2.1 l h1 h2), fun l z h1 h2 h3 => ?_⟩
  obtain ⟨y, g1, g2⟩ := L.2.2 l z h1 h2 h3
  exact ⟨y, g1, (q l _ 3 h1 (by decide)).trans g2⟩
theorem LKp.ag {F' : Nat → Nat → Option Value} (he : AGR LC τ F F') (hB : B ≤ B') : LKp τ F F' N b B B' := ⟨fun w h1 h2 => (he w _ 7 h1 (by decide)).trans h2, fun l h1 h2 => (he l _ 2 h1 (by decide)).trans h2, fun l z h1 h2 h3 => ⟨z, Nat.le_trans h2 hB, (he l _ 3 h1 (by decide)).trans h3⟩⟩
theorem LKp.pin {F1 : Nat → Nat → Option Value} {l' w' z : Nat} (L : LKp τ F F1 N b B B') (hz : z ≤ B') : LKp τ F (pinL F1 l' w' N b z) N b B B' := by
  refine ⟨fun w h1 h2 => ?_, fun l h1 h2 => ?_, fun l y h1 h2 h3 => ?_⟩
  · by_cases e : w = w'
    · rw [e]; exact pin_7
    · rw [pin_w e]; exact L.1 w h1 h2
  · by_cases e : l = l'
    · rw [e]; exact pin_2
    · rw [pin_l2 e]; exact L.2.1 l h1 h2
  · by_cases e : l = l'
    · rw [e]; exact ⟨z, hz, pin_3⟩
    · rw [pin_l3 e]; exact L.2.2 l y h1 h2 h3
theorem LKp.tk {F1 : Nat → Nat → Option Value} {a z : Nat} (L : LKp τ F F1 N b B B') (hz : z ≤ B') : LKp τ F (fu F1 a 3 (.int (nI z))) N b B B' := by
  refine ⟨fun w h1 h2 => (fu_j (by decide)).trans (L.1 w h1 h2), fun l h1 h2 => (fu_j (by decide)).trans (L.2.1 l h1 h2), fun l y h1 h2 h3 => ?_⟩
  by_cases e : l = a
  · rw [e]; exact ⟨z, hz, fu_at⟩
  · rw [fu_b e]; exact L.2.2 l y h1 h2 h3
theorem LG.ls {F' : Nat → Nat → Option Value} {l w : Nat} (L : LKp τ F F' N b B B') (hl : τ l = some (0, 3)) (hw : τ w = some (0, 8)) (h : LG F l w N b B) : LG F' l w N b B' := by
  obtain ⟨h1, h2, z, h3, h4⟩ := h
  obtain ⟨y, g1, g2⟩ := L.2.2 l z hl h3 h4
  exact ⟨L.1 w hw h1, L.2.1 l hl h2, y, g1, g2⟩
theorem rq_ex {F' : Nat → Nat → Option Value} (hr : RQ τ F xa wi dr im i0 i1 l0 l1 w0 w1 nw wn pa lz lk wl) (he : AGR RC τ F F') : RQ τ F' xa wi dr im i0 i1 l0 l1 w0 w1 nw wn pa lz lk wl := by
  obtain ⟨⟨a1, a2, a3, a4, a5, a6, a7, a8, a9, a10⟩, ⟨b1, b2, b3, b4, b5, b6, b7⟩, ⟨c1, c2, c3, c4, c5, c6, c7, c8⟩, ⟨e1, e2, e3, e4, e5, e6, e7⟩, hwi, hdr, hxa⟩ := id hr
  exact ⟨⟨a1, a2, a3, a4, a5, (he _ _ 1 hxa (by decide)).trans a6, (he _ _ 3 hxa (by decide)).trans a7, (he _ _ 0 a1 (by decide)).trans a8, (he _ _ 0 a3 (by decide)).trans a9, fun k hk => ⟨(he _ _ k a4 (by show 6003 ∈ RC; decide)).trans (a10 k hk).1, (he _ _ 0 (a5 k hk).1 (by decide)).trans (a10 k hk).2⟩⟩, ⟨b1, b2, b3, b4, (he _ _ 6 hxa (by decide)).trans b5, (he _ _ 0 b1 (by decide)).trans b6, (he _ _ 1 b1 (by decide)).trans b7⟩, ⟨c1, c2, c3, c4, (he _ _ 0 b2 (by decide)).trans c5, (he _ _ 0 b3 (by decide)).trans c6, (he _ _ 0 c1 (by decide)).trans c7, (he _ _ 0 c2 (by decide)).trans c8⟩, ⟨e1, e2, e3, e4, e5, e6, e7⟩, hwi, hdr, hxa⟩
theorem rq_up {M : md_T} {π : ty_R} {t : ty_T} {r : ty_R} (hr : RQ τ F xa wi dr im i0 i1 l0 l1 w0 w1 nw wn pa lz lk wl) (hu : GP M π τ (t, r)) : RQ t F xa wi dr im i0 i1 l0 l1 w0 w1 nw wn pa lz lk wl := by
  obtain ⟨⟨a1, a2, a3, a4, a5, a6, a7, a8, a9, a10⟩, ⟨b1, b2, b3, b4, b5, b6, b7⟩, ⟨c1, c2, c3, c4, c5, c6, c7, c8⟩, ⟨e1, e2, e3, e4, e5, e6, e7⟩, hwi, hdr, hxa⟩ := id hr
  exact ⟨⟨hu.1 _ _ a1, hu.1 _ _ a2, hu.1 _ _ a3, hu.1 _ _ a4, fun k hk => ⟨hu.1 _ _ (a5 k hk).1, hu.1 _ _ (a5 k hk).2⟩, a6, a7, a8, a9, a10⟩, ⟨hu.1 _ _ b1, hu.1 _ _ b2, hu.1 _ _ b3, b4, b5, b6, b7⟩, ⟨hu.1 _ _ c1, hu.1 _ _ c2, hu.1 _ _ c3, hu.1 _ _ c4, c5, c6, c7, c8⟩, ⟨e1, e2, e3, e4, e5, e6, e7⟩, hu.1 _ _ hwi, hu.1 _ _ hdr, hu.1 _ _ hxa⟩
/-- the counts and the images stay -/
theorem vq_1 {F' : Nat → Nat → Option Value} {sd2 : Int32} (hr : RQ τ F xa wi dr im i0 i1 l0 l1 w0 w1 nw wn pa lz lk wl) (hv : VQ F xa wi dr i0 i1 l0 l1 w0 w1 nw wn pa lk wl k0 k1 cu nx N b B sd s0 s1) (L : LKp τ F F' N b B B') (he : AGR VC τ F F') (hn : F' wi 7 = none ∧ F' dr 2 = none ∧ F' dr 3 = none) (h8 : F' xa 8 = some (.int sd2)) : VQ F' xa wi dr i0 i1 l0 l1 w0 w1 nw wn pa lk wl k0 k1 cu nx N b B' sd2 s0 s1 := by
  obtain ⟨⟨a1, a2, a3, a4, a5, a6, a7, a8, a9, a10⟩, ⟨b1, b2, b3, b4, b5, b6, b7⟩, ⟨c1, c2, c3, c4, c5, c6, c7, c8⟩, ⟨e1, e2, e3, e4, e5, e6, e7⟩, hwi, hdr, hxa⟩ := id hr
  obtain ⟨⟨v1, v2, v3, v4, v5, v6, v7⟩, ⟨w1, w2, w3⟩, w4, w5, w6, w7, w8⟩ := id hv
  exact ⟨⟨v1, v2, v3, (he _ _ 1 a3 (by decide)).trans v4, (he _ _ 2 a3 (by decide)).trans v5, LG.ls L a1 a2 v6, fun k q1 q2 => LG.ls L (a5 _ (Nat.mod_lt _ (by decide))).1 (a5 _ (Nat.mod_lt _ (by decide))).2 (v7 k q1 q2)⟩, hn, (he _ _ 2 b2 (by decide)).trans w4, (he _ _ 2 b3 (by decide)).trans w5, fun q => ⟨LG.ls L c1 c3 (w6 q).1, (he _ _ 1 b2 (by decide)).trans (w6 q).2⟩, fun q => ⟨LG.ls L c2 c4 (w7 q).1, (he _ _ 1 b3 (by decide)).trans (w7 q).2⟩, h8⟩
theorem qq_up {M : md_T} {π : ty_R} {t : ty_T} {r : ty_R} (h : QQ τ F xa tx la nu tr dr wi ga im i0 i1 l0 l1 w0 w1 nw wn pa lz lk wl y c T k0 k1 cu nx N b B sd s0 s1) (hu : GP M π τ (t, r)) : QQ t F xa tx la nu tr dr wi ga im i0 i1 l0 l1 w0 w1 nw wn pa lz lk wl y c T k0 k1 cu nx N b B sd s0 s1 := ⟨pf_up h.1 hu, sup_up h.2.1 hu, h.2.2.1, rq_up h.2.2.2.1 hu, h.2.2.2.2⟩
/-- the text's own codes alone are other ones -/
theorem qq_tx {F' : Nat → Nat → Option Value} {y2 : Int32} {c2 : Nat} {T2 : Nat → Int32} (h : QQ τ F xa tx la nu tr dr wi ga im i0 i1 l0 l1 w0 w1 nw wn pa lz lk wl y c T k0 k1 cu nx N b B sd s0 s1) (he : AGR QT τ F F') (hp : PF τ F' xa tx la nu tr dr wi ga c2 T2) (hs : SUP τ F') (hy : F' xa 7 = some (.int y2)) : QQ τ F' xa tx la nu tr dr wi ga im i0 i1 l0 l1 w0 w1 nw wn pa lz lk wl y2 c2 T2 k0 k1 cu nx N b B sd s0 s1 := by
  have hr := h.2.2.2.1
  have hv := h.2.2.2.2
  obtain ⟨⟨a1, a2, a3, a4, a5, a6, a7, a8, a9, a10⟩, ⟨b1, b2, b3, b4, b5, b6, b7⟩, ⟨c1, c2, c3, c4, c5, c6, c7, c8⟩, ⟨e1, e2, e3, e4, e5, e6, e7⟩, hwi, hdr, hxa⟩ := id hr
  obtain ⟨⟨v1, v2, v3, v4, v5, v6, v7⟩, ⟨w1, w2, w3⟩, w4, w5, w6, w7, w8⟩ := id hv
  exact ⟨hp, hs, hy, rq_ex hr (he.sub (by decide)), vq_1 hr hv (LKp.ag (he.sub (by decide)) (Nat.le_refl _)) (he.sub (by decide)) ⟨(he _ _ 7 hwi (by decide)).trans w1, (he _ _ 2 hdr (by decide)).trans w2, (he _ _ 3 hdr (by decide)).trans w3⟩ ((he _ _ 8 hxa (by decide)).trans w8)⟩
/-- the text stays -/
theorem qq_st {F' : Nat → Nat → Option Value} {k2 k3 : Bool} {cu2 nx2 N2 B2 : Nat} {b2 : Bool} {sd2 s2 s3 : Int32} (h : QQ τ F xa tx la nu tr dr wi ga im i0 i1 l0 l1 w0 w1 nw wn pa lz lk wl y c T k0 k1 cu nx N b B sd s0 s1) (he : AGR QS τ F F') (hs : SUP τ F') (hv : VQ F' xa wi dr i0 i1 l0 l1 w0 w1 nw wn pa lk wl k2 k3 cu2 nx2 N2 b2 B2 sd2 s2 s3) : QQ τ F' xa tx la nu tr dr wi ga im i0 i1 l0 l1 w0 w1 nw wn pa lz lk wl y c T k2 k3 cu2 nx2 N2 b2 B2 sd2 s2 s3 := ⟨pf_ex h.1 (he.sub (by decide)), hs, (he _ _ 7 h.1.1 (by decide)).trans h.2.2.1, rq_ex h.2.2.2.1 (he.sub (by decide)), hv⟩
theorem qq_B (hB : B ≤ B') (h : QQ τ F xa tx la nu tr dr wi ga im i0 i1 l0 l1 w0 w1 nw wn pa lz lk wl y c T k0 k1 cu nx N b B sd s0 s1) : QQ τ F xa tx la nu tr dr wi ga im i0 i1 l0 l1 w0 w1 nw wn pa lz lk wl y c T k0 k1 cu nx N b B' sd s0 s1 := qq_st h AGR.rf h.2.1 (vq_1 h.2.2.2.1 h.2.2.2.2 (LKp.rf hB) AGR.rf h.2.2.2.2.2.1 h.2.2.2.2.2.2.2.2.2.2)
theorem qq_pin {l' w' z : Nat} (h : QQ τ F xa tx la nu tr dr wi ga im i0 i1 l0 l1 w0 w1 nw wn pa lz lk wl y c T k0 k1 cu nx N b B sd s0 s1) (hl : τ l' = some (0, 3)) (hw : τ w' = some (0, 8)) (nl : l' ≠ dr) (nv : w' ≠ wi) (hz : z ≤ B) : QQ τ (pinL F l' w' N b z) xa tx la nu tr dr wi ga im i0 i1 l0 l1 w0 w1 nw wn pa lz lk wl y c T k0 k1 cu nx N b B sd s0 s1 := by
  have hr := h.2.2.2.1
  have hv := h.2.2.2.2
  obtain ⟨⟨a1, a2, a3, a4, a5, a6, a7, a8, a9, a10⟩, ⟨b1, b2, b3, b4, b5, b6, b7⟩, ⟨c1, c2, c3, c4, c5, c6, c7, c8⟩, ⟨e1, e2, e3, e4, e5, e6, e7⟩, hwi, hdr, hxa⟩ := id hr
  have ne : ∀ {a b : Nat} {ta tb : ty_C}, τ a = some ta → τ b = some tb → ta ≠ tb → a ≠ b := fun h1 h2 h3 e => h3 (by rw [e, h2] at h1; cases h1; rfl)
  obtain ⟨⟨v1, v2, v3, v4, v5, v6, v7⟩, ⟨w1, w2, w3⟩, w4, w5, w6, w7, w8⟩ := id hv
  exact qq_st h (((AGR.rf.ad hw (by decide)).ad hl (by decide)).ad hl (by decide)) (pin_sup h.2.1 hl hw) (vq_1 hr hv ((LKp.rf (Nat.le_refl _)).pin hz) (((AGR.rf.ad hw (by decide)).ad hl (by decide)).ad hl (by decide)) ⟨(pin_w (Ne.symm nv)).trans w1, (pin_l2 (Ne.symm nl)).trans w2, (pin_l3 (Ne.symm nl)).trans w3⟩ ((pin_o (ne hxa hl (by decide)) (ne hxa hw (by decide))).trans w8))
theorem qq_tk {z : Nat} (hz : z ≤ B') (hB : B ≤ B') (h : QQ τ F xa tx la nu tr dr wi ga im i0 i1 l0 l1 w0 w1 nw wn pa lz lk wl y c T k0 k1 cu nx N b B sd s0 s1) : QQ τ (fu F nw 3 (.int (nI z))) xa tx la nu tr dr wi ga im i0 i1 l0 l1 w0 w1 nw wn pa lz lk wl y c T k0 k1 cu nx N b B' sd s0 s1 := by
  have hr := h.2.2.2.1
  have hv := h.2.2.2.2
  obtain ⟨⟨a1, a2, a3, a4, a5, a6, a7, a8, a9, a10⟩, ⟨b1, b2, b3, b4, b5, b6, b7⟩, ⟨c1, c2, c3, c4, c5, c6, c7, c8⟩, ⟨e1, e2, e3, e4, e5, e6, e7⟩, hwi, hdr, hxa⟩ := id hr
  obtain ⟨⟨v1, v2, v3, v4, v5, v6, v7⟩, ⟨w1, w2, w3⟩, w4, w5, w6, w7, w8⟩ := id hv
  exact qq_st h (AGR.rf.ad a1 (by decide)) (sup_fu h.2.1 a1 (by decide)) (vq_1 hr hv ((LKp.rf hB).tk hz) (AGR.rf.ad a1 (by decide)) ⟨(fu_j (by decide)).trans w1, (fu_j (by decide)).trans w2, (fu_b (Ne.symm e1)).trans w3⟩ ((fu_j (by decide)).trans w8))
theorem qq_sd {v : Int32} (h : QQ τ F xa tx la nu tr dr wi ga im i0 i1 l0 l1 w0 w1 nw wn pa lz lk wl y c T k0 k1 cu nx N b B sd s0 s1) : QQ τ (fu F xa 8 (.int v)) xa tx la nu tr dr wi ga im i0 i1 l0 l1 w0 w1 nw wn pa lz lk wl y c T k0 k1 cu nx N b B v s0 s1 := by
  have hr := h.2.2.2.1
  have hv := h.2.2.2.2
  obtain ⟨⟨a1, a2, a3, a4, a5, a6, a7, a8, a9, a10⟩, ⟨b1, b2, b3, b4, b5, b6, b7⟩, ⟨c1, c2, c3, c4, c5, c6, c7, c8⟩, ⟨e1, e2, e3, e4, e5, e6, e7⟩, hwi, hdr, hxa⟩ := id hr
  obtain ⟨⟨v1, v2, v3, v4, v5, v6, v7⟩, ⟨w1, w2, w3⟩, w4, w5, w6, w7, w8⟩ := id hv
  exact qq_st h (AGR.rf.ad hxa (by decide)) (sup_fu h.2.1 hxa (by decide)) (vq_1 hr hv ((LKp.rf (Nat.le_refl _)).ad hxa (by decide)) (AGR.rf.ad hxa (by decide)) ⟨(fu_j (by decide)).trans w1, (fu_j (by decide)).trans w2, (fu_j (by decide)).trans w3⟩ fu_at)
/-- what can be undone: other counts -/
theorem qq_pp {cu2 nx2 : Nat} (h : QQ τ F xa tx la nu tr dr wi ga im i0 i1 l0 l1 w0 w1 nw wn pa lz lk wl y c T k0 k1 cu nx N b B sd s0 s1) (g1 : cu2 ≤ 12) (g2 : nx2 < 12) (hh : ∀ k, 1 ≤ k → k ≤ cu2 → LG F (lk ((nx2 + 12 - k) % 12)) (wl ((nx2 + 12 - k) % 12)) N b B) : QQ τ (fu (fu F pa 2 (.int (nI nx2))) pa 1 (.int (nI cu2))) xa tx la nu tr dr wi ga im i0 i1 l0 l1 w0 w1 nw wn pa lz lk wl y c T k0 k1 cu2 nx2 N b B sd s0 s1 := by
  have hr := h.2.2.2.1
  have hv := h.2.2.2.2
  obtain ⟨⟨a1, a2, a3, a4, a5, a6, a7, a8, a9, a10⟩, ⟨b1, b2, b3, b4, b5, b6, b7⟩, ⟨c1, c2, c3, c4, c5, c6, c7, c8⟩, ⟨e1, e2, e3, e4, e5, e6, e7⟩, hwi, hdr, hxa⟩ := id hr
  have ne : ∀ {a b : Nat} {ta tb : ty_C}, τ a = some ta → τ b = some tb → ta ≠ tb → a ≠ b := fun h1 h2 h3 e => h3 (by rw [e, h2] at h1; cases h1; rfl)
  obtain ⟨⟨v1, v2, v3, v4, v5, v6, v7⟩, ⟨w1, w2, w3⟩, w4, w5, w6, w7, w8⟩ := id hv
  have L : LKp τ F (fu (fu F pa 2 (.int (nI nx2))) pa 1 (.int (nI cu2))) N b B B := ((LKp.rf (Nat.le_refl _)).ad a3 (by decide)).ad a3 (by decide)
  have p : ∀ {a : Nat} {ta : ty_C} {j : Nat}, τ a = some ta → ta ≠ (0, 4) → fu (fu F pa 2 (.int (nI nx2))) pa 1 (.int (nI cu2)) a j = F a j := fun hh h2 => by rw [fu_b (ne hh a3 h2), fu_b (ne hh a3 h2)]
  exact qq_st h ((AGR.rf.ad a3 (by decide)).ad a3 (by decide)) (sup_fu (sup_fu h.2.1 a3 (by decide)) a3 (by decide)) ⟨⟨g1, g2, v3, fu_at, (fu_j (by decide)).trans fu_at, LG.ls L a1 a2 v6, fun k q1 q2 => LG.ls L (a5 _ (Nat.mod_lt _ (by decide))).1 (a5 _ (Nat.mod_lt _ (by decide))).2 (hh k q1 q2)⟩, ⟨(p hwi (by decide)).trans w1, (p hdr (by decide)).trans w2, (p hdr (by decide)).trans w3⟩, (p b2 (by decide)).trans w4, (p b3 (by decide)).trans w5, fun q => ⟨LG.ls L c1 c3 (w6 q).1, (p b2 (by decide)).trans (w6 q).2⟩, fun q => ⟨LG.ls L c2 c4 (w7 q).1, (p b3 (by decide)).trans (w7 q).2⟩, (p hxa (by decide)).trans w8⟩
theorem qq_p0 (h : QQ τ F xa tx la nu tr dr wi ga im i0 i1 l0 l1 w0 w1 nw wn pa lz lk wl y c T k0 k1 cu nx N b B sd s0 s1) : QQ τ (fu F pa 1 (.int (nI 0))) xa tx la nu tr dr wi ga im i0 i1 l0 l1 w0 w1 nw wn pa lz lk wl y c T k0 k1 0 nx N b B sd s0 s1 := by
  have hr := h.2.2.2.1
  have hv := h.2.2.2.2
  obtain ⟨⟨a1, a2, a3, a4, a5, a6, a7, a8, a9, a10⟩, ⟨b1, b2, b3, b4, b5, b6, b7⟩, ⟨c1, c2, c3, c4, c5, c6, c7, c8⟩, ⟨e1, e2, e3, e4, e5, e6, e7⟩, hwi, hdr, hxa⟩ := id hr
  have ne : ∀ {a b : Nat} {ta tb : ty_C}, τ a = some ta → τ b = some tb → ta ≠ tb → a ≠ b := fun h1 h2 h3 e => h3 (by rw [e, h2] at h1; cases h1; rfl)
  obtain ⟨⟨v1, v2, v3, v4, v5, v6, v7⟩, ⟨w1, w2, w3⟩, w4, w5, w6, w7, w8⟩ := id hv
  have L : LKp τ F (fu F pa 1 (.int (nI 0))) N b B B := (LKp.rf (Nat.le_refl _)).ad a3 (by decide)
  have p : ∀ {a : Nat} {ta : ty_C} {j : Nat}, τ a = some ta → ta ≠ (0, 4) → fu F pa 1 (.int (nI 0)) a j = F a j := fun hh h2 => fu_b (ne hh a3 h2)
  exact qq_st h (AGR.rf.ad a3 (by decide)) (sup_fu h.2.1 a3 (by decide)) ⟨⟨by omega, v2, v3, fu_at, (fu_j (by decide)).trans v5, LG.ls L a1 a2 v6, fun k q1 q2 => absurd q2 (by omega)⟩, ⟨(p hwi (by decide)).trans w1, (p hdr (by decide)).trans w2, (p hdr (by decide)).trans w3⟩, (p b2 (by decide)).trans w4, (p b3 (by decide)).trans w5, fun q => ⟨LG.ls L c1 c3 (w6 q).1, (p b2 (by decide)).trans (w6 q).2⟩, fun q => ⟨LG.ls L c2 c4 (w7 q).1, (p b3 (by decide)).trans (w7 q).2⟩, (p hxa (by decide)).trans w8⟩
theorem qq_i0 {s : Int32} (h : QQ τ F xa tx la nu tr dr wi ga im i0 i1 l0 l1 w0 w1 nw wn pa lz lk wl y c T k0 k1 cu nx N b B sd s0 s1) (hl : LG F l0 w0 N b B) : QQ τ (fu (fu F i0 1 (.int s)) i0 2 (.int (bI true))) xa tx la nu tr dr wi ga im i0 i1 l0 l1 w0 w1 nw wn pa lz lk wl y c T true k1 cu nx N b B sd s s1 := by
  have hr := h.2.2.2.1
  have hv := h.2.2.2.2
  obtain ⟨⟨a1, a2, a3, a4, a5, a6, a7, a8, a9, a10⟩, ⟨b1, b2, b3, b4, b5, b6, b7⟩, ⟨c1, c2, c3, c4, c5, c6, c7, c8⟩, ⟨e1, e2, e3, e4, e5, e6, e7⟩, hwi, hdr, hxa⟩ := id hr
  have ne : ∀ {a b : Nat} {ta tb : ty_C}, τ a = some ta → τ b = some tb → ta ≠ tb → a ≠ b := fun h1 h2 h3 e => h3 (by rw [e, h2] at h1; cases h1; rfl)
  obtain ⟨⟨v1, v2, v3, v4, v5, v6, v7⟩, ⟨w1, w2, w3⟩, w4, w5, w6, w7, w8⟩ := id hv
  have L : LKp τ F (fu (fu F i0 1 (.int s)) i0 2 (.int (bI true))) N b B B := ((LKp.rf (Nat.le_refl _)).ad b2 (by decide)).ad b2 (by decide)
  have p : ∀ {a j : Nat}, a ≠ i0 → fu (fu F i0 1 (.int s)) i0 2 (.int (bI true)) a j = F a j := fun hh => by rw [fu_b hh, fu_b hh]
  exact qq_st h ((AGR.rf.ad b2 (by decide)).ad b2 (by decide)) (sup_fu (sup_fu h.2.1 b2 (by decide)) b2 (by decide)) ⟨⟨v1, v2, v3, (p (ne a3 b2 (by decide))).trans v4, (p (ne a3 b2 (by decide))).trans v5, LG.ls L a1 a2 v6, fun k q1 q2 => LG.ls L (a5 _ (Nat.mod_lt _ (by decide))).1 (a5 _ (Nat.mod_lt _ (by decide))).2 (v7 k q1 q2)⟩, ⟨(p (ne hwi b2 (by decide))).trans w1, (p (ne hdr b2 (by decide))).trans w2, (p (ne hdr b2 (by decide))).trans w3⟩, fu_at, (p (Ne.symm b4)).trans w5, fun _ => ⟨LG.ls L c1 c3 hl, (fu_j (by decide)).trans fu_at⟩, fun q => ⟨LG.ls L c2 c4 (w7 q).1, (p (Ne.symm b4)).trans (w7 q).2⟩, (p (ne hxa b2 (by decide))).trans w8⟩
theorem qq_i1 {s : Int32} (h : QQ τ F xa tx la nu tr dr wi ga im i0 i1 l0 l1 w0 w1 nw wn pa lz lk wl y c T k0 k1 cu nx N b B sd s0 s1) (hl : LG F l1 w1 N b B) : QQ τ (fu (fu F i1 1 (.int s)) i1 2 (.int (bI true))) xa tx la nu tr dr wi ga im i0 i1 l0 l1 w0 w1 nw wn pa lz lk wl y c T k0 true cu nx N b B sd s0 s := by
  have hr := h.2.2.2.1
  have hv := h.2.2.2.2
  obtain ⟨⟨a1, a2, a3, a4, a5, a6, a7, a8, a9, a10⟩, ⟨b1, b2, b3, b4, b5, b6, b7⟩, ⟨c1, c2, c3, c4, c5, c6, c7, c8⟩, ⟨e1, e2, e3, e4, e5, e6, e7⟩, hwi, hdr, hxa⟩ := id hr
  have ne : ∀ {a b : Nat} {ta tb : ty_C}, τ a = some ta → τ b = some tb → ta ≠ tb → a ≠ b := fun h1 h2 h3 e => h3 (by rw [e, h2] at h1; cases h1; rfl)
  obtain ⟨⟨v1, v2, v3, v4, v5, v6, v7⟩, ⟨w1, w2, w3⟩, w4, w5, w6, w7, w8⟩ := id hv
  have L : LKp τ F (fu (fu F i1 1 (.int s)) i1 2 (.int (bI true))) N b B B := ((LKp.rf (Nat.le_refl _)).ad b3 (by decide)).ad b3 (by decide)
  have p : ∀ {a j : Nat}, a ≠ i1 → fu (fu F i1 1 (.int s)) i1 2 (.int (bI true)) a j = F a j := fun hh => by rw [fu_b hh, fu_b hh]
  exact qq_st h ((AGR.rf.ad b3 (by decide)).ad b3 (by decide)) (sup_fu (sup_fu h.2.1 b3 (by decide)) b3 (by decide)) ⟨⟨v1, v2, v3, (p (ne a3 b3 (by decide))).trans v4, (p (ne a3 b3 (by decide))).trans v5, LG.ls L a1 a2 v6, fun k q1 q2 => LG.ls L (a5 _ (Nat.mod_lt _ (by decide))).1 (a5 _ (Nat.mod_lt _ (by decide))).2 (v7 k q1 q2)⟩, ⟨(p (ne hwi b3 (by decide))).trans w1, (p (ne hdr b3 (by decide))).trans w2, (p (ne hdr b3 (by decide))).trans w3⟩, (p b4).trans w4, fu_at, fun q => ⟨LG.ls L c1 c3 (w6 q).1, (p b4).trans (w6 q).2⟩, fun _ => ⟨LG.ls L c2 c4 hl, (fu_j (by decide)).trans fu_at⟩, (p (ne hxa b3 (by decide))).trans w8⟩
theorem qq_rem {z : Nat} (hz : z ≤ B) (h : QQ τ F xa tx la nu tr dr wi ga im i0 i1 l0 l1 w0 w1 nw wn pa lz lk wl y c T k0 k1 cu nx N b B sd s0 s1) : QQ τ (remF F pa lk wl nx cu N b z) xa tx la nu tr dr wi ga im i0 i1 l0 l1 w0 w1 nw wn pa lz lk wl y c T k0 k1 (min 12 (cu + 1)) ((nx + 1) % 12) N b B sd s0 s1 := by
  have hr := h.2.2.2.1
  have hv := h.2.2.2.2
  obtain ⟨⟨a1, a2, a3, a4, a5, a6, a7, a8, a9, a10⟩, ⟨b1, b2, b3, b4, b5, b6, b7⟩, ⟨c1, c2, c3, c4, c5, c6, c7, c8⟩, ⟨e1, e2, e3, e4, e5, e6, e7⟩, hwi, hdr, hxa⟩ := id hr
  obtain ⟨⟨v1, v2, v3, v4, v5, v6, v7⟩, ⟨w1, w2, w3⟩, w4, w5, w6, w7, w8⟩ := id hv
  have q := qq_pin (z := z) h (a5 nx v2).1 (a5 nx v2).2 (e3 nx v2).1 (e3 nx v2).2 hz
  refine qq_pp q (by omega) (Nat.mod_lt _ (by decide)) (fun k q1 q2 => ?_)
  by_cases e : k = 1
  · rw [show ((nx + 1) % 12 + 12 - k) % 12 = nx by omega]
    exact ⟨pin_7, pin_2, z, hz, pin_3⟩
  · rw [show ((nx + 1) % 12 + 12 - k) % 12 = (nx + 12 - (k - 1)) % 12 by omega]
    exact LG.ls ((LKp.rf (Nat.le_refl _)).pin hz) (a5 _ (Nat.mod_lt _ (by decide))).1 (a5 _ (Nat.mod_lt _ (by decide))).2 (v7 (k - 1) (by omega) (by omega))
theorem qq_bb {k z : Nat} (k1' : 1 ≤ k) (k2' : k ≤ cu) (hz : z ≤ B) (h : QQ τ F xa tx la nu tr dr wi ga im i0 i1 l0 l1 w0 w1 nw wn pa lz lk wl y c T k0 k1 cu nx N b B sd s0 s1) : QQ τ (bbF F pa nw wn nx cu N b z k) xa tx la nu tr dr wi ga im i0 i1 l0 l1 w0 w1 nw wn pa lz lk wl y c T k0 k1 (cu - k) ((nx + 12 - k) % 12) N b B sd s0 s1 := by
  have hr := h.2.2.2.1
  have hv := h.2.2.2.2
  obtain ⟨⟨a1, a2, a3, a4, a5, a6, a7, a8, a9, a10⟩, ⟨b1, b2, b3, b4, b5, b6, b7⟩, ⟨c1, c2, c3, c4, c5, c6, c7, c8⟩, ⟨e1, e2, e3, e4, e5, e6, e7⟩, hwi, hdr, hxa⟩ := id hr
  have ne : ∀ {a b : Nat} {ta tb : ty_C}, τ a = some ta → τ b = some tb → ta ≠ tb → a ≠ b := fun h1 h2 h3 e => h3 (by rw [e, h2] at h1; cases h1; rfl)
  obtain ⟨⟨v1, v2, v3, v4, v5, v6, v7⟩, ⟨w1, w2, w3⟩, w4, w5, w6, w7, w8⟩ := id hv
  unfold bbF
  rw [pin_fu (ne a3 a1 (by decide)) (ne a3 a2 (by decide))]
  refine qq_pp (qq_pin (z := z) h a1 a2 e1 e2 hz) (by omega) (Nat.mod_lt _ (by decide)) (fun j q1 q2 => ?_)
  rw [show ((nx + 12 - k) % 12 + 12 - j) % 12 = (nx + 12 - (k + j)) % 12 by omega]
  exact LG.ls ((LKp.rf (Nat.le_refl _)).pin hz) (a5 _ (Nat.mod_lt _ (by decide))).1 (a5 _ (Nat.mod_lt _ (by decide))).2 (v7 (k + j) (by omega) (by omega))
theorem qq_kp0 {z : Nat} (hz : z ≤ B) (h : QQ τ F xa tx la nu tr dr wi ga im i0 i1 l0 l1 w0 w1 nw wn pa lz lk wl y c T k0 k1 cu nx N b B sd s0 s1) : QQ τ (kpF F l0 w0 i0 pa N b z sd) xa tx la nu tr dr wi ga im i0 i1 l0 l1 w0 w1 nw wn pa lz lk wl y c T true k1 0 nx N b B sd sd s1 := by
  have hr := h.2.2.2.1
  obtain ⟨⟨a1, a2, a3, a4, a5, a6, a7, a8, a9, a10⟩, ⟨b1, b2, b3, b4, b5, b6, b7⟩, ⟨c1, c2, c3, c4, c5, c6, c7, c8⟩, ⟨e1, e2, e3, e4, e5, e6, e7⟩, hwi, hdr, hxa⟩ := id hr
  exact qq_p0 (qq_i0 (qq_pin (z := z) h c1 c3 e4 e5 hz) ⟨pin_7, pin_2, z, hz, pin_3⟩)
theorem qq_kp1 {z : Nat} (hz : z ≤ B) (h : QQ τ F xa tx la nu tr dr wi ga im i0 i1 l0 l1 w0 w1 nw wn pa lz lk wl y c T k0 k1 cu nx N b B sd s0 s1) : QQ τ (kpF F l1 w1 i1 pa N b z sd) xa tx la nu tr dr wi ga im i0 i1 l0 l1 w0 w1 nw wn pa lz lk wl y c T k0 true 0 nx N b B sd s0 sd := by
  have hr := h.2.2.2.1
  obtain ⟨⟨a1, a2, a3, a4, a5, a6, a7, a8, a9, a10⟩, ⟨b1, b2, b3, b4, b5, b6, b7⟩, ⟨c1, c2, c3, c4, c5, c6, c7, c8⟩, ⟨e1, e2, e3, e4, e5, e6, e7⟩, hwi, hdr, hxa⟩ := id hr
  exact qq_p0 (qq_i1 (qq_pin (z := z) h c2 c4 e6 e7 hz) ⟨pin_7, pin_2, z, hz, pin_3⟩)
theorem qq_gb {z : Nat} {s : Int32} (hz : z ≤ B) (h : QQ τ F xa tx la nu tr dr wi ga im i0 i1 l0 l1 w0 w1 nw wn pa lz lk wl y c T k0 k1 cu nx N b B sd s0 s1) : QQ τ (gbF F xa nw wn pa N b z s) xa tx la nu tr dr wi ga im i0 i1 l0 l1 w0 w1 nw wn pa lz lk wl y c T k0 k1 0 nx N b B s s0 s1 := by
  have hr := h.2.2.2.1
  obtain ⟨⟨a1, a2, a3, a4, a5, a6, a7, a8, a9, a10⟩, ⟨b1, b2, b3, b4, b5, b6, b7⟩, ⟨c1, c2, c3, c4, c5, c6, c7, c8⟩, ⟨e1, e2, e3, e4, e5, e6, e7⟩, hwi, hdr, hxa⟩ := id hr
  exact qq_p0 (qq_sd (qq_pin (z := z) h a1 a2 e1 e2 hz))
theorem qq_tkF {z i : Nat} (hz : z ≤ B) (hi : z + i ≤ B') (hB : B ≤ B') (h : QQ τ F xa tx la nu tr dr wi ga im i0 i1 l0 l1 w0 w1 nw wn pa lz lk wl y c T k0 k1 cu nx N b B sd s0 s1) : QQ τ (tkF F pa nw lk wl nx cu N b z i) xa tx la nu tr dr wi ga im i0 i1 l0 l1 w0 w1 nw wn pa lz lk wl y c T k0 k1 (min 12 (cu + 1)) ((nx + 1) % 12) N b B' sd s0 s1 := qq_tk hi hB (qq_rem hz h)
theorem qq_df {z i : Nat} (hz : z ≤ B) (hi : z + i ≤ B') (hB : B ≤ B') (h : QQ τ F xa tx la nu tr dr wi ga im i0 i1 l0 l1 w0 w1 nw wn pa lz lk wl y c T k0 k1 cu nx N b B sd s0 s1) : QQ τ (dfF F xa pa nw lk wl nx cu N b z sd i) xa tx la nu tr dr wi ga im i0 i1 l0 l1 w0 w1 nw wn pa lz lk wl y c T k0 k1 (min 12 (cu + 1)) ((nx + 1) % 12) N b B' (drN N i sd) s0 s1 := qq_tk hi hB (qq_sd (qq_rem hz h))
theorem qq_no {y2 : Int32} (h : QQ τ F xa tx la nu tr dr wi ga im i0 i1 l0 l1 w0 w1 nw wn pa lz lk wl y c T k0 k1 cu nx N b B sd s0 s1) : QQ τ (fu (fu F tx 2 (.int 0)) xa 7 (.int y2)) xa tx la nu tr dr wi ga im i0 i1 l0 l1 w0 w1 nw wn pa lz lk wl y2 0 T k0 k1 cu nx N b B sd s0 s1 := by
  obtain ⟨g1, g2, g3⟩ := law_line (x := y2) h.1 h.2.1
  exact qq_tx h ((AGR.rf.ad h.1.2.1 (by decide)).ad h.1.1 (by decide)) g1 g2 g3
/-- a new line -/
theorem qq_ln {g : Nat} {bz : Bool} (hg : g ≤ 72) (h : QQ τ F xa tx la nu tr dr wi ga im i0 i1 l0 l1 w0 w1 nw wn pa lz lk wl y c T k0 k1 cu nx N b B sd s0 s1) : QQ τ (fu (fu (fu (gdF τ (fu (fu F tx 2 (.int 0)) xa 7 (.int (-1))) nw wn g bz) pa 1 (.int (nI 0))) i0 2 (.int (bI false))) i1 2 (.int (bI false))) xa tx la nu tr dr wi ga im i0 i1 l0 l1 w0 w1 nw wn pa lz lk wl (-1) 0 T false false 0 nx g bz B sd s0 s1 := by
  have h := qq_no (y2 := -1) h
  generalize fu (fu F tx 2 (.int 0)) xa 7 (.int (-1)) = F1 at h ⊢
  have hr := h.2.2.2.1
  have hv := h.2.2.2.2
  obtain ⟨⟨a1, a2, a3, a4, a5, a6, a7, a8, a9, a10⟩, ⟨b1, b2, b3, b4, b5, b6, b7⟩, ⟨c1, c2, c3, c4, c5, c6, c7, c8⟩, ⟨e1, e2, e3, e4, e5, e6, e7⟩, hwi, hdr, hxa⟩ := id hr
  have ne : ∀ {a b : Nat} {ta tb : ty_C}, τ a = some ta → τ b = some tb → ta ≠ tb → a ≠ b := fun h1 h2 h3 e => h3 (by rw [e, h2] at h1; cases h1; rfl)
  obtain ⟨⟨v1, v2, v3, v4, v5, v6, v7⟩, ⟨w1, w2, w3⟩, w4, w5, w6, w7, w8⟩ := id hv
  have p : ∀ {a : Nat} {ta : ty_C} {j : Nat}, τ a = some ta → ta ≠ (0, 2) → ta ≠ (0, 4) → fu (fu (fu (gdF τ F1 nw wn g bz) pa 1 (.int (nI 0))) i0 2 (.int (bI false))) i1 2 (.int (bI false)) a j = gdF τ F1 nw wn g bz a j := fun hh h2 h4 => by rw [fu_b (ne hh b3 h2), fu_b (ne hh b2 h2), fu_b (ne hh a3 h4)]
  refine qq_st h ((((AGR.rf.gd (by decide)).ad a3 (by decide)).ad b2 (by decide)).ad b3 (by decide)) (sup_fu (sup_fu (sup_fu (gd_sup h.2.1) a3 (by decide)) b2 (by decide)) b3 (by decide)) ⟨⟨by omega, v2, hg, ?_, ?_, ⟨(p a2 (by decide) (by decide)).trans (gd_7 a2), (p a1 (by decide) (by decide)).trans (gd_2 a1), 0, Nat.zero_le _, (p a1 (by decide) (by decide)).trans (gd_3 a1)⟩, fun j q1 q2 => absurd q2 (by omega)⟩, ⟨(p hwi (by decide) (by decide)).trans (gd_n7 hwi (Ne.symm e2)), (p hdr (by decide) (by decide)).trans (gd_n2 hdr (Or.inl rfl) (Ne.symm e1)), (p hdr (by decide) (by decide)).trans (gd_n2 hdr (Or.inr rfl) (Ne.symm e1))⟩, ?_, fu_at, (fun q => by cases q), (fun q => by cases q), ?_⟩
  · rw [fu_b (ne a3 b3 (by decide)), fu_b (ne a3 b2 (by decide)), fu_at]
  · rw [fu_b (ne a3 b3 (by decide)), fu_b (ne a3 b2 (by decide)), fu_j (by decide), gd_o (fun z => by rw [a3] at z; cases z.1) (fun z => by rw [a3] at z; cases z.1)]
    exact v5
  · rw [fu_b b4, fu_at]
  · rw [p hxa (by decide) (by decide), gd_o (fun z => by rw [hxa] at z; cases z.1) (fun z => by rw [hxa] at z; cases z.1)]
    exact w8
theorem qq_T {T2 : Nat → Int32} (h : QQ τ F xa tx la nu tr dr wi ga im i0 i1 l0 l1 w0 w1 nw wn pa lz lk wl y c T k0 k1 cu nx N b B sd s0 s1) (ht : ∀ j, j < c → T2 j = T j) : QQ τ F xa tx la nu tr dr wi ga im i0 i1 l0 l1 w0 w1 nw wn pa lz lk wl y c T2 k0 k1 cu nx N b B sd s0 s1 := by
  obtain ⟨⟨h1, h2, h3, h4, h5, h6, h7, h8, p1, p2, p3, p4, p5, p6⟩, r⟩ := h
  exact ⟨⟨h1, h2, h3, h4, h5, h6, h7, h8, p1, p2, p3, p4, p5, p6.1, p6.2.1, p6.2.2.1, fun j hj => by rw [ht j hj]; exact p6.2.2.2 j hj⟩, r⟩
theorem qq_cB {B2 : Nat} (e : B2 = B) (h : QQ τ F xa tx la nu tr dr wi ga im i0 i1 l0 l1 w0 w1 nw wn pa lz lk wl y c T k0 k1 cu nx N b B sd s0 s1) : QQ τ F xa tx la nu tr dr wi ga im i0 i1 l0 l1 w0 w1 nw wn pa lz lk wl y c T k0 k1 cu nx N b B2 sd s0 s1 := by rw [e]; exact h
theorem qq_cS {sd2 s2 s3 : Int32} (e : sd2 = sd) (e0 : s2 = s0) (e1 : s3 = s1) (h : QQ τ F xa tx la nu tr dr wi ga im i0 i1 l0 l1 w0 w1 nw wn pa lz lk wl y c T k0 k1 cu nx N b B sd s0 s1) : QQ τ F xa tx la nu tr dr wi ga im i0 i1 l0 l1 w0 w1 nw wn pa lz lk wl y c T k0 k1 cu nx N b B sd2 s2 s3 := by rw [e, e0, e1]; exact h
theorem qq_fr (h : QQ τ F xa tx la nu tr dr wi ga im i0 i1 l0 l1 w0 w1 nw wn pa lz lk wl y c T k0 k1 cu nx N b B sd s0 s1) : F wi 7 = none ∧ F dr 2 = none ∧ F dr 3 = none := h.2.2.2.2.2.1
theorem qq_TF (h : QQ τ F xa tx la nu tr dr wi ga im i0 i1 l0 l1 w0 w1 nw wn pa lz lk wl y c T k0 k1 cu nx N b B sd s0 s1) : ∀ t, pv F (cn Mx τ) xa 2 (.ref t) → TF Mx τ (pv F (cn Mx τ)) t := fun t ht l h1 hl => by
  have hp := h.1
  obtain ⟨g1, g2, g3⟩ := qq_fr h
  have z1 := pv_rd ht hp.2.2.2.2.2.2.2.2.2.1
  cases z1
  have z2 := pv_rd h1 hp.2.2.2.2.2.2.2.2.2.2.1
  cases z2
  refine ⟨fun x => ⟨cn_F (S := [302]) _ (0, 3) 2 x hl (by decide) (ty_rno rfl), fun y2 hy => by rw [g2] at hy; cases hy⟩, fun x => ⟨cn_F (S := [303]) _ (0, 3) 3 x hl (by decide) (ty_rno rfl), fun y2 hy => by rw [g3] at hy; cases hy⟩, fun w x h2 hw hx => ?_⟩
  have z3 := pv_rd h2 hp.2.2.2.2.2.2.2.2.2.2.2.1
  cases z3
  exact ⟨cn_F (S := [807]) _ (0, 8) 7 x hw (by decide) hx, fun y2 hy => by rw [g1] at hy; cases hy⟩
theorem qq_PT (h : QQ τ F xa tx la nu tr dr wi ga im i0 i1 l0 l1 w0 w1 nw wn pa lz lk wl y c T k0 k1 cu nx N b B sd s0 s1) : ∀ t, pf F xa 2 (.ref t) → PT (pf F) t := fun t ht l h1 => by
  have hp := h.1
  obtain ⟨g1, g2, g3⟩ := qq_fr h
  have z1 := ht _ hp.2.2.2.2.2.2.2.2.2.1
  cases z1
  have z2 := h1 _ hp.2.2.2.2.2.2.2.2.2.2.1
  cases z2
  refine ⟨fun x y2 hy => (by rw [g2] at hy; cases hy), fun x y2 hy => (by rw [g3] at hy; cases hy), fun w x h2 => ?_⟩
  have z3 := h2 _ hp.2.2.2.2.2.2.2.2.2.2.2.1
  cases z3
  exact fun y2 hy => by rw [g1] at hy; cases hy
theorem lnI_x {a b : Nat} {x : Int32} (p : Nat → Prop) (h0 : p a) (h1 : p b) : p (lnI a b x.toInt) := by
  unfold lnI
  split
  · exact h0
  · exact h1
theorem lnI_2 {a b e f : Nat} {x : Int32} (p : Nat → Nat → Prop) (h0 : p a e) (h1 : p b f) : p (lnI a b x.toInt) (lnI e f x.toInt) := by
  unfold lnI
  split
  · exact h0
  · exact h1
theorem rq_i {x : Int32} (hr : RQ τ F xa wi dr im i0 i1 l0 l1 w0 w1 nw wn pa lz lk wl) : 0 ≤ x.toInt ∧ x.toInt ≤ 1 → F im x.toNatClampNeg = some (.ref (lnI i0 i1 x.toInt)) := fun hx => by
  have := cI_clamp (x := x) (by omega)
  rcases (show x.toInt = 0 ∨ x.toInt = 1 by omega) with e | e
  · rw [e, show x.toNatClampNeg = 0 by omega]; exact hr.2.1.2.2.2.2.2.1
  · rw [e, show x.toNatClampNeg = 1 by omega]; exact hr.2.1.2.2.2.2.2.2
theorem vq_b {x : Int32} (hv : VQ F xa wi dr i0 i1 l0 l1 w0 w1 nw wn pa lk wl k0 k1 cu nx N b B sd s0 s1) : F (lnI i0 i1 x.toInt) 2 = some (.int (bI (kB k0 k1 x.toInt))) := by
  unfold lnI kB
  split
  · exact hv.2.2.1
  · exact hv.2.2.2.1
def lnS (s0 s1 : Int32) (x : Int) : Int32 := if x = 0 then s0 else s1
theorem vq_g {x : Int32} (hv : VQ F xa wi dr i0 i1 l0 l1 w0 w1 nw wn pa lk wl k0 k1 cu nx N b B sd s0 s1) : ∃ z, z ≤ B ∧ (kB k0 k1 x.toInt = true → F (lnI w0 w1 x.toInt) 7 = some (.int (nI N)) ∧ F (lnI l0 l1 x.toInt) 2 = some (.int (bI b)) ∧ F (lnI l0 l1 x.toInt) 3 = some (.int (nI z)) ∧ F (lnI i0 i1 x.toInt) 1 = some (.int (lnS s0 s1 x.toInt))) := by
  unfold lnI kB lnS
  split
  · cases k0 with
    | false => exact ⟨0, Nat.zero_le _, fun q => by cases q⟩
    | true =>
      obtain ⟨⟨h1, h2, z, h3, h4⟩, h5⟩ := hv.2.2.2.2.1 rfl
      exact ⟨z, h3, fun _ => ⟨h1, h2, h4, h5⟩⟩
  · cases k1 with
    | false => exact ⟨0, Nat.zero_le _, fun q => by cases q⟩
    | true =>
      obtain ⟨⟨h1, h2, z, h3, h4⟩, h5⟩ := hv.2.2.2.2.2.1 rfl
      exact ⟨z, h3, fun _ => ⟨h1, h2, h4, h5⟩⟩
end QQL
theorem fd_T {K : KT} {x : Int32} {i : Nat} (h : K.1 ≤ 240) (hi : 1000 ≤ i) : (feedS K x).2.2.2.2 i = K.2.2.2.2 i := by
  unfold feedS
  split
  · rfl
  · show (if i = K.1 then x else K.2.2.2.2 i) = _
    rw [if_neg (by omega)]
theorem SK.up {K : KT} {b : Bool} {ic : Nat} (h : SK K b ic) : SK K b (ic + 1) := ⟨h.1, by have := h.2.1; omega, h.2.2⟩
theorem SK.lt {K : KT} {b : Bool} {ic : Nat} (h : SK K b ic) (hi : ic ≤ 512) : bK K ≤ 80000 := by have := h.2.1; omega
/-- ticks more -/
theorem bK_50 {K : KT} {b : Bool} {ic : Nat} (h : SK K b ic) (hi : ic ≤ 512) : bK (KU K 1005 (nI (bK K + 50))) = bK K + 50 := by
  have := h.2.1
  rw [KU_b5]
  exact nI_cl (by omega)
theorem SK.tk {K : KT} {b : Bool} {ic : Nat} (h : SK K b ic) (hi : ic ≤ 512) : SK (KU K 1005 (nI (bK K + 50))) b (ic + 1) := ⟨(KU_t (by decide)).trans h.1, by rw [bK_50 h hi]; have := h.2.1; omega, by rw [KU_ne (by decide)]; exact h.2.2.1, by rw [KU_ne (by decide)]; exact h.2.2.2.1, by rw [KU_ne (by decide)]; exact h.2.2.2.2⟩
theorem SK.sd {K : KT} {b : Bool} {ic : Nat} {v : Int32} (h : SK K b ic) (hv : 0 ≤ v.toInt) : SK (KU K 1002 v) b ic := ⟨(KU_t (by decide)).trans h.1, by rw [KU_b (by decide)]; exact h.2.1, by rw [KU_at]; exact hv, by rw [KU_ne (by decide)]; exact h.2.2.2.1, by rw [KU_ne (by decide)]; exact h.2.2.2.2⟩
theorem SK.i0 {K : KT} {b : Bool} {ic : Nat} {v : Int32} (h : SK K b ic) (hv : 0 ≤ v.toInt) : SK (KU K 1003 v) b ic := ⟨(KU_t (by decide)).trans h.1, by rw [KU_b (by decide)]; exact h.2.1, by rw [KU_ne (by decide)]; exact h.2.2.1, by rw [KU_at]; exact hv, by rw [KU_ne (by decide)]; exact h.2.2.2.2⟩
theorem SK.i1 {K : KT} {b : Bool} {ic : Nat} {v : Int32} (h : SK K b ic) (hv : 0 ≤ v.toInt) : SK (KU K 1004 v) b ic := ⟨(KU_t (by decide)).trans h.1, by rw [KU_b (by decide)]; exact h.2.1, by rw [KU_ne (by decide)]; exact h.2.2.1, by rw [KU_ne (by decide)]; exact h.2.2.2.1, by rw [KU_at]; exact hv⟩
theorem SK.fd {K : KT} {b : Bool} {ic : Nat} {x : Int32} (h : SK K b ic) (hk : K.1 ≤ 240) : SK (feedS K x) b ic := by
  unfold SK tK bK
  rw [fd_T hk (by decide), fd_T hk (by decide), fd_T hk (by decide), fd_T hk (by decide), fd_T hk (by decide)]
  exact h
theorem bK_fd {K : KT} {x : Int32} (hk : K.1 ≤ 240) : bK (feedS K x) = bK K := by unfold bK; rw [fd_T hk (by decide)]
theorem KU_T {K : KT} {i : Nat} {v : Int32} (hk : K.1 ≤ 240) (hi : 1002 ≤ i) : ∀ j, j < K.1 → (KU K i v).2.2.2.2 j = K.2.2.2.2 j := fun j hj => KU_ne (by omega)
theorem BY_KU {K : KT} {i : Nat} {v : Int32} (hk : K.1 ≤ 240) (hi : 1002 ≤ i) (h : BY K) : BY (KU K i v) := fun j hj => by
  rw [KU_T hk hi j hj]
  exact h j hj
theorem nls_t {f : Nat → Int32} {g t i : Nat} (hi : 1002 ≤ i) : nlS f g t i = f i := by unfold nlS; rw [if_neg (by omega), if_neg (by omega)]
theorem bK_ln {K : KT} {g t : Nat} : bK (0, -1, 0, 0, nlS K.2.2.2.2 g t) = bK K := by
  unfold bK
  show (nlS K.2.2.2.2 g t 1005).toNatClampNeg = _
  rw [nls_t (by decide)]
theorem SK.ln {K : KT} {b b2 : Bool} {ic g : Nat} (h : SK K b ic) : SK (0, -1, 0, 0, nlS K.2.2.2.2 g (bN b2)) b2 (ic + 1) := by
  refine ⟨tK_gs bN_1, by rw [bK_ln]; have := h.2.1; omega, ?_, ?_, ?_⟩
  · show 0 ≤ (nlS K.2.2.2.2 g (bN b2) 1002).toInt
    rw [nls_t (by decide)]; exact h.2.2.1
  · show 0 ≤ (nlS K.2.2.2.2 g (bN b2) 1003).toInt
    rw [nls_t (by decide)]; exact h.2.2.2.1
  · show 0 ≤ (nlS K.2.2.2.2 g (bN b2) 1004).toInt
    rw [nls_t (by decide)]; exact h.2.2.2.2
end LAW3
theorem cnF_le {T : Nat → Int32} {c w : Nat} : ∀ m k p, p ≤ c → (cnF T c w m k p).2 ≤ c
  | 0, k, p, h => h
  | m + 1, k, p, h => by
    by_cases q : nk T c p (nlo w k) (nhi w k) = 0
    · rw [cnF_y q]; exact cnF_le m (k + 1) _ (na_le h)
    · rw [cnF_n q]; exact sk_le h
theorem clk2_le {T : Nat → Int32} {c a : Nat} {st : ST} (h : a < c) : (clk T c st a).2 ≤ c := by
  have h1 : (cln T c a).2 ≤ c := cnF_le _ _ _ h
  unfold clk
  split
  · exact Nat.le_of_lt h
  · split
    · exact Nat.le_of_lt h
    · split
      · split
        · next w => exact w.1
        · exact sk_le h1
      · exact h1
theorem rdF2_le {T : Nat → Int32} {c : Nat} : ∀ n st a, a ≤ c → (rdF T c n st a).2.1 ≤ c
  | 0, st, a, h => h
  | n + 1, st, a, h => by
    show (if a < c then (if (clk T c st a).1 = 0 then rdF T c n (nst T c st a) (sk T c (clk T c st a).2) else ((clk T c st a).1, (clk T c st a).2, st)) else (0, a, st)).2.1 ≤ c
    split
    · next w =>
      split
      · exact rdF2_le n _ _ (sk_le (clk2_le w))
      · exact clk2_le w
    · exact h
theorem rdT2_le {K : KT} : (rdT K).2.1 ≤ K.1 := rdF2_le _ _ _ (sk_le (Nat.zero_le _))
def cPx (t : ty_C) : Bool := decide (t.1 < 10) && !(decide (t.1 = 0) && decide (10 ≤ t.2))
def cPm (t : ty_C) : Bool := !(cPx t)
theorem law_dj {t : ty_T} : DJ (tR cPx t) (tR cPm t) := fun a => by
  cases e : tR cPx t a with
  | none => exact Or.inl rfl
  | some y =>
    right
    cases e2 : tR cPm t a with
    | none => rfl
    | some w =>
      obtain ⟨h1, h2⟩ := tR_to e
      obtain ⟨h3, h4⟩ := tR_to e2
      rw [h1] at h3
      cases h3
      unfold cPm at h4
      rw [h2] at h4
      cases h4
theorem cPx_k {k : Nat} (h : cPx (0, k) = true) : k < 10 := by
  rcases Nat.lt_or_ge k 10 with z | z
  · exact z
  · have e : cPx (0, k) = !(decide (10 ≤ k)) := rfl
    rw [e, decide_eq_true z] at h
    cases h
theorem cPm_k {k : Nat} (h : cPm (0, k) = true) : 10 ≤ k := by
  rcases Nat.lt_or_ge k 10 with z | z
  · have e : cPm (0, k) = !(!(decide (10 ≤ k))) := rfl
    rw [e, decide_eq_false (Nat.not_le.mpr z)] at h
    cases h
  · exact z
theorem cPx_c : ∀ k g, cPx (0, k) = true → g ∈ ty_fs k → (g.1 = 2 → cPx g.2 = true) ∧ (g.1 = 3 → ∀ n, cPx (1, n) = true) := by
  intro k g hk hg
  have all : ∀ k, k < 10 → ∀ g ∈ ty_fs k, g.1 = 2 → cPx g.2 = true := by decide +kernel
  exact ⟨fun h2 => all k (cPx_k hk) g hg h2, fun _ n => rfl⟩
theorem cPm_c : ∀ k g, cPm (0, k) = true → g ∈ ty_fs k → (g.1 = 2 → cPm g.2 = true) ∧ (g.1 = 3 → ∀ n, cPm (1, n) = true) := by
  intro k g hk hg
  have e : ty_fs k = ty_fs 10 := by
    match k, cPm_k hk with
    | n + 10, _ => rfl
  rw [e] at hg
  have all : ∀ g ∈ ty_fs 10, (g.1 = 2 → cPm g.2 = true) ∧ g.1 ≠ 3 := by decide +kernel
  exact ⟨fun h2 => (all g hg).1 h2, fun h3 => absurd h3 (all g hg).2⟩
/-- a field that is no null has a name -/
theorem tg_pinr {D : va_G} {cy : Nat → ClassId} {τ : ty_T} {ρ : ty_R} {A : Nat → Prop} {H0 H : Heap} {locs : List Loc} {k j : Nat} {t : ty_C} (hG : TG D cy τ ρ A H0 H locs) {a : Nat} (ha : τ a = some (0, k)) (hg : (ty_fs k)[j]? = some (2, t)) (hn : ¬ ρ a j .null) : ∃ q, τ q = some t ∧ TG D cy τ (pn (fun b i v => b = a → i = j → v = .ref q) ρ) A H0 H locs := by
  obtain ⟨⟨L, f, hP, hD, hdom, hok⟩, hS, hA⟩ := hG
  obtain ⟨fs, he, hlen, hv⟩ := (hok a _ ha).1 rfl
  have hjl : j < fs.length := by rw [hlen]; exact (List.getElem?_eq_some_iff.mp hg).1
  obtain ⟨hV, hR⟩ := hv j (2, t) fs[j] hg (List.getElem?_eq_getElem hjl)
  rcases ty_V2 hV with hx | ⟨q, hx, hq⟩
  · rw [hx] at hR
    exact absurd hR hn
  · refine ⟨q, hq, ⟨L, f, hP, hD, hdom, fun b t2 hb => ?_⟩, hS, hA⟩
    by_cases hba : b = a
    · subst hba
      rw [ha] at hb
      cases hb
      refine ⟨fun _ => ⟨fs, he, hlen, fun i g v hg2 hi => ⟨(hv i g v hg2 hi).1, (hv i g v hg2 hi).2, fun _ e => ?_⟩⟩, (fun h => by cases h), (fun h => by cases h), (fun h => by cases h)⟩
      subst e
      rw [List.getElem?_eq_getElem hjl] at hi
      cases hi
      exact hx
    · exact (hok b t2 hb).mono (fun i v h => ⟨h, fun e => absurd e hba⟩)
theorem tg_nmr {D : va_G} {cy : Nat → ClassId} {τ : ty_T} {ρ : ty_R} {A : Nat → Prop} {H0 H : Heap} {locs : List Loc} {k j : Nat} {t : ty_C} (hG : TG D cy τ ρ A H0 H locs) {a : Nat} (ha : τ a = some (0, k)) (hg : (ty_fs k)[j]? = some (2, t)) (hn : ¬ ρ a j .null) : ∃ q, τ q = some t ∧ ρ a j (.ref q) ∧ TG D cy τ (pn (fun b i v => b = a → i = j → v = .ref q) ρ) A H0 H locs := by
  obtain ⟨⟨L, f, hP, hD, hdom, hok⟩, hS, hA⟩ := hG
  obtain ⟨fs, he, hlen, hv⟩ := (hok a _ ha).1 rfl
  have hjl : j < fs.length := by rw [hlen]; exact (List.getElem?_eq_some_iff.mp hg).1
  obtain ⟨hV, hR⟩ := hv j (2, t) fs[j] hg (List.getElem?_eq_getElem hjl)
  rcases ty_V2 hV with hx | ⟨q, hx, hq⟩
  · rw [hx] at hR
    exact absurd hR hn
  · refine ⟨q, hq, by rw [hx] at hR; exact hR, ⟨L, f, hP, hD, hdom, fun b t2 hb => ?_⟩, hS, hA⟩
    by_cases hba : b = a
    · subst hba
      rw [ha] at hb
      cases hb
      refine ⟨fun _ => ⟨fs, he, hlen, fun i g v hg2 hi => ⟨(hv i g v hg2 hi).1, (hv i g v hg2 hi).2, fun _ e => ?_⟩⟩, (fun h => by cases h), (fun h => by cases h), (fun h => by cases h)⟩
      subst e
      rw [List.getElem?_eq_getElem hjl] at hi
      cases hi
      exact hx
    · exact (hok b t2 hb).mono (fun i v h => ⟨h, fun e => absurd e hba⟩)
/-- a place of a row of references has a name (images: 4, lines: 3) -/
theorem tg_nma {D : va_G} {cy : Nat → ClassId} {τ : ty_T} {ρ : ty_R} {A : Nat → Prop} {H0 H : Heap} {locs : List Loc} {n j w : Nat} (hw : w = 3 ∨ w = 4) (hG : TG D cy τ ρ A H0 H locs) {a : Nat} (ha : τ a = some (w, n)) (hj : j < n) (hn : ¬ ρ a j .null) : ∃ q, τ q = some (0, if w = 3 then 3 else 2) ∧ ρ a j (.ref q) ∧ TG D cy τ (pn (fun b i v => b = a → i = j → v = .ref q) ρ) A H0 H locs := by
  obtain ⟨⟨L, f, hP, hD, hdom, hok⟩, hS, hA⟩ := hG
  have kd : ty_kd w = 3 := by rcases hw with rfl | rfl <;> rfl
  obtain ⟨g, he, hv⟩ := (hok a _ ha).2.2.2 kd
  obtain ⟨h1, h2⟩ := hv j hj
  cases hgj : g j with
  | none => rw [hgj] at h2; exact absurd h2 hn
  | some q =>
    refine ⟨q, h1 q hgj, by rw [hgj] at h2; exact h2, ⟨L, f, hP, hD, hdom, fun b t2 hb => ?_⟩, hS, hA⟩
    by_cases hba : b = a
    · subst hba
      rw [ha] at hb
      cases hb
      refine ⟨(fun h => by rw [kd] at h; cases h), (fun h => by rw [kd] at h; cases h), (fun h => by rw [kd] at h; cases h), fun _ => ⟨g, he, fun i hi => ⟨(hv i hi).1, (hv i hi).2, fun _ e => ?_⟩⟩⟩
      subst e
      rw [hgj]
      rfl
    · exact (hok b t2 hb).mono (fun i v h => ⟨h, fun e => absurd e hba⟩)
theorem tg_fold {D : va_G} {cy : Nat → ClassId} {τ : ty_T} {ρ : ty_R} {F : Nat → Nat → Option Value} {A : Nat → Prop} {H0 H : Heap} {locs : List Loc} {j q a : Nat} (h : TG D cy τ (pn (fun b i v => b = a → i = j → v = .ref q) (pv F ρ)) A H0 H locs) : TG D cy τ (pv (fu F a j (.ref q)) ρ) A H0 H locs := h.mono (fun b t i v _ z => ⟨z.1.1, fun y hy => by
  by_cases e : b = a ∧ i = j
  · obtain ⟨rfl, rfl⟩ := e
    rw [fu_at] at hy
    cases hy
    exact z.2 rfl rfl
  · rw [fu_ne e] at hy
    exact z.1.2 y hy⟩)
/-- a pin more: a reference, a number -/
theorem tg_addr {D : va_G} {cy : Nat → ClassId} {τ : ty_T} {ρ : ty_R} {F : Nat → Nat → Option Value} {A : Nat → Prop} {H0 H : Heap} {locs : List Loc} {k j : Nat} {t : ty_C} (hG : TG D cy τ (pv F ρ) A H0 H locs) {a : Nat} (ha : τ a = some (0, k)) (hg : (ty_fs k)[j]? = some (2, t)) (hn : ¬ ρ a j .null) : ∃ q, τ q = some t ∧ TG D cy τ (pv (fu F a j (.ref q)) ρ) A H0 H locs := by
  obtain ⟨q, hq, h⟩ := tg_pinr hG ha hg (fun z => hn z.1)
  refine ⟨q, hq, h.mono (fun b t i v _ z => ⟨z.1.1, fun y hy => ?_⟩)⟩
  by_cases e : b = a ∧ i = j
  · obtain ⟨rfl, rfl⟩ := e
    rw [fu_at] at hy
    cases hy
    exact z.2 rfl rfl
  · rw [fu_ne e] at hy
    exact z.1.2 y hy
theorem tg_addi {D : va_G} {cy : Nat → ClassId} {τ : ty_T} {ρ : ty_R} {F : Nat → Nat → Option Value} {A : Nat → Prop} {H0 H : Heap} {locs : List Loc} {j : Nat} {x : Value} (hG : TG D cy τ (pv F ρ) A H0 H locs) {a : Nat} {t0 : ty_C} (ha : τ a = some t0) (hx : ∀ v, ρ a j v → v = x) : TG D cy τ (pv (fu F a j x) ρ) A H0 H locs := hG.mono (fun b t i v _ z => ⟨z.1, fun y hy => by
  by_cases e : b = a ∧ i = j
  · obtain ⟨rfl, rfl⟩ := e
    rw [fu_at] at hy
    cases hy
    exact hx v z.1
  · rw [fu_ne e] at hy
    exact z.2 y hy⟩)
theorem law_split0 {D : va_G} {cy : Nat → ClassId} {t2 : ty_T} {r2 : ty_R} {A : Nat → Prop} {H0 H : Heap} {locs : List Loc} {xa : Nat} (hG : TG D cy t2 r2 A H0 H locs) (t2x : t2 xa = some (0, 9)) (ini : ∀ a t j v, t2 a = some t → r2 a j v → cnT (MM Kz 0 0 0 false false) t j v) : ∃ F tx la nu tr dr wi ga, TG D cy (tR cPx t2) (pv F r2) A H0 H locs ∧ PF (tR cPx t2) F xa tx la nu tr dr wi ga Kz.1 Kz.2.2.2.2 ∧ SUP (tR cPx t2) F ∧ F xa 7 = some (.int (-1)) ∧ (∀ a, tR cPx t2 a = some (0, 8) → F a 7 = none) ∧ (∀ a, tR cPx t2 a = some (0, 3) → F a 2 = none ∧ F a 3 = none) := by
  have hx := hG.part cPx_c (fun n _ => rfl) (fun n _ => rfl)
  have hxa : tR cPx t2 xa = some (0, 9) := tR_of t2x rfl
  have nn : ∀ a t j, tR cPx t2 a = some t → ¬ r2 a j .null := fun a t j ha h => (ini _ _ _ _ (tR_to ha).1 h).1 rfl
  have h0 : TG D cy (tR cPx t2) (pv (fun _ _ => none) r2) A H0 H locs := hx.mono (fun _ _ _ _ _ h => ⟨h, fun y hy => by cases hy⟩)
  have s0 : SUP (tR cPx t2) (fun _ _ => none) := ⟨fun _ _ _ => rfl, fun _ _ _ _ _ => rfl⟩
  obtain ⟨tx, htx, h1⟩ := tg_addr (j := 0) h0 hxa rfl (nn _ _ _ hxa)
  have s1 := sup_fu (x := .ref tx) (j := 0) s0 hxa (by decide)
  obtain ⟨tr, htr, h2⟩ := tg_addr (j := 2) h1 hxa rfl (nn _ _ _ hxa)
  have s2 := sup_fu (x := .ref tr) (j := 2) s1 hxa (by decide)
  obtain ⟨dr, hdr, h3⟩ := tg_addr (j := 0) h2 htr rfl (nn _ _ _ htr)
  have s3 := sup_fu (x := .ref dr) (j := 0) s2 htr (by decide)
  obtain ⟨wi, hwi, h4⟩ := tg_addr (j := 0) h3 hdr rfl (nn _ _ _ hdr)
  have s4 := sup_fu (x := .ref wi) (j := 0) s3 hdr (by decide)
  obtain ⟨ga, hga, h5⟩ := tg_addr (j := 1) h4 hdr rfl (nn _ _ _ hdr)
  have s5 := sup_fu (x := .ref ga) (j := 1) s4 hdr (by decide)
  obtain ⟨la, hla, h6⟩ := tg_addr (j := 0) h5 htx rfl (nn _ _ _ htx)
  have s6 := sup_fu (x := .ref la) (j := 0) s5 htx (by decide)
  obtain ⟨nu, hnu, h7⟩ := tg_addr (j := 1) h6 htx rfl (nn _ _ _ htx)
  have s7 := sup_fu (x := .ref nu) (j := 1) s6 htx (by decide)
  have h8 := tg_addi (j := 2) (x := .int 0) h7 htx (fun v hv => ((ini _ _ _ _ (tR_to htx).1 hv).2.2).elim (fun z => by cases z) (fun z => z))
  have s8 := sup_fu (x := .int 0) (j := 2) s7 htx (by decide)
  have h9 := tg_addi (j := 7) (x := .int (-1)) h8 hxa (fun v hv => ((ini _ _ _ _ t2x hv).2.2).elim (fun z => by cases z) (fun z => z))
  have s9 := sup_fu (x := .int (-1)) (j := 7) s8 hxa (by decide)
  have ne : ∀ {a b : Nat} {ta tb : ty_C}, tR cPx t2 a = some ta → tR cPx t2 b = some tb → ta ≠ tb → a ≠ b := fun h1 h2 h3 e => h3 (by rw [e, h2] at h1; cases h1; rfl)
  have n1 : xa ≠ tx := ne hxa htx (by decide)
  have n2 : xa ≠ tr := ne hxa htr (by decide)
  have n3 : xa ≠ dr := ne hxa hdr (by decide)
  have n4 : tx ≠ tr := ne htx htr (by decide)
  have n5 : tx ≠ dr := ne htx hdr (by decide)
  have n6 : tr ≠ dr := ne htr hdr (by decide)
  refine ⟨_, tx, la, nu, tr, dr, wi, ga, h9, ⟨hxa, htx, hla, hnu, htr, hdr, hwi, hga, ?_, ?_, ?_, ?_, ?_, ?_, ?_, ?_, fun j hj => absurd hj (Nat.not_lt_zero _)⟩, s9, fu_at, fun a h => by rw [fu_b (ne h hxa (by decide)), fu_b (ne h htx (by decide)), fu_b (ne h htx (by decide)), fu_b (ne h htx (by decide)), fu_b (ne h hdr (by decide)), fu_b (ne h hdr (by decide)), fu_b (ne h htr (by decide)), fu_b (ne h hxa (by decide)), fu_b (ne h hxa (by decide))], fun a h => ⟨by rw [fu_b (ne h hxa (by decide)), fu_b (ne h htx (by decide)), fu_b (ne h htx (by decide)), fu_b (ne h htx (by decide)), fu_j (by decide), fu_j (by decide), fu_b (ne h htr (by decide)), fu_b (ne h hxa (by decide)), fu_b (ne h hxa (by decide))], by rw [fu_b (ne h hxa (by decide)), fu_b (ne h htx (by decide)), fu_b (ne h htx (by decide)), fu_b (ne h htx (by decide)), fu_j (by decide), fu_j (by decide), fu_b (ne h htr (by decide)), fu_b (ne h hxa (by decide)), fu_b (ne h hxa (by decide))]⟩⟩
  · rw [fu_j (by decide), fu_b n1, fu_b n1, fu_b n1, fu_b n3, fu_b n3, fu_b n2, fu_j (by decide), fu_at]
  · rw [fu_j (by decide), fu_b n1, fu_b n1, fu_b n1, fu_b n3, fu_b n3, fu_b n2, fu_at]
  · rw [fu_b (Ne.symm n2), fu_b (Ne.symm n4), fu_b (Ne.symm n4), fu_b (Ne.symm n4), fu_b n6, fu_b n6, fu_at]
  · rw [fu_b (Ne.symm n3), fu_b (Ne.symm n5), fu_b (Ne.symm n5), fu_b (Ne.symm n5), fu_j (by decide), fu_at]
  · rw [fu_b (Ne.symm n3), fu_b (Ne.symm n5), fu_b (Ne.symm n5), fu_b (Ne.symm n5), fu_at]
  · rw [fu_b (Ne.symm n1), fu_j (by decide), fu_j (by decide), fu_at]
  · rw [fu_b (Ne.symm n1), fu_j (by decide), fu_at]
  · rw [fu_b (Ne.symm n1), fu_at]; rfl
theorem pf_cd {τ : ty_T} {F : Nat → Nat → Option Value} {xa tx la nu tr dr wi ga c : Nat} {T : Nat → Int32} {b j : Nat} {x : Value} {t0 : ty_C} (h : PF τ F xa tx la nu tr dr wi ga c T) (hb : τ b = some t0) (hc : ty_cd t0 j ∉ PFC) : PF τ (fu F b j x) xa tx la nu tr dr wi ga c T := by
  obtain ⟨h1, h2, h3, h4, h5, h6, h7, h8, p1, p2, p3, p4, p5, p6⟩ := h
  have ne : ∀ {a : Nat} {ta : ty_C} (i : Nat), τ a = some ta → ty_cd ta i ∈ PFC → ¬ (a = b ∧ i = j) := fun i ha hn z => by
    obtain ⟨rfl, rfl⟩ := z
    rw [ha] at hb
    cases hb
    exact hc hn
  exact ⟨h1, h2, h3, h4, h5, h6, h7, h8, (fu_ne (ne 0 h1 (by decide))).trans p1, (fu_ne (ne 2 h1 (by decide))).trans p2, (fu_ne (ne 0 h5 (by decide))).trans p3, (fu_ne (ne 0 h6 (by decide))).trans p4, (fu_ne (ne 1 h6 (by decide))).trans p5, (fu_ne (ne 0 h2 (by decide))).trans p6.1, (fu_ne (ne 1 h2 (by decide))).trans p6.2.1, (fu_ne (ne 2 h2 (by decide))).trans p6.2.2.1, fun i hi => (fu_ne (ne i h3 (by show 6008 ∈ PFC; decide))).trans (p6.2.2.2 i hi)⟩
/-- there is a value -/
theorem tg_ex {D : va_G} {cy : Nat → ClassId} {τ : ty_T} {ρ : ty_R} {A : Nat → Prop} {H0 H : Heap} {locs : List Loc} {k j : Nat} {g : ty_F} (hG : TG D cy τ ρ A H0 H locs) {a : Nat} (ha : τ a = some (0, k)) (hg : (ty_fs k)[j]? = some g) : ∃ v, ρ a j v := by
  obtain ⟨⟨L, f, hP, hD, hdom, hok⟩, hS, hA⟩ := hG
  obtain ⟨fs, he, hlen, hv⟩ := (hok a _ ha).1 rfl
  have hjl : j < fs.length := by rw [hlen]; exact (List.getElem?_eq_some_iff.mp hg).1
  exact ⟨fs[j], (hv j g fs[j] hg (List.getElem?_eq_getElem hjl)).2⟩
/-- all places of a row of lines have names -/
def fA (F : Nat → Nat → Option Value) (lz : Nat) (lk : Nat → Nat) : Nat → Nat → Option Value := fun a j => if a = lz ∧ j < 12 then some (.ref (lk j)) else F a j
theorem tg_all {D : va_G} {cy : Nat → ClassId} {τ : ty_T} {ρ : ty_R} {F : Nat → Nat → Option Value} {A : Nat → Prop} {H0 H : Heap} {locs : List Loc} (hG : TG D cy τ (pv F ρ) A H0 H locs) {lz : Nat} (ha : τ lz = some (3, 12)) (hn : ∀ j, ¬ ρ lz j .null) : ∃ lk : Nat → Nat, (∀ j, j < 12 → τ (lk j) = some (0, 3) ∧ ρ lz j (.ref (lk j))) ∧ TG D cy τ (pv (fA F lz lk) ρ) A H0 H locs := by
  obtain ⟨⟨L, f, hP, hD, hdom, hok⟩, hS, hA⟩ := hG
  obtain ⟨g, he, hv⟩ := (hok lz _ ha).2.2.2 rfl
  have key : ∀ j, j < 12 → g j = some ((g j).getD 0) := fun j hj => by
    cases e : g j with
    | none => have h2 := (hv j hj).2.1; rw [e] at h2; exact absurd h2 (hn j)
    | some q => rfl
  have rv : ∀ j, j < 12 → va_rf (g j) = .ref ((g j).getD 0) := fun j hj => by
    have k := key j hj
    cases e : g j with
    | none => rw [e] at k; cases k
    | some q => rfl
  refine ⟨fun j => (g j).getD 0, fun j hj => ⟨(hv j hj).1 _ (key j hj), by have h2 := (hv j hj).2.1; rw [rv j hj] at h2; exact h2⟩, ⟨L, f, hP, hD, hdom, fun b t2 hb => ?_⟩, hS, hA⟩
  by_cases hba : b = lz
  · subst hba
    rw [ha] at hb
    cases hb
    refine ⟨(fun h => by cases h), (fun h => by cases h), (fun h => by cases h), fun _ => ⟨g, he, fun i hi => ⟨(hv i hi).1, (hv i hi).2.1, fun y hy => ?_⟩⟩⟩
    unfold fA at hy
    rw [if_pos ⟨rfl, hi⟩] at hy
    cases hy
    exact rv i hi
  · exact (hok b t2 hb).mono (fun i v h => ⟨h.1, fun y hy => h.2 y (by unfold fA at hy; rw [if_neg (fun z => hba z.1)] at hy; exact hy)⟩)
/-- the wires of all lines have names -/
def fB (τ : ty_T) (F : Nat → Nat → Option Value) (gt : Nat → Nat) : Nat → Nat → Option Value := fun a j => if τ a = some (0, 3) ∧ j = 0 then some (.ref (gt a)) else F a j
theorem tg_alg {D : va_G} {cy : Nat → ClassId} {τ : ty_T} {ρ : ty_R} {F : Nat → Nat → Option Value} {A : Nat → Prop} {H0 H : Heap} {locs : List Loc} (hG : TG D cy τ (pv F ρ) A H0 H locs) (hn : ∀ a, τ a = some (0, 3) → ¬ ρ a 0 .null) : ∃ gt : Nat → Nat, (∀ a, τ a = some (0, 3) → τ (gt a) = some (0, 8) ∧ pv F ρ a 0 (.ref (gt a))) ∧ TG D cy τ (pv (fB τ F gt) ρ) A H0 H locs := by
  obtain ⟨⟨L, f, hP, hD, hdom, hok⟩, hS, hA⟩ := hG
  have key : ∀ a, ∃ q, τ a = some (0, 3) → τ q = some (0, 8) ∧ pv F ρ a 0 (.ref q) ∧ ∀ fs : List Value, f a = .inr (3, fs) → fs[0]? = some (.ref q) := fun a => by
    by_cases ha : τ a = some (0, 3)
    · obtain ⟨fs, he, hlen, hv⟩ := (hok a _ ha).1 rfl
      have hjl : 0 < fs.length := by rw [hlen]; decide
      obtain ⟨hV, hR⟩ := hv 0 (2, 0, 8) fs[0] rfl (List.getElem?_eq_getElem hjl)
      rcases ty_V2 hV with hx | ⟨q, hx, hq⟩
      · rw [hx] at hR
        exact absurd hR.1 (hn a ha)
      · refine ⟨q, fun _ => ⟨hq, by rw [hx] at hR; exact hR, fun fs2 e2 => ?_⟩⟩
        rw [he] at e2
        cases e2
        rw [List.getElem?_eq_getElem hjl, hx]
    · exact ⟨0, fun h => absurd h ha⟩
  obtain ⟨gt, hgt⟩ : ∃ gt : Nat → Nat, ∀ a, τ a = some (0, 3) → τ (gt a) = some (0, 8) ∧ pv F ρ a 0 (.ref (gt a)) ∧ ∀ fs : List Value, f a = .inr (3, fs) → fs[0]? = some (.ref (gt a)) := ⟨fun a => Classical.choose (key a), fun a => Classical.choose_spec (key a)⟩
  refine ⟨gt, fun a ha => ⟨(hgt a ha).1, (hgt a ha).2.1⟩, ⟨L, f, hP, hD, hdom, fun b t2 hb => ?_⟩, hS, hA⟩
  by_cases hb3 : t2 = (0, 3)
  · subst hb3
    obtain ⟨fs, he, hlen, hv⟩ := (hok b _ hb).1 rfl
    refine ⟨fun _ => ⟨fs, he, hlen, fun i g v hg2 hi => ⟨(hv i g v hg2 hi).1, (hv i g v hg2 hi).2.1, fun y hy => ?_⟩⟩, (fun h => by cases h), (fun h => by cases h), (fun h => by cases h)⟩
    unfold fB at hy
    by_cases e : i = 0
    · subst e
      rw [if_pos ⟨hb, rfl⟩] at hy
      cases hy
      have z := (hgt b hb).2.2 fs he
      rw [hi] at z
      cases z
      rfl
    · rw [if_neg (fun z => e z.2)] at hy
      exact (hv i g v hg2 hi).2.2 y hy
  · exact (hok b t2 hb).mono (fun i v h => ⟨h.1, fun y hy => h.2 y (by unfold fB at hy; rw [if_neg (fun z => hb3 (by rw [hb] at z; cases z.1; rfl))] at hy; exact hy)⟩)
set_option maxHeartbeats 4000000 in
theorem law_split {D : va_G} {cy : Nat → ClassId} {t2 : ty_T} {r2 : ty_R} {A : Nat → Prop} {H0 H : Heap} {locs : List Loc} {xa : Nat} (hG : TG D cy t2 r2 A H0 H locs) (t2x : t2 xa = some (0, 9)) (ini : ∀ a t j v, t2 a = some t → r2 a j v → cnT (MM Kz 0 0 0 false false) t j v) (hdd : ∀ im i0 i1, t2 im = some (4, 2) → r2 xa 6 (.ref im) → r2 im 0 (.ref i0) → r2 im 1 (.ref i1) → i0 ≠ i1) (hrk : ∃ rk : Nat → Nat, (∀ a j v, a ≠ xa → tR cPx t2 a ≠ none → r2 a j (.ref v) → rk v = rk a) ∧ ∀ j v, r2 xa j (.ref v) → rk v = j) : ∃ (F : Nat → Nat → Option Value) (tx la nu tr dr wi ga im i0 i1 l0 l1 w0 w1 nw wn pa lz : Nat) (lk wl : Nat → Nat), TG D cy (tR cPx t2) (pv F (cn Mx (tR cPx t2))) A H0 H locs ∧ QQ (tR cPx t2) F xa tx la nu tr dr wi ga im i0 i1 l0 l1 w0 w1 nw wn pa lz lk wl (-1) Kz.1 Kz.2.2.2.2 false false 0 0 0 false 0 0 0 0 ∧ TG D cy (tR cPm t2) (cn (MM Kz 0 0 0 false false) (tR cPm t2)) A H0 H locs := by
  have hm := hG.part cPm_c (fun n h => by cases h) (fun n h => by cases h)
  obtain ⟨F0, tx, la, nu, tr, dr, wi, ga, h9, hp, s9, hy, fg0, fg1⟩ := law_split0 hG t2x ini
  obtain ⟨rk, K1, K2⟩ := hrk
  have hxa := hp.1
  have htr := hp.2.2.2.2.1
  have hdr := hp.2.2.2.2.2.1
  have hwi := hp.2.2.2.2.2.2.1
  have nn : ∀ a t j, tR cPx t2 a = some t → ¬ r2 a j .null := fun a t j ha h => (ini _ _ _ _ (tR_to ha).1 h).1 rfl
  have ne : ∀ {a b : Nat} {ta tb : ty_C}, tR cPx t2 a = some ta → tR cPx t2 b = some tb → ta ≠ tb → a ≠ b := fun h1 h2 h3 e => h3 (by rw [e, h2] at h1; cases h1; rfl)
  have ty : ∀ {a : Nat} {t : ty_C}, tR cPx t2 a = some t → tR cPx t2 a ≠ none := fun h z => by rw [h] at z; cases z
  have k_tr : rk tr = 2 := by
    obtain ⟨v, hv⟩ := tg_ex (j := 2) h9 hxa rfl
    have z := pv_rd hv hp.2.2.2.2.2.2.2.2.2.1
    subst z
    exact K2 2 _ hv.1
  have k_dr : rk dr = 2 := by
    obtain ⟨v, hv⟩ := tg_ex (j := 0) h9 htr rfl
    have z := pv_rd hv hp.2.2.2.2.2.2.2.2.2.2.1
    subst z
    exact (K1 tr 0 _ (ne htr hxa (by decide)) (ty htr) hv.1).trans k_tr
  have k_wi : rk wi = 2 := by
    obtain ⟨v, hv⟩ := tg_ex (j := 0) h9 hdr rfl
    have z := pv_rd hv hp.2.2.2.2.2.2.2.2.2.2.2.1
    subst z
    exact (K1 dr 0 _ (ne hdr hxa (by decide)) (ty hdr) hv.1).trans k_dr
  obtain ⟨nw, h_nw, r_nw, g_nw⟩ := tg_nmr (j := 1) (t := (0, 3)) h9 hxa rfl (fun z => nn _ _ _ hxa z.1)
  have g_nw := tg_fold g_nw
  have s_nw := sup_fu (j := 1) (x := .ref nw) s9 hxa (by decide)
  have k_nw : rk nw = 1 := K2 1 _ r_nw.1
  obtain ⟨pa, h_pa, r_pa, g_pa⟩ := tg_nmr (j := 3) (t := (0, 4)) g_nw hxa rfl (fun z => nn _ _ _ hxa z.1)
  have g_pa := tg_fold g_pa
  have s_pa := sup_fu (j := 3) (x := .ref pa) s_nw hxa (by decide)
  have k_pa : rk pa = 3 := K2 3 _ r_pa.1
  obtain ⟨im, h_im, r_im, g_im⟩ := tg_nmr (j := 6) (t := (4, 2)) g_pa hxa rfl (fun z => nn _ _ _ hxa z.1)
  have g_im := tg_fold g_im
  have s_im := sup_fu (j := 6) (x := .ref im) s_pa hxa (by decide)
  have k_im : rk im = 6 := K2 6 _ r_im.1
  obtain ⟨lz, h_lz, r_lz, g_lz⟩ := tg_nmr (j := 0) (t := (3, 12)) g_im h_pa rfl (fun z => nn _ _ _ h_pa z.1)
  have g_lz := tg_fold g_lz
  have s_lz := sup_fu (j := 0) (x := .ref lz) s_im h_pa (by decide)
  have k_lz : rk lz = 3 := (K1 pa 0 _ (ne h_pa hxa (by decide)) (ty h_pa) r_lz.1).trans k_pa
  obtain ⟨i0, h_i0, r_i0, g_i0⟩ := tg_nma (j := 0) (Or.inr rfl) g_lz h_im (by decide) (fun z => nn _ _ _ h_im z.1)
  have h_i0 : tR cPx t2 i0 = some (0, 2) := h_i0
  have g_i0 := tg_fold g_i0
  have s_i0 := sup_fu (j := 0) (x := .ref i0) s_lz h_im (by decide)
  have k_i0 : rk i0 = 6 := (K1 im 0 _ (ne h_im hxa (by decide)) (ty h_im) r_i0.1).trans k_im
  obtain ⟨i1, h_i1, r_i1, g_i1⟩ := tg_nma (j := 1) (Or.inr rfl) g_i0 h_im (by decide) (fun z => nn _ _ _ h_im z.1)
  have h_i1 : tR cPx t2 i1 = some (0, 2) := h_i1
  have g_i1 := tg_fold g_i1
  have s_i1 := sup_fu (j := 1) (x := .ref i1) s_i0 h_im (by decide)
  have k_i1 : rk i1 = 6 := (K1 im 1 _ (ne h_im hxa (by decide)) (ty h_im) r_i1.1).trans k_im
  obtain ⟨l0, h_l0, r_l0, g_l0⟩ := tg_nmr (j := 0) (t := (0, 3)) g_i1 h_i0 rfl (fun z => nn _ _ _ h_i0 z.1)
  have g_l0 := tg_fold g_l0
  have s_l0 := sup_fu (j := 0) (x := .ref l0) s_i1 h_i0 (by decide)
  have k_l0 : rk l0 = 6 := (K1 i0 0 _ (ne h_i0 hxa (by decide)) (ty h_i0) r_l0.1).trans k_i0
  obtain ⟨l1, h_l1, r_l1, g_l1⟩ := tg_nmr (j := 0) (t := (0, 3)) g_l0 h_i1 rfl (fun z => nn _ _ _ h_i1 z.1)
  have g_l1 := tg_fold g_l1
  have s_l1 := sup_fu (j := 0) (x := .ref l1) s_l0 h_i1 (by decide)
  have k_l1 : rk l1 = 6 := (K1 i1 0 _ (ne h_i1 hxa (by decide)) (ty h_i1) r_l1.1).trans k_i1
  obtain ⟨lk, h_lk, g_lk⟩ := tg_all g_l1 h_lz (fun j => nn _ _ j h_lz)
  have k_lk : ∀ j, j < 12 → rk (lk j) = 3 := fun j hj => (K1 lz j _ (ne h_lz hxa (by decide)) (ty h_lz) (h_lk j hj).2).trans k_lz
  obtain ⟨gt, h_gt, g_gt⟩ := tg_alg g_lk (fun a ha => nn _ _ 0 ha)
  have k_gt : ∀ a, tR cPx t2 a = some (0, 3) → rk (gt a) = rk a := fun a ha => K1 a 0 _ (ne ha hxa (by decide)) (ty ha) (h_gt a ha).2.1
  obtain ⟨Fz, eFz⟩ : ∃ f : Nat → Nat → Option Value, f = fB (tR cPx t2) (fA (fu (fu (fu (fu (fu (fu (fu (fu F0 xa 1 (.ref nw)) xa 3 (.ref pa)) xa 6 (.ref im)) pa 0 (.ref lz)) im 0 (.ref i0)) im 1 (.ref i1)) i0 0 (.ref l0)) i1 0 (.ref l1)) lz lk) gt := ⟨_, rfl⟩
  rw [← eFz] at g_gt
  have sz : SUP (tR cPx t2) Fz := by
    rw [eFz]
    refine ⟨fun a j ha => ?_, fun a t j ha hn => ?_⟩
    · unfold fB fA
      rw [if_neg (fun z => by rw [ha] at z; cases z.1), if_neg (fun z => by rw [z.1, h_lz] at ha; cases ha)]
      exact s_l1.1 a j ha
    · unfold fB fA
      rw [if_neg (fun z => by obtain ⟨z, rfl⟩ := z; rw [ha] at z; cases z; exact hn (by decide)), if_neg (fun z => by rw [z.1, h_lz] at ha; cases ha; exact hn (by show 6003 ∈ PC; decide))]
      exact s_l1.2 a t j ha hn
  have az : ∀ {a : Nat} {ta : ty_C} {j : Nat}, tR cPx t2 a = some ta → ta ≠ (0, 3) → ta ≠ (3, 12) → Fz a j = (fu (fu (fu (fu (fu (fu (fu (fu F0 xa 1 (.ref nw)) xa 3 (.ref pa)) xa 6 (.ref im)) pa 0 (.ref lz)) im 0 (.ref i0)) im 1 (.ref i1)) i0 0 (.ref l0)) i1 0 (.ref l1)) a j := fun hh h3 h12 => by
    rw [eFz]
    unfold fB fA
    rw [if_neg (fun z => by rw [hh] at z; cases z.1; exact h3 rfl), if_neg (fun z => by rw [z.1, h_lz] at hh; cases hh; exact h12 rfl)]
  have a3 : ∀ {a : Nat}, tR cPx t2 a = some (0, 3) → Fz a 0 = some (.ref (gt a)) := fun hh => by
    rw [eFz]
    unfold fB
    rw [if_pos ⟨hh, rfl⟩]
  have a3j : ∀ {a j : Nat}, tR cPx t2 a = some (0, 3) → j ≠ 0 → Fz a j = F0 a j := fun hh hj => by
    rw [eFz]
    unfold fB fA
    rw [if_neg (fun z => hj z.2), if_neg (fun z => by rw [z.1, h_lz] at hh; cases hh)]
    rw [fu_b (ne hh h_i1 (by decide)), fu_b (ne hh h_i0 (by decide)), fu_b (ne hh h_im (by decide)), fu_b (ne hh h_im (by decide)), fu_b (ne hh h_pa (by decide)), fu_b (ne hh hxa (by decide)), fu_b (ne hh hxa (by decide)), fu_b (ne hh hxa (by decide))]
  have eg : gt dr = wi := by
    have z := (h_gt dr hdr).2.2 (.ref wi) (by unfold fA; rw [if_neg (fun z => by rw [z.1, h_lz] at hdr; cases hdr), fu_b (ne hdr h_i1 (by decide)), fu_b (ne hdr h_i0 (by decide)), fu_b (ne hdr h_im (by decide)), fu_b (ne hdr h_im (by decide)), fu_b (ne hdr h_pa (by decide)), fu_b (ne hdr hxa (by decide)), fu_b (ne hdr hxa (by decide)), fu_b (ne hdr hxa (by decide))]; exact hp.2.2.2.2.2.2.2.2.2.2.2.1)
    cases z
    rfl
  have hne : i0 ≠ i1 := hdd im i0 i1 (tR_to h_im).1 r_im.1 r_i0.1 r_i1.1
  have f_nw : Fz xa 1 = some (.ref nw) := by rw [az hxa (by decide) (by decide), fu_b (ne hxa h_i1 (by decide)), fu_b (ne hxa h_i0 (by decide)), fu_b (ne hxa h_im (by decide)), fu_b (ne hxa h_im (by decide)), fu_b (ne hxa h_pa (by decide)), fu_j (by decide), fu_j (by decide), fu_at]
  have f_pa : Fz xa 3 = some (.ref pa) := by rw [az hxa (by decide) (by decide), fu_b (ne hxa h_i1 (by decide)), fu_b (ne hxa h_i0 (by decide)), fu_b (ne hxa h_im (by decide)), fu_b (ne hxa h_im (by decide)), fu_b (ne hxa h_pa (by decide)), fu_j (by decide), fu_at]
  have f_im : Fz xa 6 = some (.ref im) := by rw [az hxa (by decide) (by decide), fu_b (ne hxa h_i1 (by decide)), fu_b (ne hxa h_i0 (by decide)), fu_b (ne hxa h_im (by decide)), fu_b (ne hxa h_im (by decide)), fu_b (ne hxa h_pa (by decide)), fu_at]
  have f_lz : Fz pa 0 = some (.ref lz) := by rw [az h_pa (by decide) (by decide), fu_b (ne h_pa h_i1 (by decide)), fu_b (ne h_pa h_i0 (by decide)), fu_b (ne h_pa h_im (by decide)), fu_b (ne h_pa h_im (by decide)), fu_at]
  have f_i0 : Fz im 0 = some (.ref i0) := by rw [az h_im (by decide) (by decide), fu_b (ne h_im h_i1 (by decide)), fu_b (ne h_im h_i0 (by decide)), fu_j (by decide), fu_at]
  have f_i1 : Fz im 1 = some (.ref i1) := by rw [az h_im (by decide) (by decide), fu_b (ne h_im h_i1 (by decide)), fu_b (ne h_im h_i0 (by decide)), fu_at]
  have f_l0 : Fz i0 0 = some (.ref l0) := by rw [az h_i0 (by decide) (by decide), fu_b hne, fu_at]
  have f_l1 : Fz i1 0 = some (.ref l1) := by rw [az h_i1 (by decide) (by decide), fu_at]
  have f_lk : ∀ k, k < 12 → Fz lz k = some (.ref (lk k)) := fun k hk => by
    rw [eFz]
    unfold fB fA
    rw [if_neg (fun z => by rw [h_lz] at z; cases z.1), if_pos ⟨rfl, hk⟩]
  have hp2 : PF (tR cPx t2) Fz xa tx la nu tr dr wi ga Kz.1 Kz.2.2.2.2 := by
    obtain ⟨h1, h2, h3, h4, h5, h6, h7, h8, p1, p2, p3, p4, p5, p6⟩ := hp
    exact ⟨h1, h2, h3, h4, h5, h6, h7, h8, by rw [az h1 (by decide) (by decide), fu_b (ne h1 h_i1 (by decide)), fu_b (ne h1 h_i0 (by decide)), fu_b (ne h1 h_im (by decide)), fu_b (ne h1 h_im (by decide)), fu_b (ne h1 h_pa (by decide)), fu_j (by decide), fu_j (by decide), fu_j (by decide)]; exact p1, by rw [az h1 (by decide) (by decide), fu_b (ne h1 h_i1 (by decide)), fu_b (ne h1 h_i0 (by decide)), fu_b (ne h1 h_im (by decide)), fu_b (ne h1 h_im (by decide)), fu_b (ne h1 h_pa (by decide)), fu_j (by decide), fu_j (by decide), fu_j (by decide)]; exact p2, by rw [az h5 (by decide) (by decide), fu_b (ne h5 h_i1 (by decide)), fu_b (ne h5 h_i0 (by decide)), fu_b (ne h5 h_im (by decide)), fu_b (ne h5 h_im (by decide)), fu_b (ne h5 h_pa (by decide)), fu_b (ne h5 hxa (by decide)), fu_b (ne h5 hxa (by decide)), fu_b (ne h5 hxa (by decide))]; exact p3, (a3 h6).trans (by rw [eg]), (a3j h6 (by decide)).trans p5, by rw [az h2 (by decide) (by decide), fu_b (ne h2 h_i1 (by decide)), fu_b (ne h2 h_i0 (by decide)), fu_b (ne h2 h_im (by decide)), fu_b (ne h2 h_im (by decide)), fu_b (ne h2 h_pa (by decide)), fu_b (ne h2 hxa (by decide)), fu_b (ne h2 hxa (by decide)), fu_b (ne h2 hxa (by decide))]; exact p6.1, by rw [az h2 (by decide) (by decide), fu_b (ne h2 h_i1 (by decide)), fu_b (ne h2 h_i0 (by decide)), fu_b (ne h2 h_im (by decide)), fu_b (ne h2 h_im (by decide)), fu_b (ne h2 h_pa (by decide)), fu_b (ne h2 hxa (by decide)), fu_b (ne h2 hxa (by decide)), fu_b (ne h2 hxa (by decide))]; exact p6.2.1, by rw [az h2 (by decide) (by decide), fu_b (ne h2 h_i1 (by decide)), fu_b (ne h2 h_i0 (by decide)), fu_b (ne h2 h_im (by decide)), fu_b (ne h2 h_im (by decide)), fu_b (ne h2 h_pa (by decide)), fu_b (ne h2 hxa (by decide)), fu_b (ne h2 hxa (by decide)), fu_b (ne h2 hxa (by decide))]; exact p6.2.2.1, fun j hj => absurd hj (Nat.not_lt_zero _)⟩
  have hy2 : Fz xa 7 = some (.int (-1)) := by rw [az hxa (by decide) (by decide), fu_b (ne hxa h_i1 (by decide)), fu_b (ne hxa h_i0 (by decide)), fu_b (ne hxa h_im (by decide)), fu_b (ne hxa h_im (by decide)), fu_b (ne hxa h_pa (by decide)), fu_j (by decide), fu_j (by decide), fu_j (by decide)]; exact hy
  have h_gn := (h_gt nw h_nw).1
  have v0 := tg_addi (j := 2) (x := .int (bI false)) g_gt h_i0 (fun v hv => ((ini _ _ _ _ (tR_to h_i0).1 hv).2.2).elim (fun z => by cases z) (fun z => z.trans (by rfl)))
  have u0 := sup_fu (j := 2) (x := .int (bI false)) sz h_i0 (by decide)
  have v1 := tg_addi (j := 2) (x := .int (bI false)) v0 h_i1 (fun v hv => ((ini _ _ _ _ (tR_to h_i1).1 hv).2.2).elim (fun z => by cases z) (fun z => z.trans (by rfl)))
  have u1 := sup_fu (j := 2) (x := .int (bI false)) u0 h_i1 (by decide)
  have v2 := tg_addi (j := 1) (x := .int (nI 0)) v1 h_pa (fun v hv => ((ini _ _ _ _ (tR_to h_pa).1 hv).2.2).elim (fun z => by cases z) (fun z => z.trans (by rfl)))
  have u2 := sup_fu (j := 1) (x := .int (nI 0)) u1 h_pa (by decide)
  have v3 := tg_addi (j := 2) (x := .int (nI 0)) v2 h_pa (fun v hv => ((ini _ _ _ _ (tR_to h_pa).1 hv).2.2).elim (fun z => by cases z) (fun z => z.trans (by rfl)))
  have u3 := sup_fu (j := 2) (x := .int (nI 0)) u2 h_pa (by decide)
  have v4 := tg_addi (j := 7) (x := .int (nI 0)) v3 h_gn (fun v hv => ((ini _ _ _ _ (tR_to h_gn).1 hv).2.2).elim (fun z => by cases z) (fun z => z.trans (by rfl)))
  have u4 := sup_fu (j := 7) (x := .int (nI 0)) u3 h_gn (by decide)
  have v5 := tg_addi (j := 2) (x := .int (bI false)) v4 h_nw (fun v hv => ((ini _ _ _ _ (tR_to h_nw).1 hv).2.2).elim (fun z => by cases z) (fun z => z.trans (by rfl)))
  have u5 := sup_fu (j := 2) (x := .int (bI false)) u4 h_nw (by decide)
  have v6 := tg_addi (j := 3) (x := .int (nI 0)) v5 h_nw (fun v hv => ((ini _ _ _ _ (tR_to h_nw).1 hv).2.2).elim (fun z => by cases z) (fun z => z.trans (by rfl)))
  have u6 := sup_fu (j := 3) (x := .int (nI 0)) u5 h_nw (by decide)
  have v7 := tg_addi (j := 8) (x := .int (0)) v6 hxa (fun v hv => ((ini _ _ _ _ (tR_to hxa).1 hv).2.2).elim (fun z => by cases z) (fun z => z.trans (by rfl)))
  have u7 := sup_fu (j := 8) (x := .int (0)) u6 hxa (by decide)
  have q0 : AGR QS (tR cPx t2) Fz (fu (fu (fu (fu (fu (fu (fu (fu (Fz) i0 2 (.int (bI false))) i1 2 (.int (bI false))) pa 1 (.int (nI 0))) pa 2 (.int (nI 0))) (gt nw) 7 (.int (nI 0))) nw 2 (.int (bI false))) nw 3 (.int (nI 0))) xa 8 (.int (0))) := ((((((((AGR.rf.ad h_i0 (by decide)).ad h_i1 (by decide)).ad h_pa (by decide)).ad h_pa (by decide)).ad h_gn (by decide)).ad h_nw (by decide)).ad h_nw (by decide)).ad hxa (by decide))
  have nwd : nw ≠ dr := fun z => by rw [z, k_dr] at k_nw; cases k_nw
  have ngn : gt nw ≠ wi := fun z => by have q := k_gt nw h_nw; rw [z, k_wi, k_nw] at q; cases q
  have r0 : RQ (tR cPx t2) Fz xa wi dr im i0 i1 l0 l1 (gt l0) (gt l1) nw (gt nw) pa lz lk (fun k => gt (lk k)) := ⟨⟨h_nw, h_gn, h_pa, h_lz, fun k hk => ⟨(h_lk k hk).1, (h_gt _ (h_lk k hk).1).1⟩, f_nw, f_pa, a3 h_nw, f_lz, fun k hk => ⟨f_lk k hk, a3 (h_lk k hk).1⟩⟩, ⟨h_im, h_i0, h_i1, hne, f_im, f_i0, f_i1⟩, ⟨h_l0, h_l1, (h_gt _ h_l0).1, (h_gt _ h_l1).1, f_l0, f_l1, a3 h_l0, a3 h_l1⟩, ⟨nwd, ngn, (fun k hk => ⟨(fun z => by have q := k_lk k hk; rw [z, k_dr] at q; cases q), (fun z => by have q := k_gt _ (h_lk k hk).1; rw [show gt (lk k) = wi from z, k_wi, k_lk k hk] at q; cases q)⟩), (fun z => by rw [z, k_dr] at k_l0; cases k_l0), (fun z => by have q := k_gt l0 h_l0; rw [z, k_wi, k_l0] at q; cases q), (fun z => by rw [z, k_dr] at k_l1; cases k_l1), (fun z => by have q := k_gt l1 h_l1; rw [z, k_wi, k_l1] at q; cases q)⟩, hwi, hdr, hxa⟩
  refine ⟨_, tx, la, nu, tr, dr, wi, ga, im, i0, i1, l0, l1, gt l0, gt l1, nw, gt nw, pa, lz, lk, fun k => gt (lk k), v7.mono (fun a t j v ha z => ⟨?_, z.2⟩), ⟨pf_ex hp2 (q0.sub (by decide)), u7, (q0 _ _ 7 hxa (by decide)).trans hy2, rq_ex r0 (q0.sub (by decide)), ⟨by omega, by omega, by omega, ?_, ?_, ⟨?_, ?_, 0, Nat.le_refl _, ?_⟩, fun k q1 q2 => absurd q2 (by omega)⟩, ⟨?_, ?_, ?_⟩, ?_, ?_, (fun q => by cases q), (fun q => by cases q), ?_⟩, hm.mono (fun a t j v ha hv => ?_)⟩
  · have k := ini a t j v (tR_to ha).1 z.1
    refine ⟨k.1, fun t3 x h4 e lo hi hr => ?_⟩
    rw [ha] at h4
    cases h4
    exact k.2.1 x e lo hi (rgd_sub (M := MM Kz 0 0 0 false false) (M' := Mx) (fun n j r z => by cases z) hr)
  · rw [fu_j (by decide), fu_j (by decide), fu_j (by decide), fu_j (by decide), fu_j (by decide), fu_at]
  · rw [fu_j (by decide), fu_j (by decide), fu_b (ne h_pa h_nw (by decide)), fu_j (by decide), fu_at]
  · rw [fu_j (by decide), fu_j (by decide), fu_j (by decide), fu_at]
  · rw [fu_j (by decide), fu_j (by decide), fu_at]
  · rw [fu_j (by decide), fu_at]
  · rw [fu_j (by decide), fu_j (by decide), fu_j (by decide), fu_b (Ne.symm ngn), fu_j (by decide), fu_j (by decide), fu_j (by decide), fu_j (by decide), az hwi (by decide) (by decide), fu_b (ne hwi h_i1 (by decide)), fu_b (ne hwi h_i0 (by decide)), fu_b (ne hwi h_im (by decide)), fu_b (ne hwi h_im (by decide)), fu_b (ne hwi h_pa (by decide)), fu_b (ne hwi hxa (by decide)), fu_b (ne hwi hxa (by decide)), fu_b (ne hwi hxa (by decide))]
    exact fg0 wi hwi
  · rw [fu_j (by decide), fu_j (by decide), fu_b (Ne.symm nwd), fu_j (by decide), fu_b (ne hdr h_pa (by decide)), fu_j (by decide), fu_b (ne hdr h_i1 (by decide)), fu_b (ne hdr h_i0 (by decide)), a3j hdr (by decide)]
    exact (fg1 dr hdr).1
  · rw [fu_j (by decide), fu_b (Ne.symm nwd), fu_j (by decide), fu_j (by decide), fu_j (by decide), fu_j (by decide), fu_j (by decide), fu_j (by decide), a3j hdr (by decide)]
    exact (fg1 dr hdr).2
  · rw [fu_j (by decide), fu_j (by decide), fu_b (ne h_i0 h_nw (by decide)), fu_j (by decide), fu_b (ne h_i0 h_pa (by decide)), fu_j (by decide), fu_b hne, fu_at]
  · rw [fu_j (by decide), fu_j (by decide), fu_b (ne h_i1 h_nw (by decide)), fu_j (by decide), fu_b (ne h_i1 h_pa (by decide)), fu_j (by decide), fu_at]
  · rw [fu_at]
  · have k := ini a t j v (tR_to ha).1 hv
    refine ⟨k.1, fun t3 x h4 e => ?_⟩
    rw [ha] at h4
    cases h4
    exact k.2.1 x e
section LAWL
variable {p : Program} {l : Launch} {e : Env} {R : Room} {s : State} {m : MethodId} {args : Array Value} {below : List Frame} {meth : Method} {c : Code} {H : Heap} {locs : List Loc} {cells slots : Nat} {Q : State → Prop} {cc : ByteArray} {pc : Nat} {ls : Array Slot} {rest : List Value} {D : va_G} {cy : Nat → ClassId} {own : String} {nL : Nat}
/-- the script's int at x + j -/
def sv (xs : Nat → Int32) (x : Int32) (j : Int) : Int32 := xs (x + Int32.ofInt j).toNatClampNeg
theorem vp_inI {x : Int32} {L : Nat} (h1 : 0 ≤ x.toInt) (h2 : x.toInt < L) : vp_in x L := cI_in ⟨h1, h2⟩
theorem lw_arg {b L xa ma : Nat} {xs : Nat → Int32} {x : Int32} {j : Int} (X : ty_X p c s m args cc own nL D cy) (hX : va_X b L xs s s.heap) (hbl : b < s.heap.size) (hL : L ≤ 2048) (hl : lv_has ls nL [(0, .ref b), (1, .ref xa), (2, .ref ma), (3, .int x)]) (hx : 0 ≤ x.toInt ∧ x.toInt + 4 ≤ L) (hS : va_S (fun q => s.heap.size ≤ q) s.heap H locs) (hj : 0 ≤ j ∧ j ≤ 3) (d0 : decode cc pc = .ok (.aload_n 0, 1)) (d1 : decode cc (pc + 1) = .ok (.iload_n 3, 1)) (d2 : decode cc (pc + 2) = .ok (.iconst j, 1)) (d3 : decode cc (pc + 3) = .ok (.iadd, 1)) (d4 : decode cc (pc + 4) = .ok (.iaload, 1))
    (kk : ∀ v : Int32, v = sv xs x j → W p l e R s m args below meth c H locs cells slots Q (F0 m (pc + 5) ls (.int v :: rest))) : W p l e R s m args below meth c H locs cells slots Q (F0 m pc ls rest) := by
  refine lv_aload_n X.1 X.2.1 d0 rfl (lv_at hl 0 rfl) ?_
  refine lv_iload_n X.1 X.2.1 d1 rfl (lv_at hl 3 rfl) ?_
  refine lv_iconst X.1 X.2.1 d2 rfl ?_
  refine lv_iadd X.1 X.2.1 d3 ?_
  have ej : (Int32.ofInt j).toInt = j := cI_of (by omega) (by omega)
  have e1 : (x + Int32.ofInt j).toInt = x.toInt + j := by
    rw [cI_add (by omega) (by omega), ej]
  exact va_sld X.1 X.2.1 hX hbl (Nat.not_le.mpr hbl) hS (vp_inI (by omega) (by omega)) d4 (kk _ rfl)
/-- 'is it not 0', as 1 or 0 -/
theorem lw_nz {y : Int32} (X : ty_X p c s m args cc own nL D cy) (d0 : decode cc pc = .ok (.ifCond .eq 7, 3)) (d1 : decode cc (pc + 3) = .ok (.iconst 1, 1)) (d2 : decode cc (pc + 4) = .ok (.goto 4, 3)) (d3 : decode cc (pc + 7) = .ok (.iconst 0, 1))
    (kk : ∀ v : Int32, (v.toInt = 0 ∨ v.toInt = 1) → W p l e R s m args below meth c H locs cells slots Q (F0 m (pc + 8) ls (.int v :: rest))) : W p l e R s m args below meth c H locs cells slots Q (F0 m pc ls (.int y :: rest)) := by
  refine n_if_eq (tgt := pc + 7) X d0 (by omega) (fun _ => ?_) (fun _ => ?_)
  · exact n_ic X d3 (by decide) (by decide) (fun v hv => kk v (Or.inl hv))
  · refine n_ic X d1 (by decide) (by decide) (fun v hv => ?_)
    exact lv_goto (tgt := pc + 8) X.1 X.2.1 d2 (by omega) (kk v (Or.inr hv))
end LAWL
