def R_law : String := "EdgeEchoesLaw"
def lw_P (b : Addr) (xs : List Int32) (args : Array Value) (s : State) : Prop := args = #[.ref b] ∧ s.IntsAt b xs ∧ xs.length ≤ 2048 ∧ (Jvm.Cond.and given_1 narrow_1).before args s = true
def lw_Q (_ : Array Value) (s : State) (o : Outcome) (t : State) : Prop := o = .returned (some (.int 1)) ∧ Framed s o t [] 138320 8687290
def lw_Z (below : List Frame) (a : Array Value) (s : State) : State → Prop := fun t => ∃ o, t.status = .running ∧ Ended t below o ∧ lw_Q a s o t
/-- the law's own end, with 1 on the stack, nothing written that was there before, its room as the claim has it -/
theorem lw_ret {p : Program} {l : Launch} {e : Env} {s : State} {m : MethodId} {below : List Frame} {meth : Method} {c : Code} {b : Nat} (hx : p.tables.exec = Jvm.exec) (hb : c.code = code) (hr : meth.sig.returnType = ret) (hlocks : meth.locks = false) {pc : Nat} {H : Heap} {ls : Array Slot} (hdg : decode code pc = .ok (.ireturn, 1)) : W p l e room_1 s m #[Value.ref b] below meth c H [] 138320 8687290 (lw_Z below #[Value.ref b] s) (F0 m pc ls [.int 1]) := by
  intro T hT X
  obtain ⟨fs, hret, hrun, hended, hW, hframe⟩ := X.leave (v := some (.int 1)) (hlocks := hlocks) (fun h => by rw [hr] at h; cases h)
  have hmeth' : T.vm.method? m = some meth := X.method'
  refine ⟨T.setFrames fs, ?_, .returned (some (.int 1)), hrun, hended, rfl, ⟨_, rfl⟩, hW, hframe⟩
  jvm_step X.here [X.here.top, hx, hb, hdg, hmeth', hr, ret, narrow_b1]
  (try refine ⟨rfl, ?_⟩); (try refine ⟨rfl, ?_⟩)
  first | (intro acts; rw [hret _ acts rfl rfl rfl]) | rw [hret _ _ rfl rfl rfl]
  exact Steps.refl _
/-- what holds at the law's entry: the machine, the code, the tables' words (any of lw_tbl by 'hts w (by decide +kernel)'), the script of L ints xs at the cell b, what the Statement gives of the start (any of its parts by flat_of_before) -/
def lw_At (p : Program) (s : State) (m : MethodId) (meth : Method) (c : Code) (b L : Nat) (xs : Nat → Int32) : Prop :=
  p.tables.exec = Jvm.exec ∧ c.code = code ∧ meth.sig.returnType = ret ∧ c.maxLocals = 4 ∧ s.vm.findClass R_law = some m.cls ∧ (∀ w ∈ lw_tbl, w.before #[Value.ref b] s = true) ∧ va_X b L xs s s.heap ∧ b < s.heap.size ∧ meth.locks = false ∧ (Jvm.Cond.and given_1 narrow_1).before #[Value.ref b] s = true
/-- the class's bounds rest on nothing of the reference's -/
def Mx : md_T := fun _ _ => none
/-- what is known of the class besides: where its text is, how long it is, its letters -/
def cx (xa tx la c : Nat) (T : Nat → Int32) : ty_R := fun b j v => (b = xa → j = 0 → v = .ref tx) ∧ (b = tx → (j = 0 → v = .ref la) ∧ (j = 2 → v = .int (nI c))) ∧ (b = la → j < c → v = .int (T j))
def cx0 (xa tx la : Nat) : ty_R := fun b j v => (b = xa → j = 0 → v = .ref tx) ∧ (b = tx → j = 0 → v = .ref la)
def DJ (τ τm : ty_T) : Prop := ∀ a, τ a = none ∨ τm a = none
/-- between two calls of the law: each side's typed heap, the reference's counts, the class's text as the reference's -/
def LJ (D : va_G) (cy : Nat → ClassId) (s : State) (xa ma : Nat) (H : Heap) (locs : List Loc) : Prop :=
  ∃ (τ τm : ty_T) (tx la : Nat) (K : KT) (P N u : Nat) (k0 k1 : Bool), TG D cy τ (pn (cx xa tx la K.1 K.2.2.2.2) (cn Mx τ)) (fun q => s.heap.size ≤ q) s.heap H locs ∧ TG D cy τm (cn (MM K P N u k0 k1) τm) (fun q => s.heap.size ≤ q) s.heap H locs ∧ OKG K P N u ∧ UQ τm ∧ τ xa = some (0, 9) ∧ τ tx = some (0, 6) ∧ τ la = some (8, 240) ∧ τm ma = some (0, 10) ∧ DJ τ τm ∧ ∀ a n, τ a = some (1, n) → n < 2147483648
section LAW2
variable {τ τm : ty_T} {xa tx la c : Nat} {T : Nat → Int32} {S : List Nat} {D : va_G} {cy : Nat → ClassId} {A : Nat → Prop} {H0 H : Heap} {locs : List Loc}
theorem cx_F (hxa : τ xa = some (0, 9)) (htx : τ tx = some (0, 6)) (hla : τ la = some (8, 240)) (h1 : 900 ∉ S) (h2 : 600 ∉ S) (h3 : 602 ∉ S) (h4 : 6008 ∉ S) : ∀ a t j x, τ a = some t → ty_cd t j ∈ S → cx xa tx la c T a j (.int x) := fun a t j x ht hS => by
  refine ⟨fun e1 e2 => ?_, fun e1 => ⟨fun e2 => ?_, fun e2 => ?_⟩, fun e1 e2 => ?_⟩
  · subst e1; subst e2; rw [hxa] at ht; cases ht; exact absurd hS h1
  · subst e1; subst e2; rw [htx] at ht; cases ht; exact absurd hS h2
  · subst e1; subst e2; rw [htx] at ht; cases ht; exact absurd hS h3
  · subst e1; rw [hla] at ht; cases ht; exact absurd hS h4
theorem cx0_F (hxa : τ xa = some (0, 9)) (htx : τ tx = some (0, 6)) (h1 : 900 ∉ S) (h2 : 600 ∉ S) : ∀ a t j x, τ a = some t → ty_cd t j ∈ S → cx0 xa tx la a j (.int x) := fun a t j x ht hS => by
  refine ⟨fun e1 e2 => ?_, fun e1 e2 => ?_⟩
  · subst e1; subst e2; rw [hxa] at ht; cases ht; exact absurd hS h1
  · subst e1; subst e2; rw [htx] at ht; cases ht; exact absurd hS h2
theorem cx_PO (hxa : τ xa = some (0, 9)) (htx : τ tx = some (0, 6)) (hla : τ la = some (8, 240)) : PO τ (cx xa tx la c T) := by
  refine ⟨cx_F hxa htx hla (by decide) (by decide) (by decide) (by decide), fun a v ha => ?_, fun a j v ha => ?_⟩
  · refine ⟨(fun e1 e2 => by cases e2), (fun e1 => ⟨(fun e2 => by cases e2), (fun e2 => by cases e2)⟩), fun e1 e2 => ?_⟩
    rw [e1, hla] at ha
    cases ha
  · refine ⟨fun e1 e2 => ?_, fun e1 => ?_, fun e1 e2 => ?_⟩
    · rw [e1, hxa] at ha; cases ha
    · rw [e1, htx] at ha; cases ha
    · rw [e1, hla] at ha; cases ha
theorem cx_x : ∀ v, pn (cx xa tx la c T) (cn Mx τ) xa 0 v → v = .ref tx := fun v h => h.2.1 rfl rfl
theorem cx_0 : ∀ v, pn (cx xa tx la c T) (cn Mx τ) tx 0 v → v = .ref la := fun v h => (h.2.2.1 rfl).1 rfl
theorem cx_2 : ∀ v, pn (cx xa tx la c T) (cn Mx τ) tx 2 v → v = .int (nI c) := fun v h => (h.2.2.1 rfl).2 rfl
theorem cx_w : ∀ a t j v, τ a = some t → pn (cx xa tx la c T) (cn Mx τ) a j v → pn (cx0 xa tx la) (cn Mx τ) a j v := fun a t j v _ h => ⟨h.1, h.2.1, fun e => (h.2.2.1 e).1⟩
theorem cx_l (htx : τ tx = some (0, 6)) : ∀ a t j v, τ a = some t → rP (pn (cx0 xa tx la) (cn Mx τ)) tx 2 (.int 0) a j v → pn (cx xa tx la 0 T) (cn Mx τ) a j v := fun a t j v ha h => by
  by_cases e : a = tx ∧ j = 2
  · obtain ⟨rfl, rfl⟩ := e
    have e2 := rP_at h
    subst e2
    refine ⟨⟨(fun z => by cases z), fun t2 x h2 e2 => ?_⟩, (fun e3 e4 => by cases e4), fun _ => ⟨(fun e3 => by cases e3), fun _ => by rw [nI_0]⟩, fun e3 e4 => absurd e4 (Nat.not_lt_zero _)⟩
    rw [htx] at h2
    cases h2
    exact ty_rno rfl
  · have h := rP_ne e h
    exact ⟨h.1, h.2.1, fun e3 => ⟨h.2.2 e3, fun e4 => absurd ⟨e3, e4⟩ e⟩, fun e3 e4 => absurd e4 (Nat.not_lt_zero _)⟩
theorem DJ.up {t : ty_T} (h : DJ τ τm) (hn : ∀ a, t a ≠ none → (τ a ≠ none ∨ H.size ≤ a)) (hl : ∀ a, τm a ≠ none → a < H.size) : DJ t τm := fun a => by
  cases e : t a with
  | none => exact Or.inl rfl
  | some y =>
    right
    rcases hn a (by rw [e]; intro z; cases z) with z | z
    · exact (h a).resolve_left z
    · cases e2 : τm a with
      | none => rfl
      | some w => exact absurd (hl a (by rw [e2]; intro z; cases z)) (Nat.not_lt.mpr z)
theorem feed_ok {K : KT} {P N u : Nat} {x : Int32} (ok : OKG K P N u) : OKG (feedS K x) P N u := by
  by_cases h : (x.toInt < 0 ∨ 255 < x.toInt) ∨ K.1 = 240
  · rw [feedS_n h]
    exact ok
  · rw [feedS_y h]
    have := ok.1.2.1
    exact ⟨⟨ok.1.1, (show K.1 + 1 ≤ 240 by omega), ok.1.2.2⟩, ok.2⟩
theorem cx_feed {K : KT} {x : Int32} {u : ty_R} (hxa : τ xa = some (0, 9)) (htx : τ tx = some (0, 6)) (hla : τ la = some (8, 240)) (hk : K.1 ≤ 240) (q1 : ((x.toInt < 0 ∨ 255 < x.toInt) ∨ (nI K.1).toInt = 240) → u = pn (cx xa tx la K.1 K.2.2.2.2) (cn Mx τ)) (q2 : ¬ ((x.toInt < 0 ∨ 255 < x.toInt) ∨ (nI K.1).toInt = 240) → u = rP (rP (pn (cx xa tx la K.1 K.2.2.2.2) (cn Mx τ)) la (nI K.1).toNatClampNeg (.int x)) tx 2 (.int (nI K.1 + 1))) (hG : TG D cy τ u A H0 H locs) : TG D cy τ (pn (cx xa tx la (feedS K x).1 (feedS K x).2.2.2.2) (cn Mx τ)) A H0 H locs := by
  have ec : (nI K.1).toInt = (K.1 : Int) := cI_nI (by omega)
  by_cases h : (x.toInt < 0 ∨ 255 < x.toInt) ∨ K.1 = 240
  · rw [feedS_n h]
    rw [q1 (by omega)] at hG
    exact hG
  · rw [feedS_y h]
    rw [q2 (by omega)] at hG
    have ei : (nI K.1).toNatClampNeg = K.1 := nI_clamp (by omega)
    have n1 : xa ≠ tx := fun z => by rw [z, htx] at hxa; cases hxa
    have n2 : xa ≠ la := fun z => by rw [z, hla] at hxa; cases hxa
    have n3 : tx ≠ la := fun z => by rw [z, hla] at htx; cases htx
    rw [ei] at hG
    refine hG.mono (fun a t j v ha hv => ?_)
    by_cases e : a = tx ∧ j = 2
    · obtain ⟨rfl, rfl⟩ := e
      have e2 := rP_at hv
      subst e2
      refine ⟨⟨(fun z => by cases z), fun t2 y h2 e2 => ?_⟩, (fun e3 e4 => by cases e4), fun _ => ⟨(fun e3 => by cases e3), fun _ => by rw [nI_1]; rfl⟩, fun e3 e4 => absurd e3 n3⟩
      rw [htx] at h2
      cases h2
      exact ty_rno rfl
    have hv := rP_ne e hv
    by_cases e2 : a = la ∧ j = K.1
    · obtain ⟨rfl, rfl⟩ := e2
      have e2 := rP_at hv
      subst e2
      refine ⟨⟨(fun z => by cases z), fun t2 y h2 e2 => ?_⟩, (fun e3 e4 => absurd e3.symm n2), (fun e3 => absurd e3.symm n3), fun e3 e4 => ?_⟩
      · rw [hla] at h2
        cases h2
        exact ty_rno rfl
      · show Value.int x = .int (if K.1 = K.1 then x else K.2.2.2.2 K.1)
        rw [if_pos rfl]
    have hv := rP_ne e2 hv
    refine ⟨hv.1, hv.2.1, fun e3 => ⟨(hv.2.2.1 e3).1, fun e4 => absurd ⟨e3, e4⟩ e⟩, fun e3 e4 => ?_⟩
    have nj : j ≠ K.1 := fun z => e2 ⟨e3, z⟩
    have e4 : j < K.1 + 1 := e4
    rw [hv.2.2.2 e3 (by omega)]
    show _ = Value.int (if j = K.1 then x else K.2.2.2.2 j)
    rw [if_neg nj]
end LAW2
def cPx (t : ty_C) : Bool := decide (t.1 < 10) && !(decide (t.1 = 0) && decide (10 ≤ t.2))
def cPm (t : ty_C) : Bool := !(cPx t)
theorem law_dj {t : ty_T} : DJ (tR cPx t) (tR cPm t) := fun a => by
  cases e : tR cPx t a with
  | none => exact Or.inl rfl
  | some y =>
    right
    cases e2 : tR cPm t a with
    | none => rfl
    | some w =>
      obtain ⟨h1, h2⟩ := tR_to e
      obtain ⟨h3, h4⟩ := tR_to e2
      rw [h1] at h3
      cases h3
      unfold cPm at h4
      rw [h2] at h4
      cases h4
theorem cPx_k {k : Nat} (h : cPx (0, k) = true) : k < 10 := by
  rcases Nat.lt_or_ge k 10 with z | z
  · exact z
  · have e : cPx (0, k) = !(decide (10 ≤ k)) := rfl
    rw [e, decide_eq_true z] at h
    cases h
theorem cPm_k {k : Nat} (h : cPm (0, k) = true) : 10 ≤ k := by
  rcases Nat.lt_or_ge k 10 with z | z
  · have e : cPm (0, k) = !(!(decide (10 ≤ k))) := rfl
    rw [e, decide_eq_false (Nat.not_le.mpr z)] at h
    cases h
  · exact z
theorem cPx_c : ∀ k g, cPx (0, k) = true → g ∈ ty_fs k → (g.1 = 2 → cPx g.2 = true) ∧ (g.1 = 3 → ∀ n, cPx (1, n) = true) := by
  intro k g hk hg
  have all : ∀ k, k < 10 → ∀ g ∈ ty_fs k, g.1 = 2 → cPx g.2 = true := by decide +kernel
  exact ⟨fun h2 => all k (cPx_k hk) g hg h2, fun _ n => rfl⟩
theorem cPm_c : ∀ k g, cPm (0, k) = true → g ∈ ty_fs k → (g.1 = 2 → cPm g.2 = true) ∧ (g.1 = 3 → ∀ n, cPm (1, n) = true) := by
  intro k g hk hg
  have e : ty_fs k = ty_fs 10 := by
    match k, cPm_k hk with
    | n + 10, _ => rfl
  rw [e] at hg
  have all : ∀ g ∈ ty_fs 10, (g.1 = 2 → cPm g.2 = true) ∧ g.1 ≠ 3 := by decide +kernel
  exact ⟨fun h2 => (all g hg).1 h2, fun h3 => absurd h3 (all g hg).2⟩
/-- a field that is no null has a name -/
theorem tg_pinr {D : va_G} {cy : Nat → ClassId} {τ : ty_T} {ρ : ty_R} {A : Nat → Prop} {H0 H : Heap} {locs : List Loc} {k j : Nat} {t : ty_C} (hG : TG D cy τ ρ A H0 H locs) {a : Nat} (ha : τ a = some (0, k)) (hg : (ty_fs k)[j]? = some (2, t)) (hn : ¬ ρ a j .null) : ∃ q, τ q = some t ∧ TG D cy τ (pn (fun b i v => b = a → i = j → v = .ref q) ρ) A H0 H locs := by
  obtain ⟨⟨L, f, hP, hD, hdom, hok⟩, hS, hA⟩ := hG
  obtain ⟨fs, he, hlen, hv⟩ := (hok a _ ha).1 rfl
  have hjl : j < fs.length := by rw [hlen]; exact (List.getElem?_eq_some_iff.mp hg).1
  obtain ⟨hV, hR⟩ := hv j (2, t) fs[j] hg (List.getElem?_eq_getElem hjl)
  rcases ty_V2 hV with hx | ⟨q, hx, hq⟩
  · rw [hx] at hR
    exact absurd hR hn
  · refine ⟨q, hq, ⟨L, f, hP, hD, hdom, fun b t2 hb => ?_⟩, hS, hA⟩
    by_cases hba : b = a
    · subst hba
      rw [ha] at hb
      cases hb
      refine ⟨fun _ => ⟨fs, he, hlen, fun i g v hg2 hi => ⟨(hv i g v hg2 hi).1, (hv i g v hg2 hi).2, fun _ e => ?_⟩⟩, (fun h => by cases h), (fun h => by cases h), (fun h => by cases h)⟩
      subst e
      rw [List.getElem?_eq_getElem hjl] at hi
      cases hi
      exact hx
    · exact (hok b t2 hb).mono (fun i v h => ⟨h, fun e => absurd e hba⟩)
theorem law_split {D : va_G} {cy : Nat → ClassId} {t2 : ty_T} {r2 : ty_R} {A : Nat → Prop} {H0 H : Heap} {locs : List Loc} {xa : Nat} (hG : TG D cy t2 r2 A H0 H locs) (t2x : t2 xa = some (0, 9)) (ini : ∀ a t j v, t2 a = some t → r2 a j v → cnT (MM Kz 0 0 0 false false) t j v) : ∃ tx la, tR cPx t2 tx = some (0, 6) ∧ tR cPx t2 la = some (8, 240) ∧ TG D cy (tR cPx t2) (pn (cx xa tx la Kz.1 Kz.2.2.2.2) (cn Mx (tR cPx t2))) A H0 H locs ∧ TG D cy (tR cPm t2) (cn (MM Kz 0 0 0 false false) (tR cPm t2)) A H0 H locs := by
  have hx := hG.part cPx_c (fun n _ => rfl) (fun n _ => rfl)
  have hm := hG.part cPm_c (fun n h => by cases h) (fun n h => by cases h)
  have xa2 : tR cPx t2 xa = some (0, 9) := tR_of t2x rfl
  obtain ⟨tx, htx, hx⟩ := tg_pinr (j := 0) hx xa2 rfl (fun h => (ini _ _ _ _ t2x h).1 rfl)
  obtain ⟨la, hla, hx⟩ := tg_pinr (j := 0) hx htx rfl (fun h => (ini _ _ _ _ (tR_to htx).1 h.1).1 rfl)
  refine ⟨tx, la, htx, hla, hx.mono (fun a t j v ha hv => ?_), hm.mono (fun a t j v ha hv => ?_)⟩
  · obtain ⟨⟨h1, h2⟩, h3⟩ := hv
    have k := ini a t j v (tR_to ha).1 h1
    refine ⟨⟨k.1, fun t3 x h4 e lo hi hr => ?_⟩, h2, fun e => ⟨h3 e, fun e2 => ?_⟩, fun _ h => absurd h (Nat.not_lt_zero _)⟩
    · rw [ha] at h4
      cases h4
      exact k.2.1 x e lo hi (rgd_sub (M := MM Kz 0 0 0 false false) (M' := Mx) (fun n j r z => by cases z) hr)
    · subst e
      subst e2
      rw [htx] at ha
      cases ha
      rcases k.2.2 with z | z
      · cases z
      · rw [z]
        rfl
  · have k := ini a t j v (tR_to ha).1 hv
    refine ⟨k.1, fun t3 x h4 e => ?_⟩
    rw [ha] at h4
    cases h4
    exact k.2.1 x e
section LAWL
variable {p : Program} {l : Launch} {e : Env} {R : Room} {s : State} {m : MethodId} {args : Array Value} {below : List Frame} {meth : Method} {c : Code} {H : Heap} {locs : List Loc} {cells slots : Nat} {Q : State → Prop} {cc : ByteArray} {pc : Nat} {ls : Array Slot} {rest : List Value} {D : va_G} {cy : Nat → ClassId} {own : String} {nL : Nat}
/-- the script's int at x + j -/
def sv (xs : Nat → Int32) (x : Int32) (j : Int) : Int32 := xs (x + Int32.ofInt j).toNatClampNeg
theorem vp_inI {x : Int32} {L : Nat} (h1 : 0 ≤ x.toInt) (h2 : x.toInt < L) : vp_in x L := cI_in ⟨h1, h2⟩
theorem lw_arg {b L xa ma : Nat} {xs : Nat → Int32} {x : Int32} {j : Int} (X : ty_X p c s m args cc own nL D cy) (hX : va_X b L xs s s.heap) (hbl : b < s.heap.size) (hL : L ≤ 2048) (hl : lv_has ls nL [(0, .ref b), (1, .ref xa), (2, .ref ma), (3, .int x)]) (hx : 0 ≤ x.toInt ∧ x.toInt + 4 ≤ L) (hS : va_S (fun q => s.heap.size ≤ q) s.heap H locs) (hj : 0 ≤ j ∧ j ≤ 3) (d0 : decode cc pc = .ok (.aload_n 0, 1)) (d1 : decode cc (pc + 1) = .ok (.iload_n 3, 1)) (d2 : decode cc (pc + 2) = .ok (.iconst j, 1)) (d3 : decode cc (pc + 3) = .ok (.iadd, 1)) (d4 : decode cc (pc + 4) = .ok (.iaload, 1))
    (kk : ∀ v : Int32, v = sv xs x j → W p l e R s m args below meth c H locs cells slots Q (F0 m (pc + 5) ls (.int v :: rest))) : W p l e R s m args below meth c H locs cells slots Q (F0 m pc ls rest) := by
  refine lv_aload_n X.1 X.2.1 d0 rfl (lv_at hl 0 rfl) ?_
  refine lv_iload_n X.1 X.2.1 d1 rfl (lv_at hl 3 rfl) ?_
  refine lv_iconst X.1 X.2.1 d2 rfl ?_
  refine lv_iadd X.1 X.2.1 d3 ?_
  have ej : (Int32.ofInt j).toInt = j := cI_of (by omega) (by omega)
  have e1 : (x + Int32.ofInt j).toInt = x.toInt + j := by
    rw [cI_add (by omega) (by omega), ej]
  exact va_sld X.1 X.2.1 hX hbl (Nat.not_le.mpr hbl) hS (vp_inI (by omega) (by omega)) d4 (kk _ rfl)
/-- 'is it not 0', as 1 or 0 -/
theorem lw_nz {y : Int32} (X : ty_X p c s m args cc own nL D cy) (d0 : decode cc pc = .ok (.ifCond .eq 7, 3)) (d1 : decode cc (pc + 3) = .ok (.iconst 1, 1)) (d2 : decode cc (pc + 4) = .ok (.goto 4, 3)) (d3 : decode cc (pc + 7) = .ok (.iconst 0, 1))
    (kk : ∀ v : Int32, (v.toInt = 0 ∨ v.toInt = 1) → W p l e R s m args below meth c H locs cells slots Q (F0 m (pc + 8) ls (.int v :: rest))) : W p l e R s m args below meth c H locs cells slots Q (F0 m pc ls (.int y :: rest)) := by
  refine n_if_eq (tgt := pc + 7) X d0 (by omega) (fun _ => ?_) (fun _ => ?_)
  · exact n_ic X d3 (by decide) (by decide) (fun v hv => kk v (Or.inl hv))
  · refine n_ic X d1 (by decide) (by decide) (fun v hv => ?_)
    exact lv_goto (tgt := pc + 8) X.1 X.2.1 d2 (by omega) (kk v (Or.inr hv))
end LAWL
