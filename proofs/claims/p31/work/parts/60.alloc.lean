/-! cells that are made: the types grow -/
def tU (τ : ty_T) (q : Nat) (t : ty_C) : ty_T := fun b => if b = q then some t else τ b
def rU (ρ : ty_R) (q : Nat) (P : Nat → Value → Prop) : ty_R := fun b j v => if b = q then P j v else ρ b j v
theorem tU_at {τ : ty_T} {q : Nat} {t : ty_C} : tU τ q t q = some t := if_pos rfl
theorem tU_ne {τ : ty_T} {q b : Nat} {t : ty_C} (h : b ≠ q) : tU τ q t b = τ b := if_neg h
theorem tU_ext {τ : ty_T} {q : Nat} {t : ty_C} (hq : τ q = none) : ∀ b u, τ b = some u → tU τ q t b = some u := fun b u hb => by
  rw [tU_ne (fun e => by rw [e, hq] at hb; cases hb)]
  exact hb
theorem rU_at {ρ : ty_R} {q : Nat} {P : Nat → Value → Prop} {j : Nat} {v : Value} : rU ρ q P q j v = P j v := if_pos rfl
theorem rU_ne {ρ : ty_R} {q b : Nat} {P : Nat → Value → Prop} {j : Nat} {v : Value} (h : b ≠ q) : rU ρ q P b j v = ρ b j v := if_neg h
theorem ty_V.ext {τ τ' : ty_T} {g : ty_F} {v : Value} (h : ty_V τ g v) (he : ∀ b u, τ b = some u → τ' b = some u) : ty_V τ' g v :=
  ⟨h.1, h.2.1, fun e => (h.2.2.1 e).imp id (fun ⟨b, q1, q2⟩ => ⟨b, q1, he _ _ q2⟩), fun e => (h.2.2.2 e).imp id (fun ⟨b, n, q1, q2⟩ => ⟨b, n, q1, he _ _ q2⟩)⟩
theorem ty_ok.ext {cy : Nat → ClassId} {τ τ' : ty_T} {ρ ρ' : ty_R} {a : Nat} {t : ty_C} {e : va_E} (h : ty_ok cy τ ρ a t e) (he : ∀ b u, τ b = some u → τ' b = some u) (hr : ∀ j v, ρ a j v → ρ' a j v) : ty_ok cy τ' ρ' a t e := by
  obtain ⟨h0, h1, h2, h3⟩ := h
  refine ⟨fun q => ?_, fun q => ?_, fun q => ?_, fun q => ?_⟩
  · obtain ⟨fs, e1, e2, e3⟩ := h0 q
    exact ⟨fs, e1, e2, fun j g v x y => ⟨(e3 j g v x y).1.ext he, hr _ _ (e3 j g v x y).2⟩⟩
  · obtain ⟨f, e1, e2⟩ := h1 q
    exact ⟨f, e1, fun j x => hr _ _ (e2 j x)⟩
  · obtain ⟨f, e1, e2⟩ := h2 q
    exact ⟨f, e1, fun j x => ⟨(e2 j x).1, hr _ _ (e2 j x).2⟩⟩
  · obtain ⟨f, e1, e2⟩ := h3 q
    exact ⟨f, e1, fun j x => ⟨fun b hb => he _ _ ((e2 j x).1 b hb), hr _ _ (e2 j x).2⟩⟩
theorem ty_born {D : va_G} {cy : Nat → ClassId} {τ : ty_T} {ρ : ty_R} {A : Nat → Prop} {H0 H1 : Heap} {locs : List Loc} {L : List Nat} {f : Nat → va_E} {q : Nat} {e : va_E} {t : ty_C} {P : Nat → Value → Prop} (hP1 : va_P D vwCl (va_pl L f ++ [(q, e)]) H1) (hD1 : va_D A (va_pl L f ++ [(q, e)])) (hS1 : va_S A H0 H1 locs) (hA : ∀ a, τ a ≠ none → A a) (hdom : ∀ a, a ∈ L ↔ τ a ≠ none) (hok : ∀ (a : Nat) (t : ty_C), τ a = some t → ty_ok cy τ ρ a t (f a)) (hnew : ty_ok cy (tU τ q t) (rU ρ q P) q t e) : τ q = none ∧ TG D cy (tU τ q t) (rU ρ q P) A H0 H1 locs := by
  have hqL : q ∉ L := va_pl_fresh2 (X := []) hD1
  have hq : τ q = none := by
    cases hh : τ q with
    | none => rfl
    | some u => exact absurd ((hdom q).mpr (by rw [hh]; intro z; cases z)) hqL
  rw [va_pl_push hqL] at hP1 hD1
  refine ⟨hq, ⟨L ++ [q], va_up f q e, hP1, hD1.weaken (fun _ _ _ _ => trivial), fun a => ?_, fun a u ha => ?_⟩, hS1, fun a ha => ?_⟩
  · rw [List.mem_append, List.mem_singleton]
    by_cases h : a = q
    · subst h
      rw [tU_at]
      exact ⟨(fun _ z => by cases z), fun _ => Or.inr rfl⟩
    · rw [tU_ne h]
      exact ⟨fun z => (hdom a).mp (z.resolve_right h), fun z => Or.inl ((hdom a).mpr z)⟩
  · by_cases h : a = q
    · subst h
      rw [tU_at] at ha
      cases ha
      rw [va_up_self]
      exact hnew
    · rw [tU_ne h] at ha
      rw [va_up_ne _ _ h]
      exact (hok a u ha).ext (tU_ext hq) (fun j v z => by rw [rU_ne h]; exact z)
  · by_cases h : a = q
    · subst h
      obtain ⟨k, hk⟩ := va_pl_get (X := []) (f := va_up f a e) (L := L ++ [a]) (a := a) (List.mem_append.mpr (Or.inr List.mem_cons_self))
      exact hD1.2 k _ hk
    · rw [tU_ne h] at ha
      exact hA a ha
theorem cI_nn {n : Int32} (h : 0 ≤ n.toInt) : ¬ n < 0 := fun q => by
  rw [Int32.lt_iff_toInt_lt] at q
  have : (0 : Int32).toInt = 0 := rfl
  omega
section ALC
variable {p : Program} {l : Launch} {e : Env} {R : Room} {s : State} {m : MethodId} {args : Array Value} {below : List Frame} {meth : Method} {c : Code} {H : Heap} {locs : List Loc} {cells slots : Nat} {Q : State → Prop} {cc : ByteArray} {pc : Nat} {ls : Array Slot} {rest : List Value} {D : va_G} {cy : Nat → ClassId} {τ : ty_T} {ρ : ty_R} {A : Nat → Prop} {H0 : Heap} {own : String} {nL : Nat}
theorem ty_hD2 {L : List Nat} {f : Nat → va_E} (hD : va_D (fun _ => True) (va_pl L f)) (hA : ∀ a, τ a ≠ none → A a) (hdom : ∀ a, a ∈ L ↔ τ a ≠ none) : va_D A (va_pl L f) := hD.weaken (fun i q hq _ => by
  obtain ⟨b, hb1, rfl⟩ := List.mem_map.mp (List.mem_of_getElem? hq)
  exact hA _ ((hdom b).mp hb1))
theorem tg_newi (X : ty_X p c s m args cc own nL D cy) (hG : TG D cy τ ρ A H0 H locs) (hN0 : ∀ q, H0.size ≤ q → A q) (harr : Cond.arrayClass .int ∈ BG) {n : Int32} {N : Nat} (u : Nat) (hu : ty_kd u = 1) (hn : n.toInt = (N : Int)) (hN : N ≤ 100000) (hcells : cells + 1 ≤ R.cells) (hslots : slots + N ≤ R.slots) (hdg : decode cc pc = .ok (.newarray .int, 2))
    (kk : ∀ (q : Nat) (H1 : Heap), τ q = none → TG D cy (tU τ q (u, N)) (rU ρ q (fun _ v => v = .int 0)) A H0 H1 locs → W p l e R s m args below meth c H1 locs (cells + 1) (slots + N) Q (F0 m (pc + 2) ls (.ref q :: rest))) : W p l e R s m args below meth c H locs cells slots Q (F0 m pc ls (.int n :: rest)) := by
  obtain ⟨hx, hb, -, hown, hB, hK⟩ := X
  obtain ⟨⟨L, f, hP, hD, hdom, hok⟩, hS, hA⟩ := hG
  have hcl : n.toNatClampNeg = N := by have := cI_clamp (x := n) (by omega); omega
  refine va_newa (atype := .int) (ty := .int) (a0 := (N, .inl (fun _ => 0))) hx hb (hB _ harr) rfl hK hP (ty_hD2 hD hA hdom) hS hN0 (fun _ => rfl) (cI_nn (by omega)) hcl (by show N * 4 ≤ _; omega) hcells hslots hdg (fun q cA H1 hK1 hP1 hD1 hS1 => ?_)
  have hc : cA = cy 0 := Option.some.inj (((hK1.2 4 (cA, .int) rfl).2 : s.vm.findClass _ = some cA).symm.trans ((hK.2 0 (cy 0, .int) rfl).2 : s.vm.findClass _ = some (cy 0)))
  subst hc
  obtain ⟨h1, h2⟩ := ty_born (t := (u, N)) (P := fun _ v => v = .int 0) hP1 hD1 hS1 hA hdom hok ⟨(fun z => absurd (hu.symm.trans z) (by decide)), (fun _ => ⟨fun _ => 0, rfl, fun j _ => by rw [rU_at]⟩), (fun z => absurd (hu.symm.trans z) (by decide)), (fun z => absurd (hu.symm.trans z) (by decide))⟩
  exact kk q H1 h1 h2
theorem tg_newz (X : ty_X p c s m args cc own nL D cy) (hG : TG D cy τ ρ A H0 H locs) (hN0 : ∀ q, H0.size ≤ q → A q) (harr : Cond.arrayClass .boolean ∈ BG) {n : Int32} {N : Nat} (u : Nat) (hu : ty_kd u = 2) (hn : n.toInt = (N : Int)) (hN : N ≤ 100000) (hcells : cells + 1 ≤ R.cells) (hslots : slots + N ≤ R.slots) (hdg : decode cc pc = .ok (.newarray .boolean, 2))
    (kk : ∀ (q : Nat) (H1 : Heap), τ q = none → TG D cy (tU τ q (u, N)) (rU ρ q (fun _ v => v = .int 0)) A H0 H1 locs → W p l e R s m args below meth c H1 locs (cells + 1) (slots + N) Q (F0 m (pc + 2) ls (.ref q :: rest))) : W p l e R s m args below meth c H locs cells slots Q (F0 m pc ls (.int n :: rest)) := by
  obtain ⟨hx, hb, -, hown, hB, hK⟩ := X
  obtain ⟨⟨L, f, hP, hD, hdom, hok⟩, hS, hA⟩ := hG
  have hcl : n.toNatClampNeg = N := by have := cI_clamp (x := n) (by omega); omega
  refine va_newa (atype := .boolean) (ty := .boolean) (a0 := (N, .inl (fun _ => 0))) hx hb (hB _ harr) rfl hK hP (ty_hD2 hD hA hdom) hS hN0 (fun _ => rfl) (cI_nn (by omega)) hcl (by show N * 1 ≤ _; omega) hcells hslots hdg (fun q cA H1 hK1 hP1 hD1 hS1 => ?_)
  have hc : cA = cy 1 := Option.some.inj (((hK1.2 4 (cA, .boolean) rfl).2 : s.vm.findClass _ = some cA).symm.trans ((hK.2 1 (cy 1, .boolean) rfl).2 : s.vm.findClass _ = some (cy 1)))
  subst hc
  obtain ⟨h1, h2⟩ := ty_born (t := (u, N)) (P := fun _ v => v = .int 0) hP1 hD1 hS1 hA hdom hok ⟨(fun z => absurd (hu.symm.trans z) (by decide)), (fun z => absurd (hu.symm.trans z) (by decide)), (fun _ => ⟨fun _ => 0, rfl, fun j _ => ⟨Or.inl rfl, by rw [rU_at]⟩⟩), (fun z => absurd (hu.symm.trans z) (by decide))⟩
  exact kk q H1 h1 h2
/-- an array of lines (3) or of images (4), empty -/
theorem tg_newr (X : ty_X p c s m args cc own nL D cy) (hG : TG D cy τ ρ A H0 H locs) (hN0 : ∀ q, H0.size ≤ q → A q) {C : String} (u : Nat) (hu : (u = 3 ∧ C = "EdgeEchoes$Line") ∨ (u = 4 ∧ C = "EdgeEchoes$Image")) {index : Nat} (hcl : Cond.classLink own index C ∈ BG) (hov : va_AO C s) {n : Int32} {N : Nat} (hn : n.toInt = (N : Int)) (hN : N ≤ 100000) (hcells : cells + 1 ≤ R.cells) (hslots : slots + N ≤ R.slots) (hdg : decode cc pc = .ok (.anewarray index, 3))
    (kk : ∀ (q : Nat) (H1 : Heap), τ q = none → TG D cy (tU τ q (u, N)) (rU ρ q (fun j v => j < N ∧ v = .null)) A H0 H1 locs → W p l e R s m args below meth c H1 locs (cells + 1) (slots + N) Q (F0 m (pc + 3) ls (.ref q :: rest))) : W p l e R s m args below meth c H locs cells slots Q (F0 m pc ls (.int n :: rest)) := by
  obtain ⟨hx, hb, -, hown, hB, hK⟩ := X
  obtain ⟨⟨L, f, hP, hD, hdom, hok⟩, hS, hA⟩ := hG
  have hcl2 : n.toNatClampNeg = N := by have := cI_clamp (x := n) (by omega); omega
  refine va_newq hx hb hown (hB _ hcl) hov hK hP (ty_hD2 hD hA hdom) hS hN0 (cI_nn (by omega)) hcl2 (by omega) hcells hslots hdg (fun q cA H1 hK1 hP1 hD1 hS1 => ?_)
  obtain ⟨kA, comp, f1, f2, f3, f4⟩ := (hK1.2 4 (cA, .object C) rfl).2
  have hc : cA = cy (u - 1) := by
    rcases hu with ⟨rfl, rfl⟩ | ⟨rfl, rfl⟩
    · obtain ⟨-, -, -, -, -, g4⟩ := (hK.2 2 (cy 2, .object "EdgeEchoes$Line") rfl).2
      exact Option.some.inj (f4.symm.trans g4)
    · obtain ⟨-, -, -, -, -, g4⟩ := (hK.2 3 (cy 3, .object "EdgeEchoes$Image") rfl).2
      exact Option.some.inj (f4.symm.trans g4)
  subst hc
  have hkd : ty_kd u = 3 := by rcases hu with ⟨rfl, -⟩ | ⟨rfl, -⟩ <;> rfl
  obtain ⟨h1, h2⟩ := ty_born (t := (u, N)) (P := fun j v => j < N ∧ v = .null) hP1 hD1 hS1 hA hdom hok ⟨(fun z => absurd (hkd.symm.trans z) (by decide)), (fun z => absurd (hkd.symm.trans z) (by decide)), (fun z => absurd (hkd.symm.trans z) (by decide)), fun _ => ⟨fun _ => none, rfl, fun j hj => ⟨(fun b hb => by cases hb), by rw [rU_at]; exact ⟨hj, rfl⟩⟩⟩⟩
  exact kk q H1 h1 h2
/-- the fields of a new object -/
def dV (g : ty_F) : Value := if g.1 ≤ 1 then .int 0 else .null
def dfs (k : Nat) : List Value := (ty_fs k).map dV
theorem dV_ok {τ : ty_T} {g : ty_F} (hg : g.1 ≤ 3) : ty_V τ g (dV g) := by
  unfold dV
  by_cases h : g.1 ≤ 1
  · rw [if_pos h]
    exact ⟨fun _ => ⟨0, rfl⟩, fun _ => ⟨0, rfl, Or.inl rfl⟩, (fun z => by omega), fun z => by omega⟩
  · rw [if_neg h]
    exact ⟨(fun z => by omega), (fun z => by omega), fun _ => Or.inl rfl, fun _ => Or.inl rfl⟩
theorem tg_newo (X : ty_X p c s m args cc own nL D cy) (hG : TG D cy τ ρ A H0 H locs) (hN0 : ∀ q, H0.size ≤ q → A q) (k : Nat) {C : String} {T : u_T} {N : Nat} (hc : vwCl[k]? = some (C, T, N)) (hin : ∀ w ∈ u_ws C T N, w ∈ BG) (ty0 : Nat → FieldType) (hty : ∀ k, k < N → parseFieldDescriptor (T k).2.2.1 = some (ty0 k)) (hf3 : ∀ g ∈ ty_fs k, g.1 ≤ 3) (hfs : ∀ j, j < N → defaultValue (ty0 j) = vp_V (dfs k) j) {index : Nat} (hcl : Cond.classLink own index C ∈ BG) (hinst : Cond.instantiable C N ∈ BG) (hini : Cond.initialized C ∈ BG) (hcells : cells + 1 ≤ R.cells) (hslots : slots + N ≤ R.slots) (hdg : decode cc pc = .ok (.new index, 3))
    (kk : ∀ (q : Nat) (H1 : Heap), τ q = none → TG D cy (tU τ q (0, k)) (rU ρ q (fun j v => (dfs k)[j]? = some v)) A H0 H1 locs → W p l e R s m args below meth c H1 locs (cells + 1) (slots + N) Q (F0 m (pc + 3) ls (.ref q :: rest))) : W p l e R s m args below meth c H locs cells slots Q (F0 m pc ls rest) := by
  obtain ⟨hx, hb, -, hown, hB, hK⟩ := X
  obtain ⟨⟨L, f, hP, hD, hdom, hok⟩, hS, hA⟩ := hG
  refine va_new hx hb hB hin ty0 hty hown (hB _ hcl) (hB _ hinst) (hB _ hini) hK hP (ty_hD2 hD hA hdom) hS hN0 hc hfs hcells hslots hdg (fun q H1 hP1 hD1 hS1 => ?_)
  obtain ⟨h1, h2⟩ := ty_born (t := (0, k)) (P := fun j v => (dfs k)[j]? = some v) hP1 hD1 hS1 hA hdom hok ⟨(fun _ => ⟨dfs k, rfl, List.length_map _, fun j g v hg hv => ⟨by
    unfold dfs at hv
    rw [List.getElem?_map, hg] at hv
    cases hv
    exact dV_ok (hf3 g (List.mem_of_getElem? hg)), by rw [rU_at]; exact hv⟩⟩), (fun z => by cases z), (fun z => by cases z), (fun z => by cases z)⟩
  exact kk q H1 h1 h2
/-- a final field, in its class's constructor -/
theorem tg_putF (X : ty_X p c s m args cc own nL D cy) (hnm0 : meth.name = "<init>") (hG : TG D cy τ ρ A H0 H locs) {a k : Nat} (ha : τ a = some (0, k)) {C : String} {T : u_T} {N : Nat} (hc : vwCl[k]? = some (C, T, N)) (hin : ∀ w ∈ u_ws C T N, w ∈ BG) (ty0 : Nat → FieldType) (hty : ∀ k, k < N → parseFieldDescriptor (T k).2.2.1 = some (ty0 k)) (hnm : ∀ a, a < N → ∀ b, b < N → a ≠ b → (T a).2.1 ≠ (T b).2.1) (j : Nat) (hj : j < N) {g : ty_F} (hg : (ty_fs k)[j]? = some g) {index : Nat} (hl : Cond.fieldLink own index C (T j).2.1 (T j).2.2.1 ∈ BG) (hsm : (T j).1 = C) (hoC : C = own) (hfin : (T j).2.2.2 = true) {v : Value} (hn : narrow (ty0 j) v = v) (hfit : fits (ty0 j) v = true) (hV : ty_V τ g v) (hdg : decode cc pc = .ok (.putfield index, 3)) (ρ' : ty_R) (hoff : ∀ b i v, b ≠ a → ρ b i v → ρ' b i v) (hoth : ∀ i v, i ≠ j → ρ a i v → ρ' a i v) (hnew : ρ' a j v)
    (kk : ∀ (H1 : Heap) (locs1 : List Loc), TG D cy τ ρ' A H0 H1 locs1 → W p l e R s m args below meth c H1 locs1 cells slots Q (F0 m (pc + 3) ls rest)) : W p l e R s m args below meth c H locs cells slots Q (F0 m pc ls (v :: .ref a :: rest)) := by
  obtain ⟨hx, hb, -, hown, hB, hK⟩ := X
  obtain ⟨⟨L, f, hP, hD, hdom, hok⟩, hS, hA⟩ := hG
  have hL : a ∈ L := (hdom a).mpr (ty_some ha)
  have hD2 : va_D A ([] ++ va_pl L f) := ty_hD2 hD hA hdom
  obtain ⟨k0, hk0⟩ := va_pl_get (X := []) (f := f) hL
  obtain ⟨fs, he, hlen, hv⟩ := (hok a _ ha).1 rfl
  have hk1 : ([] ++ va_pl L f)[k0]? = some (a, .inr (k, fs)) := by rw [hk0, he]
  have hjl : j < fs.length := by rw [hlen]; exact (List.getElem?_eq_some_iff.mp hg).1
  refine va_putF hx hb hB hin ty0 hty hnm hown hK (show va_P D vwCl ([] ++ va_pl L f) H from hP) hD2 hS k0 hk1 hc j hj (hB _ hl) (fun x h => by rw [hsm] at h; exact h) hfin hnm0 (hsm.trans hoC) (hty j hj) hn hfit hjl hdg (fun H1 locs1 hP1 hD1 hS1 => ?_)
  rw [va_pl_set hD2 hL hk0] at hP1 hD1
  refine kk H1 locs1 (ty_put hP1 hD1 hS1 hA hdom hok ha hoff ⟨fun _ => ⟨fs.set j v, rfl, by rw [List.length_set]; exact hlen, fun i gi w hgi hw => ?_⟩, (fun h => by cases h), (fun h => by cases h), (fun h => by cases h)⟩)
  by_cases hij : i = j
  · subst hij
    rw [List.getElem?_set_self hjl] at hw
    cases hw
    rw [hg] at hgi
    cases hgi
    exact ⟨hV, hnew⟩
  · rw [List.getElem?_set_ne (Ne.symm hij)] at hw
    obtain ⟨q1, q2⟩ := hv i gi w hgi hw
    exact ⟨q1, hoth i w hij q2⟩
/-- a line or an image laid into its array -/
theorem tg_aast (X : ty_X p c s m args cc own nL D cy) (hG : TG D cy τ ρ A H0 H locs) {a b u N : Nat} (hu : u = 3 ∨ u = 4) (ha : τ a = some (u, N)) (hb0 : τ b = some (0, if u = 3 then 3 else 2)) {i : Int32} (hin : vp_in i N) (hdg : decode cc pc = .ok (.aastore, 1)) (ρ' : ty_R) (hoff : ∀ b i v, b ≠ a → ρ b i v → ρ' b i v) (hoth : ∀ k v, k ≠ i.toNatClampNeg → ρ a k v → ρ' a k v) (hnew : ρ' a i.toNatClampNeg (.ref b))
    (kk : ∀ (H1 : Heap) (locs1 : List Loc), TG D cy τ ρ' A H0 H1 locs1 → W p l e R s m args below meth c H1 locs1 cells slots Q (F0 m (pc + 1) ls rest)) : W p l e R s m args below meth c H locs cells slots Q (F0 m pc ls (.ref b :: .int i :: .ref a :: rest)) := by
  obtain ⟨hx, hb, -, hown, hB, hK⟩ := X
  obtain ⟨⟨L, f, hP, hD, hdom, hok⟩, hS, hA⟩ := hG
  have hL : a ∈ L := (hdom a).mpr (ty_some ha)
  have hD2 : va_D A ([] ++ va_pl L f) := ty_hD2 hD hA hdom
  have hkd : ty_kd u = 3 := by rcases hu with rfl | rfl <;> rfl
  obtain ⟨k0, hk0⟩ := va_pl_get (X := []) (f := f) hL
  obtain ⟨k1, hk1⟩ := va_pl_get (X := []) (f := f) ((hdom b).mpr (ty_some hb0))
  obtain ⟨g, he, hv⟩ := (hok a _ ha).2.2.2 hkd
  obtain ⟨vs, he1, -, -⟩ := (hok b _ hb0).1 rfl
  have hk2 : ([] ++ va_pl L f)[k0]? = some (a, .inl (cy (u - 1), N, .inr (.inr (.inr (.inr g))))) := by rw [hk0, he]
  have hk3 : ([] ++ va_pl L f)[k1]? = some (b, .inr (if u = 3 then 3 else 2, vs)) := by rw [hk1, he1]
  have key : ∀ (H1 : Heap) (locs1 : List Loc), va_P D vwCl (([] ++ va_pl L f).set k0 (a, .inl (cy (u - 1), N, .inr (.inr (.inr (.inr (va_up g i.toNatClampNeg (some b)))))))) H1 → va_D A (([] ++ va_pl L f).set k0 (a, .inl (cy (u - 1), N, .inr (.inr (.inr (.inr (va_up g i.toNatClampNeg (some b)))))))) → va_S A H0 H1 locs1 → W p l e R s m args below meth c H1 locs1 cells slots Q (F0 m (pc + 1) ls rest) := by
    intro H1 locs1 hP1 hD1 hS1
    rw [va_pl_set hD2 hL hk0] at hP1 hD1
    refine kk H1 locs1 (ty_put hP1 hD1 hS1 hA hdom hok ha hoff ⟨(fun z => absurd (hkd.symm.trans z) (by decide)), (fun z => absurd (hkd.symm.trans z) (by decide)), (fun z => absurd (hkd.symm.trans z) (by decide)), fun _ => ⟨va_up g i.toNatClampNeg (some b), rfl, fun j hj => ?_⟩⟩)
    by_cases hij : j = i.toNatClampNeg
    · subst hij
      rw [va_up_self]
      exact ⟨fun b2 h2 => by cases h2; exact hb0, hnew⟩
    · rw [va_up_ne _ _ hij]
      exact ⟨(hv j hj).1, hoth j _ hij (hv j hj).2⟩
  rcases hu with rfl | rfl
  · exact va_astq hx hb hK (show va_P D vwCl ([] ++ va_pl L f) H from hP) hD2 hS k0 2 k1 3 (r := (RX3, TX3, _)) hk2 rfl hk3 rfl hin hdg key
  · exact va_astq hx hb hK (show va_P D vwCl ([] ++ va_pl L f) H from hP) hD2 hS k0 3 k1 2 (r := (RX2, TX2, _)) hk2 rfl hk3 rfl hin hdg key
end ALC
