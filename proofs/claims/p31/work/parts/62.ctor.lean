/-! constructors: a contract, and what holds inside -/
def NWs (U : State) : Prop := (∀ t ∈ NWT, va_Nw (.methodLinkNest t.1 t.2.1 t.2.2.1 t.2.2.2) U) ∧ va_AO "EdgeEchoes$Line" U ∧ va_AO "EdgeEchoes$Image" U
theorem NWs.warm {s U : State} (hW : s.WarmedH U.vm) (h : NWs s) : NWs U := ⟨fun t ht => va_Nw.warmM hW (h.1 t ht), h.2.1.moved hW.alike, h.2.2.moved hW.alike⟩
theorem NWs.same {s U : State} (he : s.vm = U.vm) (h : NWs s) : NWs U := ⟨fun t ht => (h.1 t ht).same rfl he, h.2.1.moved (by rw [he]; exact Vm.Alike.refl _), h.2.2.moved (by rw [he]; exact Vm.Alike.refl _)⟩
/-- a place of a made cell: not null, within its bounds -/
def iniV (t : ty_C) (j : Nat) : Option Int32 := match t.1 with
  | 0 => (match t.2 with
    | 0 => if j = 2 then some 0 else none
    | 1 => if j = 6 then some 0 else none
    | 2 => if j = 1 ∨ j = 2 then some 0 else none
    | 3 => if j = 2 ∨ j = 3 then some 0 else none
    | 4 => if j = 1 ∨ j = 2 then some 0 else none
    | 5 => if j = 4 then some 0 else none
    | 6 => if j = 2 then some 0 else none
    | 8 => if j = 7 then some 0 else none
    | 9 => if j = 7 then some (-1) else if j = 8 then some 0 else none
    | _ => none)
  | _ => none
def cnT (M : md_T) (t : ty_C) (j : Nat) (v : Value) : Prop := v ≠ .null ∧ (∀ x, v = .int x → ty_rng M t j x) ∧ (iniV t j = none ∨ v = .int ((iniV t j).getD 0))
def CP (M : md_T) (τ : ty_T) (ρ : ty_R) (b : Nat) (u : ty_T × ty_R) : Prop := (∀ a t, τ a = some t → u.1 a = some t) ∧ (∀ a j v, τ a ≠ none → a ≠ b → u.2 a j v → ρ a j v) ∧ (∀ a t j v, (a = b ∨ τ a = none) → u.1 a = some t → u.2 a j v → cnT M t j v) ∧ (∀ a t, τ a = none → u.1 a = some t → t.1 < 10 ∧ t ≠ (0, 10) ∧ t.2 < 2147483648)
abbrev rC (d mc ms : Nat) : Room := { frames := d, cells := mc, slots := ms, locals := 40 * d }
def KC (l : Launch) (D : va_G) (cy : Nat → ClassId) (y : MethodName) (cc : ByteArray) (nL : Nat) (d mc ms : Nat) (τ : ty_T) (ρ : ty_R) (b : Nat) (post : ty_T × ty_R → Prop) : Prop :=
  ∀ sz : Nat, Met l y (Cond.code y cc nL none :: BG) (rC d mc ms) (va_Pc [.ref b] (fun U => U.heap.size = sz ∧ ty_G D cy τ ρ U.heap ∧ va_K D vwCl (ty_ks cy) U ∧ NWs U)) (va_Qv (fun (u : ty_T × ty_R) => post u) (fun u t => ty_G D cy u.1 u.2 t.heap ∧ ∀ a, u.1 a ≠ none → (τ a ≠ none ∨ sz ≤ a)) (fun q => τ q ≠ none ∨ sz ≤ q)) mc ms (fun q => τ q ≠ none ∨ sz ≤ q)
theorem k_metC {l : Launch} {D : va_G} {cy : Nat → ClassId} {y : MethodName} {cc : ByteArray} {nL d mc ms : Nat} {τ : ty_T} {ρ : ty_R} {b : Nat} {post : ty_T × ty_R → Prop} (own : String) (ho : y.cls = own) (hyn : y.name = "<init>") (hy : plainFor y = true) (hlen : (lg_sl [Value.ref b]).length ≤ nL)
    (body : ∀ (p : Program) (e : Env) (s : State) (m : MethodId) (args : Array Value) (below : List Frame) (meth : Method) (c : Code) (Q : State → Prop) (ls : Array Slot) (A : Nat → Prop), ty_X p c s m args cc own nL D cy → meth.name = "<init>" → NWs s → (∀ q, s.heap.size ≤ q → A q) → TG D cy τ ρ A s.heap s.heap [] → lv_has ls nL [(0, .ref b)] →
      (∀ (H : Heap) (locs : List Loc) (pc : Nat) (ls : Array Slot) (u : ty_T × ty_R), TG D cy u.1 u.2 A s.heap H locs → post u → decode cc pc = .ok (.return_, 1) → W p l e (rC d mc ms) s m args below meth c H locs mc ms Q (F0 m pc ls [])) → W p l e (rC d mc ms) s m args below meth c s.heap [] 0 0 Q (F0 m 0 ls [])) : KC l D cy y cc nL d mc ms τ ρ b post := by
  intro sz
  refine va_MetF (cc := cc) (maxL := nL) (ret := none) hy rfl ?_
  intro p e s m args below meth c s₁ B hml hv
  obtain ⟨rfl, hsz, hG, hK, hNW⟩ := hv
  subst hsz
  have hts := atoms_spec (ws := Cond.code y cc nL none :: BG) B.pre
  have hlocks := B.notSynchronized
  have hown : s.vm.findClass own = some m.cls := by rw [← ho]; exact findClass_of_methodNamed B.named
  have hin : meth.name = "<init>" := (name_of_methodNamed B.named B.method).1.trans hyn
  have hl := lv_entry [Value.ref b] hlen
  rw [lg_entry_eq]
  exact body p e s m [Value.ref b].toArray below meth c _ _ (fun q => τ q ≠ none ∨ s.heap.size ≤ q) ⟨B.exec, B.bytes, hml, hown, fun w hw => hts w (List.mem_cons_of_mem _ hw), hK⟩ hin hNW (fun q h => Or.inr h) ⟨hG, va_S.rf, fun _ h => Or.inl h⟩ hl
    (fun H locs pc ls u hT hp hd => W.vret B.exec B.bytes B.returns (fun t ht hW => ⟨⟨u, rfl, hp, (by show ty_G D cy u.1 u.2 t.heap; rw [ht]; exact hT.1), hT.2.2⟩, hT.2.1.F ht⟩) hT.2.1.2.2 hd)
/-- what is known of a constructor that is called -/
def yC (y : MethodName) (cc : ByteArray) (nL : Nat) : Prop := Cond.instanceMethod y ∈ BG ∧ Cond.initialized y.cls ∈ BG ∧ Cond.code y cc nL none ∈ BG ∧ y.name = "<init>" ∧ y.cls ≠ "java/lang/invoke/MethodHandle" ∧ y.cls ≠ "java/lang/invoke/VarHandle" ∧ (parseMethodDescriptor y.desc).map (fun d => d.parameters.length) = some 0
section CTC
variable {p : Program} {l : Launch} {e : Env} {R : Room} {s : State} {m : MethodId} {args : Array Value} {below : List Frame} {meth : Method} {c : Code} {H : Heap} {locs : List Loc} {cells slots : Nat} {Q : State → Prop} {cc : ByteArray} {pc : Nat} {ls : Array Slot} {rest : List Value} {D : va_G} {cy : Nat → ClassId} {τ : ty_T} {ρ : ty_R} {A : Nat → Prop} {H0 : Heap} {own : String} {nL : Nat}
theorem kc_blind {av : List Value} {sz : Nat} : FrameBlind (va_Pc av (fun U => U.heap.size = sz ∧ ty_G D cy τ ρ U.heap ∧ va_K D vwCl (ty_ks cy) U ∧ NWs U)) := fun a U g mk q => ⟨q.1, q.2.1, q.2.2.1, va_K.moved (u := U) (U := U.calling g mk a) (Vm.Alike.refl U.vm) q.2.2.2.1, q.2.2.2.2.same (U := U.calling g mk a) rfl⟩
/-- the constructor of a nest mate -/
theorem k_cN {y : MethodName} {host : String} {cc' : ByteArray} {nL' index d mc ms b : Nat} {post : ty_T × ty_R → Prop} (X : ty_X p c s m args cc own nL D cy) (hNW : NWs s) (hG : TG D cy τ ρ A H0 H locs) (hN0 : ∀ q, H0.size ≤ q → A q) (hM : KC l D cy y cc' nL' d mc ms τ ρ b post) (hy : yC y cc' nL') (hnest : (own, index, y, host) ∈ NWT) (hR : d + 1 ≤ R.frames ∧ 8 + (nL' + 11) + 40 * d ≤ R.locals) (hls : ls.size = nL) (hrest : (rest.map fun v => v.category).sum ≤ 8) (hcs : cells + mc ≤ R.cells ∧ slots + ms ≤ R.slots) (hdg : decode cc pc = .ok (.invokespecial index, 3))
    (kk : ∀ (u : ty_T × ty_R) (H1 : Heap) (locs1 : List Loc), TG D cy u.1 u.2 A H0 H1 locs1 → post u → W p l e R s m args below meth c H1 locs1 (cells + mc) (slots + ms) Q (F0 m (pc + 3) ls rest)) : W p l e R s m args below meth c H locs cells slots Q (F0 m pc ls (.ref b :: rest)) := by
  obtain ⟨hx, hbb, hml0, hown, hB, hK⟩ := X
  obtain ⟨hg, hS, hA⟩ := hG
  obtain ⟨h1, h2, h3, h4, h5, h6, h7⟩ := hy
  have hA2 : ∀ q, (τ q ≠ none ∨ H.size ≤ q) → A q := fun q h => h.elim (hA q) (fun h => hN0 q (Nat.le_trans hS.1 h))
  exact va_callv (va_runIN (As := []) (rest := rest) ⟨hx, hbb, hml0, hown, hB⟩ (hM H.size) ⟨va_cnB 0 hB (k_giB h3) rfl rfl rfl (hNW.1 _ hnest) (hB _ h2) ⟨h5, h6, h7⟩ hR, h4, hB _ h1⟩ ⟨kc_blind, fun U hU hW => ⟨rfl, by rw [hU], by rw [hU]; exact hg, va_K.moved hW.alike hK, hNW.warm hW⟩⟩ rfl rfl hls rfl (lv_room hrest) hdg hcs) hS (fun q _ h => hA2 q h) hA2 (fun u t H1 locs1 ht hvm hw hBu hz1 hk1 hS1 => kk u H1 locs1 ⟨by rw [← ht]; exact hBu.1, hS1, fun a ha => hA2 a (hBu.2 a ha)⟩ hw)
/-- a constructor that all may call -/
theorem k_cO {y : MethodName} {cc' : ByteArray} {nL' index d mc ms b : Nat} {post : ty_T × ty_R → Prop} (X : ty_X p c s m args cc own nL D cy) (hNW : NWs s) (hG : TG D cy τ ρ A H0 H locs) (hN0 : ∀ q, H0.size ≤ q → A q) (hM : KC l D cy y cc' nL' d mc ms τ ρ b post) (hy : yC y cc' nL') (hlk : Cond.methodLink own index y ∈ BG) (hR : d + 1 ≤ R.frames ∧ 8 + (nL' + 11) + 40 * d ≤ R.locals) (hls : ls.size = nL) (hrest : (rest.map fun v => v.category).sum ≤ 8) (hcs : cells + mc ≤ R.cells ∧ slots + ms ≤ R.slots) (hdg : decode cc pc = .ok (.invokespecial index, 3))
    (kk : ∀ (u : ty_T × ty_R) (H1 : Heap) (locs1 : List Loc), TG D cy u.1 u.2 A H0 H1 locs1 → post u → W p l e R s m args below meth c H1 locs1 (cells + mc) (slots + ms) Q (F0 m (pc + 3) ls rest)) : W p l e R s m args below meth c H locs cells slots Q (F0 m pc ls (.ref b :: rest)) := by
  obtain ⟨hx, hbb, hml0, hown, hB, hK⟩ := X
  obtain ⟨hg, hS, hA⟩ := hG
  obtain ⟨h1, h2, h3, h4, h5, h6, h7⟩ := hy
  have hA2 : ∀ q, (τ q ≠ none ∨ H.size ≤ q) → A q := fun q h => h.elim (hA q) (fun h => hN0 q (Nat.le_trans hS.1 h))
  exact va_callv (va_runI (As := []) (rest := rest) ⟨hx, hbb, hml0, hown, hB⟩ (hM H.size) ⟨callB_of (R := R) 0 hB (k_giB h3) rfl rfl rfl (hB _ h2) (hB _ hlk) ⟨h5, h6, h7⟩ hR, h4, hB _ h1⟩ ⟨kc_blind, fun U hU hW => ⟨rfl, by rw [hU], by rw [hU]; exact hg, va_K.moved hW.alike hK, hNW.warm hW⟩⟩ rfl rfl hls rfl (lv_room hrest) hdg hcs) hS (fun q _ h => hA2 q h) hA2 (fun u t H1 locs1 ht hvm hw hBu hz1 hk1 hS1 => kk u H1 locs1 ⟨by rw [← ht]; exact hBu.1, hS1, fun a ha => hA2 a (hBu.2 a ha)⟩ hw)
/-- java/lang/Object's -/
theorem k_obj {index b : Nat} (X : ty_X p c s m args cc own nL D cy) (hlk : Cond.methodLink own index objectInit ∈ BG) (hi : Cond.instanceMethod objectInit ∈ BG) (hcd : Cond.code objectInit ⟨#[0xb1]⟩ 1 none ∈ BG) (hls : ls.size = nL) (hR : 1 ≤ R.frames ∧ 20 ≤ R.locals) (hdg : decode cc pc = .ok (.invokespecial index, 3)) (kk : W p l e R s m args below meth c H locs cells slots Q (F0 m (pc + 3) ls [])) : W p l e R s m args below meth c H locs cells slots Q (F0 m pc ls [.ref b]) := by
  obtain ⟨hx, hbb, hml0, hown, hB, hK⟩ := X
  refine W.objInit hx hbb hown (hB _ hlk) (hB _ hi) (hB _ hcd) rfl (by rw [hml0]; exact hls) rfl hdg hR.1 (Nat.le_trans (Nat.le_of_ble_eq_true rfl) hR.2) ?_
  exact W.eq (g2 := F0 m (pc + 3) ls []) rfl kk
end CTC
/-- inside a constructor: old cells as they were, new ones done, this object's fields known -/
def CS (M : md_T) (X : Nat → Nat → Prop) (τ : ty_T) (ρ : ty_R) (b : Nat) (fs : List Value) (t : ty_T) (r : ty_R) : Prop :=
  (∀ a x, τ a = some x → t a = some x) ∧ (∀ a j v, τ a ≠ none → a ≠ b → r a j v → ρ a j v) ∧ (∀ a x j v, τ a = none → t a = some x → r a j v → cnT M x j v ∨ X a j) ∧ (∀ a x, τ a = none → t a = some x → x.1 < 10 ∧ x ≠ (0, 10) ∧ x.2 < 2147483648) ∧ ∀ j v, r b j v → fs[j]? = some v
section CSL
variable {M : md_T} {X : Nat → Nat → Prop} {τ t : ty_T} {ρ r : ty_R} {b k : Nat} {fs : List Value}
theorem CS.e1 (C : CS M X τ ρ b fs t r) : ∀ a x, τ a = some x → t a = some x := C.1
theorem CS.e2 (C : CS M X τ ρ b fs t r) : ∀ a j v, τ a ≠ none → a ≠ b → r a j v → ρ a j v := C.2.1
theorem CS.e3 (C : CS M X τ ρ b fs t r) : ∀ a x j v, τ a = none → t a = some x → r a j v → cnT M x j v ∨ X a j := C.2.2.1
theorem CS.e4 (C : CS M X τ ρ b fs t r) : ∀ a x, τ a = none → t a = some x → x.1 < 10 ∧ x ≠ (0, 10) ∧ x.2 < 2147483648 := C.2.2.2.1
theorem CS.e5 (C : CS M X τ ρ b fs t r) : ∀ j v, r b j v → fs[j]? = some v := C.2.2.2.2
theorem CS.nn (C : CS M X τ ρ b fs t r) {a : Nat} (h : τ a ≠ none) : t a ≠ none := by
  cases hh : τ a with
  | none => exact absurd hh h
  | some x => rw [C.e1 a x hh]; intro z; cases z
theorem CS.start (hr : ∀ j v, ρ b j v → fs[j]? = some v) : CS M X τ ρ b fs τ ρ := ⟨fun _ _ h => h, fun _ _ _ _ _ h => h, (fun a x j v h h2 => by rw [h] at h2; cases h2), (fun a x h h2 => by rw [h] at h2; cases h2), hr⟩
theorem CS.arr (C : CS M X τ ρ b fs t r) (hb : τ b = some (0, k)) {q : Nat} {u : ty_C} {P : Nat → Value → Prop} (hq : t q = none) (hP : ∀ j v, P j v → cnT M u j v ∨ X q j) (hu : u.1 < 10 ∧ u ≠ (0, 10) ∧ u.2 < 2147483648) : CS M X τ ρ b fs (tU t q u) (rU r q P) := by
  have ne : ∀ a, τ a ≠ none → a ≠ q := fun a h e => C.nn h (by rw [e]; exact hq)
  refine ⟨fun a x h => ?_, fun a j v h h2 h3 => ?_, fun a x j v h h2 h3 => ?_, fun a x h h2 => ?_, fun j v h => ?_⟩
  · exact tU_ext hq a x (C.e1 a x h)
  · rw [rU_ne (ne a h)] at h3
    exact C.e2 a j v h h2 h3
  · by_cases e : a = q
    · subst e
      rw [tU_at] at h2
      cases h2
      rw [rU_at] at h3
      exact hP j v h3
    · rw [tU_ne e] at h2
      rw [rU_ne e] at h3
      exact C.e3 a x j v h h2 h3
  · by_cases e : a = q
    · subst e
      rw [tU_at] at h2
      cases h2
      exact hu
    · rw [tU_ne e] at h2
      exact C.e4 a x h h2
  · rw [rU_ne (ne b (by rw [hb]; intro z; cases z))] at h
    exact C.e5 j v h
theorem CS.put (C : CS M X τ ρ b fs t r) (hb : τ b = some (0, k)) {j : Nat} {x : Value} : CS M X τ ρ b (fs.set j x) t (rU r b (fun i v => (fs.set j x)[i]? = some v)) := by
  refine ⟨C.e1, fun a i v h h2 h3 => ?_, fun a y i v h h2 h3 => ?_, C.e4, fun i v h => ?_⟩
  · rw [rU_ne h2] at h3
    exact C.e2 a i v h h2 h3
  · rw [rU_ne (fun e => by rw [e, hb] at h; cases h)] at h3
    exact C.e3 a y i v h h2 h3
  · rw [rU_at] at h
    exact h
theorem CS.off {j : Nat} {x : Value} : ∀ a i v, a ≠ b → r a i v → rU r b (fun i v => (fs.set j x)[i]? = some v) a i v := fun a i v h h2 => by rw [rU_ne h]; exact h2
theorem CS.oth (C : CS M X τ ρ b fs t r) {j : Nat} {x : Value} : ∀ i v, i ≠ j → r b i v → rU r b (fun i v => (fs.set j x)[i]? = some v) b i v := fun i v h h2 => by
  rw [rU_at, List.getElem?_set_ne (Ne.symm h)]
  exact C.e5 i v h2
theorem CS.new {j : Nat} {x : Value} (hj : j < fs.length) : rU r b (fun i v => (fs.set j x)[i]? = some v) b j x := by
  rw [rU_at, List.getElem?_set_self hj]
theorem CS.sub (C : CS M X τ ρ b fs t r) (hb : τ b = some (0, k)) {q k' : Nat} {P : Nat → Value → Prop} {u : ty_T × ty_R} (hq : t q = none) (hk : k' < 10) (hu : CP M (tU t q (0, k')) (rU r q P) q u) : CS M X τ ρ b fs u.1 u.2 := by
  obtain ⟨c1, c2, c3, c4⟩ := hu
  have ne : ∀ a, τ a ≠ none → a ≠ q := fun a h e => C.nn h (by rw [e]; exact hq)
  have old : ∀ a j v, a ≠ q → t a ≠ none → u.2 a j v → r a j v := fun a j v h1 h2 h3 => by
    have := c2 a j v (by rw [tU_ne h1]; exact h2) h1 h3
    rw [rU_ne h1] at this
    exact this
  have up : ∀ a x, t a = some x → u.1 a = some x := fun a x h => c1 a x (tU_ext hq a x h)
  refine ⟨fun a x h => up a x (C.e1 a x h), fun a j v h h2 h3 => C.e2 a j v h h2 (old a j v (ne a h) (C.nn h) h3), fun a x j v h h2 h3 => ?_, fun a x h h2 => ?_, fun j v h => ?_⟩
  · by_cases e : a = q
    · exact Or.inl (c3 a x j v (Or.inl e) h2 h3)
    · cases ht : t a with
      | none => exact Or.inl (c3 a x j v (Or.inr (by rw [tU_ne e]; exact ht)) h2 h3)
      | some y =>
        rw [up a y ht] at h2
        cases h2
        exact C.e3 a x j v h ht (old a j v e (by rw [ht]; intro z; cases z) h3)
  · by_cases e : a = q
    · rw [e, c1 q (0, k') tU_at] at h2
      cases h2
      exact ⟨(by show 0 < 10; omega), (fun z => by cases z; omega), (by show k' < 2147483648; omega)⟩
    · cases ht : t a with
      | none => exact c4 a x (by rw [tU_ne e]; exact ht) h2
      | some y =>
        rw [up a y ht] at h2
        cases h2
        exact C.e4 a x h ht
  · have hbn : τ b ≠ none := by rw [hb]; intro z; cases z
    exact C.e5 j v (old b j v (ne b hbn) (C.nn hbn) h)
theorem CS.done (C : CS M X τ ρ b fs t r) (hb : τ b = some (0, k)) (hX : ∀ a j v, X a j → r a j v → False) (hfs : ∀ j v, fs[j]? = some v → cnT M (0, k) j v) : CP M τ ρ b (t, r) := by
  refine ⟨C.e1, C.e2, fun a x j v h h2 h3 => ?_, C.e4⟩
  rcases h with h | h
  · subst h
    have := C.e1 a _ hb
    have h2 : t a = some x := h2
    rw [this] at h2
    cases h2
    exact hfs j v (C.e5 j v h3)
  · exact (C.e3 a x j v h h2 h3).elim id (fun z => (hX a j v z h3).elim)
end CSL
theorem cnT_0 {M : md_T} {t : ty_C} (h : ∀ j lo hi, ty_rgd M t j = some (lo, hi) → lo ≤ 0 ∧ 0 ≤ hi) (hi0 : ∀ j, iniV t j = none) : ∀ (j : Nat) (v : Value), v = .int 0 → cnT M t j v := fun j v e => by
  subst e
  refine ⟨(fun z => by cases z), fun x hx lo hi hr => ?_, Or.inl (hi0 j)⟩
  cases hx
  have : (0 : Int32).toInt = 0 := rfl
  have := h j lo hi hr
  omega
theorem cnT_no {M : md_T} {t : ty_C} {j : Nat} {x : Int32} (h : ty_rgd M t j = none) (hi0 : iniV t j = none ∨ x = (iniV t j).getD 0 := by first | exact Or.inl rfl | exact Or.inr rfl) : cnT M t j (.int x) := ⟨(fun z => by cases z), fun y hy => ty_rno h, hi0.imp id (fun z => by rw [← z])⟩
theorem cnT_r {M : md_T} {t : ty_C} {j q : Nat} (hi0 : iniV t j = none := by rfl) : cnT M t j (.ref q) := ⟨(fun z => by cases z), (fun y hy => by cases hy), Or.inl hi0⟩
