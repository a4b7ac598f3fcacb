/-! methods that may make a cell: the contract, calls, a pinned row -/
def KG (l : Launch) (D : va_G) (cy : Nat → ClassId) (y : MethodName) (cc : ByteArray) (nL : Nat) (d mc ms : Nat) (τ : ty_T) (ρ : ty_R) (av : List Value) (post : ty_T × ty_R → Prop) : Prop :=
  ∀ sz : Nat, Met l y (Cond.code y cc nL none :: BG) (rC d mc ms) (va_Pc av (fun U => U.heap.size = sz ∧ ty_G D cy τ ρ U.heap ∧ va_K D vwCl (ty_ks cy) U)) (va_Qv (fun (u : ty_T × ty_R) => post u) (fun u t => ty_G D cy u.1 u.2 t.heap ∧ ∀ a, u.1 a ≠ none → (τ a ≠ none ∨ sz ≤ a)) (fun q => τ q ≠ none ∨ sz ≤ q)) mc ms (fun q => τ q ≠ none ∨ sz ≤ q)
def KH (l : Launch) (D : va_G) (cy : Nat → ClassId) (y : MethodName) (cc : ByteArray) (nL : Nat) (d mc ms : Nat) (τ : ty_T) (ρ : ty_R) (av : List Value) (post : Int32 → ty_T × ty_R → Prop) : Prop :=
  ∀ sz : Nat, Met l y (Cond.code y cc nL (some .int) :: BG) (rC d mc ms) (va_Pc av (fun U => U.heap.size = sz ∧ ty_G D cy τ ρ U.heap ∧ va_K D vwCl (ty_ks cy) U)) (va_Qi (fun r (u : ty_T × ty_R) => post r u) (fun u t => ty_G D cy u.1 u.2 t.heap ∧ ∀ a, u.1 a ≠ none → (τ a ≠ none ∨ sz ≤ a)) (fun q => τ q ≠ none ∨ sz ≤ q)) mc ms (fun q => τ q ≠ none ∨ sz ≤ q)
theorem k_metG {l : Launch} {D : va_G} {cy : Nat → ClassId} {y : MethodName} {cc : ByteArray} {nL d mc ms : Nat} {τ : ty_T} {ρ : ty_R} {av : List Value} {post : ty_T × ty_R → Prop} (own : String) (ho : y.cls = own) (hy : plainFor y = true) (hlen : (lg_sl av).length ≤ nL)
    (body : ∀ (p : Program) (e : Env) (s : State) (m : MethodId) (args : Array Value) (below : List Frame) (meth : Method) (c : Code) (Q : State → Prop) (ls : Array Slot) (A : Nat → Prop), ty_X p c s m args cc own nL D cy → (∀ q, s.heap.size ≤ q → A q) → TG D cy τ ρ A s.heap s.heap [] → lv_has ls nL (lv_args 0 av) →
      (∀ (H : Heap) (locs : List Loc) (pc : Nat) (ls : Array Slot) (u : ty_T × ty_R), TG D cy u.1 u.2 A s.heap H locs → post u → decode cc pc = .ok (.return_, 1) → W p l e (rC d mc ms) s m args below meth c H locs mc ms Q (F0 m pc ls [])) → W p l e (rC d mc ms) s m args below meth c s.heap [] 0 0 Q (F0 m 0 ls [])) : KG l D cy y cc nL d mc ms τ ρ av post := by
  intro sz
  refine va_MetF (cc := cc) (maxL := nL) (ret := none) hy rfl ?_
  intro p e s m args below meth c s₁ B hml hv
  obtain ⟨rfl, hsz, hG, hK⟩ := hv
  subst hsz
  have hts := atoms_spec (ws := Cond.code y cc nL none :: BG) B.pre
  have hlocks := B.notSynchronized
  have hown : s.vm.findClass own = some m.cls := by rw [← ho]; exact findClass_of_methodNamed B.named
  have hl := lv_entry av hlen
  rw [lg_entry_eq]
  exact body p e s m av.toArray below meth c _ _ (fun q => τ q ≠ none ∨ s.heap.size ≤ q) ⟨B.exec, B.bytes, hml, hown, fun w hw => hts w (List.mem_cons_of_mem _ hw), hK⟩ (fun q h => Or.inr h) ⟨hG, va_S.rf, fun _ h => Or.inl h⟩ hl
    (fun H locs pc ls u hT hp hd => W.vret B.exec B.bytes B.returns (fun t ht hW => ⟨⟨u, rfl, hp, (by show ty_G D cy u.1 u.2 t.heap; rw [ht]; exact hT.1), hT.2.2⟩, hT.2.1.F ht⟩) hT.2.1.2.2 hd)
theorem k_metH {l : Launch} {D : va_G} {cy : Nat → ClassId} {y : MethodName} {cc : ByteArray} {nL d mc ms : Nat} {τ : ty_T} {ρ : ty_R} {av : List Value} {post : Int32 → ty_T × ty_R → Prop} (own : String) (ho : y.cls = own) (hy : plainFor y = true) (hlen : (lg_sl av).length ≤ nL)
    (body : ∀ (p : Program) (e : Env) (s : State) (m : MethodId) (args : Array Value) (below : List Frame) (meth : Method) (c : Code) (Q : State → Prop) (ls : Array Slot) (A : Nat → Prop), ty_X p c s m args cc own nL D cy → (∀ q, s.heap.size ≤ q → A q) → TG D cy τ ρ A s.heap s.heap [] → lv_has ls nL (lv_args 0 av) →
      (∀ (H : Heap) (locs : List Loc) (pc : Nat) (ls : Array Slot) (r : Int32) (u : ty_T × ty_R), TG D cy u.1 u.2 A s.heap H locs → post r u → decode cc pc = .ok (.ireturn, 1) → W p l e (rC d mc ms) s m args below meth c H locs mc ms Q (F0 m pc ls [.int r])) → W p l e (rC d mc ms) s m args below meth c s.heap [] 0 0 Q (F0 m 0 ls [])) : KH l D cy y cc nL d mc ms τ ρ av post := by
  intro sz
  refine va_MetF (cc := cc) (maxL := nL) (ret := some .int) hy rfl ?_
  intro p e s m args below meth c s₁ B hml hv
  obtain ⟨rfl, hsz, hG, hK⟩ := hv
  subst hsz
  have hts := atoms_spec (ws := Cond.code y cc nL (some .int) :: BG) B.pre
  have hlocks := B.notSynchronized
  have hown : s.vm.findClass own = some m.cls := by rw [← ho]; exact findClass_of_methodNamed B.named
  have hl := lv_entry av hlen
  rw [lg_entry_eq]
  exact body p e s m av.toArray below meth c _ _ (fun q => τ q ≠ none ∨ s.heap.size ≤ q) ⟨B.exec, B.bytes, hml, hown, fun w hw => hts w (List.mem_cons_of_mem _ hw), hK⟩ (fun q h => Or.inr h) ⟨hG, va_S.rf, fun _ h => Or.inl h⟩ hl
    (fun H locs pc ls r u hT hp hd => W.zret (v := r) B.exec B.bytes B.returns rfl (fun t ht hW => ⟨⟨r, u, rfl, hp, (by show ty_G D cy u.1 u.2 t.heap; rw [ht]; exact hT.1), hT.2.2⟩, hT.2.1.F ht⟩) hT.2.1.2.2 hd)
section GRW
variable {p : Program} {l : Launch} {e : Env} {R : Room} {s : State} {m : MethodId} {args : Array Value} {below : List Frame} {meth : Method} {c : Code} {H : Heap} {locs : List Loc} {cells slots : Nat} {Q : State → Prop} {cc : ByteArray} {pc : Nat} {ls : Array Slot} {rest st : List Value} {D : va_G} {cy : Nat → ClassId} {τ : ty_T} {ρ : ty_R} {A : Nat → Prop} {H0 : Heap} {own : String} {nL : Nat}
theorem kg_blind {av : List Value} {sz : Nat} : FrameBlind (va_Pc av (fun U => U.heap.size = sz ∧ ty_G D cy τ ρ U.heap ∧ va_K D vwCl (ty_ks cy) U)) := fun a U g mk q => ⟨q.1, q.2.1, q.2.2.1, va_K.moved (u := U) (U := U.calling g mk a) (Vm.Alike.refl U.vm) q.2.2.2⟩
theorem k_cGv {y : MethodName} {C : String} {T : u_T} {N : Nat} {cc' : ByteArray} {nL' n index k b d mc ms : Nat} {As : List Value} {post : ty_T × ty_R → Prop} (X : ty_X p c s m args cc own nL D cy) (hG : TG D cy τ ρ A H0 H locs) (hN0 : ∀ q, H0.size ≤ q → A q) (hM : KG l D cy y cc' nL' d mc ms τ ρ (.ref b :: As) post) (hb : τ b = some (0, k)) (hcl : vwCl[k]? = some (C, T, N)) (hy : yV y C cc' nL' none n) (hml : Cond.methodLink own index y ∈ BG) (hR : d + 1 ≤ R.frames ∧ 8 + (nL' + 11) + 40 * d ≤ R.locals) (hAs : As.length = n) (hls : ls.size = nL) (hst : st = As.reverse ++ .ref b :: rest) (hrest : (rest.map fun v => v.category).sum ≤ 8) (hcs : cells + mc ≤ R.cells ∧ slots + ms ≤ R.slots) (hdg : decode cc pc = .ok (.invokevirtual index, 3))
    (kk : ∀ (u : ty_T × ty_R) (H1 : Heap) (locs1 : List Loc), TG D cy u.1 u.2 A H0 H1 locs1 → post u → W p l e R s m args below meth c H1 locs1 (cells + mc) (slots + ms) Q (F0 m (pc + 3) ls rest)) : W p l e R s m args below meth c H locs cells slots Q (F0 m pc ls st) := by
  obtain ⟨hx, hbb, hml0, hown, hB, hK⟩ := X
  obtain ⟨hg, hS, hA⟩ := hG
  obtain ⟨h1, h2, h3, h4, h5, h6, h7, h8⟩ := hy
  have hA2 : ∀ q, (τ q ≠ none ∨ H.size ≤ q) → A q := fun q h => h.elim (hA q) (fun h => hN0 q (Nat.le_trans hS.1 h))
  exact va_callv (va_runV (As := As) (rest := rest) ⟨hx, hbb, hml0, hown, hB⟩ (hM H.size) ⟨callB_of (R := R) n hB (k_giB h4) rfl rfl rfl (by rw [h5]; exact hB _ h3) (hB _ hml) ⟨h6, h7, h8⟩ hR, hB _ h1, hB _ h2⟩ ⟨kg_blind, k_recv hK hg hb hcl, fun U hU hW => ⟨rfl, by rw [hU], by rw [hU]; exact hg, va_K.moved hW.alike hK⟩⟩ rfl hAs hls hst (lv_room hrest) hdg hcs) hS (fun q _ h => hA2 q h) hA2 (fun u t H1 locs1 ht hvm hw hBu hz1 hk1 hS1 => kk u H1 locs1 ⟨by rw [← ht]; exact hBu.1, hS1, fun a ha => hA2 a (hBu.2 a ha)⟩ hw)
theorem k_cHi {y : MethodName} {C : String} {T : u_T} {N : Nat} {cc' : ByteArray} {nL' n index k b d mc ms : Nat} {As : List Value} {post : Int32 → ty_T × ty_R → Prop} (X : ty_X p c s m args cc own nL D cy) (hG : TG D cy τ ρ A H0 H locs) (hN0 : ∀ q, H0.size ≤ q → A q) (hM : KH l D cy y cc' nL' d mc ms τ ρ (.ref b :: As) post) (hb : τ b = some (0, k)) (hcl : vwCl[k]? = some (C, T, N)) (hy : yV y C cc' nL' (some .int) n) (hml : Cond.methodLink own index y ∈ BG) (hR : d + 1 ≤ R.frames ∧ 8 + (nL' + 11) + 40 * d ≤ R.locals) (hAs : As.length = n) (hls : ls.size = nL) (hst : st = As.reverse ++ .ref b :: rest) (hrest : (rest.map fun v => v.category).sum ≤ 8) (hcs : cells + mc ≤ R.cells ∧ slots + ms ≤ R.slots) (hdg : decode cc pc = .ok (.invokevirtual index, 3))
    (kk : ∀ (r : Int32) (u : ty_T × ty_R) (H1 : Heap) (locs1 : List Loc), TG D cy u.1 u.2 A H0 H1 locs1 → post r u → W p l e R s m args below meth c H1 locs1 (cells + mc) (slots + ms) Q (F0 m (pc + 3) ls (.int r :: rest))) : W p l e R s m args below meth c H locs cells slots Q (F0 m pc ls st) := by
  obtain ⟨hx, hbb, hml0, hown, hB, hK⟩ := X
  obtain ⟨hg, hS, hA⟩ := hG
  obtain ⟨h1, h2, h3, h4, h5, h6, h7, h8⟩ := hy
  have hA2 : ∀ q, (τ q ≠ none ∨ H.size ≤ q) → A q := fun q h => h.elim (hA q) (fun h => hN0 q (Nat.le_trans hS.1 h))
  exact va_calli (va_runV (As := As) (rest := rest) ⟨hx, hbb, hml0, hown, hB⟩ (hM H.size) ⟨callB_of (R := R) n hB (k_giB h4) rfl rfl rfl (by rw [h5]; exact hB _ h3) (hB _ hml) ⟨h6, h7, h8⟩ hR, hB _ h1, hB _ h2⟩ ⟨kg_blind, k_recv hK hg hb hcl, fun U hU hW => ⟨rfl, by rw [hU], by rw [hU]; exact hg, va_K.moved hW.alike hK⟩⟩ rfl hAs hls hst (lv_room hrest) hdg hcs) hS (fun q _ h => hA2 q h) hA2 (fun r u t H1 locs1 ht hvm hw hBu hz1 hk1 hS1 => kk r u H1 locs1 ⟨by rw [← ht]; exact hBu.1, hS1, fun a ha => hA2 a (hBu.2 a ha)⟩ hw)
theorem f_cHi {y : MethodName} {C : String} {T : u_T} {N : Nat} {cc' : ByteArray} {nL' n index k b d mc ms : Nat} {As : List Value} {post : Int32 → ty_T × ty_R → Prop} (X : ty_X p c s m args cc own nL D cy) (hG : TG D cy τ ρ A H0 H locs) (hN0 : ∀ q, H0.size ≤ q → A q) (hM : KH l D cy y cc' nL' d mc ms τ ρ (.ref b :: As) post) (hb : τ b = some (0, k)) (hcl : vwCl[k]? = some (C, T, N)) (hy : yV y C cc' nL' (some .int) n) (hml : Cond.methodLink own index y ∈ BG) (hR : d + 1 ≤ R.frames ∧ 8 + (nL' + 11) + 40 * d ≤ R.locals) (hAs : As.length = n) (hls : ls.size = nL) (hst : st = As.reverse ++ .ref b :: rest) (hrest : (rest.map fun v => v.category).sum ≤ 8) (hcs : cells + mc ≤ R.cells ∧ slots + ms ≤ R.slots) (hdg : decode cc pc = .ok (.invokevirtual index, 3))
    (kk : ∀ (r : Int32) (u : ty_T × ty_R) (H1 : Heap) (locs1 : List Loc), TG D cy u.1 u.2 A H0 H1 locs1 → fr τ H H1 → (∀ a, u.1 a ≠ none → (τ a ≠ none ∨ H.size ≤ a)) → post r u → W p l e R s m args below meth c H1 locs1 (cells + mc) (slots + ms) Q (F0 m (pc + 3) ls (.int r :: rest))) : W p l e R s m args below meth c H locs cells slots Q (F0 m pc ls st) := by
  obtain ⟨hx, hbb, hml0, hown, hB, hK⟩ := X
  obtain ⟨hg, hS, hA⟩ := hG
  obtain ⟨h1, h2, h3, h4, h5, h6, h7, h8⟩ := hy
  have hA2 : ∀ q, (τ q ≠ none ∨ H.size ≤ q) → A q := fun q h => h.elim (hA q) (fun h => hN0 q (Nat.le_trans hS.1 h))
  exact va_calli (va_runV (As := As) (rest := rest) ⟨hx, hbb, hml0, hown, hB⟩ (hM H.size) ⟨callB_of (R := R) n hB (k_giB h4) rfl rfl rfl (by rw [h5]; exact hB _ h3) (hB _ hml) ⟨h6, h7, h8⟩ hR, hB _ h1, hB _ h2⟩ ⟨kg_blind, k_recv hK hg hb hcl, fun U hU hW => ⟨rfl, by rw [hU], by rw [hU]; exact hg, va_K.moved hW.alike hK⟩⟩ rfl hAs hls hst (lv_room hrest) hdg hcs) hS (fun q _ h => hA2 q h) hA2 (fun r u t H1 locs1 ht hvm hw hBu hz1 hk1 hS1 => kk r u H1 locs1 ⟨by rw [← ht]; exact hBu.1, hS1, fun a ha => hA2 a (hBu.2 a ha)⟩ ⟨hz1, fun a h1 h2 => hk1 a h1 (fun z => z.elim (fun w => w h2) (fun w => absurd h1 (Nat.not_lt.mpr w)))⟩ hBu.2 hw)
end GRW
/-- the suspects' row has a name -/
def pr (ρ : ty_R) (a q : Nat) : ty_R := fun b i v => ρ b i v ∧ (b = a → i = 3 → v = .ref q)
theorem tg_pin3 {D : va_G} {cy : Nat → ClassId} {τ : ty_T} {ρ : ty_R} {A : Nat → Prop} {H0 H : Heap} {locs : List Loc} (hG : TG D cy τ ρ A H0 H locs) (hN : ty_N τ ρ) {a : Nat} (ha : τ a = some (0, 5)) : ∃ q n, τ q = some (1, n) ∧ TG D cy τ (pr ρ a q) A H0 H locs := by
  obtain ⟨⟨L, f, hP, hD, hdom, hok⟩, hS, hA⟩ := hG
  obtain ⟨fs, he, hlen, hv⟩ := (hok a _ ha).1 rfl
  have hjl : 3 < fs.length := by rw [hlen]; exact Nat.le_of_ble_eq_true rfl
  obtain ⟨hV, hR⟩ := hv 3 (3, 0, 0) fs[3] rfl (List.getElem?_eq_getElem hjl)
  rcases ty_V3 hV with hx | ⟨q, n, hx, hq⟩
  · rw [hx] at hR
    exact absurd hR (hN a _ 3 ha)
  · refine ⟨q, n, hq, ⟨L, f, hP, hD, hdom, fun b t hb => ?_⟩, hS, hA⟩
    by_cases hba : b = a
    · subst hba
      rw [ha] at hb
      cases hb
      refine ⟨fun _ => ⟨fs, he, hlen, fun i g v hg hi => ⟨(hv i g v hg hi).1, (hv i g v hg hi).2, fun _ e => ?_⟩⟩, (fun h => by cases h), (fun h => by cases h), (fun h => by cases h)⟩
      subst e
      rw [List.getElem?_eq_getElem hjl] at hi
      cases hi
      exact hx
    · exact (hok b t hb).mono (fun i v h => ⟨h, fun e => absurd e hba⟩)
theorem pr_N {τ : ty_T} {ρ : ty_R} {a q : Nat} (h : ty_N τ ρ) : ty_N τ (pr ρ a q) := fun b t j hb z => h b t j hb z.1
theorem pr_R {M : md_T} {τ : ty_T} {ρ : ty_R} {a q : Nat} (h : ty_Rg M τ ρ) : ty_Rg M τ (pr ρ a q) := fun b t j x hb z => h b t j x hb z.1
theorem pr_F {M : md_T} {τ : ty_T} {ρ : ty_R} {a q : Nat} {S : List Nat} (h : ty_Wf M τ ρ S) (ha : τ a = some (0, 5)) (hS : 503 ∉ S) : ty_Wf M τ (pr ρ a q) S := fun b t j x hb hc hr => ⟨h b t j x hb hc hr, fun e e2 => by
  subst e
  subst e2
  rw [ha] at hb
  cases hb
  exact absurd hc hS⟩
theorem pr_cl {D : va_G} {cy : Nat → ClassId} {τ : ty_T} {ρ : ty_R} {A : Nat → Prop} {H0 H : Heap} {locs : List Loc} {a q : Nat} (h : TG D cy τ (pr ρ a q) A H0 H locs) : TG D cy τ ρ A H0 H locs := h.mono (fun _ _ _ _ _ z => z.1)
/-- the codes that gather() writes -/
def SG : List Nat := [106, 505, 506, 507, 806, 808, 809, 810, 811, 812, 5000, 6005]
/-- what is known besides isn't touched by gather() -/
def PO (τ : ty_T) (π : ty_R) : Prop := (∀ a t j x, τ a = some t → ty_cd t j ∈ SG → π a j (.int x)) ∧ (∀ a v, τ a = some (0, 5) → π a 3 v) ∧ (∀ a j v, τ a = none → π a j v)
theorem PO.up {τ : ty_T} {π : ty_R} (h : PO τ π) {q : Nat} (hq : τ q = none) : PO (tU τ q (1, 8520)) π := by
  refine ⟨fun a t j x ha hc => ?_, fun a v ha => ?_, fun a j v ha => ?_⟩
  · by_cases e : a = q
    · rw [e]
      exact h.2.2 q j _ hq
    · rw [tU_ne e] at ha
      exact h.1 a t j x ha hc
  · by_cases e : a = q
    · rw [e, tU_at] at ha
      cases ha
    · rw [tU_ne e] at ha
      exact h.2.1 a v ha
  · by_cases e : a = q
    · rw [e, tU_at] at ha
      cases ha
    · rw [tU_ne e] at ha
      exact h.2.2 a j v ha
def GP (M : md_T) (π : ty_R) (τ : ty_T) (u : ty_T × ty_R) : Prop := (∀ a t, τ a = some t → u.1 a = some t) ∧ (∀ a t, τ a = none → u.1 a = some t → t = (1, 8520)) ∧ u.2 = pn π (cn M u.1)
theorem GP.rf {M : md_T} {π : ty_R} {τ : ty_T} : GP M π τ (τ, pn π (cn M τ)) := ⟨fun _ _ h => h, (fun a t h h2 => by have h2 : τ a = some t := h2; rw [h] at h2; cases h2), rfl⟩
theorem GP.up {M : md_T} {π : ty_R} {τ : ty_T} {q : Nat} (hq : τ q = none) : GP M π τ (tU τ q (1, 8520), pn π (cn M (tU τ q (1, 8520)))) := by
  refine ⟨tU_ext hq, fun a t h h2 => ?_, rfl⟩
  have h2 : tU τ q (1, 8520) a = some t := h2
  by_cases e : a = q
  · rw [e, tU_at] at h2
    cases h2
    rfl
  · rw [tU_ne e, h] at h2
    cases h2
theorem GP.po {M : md_T} {π : ty_R} {τ t : ty_T} {r : ty_R} (hu : GP M π τ (t, r)) (h : PO τ π) : PO t π := by
  have nn : ∀ a, t a = none → τ a = none := fun a ha => by
    cases e : τ a with
    | none => rfl
    | some y => have := hu.1 a y e; have this : t a = some y := this; rw [ha] at this; cases this
  have old : ∀ a x, t a = some x → τ a = some x ∨ (τ a = none ∧ x = (1, 8520)) := fun a x ha => by
    cases e : τ a with
    | none => exact Or.inr ⟨rfl, hu.2.1 a x e ha⟩
    | some y => have z : t a = some y := hu.1 a y e; rw [z] at ha; exact Or.inl ha
  refine ⟨fun a x j y ha hc => ?_, fun a v ha => ?_, fun a j v ha => h.2.2 a j v (nn a ha)⟩
  · rcases old a x ha with z | z
    · exact h.1 a x j y z hc
    · exact h.2.2 a j _ z.1
  · rcases old a _ ha with z | z
    · exact h.2.1 a v z
    · exact absurd z.2 (by decide)
theorem pn_up {M : md_T} {π : ty_R} {τ : ty_T} {q : Nat} {n : Nat} {D : va_G} {cy : Nat → ClassId} {A : Nat → Prop} {H0 H : Heap} {locs : List Loc} (hq : τ q = none) (hπ : PO τ π) (hG : TG D cy (tU τ q (1, n)) (rU (pn π (cn M τ)) q (fun _ v => v = .int 0)) A H0 H locs) : TG D cy (tU τ q (1, n)) (pn π (cn M (tU τ q (1, n)))) A H0 H locs := hG.mono (fun a t j v ha z => by
  by_cases e : a = q
  · subst e
    rw [rU_at] at z
    subst z
    refine ⟨⟨(fun z => by cases z), fun t2 x h2 e2 => ?_⟩, hπ.2.2 a j _ hq⟩
    rw [tU_at] at h2
    cases h2
    exact ty_rno rfl
  · rw [rU_ne e] at z
    exact ⟨⟨z.1.1, fun t2 x h2 e2 => z.1.2 t2 x (by rw [tU_ne e] at h2; exact h2) e2⟩, z.2⟩)
