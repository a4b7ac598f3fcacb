/-! contracts over the typed heap, and calls -/
abbrev rL (d : Nat) : Room := { frames := d, cells := 0, slots := 0, locals := 40 * d }
def ty_d (τ : ty_T) : Nat → Prop := fun q => τ q ≠ none
/-- an int (or boolean) answer; the types stay; 'ρ' may become another -/
def KI (l : Launch) (D : va_G) (cy : Nat → ClassId) (y : MethodName) (cc : ByteArray) (nL : Nat) (rt : FieldType) (rm : Room) (τ : ty_T) (ρ : ty_R) (av : List Value) (post : Int32 → ty_R → Prop) : Prop :=
  Met l y (Cond.code y cc nL (some rt) :: BG) rm (va_Pc av (fun U => ty_G D cy τ ρ U.heap ∧ va_K D vwCl (ty_ks cy) U)) (va_Qi (fun r (u : ty_R) => post r u) (fun u t => ty_G D cy τ u t.heap) (ty_d τ)) 0 0 (ty_d τ)
def KV (l : Launch) (D : va_G) (cy : Nat → ClassId) (y : MethodName) (cc : ByteArray) (nL : Nat) (rm : Room) (τ : ty_T) (ρ : ty_R) (av : List Value) (post : ty_R → Prop) : Prop :=
  Met l y (Cond.code y cc nL none :: BG) rm (va_Pc av (fun U => ty_G D cy τ ρ U.heap ∧ va_K D vwCl (ty_ks cy) U)) (va_Qv (fun (u : ty_R) => post u) (fun u t => ty_G D cy τ u t.heap) (ty_d τ)) 0 0 (ty_d τ)
theorem k_metI {l : Launch} {D : va_G} {cy : Nat → ClassId} {y : MethodName} {cc : ByteArray} {nL : Nat} {rt : FieldType} {rm : Room} {τ : ty_T} {ρ : ty_R} {av : List Value} {post : Int32 → ty_R → Prop} (own : String) (ho : y.cls = own) (hy : plainFor y = true) (hlen : (lg_sl av).length ≤ nL) (hz : ∀ r u, post r u → narrow rt (.int r) = .int r)
    (body : ∀ (p : Program) (e : Env) (s : State) (m : MethodId) (args : Array Value) (below : List Frame) (meth : Method) (c : Code) (Q : State → Prop) (ls : Array Slot), ty_X p c s m args cc own nL D cy → TG D cy τ ρ (ty_d τ) s.heap s.heap [] → lv_has ls nL (lv_args 0 av) →
      (∀ (H : Heap) (locs : List Loc) (pc : Nat) (ls : Array Slot) (r : Int32) (u : ty_R), TG D cy τ u (ty_d τ) s.heap H locs → post r u → decode cc pc = .ok (.ireturn, 1) → W p l e rm s m args below meth c H locs 0 0 Q (F0 m pc ls [.int r])) → W p l e rm s m args below meth c s.heap [] 0 0 Q (F0 m 0 ls [])) : KI l D cy y cc nL rt rm τ ρ av post := by
  refine va_MetF (cc := cc) (maxL := nL) (ret := some rt) hy rfl ?_
  intro p e s m args below meth c s₁ B hml hv
  obtain ⟨rfl, hG, hK⟩ := hv
  have hts := atoms_spec (ws := Cond.code y cc nL (some rt) :: BG) B.pre
  have hlocks := B.notSynchronized
  have hown : s.vm.findClass own = some m.cls := by rw [← ho]; exact findClass_of_methodNamed B.named
  have hl := lv_entry av hlen
  rw [lg_entry_eq]
  exact body p e s m av.toArray below meth c _ _ ⟨B.exec, B.bytes, hml, hown, fun w hw => hts w (List.mem_cons_of_mem _ hw), hK⟩ ⟨hG, va_S.rf, fun _ h => h⟩ hl
    (fun H locs pc ls r u hT hp hd => W.zret (v := r) B.exec B.bytes B.returns (hz r u hp) (fun t ht hW => ⟨⟨r, u, rfl, hp, by show ty_G D cy τ u t.heap; rw [ht]; exact hT.1⟩, hT.2.1.F ht⟩) hT.2.1.2.2 hd)
theorem k_metV {l : Launch} {D : va_G} {cy : Nat → ClassId} {y : MethodName} {cc : ByteArray} {nL : Nat} {rm : Room} {τ : ty_T} {ρ : ty_R} {av : List Value} {post : ty_R → Prop} (own : String) (ho : y.cls = own) (hy : plainFor y = true) (hlen : (lg_sl av).length ≤ nL)
    (body : ∀ (p : Program) (e : Env) (s : State) (m : MethodId) (args : Array Value) (below : List Frame) (meth : Method) (c : Code) (Q : State → Prop) (ls : Array Slot), ty_X p c s m args cc own nL D cy → TG D cy τ ρ (ty_d τ) s.heap s.heap [] → lv_has ls nL (lv_args 0 av) →
      (∀ (H : Heap) (locs : List Loc) (pc : Nat) (ls : Array Slot) (u : ty_R), TG D cy τ u (ty_d τ) s.heap H locs → post u → decode cc pc = .ok (.return_, 1) → W p l e rm s m args below meth c H locs 0 0 Q (F0 m pc ls [])) → W p l e rm s m args below meth c s.heap [] 0 0 Q (F0 m 0 ls [])) : KV l D cy y cc nL rm τ ρ av post := by
  refine va_MetF (cc := cc) (maxL := nL) (ret := none) hy rfl ?_
  intro p e s m args below meth c s₁ B hml hv
  obtain ⟨rfl, hG, hK⟩ := hv
  have hts := atoms_spec (ws := Cond.code y cc nL none :: BG) B.pre
  have hlocks := B.notSynchronized
  have hown : s.vm.findClass own = some m.cls := by rw [← ho]; exact findClass_of_methodNamed B.named
  have hl := lv_entry av hlen
  rw [lg_entry_eq]
  exact body p e s m av.toArray below meth c _ _ ⟨B.exec, B.bytes, hml, hown, fun w hw => hts w (List.mem_cons_of_mem _ hw), hK⟩ ⟨hG, va_S.rf, fun _ h => h⟩ hl
    (fun H locs pc ls u hT hp hd => W.vret B.exec B.bytes B.returns (fun t ht hW => ⟨⟨u, rfl, hp, by show ty_G D cy τ u t.heap; rw [ht]; exact hT.1⟩, hT.2.1.F ht⟩) hT.2.1.2.2 hd)
/-- what is known of a method that is called: its words, its name -/
def yV (y : MethodName) (C : String) (cc : ByteArray) (nL : Nat) (ret : Option FieldType) (n : Nat) : Prop := Cond.instanceMethod y ∈ BG ∧ Cond.selects C y y ∈ BG ∧ Cond.initialized C ∈ BG ∧ Cond.code y cc nL ret ∈ BG ∧ y.cls = C ∧ y.cls ≠ "java/lang/invoke/MethodHandle" ∧ y.cls ≠ "java/lang/invoke/VarHandle" ∧ (parseMethodDescriptor y.desc).map (fun d => d.parameters.length) = some n
def yS (y : MethodName) (cc : ByteArray) (nL : Nat) (ret : Option FieldType) (n : Nat) : Prop := Cond.static y ∈ BG ∧ Cond.initialized y.cls ∈ BG ∧ Cond.code y cc nL ret ∈ BG ∧ y.cls ≠ "java/lang/invoke/MethodHandle" ∧ y.cls ≠ "java/lang/invoke/VarHandle" ∧ (parseMethodDescriptor y.desc).map (fun d => d.parameters.length) = some n
theorem k_good {w : Cond} (h : w ∈ BG) : w ∈ BG ∧ ((w.onTables && w.keeps) = true ∨ ∃ ty, w = .arrayClass ty) := ⟨h, good_of_word (bg_good h)⟩
theorem k_giB {y : MethodName} {cc : ByteArray} {nL : Nat} {ret : Option FieldType} (h : Cond.code y cc nL ret ∈ BG) : GoodIn BG (Cond.code y cc nL ret :: BG) := fun w hw => by
  rcases List.mem_cons.mp hw with rfl | hw
  · exact k_good h
  · exact k_good hw
section CTR
variable {p : Program} {l : Launch} {e : Env} {R : Room} {s : State} {m : MethodId} {args : Array Value} {below : List Frame} {meth : Method} {c : Code} {H : Heap} {locs : List Loc} {cells slots : Nat} {Q : State → Prop} {cc : ByteArray} {pc : Nat} {ls : Array Slot} {rest st : List Value} {D : va_G} {cy : Nat → ClassId} {τ : ty_T} {ρ : ty_R} {A : Nat → Prop} {H0 : Heap} {own : String} {nL : Nat}
theorem k_blind {av : List Value} : FrameBlind (va_Pc av (fun U => ty_G D cy τ ρ U.heap ∧ va_K D vwCl (ty_ks cy) U)) := fun a U g mk q => ⟨q.1, q.2.1, va_K.moved (u := U) (U := U.calling g mk a) (Vm.Alike.refl U.vm) q.2.2⟩
theorem k_recv (hK : va_K D vwCl (ty_ks cy) s) (hG : ty_G D cy τ ρ H) {b k : Nat} (hb : τ b = some (0, k)) {C : String} {T : u_T} {N : Nat} (hc : vwCl[k]? = some (C, T, N)) : ∃ cell : Cell, H[b]? = some cell ∧ cell.vm.isStatics = false ∧ s.vm.findClass C = some cell.cls := by
  obtain ⟨L, f, hP, hD, hdom, hok⟩ := hG
  obtain ⟨k0, hk0⟩ := va_pl_get (X := []) (f := f) ((hdom b).mpr (ty_some hb))
  obtain ⟨fs, he, hlen, hv⟩ := (hok b _ hb).1 rfl
  rw [he] at hk0
  exact va_recv hK hP hc hk0
theorem k_TG {u : ty_R} {t : State} {H1 : Heap} {locs1 : List Loc} (hA : ∀ a, τ a ≠ none → A a) (ht : t.heap = H1) (h : ty_G D cy τ u t.heap) (hS : va_S A H0 H1 locs1) : TG D cy τ u A H0 H1 locs1 := ⟨by rw [← ht]; exact h, hS, hA⟩
theorem k_cwV {y : MethodName} {C : String} {cc' : ByteArray} {nL' n index : Nat} {ret : Option FieldType} {rm : Room} (X : ty_X p c s m args cc own nL D cy) (hy : yV y C cc' nL' ret n) (hml : Cond.methodLink own index y ∈ BG) (hrc : rm.cells = 0) (hrs : rm.slots = 0) (hR : rm.frames + 1 ≤ R.frames ∧ 8 + (nL' + 11) + rm.locals ≤ R.locals) : CallW R s args own C index y cc' nL' ret (Cond.code y cc' nL' ret :: BG) rm 0 0 n := by
  obtain ⟨-, -, -, -, hB, -⟩ := X
  obtain ⟨h1, h2, h3, h4, h5, h6, h7, h8⟩ := hy
  exact ⟨callB_of n hB (k_giB h4) rfl hrc hrs (by rw [h5]; exact hB _ h3) (hB _ hml) ⟨h6, h7, h8⟩ hR, hB _ h1, hB _ h2⟩
theorem k_cVi {y : MethodName} {C : String} {T : u_T} {N : Nat} {cc' : ByteArray} {nL' n index k b : Nat} {rt : FieldType} {rm : Room} {As : List Value} {post : Int32 → ty_R → Prop} (X : ty_X p c s m args cc own nL D cy) (hG : TG D cy τ ρ A H0 H locs) (hM : KI l D cy y cc' nL' rt rm τ ρ (.ref b :: As) post) (hb : τ b = some (0, k)) (hcl : vwCl[k]? = some (C, T, N)) (hy : yV y C cc' nL' (some rt) n) (hml : Cond.methodLink own index y ∈ BG) (hrm : rm.cells = 0 ∧ rm.slots = 0) (hR : rm.frames + 1 ≤ R.frames ∧ 8 + (nL' + 11) + rm.locals ≤ R.locals) (hAs : As.length = n) (hls : ls.size = nL) (hst : st = As.reverse ++ .ref b :: rest) (hrest : (rest.map fun v => v.category).sum ≤ 8) (hcs : cells ≤ R.cells ∧ slots ≤ R.slots) (hdg : decode cc pc = .ok (.invokevirtual index, 3))
    (kk : ∀ (r : Int32) (u : ty_R) (H1 : Heap) (locs1 : List Loc), TG D cy τ u A H0 H1 locs1 → post r u → W p l e R s m args below meth c H1 locs1 cells slots Q (F0 m (pc + 3) ls (.int r :: rest))) : W p l e R s m args below meth c H locs cells slots Q (F0 m pc ls st) := by
  have X0 := X
  obtain ⟨hx, hbb, hml0, hown, hB, hK⟩ := X
  obtain ⟨hg, hS, hA⟩ := hG
  exact va_calli (va_runV (As := As) (rest := rest) ⟨hx, hbb, hml0, hown, hB⟩ hM (k_cwV (R := R) X0 hy hml hrm.1 hrm.2 hR) ⟨k_blind, k_recv hK hg hb hcl, fun U hU hW => ⟨rfl, by rw [hU]; exact hg, va_K.moved hW.alike hK⟩⟩ rfl hAs hls hst (lv_room hrest) hdg ⟨hcs.1, hcs.2⟩) hS (fun q _ h => hA q h) (fun q h => hA q h) (fun r u t H1 locs1 ht hvm hw hBu hz1 hk1 hS1 => kk r u H1 locs1 (k_TG hA ht hBu hS1) hw)
theorem k_cVv {y : MethodName} {C : String} {T : u_T} {N : Nat} {cc' : ByteArray} {nL' n index k b : Nat} {rm : Room} {As : List Value} {post : ty_R → Prop} (X : ty_X p c s m args cc own nL D cy) (hG : TG D cy τ ρ A H0 H locs) (hM : KV l D cy y cc' nL' rm τ ρ (.ref b :: As) post) (hb : τ b = some (0, k)) (hcl : vwCl[k]? = some (C, T, N)) (hy : yV y C cc' nL' none n) (hml : Cond.methodLink own index y ∈ BG) (hrm : rm.cells = 0 ∧ rm.slots = 0) (hR : rm.frames + 1 ≤ R.frames ∧ 8 + (nL' + 11) + rm.locals ≤ R.locals) (hAs : As.length = n) (hls : ls.size = nL) (hst : st = As.reverse ++ .ref b :: rest) (hrest : (rest.map fun v => v.category).sum ≤ 8) (hcs : cells ≤ R.cells ∧ slots ≤ R.slots) (hdg : decode cc pc = .ok (.invokevirtual index, 3))
    (kk : ∀ (u : ty_R) (H1 : Heap) (locs1 : List Loc), TG D cy τ u A H0 H1 locs1 → post u → W p l e R s m args below meth c H1 locs1 cells slots Q (F0 m (pc + 3) ls rest)) : W p l e R s m args below meth c H locs cells slots Q (F0 m pc ls st) := by
  have X0 := X
  obtain ⟨hx, hbb, hml0, hown, hB, hK⟩ := X
  obtain ⟨hg, hS, hA⟩ := hG
  exact va_callv (va_runV (As := As) (rest := rest) ⟨hx, hbb, hml0, hown, hB⟩ hM (k_cwV (R := R) X0 hy hml hrm.1 hrm.2 hR) ⟨k_blind, k_recv hK hg hb hcl, fun U hU hW => ⟨rfl, by rw [hU]; exact hg, va_K.moved hW.alike hK⟩⟩ rfl hAs hls hst (lv_room hrest) hdg ⟨hcs.1, hcs.2⟩) hS (fun q _ h => hA q h) (fun q h => hA q h) (fun u t H1 locs1 ht hvm hw hBu hz1 hk1 hS1 => kk u H1 locs1 (k_TG hA ht hBu hS1) hw)
theorem k_cSi {y : MethodName} {cc' : ByteArray} {nL' n index : Nat} {rt : FieldType} {rm : Room} {As : List Value} {post : Int32 → ty_R → Prop} (X : ty_X p c s m args cc own nL D cy) (hG : TG D cy τ ρ A H0 H locs) (hM : KI l D cy y cc' nL' rt rm τ ρ As post) (hy : yS y cc' nL' (some rt) n) (hml : Cond.methodLink own index y ∈ BG) (hrm : rm.cells = 0 ∧ rm.slots = 0) (hR : rm.frames + 1 ≤ R.frames ∧ 8 + (nL' + 11) + rm.locals ≤ R.locals) (hAs : As.length = n) (hls : ls.size = nL) (hst : st = As.reverse ++ rest) (hrest : (rest.map fun v => v.category).sum ≤ 8) (hcs : cells ≤ R.cells ∧ slots ≤ R.slots) (hdg : decode cc pc = .ok (.invokestatic index, 3))
    (kk : ∀ (r : Int32) (u : ty_R) (H1 : Heap) (locs1 : List Loc), TG D cy τ u A H0 H1 locs1 → post r u → W p l e R s m args below meth c H1 locs1 cells slots Q (F0 m (pc + 3) ls (.int r :: rest))) : W p l e R s m args below meth c H locs cells slots Q (F0 m pc ls st) := by
  obtain ⟨hx, hbb, hml0, hown, hB, hK⟩ := X
  obtain ⟨hg, hS, hA⟩ := hG
  obtain ⟨h1, h3, h4, h6, h7, h8⟩ := hy
  exact va_calli (va_runS (As := As) (rest := rest) ⟨hx, hbb, hml0, hown, hB⟩ hM ⟨callB_of (R := R) n hB (k_giB h4) rfl hrm.1 hrm.2 (hB _ h3) (hB _ hml) ⟨h6, h7, h8⟩ hR, hB _ h1⟩ ⟨k_blind, fun U hU hW => ⟨rfl, by rw [hU]; exact hg, va_K.moved hW.alike hK⟩⟩ rfl hAs hls hst (lv_room hrest) hdg ⟨hcs.1, hcs.2⟩) hS (fun q _ h => hA q h) (fun q h => hA q h) (fun r u t H1 locs1 ht hvm hw hBu hz1 hk1 hS1 => kk r u H1 locs1 (k_TG hA ht hBu hS1) hw)
theorem k_cSv {y : MethodName} {cc' : ByteArray} {nL' n index : Nat} {rm : Room} {As : List Value} {post : ty_R → Prop} (X : ty_X p c s m args cc own nL D cy) (hG : TG D cy τ ρ A H0 H locs) (hM : KV l D cy y cc' nL' rm τ ρ As post) (hy : yS y cc' nL' none n) (hml : Cond.methodLink own index y ∈ BG) (hrm : rm.cells = 0 ∧ rm.slots = 0) (hR : rm.frames + 1 ≤ R.frames ∧ 8 + (nL' + 11) + rm.locals ≤ R.locals) (hAs : As.length = n) (hls : ls.size = nL) (hst : st = As.reverse ++ rest) (hrest : (rest.map fun v => v.category).sum ≤ 8) (hcs : cells ≤ R.cells ∧ slots ≤ R.slots) (hdg : decode cc pc = .ok (.invokestatic index, 3))
    (kk : ∀ (u : ty_R) (H1 : Heap) (locs1 : List Loc), TG D cy τ u A H0 H1 locs1 → post u → W p l e R s m args below meth c H1 locs1 cells slots Q (F0 m (pc + 3) ls rest)) : W p l e R s m args below meth c H locs cells slots Q (F0 m pc ls st) := by
  obtain ⟨hx, hbb, hml0, hown, hB, hK⟩ := X
  obtain ⟨hg, hS, hA⟩ := hG
  obtain ⟨h1, h3, h4, h6, h7, h8⟩ := hy
  exact va_callv (va_runS (As := As) (rest := rest) ⟨hx, hbb, hml0, hown, hB⟩ hM ⟨callB_of (R := R) n hB (k_giB h4) rfl hrm.1 hrm.2 (hB _ h3) (hB _ hml) ⟨h6, h7, h8⟩ hR, hB _ h1⟩ ⟨k_blind, fun U hU hW => ⟨rfl, by rw [hU]; exact hg, va_K.moved hW.alike hK⟩⟩ rfl hAs hls hst (lv_room hrest) hdg ⟨hcs.1, hcs.2⟩) hS (fun q _ h => hA q h) (fun q h => hA q h) (fun u t H1 locs1 ht hvm hw hBu hz1 hk1 hS1 => kk u H1 locs1 (k_TG hA ht hBu hS1) hw)
end CTR
