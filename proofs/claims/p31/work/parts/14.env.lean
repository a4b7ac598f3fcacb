/-! the text's constants: its words, its rows of bounds, and the contracts that rest on them -/
def evB (j : Nat) : Int32 := [100, 112, 101, 103].getD j 0
def evN (j : Nat) : Int32 := [2, 2, 2, 3].getD j 0
def evL (j : Nat) : Int32 := [0, 1, 0, 1, 1, 0, 0, 1, 0, 0, 0, 1].getD j 0
def evG (j : Nat) : Int32 := [99, 99, 0, 99, 9, 0, 2, 99, 0, 3, 71, 99].getD j 0
def EV (A : Nat → Prop) (U : State) (H : Heap) (aS aV t1 t2 t3 : Nat) : Prop :=
  va_O "java/lang/String" aS A U H ∧ va_OF "java/lang/String" "coder" "B" (.int 0) aS A U H ∧ va_OF "java/lang/String" "value" "[B" (.ref aV) aS A U H ∧ va_T .byte aV 4 (fun j => .int (evB j)) A U H ∧ vk_R "EdgeEchoes$Text" 66 "dpeg" aS U ∧ va_Z "java/lang/String" "COMPACT_STRINGS" "Z" (.int 1) A U H ∧
  va_Z "EdgeEchoes$Text" "NUMBERS" "[I" (.ref t1) A U H ∧ va_T .int t1 4 (fun j => .int (evN j)) A U H ∧ va_Z "EdgeEchoes$Text" "LEAST" "[I" (.ref t2) A U H ∧ va_T .int t2 12 (fun j => .int (evL j)) A U H ∧ va_Z "EdgeEchoes$Text" "GREATEST" "[I" (.ref t3) A U H ∧ va_T .int t3 12 (fun j => .int (evG j)) A U H
theorem EV.warm {A : Nat → Prop} {s U : State} {H : Heap} {aS aV t1 t2 t3 : Nat} (hW : s.WarmedH U.vm) (h : EV A s H aS aV t1 t2 t3) : EV A U H aS aV t1 t2 t3 := by
  obtain ⟨a1, a2, a3, a4, a5, a6, a7, a8, a9, a10, a11, a12⟩ := h
  have hv := hW.alike
  exact ⟨a1.moved hv, a2.moved hv, a3.moved hv, a4.moved hv, a5.warm hW, a6.moved hv, a7.moved hv, a8.moved hv, a9.moved hv, a10.moved hv, a11.moved hv, a12.moved hv⟩
theorem EV.call {A : Nat → Prop} {U : State} {H : Heap} {aS aV t1 t2 t3 : Nat} {g : JFrame} {mk : MethodId} {a : Array Value} (h : EV A U H aS aV t1 t2 t3) : EV A (U.calling g mk a) H aS aV t1 t2 t3 := by
  obtain ⟨a1, a2, a3, a4, a5, a6, a7, a8, a9, a10, a11, a12⟩ := h
  have hv : U.vm.Alike (U.calling g mk a).vm := Vm.Alike.refl U.vm
  exact ⟨a1.moved hv, a2.moved hv, a3.moved hv, a4.moved hv, a5.same rfl, a6.moved hv, a7.moved hv, a8.moved hv, a9.moved hv, a10.moved hv, a11.moved hv, a12.moved hv⟩
theorem EV.kept {A : Nat → Prop} {U : State} {H H1 : Heap} {aS aV t1 t2 t3 : Nat} (h : EV A U H aS aV t1 t2 t3) (hq : ∀ a : Nat, a < H.size → ¬ A a → H1[a]? = H[a]?) : EV A U H1 aS aV t1 t2 t3 := by
  obtain ⟨a1, a2, a3, a4, a5, a6, a7, a8, a9, a10, a11, a12⟩ := h
  exact ⟨a1.kept hq, a2.kept hq, a3.kept hq, a4.kept hq, a5, a6.kept hq, a7.kept hq, a8.kept hq, a9.kept hq, a10.kept hq, a11.kept hq, a12.kept hq⟩
abbrev EVt : Type := Nat × Nat × Nat × Nat × Nat
abbrev EW (A : Nat → Prop) (U : State) (H : Heap) (z : EVt) : Prop := EV A U H z.1 z.2.1 z.2.2.1 z.2.2.2.1 z.2.2.2.2
def KIE (l : Launch) (D : va_G) (cy : Nat → ClassId) (y : MethodName) (cc : ByteArray) (nL : Nat) (rt : FieldType) (rm : Room) (τ : ty_T) (ρ : ty_R) (z : EVt) (av : List Value) (post : Int32 → ty_R → Prop) : Prop :=
  Met l y (Cond.code y cc nL (some rt) :: BG) rm (va_Pc av (fun U => ty_G D cy τ ρ U.heap ∧ va_K D vwCl (ty_ks cy) U ∧ EW (ty_d τ) U U.heap z)) (va_Qi (fun r (u : ty_R) => post r u) (fun u t => ty_G D cy τ u t.heap) (ty_d τ)) 0 0 (ty_d τ)
theorem k_metIE {l : Launch} {D : va_G} {cy : Nat → ClassId} {y : MethodName} {cc : ByteArray} {nL : Nat} {rt : FieldType} {rm : Room} {τ : ty_T} {ρ : ty_R} {z : EVt} {av : List Value} {post : Int32 → ty_R → Prop} (own : String) (ho : y.cls = own) (hy : plainFor y = true) (hlen : (lg_sl av).length ≤ nL) (hz : ∀ r u, post r u → narrow rt (.int r) = .int r)
    (body : ∀ (p : Program) (e : Env) (s : State) (m : MethodId) (args : Array Value) (below : List Frame) (meth : Method) (c : Code) (Q : State → Prop) (ls : Array Slot), ty_X p c s m args cc own nL D cy → TG D cy τ ρ (ty_d τ) s.heap s.heap [] → EW (ty_d τ) s s.heap z → lv_has ls nL (lv_args 0 av) →
      (∀ (H : Heap) (locs : List Loc) (pc : Nat) (ls : Array Slot) (r : Int32) (u : ty_R), TG D cy τ u (ty_d τ) s.heap H locs → post r u → decode cc pc = .ok (.ireturn, 1) → W p l e rm s m args below meth c H locs 0 0 Q (F0 m pc ls [.int r])) → W p l e rm s m args below meth c s.heap [] 0 0 Q (F0 m 0 ls [])) : KIE l D cy y cc nL rt rm τ ρ z av post := by
  refine va_MetF (cc := cc) (maxL := nL) (ret := some rt) hy rfl ?_
  intro p e s m args below meth c s₁ B hml hv
  obtain ⟨rfl, hG, hK, hE⟩ := hv
  have hts := atoms_spec (ws := Cond.code y cc nL (some rt) :: BG) B.pre
  have hlocks := B.notSynchronized
  have hown : s.vm.findClass own = some m.cls := by rw [← ho]; exact findClass_of_methodNamed B.named
  have hl := lv_entry av hlen
  rw [lg_entry_eq]
  exact body p e s m av.toArray below meth c _ _ ⟨B.exec, B.bytes, hml, hown, fun w hw => hts w (List.mem_cons_of_mem _ hw), hK⟩ ⟨hG, va_S.rf, fun _ h => h⟩ hE hl
    (fun H locs pc ls r u hT hp hd => W.zret (v := r) B.exec B.bytes B.returns (hz r u hp) (fun t ht hW => ⟨⟨r, u, rfl, hp, by show ty_G D cy τ u t.heap; rw [ht]; exact hT.1⟩, hT.2.1.F ht⟩) hT.2.1.2.2 hd)
section ENV
variable {p : Program} {l : Launch} {e : Env} {R : Room} {s : State} {m : MethodId} {args : Array Value} {below : List Frame} {meth : Method} {c : Code} {H : Heap} {locs : List Loc} {cells slots : Nat} {Q : State → Prop} {cc : ByteArray} {pc : Nat} {ls : Array Slot} {rest st : List Value} {D : va_G} {cy : Nat → ClassId} {τ : ty_T} {ρ : ty_R} {A : Nat → Prop} {H0 : Heap} {own : String} {nL : Nat}
theorem k_blindE {z : EVt} {av : List Value} : FrameBlind (va_Pc av (fun U => ty_G D cy τ ρ U.heap ∧ va_K D vwCl (ty_ks cy) U ∧ EW (ty_d τ) U U.heap z)) := fun a U g mk q => ⟨q.1, q.2.1, va_K.moved (u := U) (U := U.calling g mk a) (Vm.Alike.refl U.vm) q.2.2.1, q.2.2.2.call⟩
theorem k_cRE {y : MethodName} {C : String} {z : EVt} {cc' : ByteArray} {nL' n index b : Nat} {rt : FieldType} {rm : Room} {As : List Value} {post : Int32 → ty_R → Prop} (X : ty_X p c s m args cc own nL D cy) (hG : TG D cy τ ρ A H0 H locs) (hE : EW (ty_d τ) s H z) (hM : KIE l D cy y cc' nL' rt rm τ ρ z (.ref b :: As) post) (hrec : ∃ cell : Cell, H[b]? = some cell ∧ cell.vm.isStatics = false ∧ s.vm.findClass C = some cell.cls) (hy : yV y C cc' nL' (some rt) n) (hml : Cond.methodLink own index y ∈ BG) (hrm : rm.cells = 0 ∧ rm.slots = 0) (hR : rm.frames + 1 ≤ R.frames ∧ 8 + (nL' + 11) + rm.locals ≤ R.locals) (hAs : As.length = n) (hls : ls.size = nL) (hst : st = As.reverse ++ .ref b :: rest) (hrest : (rest.map fun v => v.category).sum ≤ 8) (hcs : cells ≤ R.cells ∧ slots ≤ R.slots) (hdg : decode cc pc = .ok (.invokevirtual index, 3))
    (kk : ∀ (r : Int32) (u : ty_R) (H1 : Heap) (locs1 : List Loc), TG D cy τ u A H0 H1 locs1 → post r u → W p l e R s m args below meth c H1 locs1 cells slots Q (F0 m (pc + 3) ls (.int r :: rest))) : W p l e R s m args below meth c H locs cells slots Q (F0 m pc ls st) := by
  have X0 := X
  obtain ⟨hx, hbb, hml0, hown, hB, hK⟩ := X
  obtain ⟨hg, hS, hA⟩ := hG
  exact va_calli (va_runV (As := As) (rest := rest) ⟨hx, hbb, hml0, hown, hB⟩ hM (k_cwV (R := R) X0 hy hml hrm.1 hrm.2 hR) ⟨k_blindE, hrec, fun U hU hW => ⟨rfl, by rw [hU]; exact hg, va_K.moved hW.alike hK, by rw [hU]; exact EV.warm hW hE⟩⟩ rfl hAs hls hst (lv_room hrest) hdg ⟨hcs.1, hcs.2⟩) hS (fun q _ h => hA q h) (fun q h => hA q h) (fun r u t H1 locs1 ht hvm hw hBu hz1 hk1 hS1 => kk r u H1 locs1 (k_TG hA ht hBu hS1) hw)
theorem k_cVE {y : MethodName} {C : String} {T : u_T} {N : Nat} {z : EVt} {cc' : ByteArray} {nL' n index k b : Nat} {rt : FieldType} {rm : Room} {As : List Value} {post : Int32 → ty_R → Prop} (X : ty_X p c s m args cc own nL D cy) (hG : TG D cy τ ρ A H0 H locs) (hE : EW (ty_d τ) s H z) (hM : KIE l D cy y cc' nL' rt rm τ ρ z (.ref b :: As) post) (hb : τ b = some (0, k)) (hcl : vwCl[k]? = some (C, T, N)) (hy : yV y C cc' nL' (some rt) n) (hml : Cond.methodLink own index y ∈ BG) (hrm : rm.cells = 0 ∧ rm.slots = 0) (hR : rm.frames + 1 ≤ R.frames ∧ 8 + (nL' + 11) + rm.locals ≤ R.locals) (hAs : As.length = n) (hls : ls.size = nL) (hst : st = As.reverse ++ .ref b :: rest) (hrest : (rest.map fun v => v.category).sum ≤ 8) (hcs : cells ≤ R.cells ∧ slots ≤ R.slots) (hdg : decode cc pc = .ok (.invokevirtual index, 3))
    (kk : ∀ (r : Int32) (u : ty_R) (H1 : Heap) (locs1 : List Loc), TG D cy τ u A H0 H1 locs1 → post r u → W p l e R s m args below meth c H1 locs1 cells slots Q (F0 m (pc + 3) ls (.int r :: rest))) : W p l e R s m args below meth c H locs cells slots Q (F0 m pc ls st) :=
  k_cRE X hG hE hM (k_recv X.2.2.2.2.2 hG.1 hb hcl) hy hml hrm hR hAs hls hst hrest hcs hdg kk
theorem k_cSE {y : MethodName} {z : EVt} {cc' : ByteArray} {nL' n index : Nat} {rt : FieldType} {rm : Room} {As : List Value} {post : Int32 → ty_R → Prop} (X : ty_X p c s m args cc own nL D cy) (hG : TG D cy τ ρ A H0 H locs) (hE : EW (ty_d τ) s H z) (hM : KIE l D cy y cc' nL' rt rm τ ρ z As post) (hy : yS y cc' nL' (some rt) n) (hml : Cond.methodLink own index y ∈ BG) (hrm : rm.cells = 0 ∧ rm.slots = 0) (hR : rm.frames + 1 ≤ R.frames ∧ 8 + (nL' + 11) + rm.locals ≤ R.locals) (hAs : As.length = n) (hls : ls.size = nL) (hst : st = As.reverse ++ rest) (hrest : (rest.map fun v => v.category).sum ≤ 8) (hcs : cells ≤ R.cells ∧ slots ≤ R.slots) (hdg : decode cc pc = .ok (.invokestatic index, 3))
    (kk : ∀ (r : Int32) (u : ty_R) (H1 : Heap) (locs1 : List Loc), TG D cy τ u A H0 H1 locs1 → post r u → W p l e R s m args below meth c H1 locs1 cells slots Q (F0 m (pc + 3) ls (.int r :: rest))) : W p l e R s m args below meth c H locs cells slots Q (F0 m pc ls st) := by
  obtain ⟨hx, hbb, hml0, hown, hB, hK⟩ := X
  obtain ⟨hg, hS, hA⟩ := hG
  obtain ⟨h1, h3, h4, h6, h7, h8⟩ := hy
  exact va_calli (va_runS (As := As) (rest := rest) ⟨hx, hbb, hml0, hown, hB⟩ hM ⟨callB_of (R := R) n hB (k_giB h4) rfl hrm.1 hrm.2 (hB _ h3) (hB _ hml) ⟨h6, h7, h8⟩ hR, hB _ h1⟩ ⟨k_blindE, fun U hU hW => ⟨rfl, by rw [hU]; exact hg, va_K.moved hW.alike hK, by rw [hU]; exact EV.warm hW hE⟩⟩ rfl hAs hls hst (lv_room hrest) hdg ⟨hcs.1, hcs.2⟩) hS (fun q _ h => hA q h) (fun q h => hA q h) (fun r u t H1 locs1 ht hvm hw hBu hz1 hk1 hS1 => kk r u H1 locs1 (k_TG hA ht hBu hS1) hw)
theorem EV.at {z : EVt} {u : ty_R} (hE : EW (ty_d τ) s s.heap z) (hG : TG D cy τ u (ty_d τ) s.heap H locs) : EW (ty_d τ) s H z := EV.kept hE (fun a h1 h2 => hG.2.1.2.1 a h1 h2)
theorem EV.rec {z : EVt} (h : EW (ty_d τ) s H z) : ∃ cell : Cell, H[z.1]? = some cell ∧ cell.vm.isStatics = false ∧ s.vm.findClass "java/lang/String" = some cell.cls := by
  obtain ⟨⟨cell, h1, h2, h3, -⟩, -⟩ := h
  exact ⟨cell, h1, h2, h3⟩
end ENV
