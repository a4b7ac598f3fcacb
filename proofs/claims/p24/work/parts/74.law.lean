def R_law : String := "EdgeEchoesLaw"
def lw_P (b : Addr) (xs : List Int32) (args : Array Value) (s : State) : Prop := args = #[.ref b] ∧ s.IntsAt b xs ∧ xs.length ≤ 2048 ∧ (Jvm.Cond.and given_1 narrow_1).before args s = true
def lw_Q (_ : Array Value) (s : State) (o : Outcome) (t : State) : Prop := o = .returned (some (.int 1)) ∧ Framed s o t [] 138320 8687290
def lw_Z (below : List Frame) (a : Array Value) (s : State) : State → Prop := fun t => ∃ o, t.status = .running ∧ Ended t below o ∧ lw_Q a s o t
/-- the law's own end, with 1 on the stack, nothing written that was there before, its room as the claim has it -/
theorem lw_ret {p : Program} {l : Launch} {e : Env} {s : State} {m : MethodId} {below : List Frame} {meth : Method} {c : Code} {b : Nat} (hx : p.tables.exec = Jvm.exec) (hb : c.code = code) (hr : meth.sig.returnType = ret) (hlocks : meth.locks = false) {pc : Nat} {H : Heap} {ls : Array Slot} (hdg : decode code pc = .ok (.ireturn, 1)) : W p l e room_1 s m #[Value.ref b] below meth c H [] 138320 8687290 (lw_Z below #[Value.ref b] s) (F0 m pc ls [.int 1]) := by
  intro T hT X
  obtain ⟨fs, hret, hrun, hended, hW, hframe⟩ := X.leave (v := some (.int 1)) (hlocks := hlocks) (fun h => by rw [hr] at h; cases h)
  have hmeth' : T.vm.method? m = some meth := X.method'
  refine ⟨T.setFrames fs, ?_, .returned (some (.int 1)), hrun, hended, rfl, ⟨_, rfl⟩, hW, hframe⟩
  jvm_step X.here [X.here.top, hx, hb, hdg, hmeth', hr, ret, narrow_b1]
  (try refine ⟨rfl, ?_⟩); (try refine ⟨rfl, ?_⟩)
  first | (intro acts; rw [hret _ acts rfl rfl rfl]) | rw [hret _ _ rfl rfl rfl]
  exact Steps.refl _
/-- what holds at the law's entry: the machine, the code, the tables' words (any of lw_tbl by 'hts w (by decide +kernel)'), the script of L ints xs at the cell b, what the Statement gives of the start (any of its parts by flat_of_before) -/
def lw_At (p : Program) (s : State) (m : MethodId) (meth : Method) (c : Code) (b L : Nat) (xs : Nat → Int32) : Prop :=
  p.tables.exec = Jvm.exec ∧ c.code = code ∧ meth.sig.returnType = ret ∧ c.maxLocals = 4 ∧ s.vm.findClass R_law = some m.cls ∧ (∀ w ∈ lw_tbl, w.before #[Value.ref b] s = true) ∧ va_X b L xs s s.heap ∧ b < s.heap.size ∧ meth.locks = false ∧ (Jvm.Cond.and given_1 narrow_1).before #[Value.ref b] s = true
/-- between two calls of the law: the typed heap, the reference's bounds, the two objects -/
def LJ (D : va_G) (cy : Nat → ClassId) (s : State) (xa ma : Nat) (H : Heap) (locs : List Loc) : Prop :=
  ∃ (τ : ty_T) (P N u : Nat) (k0 k1 : Bool), TG D cy τ (cn (MM P N u k0 k1) τ) (fun q => s.heap.size ≤ q) s.heap H locs ∧ OKG P N u ∧ UQ τ ∧ τ xa = some (0, 9) ∧ τ ma = some (0, 10) ∧ ∀ a n, τ a = some (1, n) → n < 2147483648
theorem GP.uq {M : md_T} {τ t : ty_T} {r : ty_R} (hu : GP M τ (t, r)) (hU : UQ τ) : UQ t := by
  have old : ∀ a ta, t a = some ta → (10 ≤ ta.1 ∨ ta = (0, 10)) → τ a = some ta := fun a ta h h2 => by
    cases hh : τ a with
    | none =>
      have z := hu.2.1 a ta hh h
      rw [z] at h2
      rcases h2 with h2 | h2
      · exact absurd h2 (by decide)
      · cases h2
    | some y =>
      have z : t a = some y := hu.1 a y hh
      rw [z] at h
      exact h
  intro a b ta tb h1 h2 h3
  refine hU a b ta tb (old a ta h1 ?_) (old b tb h2 ?_) h3
  · exact h3.imp (fun h => h.2) (fun h => h.1)
  · exact h3.imp (fun h => by rw [← h.1]; exact h.2) (fun h => h.2)
section LAWL
variable {p : Program} {l : Launch} {e : Env} {R : Room} {s : State} {m : MethodId} {args : Array Value} {below : List Frame} {meth : Method} {c : Code} {H : Heap} {locs : List Loc} {cells slots : Nat} {Q : State → Prop} {cc : ByteArray} {pc : Nat} {ls : Array Slot} {rest : List Value} {D : va_G} {cy : Nat → ClassId} {own : String} {nL : Nat}
/-- the script's int at x + j -/
def sv (xs : Nat → Int32) (x : Int32) (j : Int) : Int32 := xs (x + Int32.ofInt j).toNatClampNeg
theorem vp_inI {x : Int32} {L : Nat} (h1 : 0 ≤ x.toInt) (h2 : x.toInt < L) : vp_in x L := cI_in ⟨h1, h2⟩
theorem lw_arg {τ : ty_T} {ρ : ty_R} {b L xa ma : Nat} {xs : Nat → Int32} {x : Int32} {j : Int} (X : ty_X p c s m args cc own nL D cy) (hX : va_X b L xs s s.heap) (hbl : b < s.heap.size) (hL : L ≤ 2048) (hl : lv_has ls nL [(0, .ref b), (1, .ref xa), (2, .ref ma), (3, .int x)]) (hx : 0 ≤ x.toInt ∧ x.toInt + 4 ≤ L) (hG : TG D cy τ ρ (fun q => s.heap.size ≤ q) s.heap H locs) (hj : 0 ≤ j ∧ j ≤ 3) (d0 : decode cc pc = .ok (.aload_n 0, 1)) (d1 : decode cc (pc + 1) = .ok (.iload_n 3, 1)) (d2 : decode cc (pc + 2) = .ok (.iconst j, 1)) (d3 : decode cc (pc + 3) = .ok (.iadd, 1)) (d4 : decode cc (pc + 4) = .ok (.iaload, 1))
    (kk : ∀ v : Int32, v = sv xs x j → W p l e R s m args below meth c H locs cells slots Q (F0 m (pc + 5) ls (.int v :: rest))) : W p l e R s m args below meth c H locs cells slots Q (F0 m pc ls rest) := by
  refine lv_aload_n X.1 X.2.1 d0 rfl (lv_at hl 0 rfl) ?_
  refine lv_iload_n X.1 X.2.1 d1 rfl (lv_at hl 3 rfl) ?_
  refine lv_iconst X.1 X.2.1 d2 rfl ?_
  refine lv_iadd X.1 X.2.1 d3 ?_
  have ej : (Int32.ofInt j).toInt = j := cI_of (by omega) (by omega)
  have e1 : (x + Int32.ofInt j).toInt = x.toInt + j := by
    rw [cI_add (by omega) (by omega), ej]
  exact va_sld X.1 X.2.1 hX hbl (Nat.not_le.mpr hbl) hG.2.1 (vp_inI (by omega) (by omega)) d4 (kk _ rfl)
/-- 'is it not 0', as 1 or 0 -/
theorem lw_nz {y : Int32} (X : ty_X p c s m args cc own nL D cy) (d0 : decode cc pc = .ok (.ifCond .eq 7, 3)) (d1 : decode cc (pc + 3) = .ok (.iconst 1, 1)) (d2 : decode cc (pc + 4) = .ok (.goto 4, 3)) (d3 : decode cc (pc + 7) = .ok (.iconst 0, 1))
    (kk : ∀ v : Int32, (v.toInt = 0 ∨ v.toInt = 1) → W p l e R s m args below meth c H locs cells slots Q (F0 m (pc + 8) ls (.int v :: rest))) : W p l e R s m args below meth c H locs cells slots Q (F0 m pc ls (.int y :: rest)) := by
  refine n_if_eq (tgt := pc + 7) X d0 (by omega) (fun _ => ?_) (fun _ => ?_)
  · exact n_ic X d3 (by decide) (by decide) (fun v hv => kk v (Or.inl hv))
  · refine n_ic X d1 (by decide) (by decide) (fun v hv => ?_)
    exact lv_goto (tgt := pc + 8) X.1 X.2.1 d2 (by omega) (kk v (Or.inr hv))
end LAWL
