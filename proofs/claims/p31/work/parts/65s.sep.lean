/-! two typed heaps side by side: what is known besides, what a call leaves alone, the two sides apart -/
section SEP
variable {D : va_G} {cy : Nat → ClassId} {M : md_T} {τ τ' : ty_T} {ρ ρ' π : ty_R} {A : Nat → Prop} {H0 H H1 : Heap} {locs locs1 : List Loc} {S : List Nat} {b j : Nat}
def pn (π ρ : ty_R) : ty_R := fun b j v => ρ b j v ∧ π b j v
theorem pn_N (h : ty_N τ ρ) : ty_N τ (pn π ρ) := fun b t j hb z => h b t j hb z.1
theorem pn_R (h : ty_Rg M τ ρ) : ty_Rg M τ (pn π ρ) := fun b t j x hb z => h b t j x hb z.1
theorem pn_F (h : ty_Wf M τ ρ S) (hπ : ∀ a t j x, τ a = some t → ty_cd t j ∈ S → π a j (.int x)) : ty_Wf M τ (pn π ρ) S := fun a t j x ha hc hr => ⟨h a t j x ha hc hr, hπ a t j x ha hc⟩
theorem rP_at {v x : Value} (h : rP ρ b j x b j v) : v = x := by unfold rP at h; rw [if_pos ⟨rfl, rfl⟩] at h; exact h
theorem rP_ne {a i : Nat} {v x : Value} (hn : ¬ (a = b ∧ i = j)) (h : rP ρ b j x a i v) : ρ a i v := by unfold rP at h; rw [if_neg hn] at h; exact h
theorem rP_N {x : Int32} (h : ty_N τ ρ) : ty_N τ (rP ρ b j (.int x)) := fun a t i ha z => by
  by_cases e : a = b ∧ i = j
  · obtain ⟨rfl, rfl⟩ := e
    have := rP_at z
    cases this
  · exact h a t i ha (rP_ne e z)
theorem rP_R {x : Int32} {t0 : ty_C} (h : ty_Rg M τ ρ) (hb : τ b = some t0) (hx : ty_rng M t0 j x) : ty_Rg M τ (rP ρ b j (.int x)) := fun a t i y ha z => by
  by_cases e : a = b ∧ i = j
  · obtain ⟨rfl, rfl⟩ := e
    have := rP_at z
    cases this
    rw [hb] at ha
    cases ha
    exact hx
  · exact h a t i y ha (rP_ne e z)
theorem rP_F {v : Value} {t0 : ty_C} (h : ty_Wf M τ ρ S) (hb : τ b = some t0) (hc : ty_cd t0 j ∉ S) : ty_Wf M τ (rP ρ b j v) S := fun a t i y ha hi hr => by
  unfold rP
  by_cases e : a = b ∧ i = j
  · obtain ⟨rfl, rfl⟩ := e
    rw [hb] at ha
    cases ha
    exact absurd hi hc
  · rw [if_neg e]
    exact h a t i y ha hi hr
/-- a call leaves alone what isn't typed by its own types -/
def fr (τ : ty_T) (H H1 : Heap) : Prop := H.size ≤ H1.size ∧ ∀ a, a < H.size → τ a = none → H1[a]? = H[a]?
theorem TG.lt (h : TG D cy τ ρ A H0 H locs) {a : Nat} (ha : τ a ≠ none) : a < H.size := by
  obtain ⟨⟨L, f, hP, hD, hdom, hok⟩, _, _⟩ := h
  obtain ⟨k0, hk0⟩ := va_pl_get (X := []) (f := f) ((hdom a).mpr ha)
  exact (hP k0 _ hk0).lt
theorem TG.fr (h : TG D cy τ' ρ' A H0 H locs) (hd : ∀ a, τ' a ≠ none → τ a = none) (hf : fr τ H H1) (hS : va_S A H0 H1 locs1) : TG D cy τ' ρ' A H0 H1 locs1 := by
  have h0 := h
  obtain ⟨⟨L, f, hP, hD, hdom, hok⟩, _, hA⟩ := h
  refine ⟨⟨L, f, fun k q hq => ?_, hD, hdom, hok⟩, hS, hA⟩
  have hm : q ∈ va_pl L f := List.mem_of_getElem? hq
  obtain ⟨a, ha, rfl⟩ := List.mem_map.mp hm
  have hn : τ' a ≠ none := (hdom a).mp ha
  exact (hP k _ hq).kept (hf.2 a (h0.lt hn) (hd a hn))
/-- the cells of some types alone -/
def tR (P : ty_C → Bool) (τ : ty_T) : ty_T := fun a => match τ a with
  | some t => if P t then some t else none
  | none => none
theorem tR_of {P : ty_C → Bool} {a : Nat} {t : ty_C} (h : τ a = some t) (hp : P t = true) : tR P τ a = some t := by unfold tR; rw [h]; exact if_pos hp
theorem tR_to {P : ty_C → Bool} {a : Nat} {t : ty_C} (h : tR P τ a = some t) : τ a = some t ∧ P t = true := by
  unfold tR at h
  cases hh : τ a with
  | none => rw [hh] at h; cases h
  | some u =>
    rw [hh] at h
    by_cases hp : P u = true
    · have h : (if P u = true then some u else none) = some t := h
      rw [if_pos hp] at h
      cases h
      exact ⟨rfl, hp⟩
    · have h : (if P u = true then some u else none) = some t := h
      rw [if_neg hp] at h
      cases h
theorem TG.part {P : ty_C → Bool} (h : TG D cy τ ρ A H0 H locs) (hc : ∀ k g, P (0, k) = true → g ∈ ty_fs k → (g.1 = 2 → P g.2 = true) ∧ (g.1 = 3 → ∀ n, P (1, n) = true)) (h3 : ∀ n, P (3, n) = true → P (0, 3) = true) (h4 : ∀ n, P (4, n) = true → P (0, 2) = true) : TG D cy (tR P τ) ρ A H0 H locs := by
  obtain ⟨⟨L, f, hP, hD, hdom, hok⟩, hS, hA⟩ := h
  have hnd : L.Nodup := by
    refine List.pairwise_iff_getElem.mpr (fun i j hi hj hij e => ?_)
    have e1 : (va_pl L f)[i]? = some (L[i], f L[i]) := by unfold va_pl; rw [List.getElem?_map, List.getElem?_eq_getElem hi]; rfl
    have e2 : (va_pl L f)[j]? = some (L[j], f L[j]) := by unfold va_pl; rw [List.getElem?_map, List.getElem?_eq_getElem hj]; rfl
    have := hD.1 i j _ _ e1 e2 e
    omega
  have hnd2 : (L.filter (fun a => (tR P τ a).isSome)).Nodup := List.Pairwise.filter _ hnd
  have mem : ∀ a, a ∈ L.filter (fun a => (tR P τ a).isSome) ↔ tR P τ a ≠ none := fun a => by
    rw [List.mem_filter]
    constructor
    · intro z e
      rw [e] at z
      exact absurd z.2 (by decide)
    · intro z
      cases e : tR P τ a with
      | none => exact absurd e z
      | some t => exact ⟨(hdom a).mpr (by rw [(tR_to e).1]; intro z; cases z), rfl⟩
  have get : ∀ (k : Nat) (q : Nat × va_E), (va_pl (L.filter (fun a => (tR P τ a).isSome)) f)[k]? = some q → (L.filter (fun a => (tR P τ a).isSome))[k]? = some q.1 ∧ q = (q.1, f q.1) := fun k q hq => by
    unfold va_pl at hq
    rw [List.getElem?_map] at hq
    cases e : (L.filter (fun a => (tR P τ a).isSome))[k]? with
    | none => rw [e] at hq; cases hq
    | some a => rw [e] at hq; cases hq; exact ⟨rfl, rfl⟩
  refine ⟨⟨L.filter (fun a => (tR P τ a).isSome), f, fun k q hq => ?_, ⟨fun i j p q hp hq e => ?_, fun _ _ _ => trivial⟩, mem, fun a t ha => ?_⟩, hS, fun a ha => hA a ?_⟩
  · obtain ⟨g1, g2⟩ := get k q hq
    have hm := List.mem_of_getElem? g1
    obtain ⟨k0, hk0⟩ := va_pl_get (X := []) (f := f) (List.mem_filter.mp hm).1
    rw [g2]
    exact hP k0 _ hk0
  · obtain ⟨g1, -⟩ := get i p hp
    obtain ⟨g2, -⟩ := get j q hq
    rw [← e] at g2
    obtain ⟨l1, l2⟩ := List.getElem?_eq_some_iff.mp g1
    obtain ⟨m1, m2⟩ := List.getElem?_eq_some_iff.mp g2
    rcases Nat.lt_trichotomy i j with z | z | z
    · exact absurd (by rw [l2, m2]) (List.pairwise_iff_getElem.mp hnd2 i j l1 m1 z)
    · exact z
    · exact absurd (by rw [l2, m2]) (List.pairwise_iff_getElem.mp hnd2 j i m1 l1 z)
  · obtain ⟨h1, h2⟩ := tR_to ha
    obtain ⟨o0, o1, o2, o3⟩ := hok a t h1
    obtain ⟨t1, t2⟩ := t
    refine ⟨fun q => ?_, o1, o2, fun q => ?_⟩
    · obtain ⟨fs, e1, e2, e3⟩ := o0 q
      refine ⟨fs, e1, e2, fun j g v hg hv => ⟨?_, (e3 j g v hg hv).2⟩⟩
      have t10 : t1 = 0 := by
        have q : ty_kd t1 = 0 := q
        unfold ty_kd at q
        by_cases z : t1 = 0
        · exact z
        · rw [if_neg z] at q
          split at q
          · cases q
          · split at q <;> cases q
      subst t10
      obtain ⟨v0, v1, v2, v3⟩ := (e3 j g v hg hv).1
      obtain ⟨c2, c3⟩ := hc t2 g h2 (List.mem_of_getElem? hg)
      refine ⟨v0, v1, fun z => ?_, fun z => ?_⟩
      · rcases v2 z with y | ⟨b, y1, y2⟩
        · exact Or.inl y
        · exact Or.inr ⟨b, y1, tR_of y2 (c2 z)⟩
      · rcases v3 z with y | ⟨b, n, y1, y2⟩
        · exact Or.inl y
        · exact Or.inr ⟨b, n, y1, tR_of y2 (c3 z n)⟩
    · obtain ⟨f0, e1, e2⟩ := o3 q
      refine ⟨f0, e1, fun j hj => ⟨fun b hb => ?_, (e2 j hj).2⟩⟩
      have y := (e2 j hj).1 b hb
      refine tR_of y ?_
      by_cases z : t1 = 3
      · subst z
        exact h3 t2 h2
      · have z4 : t1 = 4 := by
          have q : ty_kd t1 = 3 := q
          unfold ty_kd at q
          split at q
          · cases q
          · split at q
            · cases q
            · split at q
              · next w => omega
              · cases q
        subst z4
        exact h4 t2 h2
  · cases e : tR P τ a with
    | none => exact absurd e ha
    | some t => rw [(tR_to e).1]; intro z; cases z
end SEP
section SEPC
variable {p : Program} {l : Launch} {e : Env} {R : Room} {s : State} {m : MethodId} {args : Array Value} {below : List Frame} {meth : Method} {c : Code} {H : Heap} {locs : List Loc} {cells slots : Nat} {Q : State → Prop} {cc : ByteArray} {pc : Nat} {ls : Array Slot} {rest st : List Value} {D : va_G} {cy : Nat → ClassId} {τ : ty_T} {ρ : ty_R} {A : Nat → Prop} {H0 : Heap} {own : String} {nL : Nat}
theorem f_cVi {y : MethodName} {C : String} {T : u_T} {N : Nat} {cc' : ByteArray} {nL' n index k b : Nat} {rt : FieldType} {rm : Room} {As : List Value} {post : Int32 → ty_R → Prop} (X : ty_X p c s m args cc own nL D cy) (hG : TG D cy τ ρ A H0 H locs) (hM : KI l D cy y cc' nL' rt rm τ ρ (.ref b :: As) post) (hb : τ b = some (0, k)) (hcl : vwCl[k]? = some (C, T, N)) (hy : yV y C cc' nL' (some rt) n) (hml : Cond.methodLink own index y ∈ BG) (hrm : rm.cells = 0 ∧ rm.slots = 0) (hR : rm.frames + 1 ≤ R.frames ∧ 8 + (nL' + 11) + rm.locals ≤ R.locals) (hAs : As.length = n) (hls : ls.size = nL) (hst : st = As.reverse ++ .ref b :: rest) (hrest : (rest.map fun v => v.category).sum ≤ 8) (hcs : cells ≤ R.cells ∧ slots ≤ R.slots) (hdg : decode cc pc = .ok (.invokevirtual index, 3))
    (kk : ∀ (r : Int32) (u : ty_R) (H1 : Heap) (locs1 : List Loc), TG D cy τ u A H0 H1 locs1 → fr τ H H1 → post r u → W p l e R s m args below meth c H1 locs1 cells slots Q (F0 m (pc + 3) ls (.int r :: rest))) : W p l e R s m args below meth c H locs cells slots Q (F0 m pc ls st) := by
  have X0 := X
  obtain ⟨hx, hbb, hml0, hown, hB, hK⟩ := X
  obtain ⟨hg, hS, hA⟩ := hG
  exact va_calli (va_runV (As := As) (rest := rest) ⟨hx, hbb, hml0, hown, hB⟩ hM (k_cwV (R := R) X0 hy hml hrm.1 hrm.2 hR) ⟨k_blind, k_recv hK hg hb hcl, fun U hU hW => ⟨rfl, by rw [hU]; exact hg, va_K.moved hW.alike hK⟩⟩ rfl hAs hls hst (lv_room hrest) hdg ⟨hcs.1, hcs.2⟩) hS (fun q _ h => hA q h) (fun q h => hA q h) (fun r u t H1 locs1 ht hvm hw hBu hz1 hk1 hS1 => kk r u H1 locs1 (k_TG hA ht hBu hS1) ⟨hz1, fun a h1 h2 => hk1 a h1 (fun z => z h2)⟩ hw)
theorem f_cVE {y : MethodName} {C : String} {T : u_T} {N : Nat} {z : EVt} {cc' : ByteArray} {nL' n index k b : Nat} {rt : FieldType} {rm : Room} {As : List Value} {post : Int32 → ty_R → Prop} (X : ty_X p c s m args cc own nL D cy) (hG : TG D cy τ ρ A H0 H locs) (hE : EW (ty_d τ) s H z) (hM : KIE l D cy y cc' nL' rt rm τ ρ z (.ref b :: As) post) (hb : τ b = some (0, k)) (hcl : vwCl[k]? = some (C, T, N)) (hy : yV y C cc' nL' (some rt) n) (hml : Cond.methodLink own index y ∈ BG) (hrm : rm.cells = 0 ∧ rm.slots = 0) (hR : rm.frames + 1 ≤ R.frames ∧ 8 + (nL' + 11) + rm.locals ≤ R.locals) (hAs : As.length = n) (hls : ls.size = nL) (hst : st = As.reverse ++ .ref b :: rest) (hrest : (rest.map fun v => v.category).sum ≤ 8) (hcs : cells ≤ R.cells ∧ slots ≤ R.slots) (hdg : decode cc pc = .ok (.invokevirtual index, 3))
    (kk : ∀ (r : Int32) (u : ty_R) (H1 : Heap) (locs1 : List Loc), TG D cy τ u A H0 H1 locs1 → fr τ H H1 → post r u → W p l e R s m args below meth c H1 locs1 cells slots Q (F0 m (pc + 3) ls (.int r :: rest))) : W p l e R s m args below meth c H locs cells slots Q (F0 m pc ls st) := by
  have X0 := X
  have hrec := k_recv X.2.2.2.2.2 hG.1 hb hcl
  obtain ⟨hx, hbb, hml0, hown, hB, hK⟩ := X
  obtain ⟨hg, hS, hA⟩ := hG
  exact va_calli (va_runV (As := As) (rest := rest) ⟨hx, hbb, hml0, hown, hB⟩ hM (k_cwV (R := R) X0 hy hml hrm.1 hrm.2 hR) ⟨k_blindE, hrec, fun U hU hW => ⟨rfl, by rw [hU]; exact hg, va_K.moved hW.alike hK, by rw [hU]; exact EV.warm hW hE⟩⟩ rfl hAs hls hst (lv_room hrest) hdg ⟨hcs.1, hcs.2⟩) hS (fun q _ h => hA q h) (fun q h => hA q h) (fun r u t H1 locs1 ht hvm hw hBu hz1 hk1 hS1 => kk r u H1 locs1 (k_TG hA ht hBu hS1) ⟨hz1, fun a h1 h2 => hk1 a h1 (fun z => z h2)⟩ hw)
end SEPC
