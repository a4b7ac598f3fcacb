/-! A TYPED HEAP: each address has a type or none; a cell of a type holds what its type says, and 'ρ' may say more of each place of it. Behind any write that keeps to the types all of it stays typed: no frame is cut, nothing is joined. -/
abbrev ty_C : Type := Nat × Nat
abbrev ty_F : Type := Nat × Nat × Nat
abbrev ty_T : Type := Nat → Option ty_C
abbrev ty_R : Type := Nat → Nat → Value → Prop
/-- 0 an object, 1 ints, 2 booleans, 3 references -/
def ty_kd (n : Nat) : Nat := if n = 0 then 0 else if n = 2 ∨ n = 14 ∨ n = 22 then 2 else if n = 3 ∨ n = 4 then 3 else 1
/-- the fields of a class: (0, _) an int, (1, _) a boolean, (2, t) a reference to a cell of type t, (3, _) one to ints of any length -/
def ty_fs (k : Nat) : List ty_F := match k with
  | 0 => [(2, 6, 20), (2, 1, 20), (0, 0, 0)]
  | 1 => [(2, 1, 6), (2, 1, 6), (2, 1, 6), (2, 1, 6), (2, 1, 6), (2, 1, 6), (0, 0, 0)]
  | 2 => [(2, 0, 3), (0, 0, 0), (1, 0, 0)]
  | 3 => [(2, 0, 8), (2, 0, 1), (1, 0, 0), (0, 0, 0)]
  | 4 => [(2, 3, 12), (0, 0, 0), (0, 0, 0)]
  | 5 => [(2, 7, 6), (2, 1, 6), (2, 2, 6), (3, 0, 0), (0, 0, 0), (0, 0, 0), (0, 0, 0), (0, 0, 0)]
  | 6 => [(2, 8, 240), (2, 9, 3), (0, 0, 0), (0, 0, 0), (1, 0, 0)]
  | 7 => [(2, 0, 3), (2, 1, 201)]
  | 8 => [(2, 1, 8), (2, 5, 8), (2, 1, 72), (2, 1, 72), (2, 1, 72), (2, 1, 72), (0, 0, 0), (0, 0, 0), (0, 0, 0), (0, 0, 0), (0, 0, 0), (0, 0, 0), (1, 0, 0)]
  | 9 => [(2, 0, 6), (2, 0, 3), (2, 0, 7), (2, 0, 4), (2, 0, 5), (2, 0, 0), (2, 4, 2), (0, 0, 0), (0, 0, 0)]
  | _ => [(2, 10, 4261), (2, 11, 72), (0, 0, 0), (0, 0, 0), (2, 14, 2), (2, 15, 2), (2, 16, 240), (0, 0, 0), (0, 0, 0), (0, 0, 0), (2, 20, 6), (2, 21, 6), (2, 22, 6), (0, 0, 0), (2, 24, 20), (2, 25, 20), (0, 0, 0), (0, 0, 0), (0, 0, 0), (0, 0, 0), (1, 0, 0), (2, 31, 72), (2, 32, 72), (2, 33, 201), (2, 34, 8520)]
def ty_V (τ : ty_T) (g : ty_F) (v : Value) : Prop :=
  (g.1 = 0 → ∃ x : Int32, v = .int x) ∧ (g.1 = 1 → ∃ x : Int32, v = .int x ∧ (x = 0 ∨ x = 1)) ∧ (g.1 = 2 → v = .null ∨ ∃ b : Nat, v = .ref b ∧ τ b = some g.2) ∧ (g.1 = 3 → v = .null ∨ ∃ b n : Nat, v = .ref b ∧ τ b = some (1, n))
def ty_ok (cy : Nat → ClassId) (τ : ty_T) (ρ : ty_R) (a : Nat) (t : ty_C) (e : va_E) : Prop :=
  (ty_kd t.1 = 0 → ∃ fs : List Value, e = .inr (t.2, fs) ∧ fs.length = (ty_fs t.2).length ∧ ∀ (j : Nat) (g : ty_F) (v : Value), (ty_fs t.2)[j]? = some g → fs[j]? = some v → ty_V τ g v ∧ ρ a j v) ∧
  (ty_kd t.1 = 1 → ∃ f : Nat → Int32, e = .inl (cy 0, t.2, .inl f) ∧ ∀ j, j < t.2 → ρ a j (.int (f j))) ∧
  (ty_kd t.1 = 2 → ∃ f : Nat → Int32, e = .inl (cy 1, t.2, .inl f) ∧ ∀ j, j < t.2 → (f j = 0 ∨ f j = 1) ∧ ρ a j (.int (f j))) ∧
  (ty_kd t.1 = 3 → ∃ f : Nat → Option Nat, e = .inl (cy (t.1 - 1), t.2, .inr (.inr (.inr (.inr f)))) ∧ ∀ j, j < t.2 → (∀ b, f j = some b → τ b = some (0, if t.1 = 3 then 3 else 2)) ∧ ρ a j (va_rf (f j)))
def ty_G (D : va_G) (cy : Nat → ClassId) (τ : ty_T) (ρ : ty_R) (H : Heap) : Prop :=
  ∃ (L : List Nat) (f : Nat → va_E), va_P D vwCl (va_pl L f) H ∧ va_D (fun _ => True) (va_pl L f) ∧ (∀ a, a ∈ L ↔ τ a ≠ none) ∧ ∀ (a : Nat) (t : ty_C), τ a = some t → ty_ok cy τ ρ a t (f a)
abbrev ty_ks (cy : Nat → ClassId) : List (ClassId × FieldType) := [(cy 0, .int), (cy 1, .boolean), (cy 2, .object "EdgeEchoes$Line"), (cy 3, .object "EdgeEchoes$Image")]
def TG (D : va_G) (cy : Nat → ClassId) (τ : ty_T) (ρ : ty_R) (A : Nat → Prop) (H0 H : Heap) (locs : List Loc) : Prop := ty_G D cy τ ρ H ∧ va_S A H0 H locs ∧ ∀ a, τ a ≠ none → A a
/-- what stays in a method: the machine, its bytes, its locals, its class, the words, the classes -/
def ty_X (p : Program) (c : Code) (s : State) (m : MethodId) (args : Array Value) (cc : ByteArray) (own : String) (nL : Nat) (D : va_G) (cy : Nat → ClassId) : Prop :=
  p.tables.exec = Jvm.exec ∧ c.code = cc ∧ c.maxLocals = nL ∧ s.vm.findClass own = some m.cls ∧ (∀ w ∈ BG, w.before args s = true) ∧ va_K D vwCl (ty_ks cy) s
theorem ty_some {τ : ty_T} {a : Nat} {t : ty_C} (h : τ a = some t) : τ a ≠ none := by rw [h]; exact fun q => by cases q
theorem ty_V0 {τ : ty_T} {v : Value} {z : Nat × Nat} (h : ty_V τ (0, z) v) : ∃ x : Int32, v = .int x := h.1 rfl
theorem ty_V1 {τ : ty_T} {v : Value} {z : Nat × Nat} (h : ty_V τ (1, z) v) : ∃ x : Int32, v = .int x ∧ (x = 0 ∨ x = 1) := h.2.1 rfl
theorem ty_V2 {τ : ty_T} {v : Value} {t : ty_C} (h : ty_V τ (2, t) v) : v = .null ∨ ∃ b : Nat, v = .ref b ∧ τ b = some t := h.2.2.1 rfl
theorem ty_V3 {τ : ty_T} {v : Value} {z : Nat × Nat} (h : ty_V τ (3, z) v) : v = .null ∨ ∃ b n : Nat, v = .ref b ∧ τ b = some (1, n) := h.2.2.2 rfl
theorem ty_i0 {τ : ty_T} {z : Nat × Nat} (x : Int32) : ty_V τ (0, z) (.int x) := ⟨fun _ => ⟨x, rfl⟩, (fun h => by cases h), (fun h => by cases h), (fun h => by cases h)⟩
theorem ty_i1 {τ : ty_T} {z : Nat × Nat} {x : Int32} (h : x = 0 ∨ x = 1) : ty_V τ (1, z) (.int x) := ⟨(fun h => by cases h), fun _ => ⟨x, rfl, h⟩, (fun h => by cases h), (fun h => by cases h)⟩
theorem ty_i2 {τ : ty_T} {t : ty_C} {b : Nat} (h : τ b = some t) : ty_V τ (2, t) (.ref b) := ⟨(fun h => by cases h), (fun h => by cases h), fun _ => Or.inr ⟨b, rfl, h⟩, (fun h => by cases h)⟩
theorem ty_i3 {τ : ty_T} {z : Nat × Nat} {b n : Nat} (h : τ b = some (1, n)) : ty_V τ (3, z) (.ref b) := ⟨(fun h => by cases h), (fun h => by cases h), (fun h => by cases h), fun _ => Or.inr ⟨b, n, rfl, h⟩⟩
theorem ty_ok.mono {cy : Nat → ClassId} {τ : ty_T} {ρ ρ' : ty_R} {a : Nat} {t : ty_C} {e : va_E} (h : ty_ok cy τ ρ a t e) (hr : ∀ j v, ρ a j v → ρ' a j v) : ty_ok cy τ ρ' a t e := by
  obtain ⟨h0, h1, h2, h3⟩ := h
  refine ⟨fun q => ?_, fun q => ?_, fun q => ?_, fun q => ?_⟩
  · obtain ⟨fs, e1, e2, e3⟩ := h0 q
    exact ⟨fs, e1, e2, fun j g v x y => ⟨(e3 j g v x y).1, hr _ _ (e3 j g v x y).2⟩⟩
  · obtain ⟨f, e1, e2⟩ := h1 q
    exact ⟨f, e1, fun j x => hr _ _ (e2 j x)⟩
  · obtain ⟨f, e1, e2⟩ := h2 q
    exact ⟨f, e1, fun j x => ⟨(e2 j x).1, hr _ _ (e2 j x).2⟩⟩
  · obtain ⟨f, e1, e2⟩ := h3 q
    exact ⟨f, e1, fun j x => ⟨(e2 j x).1, hr _ _ (e2 j x).2⟩⟩
theorem ty_G.mono {D : va_G} {cy : Nat → ClassId} {τ : ty_T} {ρ ρ' : ty_R} {H : Heap} (h : ty_G D cy τ ρ H) (hr : ∀ a t j v, τ a = some t → ρ a j v → ρ' a j v) : ty_G D cy τ ρ' H := by
  obtain ⟨L, f, h1, h2, h3, h4⟩ := h
  exact ⟨L, f, h1, h2, h3, fun a t ha => (h4 a t ha).mono (fun j v => hr a t j v ha)⟩
theorem TG.mono {D : va_G} {cy : Nat → ClassId} {τ : ty_T} {ρ ρ' : ty_R} {A : Nat → Prop} {H0 H : Heap} {locs : List Loc} (h : TG D cy τ ρ A H0 H locs) (hr : ∀ a t j v, τ a = some t → ρ a j v → ρ' a j v) : TG D cy τ ρ' A H0 H locs := ⟨h.1.mono hr, h.2⟩
section TGL
variable {p : Program} {l : Launch} {e : Env} {R : Room} {s : State} {m : MethodId} {args : Array Value} {below : List Frame} {meth : Method} {c : Code} {H : Heap} {locs : List Loc} {cells slots : Nat} {Q : State → Prop} {cc : ByteArray} {pc : Nat} {ls : Array Slot} {rest : List Value} {D : va_G} {cy : Nat → ClassId} {τ : ty_T} {ρ : ty_R} {A : Nat → Prop} {H0 : Heap} {own : String} {nL : Nat}
theorem tg_get (X : ty_X p c s m args cc own nL D cy) (hG : TG D cy τ ρ A H0 H locs) {a k : Nat} (ha : τ a = some (0, k)) {C : String} {T : u_T} {N : Nat} (hc : vwCl[k]? = some (C, T, N)) (hin : ∀ w ∈ u_ws C T N, w ∈ BG) (j : Nat) (hj : j < N) {g : ty_F} (hg : (ty_fs k)[j]? = some g) {index : Nat} (hl : Cond.fieldLink own index C (T j).2.1 (T j).2.2.1 ∈ BG) (hsm : (T j).1 = C) (hdg : decode cc pc = .ok (.getfield index, 3))
    (kk : ∀ v : Value, ty_V τ g v → ρ a j v → W p l e R s m args below meth c H locs cells slots Q (F0 m (pc + 3) ls (v :: rest))) : W p l e R s m args below meth c H locs cells slots Q (F0 m pc ls (.ref a :: rest)) := by
  obtain ⟨hx, hb, -, hown, hB, hK⟩ := X
  obtain ⟨⟨L, f, hP, hD, hdom, hok⟩, -, -⟩ := hG
  obtain ⟨k0, hk0⟩ := va_pl_get (X := []) (f := f) ((hdom a).mpr (ty_some ha))
  obtain ⟨fs, he, hlen, hv⟩ := (hok a _ ha).1 rfl
  rw [he] at hk0
  have hjl : j < fs.length := by rw [hlen]; exact (List.getElem?_eq_some_iff.mp hg).1
  have hvj : fs[j]? = some fs[j] := List.getElem?_eq_getElem hjl
  obtain ⟨hV, hR⟩ := hv j g _ hg hvj
  exact va_get hx hb hB hin hown hK hP k0 hk0 hc j hj (hB _ hl) (fun x h => by rw [hsm] at h; exact h) hvj hdg (kk _ hV hR)
theorem tg_geti (X : ty_X p c s m args cc own nL D cy) (hG : TG D cy τ ρ A H0 H locs) {a k : Nat} (ha : τ a = some (0, k)) {C : String} {T : u_T} {N : Nat} (hc : vwCl[k]? = some (C, T, N)) (hin : ∀ w ∈ u_ws C T N, w ∈ BG) (j : Nat) (hj : j < N) {z : Nat × Nat} (hg : (ty_fs k)[j]? = some (0, z)) {index : Nat} (hl : Cond.fieldLink own index C (T j).2.1 (T j).2.2.1 ∈ BG) (hsm : (T j).1 = C) (hdg : decode cc pc = .ok (.getfield index, 3))
    (kk : ∀ x : Int32, ρ a j (.int x) → W p l e R s m args below meth c H locs cells slots Q (F0 m (pc + 3) ls (.int x :: rest))) : W p l e R s m args below meth c H locs cells slots Q (F0 m pc ls (.ref a :: rest)) :=
  tg_get X hG ha hc hin j hj hg hl hsm hdg (fun v hV hR => by obtain ⟨x, rfl⟩ := ty_V0 hV; exact kk x hR)
theorem tg_getz (X : ty_X p c s m args cc own nL D cy) (hG : TG D cy τ ρ A H0 H locs) {a k : Nat} (ha : τ a = some (0, k)) {C : String} {T : u_T} {N : Nat} (hc : vwCl[k]? = some (C, T, N)) (hin : ∀ w ∈ u_ws C T N, w ∈ BG) (j : Nat) (hj : j < N) {z : Nat × Nat} (hg : (ty_fs k)[j]? = some (1, z)) {index : Nat} (hl : Cond.fieldLink own index C (T j).2.1 (T j).2.2.1 ∈ BG) (hsm : (T j).1 = C) (hdg : decode cc pc = .ok (.getfield index, 3))
    (kk : ∀ x : Int32, (x = 0 ∨ x = 1) → ρ a j (.int x) → W p l e R s m args below meth c H locs cells slots Q (F0 m (pc + 3) ls (.int x :: rest))) : W p l e R s m args below meth c H locs cells slots Q (F0 m pc ls (.ref a :: rest)) :=
  tg_get X hG ha hc hin j hj hg hl hsm hdg (fun v hV hR => by obtain ⟨x, rfl, h⟩ := ty_V1 hV; exact kk x h hR)
theorem tg_getr (X : ty_X p c s m args cc own nL D cy) (hG : TG D cy τ ρ A H0 H locs) {a k : Nat} (ha : τ a = some (0, k)) {C : String} {T : u_T} {N : Nat} (hc : vwCl[k]? = some (C, T, N)) (hin : ∀ w ∈ u_ws C T N, w ∈ BG) (j : Nat) (hj : j < N) {t : ty_C} (hg : (ty_fs k)[j]? = some (2, t)) {index : Nat} (hl : Cond.fieldLink own index C (T j).2.1 (T j).2.2.1 ∈ BG) (hsm : (T j).1 = C) (hdg : decode cc pc = .ok (.getfield index, 3)) (hn : ¬ ρ a j .null)
    (kk : ∀ b : Nat, τ b = some t → ρ a j (.ref b) → W p l e R s m args below meth c H locs cells slots Q (F0 m (pc + 3) ls (.ref b :: rest))) : W p l e R s m args below meth c H locs cells slots Q (F0 m pc ls (.ref a :: rest)) :=
  tg_get X hG ha hc hin j hj hg hl hsm hdg (fun v hV hR => by
    rcases ty_V2 hV with rfl | ⟨b, rfl, h⟩
    · exact absurd hR hn
    · exact kk b h hR)
theorem tg_getq (X : ty_X p c s m args cc own nL D cy) (hG : TG D cy τ ρ A H0 H locs) {a k : Nat} (ha : τ a = some (0, k)) {C : String} {T : u_T} {N : Nat} (hc : vwCl[k]? = some (C, T, N)) (hin : ∀ w ∈ u_ws C T N, w ∈ BG) (j : Nat) (hj : j < N) {z : Nat × Nat} (hg : (ty_fs k)[j]? = some (3, z)) {index : Nat} (hl : Cond.fieldLink own index C (T j).2.1 (T j).2.2.1 ∈ BG) (hsm : (T j).1 = C) (hdg : decode cc pc = .ok (.getfield index, 3)) (hn : ¬ ρ a j .null)
    (kk : ∀ b n : Nat, τ b = some (1, n) → ρ a j (.ref b) → W p l e R s m args below meth c H locs cells slots Q (F0 m (pc + 3) ls (.ref b :: rest))) : W p l e R s m args below meth c H locs cells slots Q (F0 m pc ls (.ref a :: rest)) :=
  tg_get X hG ha hc hin j hj hg hl hsm hdg (fun v hV hR => by
    rcases ty_V3 hV with rfl | ⟨b, n, rfl, h⟩
    · exact absurd hR hn
    · exact kk b n h hR)
/-- one cell is another now: all is typed as before, 'ρ' may be another at that cell -/
theorem ty_put {L : List Nat} {f : Nat → va_E} {a : Nat} {t : ty_C} {e1 : va_E} {ρ' : ty_R} {H1 : Heap} {locs1 : List Loc} (hP1 : va_P D vwCl ([] ++ va_pl L (va_up f a e1)) H1) (hD1 : va_D A ([] ++ va_pl L (va_up f a e1))) (hS1 : va_S A H0 H1 locs1) (hA : ∀ a, τ a ≠ none → A a) (hdom : ∀ a, a ∈ L ↔ τ a ≠ none) (hok : ∀ (a : Nat) (t : ty_C), τ a = some t → ty_ok cy τ ρ a t (f a)) (ha : τ a = some t) (hoff : ∀ b i v, b ≠ a → ρ b i v → ρ' b i v) (he : ty_ok cy τ ρ' a t e1) : TG D cy τ ρ' A H0 H1 locs1 := by
  refine ⟨⟨L, va_up f a e1, hP1, hD1.weaken (fun _ _ _ _ => trivial), hdom, fun b u hb => ?_⟩, hS1, hA⟩
  by_cases hba : b = a
  · subst hba
    rw [va_up_self]
    rw [ha] at hb
    cases hb
    exact he
  · rw [va_up_ne _ _ hba]
    exact (hok b u hb).mono (fun i v => hoff b i v hba)
theorem tg_put (X : ty_X p c s m args cc own nL D cy) (hG : TG D cy τ ρ A H0 H locs) {a k : Nat} (ha : τ a = some (0, k)) {C : String} {T : u_T} {N : Nat} (hc : vwCl[k]? = some (C, T, N)) (hin : ∀ w ∈ u_ws C T N, w ∈ BG) (ty0 : Nat → FieldType) (hty : ∀ k, k < N → parseFieldDescriptor (T k).2.2.1 = some (ty0 k)) (hnm : ∀ a, a < N → ∀ b, b < N → a ≠ b → (T a).2.1 ≠ (T b).2.1) (j : Nat) (hj : j < N) {g : ty_F} (hg : (ty_fs k)[j]? = some g) {index : Nat} (hl : Cond.fieldLink own index C (T j).2.1 (T j).2.2.1 ∈ BG) (hsm : (T j).1 = C) (hfin : (T j).2.2.2 = false) {v : Value} (hn : narrow (ty0 j) v = v) (hfit : fits (ty0 j) v = true) (hV : ty_V τ g v) (hdg : decode cc pc = .ok (.putfield index, 3)) (ρ' : ty_R) (hoff : ∀ b i v, b ≠ a → ρ b i v → ρ' b i v) (hoth : ∀ i v, i ≠ j → ρ a i v → ρ' a i v) (hnew : ρ' a j v)
    (kk : ∀ (H1 : Heap) (locs1 : List Loc), TG D cy τ ρ' A H0 H1 locs1 → W p l e R s m args below meth c H1 locs1 cells slots Q (F0 m (pc + 3) ls rest)) : W p l e R s m args below meth c H locs cells slots Q (F0 m pc ls (v :: .ref a :: rest)) := by
  obtain ⟨hx, hb, -, hown, hB, hK⟩ := X
  obtain ⟨⟨L, f, hP, hD, hdom, hok⟩, hS, hA⟩ := hG
  have hL : a ∈ L := (hdom a).mpr (ty_some ha)
  have hD2 : va_D A ([] ++ va_pl L f) := hD.weaken (fun i q hq _ => by
    obtain ⟨b, hb1, rfl⟩ := List.mem_map.mp (List.mem_of_getElem? hq)
    exact hA _ ((hdom b).mp hb1))
  obtain ⟨k0, hk0⟩ := va_pl_get (X := []) (f := f) hL
  obtain ⟨fs, he, hlen, hv⟩ := (hok a _ ha).1 rfl
  have hk1 : ([] ++ va_pl L f)[k0]? = some (a, .inr (k, fs)) := by rw [hk0, he]
  have hjl : j < fs.length := by rw [hlen]; exact (List.getElem?_eq_some_iff.mp hg).1
  refine va_put hx hb hB hin ty0 hty hnm hown hK (show va_P D vwCl ([] ++ va_pl L f) H from hP) hD2 hS k0 hk1 hc j hj (hB _ hl) (fun x h => by rw [hsm] at h; exact h) hfin (hty j hj) hn hfit hjl hdg (fun H1 locs1 hP1 hD1 hS1 => ?_)
  rw [va_pl_set hD2 hL hk0] at hP1 hD1
  refine kk H1 locs1 (ty_put hP1 hD1 hS1 hA hdom hok ha hoff ⟨fun _ => ⟨fs.set j v, rfl, by rw [List.length_set]; exact hlen, fun i gi w hgi hw => ?_⟩, (fun h => by cases h), (fun h => by cases h), (fun h => by cases h)⟩)
  by_cases hij : i = j
  · subst hij
    rw [List.getElem?_set_self hjl] at hw
    cases hw
    rw [hg] at hgi
    cases hgi
    exact ⟨hV, hnew⟩
  · rw [List.getElem?_set_ne (Ne.symm hij)] at hw
    obtain ⟨q1, q2⟩ := hv i gi w hgi hw
    exact ⟨q1, hoth i w hij q2⟩
theorem tg_iald (X : ty_X p c s m args cc own nL D cy) (hG : TG D cy τ ρ A H0 H locs) {a : Nat} {t : ty_C} (ha : τ a = some t) (ht : ty_kd t.1 = 1) {i : Int32} (hin : vp_in i t.2) (hdg : decode cc pc = .ok (.iaload, 1))
    (kk : ∀ x : Int32, ρ a i.toNatClampNeg (.int x) → W p l e R s m args below meth c H locs cells slots Q (F0 m (pc + 1) ls (.int x :: rest))) : W p l e R s m args below meth c H locs cells slots Q (F0 m pc ls (.int i :: .ref a :: rest)) := by
  obtain ⟨hx, hb, -, hown, hB, hK⟩ := X
  obtain ⟨⟨L, f, hP, hD, hdom, hok⟩, -, -⟩ := hG
  obtain ⟨k0, hk0⟩ := va_pl_get (X := []) (f := f) ((hdom a).mpr (ty_some ha))
  obtain ⟨g, he, hv⟩ := (hok a _ ha).2.1 ht
  rw [he] at hk0
  exact va_iald hx hb hK hP k0 0 hk0 rfl hin hdg (kk _ (hv _ (Nat.not_le.mp fun q => hin (Or.inr q))))
theorem tg_zald (X : ty_X p c s m args cc own nL D cy) (hG : TG D cy τ ρ A H0 H locs) {a : Nat} {t : ty_C} (ha : τ a = some t) (ht : ty_kd t.1 = 2) {i : Int32} (hin : vp_in i t.2) (hdg : decode cc pc = .ok (.baload, 1))
    (kk : ∀ x : Int32, (x = 0 ∨ x = 1) → ρ a i.toNatClampNeg (.int x) → W p l e R s m args below meth c H locs cells slots Q (F0 m (pc + 1) ls (.int x :: rest))) : W p l e R s m args below meth c H locs cells slots Q (F0 m pc ls (.int i :: .ref a :: rest)) := by
  obtain ⟨hx, hb, -, hown, hB, hK⟩ := X
  obtain ⟨⟨L, f, hP, hD, hdom, hok⟩, -, -⟩ := hG
  obtain ⟨k0, hk0⟩ := va_pl_get (X := []) (f := f) ((hdom a).mpr (ty_some ha))
  obtain ⟨g, he, hv⟩ := (hok a _ ha).2.2.1 ht
  rw [he] at hk0
  have h1 := hv _ (Nat.not_le.mp fun q => hin (Or.inr q))
  exact va_zald hx hb hK hP k0 1 hk0 rfl hin hdg (kk _ h1.1 h1.2)
theorem tg_aald (X : ty_X p c s m args cc own nL D cy) (hG : TG D cy τ ρ A H0 H locs) {a n : Nat} {u : Nat} (ha : τ a = some (u, n)) (hu : u = 3 ∨ u = 4) {i : Int32} (hin : vp_in i n) (hdg : decode cc pc = .ok (.aaload, 1)) (hn : ¬ ρ a i.toNatClampNeg .null)
    (kk : ∀ b : Nat, τ b = some (0, if u = 3 then 3 else 2) → ρ a i.toNatClampNeg (.ref b) → W p l e R s m args below meth c H locs cells slots Q (F0 m (pc + 1) ls (.ref b :: rest))) : W p l e R s m args below meth c H locs cells slots Q (F0 m pc ls (.int i :: .ref a :: rest)) := by
  obtain ⟨hx, hb, -, hown, hB, hK⟩ := X
  obtain ⟨⟨L, f, hP, hD, hdom, hok⟩, -, -⟩ := hG
  obtain ⟨k0, hk0⟩ := va_pl_get (X := []) (f := f) ((hdom a).mpr (ty_some ha))
  obtain ⟨g, he, hv⟩ := (hok a _ ha).2.2.2 (by rcases hu with rfl | rfl <;> rfl)
  rw [he] at hk0
  obtain ⟨h1, h2⟩ := hv _ (Nat.not_le.mp fun q => hin (Or.inr q))
  have key : W p l e R s m args below meth c H locs cells slots Q (F0 m (pc + 1) ls (va_rf (g i.toNatClampNeg) :: rest)) := by
    cases hgi : g i.toNatClampNeg with
    | none => rw [hgi] at h2; exact absurd h2 hn
    | some b => rw [hgi] at h2; exact kk b (h1 b hgi) h2
  rcases hu with rfl | rfl
  · exact va_aldq hx hb hK hP k0 2 (C := "EdgeEchoes$Line") hk0 rfl hin hdg key
  · exact va_aldq hx hb hK hP k0 3 (C := "EdgeEchoes$Image") hk0 rfl hin hdg key
theorem tg_alen (X : ty_X p c s m args cc own nL D cy) (hG : TG D cy τ ρ A H0 H locs) {a : Nat} {t : ty_C} (ha : τ a = some t) (ht : ty_kd t.1 = 1) (hdg : decode cc pc = .ok (.arraylength, 1))
    (kk : W p l e R s m args below meth c H locs cells slots Q (F0 m (pc + 1) ls (.int (nI t.2) :: rest))) : W p l e R s m args below meth c H locs cells slots Q (F0 m pc ls (.ref a :: rest)) := by
  obtain ⟨hx, hb, -, hown, hB, hK⟩ := X
  obtain ⟨⟨L, f, hP, hD, hdom, hok⟩, -, -⟩ := hG
  obtain ⟨k0, hk0⟩ := va_pl_get (X := []) (f := f) ((hdom a).mpr (ty_some ha))
  obtain ⟨g, he, hv⟩ := (hok a _ ha).2.1 ht
  rw [he] at hk0
  exact va_alen hx hb hK hP k0 0 hk0 rfl rfl hdg kk
theorem tg_dom (hdom : ∀ a, τ a ≠ none → A a) {L : List Nat} {f : Nat → va_E} (hd : ∀ a, a ∈ L ↔ τ a ≠ none) (hD : va_D (fun _ => True) (va_pl L f)) : va_D A ([] ++ va_pl L f) := hD.weaken (fun i q hq _ => by
    obtain ⟨b, hb1, rfl⟩ := List.mem_map.mp (List.mem_of_getElem? hq)
    exact hdom _ ((hd b).mp hb1))
theorem tg_iast (X : ty_X p c s m args cc own nL D cy) (hG : TG D cy τ ρ A H0 H locs) {a : Nat} {t : ty_C} (ha : τ a = some t) (ht : ty_kd t.1 = 1) {i x : Int32} (hin : vp_in i t.2) (hdg : decode cc pc = .ok (.iastore, 1)) (ρ' : ty_R) (hoff : ∀ b i v, b ≠ a → ρ b i v → ρ' b i v) (hoth : ∀ k v, k ≠ i.toNatClampNeg → ρ a k v → ρ' a k v) (hnew : ρ' a i.toNatClampNeg (.int x))
    (kk : ∀ (H1 : Heap) (locs1 : List Loc), TG D cy τ ρ' A H0 H1 locs1 → W p l e R s m args below meth c H1 locs1 cells slots Q (F0 m (pc + 1) ls rest)) : W p l e R s m args below meth c H locs cells slots Q (F0 m pc ls (.int x :: .int i :: .ref a :: rest)) := by
  obtain ⟨hx, hb, -, hown, hB, hK⟩ := X
  obtain ⟨⟨L, f, hP, hD, hdom, hok⟩, hS, hA⟩ := hG
  have hL : a ∈ L := (hdom a).mpr (ty_some ha)
  have hD2 : va_D A ([] ++ va_pl L f) := tg_dom hA hdom hD
  obtain ⟨k0, hk0⟩ := va_pl_get (X := []) (f := f) hL
  obtain ⟨g, he, hv⟩ := (hok a _ ha).2.1 ht
  have hk1 : ([] ++ va_pl L f)[k0]? = some (a, .inl (cy 0, t.2, .inl g)) := by rw [hk0, he]
  refine va_iast hx hb hK (show va_P D vwCl ([] ++ va_pl L f) H from hP) hD2 hS k0 0 hk1 rfl hin hdg (fun H1 locs1 hP1 hD1 hS1 => ?_)
  rw [va_pl_set hD2 hL hk0] at hP1 hD1
  refine kk H1 locs1 (ty_put hP1 hD1 hS1 hA hdom hok ha hoff ⟨(fun h => by rw [ht] at h; cases h), fun _ => ⟨_, rfl, fun j hj => ?_⟩, (fun h => by rw [ht] at h; cases h), (fun h => by rw [ht] at h; cases h)⟩)
  by_cases hji : j = i.toNatClampNeg
  · subst hji
    rw [pk_us]
    exact hnew
  · rw [pk_un hji]
    exact hoth j _ hji (hv j hj)
end TGL
