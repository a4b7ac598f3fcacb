/-! ranges, what may be written, pinned fields -/
/-- the reference's own bounds: of a place of its fields (0) or of an array of it (its number) -/
abbrev md_T : Type := Nat → Nat → Option (Int × Int)
/-- the places whose numbers have bounds -/
def ty_rgd (M : md_T) (t : ty_C) (j : Nat) : Option (Int × Int) := match t.1 with
  | 0 => (match t.2 with
    | 1 => if j = 6 then some (0, 6) else none
    | 4 => if j = 2 then some (0, 11) else none
    | 8 => if j = 6 then some (0, 8) else if j = 7 then some (0, 72) else none
    | 10 => M 0 j
    | _ => none)
  | 1 => none
  | 2 => none
  | 3 => none
  | 4 => none
  | 5 => some (0, 72)
  | 6 => some (0, 5)
  | 7 => some (0, 150)
  | 8 => none
  | 9 => none
  | n => M n j
def ty_rng (M : md_T) (t : ty_C) (j : Nat) (x : Int32) : Prop := ∀ lo hi, ty_rgd M t j = some (lo, hi) → lo ≤ x.toInt ∧ x.toInt ≤ hi
/-- a number for what is written: a field of an object, ints, booleans of the system -/
def ty_cd (t : ty_C) (j : Nat) : Nat := match t.1 with
  | 0 => 100 * t.2 + j
  | 1 => 5000
  | 2 => 5001
  | n => 6000 + n
def ty_Wf (M : md_T) (τ : ty_T) (ρ : ty_R) (S : List Nat) : Prop := ∀ (a : Nat) (t : ty_C) (j : Nat) (x : Int32), τ a = some t → ty_cd t j ∈ S → ty_rng M t j x → ρ a j (.int x)
def ty_Rg (M : md_T) (τ : ty_T) (ρ : ty_R) : Prop := ∀ (a : Nat) (t : ty_C) (j : Nat) (x : Int32), τ a = some t → ρ a j (.int x) → ty_rng M t j x
theorem ty_Wf.sub {M : md_T} {τ : ty_T} {ρ : ty_R} {S S' : List Nat} (h : ty_Wf M τ ρ S) (hs : ∀ n ∈ S', n ∈ S) : ty_Wf M τ ρ S' := fun a t j x ha hc hr => h a t j x ha (hs _ hc) hr
theorem ty_rno {M : md_T} {t : ty_C} {j : Nat} {x : Int32} (h : ty_rgd M t j = none) : ty_rng M t j x := fun lo hi q => by rw [h] at q; cases q
theorem ty_ryes {M : md_T} {t : ty_C} {j : Nat} {x : Int32} {lo hi : Int} (h : ty_rgd M t j = some (lo, hi)) (hx : lo ≤ x.toInt ∧ x.toInt ≤ hi) : ty_rng M t j x := fun l2 h2 q => by rw [h] at q; cases q; exact hx
/-- 'ρ', and some fields of one object have known numbers -/
def exs (ρ : ty_R) (a : Nat) (f : Nat → Option Int32) : ty_R := fun b i v => ρ b i v ∧ (b = a → ∀ x, f i = some x → v = .int x)
def P1 (j : Nat) (x : Int32) : Nat → Option Int32 := fun i => if i = j then some x else none
def P2 (j : Nat) (x : Int32) (k : Nat) (y : Int32) : Nat → Option Int32 := fun i => if i = j then some x else if i = k then some y else none
theorem exs_N {τ : ty_T} {ρ : ty_R} {a : Nat} {f : Nat → Option Int32} (h : ty_N τ ρ) : ty_N τ (exs ρ a f) := fun b t j hb q => h b t j hb q.1
theorem exs_R {M : md_T} {τ : ty_T} {ρ : ty_R} {a : Nat} {f : Nat → Option Int32} (h : ty_Rg M τ ρ) : ty_Rg M τ (exs ρ a f) := fun b t j x hb q => h b t j x hb q.1
theorem exs_F {M : md_T} {τ : ty_T} {ρ : ty_R} {S : List Nat} {a : Nat} {t0 : ty_C} {f : Nat → Option Int32} (h : ty_Wf M τ ρ S) (ha : τ a = some t0) (hS : ∀ j x, f j = some x → ty_cd t0 j ∉ S) : ty_Wf M τ (exs ρ a f) S := fun b t j x hb hc hr => ⟨h b t j x hb hc hr, fun e y hy => by
  subst e
  rw [ha] at hb
  cases hb
  exact absurd hc (hS j y hy)⟩
theorem exs_F1 {M : md_T} {τ : ty_T} {ρ : ty_R} {S : List Nat} {a : Nat} {t0 : ty_C} {j : Nat} {x : Int32} (h : ty_Wf M τ ρ S) (ha : τ a = some t0) (hS : ty_cd t0 j ∉ S) : ty_Wf M τ (exs ρ a (P1 j x)) S := exs_F h ha (fun i y hi => by
  unfold P1 at hi
  by_cases e : i = j
  · subst e; exact hS
  · rw [if_neg e] at hi; cases hi)
theorem exs_F2 {M : md_T} {τ : ty_T} {ρ : ty_R} {S : List Nat} {a : Nat} {t0 : ty_C} {j k : Nat} {x y : Int32} (h : ty_Wf M τ ρ S) (ha : τ a = some t0) (hS : ty_cd t0 j ∉ S ∧ ty_cd t0 k ∉ S) : ty_Wf M τ (exs ρ a (P2 j x k y)) S := exs_F h ha (fun i z hi => by
  unfold P2 at hi
  by_cases e : i = j
  · subst e; exact hS.1
  · rw [if_neg e] at hi
    by_cases e2 : i = k
    · subst e2; exact hS.2
    · rw [if_neg e2] at hi; cases hi)
theorem exs_rd {ρ : ty_R} {a j : Nat} {f : Nat → Option Int32} {x y : Int32} (h : exs ρ a f a j (.int x)) (hf : f j = some y) : y = x := (Value.int.inj (h.2 rfl y hf)).symm
theorem exs_off {ρ : ty_R} {a : Nat} {f f' : Nat → Option Int32} : ∀ b i v, b ≠ a → exs ρ a f b i v → exs ρ a f' b i v := fun b i v hb h => ⟨h.1, fun e => absurd e hb⟩
theorem exs_oth {ρ : ty_R} {a j : Nat} {f f' : Nat → Option Int32} (hf : ∀ i, i ≠ j → f' i = f i) : ∀ i v, i ≠ j → exs ρ a f a i v → exs ρ a f' a i v := fun i v hi h => ⟨h.1, fun e x hx => h.2 e x (by rw [← hf i hi]; exact hx)⟩
theorem exs_new {ρ : ty_R} {a j : Nat} {f' : Nat → Option Int32} {x : Int32} (h : ρ a j (.int x)) (hf : f' j = some x) : exs ρ a f' a j (.int x) := ⟨h, fun _ y hy => by rw [hf] at hy; cases hy; rfl⟩
theorem exs_P1 {j : Nat} {x x' : Int32} : ∀ i, i ≠ j → P1 j x' i = P1 j x i := fun i hi => by unfold P1; rw [if_neg hi, if_neg hi]
theorem exs_P2a {j k : Nat} {x x' y : Int32} : ∀ i, i ≠ j → P2 j x' k y i = P2 j x k y i := fun i hi => by unfold P2; rw [if_neg hi, if_neg hi]
theorem exs_P2b {j k : Nat} {x y y' : Int32} : ∀ i, i ≠ k → P2 j x k y' i = P2 j x k y i := fun i hi => by unfold P2; by_cases e : i = j <;> simp [e, hi]
theorem exs_cl {D : va_G} {cy : Nat → ClassId} {τ : ty_T} {ρ : ty_R} {A : Nat → Prop} {H0 H : Heap} {locs : List Loc} {a : Nat} {f : Nat → Option Int32} (h : TG D cy τ (exs ρ a f) A H0 H locs) : TG D cy τ ρ A H0 H locs := h.mono (fun _ _ _ _ _ q => q.1)
/-- a field's number gets a name -/
theorem tg_pin {D : va_G} {cy : Nat → ClassId} {τ : ty_T} {ρ : ty_R} {A : Nat → Prop} {H0 H : Heap} {locs : List Loc} (hG : TG D cy τ ρ A H0 H locs) {a k : Nat} (ha : τ a = some (0, k)) (j : Nat) {z : Nat × Nat} (hj : (ty_fs k)[j]? = some (0, z)) : ∃ x : Int32, ρ a j (.int x) ∧ TG D cy τ (exs ρ a (P1 j x)) A H0 H locs := by
  obtain ⟨⟨L, f, hP, hD, hdom, hok⟩, hS, hA⟩ := hG
  obtain ⟨fs, he, hlen, hv⟩ := (hok a _ ha).1 rfl
  have hjl : j < fs.length := by rw [hlen]; exact (List.getElem?_eq_some_iff.mp hj).1
  obtain ⟨hV, hR⟩ := hv j _ fs[j] hj (List.getElem?_eq_getElem hjl)
  obtain ⟨x, hx⟩ := ty_V0 hV
  refine ⟨x, by rw [← hx]; exact hR, ⟨L, f, hP, hD, hdom, fun b t hb => ?_⟩, hS, hA⟩
  by_cases hba : b = a
  · subst hba
    rw [ha] at hb
    cases hb
    refine ⟨fun _ => ⟨fs, he, hlen, fun i g v hg hi => ⟨(hv i g v hg hi).1, (hv i g v hg hi).2, fun _ y hy => ?_⟩⟩, (fun h => by cases h), (fun h => by cases h), (fun h => by cases h)⟩
    unfold P1 at hy
    by_cases e : i = j
    · subst e
      rw [if_pos rfl] at hy
      cases hy
      rw [List.getElem?_eq_getElem hjl] at hi
      cases hi
      exact hx
    · rw [if_neg e] at hy; cases hy
  · exact (hok b t hb).mono (fun i v h => ⟨h, fun e => absurd e hba⟩)
theorem tg_pin2 {D : va_G} {cy : Nat → ClassId} {τ : ty_T} {ρ : ty_R} {A : Nat → Prop} {H0 H : Heap} {locs : List Loc} (hG : TG D cy τ ρ A H0 H locs) {a k : Nat} (ha : τ a = some (0, k)) (j j2 : Nat) {z z2 : Nat × Nat} (hj : (ty_fs k)[j]? = some (0, z)) (hj2 : (ty_fs k)[j2]? = some (0, z2)) : ∃ x y : Int32, ρ a j (.int x) ∧ ρ a j2 (.int y) ∧ TG D cy τ (exs ρ a (P2 j x j2 y)) A H0 H locs := by
  obtain ⟨x, hx, h1⟩ := tg_pin hG ha j hj
  obtain ⟨y, hy, h2⟩ := tg_pin h1 ha j2 hj2
  refine ⟨x, y, hx, hy.1, h2.mono (fun b t i v hb q => ⟨q.1.1, fun e w hw => ?_⟩)⟩
  unfold P2 at hw
  by_cases e1 : i = j
  · rw [if_pos e1] at hw
    exact q.1.2 e w (by unfold P1; rw [if_pos e1]; exact hw)
  · rw [if_neg e1] at hw
    exact q.2 e w hw
section LIB4
variable {p : Program} {l : Launch} {e : Env} {R : Room} {s : State} {m : MethodId} {args : Array Value} {below : List Frame} {meth : Method} {c : Code} {H : Heap} {locs : List Loc} {cells slots : Nat} {Q : State → Prop} {cc : ByteArray} {pc : Nat} {ls : Array Slot} {rest : List Value} {D : va_G} {cy : Nat → ClassId} {own : String} {nL : Nat}
theorem n_incA (X : ty_X p c s m args cc own nL D cy) {i k : Nat} {n : Int} {x : Int32} {lv : List (Nat × Value)} (lv' : Int32 → List (Nat × Value)) (hdg : decode cc pc = .ok (.iinc i n, 3)) (h : lv_has ls nL lv) (hk : lv[k]? = some (i, .int x)) (hn : i < nL) (hl : ∀ v : Int32, (i, Value.int v) :: lv.filter (fun q => !(q.1 == i) && !(q.1 + 1 == i && q.2.category == 2)) = lv' v)
    (kk : ∀ (z : Int32) (ls' : Array Slot), lv_has ls' nL (lv' z) → W p l e R s m args below meth c H locs cells slots Q (F0 m (pc + 3) ls' rest)) : W p l e R s m args below meth c H locs cells slots Q (F0 m pc ls rest) :=
  lv_iinc X.1 X.2.1 hdg h hk rfl hn (hl _) (fun ls' hl' => kk _ ls' hl')
theorem cI_div {x y : Int32} (hx : 0 ≤ x.toInt) (hy : 0 < y.toInt) : (x / y).toInt = x.toInt / y.toInt := by
  rw [Int32.toInt_div, Int.tdiv_eq_ediv_of_nonneg hx]
  have h1 := (cI_rng x).2
  have h2 : x.toInt / y.toInt ≤ x.toInt := Int.ediv_le_self _ hx
  have h3 : 0 ≤ x.toInt / y.toInt := Int.ediv_nonneg hx (by omega)
  exact cI_bmod (by omega) (by omega)
theorem n_div (X : ty_X p c s m args cc own nL D cy) {x y : Int32} (hdg : decode cc pc = .ok (.idiv, 1)) (h1 : 0 ≤ x.toInt) (h2 : 0 < y.toInt) (kk : ∀ z : Int32, z.toInt = x.toInt / y.toInt → W p l e R s m args below meth c H locs cells slots Q (F0 m (pc + 1) ls (.int z :: rest))) : W p l e R s m args below meth c H locs cells slots Q (F0 m pc ls (.int y :: .int x :: rest)) :=
  lv_idiv X.1 X.2.1 hdg (n_nz (by omega)) (kk _ (cI_div h1 h2))
theorem n_rem (X : ty_X p c s m args cc own nL D cy) {x y : Int32} (hdg : decode cc pc = .ok (.irem, 1)) (h1 : 0 ≤ x.toInt) (h2 : 0 < y.toInt) (kk : ∀ z : Int32, 0 ≤ z.toInt ∧ z.toInt < y.toInt ∧ z.toInt = x.toInt % y.toInt → W p l e R s m args below meth c H locs cells slots Q (F0 m (pc + 1) ls (.int z :: rest))) : W p l e R s m args below meth c H locs cells slots Q (F0 m pc ls (.int y :: .int x :: rest)) :=
  lv_irem X.1 X.2.1 hdg (n_nz (by omega)) (kk _ (by
    have e1 := cI_div h1 h2
    have hb := (cI_rng x).2
    have e2 : x.toInt / y.toInt * y.toInt ≤ x.toInt := Int.ediv_mul_le _ (by omega)
    have e3 : 0 ≤ x.toInt / y.toInt * y.toInt := Int.mul_nonneg (Int.ediv_nonneg h1 (by omega)) (by omega)
    have e4 : (x / y * y).toInt = x.toInt / y.toInt * y.toInt := by rw [cI_mul (by rw [e1]; omega) (by rw [e1]; omega), e1]
    have e5 : (x - x / y * y).toInt = x.toInt - x.toInt / y.toInt * y.toInt := by rw [cI_sub (by rw [e4]; omega) (by rw [e4]; omega), e4]
    have e6 : x.toInt % y.toInt = x.toInt - x.toInt / y.toInt * y.toInt := by rw [Int.emod_def, Int.mul_comm]
    have e7 := Int.emod_nonneg x.toInt (show y.toInt ≠ 0 by omega)
    have e8 := Int.emod_lt_of_pos x.toInt h2
    exact ⟨by omega, by omega, by omega⟩))
end LIB4
theorem ty_in {n : Nat} {S : List Nat} (h : List.elem n S = true) : n ∈ S := List.elem_iff.mp h
