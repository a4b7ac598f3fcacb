/-! what most methods bear: nothing typed is null; what may be written freely; more rows -/
def ty_N (τ : ty_T) (ρ : ty_R) : Prop := ∀ (a : Nat) (t : ty_C) (j : Nat), τ a = some t → ¬ ρ a j .null
section LIB3
variable {p : Program} {l : Launch} {e : Env} {R : Room} {s : State} {m : MethodId} {args : Array Value} {below : List Frame} {meth : Method} {c : Code} {H : Heap} {locs : List Loc} {cells slots : Nat} {Q : State → Prop} {cc : ByteArray} {pc : Nat} {ls : Array Slot} {rest : List Value} {D : va_G} {cy : Nat → ClassId} {τ : ty_T} {ρ : ty_R} {A : Nat → Prop} {H0 : Heap} {own : String} {nL : Nat}
theorem tg_iasf (X : ty_X p c s m args cc own nL D cy) (hG : TG D cy τ ρ A H0 H locs) {a : Nat} {t : ty_C} (ha : τ a = some t) (ht : ty_kd t.1 = 1) {i x : Int32} (hin : vp_in i t.2) (hdg : decode cc pc = .ok (.iastore, 1)) (hr : ρ a i.toNatClampNeg (.int x))
    (kk : ∀ (H1 : Heap) (locs1 : List Loc), TG D cy τ ρ A H0 H1 locs1 → W p l e R s m args below meth c H1 locs1 cells slots Q (F0 m (pc + 1) ls rest)) : W p l e R s m args below meth c H locs cells slots Q (F0 m pc ls (.int x :: .int i :: .ref a :: rest)) :=
  tg_iast X hG ha ht hin hdg ρ (fun _ _ _ _ h => h) (fun _ _ _ h => h) hr kk
theorem tg_zast (X : ty_X p c s m args cc own nL D cy) (hG : TG D cy τ ρ A H0 H locs) {a : Nat} {t : ty_C} (ha : τ a = some t) (ht : ty_kd t.1 = 2) {i x : Int32} (hin : vp_in i t.2) (hz : x.toInt = 0 ∨ x.toInt = 1) (hdg : decode cc pc = .ok (.bastore, 1)) (ρ' : ty_R) (hoff : ∀ b i v, b ≠ a → ρ b i v → ρ' b i v) (hoth : ∀ k v, k ≠ i.toNatClampNeg → ρ a k v → ρ' a k v) (hnew : ρ' a i.toNatClampNeg (.int x))
    (kk : ∀ (H1 : Heap) (locs1 : List Loc), TG D cy τ ρ' A H0 H1 locs1 → W p l e R s m args below meth c H1 locs1 cells slots Q (F0 m (pc + 1) ls rest)) : W p l e R s m args below meth c H locs cells slots Q (F0 m pc ls (.int x :: .int i :: .ref a :: rest)) := by
  obtain ⟨hx, hb, -, hown, hB, hK⟩ := X
  obtain ⟨⟨L, f, hP, hD, hdom, hok⟩, hS, hA⟩ := hG
  have hL : a ∈ L := (hdom a).mpr (ty_some ha)
  have hD2 : va_D A ([] ++ va_pl L f) := tg_dom hA hdom hD
  obtain ⟨k0, hk0⟩ := va_pl_get (X := []) (f := f) hL
  obtain ⟨g, he, hv⟩ := (hok a _ ha).2.2.1 ht
  have hk1 : ([] ++ va_pl L f)[k0]? = some (a, .inl (cy 1, t.2, .inl g)) := by rw [hk0, he]
  have hxx : vp_nar .boolean x = x := by rcases cI_01 hz with rfl | rfl <;> decide +kernel
  refine va_zast hx hb hK (show va_P D vwCl ([] ++ va_pl L f) H from hP) hD2 hS k0 1 hk1 rfl hin hdg (fun H1 locs1 hP1 hD1 hS1 => ?_)
  rw [va_pl_set hD2 hL hk0] at hP1 hD1
  refine kk H1 locs1 (ty_put hP1 hD1 hS1 hA hdom hok ha hoff ⟨(fun h => by rw [ht] at h; cases h), (fun h => by rw [ht] at h; cases h), fun _ => ⟨_, rfl, fun j hj => ?_⟩, (fun h => by rw [ht] at h; cases h)⟩)
  by_cases hji : j = i.toNatClampNeg
  · subst hji
    rw [pk_us, hxx]
    exact ⟨cI_01 hz, hnew⟩
  · rw [pk_un hji]
    exact ⟨(hv j hj).1, hoth j _ hji (hv j hj).2⟩
theorem n_inc (X : ty_X p c s m args cc own nL D cy) {i k : Nat} {n : Int} {x : Int32} {lv : List (Nat × Value)} (lv' : Int32 → List (Nat × Value)) (hdg : decode cc pc = .ok (.iinc i n, 3)) (h : lv_has ls nL lv) (hk : lv[k]? = some (i, .int x)) (hn1 : -2147483648 ≤ n) (hn2 : n < 2147483648) (h1 : -2147483648 ≤ x.toInt + n) (h2 : x.toInt + n < 2147483648) (hn : i < nL) (hl : ∀ v : Int32, (i, Value.int v) :: lv.filter (fun q => !(q.1 == i) && !(q.1 + 1 == i && q.2.category == 2)) = lv' v)
    (kk : ∀ (z : Int32) (ls' : Array Slot), z.toInt = x.toInt + n → lv_has ls' nL (lv' z) → W p l e R s m args below meth c H locs cells slots Q (F0 m (pc + 3) ls' rest)) : W p l e R s m args below meth c H locs cells slots Q (F0 m pc ls rest) :=
  lv_iinc X.1 X.2.1 hdg h hk rfl hn (hl _) (fun ls' hl' => kk _ ls' (by have e1 := cI_of hn1 hn2; rw [cI_add (by rw [e1]; exact h1) (by rw [e1]; exact h2), e1]) hl')
theorem n_anyl {x : Int64} (kk : ∀ z : Int64, W p l e R s m args below meth c H locs cells slots Q (F0 m pc ls (.long z :: rest))) : W p l e R s m args below meth c H locs cells slots Q (F0 m pc ls (.long x :: rest)) := kk x
theorem n_nz {y : Int32} (h : y.toInt ≠ 0) : ¬ y = 0 := fun q => h (by rw [q]; exact cI_0)
theorem n_len {n : Nat} {x : Int32} (h : x = nI n) (hn : n < 2147483648) : x.toInt = n := by rw [h]; exact cI_nI hn
theorem n_max (X : ty_X p c s m args cc own nL D cy) (hls : ls.size = nL) {index : Nat} (hw : Cond.methodLink own index Lib.Math.max.name ∈ BG) (hw2 : Cond.static Lib.Math.max.name ∈ BG) (hw3 : Cond.initialized "java/lang/Math" ∈ BG) (hw4 : Cond.code Lib.Math.max.name Lib.Math.max.code 2 (some .int) ∈ BG) (hf : 1 ≤ R.frames) (hlo : (rest.map fun v => v.category).sum + 13 ≤ R.locals) (hcs : cells ≤ R.cells ∧ slots ≤ R.slots) {x y : Int32} (hdg : decode cc pc = .ok (.invokestatic index, 3))
    (kk : ∀ z : Int32, x.toInt ≤ z.toInt ∧ y.toInt ≤ z.toInt ∧ (z.toInt = x.toInt ∨ z.toInt = y.toInt) → W p l e R s m args below meth c H locs cells slots Q (F0 m (pc + 3) ls (.int z :: rest))) : W p l e R s m args below meth c H locs cells slots Q (F0 m pc ls (.int y :: .int x :: rest)) :=
  va_mmax X.1 X.2.1 (X.2.2.1.trans hls.symm) X.2.2.2.1 (X.2.2.2.2.1 _ hw) (X.2.2.2.2.1 _ hw2) (X.2.2.2.2.1 _ hw3) (X.2.2.2.2.1 _ hw4) hf hlo hcs.1 hcs.2 hdg (kk _ (by
    by_cases h : x < y
    · rw [if_pos h]; have := cI_lt h; omega
    · rw [if_neg h]; have := cI_nlt h; omega))
theorem n_min (X : ty_X p c s m args cc own nL D cy) (hls : ls.size = nL) {index : Nat} (hw : Cond.methodLink own index Lib.Math.min.name ∈ BG) (hw2 : Cond.static Lib.Math.min.name ∈ BG) (hw3 : Cond.initialized "java/lang/Math" ∈ BG) (hw4 : Cond.code Lib.Math.min.name Lib.Math.min.code 2 (some .int) ∈ BG) (hf : 1 ≤ R.frames) (hlo : (rest.map fun v => v.category).sum + 13 ≤ R.locals) (hcs : cells ≤ R.cells ∧ slots ≤ R.slots) {x y : Int32} (hdg : decode cc pc = .ok (.invokestatic index, 3))
    (kk : ∀ z : Int32, z.toInt ≤ x.toInt ∧ z.toInt ≤ y.toInt ∧ (z.toInt = x.toInt ∨ z.toInt = y.toInt) → W p l e R s m args below meth c H locs cells slots Q (F0 m (pc + 3) ls (.int z :: rest))) : W p l e R s m args below meth c H locs cells slots Q (F0 m pc ls (.int y :: .int x :: rest)) :=
  va_mmin X.1 X.2.1 (X.2.2.1.trans hls.symm) X.2.2.2.1 (X.2.2.2.2.1 _ hw) (X.2.2.2.2.1 _ hw2) (X.2.2.2.2.1 _ hw3) (X.2.2.2.2.1 _ hw4) hf hlo hcs.1 hcs.2 hdg (kk _ (by
    by_cases h : y < x
    · rw [if_pos h]; have := cI_lt h; omega
    · rw [if_neg h]; have := cI_nlt h; omega))
theorem n_abs (X : ty_X p c s m args cc own nL D cy) (hls : ls.size = nL) {index : Nat} (hw : Cond.methodLink own index Lib.Math.abs.name ∈ BG) (hw2 : Cond.static Lib.Math.abs.name ∈ BG) (hw3 : Cond.initialized "java/lang/Math" ∈ BG) (hw4 : Cond.code Lib.Math.abs.name Lib.Math.abs.code 1 (some .int) ∈ BG) (hf : 1 ≤ R.frames) (hlo : (rest.map fun v => v.category).sum + 13 ≤ R.locals) (hcs : cells ≤ R.cells ∧ slots ≤ R.slots) {x : Int32} (hdg : decode cc pc = .ok (.invokestatic index, 3))
    (kk : ∀ z : Int32, W p l e R s m args below meth c H locs cells slots Q (F0 m (pc + 3) ls (.int z :: rest))) : W p l e R s m args below meth c H locs cells slots Q (F0 m pc ls (.int x :: rest)) :=
  va_mabs X.1 X.2.1 (X.2.2.1.trans hls.symm) X.2.2.2.1 (X.2.2.2.2.1 _ hw) (X.2.2.2.2.1 _ hw2) (X.2.2.2.2.1 _ hw3) (X.2.2.2.2.1 _ hw4) hf hlo hcs.1 hcs.2 hdg (kk _)
/-- System.arraycopy of typed ints, from any such to any such -/
theorem tg_copy (X : ty_X p c s m args cc own nL D cy) (hG : TG D cy τ ρ A H0 H locs) (hls : ls.size = nL) {a0 a : Nat} {t0 t : ty_C} (ha0 : τ a0 = some t0) (ha : τ a = some t) (ht0 : ty_kd t0.1 = 1) (ht : ty_kd t.1 = 1) {sp dp n : Int32} (h1 : 0 ≤ sp.toInt) (h2 : 0 ≤ dp.toInt) (h3 : 0 ≤ n.toInt) (h4 : sp.toInt + n.toInt ≤ t0.2) (h5 : dp.toInt + n.toInt ≤ t.2) {index : Nat} (hw : Cond.methodLink own index arraycopyName ∈ BG) (hw2 : Cond.native arraycopyName ∈ BG) (hw3 : Cond.static arraycopyName ∈ BG) (hw4 : Cond.initialized "java/lang/System" ∈ BG) (hf : 1 ≤ R.frames) (hlo : (rest.map fun v => v.category).sum + (nativeFrameWords "java/lang/System" "arraycopy" 5 + 11) ≤ R.locals) (hdg : decode cc pc = .ok (.invokestatic index, 3)) (hr : ∀ (j j2 : Nat) (x : Int32), ρ a0 j (.int x) → ρ a j2 (.int x))
    (kk : ∀ (H1 : Heap) (locs1 : List Loc), TG D cy τ ρ A H0 H1 locs1 → W p l e R s m args below meth c H1 locs1 cells slots Q (F0 m (pc + 3) ls rest)) : W p l e R s m args below meth c H locs cells slots Q (F0 m pc ls (.int n :: .int dp :: .ref a :: .int sp :: .ref a0 :: rest)) := by
  obtain ⟨hx, hb, hml, hown, hB, hK⟩ := X
  obtain ⟨⟨L, f, hP, hD, hdom, hok⟩, hS, hA⟩ := hG
  have hL : a ∈ L := (hdom a).mpr (ty_some ha)
  have hD2 : va_D A ([] ++ va_pl L f) := tg_dom hA hdom hD
  obtain ⟨k0, hk0⟩ := va_pl_get (X := []) (f := f) ((hdom a0).mpr (ty_some ha0))
  obtain ⟨k1, hk1⟩ := va_pl_get (X := []) (f := f) hL
  obtain ⟨g0, he0, hv0⟩ := (hok a0 _ ha0).2.1 ht0
  obtain ⟨g1, he1, hv1⟩ := (hok a _ ha).2.1 ht
  have hq0 : ([] ++ va_pl L f)[k0]? = some (a0, .inl (cy 0, t0.2, .inl g0)) := by rw [hk0, he0]
  have hq1 : ([] ++ va_pl L f)[k1]? = some (a, .inl (cy 0, t.2, .inl g1)) := by rw [hk1, he1]
  have c1 := cI_clamp h1
  have c2 := cI_clamp h2
  have c3 := cI_clamp h3
  have nn : ∀ z : Int32, 0 ≤ z.toInt → ¬ z < 0 := fun z hz q => by have := cI_lt q; rw [cI_0] at this; omega
  refine va_copyi hx hb (hml.trans hls.symm) hown (hB _ hw) (hB _ hw2) (hB _ hw3) (hB _ hw4) hK (show va_P D vwCl ([] ++ va_pl L f) H from hP) hD2 hS k0 k1 0 0 hq0 hq1 rfl rfl rfl (nn sp h1) (nn dp h2) (nn n h3) (by omega) (by omega) (fun _ _ => rfl) hf hlo hdg (fun H1 locs1 hP1 hD1 hS1 => ?_)
  rw [va_pl_set hD2 hL hk1] at hP1 hD1
  exact kk H1 locs1 (ty_put hP1 hD1 hS1 hA hdom hok ha (fun _ _ _ _ h => h) ⟨(fun h => by rw [ht] at h; cases h), fun _ => ⟨_, rfl, fun j hj => by
    by_cases hin : dp.toNatClampNeg ≤ j ∧ j < dp.toNatClampNeg + n.toNatClampNeg
    · rw [pk_cpy_in hin.1 hin.2]
      exact hr _ j _ (hv0 _ (by omega))
    · rw [pk_cpy_out (by omega)]
      exact hv1 j hj⟩, (fun h => by rw [ht] at h; cases h), (fun h => by rw [ht] at h; cases h)⟩)
end LIB3
