/-! longs as Int; the reference's bounds -/
theorem cL_lt {a b : Int64} (h : a < b) : a.toInt < b.toInt := Int64.lt_iff_toInt_lt.mp h
theorem cL_inj {a b : Int64} (h : a.toInt = b.toInt) : a = b := Int64.toInt_inj.mp h
section LNG
variable {p : Program} {l : Launch} {e : Env} {R : Room} {s : State} {m : MethodId} {args : Array Value} {below : List Frame} {meth : Method} {c : Code} {H : Heap} {locs : List Loc} {cells slots : Nat} {Q : State → Prop} {cc : ByteArray} {pc : Nat} {ls : Array Slot} {rest : List Value} {D : va_G} {cy : Nat → ClassId} {own : String} {nL : Nat}
theorem n_i2l (X : ty_X p c s m args cc own nL D cy) {x : Int32} (hdg : decode cc pc = .ok (.i2l, 1)) (kk : ∀ z : Int64, z.toInt = x.toInt → W p l e R s m args below meth c H locs cells slots Q (F0 m (pc + 1) ls (.long z :: rest))) : W p l e R s m args below meth c H locs cells slots Q (F0 m pc ls (.int x :: rest)) :=
  lv_i2l X.1 X.2.1 hdg rfl (kk _ (Int32.toInt_toInt64 x))
theorem n_lc (X : ty_X p c s m args cc own nL D cy) {n : Fin 2} (hdg : decode cc pc = .ok (.lconst n, 1)) (kk : ∀ z : Int64, z.toInt = (n.val : Int) → W p l e R s m args below meth c H locs cells slots Q (F0 m (pc + 1) ls (.long z :: rest))) : W p l e R s m args below meth c H locs cells slots Q (F0 m pc ls rest) :=
  lv_lconst X.1 X.2.1 hdg rfl (kk _ (by match n with | 0 => decide +kernel | 1 => decide +kernel))
theorem n_ldl (X : ty_X p c s m args cc own nL D cy) {index : Nat} {v : Int64} {n : Int} (hw : Cond.constantLong own index v ∈ BG) (hv : v.toInt = n) (hdg : decode cc pc = .ok (.ldc2_w index, 3)) (kk : ∀ z : Int64, z = v → z.toInt = n → W p l e R s m args below meth c H locs cells slots Q (F0 m (pc + 3) ls (.long z :: rest))) : W p l e R s m args below meth c H locs cells slots Q (F0 m pc ls rest) :=
  lv_ldc2 X.1 X.2.1 X.2.2.2.1 (X.2.2.2.2.1 _ hw) hdg (kk _ rfl hv)
theorem n_lcmp (X : ty_X p c s m args cc own nL D cy) {x y : Int64} (hdg : decode cc pc = .ok (.lcmp, 1)) (kk : ∀ z : Int32, ((z.toInt < 0 ↔ x.toInt < y.toInt) ∧ (0 < z.toInt ↔ y.toInt < x.toInt)) → W p l e R s m args below meth c H locs cells slots Q (F0 m (pc + 1) ls (.int z :: rest))) : W p l e R s m args below meth c H locs cells slots Q (F0 m pc ls (.long y :: .long x :: rest)) :=
  W.lcmp X.1 X.2.1 hdg (kk _ (by
    unfold lg_cmp
    have k1 : (1 : Int32).toInt = 1 := by decide +kernel
    have k2 : (-1 : Int32).toInt = -1 := by decide +kernel
    by_cases h : x > y
    · rw [if_pos h]
      have := cL_lt h
      rw [k1]
      omega
    · rw [if_neg h]
      have h2 : x.toInt ≤ y.toInt := Int64.le_iff_toInt_le.mp (Int64.not_lt.mp h)
      by_cases h3 : x = y
      · rw [if_pos h3, cI_0, h3]
        omega
      · rw [if_neg h3, k2]
        have h4 : x.toInt ≠ y.toInt := fun q => h3 (cL_inj q)
        omega))
end LNG
/-- nothing typed is null, and each number is within its bounds: no more -/
def cn (M : md_T) (τ : ty_T) : ty_R := fun b j v => v ≠ .null ∧ ∀ t x, τ b = some t → v = .int x → ty_rng M t j x
theorem cn_N {M : md_T} {τ : ty_T} : ty_N τ (cn M τ) := fun _ _ _ _ q => q.1 rfl
theorem cn_R {M : md_T} {τ : ty_T} : ty_Rg M τ (cn M τ) := fun _ t _ x ha q => q.2 t x ha rfl
theorem cn_F {M : md_T} {τ : ty_T} {S : List Nat} : ty_Wf M τ (cn M τ) S := fun a t j x ha _ hr => by
  refine ⟨(fun q => by cases q), fun t2 x2 h2 e2 => ?_⟩
  rw [ha] at h2
  cases h2
  cases e2
  exact hr
/-- fewer bounds -/
theorem rgd_sub {M M' : md_T} (h : ∀ n j r, M' n j = some r → M n j = some r) {t : ty_C} {j : Nat} {r : Int × Int} (hr : ty_rgd M' t j = some r) : ty_rgd M t j = some r := by
  obtain ⟨a, b⟩ := t
  match a, hr with
  | 0, hr =>
    match b, hr with
    | 10, hr => exact h 0 j r hr
    | 0, hr => exact hr
    | 1, hr => exact hr
    | 2, hr => exact hr
    | 3, hr => exact hr
    | 4, hr => exact hr
    | 5, hr => exact hr
    | 6, hr => exact hr
    | 7, hr => exact hr
    | 8, hr => exact hr
    | 9, hr => exact hr
    | n + 11, hr => exact hr
  | 1, hr => exact hr
  | 2, hr => exact hr
  | 3, hr => exact hr
  | 4, hr => exact hr
  | 5, hr => exact hr
  | 6, hr => exact hr
  | 7, hr => exact hr
  | 8, hr => exact hr
  | 9, hr => exact hr
  | n + 10, hr => exact h (n + 10) j r hr
theorem cn_sub {M M' : md_T} {τ : ty_T} (h : ∀ n j r, M' n j = some r → M n j = some r) : ∀ a t j v, τ a = some t → cn M τ a j v → cn M' τ a j v := fun a t j v _ q => ⟨q.1, fun t2 x h2 e2 lo hi hr => q.2 t2 x h2 e2 lo hi (rgd_sub h hr)⟩
theorem TG.sub {D : va_G} {cy : Nat → ClassId} {M M' : md_T} {τ : ty_T} {A : Nat → Prop} {H0 H : Heap} {locs : List Loc} (hG : TG D cy τ (cn M τ) A H0 H locs) (h : ∀ n j r, M' n j = some r → M n j = some r) : TG D cy τ (cn M' τ) A H0 H locs := hG.mono (cn_sub h)
/-- row to row: the bounds go along -/
def cpM (M : md_T) (f t n : Nat) : md_T := fun a j => if a = 10 ∧ t ≤ j ∧ j < t + n then M 10 (f + (j - t)) else M a j
theorem cpM_in {M : md_T} {f t n j : Nat} (h1 : t ≤ j) (h2 : j < t + n) : cpM M f t n 10 j = M 10 (f + (j - t)) := by unfold cpM; rw [if_pos ⟨rfl, h1, h2⟩]
theorem cpM_out {M : md_T} {f t n j : Nat} (h : j < t ∨ t + n ≤ j) : cpM M f t n 10 j = M 10 j := by unfold cpM; rw [if_neg (by omega)]
theorem cpM_ne {M : md_T} {f t n a j : Nat} (h : a ≠ 10) : cpM M f t n a j = M a j := by unfold cpM; rw [if_neg (by omega)]
theorem cpM_0 {M : md_T} {f t : Nat} : cpM M f t 0 = M := by funext a j; unfold cpM; rw [if_neg (by omega)]
/-- the bounds that all calls of the reference rest on: N cells, P pieces -/
def HB (M : md_T) (P N : Nat) : Prop :=
  ((∃ n : Nat, M 0 9 = some ((n : Int), (n : Int)) ∧ n ≤ 6) ∧ (∃ n : Nat, M 0 13 = some ((n : Int), (n : Int)) ∧ n ≤ 20) ∧ (∃ n : Nat, M 0 3 = some ((n : Int), (n : Int)) ∧ n < 2147483648) ∧ True) ∧ (M 10 258 = some ((N : Int), (N : Int)) ∧ M 10 249 = some ((P : Int), (P : Int)) ∧ (∃ n : Nat, M 10 259 = some ((n : Int), (n : Int)) ∧ n ≤ 6) ∧ (∀ j, j < 8 → M 10 (250 + j) = some (0, 9)) ∧ ∀ j, j < 235 ∨ (3736 ≤ j ∧ j < 3972) → M 10 j = none) ∧ (∀ j, j < 72 → M 11 j = some (0, if j < N then (P : Int) - 1 else 7)) ∧ ((∀ j, M 24 j = some (0, 5)) ∧ True ∧ (∀ j, M 20 j = some (0, 150)) ∧ ∀ n, n ∈ [21, 22, 25, 31, 32, 33, 34] → ∀ j, M n j = none) ∧ N ≤ 72 ∧ P ≤ 8 ∧ (0 < N → 0 < P)
/-- the bounds of a line that lies at b -/
def LV (M : md_T) (P b : Nat) : Prop := (∀ p, p < P → M 10 (b + 236 + p) = some (1, 99)) ∧ M 10 (b + 246) = some (0, 99) ∧ M 10 (b + 245) = some (0, 99)
/-- nothing is said of what is tried -/
def HT (M : md_T) : Prop := ∀ j, 3736 ≤ j → j < 3983 → M 10 j = none
theorem rdR {M : md_T} {i x : Int32} {n : Nat} {lo hi : Int} {t : ty_C} (h : ty_rng M t i.toNatClampNeg x) (hi0 : i.toInt = n) (hm : ty_rgd M t n = some (lo, hi)) : lo ≤ x.toInt ∧ x.toInt ≤ hi := by
  have e : i.toNatClampNeg = n := by have := cI_clamp (x := i) (by omega); omega
  rw [e] at h
  exact h lo hi hm
theorem rdL {M : md_T} {P N : Nat} {i x : Int32} (hB : HB M P N) (h : ty_rng M (10, 4261) i.toNatClampNeg x) (hi : 250 ≤ i.toInt ∧ i.toInt ≤ 257) : 0 ≤ x.toInt ∧ x.toInt ≤ 9 :=
  rdR (n := (i.toInt).toNat) h (by omega) (by
    have := hB.2.1.2.2.2.1 ((i.toInt).toNat - 250) (by omega)
    rw [show 250 + ((i.toInt).toNat - 250) = (i.toInt).toNat by omega] at this
    exact this)
theorem rdO {M : md_T} {P N : Nat} {i x : Int32} (hB : HB M P N) (h : ty_rng M (11, 72) i.toNatClampNeg x) (hi : 0 ≤ i.toInt ∧ i.toInt < 72) : 0 ≤ x.toInt ∧ x.toInt ≤ 7 ∧ (i.toInt < N → x.toInt < P) := by
  have h1 := rdR (n := (i.toInt).toNat) h (by omega) (hB.2.2.1 (i.toInt).toNat (by omega))
  have hP := hB.2.2.2.2.2.1
  by_cases q : (i.toInt).toNat < N
  · rw [if_pos q] at h1
    omega
  · rw [if_neg q] at h1
    omega
theorem wFr {M : md_T} {P N : Nat} {i : Int32} (hB : HB M P N) (hi : (0 ≤ i.toInt ∧ i.toInt < 235) ∨ (3736 ≤ i.toInt ∧ i.toInt < 3972)) : ty_rgd M (10, 4261) i.toNatClampNeg = none := by
  have c := cI_clamp (x := i) (by omega)
  exact hB.2.1.2.2.2.2 _ (by omega)
theorem rdV {M : md_T} {P b : Nat} {i x : Int32} (hL : LV M P b) (h : ty_rng M (10, 4261) i.toNatClampNeg x) {q : Nat} (hq : q < P) (hi : i.toInt = (b : Int) + 236 + q) : 1 ≤ x.toInt ∧ x.toInt ≤ 99 :=
  rdR (n := b + 236 + q) h (by omega) (hL.1 q hq)
/-- a draw: what is left of a long by the low 31 bits is no negative int -/
theorem m_and (w : Int64) : 0 ≤ (w &&& 2147483647).toInt32.toInt := by
  have h1 : (w &&& 2147483647).toInt32 = (w.toInt32 &&& 2147483647) := by
    apply Int32.toBitVec_inj.mp
    simp [Int64.toBitVec_toInt32, Int64.toBitVec_and]
  rw [h1]
  obtain ⟨j, hj, e⟩ := pk_andE w.toInt32 (m := 2147483647) 31 (by decide +kernel)
  rw [e, cI_nI (by omega)]
  omega
theorem wAt {M : md_T} {i : Int32} {n : Nat} {t : ty_C} {r : Int × Int} (hi0 : i.toInt = n) (hm : ty_rgd M t n = some r) : ty_rgd M t i.toNatClampNeg = some r := by
  have e : i.toNatClampNeg = n := by have := cI_clamp (x := i) (by omega); omega
  rw [e]
  exact hm
