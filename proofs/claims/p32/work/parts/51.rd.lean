/-! the reference reads its text: the bounds meanwhile -/
def HRd (M : md_T) (Lg : Nat) : Prop := M 0 7 = some ((Lg : Int), (Lg : Int)) ∧ M 0 16 = some (0, (Lg : Int)) ∧ M 0 17 = none ∧ M 0 18 = none ∧ M 0 19 = none ∧ M 0 20 = none ∧ (∀ j, M 16 j = none) ∧ Lg ≤ 240
def HRw (M : md_T) : Prop := M 10 4227 = none ∧ M 10 4228 = some (0, 99) ∧ M 10 4229 = some (0, 99) ∧ M 10 4230 = none ∧ M 10 4231 = none ∧ ∀ j, 4243 ≤ j → M 10 j = none
theorem wNo {M : md_T} {i : Int32} {n : Nat} {t : ty_C} (hi0 : i.toInt = n) (hm : ty_rgd M t n = none) : ty_rgd M t i.toNatClampNeg = none := by
  have e : i.toNatClampNeg = n := by have := cI_clamp (x := i) (by omega); omega
  rw [e]
  exact hm
theorem wGt {M : md_T} {i : Int32} (h : HRw M) (hi0 : 4243 ≤ i.toInt) : ty_rgd M (10, 4261) i.toNatClampNeg = none := by
  have := cI_clamp (x := i) (by omega)
  exact h.2.2.2.2.2 _ (by omega)
theorem fs_back {M : md_T} {j : Nat} {q : Int × Int} (h : M 0 j = none) : ∀ n i r, M n i = some r → fsM M j q n i = some r := by
  intro n i r hr
  by_cases e : n = 0 ∧ i = j
  · obtain ⟨rfl, rfl⟩ := e
    rw [h] at hr
    cases hr
  · rw [fsM_ne n i (by omega)]
    exact hr
/-- a pinned number is known by its bounds -/
theorem exs_fs {D : va_G} {cy : Nat → ClassId} {M : md_T} {τ : ty_T} {A : Nat → Prop} {H0 H : Heap} {locs : List Loc} (hU : UQ τ) {a : Nat} (ha : τ a = some (0, 10)) {j k : Nat} {x y : Int32} {lo hi : Int} (hjk : j ≠ k) (hG : TG D cy τ (exs (cn M τ) a (P2 j x k y)) A H0 H locs) (hy : lo ≤ y.toInt ∧ y.toInt ≤ hi) : TG D cy τ (cn (fsM M k (lo, hi)) τ) A H0 H locs := by
  refine hG.mono (fun b t i v hb q => ⟨q.1.1, fun t2 z h2 e2 lo2 hi2 hr => ?_⟩)
  by_cases hc : t2 = (0, 10) ∧ i = k
  · obtain ⟨rfl, rfl⟩ := hc
    have hba : b = a := hU b a _ _ h2 ha (Or.inr ⟨rfl, rfl⟩)
    have hv := q.2 hba y (by unfold P2; rw [if_neg (Ne.symm hjk), if_pos rfl])
    rw [hv] at e2
    cases e2
    have hr2 : fsM M i (lo, hi) 0 i = some (lo2, hi2) := hr
    rw [fsM_at] at hr2
    cases hr2
    exact hy
  · refine q.1.2 t2 z h2 e2 lo2 hi2 ?_
    rw [← hr]
    symm
    refine rgd_eq (fun n hn => fsM_ne n i ?_)
    rcases hn with ⟨h3, h4⟩ | ⟨h3, h4⟩
    · exact Or.inr (fun e => hc ⟨h3, e⟩)
    · exact Or.inl (by omega)
