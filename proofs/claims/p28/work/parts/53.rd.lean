/-- a pinned number, exact -/
theorem exs_p1 {D : va_G} {cy : Nat → ClassId} {M : md_T} {τ : ty_T} {A : Nat → Prop} {H0 H : Heap} {locs : List Loc} (hU : UQ τ) {a : Nat} (ha : τ a = some (0, 10)) {k v : Nat} {y : Int32} (hG : TG D cy τ (exs (cn M τ) a (P1 k y)) A H0 H locs) (hy : y.toInt = (v : Int)) : TG D cy τ (cn (fsM M k ((v : Int), (v : Int))) τ) A H0 H locs := by
  refine hG.mono (fun b t i w hb q => ⟨q.1.1, fun t2 z h2 e2 lo2 hi2 hr => ?_⟩)
  by_cases hc : t2 = (0, 10) ∧ i = k
  · obtain ⟨rfl, rfl⟩ := hc
    have hba : b = a := hU b a _ _ h2 ha (Or.inr ⟨rfl, rfl⟩)
    have hv := q.2 hba y (by unfold P1; rw [if_pos rfl])
    rw [hv] at e2
    cases e2
    have hr2 : fsM M i ((v : Int), (v : Int)) 0 i = some (lo2, hi2) := hr
    rw [fsM_at] at hr2
    cases hr2
    omega
  · refine q.1.2 t2 z h2 e2 lo2 hi2 ?_
    rw [← hr]
    symm
    refine rgd_eq (fun n hn => fsM_ne n i ?_)
    rcases hn with ⟨h3, h4⟩ | ⟨h3, h4⟩
    · exact Or.inr (fun e => hc ⟨h3, e⟩)
    · exact Or.inl (by omega)
theorem fs_fs {M : md_T} {k : Nat} {z1 z2 : Int × Int} : ∀ n j r, fsM M k z2 n j = some r → fsM (fsM M k z1) k z2 n j = some r := by
  intro n j r h
  by_cases e : n = 0 ∧ j = k
  · obtain ⟨rfl, rfl⟩ := e
    rw [fsM_at] at h ⊢
    exact h
  · rw [fsM_ne n j (by omega)] at h ⊢
    rw [fsM_ne n j (by omega)]
    exact h
theorem RMM_fl {f : Nat → Nat} {pc x : Nat} (hf : ∀ i, f i ≤ 9) (hx : x ≤ 9) : ∀ i, (fun i => if i = pc then x else f i) i ≤ 9 := by
  intro i
  dsimp only
  by_cases e : i = pc
  · rw [if_pos e]; exact hx
  · rw [if_neg e]; exact hf i
theorem RMM_lo {M0 : md_T} {Lg lo lo' pc gc : Nat} {f : Nat → Nat} : ∀ n j, n ≠ 0 ∨ j ≠ 16 → RMM M0 Lg lo' pc gc f n j = RMM M0 Lg lo pc gc f n j := by
  intro n j h
  unfold RMM
  by_cases h1 : n = 0 ∧ j = 7
  · rw [if_pos h1, if_pos h1]
  · rw [if_neg h1, if_neg h1, if_neg (show ¬ (n = 0 ∧ j = 16) by omega), if_neg (show ¬ (n = 0 ∧ j = 16) by omega)]
