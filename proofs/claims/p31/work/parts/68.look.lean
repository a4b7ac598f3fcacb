/-! couldBe, look -/
theorem GP.sz {M : md_T} {π : ty_R} {τ t : ty_T} {r : ty_R} (hu : GP M π τ (t, r)) (hS : ∀ a n, τ a = some (1, n) → n < 2147483648) : ∀ a n, t a = some (1, n) → n < 2147483648 := fun a n h => by
  cases hh : τ a with
  | none =>
    have z := hu.2.1 a (1, n) hh h
    cases z
    decide
  | some y =>
    have z : t a = some y := hu.1 a y hh
    rw [z] at h
    cases h
    exact hS a n hh
