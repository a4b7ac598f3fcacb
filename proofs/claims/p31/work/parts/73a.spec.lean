/-! what the reading of a text is: blanks, figures, numbers, clauses -/
def scF (p : Nat → Bool) : Nat → Nat → Nat
  | 0, a => a
  | n + 1, a => if p a = true then scF p n (a + 1) else a
def sc (p : Nat → Bool) (c a : Nat) : Nat := scF p (c - a) a
section SC
variable {p : Nat → Bool} {c a : Nat}
theorem sc_y (h : a < c) (hp : p a = true) : sc p c a = sc p c (a + 1) := by
  unfold sc
  rw [show c - a = (c - (a + 1)) + 1 by omega]
  show (if p a = true then scF p (c - (a + 1)) (a + 1) else a) = _
  rw [if_pos hp]
theorem sc_n (h : a < c → p a = false) : sc p c a = a := by
  unfold sc
  cases e : c - a with
  | zero => rfl
  | succ n =>
    show (if p a = true then scF p n (a + 1) else a) = a
    rw [if_neg (by rw [h (by omega)]; decide)]
theorem scF_ge : ∀ n a, a ≤ scF p n a
  | 0, a => Nat.le_refl _
  | n + 1, a => by
    show a ≤ (if p a = true then scF p n (a + 1) else a)
    split
    · exact Nat.le_trans (Nat.le_succ a) (scF_ge n (a + 1))
    · exact Nat.le_refl _
theorem scF_le : ∀ n a, scF p n a ≤ a + n
  | 0, a => Nat.le_refl _
  | n + 1, a => by
    show (if p a = true then scF p n (a + 1) else a) ≤ a + (n + 1)
    split
    · have := scF_le n (a + 1); omega
    · omega
theorem scF_all : ∀ n a k, a ≤ k → k < scF p n a → p k = true
  | 0, a, k, h1, h2 => absurd (show k < a from h2) (by omega)
  | n + 1, a, k, h1, h2 => by
    have h2 : k < (if p a = true then scF p n (a + 1) else a) := h2
    by_cases hp : p a = true
    · rw [if_pos hp] at h2
      by_cases e : k = a
      · rw [e]; exact hp
      · exact scF_all n (a + 1) k (by omega) h2
    · rw [if_neg hp] at h2
      omega
theorem sc_ge : a ≤ sc p c a := scF_ge _ _
theorem sc_le (h : a ≤ c) : sc p c a ≤ c := by have := scF_le (p := p) (c - a) a; unfold sc; omega
theorem sc_all {k : Nat} (h1 : a ≤ k) (h2 : k < sc p c a) : p k = true := scF_all _ _ k h1 h2
end SC
def blk (T : Nat → Int32) (a : Nat) : Bool := decide ((T a).toInt = 32)
def fig (T : Nat → Int32) (a : Nat) : Bool := decide (48 ≤ (T a).toInt ∧ (T a).toInt ≤ 57)
def sk (T : Nat → Int32) (c a : Nat) : Nat := sc (blk T) c a
def de (T : Nat → Int32) (c a : Nat) : Nat := sc (fig T) c a
/-- the value of the first n figures from a on -/
def vl (T : Nat → Int32) (a : Nat) : Nat → Int
  | 0 => 0
  | n + 1 => 10 * vl T a n + ((T (a + n)).toInt - 48)
def na (T : Nat → Int32) (c a : Nat) : Nat := de T c (sk T c a)
def nv (T : Nat → Int32) (c a : Nat) : Int := vl T (sk T c a) (min (na T c a - sk T c a) 3)
def nk (T : Nat → Int32) (c a : Nat) (lo hi : Int) : Nat := if na T c a = sk T c a then 1 else if 3 < na T c a - sk T c a ∨ nv T c a < lo ∨ hi < nv T c a then 2 else 0
def wd (x : Int32) : Nat := if x.toInt = 100 then 0 else if x.toInt = 112 then 1 else if x.toInt = 101 then 2 else if x.toInt = 103 then 3 else 4
def nlo (w k : Nat) : Int := (evL (3 * w + k)).toInt
def nhi (w k : Nat) : Int := (evG (3 * w + k)).toInt
def nnb (w : Nat) : Nat := if w = 3 then 3 else 2
/-- what is told so far: a driver, pieces, cells, an end, gates -/
abbrev ST : Type := Bool × Nat × Nat × Bool × Nat
def many (st : ST) (w : Nat) : Bool := if w = 0 then st.1 else if w = 1 then decide (8 ≤ st.2.1) else if w = 2 then st.2.2.2.1 else decide (6 ≤ st.2.2.2.2)
def cnF (T : Nat → Int32) (c w : Nat) : Nat → Nat → Nat → Nat × Nat
  | 0, _, p => (0, p)
  | m + 1, k, p => if nk T c p (nlo w k) (nhi w k) = 0 then cnF T c w m (k + 1) (na T c p) else (nk T c p (nlo w k) (nhi w k), sk T c p)
def cln (T : Nat → Int32) (c a : Nat) : Nat × Nat := cnF T c (wd (T a)) (nnb (wd (T a))) 0 (a + 1)
def clk (T : Nat → Int32) (c : Nat) (st : ST) (a : Nat) : Nat × Nat := if 4 ≤ wd (T a) ∨ (st.1 = false ∧ wd (T a) ≠ 0) then (1, a) else if many st (wd (T a)) = true then (3, a) else if (cln T c a).1 = 0 then (if sk T c (cln T c a).2 < c ∧ (T (sk T c (cln T c a).2)).toInt = 59 then (0, sk T c (cln T c a).2 + 1) else (1, sk T c (cln T c a).2)) else cln T c a
def nst (T : Nat → Int32) (c : Nat) (st : ST) (a : Nat) : ST := if wd (T a) = 0 then (true, st.2) else if wd (T a) = 1 then (st.1, st.2.1 + 1, st.2.2.1 + (nv T c (na T c (a + 1))).toNat, st.2.2.2) else if wd (T a) = 2 then (st.1, st.2.1, st.2.2.1, true, st.2.2.2.2) else (st.1, st.2.1, st.2.2.1, st.2.2.2.1, st.2.2.2.2 + 1)
def rdF (T : Nat → Int32) (c : Nat) : Nat → ST → Nat → Nat × Nat × ST
  | 0, st, a => (0, a, st)
  | n + 1, st, a => if a < c then (if (clk T c st a).1 = 0 then rdF T c n (nst T c st a) (sk T c (clk T c st a).2) else ((clk T c st a).1, (clk T c st a).2, st)) else (0, a, st)
section RS
variable {T : Nat → Int32} {c a : Nat}
theorem sk_y (h : a < c) (h2 : (T a).toInt = 32) : sk T c a = sk T c (a + 1) := sc_y h (decide_eq_true h2)
theorem sk_n (h : a < c → (T a).toInt ≠ 32) : sk T c a = a := sc_n (fun q => decide_eq_false (h q))
theorem sk_ge : a ≤ sk T c a := sc_ge
theorem sk_le (h : a ≤ c) : sk T c a ≤ c := sc_le h
theorem de_y (h : a < c) (h2 : 48 ≤ (T a).toInt ∧ (T a).toInt ≤ 57) : de T c a = de T c (a + 1) := sc_y h (decide_eq_true h2)
theorem de_n (h : a < c → ¬ (48 ≤ (T a).toInt ∧ (T a).toInt ≤ 57)) : de T c a = a := sc_n (fun q => decide_eq_false (h q))
theorem de_ge : a ≤ de T c a := sc_ge
theorem de_le (h : a ≤ c) : de T c a ≤ c := sc_le h
theorem de_all {k : Nat} (h1 : a ≤ k) (h2 : k < de T c a) : 48 ≤ (T k).toInt ∧ (T k).toInt ≤ 57 := of_decide_eq_true (sc_all (p := fig T) h1 h2)
theorem na_ge : a ≤ na T c a := Nat.le_trans sk_ge de_ge
theorem na_le (h : a ≤ c) : na T c a ≤ c := de_le (sk_le h)
theorem sk_na : sk T c a ≤ na T c a := de_ge
/-- three figures at most: under a thousand -/
theorem vl_b {s : Nat} : ∀ n, n ≤ 3 → (∀ k, k < n → 48 ≤ (T (s + k)).toInt ∧ (T (s + k)).toInt ≤ 57) → 0 ≤ vl T s n ∧ vl T s n ≤ (if n = 0 then 0 else if n = 1 then 9 else if n = 2 then 99 else 999) := by
  intro n hn h
  have e0 : vl T s 0 = 0 := rfl
  have e1 : vl T s 1 = 10 * vl T s 0 + ((T (s + 0)).toInt - 48) := rfl
  have e2 : vl T s 2 = 10 * vl T s 1 + ((T (s + 1)).toInt - 48) := rfl
  have e3 : vl T s 3 = 10 * vl T s 2 + ((T (s + 2)).toInt - 48) := rfl
  rcases (show n = 0 ∨ n = 1 ∨ n = 2 ∨ n = 3 by omega) with z | z | z | z
  · subst z; rw [e0]; decide
  · subst z; have := h 0 (by omega); rw [if_neg (by decide), if_pos rfl]; omega
  · subst z; have := h 0 (by omega); have := h 1 (by omega); rw [if_neg (by decide), if_neg (by decide), if_pos rfl]; omega
  · subst z; have := h 0 (by omega); have := h 1 (by omega); have := h 2 (by omega); rw [if_neg (by decide), if_neg (by decide), if_neg (by decide)]; omega
theorem nk_1 {lo hi : Int} (h : na T c a = sk T c a) : nk T c a lo hi = 1 := if_pos h
theorem nk_2 {lo hi : Int} (h : na T c a ≠ sk T c a) (h2 : 3 < na T c a - sk T c a ∨ nv T c a < lo ∨ hi < nv T c a) : nk T c a lo hi = 2 := by unfold nk; rw [if_neg h, if_pos h2]
theorem nk_0 {lo hi : Int} (h : na T c a ≠ sk T c a) (h2 : ¬ (3 < na T c a - sk T c a ∨ nv T c a < lo ∨ hi < nv T c a)) : nk T c a lo hi = 0 := by unfold nk; rw [if_neg h, if_neg h2]
theorem nk_c {lo hi : Int} : nk T c a lo hi = 0 ∨ nk T c a lo hi = 1 ∨ nk T c a lo hi = 2 := by
  unfold nk
  split
  · exact Or.inr (Or.inl rfl)
  · split
    · exact Or.inr (Or.inr rfl)
    · exact Or.inl rfl
theorem nk_in {lo hi : Int} (h : nk T c a lo hi = 0) : lo ≤ nv T c a ∧ nv T c a ≤ hi := by
  unfold nk at h
  split at h
  · cases h
  · split at h
    · cases h
    · next q => omega
theorem cnF_ge {w : Nat} : ∀ m k p, p ≤ (cnF T c w m k p).2
  | 0, k, p => Nat.le_refl _
  | m + 1, k, p => by
    show p ≤ (if nk T c p (nlo w k) (nhi w k) = 0 then cnF T c w m (k + 1) (na T c p) else (nk T c p (nlo w k) (nhi w k), sk T c p)).2
    split
    · exact Nat.le_trans na_ge (cnF_ge m (k + 1) (na T c p))
    · exact sk_ge
theorem clk_0 {st : ST} (h : (clk T c st a).1 = 0) : a < (clk T c st a).2 ∧ (clk T c st a).2 ≤ c := by
  unfold clk at h ⊢
  by_cases h1 : 4 ≤ wd (T a) ∨ (st.1 = false ∧ wd (T a) ≠ 0)
  · rw [if_pos h1] at h; cases h
  rw [if_neg h1] at h ⊢
  by_cases h2 : many st (wd (T a)) = true
  · rw [if_pos h2] at h; cases h
  rw [if_neg h2] at h ⊢
  by_cases h3 : (cln T c a).1 = 0
  · rw [if_pos h3] at h ⊢
    by_cases h4 : sk T c (cln T c a).2 < c ∧ (T (sk T c (cln T c a).2)).toInt = 59
    · rw [if_pos h4] at h ⊢
      have g1 : a + 1 ≤ (cln T c a).2 := cnF_ge _ _ _
      have g2 : (cln T c a).2 ≤ sk T c (cln T c a).2 := sk_ge
      exact ⟨by show a < sk T c (cln T c a).2 + 1; omega, h4.1⟩
    · rw [if_neg h4] at h; cases h
  · rw [if_neg h3] at h
    exact absurd h h3
end RS
