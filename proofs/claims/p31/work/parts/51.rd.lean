/-! the reference reads its text: the bounds meanwhile -/
def sumF (f : Nat → Nat) : Nat → Nat
  | 0 => 0
  | n + 1 => sumF f n + f n
theorem sumF_cg {f g : Nat → Nat} : ∀ n, (∀ i, i < n → f i = g i) → sumF f n = sumF g n
  | 0, _ => rfl
  | n + 1, h => by rw [sumF, sumF, sumF_cg n (fun i hi => h i (by omega)), h n (by omega)]
theorem sumF_le {f : Nat → Nat} (h : ∀ i, f i ≤ 9) : ∀ n, sumF f n ≤ 9 * n
  | 0 => Nat.le_refl _
  | n + 1 => by have := sumF_le h n; have := h n; rw [sumF]; omega
def rdM (pc gc : Nat) (f : Nat → Nat) (o : Nat) : Option (Int × Int) := if 236 ≤ o ∧ o < 236 + pc then some (1, 99) else if o = 245 ∨ o = 246 then some (0, 99) else if o = 249 then some ((pc : Int), (pc : Int)) else if 250 ≤ o ∧ o < 250 + pc then some ((f (o - 250) : Int), (f (o - 250) : Int)) else if 250 ≤ o ∧ o < 258 then some (0, 9) else if o = 258 then some ((sumF f pc : Int), (sumF f pc : Int)) else if o = 259 then some ((gc : Int), (gc : Int)) else if o = 235 then some (0, 0) else if o = 247 then some ((f 100 : Int), (f 100 : Int)) else none
/-- while the text is read: its length, from where on it is read, the pieces and gates so far, the pieces' lengths -/
def RMM (M0 : md_T) (Lg lo pc gc : Nat) (f : Nat → Nat) : md_T := fun a j => if a = 0 ∧ j = 7 then some ((Lg : Int), (Lg : Int)) else if a = 0 ∧ j = 16 then some ((lo : Int), (Lg : Int)) else if a = 10 ∧ 3983 ≤ j then rdM pc gc f (j - 3983) else M0 a j
theorem RMM_f {M0 : md_T} {Lg lo pc gc : Nat} {f : Nat → Nat} {a j : Nat} (h1 : ¬ (a = 0 ∧ j = 7)) (h2 : ¬ (a = 0 ∧ j = 16)) (h3 : ¬ (a = 10 ∧ 3983 ≤ j)) : RMM M0 Lg lo pc gc f a j = M0 a j := by
  unfold RMM
  rw [if_neg h1, if_neg h2, if_neg h3]
theorem RMM_r {M0 : md_T} {Lg lo pc gc : Nat} {f : Nat → Nat} {o : Nat} : RMM M0 Lg lo pc gc f 10 (3983 + o) = rdM pc gc f o := by
  unfold RMM
  rw [if_neg (by omega), if_neg (by omega), if_pos (by omega), show 3983 + o - 3983 = o by omega]
theorem rd_no {pc gc : Nat} {f : Nat → Nat} {o : Nat} (hp : pc ≤ 8) (h : o < 235 ∨ o = 244 ∨ o = 248 ∨ 260 ≤ o) : rdM pc gc f o = none := by
  unfold rdM
  rw [if_neg (by omega), if_neg (by omega), if_neg (by omega), if_neg (by omega), if_neg (by omega), if_neg (by omega), if_neg (by omega), if_neg (by omega), if_neg (by omega)]
theorem rd_249 {pc gc : Nat} {f : Nat → Nat} (hp : pc ≤ 8) : rdM pc gc f 249 = some ((pc : Int), (pc : Int)) := by
  unfold rdM
  rw [if_neg (by omega), if_neg (by omega), if_pos (by omega)]
theorem rd_258 {pc gc : Nat} {f : Nat → Nat} (hp : pc ≤ 8) : rdM pc gc f 258 = some ((sumF f pc : Int), (sumF f pc : Int)) := by
  unfold rdM
  rw [if_neg (by omega), if_neg (by omega), if_neg (by omega), if_neg (by omega), if_neg (by omega), if_pos (by omega)]
theorem rd_259 {pc gc : Nat} {f : Nat → Nat} (hp : pc ≤ 8) : rdM pc gc f 259 = some ((gc : Int), (gc : Int)) := by
  unfold rdM
  rw [if_neg (by omega), if_neg (by omega), if_neg (by omega), if_neg (by omega), if_neg (by omega), if_neg (by omega), if_pos (by omega)]
def rsM (M : md_T) (j : Nat) (r : Int × Int) : md_T := fun a i => if a = 10 ∧ i = j then some r else M a i
theorem rs_at {M : md_T} {j : Nat} {r : Int × Int} : rsM M j r 10 j = some r := if_pos ⟨rfl, rfl⟩
theorem rs_ne {M : md_T} {j : Nat} {r : Int × Int} : ∀ n i, n ≠ 10 ∨ i ≠ j → rsM M j r n i = M n i := fun n i h => if_neg (by omega)
