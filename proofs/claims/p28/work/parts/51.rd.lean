/-! the reference reads its text: the bounds meanwhile -/
def HRd (M : md_T) (Lg lo : Nat) : Prop := M 0 7 = some ((Lg : Int), (Lg : Int)) ∧ M 0 16 = some ((lo : Int), (Lg : Int)) ∧ M 0 17 = none ∧ M 0 18 = none ∧ M 0 19 = none ∧ M 0 20 = none ∧ True ∧ Lg ≤ 240
def HRw (M : md_T) : Prop := M 10 4227 = none ∧ M 10 4228 = some (0, 99) ∧ M 10 4229 = some (0, 99) ∧ M 10 4230 = none ∧ M 10 4231 = none ∧ ∀ j, 4243 ≤ j → M 10 j = none
theorem wNo {M : md_T} {i : Int32} {n : Nat} {t : ty_C} (hi0 : i.toInt = n) (hm : ty_rgd M t n = none) : ty_rgd M t i.toNatClampNeg = none := by
  have e : i.toNatClampNeg = n := by have := cI_clamp (x := i) (by omega); omega
  rw [e]
  exact hm
theorem wGt {M : md_T} {i : Int32} (h : HRw M) (hi0 : 4243 ≤ i.toInt) : ty_rgd M (10, 4261) i.toNatClampNeg = none := by
  have := cI_clamp (x := i) (by omega)
  exact h.2.2.2.2.2 _ (by omega)
theorem fs_back {M : md_T} {j : Nat} {q : Int × Int} (h : M 0 j = none) : ∀ n i r, M n i = some r → fsM M j q n i = some r := by
  intro n i r hr
  by_cases e : n = 0 ∧ i = j
  · obtain ⟨rfl, rfl⟩ := e
    rw [h] at hr
    cases hr
  · rw [fsM_ne n i (by omega)]
    exact hr
/-- a pinned number is known by its bounds -/
theorem exs_fs {D : va_G} {cy : Nat → ClassId} {M : md_T} {τ : ty_T} {A : Nat → Prop} {H0 H : Heap} {locs : List Loc} (hU : UQ τ) {a : Nat} (ha : τ a = some (0, 10)) {j k : Nat} {x y : Int32} {lo hi : Int} (hjk : j ≠ k) (hG : TG D cy τ (exs (cn M τ) a (P2 j x k y)) A H0 H locs) (hy : lo ≤ y.toInt ∧ y.toInt ≤ hi) : TG D cy τ (cn (fsM M k (lo, hi)) τ) A H0 H locs := by
  refine hG.mono (fun b t i v hb q => ⟨q.1.1, fun t2 z h2 e2 lo2 hi2 hr => ?_⟩)
  by_cases hc : t2 = (0, 10) ∧ i = k
  · obtain ⟨rfl, rfl⟩ := hc
    have hba : b = a := hU b a _ _ h2 ha (Or.inr ⟨rfl, rfl⟩)
    have hv := q.2 hba y (by unfold P2; rw [if_neg (Ne.symm hjk), if_pos rfl])
    rw [hv] at e2
    cases e2
    have hr2 : fsM M i (lo, hi) 0 i = some (lo2, hi2) := hr
    rw [fsM_at] at hr2
    cases hr2
    exact hy
  · refine q.1.2 t2 z h2 e2 lo2 hi2 ?_
    rw [← hr]
    symm
    refine rgd_eq (fun n hn => fsM_ne n i ?_)
    rcases hn with ⟨h3, h4⟩ | ⟨h3, h4⟩
    · exact Or.inr (fun e => hc ⟨h3, e⟩)
    · exact Or.inl (by omega)
def sumF (f : Nat → Nat) : Nat → Nat
  | 0 => 0
  | n + 1 => sumF f n + f n
theorem sumF_cg {f g : Nat → Nat} : ∀ n, (∀ i, i < n → f i = g i) → sumF f n = sumF g n
  | 0, _ => rfl
  | n + 1, h => by rw [sumF, sumF, sumF_cg n (fun i hi => h i (by omega)), h n (by omega)]
theorem sumF_le {f : Nat → Nat} (h : ∀ i, f i ≤ 9) : ∀ n, sumF f n ≤ 9 * n
  | 0 => Nat.le_refl _
  | n + 1 => by have := sumF_le h n; have := h n; rw [sumF]; omega
def rdM (pc gc : Nat) (f : Nat → Nat) (o : Nat) : Option (Int × Int) := if 236 ≤ o ∧ o < 236 + pc then some (1, 99) else if o = 245 ∨ o = 246 then some (0, 99) else if o = 249 then some ((pc : Int), (pc : Int)) else if 250 ≤ o ∧ o < 250 + pc then some ((f (o - 250) : Int), (f (o - 250) : Int)) else if 250 ≤ o ∧ o < 258 then some (0, 9) else if o = 258 then some ((sumF f pc : Int), (sumF f pc : Int)) else if o = 259 then some ((gc : Int), (gc : Int)) else none
/-- while the text is read: its length, from where on it is read, the pieces and gates so far, the pieces' lengths -/
def RMM (M0 : md_T) (Lg lo pc gc : Nat) (f : Nat → Nat) : md_T := fun a j => if a = 0 ∧ j = 7 then some ((Lg : Int), (Lg : Int)) else if a = 0 ∧ j = 16 then some ((lo : Int), (Lg : Int)) else if a = 10 ∧ 3983 ≤ j then rdM pc gc f (j - 3983) else M0 a j
def RDS (τ : ty_T) (M0 : md_T) (Lg lo : Nat) (w : ty_R) : Prop := ∃ pc gc f, pc ≤ 8 ∧ gc ≤ 6 ∧ (∀ i, f i ≤ 9) ∧ w = cn (RMM M0 Lg lo pc gc f) τ
def M0k (M0 : md_T) : Prop := M0 0 17 = none ∧ M0 0 18 = none ∧ M0 0 19 = none ∧ M0 0 20 = none ∧ True
theorem RMM_f {M0 : md_T} {Lg lo pc gc : Nat} {f : Nat → Nat} {a j : Nat} (h1 : ¬ (a = 0 ∧ j = 7)) (h2 : ¬ (a = 0 ∧ j = 16)) (h3 : ¬ (a = 10 ∧ 3983 ≤ j)) : RMM M0 Lg lo pc gc f a j = M0 a j := by
  unfold RMM
  rw [if_neg h1, if_neg h2, if_neg h3]
theorem RMM_r {M0 : md_T} {Lg lo pc gc : Nat} {f : Nat → Nat} {o : Nat} : RMM M0 Lg lo pc gc f 10 (3983 + o) = rdM pc gc f o := by
  unfold RMM
  rw [if_neg (by omega), if_neg (by omega), if_pos (by omega), show 3983 + o - 3983 = o by omega]
theorem RMM_hr {M0 : md_T} {Lg lo pc gc : Nat} {f : Nat → Nat} (h0 : M0k M0) (hL : Lg ≤ 240) : HRd (RMM M0 Lg lo pc gc f) Lg lo :=
  ⟨rfl, rfl, by rw [RMM_f (by omega) (by omega) (by omega)]; exact h0.1, by rw [RMM_f (by omega) (by omega) (by omega)]; exact h0.2.1, by rw [RMM_f (by omega) (by omega) (by omega)]; exact h0.2.2.1, by rw [RMM_f (by omega) (by omega) (by omega)]; exact h0.2.2.2.1, trivial, hL⟩
theorem rd_no {pc gc : Nat} {f : Nat → Nat} {o : Nat} (hp : pc ≤ 8) (h : o < 236 ∨ o = 244 ∨ o = 247 ∨ o = 248 ∨ 260 ≤ o) : rdM pc gc f o = none := by
  unfold rdM
  rw [if_neg (by omega), if_neg (by omega), if_neg (by omega), if_neg (by omega), if_neg (by omega), if_neg (by omega), if_neg (by omega)]
theorem RMM_rw {M0 : md_T} {Lg lo pc gc : Nat} {f : Nat → Nat} (hp : pc ≤ 8) : HRw (RMM M0 Lg lo pc gc f) := by
  refine ⟨?_, ?_, ?_, ?_, ?_, fun j hj => ?_⟩
  · rw [show 4227 = 3983 + 244 from rfl, RMM_r]; exact rd_no hp (by omega)
  · rw [show 4228 = 3983 + 245 from rfl, RMM_r]; unfold rdM; rw [if_neg (by omega), if_pos (by omega)]
  · rw [show 4229 = 3983 + 246 from rfl, RMM_r]; unfold rdM; rw [if_neg (by omega), if_pos (by omega)]
  · rw [show 4230 = 3983 + 247 from rfl, RMM_r]; exact rd_no hp (by omega)
  · rw [show 4231 = 3983 + 248 from rfl, RMM_r]; exact rd_no hp (by omega)
  · rw [show j = 3983 + (j - 3983) by omega, RMM_r]; exact rd_no hp (by omega)
theorem rd_249 {pc gc : Nat} {f : Nat → Nat} (hp : pc ≤ 8) : rdM pc gc f 249 = some ((pc : Int), (pc : Int)) := by
  unfold rdM
  rw [if_neg (by omega), if_neg (by omega), if_pos (by omega)]
theorem rd_258 {pc gc : Nat} {f : Nat → Nat} (hp : pc ≤ 8) : rdM pc gc f 258 = some ((sumF f pc : Int), (sumF f pc : Int)) := by
  unfold rdM
  rw [if_neg (by omega), if_neg (by omega), if_neg (by omega), if_neg (by omega), if_neg (by omega), if_pos (by omega)]
theorem rd_259 {pc gc : Nat} {f : Nat → Nat} (hp : pc ≤ 8) : rdM pc gc f 259 = some ((gc : Int), (gc : Int)) := by
  unfold rdM
  rw [if_neg (by omega), if_neg (by omega), if_neg (by omega), if_neg (by omega), if_neg (by omega), if_neg (by omega), if_pos (by omega)]
theorem RMM_P {M0 : md_T} {Lg lo pc gc : Nat} {f : Nat → Nat} (hp : pc ≤ 8) : RMM M0 Lg lo pc gc f 10 4232 = some ((pc : Int), (pc : Int)) := by rw [show 4232 = 3983 + 249 from rfl, RMM_r]; exact rd_249 hp
theorem RMM_N {M0 : md_T} {Lg lo pc gc : Nat} {f : Nat → Nat} (hp : pc ≤ 8) : RMM M0 Lg lo pc gc f 10 4241 = some ((sumF f pc : Int), (sumF f pc : Int)) := by rw [show 4241 = 3983 + 258 from rfl, RMM_r]; exact rd_258 hp
theorem RMM_G {M0 : md_T} {Lg lo pc gc : Nat} {f : Nat → Nat} (hp : pc ≤ 8) : RMM M0 Lg lo pc gc f 10 4242 = some ((gc : Int), (gc : Int)) := by rw [show 4242 = 3983 + 259 from rfl, RMM_r]; exact rd_259 hp
def rsM (M : md_T) (j : Nat) (r : Int × Int) : md_T := fun a i => if a = 10 ∧ i = j then some r else M a i
theorem rs_at {M : md_T} {j : Nat} {r : Int × Int} : rsM M j r 10 j = some r := if_pos ⟨rfl, rfl⟩
theorem rs_ne {M : md_T} {j : Nat} {r : Int × Int} : ∀ n i, n ≠ 10 ∨ i ≠ j → rsM M j r n i = M n i := fun n i h => if_neg (by omega)
theorem HRd.rs {M : md_T} {Lg lo j : Nat} {r : Int × Int} (h : HRd M Lg lo) : HRd (rsM M j r) Lg lo :=
  ⟨by rw [rs_ne _ _ (Or.inl (by decide))]; exact h.1, by rw [rs_ne _ _ (Or.inl (by decide))]; exact h.2.1, by rw [rs_ne _ _ (Or.inl (by decide))]; exact h.2.2.1, by rw [rs_ne _ _ (Or.inl (by decide))]; exact h.2.2.2.1, by rw [rs_ne _ _ (Or.inl (by decide))]; exact h.2.2.2.2.1, by rw [rs_ne _ _ (Or.inl (by decide))]; exact h.2.2.2.2.2.1, trivial, h.2.2.2.2.2.2.2⟩
/-- one gate more -/
theorem RMM_g1 {M0 : md_T} {Lg lo pc gc gc' : Nat} {f : Nat → Nat} : ∀ n j, n ≠ 10 ∨ j ≠ 4242 → RMM M0 Lg lo pc gc' f n j = RMM M0 Lg lo pc gc f n j := by
  intro n j h
  unfold RMM
  by_cases h1 : n = 0 ∧ j = 7
  · rw [if_pos h1, if_pos h1]
  · rw [if_neg h1, if_neg h1]
    by_cases h2 : n = 0 ∧ j = 16
    · rw [if_pos h2, if_pos h2]
    · rw [if_neg h2, if_neg h2]
      by_cases h3 : n = 10 ∧ 3983 ≤ j
      · rw [if_pos h3, if_pos h3]
        unfold rdM
        by_cases h4 : j - 3983 = 259
        · omega
        · rw [if_neg h4, if_neg h4]
      · rw [if_neg h3, if_neg h3]
/-- a piece's ohms, not yet counted -/
theorem RMM_o {M0 : md_T} {Lg lo pc gc : Nat} {f : Nat → Nat} {q : Int × Int} (hp : pc < 8) : ∀ n j r, RMM M0 Lg lo pc gc f n j = some r → rsM (RMM M0 Lg lo pc gc f) (4219 + pc) q n j = some r := by
  intro n j r h
  by_cases e : n = 10 ∧ j = 4219 + pc
  · obtain ⟨rfl, rfl⟩ := e
    rw [show 4219 + pc = 3983 + (236 + pc) by omega, RMM_r] at h
    unfold rdM at h
    rw [if_neg (show ¬ (236 ≤ 236 + pc ∧ 236 + pc < 236 + pc) by omega), if_neg (show ¬ (236 + pc = 245 ∨ 236 + pc = 246) by omega), if_neg (show ¬ (236 + pc = 249) by omega), if_neg (show ¬ (250 ≤ 236 + pc ∧ 236 + pc < 250 + pc) by omega), if_neg (show ¬ (250 ≤ 236 + pc ∧ 236 + pc < 258) by omega), if_neg (show ¬ (236 + pc = 258) by omega), if_neg (show ¬ (236 + pc = 259) by omega)] at h
    cases h
  · rw [rs_ne n j (by omega)]
    exact h
/-- one piece more -/
theorem RMM_p1 {M0 : md_T} {Lg lo pc gc x : Nat} {f : Nat → Nat} {z : Int × Int} (hp : pc < 8) (h19 : M0 0 19 = none) : ∀ n j r, RMM M0 Lg lo (pc + 1) gc (fun i => if i = pc then x else f i) n j = some r →
    rsM (rsM (rsM (fsM (rsM (RMM M0 Lg lo pc gc f) (4219 + pc) (1, 99)) 19 z) (4233 + pc) ((x : Int), (x : Int))) 4241 (((sumF f pc + x : Nat) : Int), ((sumF f pc + x : Nat) : Int))) 4232 (((pc + 1 : Nat) : Int), ((pc + 1 : Nat) : Int)) n j = some r := by
  intro n j r h
  by_cases e1 : n = 10 ∧ j = 4232
  · obtain ⟨rfl, rfl⟩ := e1
    rw [rs_at]
    rw [RMM_P (by omega)] at h
    exact h
  · rw [rs_ne n j (by omega)]
    by_cases e2 : n = 10 ∧ j = 4241
    · obtain ⟨rfl, rfl⟩ := e2
      rw [rs_at]
      rw [RMM_N (by omega)] at h
      have e : sumF (fun i => if i = pc then x else f i) (pc + 1) = sumF f pc + x := by
        rw [sumF, if_pos rfl, sumF_cg pc (g := f) (fun i hi => if_neg (by omega))]
      rw [e] at h
      exact h
    · rw [rs_ne n j (by omega)]
      by_cases e3 : n = 10 ∧ j = 4233 + pc
      · obtain ⟨rfl, rfl⟩ := e3
        rw [rs_at]
        rw [show 4233 + pc = 3983 + (250 + pc) by omega, RMM_r] at h
        unfold rdM at h
        rw [if_neg (show ¬ (236 ≤ 250 + pc ∧ 250 + pc < 236 + (pc + 1)) by omega), if_neg (show ¬ (250 + pc = 245 ∨ 250 + pc = 246) by omega), if_neg (show ¬ (250 + pc = 249) by omega), if_pos (show 250 ≤ 250 + pc ∧ 250 + pc < 250 + (pc + 1) by omega), show 250 + pc - 250 = pc by omega] at h
        dsimp only at h
        rw [if_pos rfl] at h
        exact h
      · rw [rs_ne n j (by omega)]
        by_cases e5 : n = 0 ∧ j = 19
        · obtain ⟨rfl, rfl⟩ := e5
          rw [RMM_f (by omega) (by omega) (by omega), h19] at h
          cases h
        · rw [fsM_ne n j (by omega)]
          by_cases e4 : n = 10 ∧ j = 4219 + pc
          · obtain ⟨rfl, rfl⟩ := e4
            rw [rs_at]
            rw [show 4219 + pc = 3983 + (236 + pc) by omega, RMM_r] at h
            unfold rdM at h
            rw [if_pos (show 236 ≤ 236 + pc ∧ 236 + pc < 236 + (pc + 1) by omega)] at h
            exact h
          · rw [rs_ne n j (by omega)]
            by_cases e6 : n = 10 ∧ 3983 ≤ j
            · obtain ⟨rfl, e6⟩ := e6
              rw [show j = 3983 + (j - 3983) by omega, RMM_r] at h ⊢
              generalize ho : j - 3983 = o at h ⊢
              unfold rdM at h ⊢
              by_cases q1 : 236 ≤ o ∧ o < 236 + pc
              · rw [if_pos (show 236 ≤ o ∧ o < 236 + (pc + 1) by omega)] at h
                rw [if_pos q1]
                exact h
              · rw [if_neg (show ¬ (236 ≤ o ∧ o < 236 + (pc + 1)) by omega)] at h
                rw [if_neg q1]
                by_cases q2 : o = 245 ∨ o = 246
                · rw [if_pos q2] at h ⊢; exact h
                · rw [if_neg q2] at h ⊢
                  rw [if_neg (show ¬ o = 249 by omega)] at h ⊢
                  by_cases q3 : 250 ≤ o ∧ o < 250 + pc
                  · rw [if_pos (show 250 ≤ o ∧ o < 250 + (pc + 1) by omega)] at h
                    dsimp only at h
                    rw [if_neg (show ¬ o - 250 = pc by omega)] at h
                    rw [if_pos q3]
                    exact h
                  · rw [if_neg (show ¬ (250 ≤ o ∧ o < 250 + (pc + 1)) by omega)] at h
                    rw [if_neg q3]
                    by_cases q4 : 250 ≤ o ∧ o < 258
                    · rw [if_pos q4] at h ⊢; exact h
                    · rw [if_neg q4] at h ⊢
                      rw [if_neg (show ¬ o = 258 by omega)] at h ⊢
                      exact h
            · unfold RMM at h ⊢
              by_cases q1 : n = 0 ∧ j = 7
              · rw [if_pos q1] at h ⊢; exact h
              · rw [if_neg q1] at h ⊢
                by_cases q2 : n = 0 ∧ j = 16
                · rw [if_pos q2] at h ⊢; exact h
                · rw [if_neg q2, if_neg e6] at h ⊢
                  exact h
