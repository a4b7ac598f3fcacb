/-! the reference's clauses to the letter -/
def b01 (b : Bool) : Int × Int := (if b then 1 else 0, if b then 1 else 0)
/-- what the reference has read so far -/
def MS (M : md_T) (st : ST) (f : Nat → Nat) : Prop := M 0 20 = some (b01 st.2.2.2.1) ∧ M 10 4230 = some (b01 st.1) ∧ (∀ o, o ≠ 247 → M 10 (3983 + o) = rdM st.2.1 st.2.2.2.2 f o) ∧ st.2.2.1 = sumF f st.2.1 ∧ ∀ i, f i ≤ 9
def FR (M' M : md_T) : Prop := ∀ n j, ¬ (n = 0 ∧ 16 ≤ j ∧ j ≤ 20) → ¬ (n = 10 ∧ 3983 ≤ j) → M' n j = M n j
section MCL
variable {M M1 M2 : md_T} {c j : Nat} {T : Nat → Int32} {r : Int × Int} {st : ST} {f : Nat → Nat}
theorem fr_rf : FR M M := fun _ _ _ _ => rfl
theorem fr_1 (h : FR1 M1 M) : FR M1 M := fun n i q _ => h n i (by omega)
theorem fr_tr (h1 : FR M2 M1) (h2 : FR M1 M) : FR M2 M := fun n i q q2 => (h1 n i q q2).trans (h2 n i q q2)
theorem fr_fs (h : FR M1 M) (hj : 16 ≤ j ∧ j ≤ 20) : FR (fsM M1 j r) M := fun n i q q2 => by rw [fsM_ne n i (by omega)]; exact h n i q q2
theorem fr_rs (h : FR M1 M) (hj : 3983 ≤ j) : FR (rsM M1 j r) M := fun n i q q2 => by rw [rs_ne n i (by omega)]; exact h n i q q2
theorem mx_f (h : MX M c T) (hf : FR M1 M) : MX M1 c T := ⟨(hf 0 7 (by omega) (by omega)).trans h.1, fun j hj => (hf 16 j (by omega) (by omega)).trans (h.2 j hj)⟩
theorem ms_1 (h : MS M st f) (hf : FR1 M1 M) : MS M1 st f := ⟨(hf 0 20 (by omega)).trans h.1, (hf 10 4230 (by omega)).trans h.2.1, fun o ho => (hf 10 _ (by omega)).trans (h.2.2.1 o ho), h.2.2.2.1, h.2.2.2.2⟩
end MCL
theorem sumF_p {f : Nat → Nat} {P L : Nat} : sumF (fun i => if i = P then L else f i) (P + 1) = sumF f P + L := by
  show sumF (fun i => if i = P then L else f i) P + (if P = P then L else f P) = _
  rw [if_pos rfl, sumF_cg P (g := f) (fun i hi => by show (if i = P then L else f i) = f i; rw [if_neg (by omega)])]
/-- one piece more, place by place -/
theorem rd_p0 {P G L : Nat} {f : Nat → Nat} {o : Nat} (hP : P < 8) (h1 : o ≠ 249) (h2 : o ≠ 258) (h3 : o ≠ 250 + P) (h4 : o ≠ 236 + P) : rdM (P + 1) G (fun i => if i = P then L else f i) o = rdM P G f o := by
  unfold rdM
  by_cases b1 : 236 ≤ o ∧ o < 236 + P
  · rw [if_pos (show 236 ≤ o ∧ o < 236 + (P + 1) by omega), if_pos b1]
  rw [if_neg (show ¬ (236 ≤ o ∧ o < 236 + (P + 1)) by omega), if_neg b1]
  by_cases b2 : o = 245 ∨ o = 246
  · rw [if_pos b2, if_pos b2]
  rw [if_neg b2, if_neg b2, if_neg h1, if_neg h1]
  by_cases b3 : 250 ≤ o ∧ o < 250 + P
  · rw [if_pos (show 250 ≤ o ∧ o < 250 + (P + 1) by omega), if_pos b3]
    have e : (if o - 250 = P then L else f (o - 250)) = f (o - 250) := if_neg (by omega)
    show some (((if o - 250 = P then L else f (o - 250) : Nat) : Int), ((if o - 250 = P then L else f (o - 250) : Nat) : Int)) = _
    rw [e]
  rw [if_neg (show ¬ (250 ≤ o ∧ o < 250 + (P + 1)) by omega), if_neg b3]
  by_cases b4 : 250 ≤ o ∧ o < 258
  · rw [if_pos b4, if_pos b4]
  rw [if_neg b4, if_neg b4, if_neg h2, if_neg h2]
  show (if o = 259 then some ((G : Int), (G : Int)) else if o = 235 then some (0, 0) else if o = 247 then some (((if 100 = P then L else f 100 : Nat) : Int), ((if 100 = P then L else f 100 : Nat) : Int)) else none) = _
  rw [if_neg (show ¬ 100 = P by omega)]
theorem rd_o {P G : Nat} {f : Nat → Nat} : rdM (P + 1) G f (236 + P) = some (1, 99) := by unfold rdM; rw [if_pos (by omega)]
theorem rd_g0 {P G : Nat} {f : Nat → Nat} {o : Nat} (h : o ≠ 259) : rdM P (G + 1) f o = rdM P G f o := by
  unfold rdM
  rw [if_neg h, if_neg h]
/-- what a clause leaves -/
def CR (T : Nat → Int32) (c : Nat) (st : ST) (a : Nat) (M M2 : md_T) (r : Int32) : Prop := FR M2 M ∧ ((clk T c st a).1 = 0 → r.toInt = 1 ∧ M2 0 16 = some (((clk T c st a).2 : Int), ((clk T c st a).2 : Int)) ∧ ∃ g, MS M2 (nst T c st a) g) ∧ ((clk T c st a).1 ≠ 0 → r.toInt = 0 ∧ M2 0 17 = some (((clk T c st a).1 : Int), ((clk T c st a).1 : Int)) ∧ M2 0 18 = some (((clk T c st a).2 : Int), ((clk T c st a).2 : Int)) ∧ ∃ b : Nat, b ≤ c ∧ M2 0 16 = some ((b : Int), (b : Int)))
theorem cr_no {T : Nat → Int32} {c a k q : Nat} {st : ST} {M M2 : md_T} {r : Int32} (h : clk T c st a = (k, q)) (hk : k ≠ 0) (hf : FR M2 M) (hr : r.toInt = 0) (h17 : M2 0 17 = some ((k : Int), (k : Int))) (h18 : M2 0 18 = some ((q : Int), (q : Int))) (hb : ∃ b : Nat, b ≤ c ∧ M2 0 16 = some ((b : Int), (b : Int))) : CR T c st a M M2 r := by
  refine ⟨hf, fun h0 => absurd (by rw [h] at h0; exact h0) hk, fun _ => ?_⟩
  rw [h]
  exact ⟨hr, h17, h18, hb⟩
theorem cr_yes {T : Nat → Int32} {c a q : Nat} {st : ST} {M M2 : md_T} {r : Int32} {g : Nat → Nat} (h : clk T c st a = (0, q)) (hf : FR M2 M) (hr : r.toInt = 1) (h16 : M2 0 16 = some ((q : Int), (q : Int))) (hg : MS M2 (nst T c st a) g) : CR T c st a M M2 r := by
  refine ⟨hf, fun _ => ?_, fun h0 => absurd (by rw [h]) h0⟩
  rw [h]
  exact ⟨hr, h16, g, hg⟩
theorem rwr {N : md_T} {i x : Int32} {k : Nat} {lo hi : Int} (h0 : i.toInt = (k : Int)) (hm : N 10 k = some (lo, hi)) (hx : lo ≤ x.toInt ∧ x.toInt ≤ hi) : ty_rng N (10, 4261) i.toNatClampNeg x := by
  have e : i.toNatClampNeg = k := by have := cI_clamp (x := i) (by omega); omega
  rw [e]
  exact ty_ryes hm hx
theorem rwn {N : md_T} {i x : Int32} {k : Nat} (h0 : i.toInt = (k : Int)) (hm : N 10 k = none) : ty_rng N (10, 4261) i.toNatClampNeg x := by
  have e : i.toNatClampNeg = k := by have := cI_clamp (x := i) (by omega); omega
  rw [e]
  exact ty_rno hm
theorem nb_t : nlo 0 0 = 0 ∧ nhi 0 0 = 99 ∧ nlo 0 1 = 1 ∧ nhi 0 1 = 99 ∧ nlo 1 0 = 1 ∧ nhi 1 0 = 99 ∧ nlo 1 1 = 1 ∧ nhi 1 1 = 9 ∧ nlo 2 0 = 0 ∧ nhi 2 0 = 2 ∧ nlo 2 1 = 1 ∧ nhi 2 1 = 99 ∧ nlo 3 0 = 0 ∧ nhi 3 0 = 3 ∧ nlo 3 1 = 0 ∧ nhi 3 1 = 71 ∧ nlo 3 2 = 1 ∧ nhi 3 2 = 99 := by decide +kernel
theorem rd_244 {P G : Nat} {f : Nat → Nat} (hP : P ≤ 8) : rdM P G f 244 = none := by unfold rdM; rw [if_neg (by omega), if_neg (by omega), if_neg (by omega), if_neg (by omega), if_neg (by omega), if_neg (by omega), if_neg (by omega), if_neg (by omega), if_neg (by omega)]
theorem rd_245 {P G : Nat} {f : Nat → Nat} (hP : P ≤ 8) : rdM P G f 245 = some (0, 99) := by unfold rdM; rw [if_neg (by omega), if_pos (by omega)]
theorem rd_246 {P G : Nat} {f : Nat → Nat} (hP : P ≤ 8) : rdM P G f 246 = some (0, 99) := by unfold rdM; rw [if_neg (by omega), if_pos (by omega)]
theorem rd_248 {P G : Nat} {f : Nat → Nat} (hP : P ≤ 8) : rdM P G f 248 = none := by unfold rdM; rw [if_neg (by omega), if_neg (by omega), if_neg (by omega), if_neg (by omega), if_neg (by omega), if_neg (by omega), if_neg (by omega), if_neg (by omega), if_neg (by omega)]
