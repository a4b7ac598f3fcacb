/-! at the law's entry: the text's constants -/
theorem en_E {b : Nat} {s : State} (hts : ∀ w ∈ lw_tbl, w.before #[Value.ref b] s = true) (hgv : (Jvm.Cond.and given_1 narrow_1).before #[Value.ref b] s = true) : ∃ z : EVt, EW (fun q => s.heap.size ≤ q) s s.heap z := by
  have hs := flat_of_before _ hgv
  have hA : ∀ a : Nat, a < s.heap.size → ¬ (fun q => s.heap.size ≤ q) a := fun a h => Nat.not_le.mpr h
  obtain ⟨adK, adV, hS, hev⟩ := vk_Sof (args := #[Value.ref b]) (s := s) (N := 1) (tm := fun _ => Term.string "EdgeEchoes$Text" 66) (len := [4]) (byt := [[100, 112, 101, 103]]) (A := fun q => s.heap.size ≤ q)
    (by decide) (fun i hi => hs _ (by decide +kernel)) (fun i hi => hs _ (by decide +kernel)) (fun i hi => hs _ (by decide +kernel))
    (fun i hi => hs _ (by obtain rfl : i = 0 := by omega
                          decide +kernel))
    (fun i hi j hj => by
      obtain rfl : i = 0 := by omega
      have h4 : j < 4 := hj
      have hm : ∀ j : Nat, j < 4 → (Cond.eq (.elem (.field (Term.string "EdgeEchoes$Text" 66) "java/lang/String" "value" "[B") (.int (Int32.ofNat j))) (.int (([[100, 112, 101, 103]] : List (List Int32)).getD 0 [] |>.getD j 0))) ∈ flatC (Jvm.Cond.and given_1 narrow_1) := by decide +kernel
      exact hs _ (hm j h4))
    (fun i j hi hj hij => absurd (by omega) hij) hA
  obtain ⟨t1, e1, T1⟩ := va_Tof (args := #[Value.ref b]) (s := s) (tm := Term.static "EdgeEchoes$Text" "NUMBERS" "[I") (ty := .int) (N := 4) (f := fun j => .int (evN j)) (A := fun q => s.heap.size ≤ q) (by decide) (hs _ (by decide +kernel)) (va_eqt (hs _ (by decide +kernel)))
    (fun j hj => va_eqt (hs _ ((by decide +kernel : ∀ j : Nat, j < 4 → (Cond.eq (.elem (Term.static "EdgeEchoes$Text" "NUMBERS" "[I") (.int (Int32.ofNat j))) (.int (evN j))) ∈ flatC (Jvm.Cond.and given_1 narrow_1)) j hj))) hA
  obtain ⟨t2, e2, T2⟩ := va_Tof (args := #[Value.ref b]) (s := s) (tm := Term.static "EdgeEchoes$Text" "LEAST" "[I") (ty := .int) (N := 12) (f := fun j => .int (evL j)) (A := fun q => s.heap.size ≤ q) (by decide) (hs _ (by decide +kernel)) (va_eqt (hs _ (by decide +kernel)))
    (fun j hj => va_eqt (hs _ ((by decide +kernel : ∀ j : Nat, j < 12 → (Cond.eq (.elem (Term.static "EdgeEchoes$Text" "LEAST" "[I") (.int (Int32.ofNat j))) (.int (evL j))) ∈ flatC (Jvm.Cond.and given_1 narrow_1)) j hj))) hA
  obtain ⟨t3, e3, T3⟩ := va_Tof (args := #[Value.ref b]) (s := s) (tm := Term.static "EdgeEchoes$Text" "GREATEST" "[I") (ty := .int) (N := 12) (f := fun j => .int (evG j)) (A := fun q => s.heap.size ≤ q) (by decide) (hs _ (by decide +kernel)) (va_eqt (hs _ (by decide +kernel)))
    (fun j hj => va_eqt (hs _ ((by decide +kernel : ∀ j : Nat, j < 12 → (Cond.eq (.elem (Term.static "EdgeEchoes$Text" "GREATEST" "[I") (.int (Int32.ofNat j))) (.int (evG j))) ∈ flatC (Jvm.Cond.and given_1 narrow_1)) j hj))) hA
  have hl : ∀ w ∈ tables_1, w.before #[Value.ref b] s = true := fun w hw => hts w (List.mem_append_right _ hw)
  refine ⟨(adK 0, adV 0, t1, t2, t3), (hS.1 0 (by decide)).1, (hS.1 0 (by decide)).2.1, (hS.1 0 (by decide)).2.2.1, (hS.1 0 (by decide)).2.2.2, vk_R.of (hl _ (by decide +kernel)) (hev 0 (by decide)), ?_, ?_, T1, ?_, T2, ?_, T3⟩
  · exact va_Zof (hl _ (by decide +kernel)) (hl _ (by decide +kernel)) (va_eqt (hs _ (by decide +kernel))) hA
  · exact va_Zof (hl _ (by decide +kernel)) (hl _ (by decide +kernel)) e1 hA
  · exact va_Zof (hl _ (by decide +kernel)) (hl _ (by decide +kernel)) e2 hA
  · exact va_Zof (hl _ (by decide +kernel)) (hl _ (by decide +kernel)) e3 hA
theorem EV.narrow {A B : Nat → Prop} {U : State} {H : Heap} {z : EVt} (h : EW A U H z) (hAB : ∀ q, B q → A q) : EW B U H z := by
  obtain ⟨a1, a2, a3, a4, a5, a6, a7, a8, a9, a10, a11, a12⟩ := h
  exact ⟨a1.narrow hAB, a2.narrow hAB, a3.narrow hAB, a4.narrow hAB, a5, a6.narrow hAB, a7.narrow hAB, a8.narrow hAB, a9.narrow hAB, a10.narrow hAB, a11.narrow hAB, a12.narrow hAB⟩
/-- what was there at the entry: the text's constants, for a call over the types τ -/
theorem EV.law {D : va_G} {cy : Nat → ClassId} {τ : ty_T} {ρ : ty_R} {s : State} {H : Heap} {locs : List Loc} {z : EVt} (h : EW (fun q => s.heap.size ≤ q) s s.heap z) (hG : TG D cy τ ρ (fun q => s.heap.size ≤ q) s.heap H locs) : EW (ty_d τ) s H z := EV.narrow (EV.kept h (fun a h1 h2 => hG.2.1.2.1 a h1 h2)) (fun q hq => hG.2.2 q hq)
