/-! at the law's entry: the array classes -/
theorem en_cy {args : Array Value} {s : State} (h1 : (Cond.arrayClass .int).before args s = true) (h2 : (Cond.arrayClass .boolean).before args s = true) (h3 : (Cond.arrayOver (.object "EdgeEchoes$Line")).before args s = true) (h4 : (Cond.arrayOver (.object "EdgeEchoes$Image")).before args s = true) : ∃ cy : Nat → ClassId, ∀ (k : Nat) (q : ClassId × FieldType), (ty_ks cy)[k]? = some q → ArrOfT s q.1 q.2 ∧ va_RA s q.1 q.2 := by
  obtain ⟨c1, k1, o1, f1, g1, e1⟩ := Cond.arrayClass_spec h1
  obtain ⟨c2, k2, o2, f2, g2, e2⟩ := Cond.arrayClass_spec h2
  obtain ⟨o3, c3, k3, a3, i3, g3, e3, f3⟩ := Cond.arrayOver_spec h3
  obtain ⟨o4, c4, k4, a4, i4, g4, e4, f4⟩ := Cond.arrayOver_spec h4
  refine ⟨fun n => if n = 0 then c1 else if n = 1 then c2 else if n = 2 then c3 else c4, fun k q hq => ?_⟩
  match k, hq with
  | 0, hq => cases hq; exact ⟨fun n z => ⟨(fun k h => by cases h), k1, g1, o1, e1⟩, f1⟩
  | 1, hq => cases hq; exact ⟨fun n z => ⟨(fun k h => by cases h), k2, g2, o2, e2⟩, f2⟩
  | 2, hq => cases hq; exact ⟨fun n z => ⟨(fun k h => by cases h), k3, g3, o3, e3⟩, k3, o3, g3, e3, a3, f3⟩
  | 3, hq => cases hq; exact ⟨fun n z => ⟨(fun k h => by cases h), k4, g4, o4, e4⟩, k4, o4, g4, e4, a4, f4⟩
  | n + 4, hq => cases hq
