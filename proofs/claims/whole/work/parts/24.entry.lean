/-! ===== the law's entry: what the tables give ===== -/
theorem en_ty {args : Array Value} {s : State} {ty : FieldType} (h : (Cond.arrayClass ty).before args s = true) : ∃ cA : ClassId, ArrOfT s cA ty ∧ s.vm.findClass ("[" ++ ty.toString) = some cA := by
  obtain ⟨c, k, comp, h1, h2, h3⟩ := Cond.arrayClass_spec h
  exact ⟨c, fun n z => ⟨fun _ h => (by cases h), k, h2, comp, h3⟩, h1⟩
theorem en_tq {args : Array Value} {s : State} {C : String} (h : (Cond.arrayOver (.object C)).before args s = true) : ∃ cA : ClassId, ArrOfT s cA (.object C) ∧ va_RA s cA (.object C) := by
  obtain ⟨comp, c, k, h1, h2, h3, h4, h5⟩ := Cond.arrayOver_spec h
  exact ⟨c, fun n z => ⟨fun _ h => (by cases h), k, h3, comp, h4⟩, k, comp, h3, h4, h1, h5⟩
theorem en_ta {args : Array Value} {s : State} {ty : FieldType} (h : (Cond.arrayOver (.array ty)).before args s = true) : ∃ cA : ClassId, ArrOfT s cA (.array ty) ∧ va_RA s cA (.array ty) := by
  obtain ⟨comp, c, k, h1, h2, h3, h4, h5⟩ := arrayOver_specB h
  exact ⟨c, fun n z => ⟨fun _ h => (by cases h), k, h3, comp, h4⟩, h5⟩
theorem is_X11 : Cond.instantiable RX11 13 ∈ fd_TB := fd_tbi 127 (by decide +kernel) rfl
theorem is_X12 : Cond.instantiable RX12 62 ∈ fd_TB := fd_tbi 1410 (by decide +kernel) rfl
/-- the classes of arrays and of objects, as the tables name them -/
theorem en_K {args : Array Value} {s : State} (hts : ∀ w ∈ fd_TB, w.before args s = true) (ho : (Cond.arrayOver (.object RX10)).before args s = true) (ha : (Cond.arrayOver (.array .int)).before args s = true) : ∃ (ca : Nat → ClassId) (D : va_G), ∀ (b : Nat) (H : Heap) (q1 q2 : Nat), va_K D fd_cl (fd_tys (b, ca, D, H, q1, q2)) s := by
  obtain ⟨a0, i0, n0⟩ := en_ty (hts _ ac_int)
  obtain ⟨a1, i1, n1⟩ := en_ty (hts _ ac_byte)
  obtain ⟨a2, i2, n2⟩ := en_ty (hts _ ac_boolean)
  obtain ⟨a3, i3, n3⟩ := en_ty (hts _ ac_char)
  obtain ⟨a4, i4, n4⟩ := en_ty (hts _ ac_long)
  obtain ⟨a5, i5, n5⟩ := en_ta ha
  obtain ⟨a6, i6, n6⟩ := en_tq ho
  have hk : ∀ c : Nat, ∃ (cC : ClassId) (iS : Nat → Nat), ∀ q : vw_C, fd_cl[c]? = some q → u_Kn s q.1 q.2.1 q.2.2 cC iS := fun c => by
    by_cases hc : ∃ q : vw_C, fd_cl[c]? = some q
    · obtain ⟨q, hq⟩ := hc
      have : ∃ (cC : ClassId) (iS : Nat → Nat), u_Kn s q.1 q.2.1 q.2.2 cC iS := by
        match c, hq with
        | 0, h => cases h; exact u_known hts inX0 (hts _ is_X0)
        | 1, h => cases h; exact u_known hts inX1 (hts _ is_X1)
        | 2, h => cases h; exact u_known hts inX2 (hts _ is_X2)
        | 3, h => cases h; exact u_known hts inX3 (hts _ is_X3)
        | 4, h => cases h; exact u_known hts inX4 (hts _ is_X4)
        | 5, h => cases h; exact u_known hts inX5 (hts _ is_X5)
        | 6, h => cases h; exact u_known hts inX6 (hts _ is_X6)
        | 7, h => cases h; exact u_known hts inX7 (hts _ is_X7)
        | 8, h => cases h; exact u_known hts inX8 (hts _ is_X8)
        | 9, h => cases h; exact u_known hts inX9 (hts _ is_X9)
        | 10, h => cases h; exact u_known hts inX10 (hts _ is_X10)
        | 11, h => cases h; exact u_known hts inX11 (hts _ is_X11)
        | 12, h => cases h; exact u_known hts inX12 (hts _ is_X12)
        | c + 13, h => cases h
      obtain ⟨cC, iS, h⟩ := this
      exact ⟨cC, iS, fun q' hq' => by rw [hq] at hq'; cases hq'; exact h⟩
    · exact ⟨0, fun _ => 0, fun q hq => absurd ⟨q, hq⟩ hc⟩
  refine ⟨fun t => [a0, a1, a2, a3, a4, a5, a6].getD t 0, (fun c => (hk c).choose, fun c => (hk c).choose_spec.choose), fun b H q1 q2 => ⟨fun c q hq => (hk c).choose_spec.choose_spec q hq, fun k q hk9 => ?_⟩⟩
  match k, hk9 with
  | 0, h => cases h; exact ⟨i0, n0⟩
  | 1, h => cases h; exact ⟨i1, n1⟩
  | 2, h => cases h; exact ⟨i2, n2⟩
  | 3, h => cases h; exact ⟨i3, n3⟩
  | 4, h => cases h; exact ⟨i4, n4⟩
  | 5, h => cases h; exact ⟨i5, n5⟩
  | 6, h => cases h; exact ⟨i6, n6⟩
