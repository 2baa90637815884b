/-! ===== the invariant holds of the first memory ===== -/
theorem inv0_mx : ∀ a, a < 9 → ∀ b, b < 9 → fd_M0.1 185 (9 * a + b) = nI (if a = b then 0 else 1000000) := by
  have : ∀ a, a < 9 → ∀ b, b < 9 → zm 81 (9 * a + b) = nI (if a = b then 0 else 1000000) := by decide +kernel
  intro a ha b hb
  rw [← this a ha b hb]
  rfl
theorem Inv_first : Inv 0 fd_M0 := by
  refine ⟨0, 0, 0, fun _ _ => 0, fun _ _ => 0, fun _ => 0, fun _ => 0, fun _ => 0, fun _ => 0, fun _ => 0, fun _ _ => 0, ?_, ?_, ?_, ?_, ?_, ?_, ?_, ?_, ?_, ?_⟩
  · exact ⟨0, by omega, rfl, rfl, fun i hi => absurd hi (Nat.not_lt_zero i)⟩
  · exact ⟨0, by omega, rfl, rfl, fun i hi => absurd hi (Nat.not_lt_zero i)⟩
  · refine ⟨by omega, rfl, rfl, fun i hi => absurd hi (Nat.not_lt_zero i), ⟨0, fun _ => 0, fun _ => 0, fun _ => 0, by omega, rfl, rfl, fun i hi => absurd hi (Nat.not_lt_zero i), fun a b ha hb => ?_⟩, ⟨fun a b ha => absurd ha (Nat.not_lt_zero a), fun a ha => absurd ha (Nat.not_lt_zero a), fun a b ha => absurd ha (Nat.not_lt_zero a), fun a b c ha => absurd ha (Nat.not_lt_zero a), fun a b ha => absurd ha (Nat.not_lt_zero a)⟩, fun a b ha => absurd ha (Nat.not_lt_zero a)⟩
    exact inv0_mx a ha b hb
  · exact ⟨by omega, rfl, rfl, fun i hi => absurd hi (Nat.not_lt_zero i)⟩
  · exact ⟨20, 0, 99, 0, by omega, by omega, by omega, by omega, by omega, rfl, rfl, rfl, rfl, rfl, rfl, rfl, rfl⟩
  · exact ⟨[], 0, by decide, by omega, rfl, rfl, ⟨fun _ => rfl, fun _ => rfl⟩, fun i hi => absurd hi (Nat.not_lt_zero i), fun i hi => absurd hi (Nat.not_lt_zero i), Or.inl rfl, fun _ => 0, fun _ => (by decide : ¬ (0 : Int32) = 256), fun i hi => absurd hi (Nat.not_lt_zero i), fun h => absurd h (by omega)⟩
  · refine ⟨sto.mk 0 0 4 0 0 0 0 (fun _ => 0) (fun _ => 0), ⟨Nat.le_refl 0, Or.inr rfl, Nat.le_refl 4, by decide, Nat.le_refl 0, fun i hi => absurd hi (Nat.not_lt_zero i)⟩, ⟨rfl, rfl, rfl, rfl, rfl, rfl, rfl, fun i hi => absurd hi (Nat.not_lt_zero i)⟩, ⟨rfl, rfl, rfl, rfl, rfl, rfl, rfl, fun i hi => absurd hi (Nat.not_lt_zero i)⟩⟩
  · exact ⟨0, 0, by omega, by omega, rfl, rfl, rfl, fun i hi => absurd hi (Nat.not_lt_zero i)⟩
  · refine ⟨0, by omega, rfl, fun i hi => ⟨Or.inl rfl, ⟨0, Nat.le_refl 0, rfl⟩, ?_, fun h => ?_⟩⟩
    · rw [if_neg (fun z => absurd (show (0 : Int32) = 1 from z.1) (by decide))]
      rfl
    · exact absurd (show (0 : Int32) = 1 from h) (by decide)
  · exact ⟨by omega, rfl, rfl, fun i hi => absurd hi (Nat.not_lt_zero i)⟩
