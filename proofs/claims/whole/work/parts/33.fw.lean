/-! ===== shortest ways, as numbers ===== -/
def fw (R : Nat → Nat → Nat) : Nat → Nat → Nat → Nat
  | 0, a, b => R a b
  | k + 1, a, b => min (fw R k a b) (fw R k a k + fw R k k b)
theorem fw_le (R : Nat → Nat → Nat) (a b : Nat) : ∀ k, fw R k a b ≤ R a b
  | 0 => Nat.le_refl _
  | k + 1 => Nat.le_trans (Nat.min_le_left _ _) (fw_le R a b k)
theorem fw_diag {R : Nat → Nat → Nat} {a : Nat} (h : R a a = 0) (k : Nat) : fw R k a a = 0 := by
  have := fw_le R a a k
  omega
theorem fw_row {R : Nat → Nat → Nat} {k : Nat} (h : R k k = 0) (a : Nat) : fw R (k + 1) a k = fw R k a k := by
  rw [fw, fw_diag h]
  omega
theorem fw_col {R : Nat → Nat → Nat} {k : Nat} (h : R k k = 0) (b : Nat) : fw R (k + 1) k b = fw R k k b := by
  rw [fw, fw_diag h]
  omega
theorem fw_sym {R : Nat → Nat → Nat} (v : Nat) (h : ∀ a b, a < v → b < v → R a b = R b a) : ∀ k, k ≤ v → ∀ a b, a < v → b < v → fw R k a b = fw R k b a
  | 0, _, a, b, ha, hb => h a b ha hb
  | k + 1, hk, a, b, ha, hb => by
    rw [fw, fw, fw_sym v h k (by omega) a b ha hb, fw_sym v h k (by omega) a k ha (by omega), fw_sym v h k (by omega) k b (by omega) hb]
    omega
theorem fw_pos {R : Nat → Nat → Nat} (v : Nat) (h : ∀ a b, a < v → b < v → a ≠ b → 1 ≤ R a b) : ∀ k, k ≤ v → ∀ a b, a < v → b < v → a ≠ b → 1 ≤ fw R k a b
  | 0, _, a, b, ha, hb, hn => h a b ha hb hn
  | k + 1, hk, a, b, ha, hb, hn => by
    rw [fw]
    have h1 := fw_pos v h k (by omega) a b ha hb hn
    by_cases hak : a = k
    · have h2 := fw_pos v h k (by omega) k b (by omega) hb (by omega)
      omega
    · have h2 := fw_pos v h k (by omega) a k ha (by omega) hak
      omega
theorem fw_tri {R : Nat → Nat → Nat} (v : Nat) (h : ∀ a, a < v → R a a = 0) : ∀ k, k ≤ v → ∀ a b i, i < k → fw R k a b ≤ fw R k a i + fw R k i b
  | 0, _, a, b, i, hi => absurd hi (Nat.not_lt_zero i)
  | k + 1, hk, a, b, i, hi => by
    have hkk := fw_diag (h k (by omega)) k
    by_cases hik : i = k
    · subst hik
      rw [fw_row (h i (by omega)), fw_col (h i (by omega))]
      exact Nat.min_le_right _ _
    · have t1 := fw_tri v h k (by omega) a b i (by omega)
      have t2 := fw_tri v h k (by omega) a k i (by omega)
      have t3 := fw_tri v h k (by omega) k b i (by omega)
      have t4 := fw_tri v h k (by omega) k k i (by omega)
      rw [fw, fw, fw]
      omega
theorem fw_wit {R : Nat → Nat → Nat} (v : Nat) (h : ∀ a, a < v → R a a = 0) : ∀ k, k ≤ v → ∀ a b, a < v → b < v → a ≠ b → fw R k a b < 1000000 → ∃ x, x < v ∧ x ≠ a ∧ R a x < 1000000 ∧ R a x + fw R v x b ≤ fw R k a b
  | 0, _, a, b, ha, hb, hn, hl => ⟨b, hb, fun e => hn e.symm, hl, by rw [fw_diag (h b hb)]; exact Nat.le_refl _⟩
  | k + 1, hk, a, b, ha, hb, hn, hl => by
    rw [fw] at hl ⊢
    by_cases hm : fw R k a b ≤ fw R k a k + fw R k k b
    · obtain ⟨x, x1, x2, x3, x4⟩ := fw_wit v h k (by omega) a b ha hb hn (by omega)
      exact ⟨x, x1, x2, x3, by omega⟩
    · by_cases hak : a = k
      · subst hak
        rw [fw_diag (h a ha)] at hm
        omega
      · obtain ⟨x, x1, x2, x3, x4⟩ := fw_wit v h k (by omega) a k ha (by omega) hak (by omega)
        have t := fw_tri v h v (Nat.le_refl v) x b k (by omega)
        have l : fw R v k b ≤ fw R k k b := fw_dn k b k v (by omega)
        exact ⟨x, x1, x2, x3, by omega⟩
where fw_dn {R : Nat → Nat → Nat} (a b k : Nat) : ∀ n, k ≤ n → fw R n a b ≤ fw R k a b
  | 0, hn => by rw [show k = 0 by omega]; exact Nat.le_refl _
  | n + 1, hn => by
    by_cases e : k = n + 1
    · rw [e]; exact Nat.le_refl _
    · exact Nat.le_trans (Nat.min_le_left _ _) (fw_dn a b k n (by omega))
theorem fw_met {v : Nat} {R : Nat → Nat → Nat} (h1 : ∀ a b, a < v → b < v → R a b ≤ 1000000 ∧ R a b = R b a) (h2 : ∀ a, a < v → R a a = 0) (h3 : ∀ a b, a < v → b < v → a ≠ b → 1 ≤ R a b) : iv_met v R (fw R v) := by
  refine ⟨fun a b ha hb => ⟨(h1 a b ha hb).1, Nat.le_trans (fw_le R a b v) (h1 a b ha hb).1, (h1 a b ha hb).2, fw_sym v (fun a b ha hb => (h1 a b ha hb).2) v (Nat.le_refl v) a b ha hb⟩, fun a ha => ⟨h2 a ha, fw_diag (h2 a ha) v⟩, fun a b ha hb hn => ⟨h3 a b ha hb hn, fw_pos v h3 v (Nat.le_refl v) a b ha hb hn, fw_le R a b v⟩, fun a b c ha hb hc => fw_tri v h2 v (Nat.le_refl v) a b c hc, fun a b ha hb hn hl => ?_⟩
  obtain ⟨x, x1, x2, x3, x4⟩ := fw_wit v h2 v (Nat.le_refl v) a b ha hb hn hl
  refine ⟨x, x1, x2, x3, ?_⟩
  have t := fw_tri v h2 v (Nat.le_refl v) a b x x1
  have l := fw_le R a x v
  omega
/-- villages that are not told yet lie apart: they change nothing -/
theorem fw_far {R : Nat → Nat → Nat} {v n : Nat} (h : ∀ a b, a < v → v ≤ b → b < n → 1000000 ≤ R a b) : ∀ k, k ≤ n → ∀ a b, a < v → v ≤ b → b < n → 1000000 ≤ fw R k a b
  | 0, _, a, b, ha, hb, hn => h a b ha hb hn
  | k + 1, hk, a, b, ha, hb, hn => by
    rw [fw]
    have h1 := fw_far h k (by omega) a b ha hb hn
    by_cases hkv : k < v
    · have h2 := fw_far h k (by omega) k b hkv hb hn
      omega
    · have h2 := fw_far h k (by omega) a k ha (by omega) (by omega)
      omega
theorem fw_apart {R : Nat → Nat → Nat} {v n : Nat} (h : ∀ a b, a < v → v ≤ b → b < n → 1000000 ≤ R a b) (h2 : ∀ a b, a < v → b < v → R a b ≤ 1000000) (hv : v ≤ n) {a b : Nat} (ha : a < v) (hb : b < v) : ∀ k, v ≤ k → k ≤ n → fw R k a b = fw R v a b
  | 0, h1, _ => by rw [show v = 0 by omega]
  | k + 1, h1, hk => by
    by_cases e : v = k + 1
    · rw [e]
    · rw [← fw_apart h h2 hv ha hb k (by omega) (by omega), fw]
      have t1 := fw_far h k (by omega) a k ha (by omega) (by omega)
      have t2 := fw_le R a b k
      have t3 := h2 a b ha hb
      omega
theorem fw_cong {R S : Nat → Nat → Nat} {v : Nat} (h : ∀ a b, a < v → b < v → R a b = S a b) : ∀ k, k ≤ v → ∀ a b, a < v → b < v → fw R k a b = fw S k a b
  | 0, _, a, b, ha, hb => h a b ha hb
  | k + 1, hk, a, b, ha, hb => by
    rw [fw, fw, fw_cong h k (by omega) a b ha hb, fw_cong h k (by omega) a k ha (by omega), fw_cong h k (by omega) k b (by omega) hb]
/-! the roads told -/
theorem iv_rd_props {v r : Nat} {o t x : Nat → Nat} (h : ∀ k, k < r → o k < v ∧ t k < v ∧ o k ≠ t k ∧ 1 ≤ x k ∧ x k ≤ 99) : ∀ k, k ≤ r → (∀ a b, iv_rd o t x k a b ≤ 1000000 ∧ iv_rd o t x k a b = iv_rd o t x k b a) ∧ (∀ a, iv_rd o t x k a a = 0) ∧ (∀ a b, a ≠ b → 1 ≤ iv_rd o t x k a b) ∧ (∀ a b, a ≠ b → (v ≤ a ∨ v ≤ b) → iv_rd o t x k a b = 1000000)
  | 0, _ => ⟨fun a b => by
      unfold iv_rd
      by_cases e : a = b
      · subst e; simp
      · rw [if_neg e, if_neg (fun q => e q.symm)]; omega, fun a => by unfold iv_rd; rw [if_pos rfl], fun a b e => by unfold iv_rd; rw [if_neg e]; omega, fun a b e _ => by unfold iv_rd; rw [if_neg e]⟩
  | k + 1, hk => by
    obtain ⟨i1, i2, i3, i4⟩ := iv_rd_props h k (by omega)
    obtain ⟨h1, h2, h3, h4, h5⟩ := h k (by omega)
    have ij := i1 (o k) (t k)
    refine ⟨fun a b => ?_, fun a => ?_, fun a b e => ?_, fun a b e hab => ?_⟩
    · unfold iv_rd
      by_cases c : (a = o k ∧ b = t k) ∨ (a = t k ∧ b = o k)
      · rw [if_pos c, if_pos (by omega)]
        omega
      · rw [if_neg c, if_neg (by omega)]
        exact i1 a b
    · unfold iv_rd
      rw [if_neg (by omega)]
      exact i2 a
    · unfold iv_rd
      by_cases c : (a = o k ∧ b = t k) ∨ (a = t k ∧ b = o k)
      · rw [if_pos c]
        have := i3 (o k) (t k) h3
        omega
      · rw [if_neg c]
        exact i3 a b e
    · unfold iv_rd
      rw [if_neg (by omega)]
      exact i4 a b e hab
