/-! ===== the lines of hills, one after another ===== -/
def hst : Type := Nat × Nat × Nat × (Nat → Nat) × (Nat → Nat) × (Nat → Nat) × (Nat → Nat)
def hst.mk (p v r : Nat) (F O T X : Nat → Nat) : hst := (p, v, r, F, O, T, X)
def hst.p (s : hst) : Nat := s.1
def hst.v (s : hst) : Nat := s.2.1
def hst.r (s : hst) : Nat := s.2.2.1
def hst.F (s : hst) : Nat → Nat := s.2.2.2.1
def hst.O (s : hst) : Nat → Nat := s.2.2.2.2.1
def hst.T (s : hst) : Nat → Nat := s.2.2.2.2.2.1
def hst.X (s : hst) : Nat → Nat := s.2.2.2.2.2.2
def h_up (f : Nat → Nat) (i x : Nat) : Nat → Nat := fun j => if j = i then x else f j
theorem h_up1 (f : Nat → Nat) (i x : Nat) : h_up f i x i = x := by unfold h_up; rw [if_pos rfl]
theorem h_up2 (f : Nat → Nat) {i j : Nat} (x : Nat) (h : j ≠ i) : h_up f i x j = f j := by unfold h_up; rw [if_neg h]
def h_nx (ch : Nat → Int32) (l : Nat) (s : hst) : hst := if ch s.p = 118 then hst.mk (s.p + 1 + 1 + 1) (s.v + 1) s.r (h_up s.F s.v (dv ch (s.p + 1))) s.O s.T s.X else hst.mk (ne ch l (s.p + 3) + 1) s.v (s.r + 1) s.F (h_up s.O s.r (lv ch (s.p + 1))) (h_up s.T s.r (lv ch (s.p + 2))) (h_up s.X s.r (nu ch l (s.p + 3)))
def h_s (ch : Nat → Int32) (l : Nat) : Nat → hst
  | 0 => hst.mk 0 0 0 (fun _ => 0) (fun _ => 0) (fun _ => 0) (fun _ => 0)
  | k + 1 => h_nx ch l (h_s ch l k)
def h_ok (ch : Nat → Int32) (l v0 r0 : Nat) (s : hst) : Prop := hV ch l (v0 + s.v) s.p ∨ hR ch l (v0 + s.v) (r0 + s.r) s.p
/-- where the k-th line ends -/
def h_e (ch : Nat → Int32) (l k : Nat) : Nat := (h_s ch l (k + 1)).p - 1
def h_g (ch : Nat → Int32) (l v0 r0 k : Nat) : Prop := h_ok ch l v0 r0 (h_s ch l k) ∧ tsg ch l (h_e ch l k) 59
def h_inv (v0 r0 : Nat) (s : hst) : Prop := v0 + s.v ≤ 9 ∧ r0 + s.r ≤ 24 ∧ ∀ j, j < s.r → s.O j < v0 + s.v ∧ s.T j < v0 + s.v ∧ s.O j ≠ s.T j ∧ 1 ≤ s.X j ∧ s.X j ≤ 99
def h_bad (ch : Nat → Int32) (l v0 r0 t n z : Nat) : Prop := h_no ch l (v0 + (h_s ch l n).v) (r0 + (h_s ch l n).r) (h_s ch l n).p z ∨ (h_ok ch l v0 r0 (h_s ch l n) ∧ ¬ tsg ch l (h_e ch l n) 59 ∧ h_e ch l n ≠ t ∧ z = h_e ch l n)
def h_good (ch : Nat → Int32) (l v0 r0 t n : Nat) : Prop := h_ok ch l v0 r0 (h_s ch l n) ∧ ¬ tsg ch l (h_e ch l n) 59 ∧ h_e ch l n = t
section HS
variable {ch : Nat → Int32} {l v0 r0 t n : Nat}
theorem h_nV {s : hst} {vt : Nat} (c : hV ch l vt s.p) : h_nx ch l s = hst.mk (s.p + 1 + 1 + 1) (s.v + 1) s.r (h_up s.F s.v (dv ch (s.p + 1))) s.O s.T s.X := by
  unfold h_nx
  rw [if_pos c.2.1.2]
theorem h_nR {s : hst} {vt rt : Nat} (c : hR ch l vt rt s.p) : h_nx ch l s = hst.mk (ne ch l (s.p + 3) + 1) s.v (s.r + 1) s.F (h_up s.O s.r (lv ch (s.p + 1))) (h_up s.T s.r (lv ch (s.p + 2))) (h_up s.X s.r (nu ch l (s.p + 3))) := by
  unfold h_nx
  rw [if_neg (by rw [c.2.1.2]; decide)]
theorem h_stp (hch : ∀ i, i < l → ∃ c, c < 256 ∧ ch i = nI c) {s : hst} (i : h_inv v0 r0 s) (ok : h_ok ch l v0 r0 s) : h_inv v0 r0 (h_nx ch l s) ∧ s.p + 2 < (h_nx ch l s).p ∧ (h_nx ch l s).p ≤ l + 1 ∧ (h_nx ch l s).v + (h_nx ch l s).r = s.v + s.r + 1 := by
  obtain ⟨i1, i2, i3⟩ := i
  rcases ok with c | c
  · rw [h_nV c]
    refine ⟨⟨?_, i2, fun j hj => ?_⟩, ?_, ?_, ?_⟩
    · have := c.1; show v0 + (s.v + 1) ≤ 9; omega
    · obtain ⟨a, b, q, d, e⟩ := i3 j hj
      exact ⟨by show s.O j < v0 + (s.v + 1); omega, by show s.T j < v0 + (s.v + 1); omega, q, d, e⟩
    · show s.p + 2 < s.p + 1 + 1 + 1; omega
    · have := c.2.2.1; show s.p + 1 + 1 + 1 ≤ l + 1; omega
    · show s.v + 1 + s.r = s.v + s.r + 1; omega
  · rw [h_nR c]
    obtain ⟨c1, c2, c3, c4, c5, c6⟩ := c
    have en := ne_f c5
    have q1 := lv_f (by omega) c3
    have q2 := lv_f (by omega) c4
    have q3 := (nu_f hch (s.p + 3)).2
    refine ⟨⟨i1, ?_, fun j hj => ?_⟩, ?_, ?_, ?_⟩
    · show r0 + (s.r + 1) ≤ 24; omega
    · show h_up s.O s.r _ j < v0 + s.v ∧ h_up s.T s.r _ j < v0 + s.v ∧ h_up s.O s.r _ j ≠ h_up s.T s.r _ j ∧ 1 ≤ h_up s.X s.r _ j ∧ h_up s.X s.r _ j ≤ 99
      by_cases e : j = s.r
      · rw [e, h_up1, h_up1, h_up1]
        exact ⟨q1.2.1, q2.2.1, fun z => q2.2.2 (by rw [z]), c6, q3⟩
      · rw [h_up2 _ _ e, h_up2 _ _ e, h_up2 _ _ e]
        exact i3 j (by
          have : j < s.r + 1 := hj
          omega)
    · show s.p + 2 < ne ch l (s.p + 3) + 1; omega
    · show ne ch l (s.p + 3) + 1 ≤ l + 1; omega
    · show s.v + (s.r + 1) = s.v + s.r + 1; omega
theorem h_pl (hch : ∀ i, i < l → ∃ c, c < 256 ∧ ch i = nI c) (hv : v0 ≤ 9) (hr : r0 ≤ 24) : ∀ k, (∀ i, i < k → h_g ch l v0 r0 i) → h_inv v0 r0 (h_s ch l k) ∧ 3 * k ≤ (h_s ch l k).p ∧ (h_s ch l k).p ≤ l ∧ (h_s ch l k).v + (h_s ch l k).r = k
  | 0, _ => ⟨⟨hv, hr, fun j hj => absurd hj (Nat.not_lt_zero j)⟩, Nat.zero_le _, Nat.zero_le _, rfl⟩
  | k + 1, h => by
    obtain ⟨i1, i2, i3, i4⟩ := h_pl hch hv hr k (fun i hi => h i (by omega))
    obtain ⟨g1, g2⟩ := h k (by omega)
    obtain ⟨j1, j2, j3, j4⟩ := h_stp hch i1 g1
    have g3 : (h_s ch l (k + 1)).p - 1 < l := g2.1
    change h_inv v0 r0 (h_s ch l (k + 1)) at j1
    change (h_s ch l k).p + 2 < (h_s ch l (k + 1)).p at j2
    change (h_s ch l (k + 1)).p ≤ l + 1 at j3
    change (h_s ch l (k + 1)).v + (h_s ch l (k + 1)).r = _ at j4
    exact ⟨j1, by omega, by omega, by omega⟩
theorem h_e_le (hch : ∀ i, i < l → ∃ c, c < 256 ∧ ch i = nI c) {k : Nat} (i1 : h_inv v0 r0 (h_s ch l k)) (ok : h_ok ch l v0 r0 (h_s ch l k)) : (h_s ch l k).p + 1 < h_e ch l k ∧ h_e ch l k ≤ l ∧ (h_s ch l (k + 1)).p = h_e ch l k + 1 := by
  obtain ⟨j1, j2, j3, j4⟩ := h_stp hch i1 ok
  change (h_s ch l k).p + 2 < (h_s ch l (k + 1)).p at j2
  change (h_s ch l (k + 1)).p ≤ l + 1 at j3
  unfold h_e
  omega
theorem h_ex (hch : ∀ i, i < l → ∃ c, c < 256 ∧ ch i = nI c) (hv : v0 ≤ 9) (hr : r0 ≤ 24) (hl : l ≤ 76) : ∃ n, n ≤ 25 ∧ (∀ i, i < n → h_g ch l v0 r0 i) ∧ ((∃ z, h_bad ch l v0 r0 t n z) ∨ h_good ch l v0 r0 t n) := by
  obtain ⟨n, h1, h2, h3⟩ := lead (h_g ch l v0 r0) 30
  have := h_pl hch hv hr n h2
  have h3 := h3 (by omega)
  refine ⟨n, by omega, h2, ?_⟩
  have key : h_ok ch l v0 r0 (h_s ch l n) ∨ ∃ z, h_no ch l (v0 + (h_s ch l n).v) (r0 + (h_s ch l n).r) (h_s ch l n).p z := by
    rcases h_tot (ch := ch) (l := l) (vt := v0 + (h_s ch l n).v) (rt := r0 + (h_s ch l n).r) (h_s ch l n).p with c | c | c
    · exact Or.inl (Or.inl c)
    · exact Or.inl (Or.inr c)
    · exact Or.inr c
  rcases key with ok | ⟨z, no⟩
  · have ns : ¬ tsg ch l (h_e ch l n) 59 := fun q => h3 ⟨ok, q⟩
    by_cases et : h_e ch l n = t
    · exact Or.inr ⟨ok, ns, et⟩
    · exact Or.inl ⟨_, Or.inr ⟨ok, ns, et, rfl⟩⟩
  · exact Or.inl ⟨z, Or.inl no⟩
theorem h_bad_le (hch : ∀ i, i < l → ∃ c, c < 256 ∧ ch i = nI c) (hv : v0 ≤ 9) (hr : r0 ≤ 24) {z : Nat} (hn : ∀ i, i < n → h_g ch l v0 r0 i) (h : h_bad ch l v0 r0 t n z) : z ≤ l := by
  have i := h_pl hch hv hr n hn
  rcases h with h | ⟨h, -, -, rfl⟩
  · exact h_no_le i.2.2.1 h
  · exact (h_e_le hch i.1 h).2.1
variable {M : fd_M}
/-! the class -/
def hx (v0 r0 : Nat) (s : hst) (M : fd_M) : Prop := M.1 5 8 = nI (v0 + s.v) ∧ M.1 5 9 = nI (r0 + s.r) ∧ (∀ j, j < s.v → M.1 6 (v0 + j) = nI (s.F j)) ∧ ∀ j, j < s.r → M.1 7 (r0 + j) = nI (s.O j) ∧ M.1 8 (r0 + j) = nI (s.T j) ∧ M.1 9 (r0 + j) = nI (s.X j)
def hx_P (v0 r0 a j : Nat) : Prop := (a = 1 ∧ j = 2) ∨ (a = 5 ∧ (j = 8 ∨ j = 9)) ∨ (a = 6 ∧ v0 ≤ j) ∨ ((7 ≤ a ∧ a ≤ 9) ∧ r0 ≤ j)
theorem hx_line (h : cp t l ch M) {k : Nat} (hp : M.1 1 2 = nI (h_s ch l k).p) (x : hx v0 r0 (h_s ch l k) M) (i1 : h_inv v0 r0 (h_s ch l k)) (ok : h_ok ch l v0 r0 (h_s ch l k)) : fd_run m_X3_readLine [.ref 5, .ref 1] M (fun v M2 => v = .int 1 ∧ fP (hx_P v0 r0) M M2 ∧ M2.1 1 2 = nI (h_e ch l k) ∧ hx v0 r0 (h_s ch l (k + 1)) M2) := by
  obtain ⟨x1, x2, x3, x4⟩ := x
  have ee := (h_e_le h.chs i1 ok).2.2
  have en : h_s ch l (k + 1) = h_nx ch l (h_s ch l k) := rfl
  generalize hs : h_s ch l k = s at *
  rcases ok with c | c
  · rw [h_nV c] at en
    rw [en] at ee ⊢
    have ee : s.p + 1 + 1 + 1 = h_e ch l k + 1 := ee
    refine ⟨_, _, s_X3_readLine_v h hp x1 c, rfl, ?_, ?_, ?_, ?_, ?_, ?_⟩
    · exact fP.uI (fP.uI (fP.uI fP.rf (by unfold hx_P; omega)) (by unfold hx_P; omega)) (by unfold hx_P; omega)
    · simp [rd_I]
      rw [show h_e ch l k = s.p + 1 + 1 by omega]
    · simp [rd_I]; rfl
    · simp [rd_I]; exact x2
    · intro j hj
      show _ = nI (h_up s.F s.v _ j)
      by_cases e : j = s.v
      · rw [e, h_up1]; simp [rd_I]
      · rw [h_up2 _ _ e]
        simp [rd_I, e]
        exact x3 j (by
          have : j < s.v + 1 := hj
          omega)
    · intro j hj
      simp [rd_I]
      exact x4 j hj
  · rw [h_nR c] at en
    rw [en] at ee ⊢
    have ee : ne ch l (s.p + 3) + 1 = h_e ch l k + 1 := ee
    refine ⟨_, _, s_X3_readLine_r h hp x1 x2 i1.1 c, rfl, ?_, ?_, ?_, ?_, ?_, ?_⟩
    · exact fP.uI (fP.uI (fP.uI (fP.uI (fP.uI fP.rf (by unfold hx_P; omega)) (by unfold hx_P; omega)) (by unfold hx_P; omega)) (by unfold hx_P; omega)) (by unfold hx_P; omega)
    · simp [rd_I]
      rw [show h_e ch l k = ne ch l (s.p + 3) by omega]
    · simp [rd_I]; exact x1
    · simp [rd_I]; rfl
    · intro j hj
      simp [rd_I]
      exact x3 j hj
    · intro j hj
      show _ = nI (h_up s.O s.r _ j) ∧ _ = nI (h_up s.T s.r _ j) ∧ _ = nI (h_up s.X s.r _ j)
      by_cases e : j = s.r
      · rw [e, h_up1, h_up1, h_up1]; simp [rd_I]
      · rw [h_up2 _ _ e, h_up2 _ _ e, h_up2 _ _ e]
        simp [rd_I, e]
        exact x4 j (by
          have : j < s.r + 1 := hj
          omega)
/-! the reference -/
def hm (s : hst) (M : fd_M) : Prop := M.1 182 25 = nI s.v ∧ M.1 182 26 = nI s.r ∧ (∀ j, j < s.v → M.1 191 j = nI (s.F j)) ∧ ∀ j, j < s.r → M.1 192 (3 * j) = nI (s.O j) ∧ M.1 192 (3 * j + 1) = nI (s.T j) ∧ M.1 192 (3 * j + 2) = nI (s.X j)
theorem hm_line {len top : Nat} (h : rp 189 len top l ch M) {k : Nat} (hp : M.1 182 21 = nI (h_s ch l k).p) (hw : M.1 182 22 = -1) (hv : M.1 182 1 = nI v0) (hr : M.1 182 3 = nI r0) (x : hm (h_s ch l k) M) (i1 : h_inv v0 r0 (h_s ch l k)) (ok : h_ok ch l v0 r0 (h_s ch l k)) : fd_run m_X12_readLine [.ref 182] M (fun v M2 => v = fd_jk ∧ fP hm_P M M2 ∧ M2.1 182 21 = nI (h_e ch l k) ∧ M2.1 182 22 = -1 ∧ hm (h_s ch l (k + 1)) M2) := by
  obtain ⟨x1, x2, x3, x4⟩ := x
  have ee := (h_e_le (fun i hi => h.dig hi) i1 ok).2.2
  have en : h_s ch l (k + 1) = h_nx ch l (h_s ch l k) := rfl
  generalize hs : h_s ch l k = s at *
  rcases ok with c | c
  · rw [h_nV c] at en
    rw [en] at ee ⊢
    have ee : s.p + 1 + 1 + 1 = h_e ch l k + 1 := ee
    refine ⟨_, _, s_X12_readLine_v h hp hw hv x1 c, rfl, ?_, ?_, ?_, ?_, ?_, ?_, ?_⟩
    · exact fP.uI (fP.uI (fP.uI (fP.uI fP.rf (by unfold hm_P; omega)) (by unfold hm_P; omega)) (by unfold hm_P; omega)) (by unfold hm_P; omega)
    · simp [rd_I]
      rw [show h_e ch l k = s.p + 1 + 1 by omega]
    · simp [rd_I]; exact hw
    · simp [rd_I]; rfl
    · simp [rd_I]; exact x2
    · intro j hj
      show _ = nI (h_up s.F s.v _ j)
      by_cases e : j = s.v
      · rw [e, h_up1]; simp [rd_I]
      · rw [h_up2 _ _ e]
        simp [rd_I, e]
        exact x3 j (by
          have : j < s.v + 1 := hj
          omega)
    · intro j hj
      simp [rd_I]
      exact x4 j hj
  · rw [h_nR c] at en
    rw [en] at ee ⊢
    have ee : ne ch l (s.p + 3) + 1 = h_e ch l k + 1 := ee
    refine s_X12_readLine_r h hp hw hv x1 hr x2 i1.1 c (fun M2 g0 g1 g2 g3 g4 g5 => ⟨rfl, g0.up (fun a j z => by unfold hm_P; omega), ?_, ?_, ?_, g2, ?_, ?_⟩)
    · rw [g1, show h_e ch l k = ne ch l (s.p + 3) by omega]
    · rw [g0.1 _ _ (by omega)]; exact hw
    · rw [g0.1 _ _ (by omega)]; exact x1
    · intro j hj
      rw [g0.1 _ _ (by omega)]
      exact x3 j hj
    · intro j hj
      show _ = nI (h_up s.O s.r _ j) ∧ _ = nI (h_up s.T s.r _ j) ∧ _ = nI (h_up s.X s.r _ j)
      by_cases e : j = s.r
      · rw [e, h_up1, h_up1, h_up1]
        exact ⟨g3, g4, g5⟩
      · rw [h_up2 _ _ e, h_up2 _ _ e, h_up2 _ _ e]
        have hj' : j < s.r + 1 := hj
        rw [g0.1 _ _ (by omega), g0.1 _ _ (by omega), g0.1 _ _ (by omega)]
        exact x4 j (by omega)
end HS
