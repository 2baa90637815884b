/-! ===== rounds, as numbers ===== -/
/-- a without b, of the first eight bits -/
def an (a b : Nat) : Nat := bq (fun i => a.testBit i && !b.testBit i) 8
theorem an_tb (a b i : Nat) : (an a b).testBit i = (decide (i < 8) && (a.testBit i && !b.testBit i)) := bq_tb _ _ _
/-- what a set is worth -/
def gn (f : Nat) (w : Nat → Nat) (s : Nat) : Nat := sumq (fun i => s.testBit i) w f
theorem gn_or (w : Nat → Nat) (s b : Nat) : ∀ f, f ≤ 8 → gn f w (s ||| b) = gn f w s + gn f w (an b s)
  | 0, _ => rfl
  | f + 1, hf => by
    have ih := gn_or w s b f (by omega)
    unfold gn at ih ⊢
    rw [sumq, sumq, sumq, ih, Nat.testBit_or, an_tb]
    have : decide (f < 8) = true := decide_eq_true (by omega)
    rw [this]
    cases h1 : s.testBit f <;> cases h2 : b.testBit f <;> simp <;> omega
theorem gn_le {w : Nat → Nat} {m : Nat} {s f : Nat} (h : ∀ i, i < f → w i ≤ m) : gn f w s ≤ m * f := sumq_le h
theorem gn_cong {w w' : Nat → Nat} {s f : Nat} (h : ∀ i, i < f → w i = w' i) : gn f w s = gn f w' s := sumq_cong fun i hi => ⟨rfl, h i hi⟩
def mxq (p : Nat → Bool) (g : Nat → Nat) : Nat → Nat
  | 0 => 0
  | n + 1 => if p n = true then max (mxq p g n) (g n) else mxq p g n
theorem mxq_ge {p : Nat → Bool} {g : Nat → Nat} : ∀ {n k : Nat}, k < n → p k = true → g k ≤ mxq p g n
  | 0, k, h, _ => absurd h (Nat.not_lt_zero k)
  | n + 1, k, h, hp => by
    rw [mxq]
    by_cases e : k = n
    · subst e
      rw [if_pos hp]
      omega
    · have := mxq_ge (p := p) (g := g) (n := n) (k := k) (by omega) hp
      split <;> omega
theorem mxq_0 {p : Nat → Bool} {g : Nat → Nat} : ∀ {n : Nat}, (∀ k, k < n → p k = false) → mxq p g n = 0
  | 0, _ => rfl
  | n + 1, h => by rw [mxq, h n (by omega), mxq_0 (n := n) fun k hk => h k (by omega)]; rfl
theorem mxq_at {p : Nat → Bool} {g : Nat → Nat} : ∀ {n : Nat}, (∃ k, k < n ∧ p k = true) → ∃ k, k < n ∧ p k = true ∧ g k = mxq p g n
  | 0, ⟨k, h, _⟩ => absurd h (Nat.not_lt_zero k)
  | n + 1, ⟨k, h, hk⟩ => by
    rw [mxq]
    by_cases hn : p n = true
    · rw [if_pos hn]
      by_cases c : mxq p g n ≤ g n
      · exact ⟨n, by omega, hn, by omega⟩
      · by_cases ex : ∃ k, k < n ∧ p k = true
        · obtain ⟨j, j1, j2, j3⟩ := mxq_at (g := g) ex
          exact ⟨j, by omega, j2, by omega⟩
        · have z : mxq p g n = 0 := mxq_0 fun j hj => by
            cases h : p j
            · rfl
            · exact absurd ⟨j, hj, h⟩ ex
          exact ⟨n, by omega, hn, by omega⟩
    · rw [if_neg hn]
      have hkn : k ≠ n := fun e => hn (by rw [← e]; exact hk)
      obtain ⟨j, j1, j2, j3⟩ := mxq_at (p := p) (g := g) (n := n) ⟨k, by omega, hk⟩
      exact ⟨j, by omega, j2, j3⟩
theorem mxq_cong {p p' : Nat → Bool} {g g' : Nat → Nat} : ∀ {n : Nat}, (∀ k, k < n → p k = p' k ∧ (p k = true → g k = g' k)) → mxq p g n = mxq p' g' n
  | 0, _ => rfl
  | n + 1, h => by
    rw [mxq, mxq, mxq_cong (n := n) fun k hk => h k (by omega), (h n (by omega)).1]
    by_cases e : p' n = true
    · rw [if_pos e, if_pos e, (h n (by omega)).2 (by rw [(h n (by omega)).1]; exact e)]
    · rw [if_neg e, if_neg e]
/-- where least -/
def lf (P : Nat → Bool) : Nat → Nat
  | 0 => 0
  | n + 1 => if lf P n < n then lf P n else if P n = true then n else n + 1
theorem lf_sp (P : Nat → Bool) : ∀ n, lf P n ≤ n ∧ (∀ i, i < lf P n → P i = false) ∧ (lf P n < n → P (lf P n) = true)
  | 0 => ⟨Nat.le_refl _, fun i hi => absurd hi (Nat.not_lt_zero i), fun h => absurd h (Nat.not_lt_zero _)⟩
  | n + 1 => by
    obtain ⟨h1, h2, h3⟩ := lf_sp P n
    rw [lf]
    by_cases c : lf P n < n
    · rw [if_pos c]
      exact ⟨by omega, h2, fun _ => h3 c⟩
    · rw [if_neg c]
      have e : lf P n = n := by omega
      rw [e] at h2
      by_cases p : P n = true
      · rw [if_pos p]
        exact ⟨by omega, h2, fun _ => p⟩
      · rw [if_neg p]
        refine ⟨Nat.le_refl _, fun i hi => ?_, fun h => absurd h (Nat.lt_irrefl _)⟩
        by_cases ei : i = n
        · rw [ei]; simpa using p
        · exact h2 i (by omega)
theorem lf_eq {P : Nat → Bool} {n k : Nat} (hk : k < n) (hP : P k = true) (hl : ∀ i, i < k → P i = false) : lf P n = k := by
  obtain ⟨h1, h2, h3⟩ := lf_sp P n
  by_cases c : k < lf P n
  · rw [h2 k c] at hP
    exact absurd hP (by decide)
  · by_cases d : lf P n < k
    · have := h3 (by omega)
      rw [hl _ d] at this
      exact absurd this (by decide)
    · omega
theorem lf_lt {P : Nat → Bool} {n : Nat} (h : ∃ k, k < n ∧ P k = true) : lf P n < n := by
  obtain ⟨k, h1, h2⟩ := h
  obtain ⟨h3, h4, h5⟩ := lf_sp P n
  by_cases c : lf P n < n
  · exact c
  · rw [h4 k (by omega)] at h2
    exact absurd h2 (by decide)
theorem lf_cong {P P' : Nat → Bool} : ∀ {n : Nat}, (∀ k, k < n → P k = P' k) → lf P n = lf P' n
  | 0, _ => rfl
  | n + 1, h => by rw [lf, lf, lf_cong (n := n) fun k hk => h k (by omega), h n (by omega)]
/-- the most that can still be had: r nights from night k on, at p, with s played -/
def ms (v : Nat) (nr pl : Nat → Nat → Nat) (G : Nat → Nat) : Nat → Nat → Nat → Nat → Nat
  | 0, _, _, _ => 0
  | r + 1, k, p, s => mxq (fun q => (nr k p).testBit q) (fun q => G (an (pl k q) s) + ms v nr pl G r (k + 1) q (s ||| pl k q)) v
theorem ms_le {v : Nat} {nr pl : Nat → Nat → Nat} {G : Nat → Nat} {m : Nat} (hG : ∀ s, G s ≤ m) : ∀ r k p s, ms v nr pl G r k p s ≤ m * r
  | 0, _, _, _ => Nat.zero_le _
  | r + 1, k, p, s => by
    rw [ms]
    by_cases h : ∃ q, q < v ∧ (nr k p).testBit q = true
    · obtain ⟨q, h1, h2, h3⟩ := mxq_at (g := fun q => G (an (pl k q) s) + ms v nr pl G r (k + 1) q (s ||| pl k q)) h
      rw [← h3]
      have i1 := ms_le (v := v) (nr := nr) (pl := pl) hG r (k + 1) q (s ||| pl k q)
      have i2 := hG (an (pl k q) s)
      rw [Nat.mul_add]
      omega
    · rw [mxq_0 fun q hq => by
        cases e : (nr k p).testBit q
        · rfl
        · exact absurd ⟨q, hq, e⟩ h]
      exact Nat.zero_le _
theorem ms_cong {v : Nat} {nr pl pl' : Nat → Nat → Nat} {G : Nat → Nat} : ∀ r k p s, (∀ j q, k ≤ j → j < k + r → q < v → pl j q = pl' j q) → ms v nr pl G r k p s = ms v nr pl' G r k p s
  | 0, _, _, _, _ => rfl
  | r + 1, k, p, s, h => by
    rw [ms, ms]
    refine mxq_cong fun q hq => ⟨rfl, fun _ => ?_⟩
    rw [h k q (Nat.le_refl k) (by omega) hq, ms_cong r (k + 1) q _ (fun j q h1 h2 h3 => h j q (by omega) (by omega) h3)]
theorem ms_drop {v : Nat} {nr pl : Nat → Nat → Nat} {G G' : Nat → Nat} {B : Nat} (h : ∀ b s, G (an b (s ||| B)) = G' (an b s)) : ∀ r k p s, ms v nr pl G r k p (s ||| B) = ms v nr pl G' r k p s
  | 0, _, _, _ => rfl
  | r + 1, k, p, s => by
    rw [ms, ms]
    refine mxq_cong fun q hq => ⟨rfl, fun _ => ?_⟩
    rw [h, Nat.or_assoc, Nat.or_comm B, ← Nat.or_assoc, ms_drop h r (k + 1) q]
/-- behind k nights he can be at q with s played -/
def Rc (v : Nat) (nr op : Nat → Nat → Nat) (p0 s0 : Nat) : Nat → Nat → Nat → Prop
  | 0, q, s => q = p0 ∧ s = s0
  | k + 1, q, s => q < v ∧ ∃ p t, p < v ∧ Rc v nr op p0 s0 k p t ∧ (nr k p).testBit q = true ∧ t ||| op k q = s
def Gd (v : Nat) (nr op : Nat → Nat → Nat) (p0 s0 : Nat) (E : Nat → Prop) : Nat → Nat → Nat → Nat → Prop
  | 0, k, q, s => Rc v nr op p0 s0 k q s ∧ E s
  | r + 1, k, q, s => Rc v nr op p0 s0 k q s ∧ ∃ q', q' < v ∧ (nr k q).testBit q' = true ∧ Gd v nr op p0 s0 E r (k + 1) q' (s ||| op k q')
section RM
variable {v n f p0 s0 : Nat} {nr op pl : Nat → Nat → Nat} {G V : Nat → Nat} {E : Nat → Prop}
theorem Gd_rc : ∀ {r k q s : Nat}, Gd v nr op p0 s0 E r k q s → Rc v nr op p0 s0 k q s
  | 0, _, _, _, h => h.1
  | _ + 1, _, _, _, h => h.1
theorem Rc_lt (hp : p0 < v) : ∀ {k q s : Nat}, Rc v nr op p0 s0 k q s → q < v
  | 0, q, s, h => by rw [h.1]; exact hp
  | k + 1, q, s, h => h.1
theorem Rc_sub : ∀ {k q s : Nat}, Rc v nr op p0 s0 k q s → ∀ i, s0.testBit i = true → s.testBit i = true
  | 0, q, s, h, i, hi => by rw [h.2]; exact hi
  | k + 1, q, s, ⟨_, p, t, _, h1, _, h2⟩, i, hi => by
    rw [← h2, Nat.testBit_or, Rc_sub h1 i hi]
    rfl
theorem Rc_set (hs : s0 < 2 ^ f) (ho : ∀ k q, k < n → q < v → op k q < 2 ^ f) : ∀ {k q s : Nat}, k ≤ n → Rc v nr op p0 s0 k q s → s < 2 ^ f
  | 0, q, s, _, h => by rw [h.2]; exact hs
  | k + 1, q, s, hk, ⟨hq, p, t, _, h1, _, h2⟩ => by
    rw [← h2]
    exact Nat.or_lt_two_pow (Rc_set hs ho (by omega) h1) (ho k q (by omega) hq)
theorem Rc_op (h : ∀ k q s, q < v → (∀ i, s0.testBit i = true → s.testBit i = true) → s ||| op k q = s ||| pl k q) : ∀ {k q s : Nat}, Rc v nr op p0 s0 k q s ↔ Rc v nr pl p0 s0 k q s
  | 0, q, s => Iff.rfl
  | k + 1, q, s => by
    constructor
    · rintro ⟨hq, p, t, hp, h1, h2, h3⟩
      exact ⟨hq, p, t, hp, (Rc_op h).mp h1, h2, by rw [← h k q t hq (Rc_sub h1)]; exact h3⟩
    · rintro ⟨hq, p, t, hp, h1, h2, h3⟩
      have h1' := (Rc_op h).mpr h1
      exact ⟨hq, p, t, hp, h1', h2, by rw [h k q t hq (Rc_sub h1')]; exact h3⟩
theorem Gd_op (h : ∀ k q s, q < v → (∀ i, s0.testBit i = true → s.testBit i = true) → s ||| op k q = s ||| pl k q) : ∀ {r k q s : Nat}, Gd v nr op p0 s0 E r k q s ↔ Gd v nr pl p0 s0 E r k q s
  | 0, k, q, s => by
    unfold Gd
    rw [Rc_op h]
  | r + 1, k, q, s => by
    unfold Gd
    constructor
    · rintro ⟨h1, q', h2, h3, h4⟩
      exact ⟨(Rc_op h).mp h1, q', h2, h3, by rw [← h k q' s h2 (Rc_sub h1)]; exact (Gd_op h).mp h4⟩
    · rintro ⟨h1, q', h2, h3, h4⟩
      have h1' := (Rc_op h).mpr h1
      exact ⟨h1', q', h2, h3, by rw [h k q' s h2 (Rc_sub h1')]; exact (Gd_op h).mpr h4⟩
theorem Rc_up (hV : ∀ s b, V (s ||| b) = V s + G (an b s)) : ∀ {k q s : Nat}, k ≤ n → Rc v nr pl p0 s0 k q s → V s + ms v nr pl G (n - k) k q s ≤ V s0 + ms v nr pl G n 0 p0 s0
  | 0, q, s, _, h => by
    rw [h.1, h.2]
    exact Nat.le_refl _
  | k + 1, q, s, hk, ⟨hq, p, t, hp, h1, h2, h3⟩ => by
    have ih := Rc_up hV (by omega) h1
    have e : n - k = (n - (k + 1)) + 1 := by omega
    rw [e, ms] at ih
    have g := mxq_ge (p := fun q => (nr k p).testBit q) (g := fun q => G (an (pl k q) t) + ms v nr pl G (n - (k + 1)) (k + 1) q (t ||| pl k q)) hq h2
    rw [← h3, hV]
    omega
theorem Rc_att (hV : ∀ s b, V (s ||| b) = V s + G (an b s)) (hnr : ∀ k p, k < n → p < v → (nr k p).testBit p = true) : ∀ {r k q s : Nat}, k + r = n → q < v → Rc v nr pl p0 s0 k q s → ∃ q' s', q' < v ∧ Rc v nr pl p0 s0 n q' s' ∧ V s' = V s + ms v nr pl G r k q s
  | 0, k, q, s, hk, hq, h => ⟨q, s, hq, by rw [← hk]; exact h, rfl⟩
  | r + 1, k, q, s, hk, hq, h => by
    obtain ⟨q', h1, h2, h3⟩ := mxq_at (p := fun q' => (nr k q).testBit q') (g := fun q' => G (an (pl k q') s) + ms v nr pl G r (k + 1) q' (s ||| pl k q')) (n := v) ⟨q, hq, hnr k q (by omega) hq⟩
    have h' : Rc v nr pl p0 s0 (k + 1) q' (s ||| pl k q') := ⟨h1, q, s, hq, h, h2, rfl⟩
    obtain ⟨a, b, i1, i2, i3⟩ := Rc_att hV hnr (r := r) (by omega) h1 h'
    refine ⟨a, b, i1, i2, ?_⟩
    rw [i3, hV, ms, ← h3]
    omega
theorem Gd_iff (hV : ∀ s b, V (s ||| b) = V s + G (an b s)) (hnr : ∀ k p, k < n → p < v → (nr k p).testBit p = true) (hE : ∀ q s, Rc v nr pl p0 s0 n q s → (E s ↔ V s = V s0 + ms v nr pl G n 0 p0 s0)) : ∀ {r k q s : Nat}, k + r = n → q < v → (Gd v nr pl p0 s0 E r k q s ↔ Rc v nr pl p0 s0 k q s ∧ V s + ms v nr pl G r k q s = V s0 + ms v nr pl G n 0 p0 s0)
  | 0, k, q, s, hk, hq => by
    have hk' : k = n := by omega
    subst hk'
    unfold Gd
    constructor
    · rintro ⟨h1, h2⟩
      exact ⟨h1, (hE q s h1).mp h2⟩
    · rintro ⟨h1, h2⟩
      exact ⟨h1, (hE q s h1).mpr h2⟩
  | r + 1, k, q, s, hk, hq => by
    unfold Gd
    have up : ∀ q', q' < v → Rc v nr pl p0 s0 k q s → (nr k q).testBit q' = true → Rc v nr pl p0 s0 (k + 1) q' (s ||| pl k q') := fun q' h1 h2 h3 => ⟨h1, q, s, hq, h2, h3, rfl⟩
    constructor
    · rintro ⟨h1, q', h2, h3, h4⟩
      refine ⟨h1, ?_⟩
      have h5 := ((Gd_iff hV hnr hE (by omega) h2).mp h4).2
      rw [hV] at h5
      have g := mxq_ge (p := fun q' => (nr k q).testBit q') (g := fun q' => G (an (pl k q') s) + ms v nr pl G r (k + 1) q' (s ||| pl k q')) h2 h3
      have u := Rc_up (n := n) hV (by omega) h1
      rw [show n - k = r + 1 by omega] at u
      have e : ms v nr pl G (r + 1) k q s = mxq (fun q' => (nr k q).testBit q') (fun q' => G (an (pl k q') s) + ms v nr pl G r (k + 1) q' (s ||| pl k q')) v := rfl
      rw [e] at u ⊢
      omega
    · rintro ⟨h1, h2⟩
      refine ⟨h1, ?_⟩
      obtain ⟨q', i1, i2, i3⟩ := mxq_at (p := fun q' => (nr k q).testBit q') (g := fun q' => G (an (pl k q') s) + ms v nr pl G r (k + 1) q' (s ||| pl k q')) (n := v) ⟨q, hq, hnr k q (by omega) hq⟩
      refine ⟨q', i1, i2, (Gd_iff hV hnr hE (by omega) i1).mpr ⟨up q' i1 h1 i2, ?_⟩⟩
      have e : ms v nr pl G (r + 1) k q s = mxq (fun q' => (nr k q).testBit q') (fun q' => G (an (pl k q') s) + ms v nr pl G r (k + 1) q' (s ||| pl k q')) v := rfl
      rw [e, ← i3] at h2
      rw [hV]
      omega
/-- the least row -/
def lpth (v : Nat) (nr pl : Nat → Nat → Nat) (G : Nat → Nat) (n p0 s0 : Nat) : Nat → Nat × Nat
  | 0 => (p0, s0)
  | k + 1 => (lf (fun q => (nr k (lpth v nr pl G n p0 s0 k).1).testBit q && decide (G (an (pl k q) (lpth v nr pl G n p0 s0 k).2) + ms v nr pl G (n - (k + 1)) (k + 1) q ((lpth v nr pl G n p0 s0 k).2 ||| pl k q) = ms v nr pl G (n - k) k (lpth v nr pl G n p0 s0 k).1 (lpth v nr pl G n p0 s0 k).2)) v,
    (lpth v nr pl G n p0 s0 k).2 ||| pl k (lf (fun q => (nr k (lpth v nr pl G n p0 s0 k).1).testBit q && decide (G (an (pl k q) (lpth v nr pl G n p0 s0 k).2) + ms v nr pl G (n - (k + 1)) (k + 1) q ((lpth v nr pl G n p0 s0 k).2 ||| pl k q) = ms v nr pl G (n - k) k (lpth v nr pl G n p0 s0 k).1 (lpth v nr pl G n p0 s0 k).2)) v))
/-- which village is next: the test -/
def lt_t (nr pl : Nat → Nat → Nat) (G : Nat → Nat) (v n k p s q : Nat) : Bool := (nr k p).testBit q && decide (G (an (pl k q) s) + ms v nr pl G (n - (k + 1)) (k + 1) q (s ||| pl k q) = ms v nr pl G (n - k) k p s)
theorem lpth_s (k : Nat) : lpth v nr pl G n p0 s0 (k + 1) = (lf (lt_t nr pl G v n k (lpth v nr pl G n p0 s0 k).1 (lpth v nr pl G n p0 s0 k).2) v, (lpth v nr pl G n p0 s0 k).2 ||| pl k (lf (lt_t nr pl G v n k (lpth v nr pl G n p0 s0 k).1 (lpth v nr pl G n p0 s0 k).2) v)) := rfl
theorem lt_ex (hnr : ∀ k p, k < n → p < v → (nr k p).testBit p = true) {k p s : Nat} (hk : k < n) (hp : p < v) : ∃ q, q < v ∧ lt_t nr pl G v n k p s q = true := by
  obtain ⟨q', i1, i2, i3⟩ := mxq_at (p := fun q' => (nr k p).testBit q') (g := fun q' => G (an (pl k q') s) + ms v nr pl G (n - (k + 1)) (k + 1) q' (s ||| pl k q')) (n := v) ⟨p, hp, hnr k p hk hp⟩
  refine ⟨q', i1, ?_⟩
  unfold lt_t
  have e : ms v nr pl G (n - k) k p s = mxq (fun q' => (nr k p).testBit q') (fun q' => G (an (pl k q') s) + ms v nr pl G (n - (k + 1)) (k + 1) q' (s ||| pl k q')) v := by
    rw [show n - k = (n - (k + 1)) + 1 by omega]
    rfl
  rw [e, ← i3]
  have i2' : (nr k p).testBit q' = true := i2
  rw [i2']
  simp
theorem lpth_ok (hV : ∀ s b, V (s ||| b) = V s + G (an b s)) (hnr : ∀ k p, k < n → p < v → (nr k p).testBit p = true) (hp : p0 < v) : ∀ k, k ≤ n → (lpth v nr pl G n p0 s0 k).1 < v ∧ Rc v nr pl p0 s0 k (lpth v nr pl G n p0 s0 k).1 (lpth v nr pl G n p0 s0 k).2 ∧ V (lpth v nr pl G n p0 s0 k).2 + ms v nr pl G (n - k) k (lpth v nr pl G n p0 s0 k).1 (lpth v nr pl G n p0 s0 k).2 = V s0 + ms v nr pl G n 0 p0 s0
  | 0, _ => ⟨hp, ⟨rfl, rfl⟩, rfl⟩
  | k + 1, hk => by
    obtain ⟨h1, h2, h3⟩ := lpth_ok hV hnr hp k (by omega)
    rw [lpth_s]
    generalize (lpth v nr pl G n p0 s0 k) = S at *
    have hq := lf_lt (lt_ex (pl := pl) (G := G) (s := S.2) hnr (by omega : k < n) h1)
    have ht := (lf_sp (lt_t nr pl G v n k S.1 S.2) v).2.2 hq
    generalize lf (lt_t nr pl G v n k S.1 S.2) v = q at *
    unfold lt_t at ht
    rw [Bool.and_eq_true] at ht
    have ht2 := of_decide_eq_true ht.2
    refine ⟨hq, ⟨hq, S.1, S.2, h1, h2, ht.1, rfl⟩, ?_⟩
    dsimp only
    rw [hV]
    omega
/-- on the row the next one is good just where nothing is lost -/
theorem lt_gd (hV : ∀ s b, V (s ||| b) = V s + G (an b s)) (hnr : ∀ k p, k < n → p < v → (nr k p).testBit p = true) (hE : ∀ q s, Rc v nr pl p0 s0 n q s → (E s ↔ V s = V s0 + ms v nr pl G n 0 p0 s0)) (hp : p0 < v) {k q : Nat} (hk : k < n) (hq : q < v) : lt_t nr pl G v n k (lpth v nr pl G n p0 s0 k).1 (lpth v nr pl G n p0 s0 k).2 q = true ↔ (nr k (lpth v nr pl G n p0 s0 k).1).testBit q = true ∧ Gd v nr pl p0 s0 E (n - (k + 1)) (k + 1) q ((lpth v nr pl G n p0 s0 k).2 ||| pl k q) := by
  obtain ⟨h1, h2, h3⟩ := lpth_ok hV hnr hp k (by omega)
  generalize (lpth v nr pl G n p0 s0 k) = S at *
  rw [Gd_iff hV hnr hE (by omega) hq, hV]
  unfold lt_t
  rw [Bool.and_eq_true, decide_eq_true_iff]
  constructor
  · rintro ⟨i1, i2⟩
    exact ⟨i1, ⟨hq, S.1, S.2, h1, h2, i1, rfl⟩, by omega⟩
  · rintro ⟨i1, i2, i3⟩
    exact ⟨i1, by omega⟩
end RM
