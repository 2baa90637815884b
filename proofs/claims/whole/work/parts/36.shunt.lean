/-! ===== THE RULE: the class's way (signs wait on a stack) gives the codes that the descent gives ===== -/
def sy_rk (c : Int32) : Nat := if c = 60 ∨ c = 62 ∨ c = 61 then 1 else if c = 43 ∨ c = 45 then 2 else if c = 42 ∨ c = 47 then 3 else if c = 256 then 4 else 0
abbrev sy_S : Type := List Int32 × List Int32 × Nat × (Nat → Bool) × Bool × Nat
def sy_rel (r : Nat) : List Int32 → List Int32 → List Int32 × List Int32
  | D, [] => (D, [])
  | D, s :: W => if s = 40 ∨ sy_rk s < r then (D, s :: W) else sy_rel r (D ++ [-s]) W
def sy_up (cm : Nat → Bool) (d : Nat) (x : Bool) : Nat → Bool := fun k => if k = d then x else cm k
def sy_step (ch : Nat → Int32) (l : Nat) : sy_S → Option sy_S
  | (D, W, d, cm, true, p) =>
    if ch p = 45 then some (D, 256 :: W, d, cm, true, p + 1)
    else if ch p = 40 ∧ d < 4 then some (D, 40 :: W, d + 1, sy_up cm (d + 1) false, true, p + 1)
    else if ru_dig (ch p) = true then some (D ++ [(ru_num ch l 3 p 0).1], W, d, cm, false, (ru_num ch l 3 p 0).2)
    else if ru_let (ch p) ≠ -1 then some (D ++ [1000 + ru_let (ch p)], W, d, cm, false, p + 1)
    else none
  | (D, W, d, cm, false, p) =>
    if ch p = 41 then (if d = 0 then none else some ((sy_rel 0 D W).1, (sy_rel 0 D W).2.tail, d - 1, cm, false, p + 1))
    else if sy_rk (ch p) = 0 ∨ ch p = 256 ∨ (sy_rk (ch p) = 1 ∧ cm d = true) then none
    else some ((sy_rel (sy_rk (ch p)) D W).1, ch p :: (sy_rel (sy_rk (ch p)) D W).2, d, (if sy_rk (ch p) = 1 then sy_up cm d true else cm), true, p + 1)
def sy_run (ch : Nat → Int32) (l : Nat) : Nat → sy_S → Nat ⊕ sy_S
  | 0, S => .inr S
  | n + 1, S => if S.2.2.2.2.2 < l then (match sy_step ch l S with
      | none => .inl S.2.2.2.2.2
      | some S' => sy_run ch l n S')
    else .inr S
/-- what comes out: a place, or codes -/
def sy_fin (ch : Nat → Int32) (l : Nat) (n : Nat) (S : sy_S) : Nat ⊕ List Int32 := match sy_run ch l n S with
  | .inl e => .inl e
  | .inr (D, W, d, _, w, p) => if w = true ∨ 0 < d then .inl p else .inr (sy_rel 0 D W).1
theorem sy_go {ch : Nat → Int32} {l n : Nat} {S S' : sy_S} (hp : S.2.2.2.2.2 < l) (h : sy_step ch l S = some S') : sy_fin ch l (n + 1) S = sy_fin ch l n S' := by
  unfold sy_fin
  rw [sy_run, if_pos hp, h]
theorem sy_no {ch : Nat → Int32} {l n : Nat} {S : sy_S} (hp : S.2.2.2.2.2 < l) (h : sy_step ch l S = none) : sy_fin ch l (n + 1) S = .inl S.2.2.2.2.2 := by
  unfold sy_fin
  rw [sy_run, if_pos hp, h]
theorem sy_end {ch : Nat → Int32} {l n : Nat} {D W : List Int32} {d : Nat} {cm : Nat → Bool} {w : Bool} {p : Nat} (hp : ¬ p < l) : sy_fin ch l n (D, W, d, cm, w, p) = if w = true ∨ 0 < d then .inl p else .inr (sy_rel 0 D W).1 := by
  unfold sy_fin
  cases n with
  | zero => rfl
  | succ n => rw [sy_run, if_neg hp]
/-- signs that all bind at least so much come off together -/
theorem sy_rel_all {r : Nat} : ∀ {X W D : List Int32}, (∀ s ∈ X, s ≠ 40 ∧ r ≤ sy_rk s) → sy_rel r D (X ++ W) = sy_rel r (D ++ X.map (- ·)) W
  | [], W, D, _ => by simp
  | s :: X, W, D, h => by
    have hs := h s List.mem_cons_self
    rw [List.cons_append, sy_rel, if_neg (by rintro (h1 | h1) <;> first | exact hs.1 h1 | omega), sy_rel_all (fun t ht => h t (List.mem_cons_of_mem _ ht))]
    simp
def sy_low (r : Nat) : List Int32 → Prop
  | [] => True
  | s :: _ => s = 40 ∨ sy_rk s < r
theorem sy_rel_low {r : Nat} {D W : List Int32} (h : sy_low r W) : sy_rel r D W = (D, W) := by
  cases W with
  | nil => rfl
  | cons s W =>
    rw [sy_rel]
    exact if_pos h
theorem sy_low.up {r r' : Nat} {W : List Int32} (h : sy_low r W) (hr : r ≤ r') : sy_low r' W := by
  cases W with
  | nil => exact h
  | cons s W =>
    rcases h with h | h
    · exact Or.inl h
    · exact Or.inr (by omega)
theorem ru_num_gt (ch : Nat → Int32) (l : Nat) : ∀ d p v, p ≤ (ru_num ch l d p v).2
  | 0, p, v => Nat.le_refl _
  | d + 1, p, v => by
    rw [ru_num]
    split
    · exact Nat.le_trans (Nat.le_succ p) (ru_num_gt ch l d (p + 1) _)
    · exact Nat.le_refl _
theorem ru_num_le (ch : Nat → Int32) (l : Nat) : ∀ d p v, p ≤ l → (ru_num ch l d p v).2 ≤ l
  | 0, p, v, h => h
  | d + 1, p, v, h => by
    rw [ru_num]
    split
    next hc => exact ru_num_le ch l d (p + 1) _ hc.1
    next => exact h
/-- what can't stand behind a part of this kind, as it has read all that it can -/
def sy_fol (ch : Nat → Int32) (l : Nat) (r q : Nat) : Prop := q < l → sy_rk (ch q) < (if r = 1 then 2 else r)
def sy_ok (r : Nat) (X : List Int32) : Prop := ∀ s ∈ X, s ≠ 40 ∧ r ≤ sy_rk s
theorem sy_ok.up {r r' : Nat} {X : List Int32} (h : sy_ok r X) (hr : r' ≤ r) : sy_ok r' X := fun s hs => ⟨(h s hs).1, Nat.le_trans hr (h s hs).2⟩
theorem sy_ok.snoc {r : Nat} {X : List Int32} {s : Int32} (h : sy_ok r X) (h1 : s ≠ 40) (h2 : r ≤ sy_rk s) : sy_ok r (X ++ [s]) := fun t ht => by
  rcases List.mem_append.mp ht with ht | ht
  · exact h t ht
  · rw [List.mem_singleton.mp ht]; exact ⟨h1, h2⟩
theorem sy_ok.nil {r : Nat} : sy_ok r [] := fun s hs => by cases hs
/-- a part from the state S on: it fails where the descent fails; or it comes to a state with the same codes -/
def sy_A (ch : Nat → Int32) (l : Nat) (r : Nat) (S : sy_S) (W : List Int32) (d : Nat) (cm : Nat → Bool) (res : Nat ⊕ (List Int32 × Nat)) : Prop := match res with
  | .inl e => e ≤ l ∧ ∀ n, l ≤ n + S.2.2.2.2.2 → sy_fin ch l n S = .inl e
  | .inr (c, q) => S.2.2.2.2.2 + (if S.2.2.2.2.1 = true then 1 else 0) ≤ q ∧ q ≤ l ∧ ∃ (D' X : List Int32) (cm' : Nat → Bool), sy_ok r X ∧ D' ++ X.map (- ·) = c ∧ (∀ k, k < d + (if r = 1 then 0 else 1) → cm' k = cm k) ∧ sy_fol ch l r q ∧ (r = 1 → q < l → sy_rk (ch q) = 1 → cm' d = true) ∧
    ∀ n, l ≤ n + S.2.2.2.2.2 → ∃ n', l ≤ n' + q ∧ sy_fin ch l n S = sy_fin ch l n' (D', X ++ W, d, cm', false, q)
section SY
variable {ch : Nat → Int32} {l : Nat}
theorem sy_pre {r d p p1 : Nat} {D W0 : List Int32} {d0 : Nat} {cm0 : Nat → Bool} {w : Bool} {D1 W1 : List Int32} {d1 : Nat} {cm1 : Nat → Bool} {w1 : Bool} {W : List Int32} {cm : Nat → Bool} {res : Nat ⊕ (List Int32 × Nat)} (hp : p < l) (h : sy_step ch l (D, W0, d0, cm0, w, p) = some (D1, W1, d1, cm1, w1, p1)) (h1 : p + 1 ≤ p1) (hA : sy_A ch l r (D1, W1, d1, cm1, w1, p1) W d cm res) : sy_A ch l r (D, W0, d0, cm0, w, p) W d cm res := by
  have step : ∀ n, l ≤ n + p → ∃ m, l ≤ m + p1 ∧ sy_fin ch l n (D, W0, d0, cm0, w, p) = sy_fin ch l m (D1, W1, d1, cm1, w1, p1) := fun n hn => by
    cases n with
    | zero => omega
    | succ m => exact ⟨m, by omega, sy_go hp h⟩
  cases res with
  | inl e =>
    refine ⟨hA.1, fun n hn => ?_⟩
    obtain ⟨m, h2, h3⟩ := step n hn
    rw [h3]
    exact hA.2 m h2
  | inr z =>
    obtain ⟨c, q⟩ := z
    obtain ⟨a1, a2, D', X, cm', b1, b2, b3, b4, b5, b6⟩ := hA
    have a1 : p1 + (if w1 = true then 1 else 0) ≤ q := a1
    refine ⟨?_, a2, D', X, cm', b1, b2, b3, b4, b5, fun n hn => ?_⟩
    · show p + (if w = true then 1 else 0) ≤ q
      have : (if w = true then 1 else 0) ≤ 1 := by split <;> omega
      omega
    · obtain ⟨m, h2, h3⟩ := step n hn
      rw [h3]
      exact b6 m h2
theorem sy_bind {r1 r d1 d : Nat} {S : sy_S} {W1 W : List Int32} {cm0 cm : Nat → Bool} {c : List Int32} {q : Nat} {res : Nat ⊕ (List Int32 × Nat)} (hd : d + 1 ≤ d1 + (if r1 = 1 then 0 else 1)) (hcm : ∀ k, k < d + 1 → cm0 k = cm k) (h1 : sy_A ch l r1 S W1 d1 cm0 (.inr (c, q)))
    (h2 : ∀ (D' X : List Int32) (cm' : Nat → Bool), sy_ok r1 X → D' ++ X.map (- ·) = c → (∀ k, k < d + 1 → cm' k = cm k) → sy_fol ch l r1 q → (r1 = 1 → q < l → sy_rk (ch q) = 1 → cm' d1 = true) → sy_A ch l r (D', X ++ W1, d1, cm', false, q) W d cm' res) : sy_A ch l r S W d cm res := by
  obtain ⟨a1, a2, D', X, cm', b1, b2, b3, b4, b5, b6⟩ := h1
  have hk : ∀ k, k < d + 1 → cm' k = cm k := fun k hk => (b3 k (by omega)).trans (hcm k hk)
  have h := h2 D' X cm' b1 b2 hk b4 b5
  cases res with
  | inl e =>
    refine ⟨h.1, fun n hn => ?_⟩
    obtain ⟨n', c1, c2⟩ := b6 n hn
    rw [c2]
    exact h.2 n' c1
  | inr z =>
    obtain ⟨c', q'⟩ := z
    obtain ⟨e1, e2, D2, X2, cm2, f1, f2, f3, f4, f5, f6⟩ := h
    have e1 : q + 0 ≤ q' := e1
    refine ⟨by omega, e2, D2, X2, cm2, f1, f2, fun k hk2 => (f3 k hk2).trans (hk k (by split at hk2 <;> omega)), f4, f5, fun n hn => ?_⟩
    obtain ⟨n', c1, c2⟩ := b6 n hn
    rw [c2]
    exact f6 n' c1
/-- nothing more is read -/
theorem sy_stay {r d q : Nat} {D X W : List Int32} {cm : Nat → Bool} {c : List Int32} (hq : q ≤ l) (hX : sy_ok r X) (hc : D ++ X.map (- ·) = c) (hf : sy_fol ch l r q) (h1 : r = 1 → q < l → sy_rk (ch q) = 1 → cm d = true) : sy_A ch l r (D, X ++ W, d, cm, false, q) W d cm (.inr (c, q)) :=
  ⟨Nat.le_refl _, hq, D, X, cm, hX, hc, fun _ _ => rfl, hf, h1, fun n hn => ⟨n, hn, rfl⟩⟩
/-- a sign between two parts -/
theorem sy_sign {d q r : Nat} {D X W : List Int32} {cm : Nat → Bool} {c : List Int32} (hr : sy_rk (ch q) = r) (h0 : r ≠ 0) (h256 : ch q ≠ 256) (h1 : r = 1 → cm d = false) (hX : sy_ok r X) (hc : D ++ X.map (- ·) = c) (hW : sy_low r W) : sy_step ch l (D, X ++ W, d, cm, false, q) = some (c, ch q :: W, d, (if r = 1 then sy_up cm d true else cm), true, q + 1) := by
  have h41 : ¬ ch q = 41 := fun e => by rw [e] at hr; exact h0 (by rw [← hr]; decide)
  have hn : ¬ (sy_rk (ch q) = 0 ∨ ch q = 256 ∨ (sy_rk (ch q) = 1 ∧ cm d = true)) := by
    rintro (h | h | ⟨h, h2⟩)
    · omega
    · exact h256 h
    · rw [h1 (by omega)] at h2; cases h2
  rw [sy_step, if_neg h41, if_neg hn, hr, sy_rel_all hX, hc, sy_rel_low hW]
/-- a closing sign -/
theorem sy_close {d q : Nat} {D X W : List Int32} {cm : Nat → Bool} {c : List Int32} (h41 : ch q = 41) (hX : sy_ok 0 X) (hc : D ++ X.map (- ·) = c) : sy_step ch l (D, X ++ 40 :: W, d + 1, cm, false, q) = some (c, W, d, cm, false, q + 1) := by
  rw [sy_step, if_pos h41, if_neg (by omega), sy_rel_all hX, hc, sy_rel_low (show sy_low 0 (40 :: W) from Or.inl rfl)]
  rfl
/-- where nothing can go on -/
theorem sy_stuck {d q n : Nat} {D W : List Int32} {cm : Nat → Bool} (hq : q < l) (hf : sy_rk (ch q) = 0 ∨ (sy_rk (ch q) = 1 ∧ cm d = true)) (h41 : d = 0 ∨ ch q ≠ 41) : sy_fin ch l (n + 1) (D, W, d, cm, false, q) = .inl q := by
  refine sy_no (S := (D, W, d, cm, false, q)) hq ?_
  rw [sy_step]
  by_cases h : ch q = 41
  · have hd : d = 0 := h41.elim id (fun q => absurd h q)
    rw [if_pos h, if_pos hd]
  · have hn : sy_rk (ch q) = 0 ∨ ch q = 256 ∨ (sy_rk (ch q) = 1 ∧ cm d = true) := hf.elim Or.inl (fun q => Or.inr (Or.inr q))
    rw [if_neg h, if_pos hn]
theorem sy_rk_2 {c : Int32} : sy_rk c = 2 ↔ c = 43 ∨ c = 45 := by
  constructor
  · intro h
    unfold sy_rk at h
    split at h
    · cases h
    split at h
    · assumption
    split at h
    · cases h
    split at h <;> cases h
  · rintro (rfl | rfl) <;> decide
theorem sy_rk_3 {c : Int32} : sy_rk c = 3 ↔ c = 42 ∨ c = 47 := by
  constructor
  · intro h
    unfold sy_rk at h
    split at h
    · cases h
    split at h
    · cases h
    split at h
    · assumption
    split at h <;> cases h
  · rintro (rfl | rfl) <;> decide
theorem sy_rk_1 {c : Int32} : sy_rk c = 1 ↔ c = 60 ∨ c = 62 ∨ c = 61 := by
  constructor
  · intro h
    unfold sy_rk at h
    split at h
    · assumption
    split at h
    · cases h
    split at h
    · cases h
    split at h <;> cases h
  · rintro (rfl | rfl | rfl) <;> decide
theorem sy_rk_4 {c : Int32} (h : c ≠ 256) : sy_rk c < 4 := by
  unfold sy_rk
  repeat' split
  all_goals first | omega | (rename_i e; exact absurd e h)
theorem sy_rk_40 {c : Int32} (h : sy_rk c ≠ 0) : c ≠ 40 := fun e => h (by rw [e]; decide)
theorem ru_0 (n d : Nat) (v : List Int32) (p : Nat) : ru_rd ch l (n + 1) 0 d v p = match ru_rd ch l n 1 d v p with
      | .inl e => .inl e
      | .inr (a, q) => if q < l ∧ (ch q = 60 ∨ ch q = 62 ∨ ch q = 61) then (match ru_rd ch l n 1 d a (q + 1) with
          | .inl e => .inl e
          | .inr (b, q2) => .inr (b ++ [-(ch q)], q2))
        else .inr (a, q) := rfl
theorem ru_1 (n d : Nat) (v : List Int32) (p : Nat) : ru_rd ch l (n + 1) 1 d v p = match ru_rd ch l n 2 d v p with
      | .inl e => .inl e
      | .inr (a, q) => ru_rd ch l n 4 d a q := rfl
theorem ru_2 (n d : Nat) (v : List Int32) (p : Nat) : ru_rd ch l (n + 1) 2 d v p = match ru_rd ch l n 3 d v p with
      | .inl e => .inl e
      | .inr (a, q) => ru_rd ch l n 5 d a q := rfl
theorem ru_4 (n d : Nat) (v : List Int32) (p : Nat) : ru_rd ch l (n + 1) 4 d v p = (if p < l ∧ (ch p = 43 ∨ ch p = 45) then match ru_rd ch l n 2 d v (p + 1) with
        | .inl e => .inl e
        | .inr (b, q) => ru_rd ch l n 4 d (b ++ [-(ch p)]) q
      else .inr (v, p)) := rfl
theorem ru_5 (n d : Nat) (v : List Int32) (p : Nat) : ru_rd ch l (n + 1) 5 d v p = (if p < l ∧ (ch p = 42 ∨ ch p = 47) then match ru_rd ch l n 3 d v (p + 1) with
        | .inl e => .inl e
        | .inr (b, q) => ru_rd ch l n 5 d (b ++ [-(ch p)]) q
      else .inr (v, p)) := rfl
theorem ru_3 (n d : Nat) (v : List Int32) (p : Nat) : ru_rd ch l (n + 1) 3 d v p = if p < l ∧ ch p = 45 then (match ru_rd ch l n 3 d v (p + 1) with
      | .inl e => .inl e
      | .inr (b, q) => .inr (b ++ [-256], q))
    else if p < l ∧ ch p = 40 ∧ d < 4 then (match ru_rd ch l n 0 (d + 1) v (p + 1) with
      | .inl e => .inl e
      | .inr (b, q) => if q < l ∧ ch q = 41 then .inr (b, q + 1) else .inl q)
    else if p < l ∧ ru_dig (ch p) = true then .inr (v ++ [(ru_num ch l 3 p 0).1], (ru_num ch l 3 p 0).2)
    else if p < l ∧ ru_let (ch p) ≠ -1 then .inr (v ++ [1000 + ru_let (ch p)], p + 1)
    else .inl p := rfl
def sy_P (ch : Nat → Int32) (l n : Nat) : Prop := ∀ (d : Nat) (v : List Int32) (p : Nat), p ≤ l →
  (6 * (l - p) + 1 ≤ n → ∀ (W : List Int32) (cm : Nat → Bool), sy_A ch l 4 (v, W, d, cm, true, p) W d cm (ru_rd ch l n 3 d v p)) ∧
  (6 * (l - p) + 2 ≤ n → ∀ (W : List Int32) (cm : Nat → Bool), sy_low 3 W → sy_A ch l 3 (v, W, d, cm, true, p) W d cm (ru_rd ch l n 2 d v p)) ∧
  (6 * (l - p) + 3 ≤ n → ∀ (W : List Int32) (cm : Nat → Bool), sy_low 2 W → sy_A ch l 2 (v, W, d, cm, true, p) W d cm (ru_rd ch l n 1 d v p)) ∧
  (6 * (l - p) + 4 ≤ n → ∀ (W : List Int32) (cm : Nat → Bool), sy_low 1 W → cm d = false → sy_A ch l 1 (v, W, d, cm, true, p) W d cm (ru_rd ch l n 0 d v p)) ∧
  (6 * (l - p) + 1 ≤ n → ∀ (D X W : List Int32) (cm : Nat → Bool), sy_ok 2 X → D ++ X.map (- ·) = v → sy_low 2 W → sy_fol ch l 3 p → sy_A ch l 2 (D, X ++ W, d, cm, false, p) W d cm (ru_rd ch l n 4 d v p)) ∧
  (6 * (l - p) + 1 ≤ n → ∀ (D X W : List Int32) (cm : Nat → Bool), sy_ok 3 X → D ++ X.map (- ·) = v → sy_low 3 W → sy_A ch l 3 (D, X ++ W, d, cm, false, p) W d cm (ru_rd ch l n 5 d v p))
theorem sy_k3 (h256 : ∀ i, ch i ≠ 256) {n : Nat} (ih : sy_P ch l n) {d : Nat} {v : List Int32} {p : Nat} (hp : p ≤ l) (hn : 6 * (l - p) + 1 ≤ n + 1) (W : List Int32) (cm : Nat → Bool) : sy_A ch l 4 (v, W, d, cm, true, p) W d cm (ru_rd ch l (n + 1) 3 d v p) := by
  have f4 : ∀ q, sy_fol ch l 4 q := fun q _ => sy_rk_4 (h256 q)
  rw [ru_3]
  by_cases c1 : p < l ∧ ch p = 45
  · rw [if_pos c1]
    have hst : sy_step ch l (v, W, d, cm, true, p) = some (v, 256 :: W, d, cm, true, p + 1) := by rw [sy_step, if_pos c1.2]
    refine sy_pre c1.1 hst (Nat.le_refl _) ?_
    have h := (ih d v (p + 1) (by omega)).1 (by omega) (256 :: W) cm
    cases e : ru_rd ch l n 3 d v (p + 1) with
    | inl e2 => rw [e] at h; exact h
    | inr z =>
      obtain ⟨b, q⟩ := z
      rw [e] at h
      obtain ⟨a1, a2, D', X, cm', b1, b2, b3, b4, b5, b6⟩ := h
      refine ⟨a1, a2, D', X ++ [256], cm', b1.snoc (by decide) (by decide), ?_, b3, b4, b5, fun n hn => ?_⟩
      · rw [List.map_append, ← List.append_assoc, b2]; rfl
      · obtain ⟨n', c2, c3⟩ := b6 n hn
        refine ⟨n', c2, ?_⟩
        rw [c3, List.append_assoc]
        rfl
  rw [if_neg c1]
  by_cases c2 : p < l ∧ ch p = 40 ∧ d < 4
  · rw [if_pos c2]
    have hst : sy_step ch l (v, W, d, cm, true, p) = some (v, 40 :: W, d + 1, sy_up cm (d + 1) false, true, p + 1) := by rw [sy_step, if_neg (fun q => c1 ⟨c2.1, q⟩), if_pos c2.2]
    refine sy_pre c2.1 hst (Nat.le_refl _) ?_
    have h := (ih (d + 1) v (p + 1) (by omega)).2.2.2.1 (by omega) (40 :: W) (sy_up cm (d + 1) false) (Or.inl rfl) (by simp [sy_up])
    cases e : ru_rd ch l n 0 (d + 1) v (p + 1) with
    | inl e2 => rw [e] at h; exact h
    | inr z =>
      obtain ⟨b, q⟩ := z
      rw [e] at h
      have hq : q ≤ l := h.2.1
      refine sy_bind (by simp) (fun k hk => by simp only [sy_up]; rw [if_neg (by omega)]) h (fun D' X cm' b1 b2 b3 b4 b5 => ?_)
      dsimp only
      by_cases c3 : q < l ∧ ch q = 41
      · rw [if_pos c3]
        refine sy_pre c3.1 (sy_close c3.2 (b1.up (by omega)) b2) (Nat.le_refl _) ?_
        exact sy_stay (X := []) (by omega) sy_ok.nil (by simp) (f4 _) (fun q => by cases q)
      · rw [if_neg c3]
        refine ⟨hq, fun m hm => ?_⟩
        have hm : l ≤ m + q := hm
        by_cases hql : q < l
        · cases m with
          | zero => omega
          | succ m =>
            refine sy_stuck hql ?_ (Or.inr fun h41 => c3 ⟨hql, h41⟩)
            have := b4 hql
            rw [if_pos rfl] at this
            by_cases h1 : sy_rk (ch q) = 1
            · exact Or.inr ⟨h1, b5 rfl hql h1⟩
            · exact Or.inl (by omega)
        · rw [sy_end hql, if_pos (Or.inr (Nat.succ_pos d))]
  rw [if_neg c2]
  by_cases c3 : p < l ∧ ru_dig (ch p) = true
  · rw [if_pos c3]
    have hst : sy_step ch l (v, W, d, cm, true, p) = some (v ++ [(ru_num ch l 3 p 0).1], W, d, cm, false, (ru_num ch l 3 p 0).2) := by rw [sy_step, if_neg (fun q => c1 ⟨c3.1, q⟩), if_neg (fun q => c2 ⟨c3.1, q⟩), if_pos c3.2]
    have hg : p + 1 ≤ (ru_num ch l 3 p 0).2 := by
      rw [ru_num, if_pos c3]
      exact ru_num_gt ch l 2 (p + 1) _
    refine sy_pre c3.1 hst hg ?_
    exact sy_stay (X := []) (ru_num_le ch l 3 p 0 hp) sy_ok.nil (by simp) (f4 _) (fun q => by cases q)
  rw [if_neg c3]
  by_cases c4 : p < l ∧ ru_let (ch p) ≠ -1
  · rw [if_pos c4]
    have hst : sy_step ch l (v, W, d, cm, true, p) = some (v ++ [1000 + ru_let (ch p)], W, d, cm, false, p + 1) := by rw [sy_step, if_neg (fun q => c1 ⟨c4.1, q⟩), if_neg (fun q => c2 ⟨c4.1, q⟩), if_neg (fun q => c3 ⟨c4.1, q⟩), if_pos c4.2]
    refine sy_pre c4.1 hst (Nat.le_refl _) ?_
    exact sy_stay (X := []) (by omega) sy_ok.nil (by simp) (f4 _) (fun q => by cases q)
  rw [if_neg c4]
  refine ⟨hp, fun m hm => ?_⟩
  have hm : l ≤ m + p := hm
  by_cases hpl : p < l
  · cases m with
    | zero => omega
    | succ m =>
      refine sy_no (S := (v, W, d, cm, true, p)) hpl ?_
      rw [sy_step, if_neg (fun q => c1 ⟨hpl, q⟩), if_neg (fun q => c2 ⟨hpl, q⟩), if_neg (fun q => c3 ⟨hpl, q⟩), if_neg (fun q => c4 ⟨hpl, q⟩)]
  · rw [sy_end hpl, if_pos (Or.inl rfl)]
theorem sy_k5 (h256 : ∀ i, ch i ≠ 256) {n : Nat} (ih : sy_P ch l n) {d : Nat} {v : List Int32} {p : Nat} (hp : p ≤ l) (hn : 6 * (l - p) + 1 ≤ n + 1) (D X W : List Int32) (cm : Nat → Bool) (hX : sy_ok 3 X) (hv : D ++ X.map (- ·) = v) (hW : sy_low 3 W) : sy_A ch l 3 (D, X ++ W, d, cm, false, p) W d cm (ru_rd ch l (n + 1) 5 d v p) := by
  rw [ru_5]
  by_cases c : p < l ∧ (ch p = 42 ∨ ch p = 47)
  · rw [if_pos c]
    have hr := sy_rk_3.mpr c.2
    refine sy_pre c.1 (sy_sign hr (by decide) (h256 p) (fun q => by cases q) hX hv hW) (Nat.le_refl _) ?_
    rw [if_neg (by decide)]
    have h := (ih d v (p + 1) (by omega)).1 (by omega) (ch p :: W) cm
    cases e : ru_rd ch l n 3 d v (p + 1) with
    | inl e2 => rw [e] at h; exact h
    | inr z =>
      obtain ⟨b, q⟩ := z
      rw [e] at h
      have hq1 : p + 1 + 1 ≤ q := h.1
      have hq : q ≤ l := h.2.1
      refine sy_bind (by simp) (fun k hk => rfl) h (fun D' X' cm' b1 b2 b3 b4 b5 => ?_)
      have h3 := (ih d (b ++ [-(ch p)]) q hq).2.2.2.2.2 (by omega) D' (X' ++ [ch p]) W cm' ((b1.up (by omega)).snoc (sy_rk_40 (by omega)) (by omega)) (by rw [List.map_append, ← List.append_assoc, b2]; rfl) hW
      rw [List.append_assoc] at h3
      exact h3
  · rw [if_neg c]
    refine sy_stay hp hX hv (fun hpl => ?_) (fun q => by cases q)
    rw [if_neg (by decide)]
    have h4 := sy_rk_4 (h256 p)
    have h3 : sy_rk (ch p) ≠ 3 := fun q => c ⟨hpl, sy_rk_3.mp q⟩
    omega
theorem sy_k4 (h256 : ∀ i, ch i ≠ 256) {n : Nat} (ih : sy_P ch l n) {d : Nat} {v : List Int32} {p : Nat} (hp : p ≤ l) (hn : 6 * (l - p) + 1 ≤ n + 1) (D X W : List Int32) (cm : Nat → Bool) (hX : sy_ok 2 X) (hv : D ++ X.map (- ·) = v) (hW : sy_low 2 W) (hf : sy_fol ch l 3 p) : sy_A ch l 2 (D, X ++ W, d, cm, false, p) W d cm (ru_rd ch l (n + 1) 4 d v p) := by
  rw [ru_4]
  by_cases c : p < l ∧ (ch p = 43 ∨ ch p = 45)
  · rw [if_pos c]
    have hr := sy_rk_2.mpr c.2
    refine sy_pre c.1 (sy_sign hr (by decide) (h256 p) (fun q => by cases q) hX hv hW) (Nat.le_refl _) ?_
    rw [if_neg (by decide)]
    have h := (ih d v (p + 1) (by omega)).2.1 (by omega) (ch p :: W) cm (Or.inr (by omega))
    cases e : ru_rd ch l n 2 d v (p + 1) with
    | inl e2 => rw [e] at h; exact h
    | inr z =>
      obtain ⟨b, q⟩ := z
      rw [e] at h
      have hq1 : p + 1 + 1 ≤ q := h.1
      have hq : q ≤ l := h.2.1
      refine sy_bind (by simp) (fun k hk => rfl) h (fun D' X' cm' b1 b2 b3 b4 b5 => ?_)
      have h3 := (ih d (b ++ [-(ch p)]) q hq).2.2.2.2.1 (by omega) D' (X' ++ [ch p]) W cm' ((b1.up (by omega)).snoc (sy_rk_40 (by omega)) (by omega)) (by rw [List.map_append, ← List.append_assoc, b2]; rfl) hW b4
      rw [List.append_assoc] at h3
      exact h3
  · rw [if_neg c]
    refine sy_stay hp hX hv (fun hpl => ?_) (fun q => by cases q)
    rw [if_neg (by decide)]
    have h4 := hf hpl
    rw [if_neg (by decide)] at h4
    have h3 : sy_rk (ch p) ≠ 2 := fun q => c ⟨hpl, sy_rk_2.mp q⟩
    omega
theorem sy_main (h256 : ∀ i, ch i ≠ 256) : ∀ n, sy_P ch l n
  | 0 => fun d v p hp => ⟨fun h => by omega, fun h => by omega, fun h => by omega, fun h => by omega, fun h => by omega, fun h => by omega⟩
  | n + 1 => by
    have ih := sy_main h256 n
    intro d v p hp
    refine ⟨fun hn W cm => sy_k3 h256 ih hp hn W cm, fun hn W cm hW => ?_, fun hn W cm hW => ?_, fun hn W cm hW hcm => ?_, fun hn D X W cm hX hv hW hf => sy_k4 h256 ih hp hn D X W cm hX hv hW hf, fun hn D X W cm hX hv hW => sy_k5 h256 ih hp hn D X W cm hX hv hW⟩
    · rw [ru_2]
      have h := (ih d v p hp).1 (by omega) W cm
      cases e : ru_rd ch l n 3 d v p with
      | inl e2 => rw [e] at h; exact h
      | inr z =>
        obtain ⟨b, q⟩ := z
        rw [e] at h
        have hq1 : p + 1 ≤ q := h.1
        refine sy_bind (by simp) (fun k hk => rfl) h (fun D' X' cm' b1 b2 b3 b4 b5 => ?_)
        exact (ih d b q h.2.1).2.2.2.2.2 (by omega) D' X' W cm' (b1.up (by omega)) b2 hW
    · rw [ru_1]
      have h := (ih d v p hp).2.1 (by omega) W cm (hW.up (by omega))
      cases e : ru_rd ch l n 2 d v p with
      | inl e2 => rw [e] at h; exact h
      | inr z =>
        obtain ⟨b, q⟩ := z
        rw [e] at h
        have hq1 : p + 1 ≤ q := h.1
        refine sy_bind (by simp) (fun k hk => rfl) h (fun D' X' cm' b1 b2 b3 b4 b5 => ?_)
        exact (ih d b q h.2.1).2.2.2.2.1 (by omega) D' X' W cm' (b1.up (by omega)) b2 hW b4
    · rw [ru_0]
      have h := (ih d v p hp).2.2.1 (by omega) W cm (hW.up (by omega))
      cases e : ru_rd ch l n 1 d v p with
      | inl e2 => rw [e] at h; exact h
      | inr z =>
        obtain ⟨b, q⟩ := z
        rw [e] at h
        have hq1 : p + 1 ≤ q := h.1
        have hq : q ≤ l := h.2.1
        dsimp only
        by_cases c : q < l ∧ (ch q = 60 ∨ ch q = 62 ∨ ch q = 61)
        · rw [if_pos c]
          have hr := sy_rk_1.mpr c.2
          obtain ⟨a1, a2, D', X', cm', b1, b2, b3, b4, b5, b6⟩ := h
          have hcd : cm' d = false := (b3 d (by simp)).trans hcm
          have hst := sy_sign (ch := ch) (l := l) hr (by decide) (h256 q) (fun _ => hcd) (b1.up (by omega)) b2 hW
          rw [if_pos rfl] at hst
          have h2 := (ih d b (q + 1) (by omega)).2.2.1 (by omega) (ch q :: W) (sy_up cm' d true) (Or.inr (by omega))
          have h2 := sy_pre c.1 hst (Nat.le_refl _) h2
          cases e3 : ru_rd ch l n 1 d b (q + 1) with
          | inl e2 =>
            rw [e3] at h2
            refine ⟨h2.1, fun m hm => ?_⟩
            obtain ⟨m', d1, d2⟩ := b6 m hm
            rw [d2]
            exact h2.2 m' d1
          | inr z2 =>
            obtain ⟨b', q'⟩ := z2
            rw [e3] at h2
            obtain ⟨g1, g2, D2, X2, cm2, g3, g4, g5, g6, g7, g8⟩ := h2
            have g1 : q + 0 ≤ q' := g1
            have hup : ∀ k, k < d + 1 → cm2 k = sy_up cm' d true k := fun k hk => g5 k (by rw [if_neg (by decide)]; exact hk)
            refine ⟨?_, g2, D2, X2 ++ [ch q], cm2, (g3.up (by omega)).snoc (sy_rk_40 (by omega)) (by omega), by rw [List.map_append, ← List.append_assoc, g4]; rfl, fun k hk => ?_, ?_, fun _ _ _ => ?_, fun m hm => ?_⟩
            · show p + 1 ≤ q'
              omega
            · rw [if_pos rfl] at hk
              rw [hup k (by omega), sy_up, if_neg (by omega)]
              exact b3 k (by rw [if_neg (by decide)]; omega)
            · intro hql
              have := g6 hql
              rw [if_neg (by decide)] at this
              rw [if_pos rfl]
              exact this
            · rw [hup d (by omega), sy_up, if_pos rfl]
            · obtain ⟨m', d1, d2⟩ := b6 m hm
              obtain ⟨m2, d3, d4⟩ := g8 m' d1
              refine ⟨m2, d3, ?_⟩
              rw [d2, d4, List.append_assoc]
              rfl
        · rw [if_neg c]
          obtain ⟨a1, a2, D', X', cm', b1, b2, b3, b4, b5, b6⟩ := h
          refine ⟨a1, a2, D', X', cm', b1.up (by omega), b2, fun k hk => b3 k (by rw [if_pos rfl] at hk; rw [if_neg (by decide)]; omega), ?_, fun _ hql hr => absurd ⟨hql, sy_rk_1.mp hr⟩ c, b6⟩
          intro hql
          have := b4 hql
          rw [if_neg (by decide)] at this
          rw [if_pos rfl]
          exact this
/-- the whole rule -/
theorem sy_whole (h256 : ∀ i, ch i ≠ 256) {n N : Nat} (hn : 6 * l + 4 ≤ n) (hN : l ≤ N) (cm : Nat → Bool) (h0 : cm 0 = false) : sy_fin ch l N ([], [], 0, cm, true, 0) = (match ru_rd ch l n 0 0 [] 0 with
    | .inl e => .inl e
    | .inr (c, q) => if q < l then .inl q else .inr c) := by
  have h := (sy_main h256 n 0 [] 0 (Nat.zero_le l)).2.2.2.1 (by omega) [] cm trivial h0
  cases e : ru_rd ch l n 0 0 [] 0 with
  | inl e2 =>
    rw [e] at h
    exact h.2 N hN
  | inr z =>
    obtain ⟨c, q⟩ := z
    rw [e] at h
    obtain ⟨a1, a2, D', X, cm', b1, b2, b3, b4, b5, b6⟩ := h
    obtain ⟨m, c1, c2⟩ := b6 N hN
    rw [c2]
    dsimp only
    by_cases hq : q < l
    · rw [if_pos hq]
      cases m with
      | zero => omega
      | succ m =>
        refine sy_stuck hq ?_ (Or.inl rfl)
        have := b4 hq
        rw [if_pos rfl] at this
        by_cases h1 : sy_rk (ch q) = 1
        · exact Or.inr ⟨h1, b5 rfl hq h1⟩
        · exact Or.inl (by omega)
    · rw [if_neg hq, sy_end hq, if_neg (by simp), List.append_nil]
      have := sy_rel_all (D := D') (W := []) (b1.up (r' := 0) (by omega))
      rw [List.append_nil] at this
      rw [this, b2]
      rfl
end SY
/-- what the descent gives can be worked out: one number more -/
def ru_ok (w : List Int32) : Prop := ∀ (as : Nat → Int32) (st : List Int32), ∃ x, ru_ev as w st = some (x :: st)
theorem ru_ev_app (as : Nat → Int32) : ∀ (w w2 st : List Int32), ru_ev as (w ++ w2) st = (ru_ev as w st).bind (ru_ev as w2)
  | [], w2, st => rfl
  | a :: w, w2, st => by
    rw [List.cons_append, ru_ev, ru_ev]
    cases ru_step as a st with
    | none => rfl
    | some s => exact ru_ev_app as w w2 s
