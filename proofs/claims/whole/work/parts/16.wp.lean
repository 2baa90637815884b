/-! ===== what a body does, as a condition of what holds behind it ===== -/
def fd_wp (s : fd_T) (σ : fd_S) (Q : Nat → Value → fd_S → Prop) : Prop := ∃ (z : Nat) (v : Value) (σ' : fd_S), s σ = some ((z, v), σ') ∧ Q z v σ'
def fd_we {α : Type} (e : fd_D α) (σ : fd_S) (P : α → fd_S → Prop) : Prop := ∃ (v : α) (σ' : fd_S), e σ = some (v, σ') ∧ P v σ'
def fd_run (f : List Value → fd_M → Option (Value × fd_M)) (av : List Value) (M : fd_M) (P : Value → fd_M → Prop) : Prop := ∃ (v : Value) (M' : fd_M), f av M = some (v, M') ∧ P v M'
theorem fd_we_some {α : Type} {o : Option (α × fd_S)} {P : α → fd_S → Prop} : (∃ (v : α) (σ' : fd_S), o = some (v, σ') ∧ P v σ') ↔ ∃ u, o = some u ∧ P u.1 u.2 := ⟨fun ⟨v, s, h, p⟩ => ⟨(v, s), h, p⟩, fun ⟨u, h, p⟩ => ⟨u.1, u.2, h, p⟩⟩
theorem fd_we_bind {α β : Type} {a : Option (α × fd_S)} {f : α × fd_S → Option (β × fd_S)} {P : β → fd_S → Prop} : (∃ (v : β) (σ' : fd_S), a.bind f = some (v, σ') ∧ P v σ') ↔ ∃ (u : α) (σ1 : fd_S), a = some (u, σ1) ∧ ∃ (v : β) (σ' : fd_S), f (u, σ1) = some (v, σ') ∧ P v σ' := by
  cases a with
  | none => simp [-Prod.exists]
  | some x =>
    obtain ⟨u, s⟩ := x
    simp [-Prod.exists]
theorem fd_e2 {α : Type} {a : α} {b : fd_S} {P : α → fd_S → Prop} : (∃ (v : α) (σ' : fd_S), (some (a, b) : Option (α × fd_S)) = some (v, σ') ∧ P v σ') ↔ P a b := ⟨fun ⟨v, s, h, p⟩ => by cases h; exact p, fun p => ⟨a, b, rfl, p⟩⟩
theorem fd_e3 {a : Nat} {c : Value} {b : fd_S} {Q : Nat → Value → fd_S → Prop} : (∃ (z : Nat) (v : Value) (σ' : fd_S), (some ((a, c), b) : Option ((Nat × Value) × fd_S)) = some ((z, v), σ') ∧ Q z v σ') ↔ Q a c b := ⟨fun ⟨z, v, s, h, p⟩ => by cases h; exact p, fun p => ⟨a, c, b, rfl, p⟩⟩
section WP
variable {α β γ : Type} {σ : fd_S}
theorem wp_c {x : α} {P : α → fd_S → Prop} : fd_we (fd_c x) σ P ↔ P x σ := by simp only [fd_we, fd_c, fd_e2]
theorem wp_ld {i : Nat} {P : Int32 → fd_S → Prop} : fd_we (fd_ld i) σ P ↔ ∃ x, σ.1[i]? = some (.int x) ∧ P x σ := by
  unfold fd_we fd_ld
  split
  next x hx => rw [hx]; exact ⟨fun h => ⟨x, rfl, fd_e2.mp h⟩, fun ⟨y, e, h⟩ => by cases e; exact fd_e2.mpr h⟩
  next h => simp [-Prod.exists]; intro x hx; exact absurd hx (h x)
theorem wp_ldl {i : Nat} {P : Int64 → fd_S → Prop} : fd_we (fd_ldl i) σ P ↔ ∃ x, σ.1[i]? = some (.long x) ∧ P x σ := by
  unfold fd_we fd_ldl
  split
  next x hx => rw [hx]; exact ⟨fun h => ⟨x, rfl, fd_e2.mp h⟩, fun ⟨y, e, h⟩ => by cases e; exact fd_e2.mpr h⟩
  next h => simp [-Prod.exists]; intro x hx; exact absurd hx (h x)
theorem wp_lda {i : Nat} {P : Nat → fd_S → Prop} : fd_we (fd_lda i) σ P ↔ ∃ x, σ.1[i]? = some (.ref x) ∧ P x σ := by
  unfold fd_we fd_lda
  split
  next x hx => rw [hx]; exact ⟨fun h => ⟨x, rfl, fd_e2.mp h⟩, fun ⟨y, e, h⟩ => by cases e; exact fd_e2.mpr h⟩
  next h => simp [-Prod.exists]; intro x hx; exact absurd hx (h x)
theorem wp_ldn {i : Nat} {P : Option Nat → fd_S → Prop} : fd_we (fd_ldn i) σ P ↔ ∃ x, σ.1[i]? = some (va_rf x) ∧ P x σ := by
  constructor
  · rintro ⟨v, s, h, p⟩
    obtain ⟨h1 | h1, rfl⟩ := fd_ldn_of h
    · obtain ⟨x, rfl, h1⟩ := h1
      exact ⟨some x, h1, p⟩
    · obtain ⟨rfl, h1⟩ := h1
      exact ⟨none, h1, p⟩
  · rintro ⟨x, h, p⟩
    refine ⟨x, σ, ?_, p⟩
    unfold fd_ldn
    cases x <;> simp [va_rf] at h <;> rw [h]
theorem wp_b1 {f : α → γ} {a : fd_D α} {P : γ → fd_S → Prop} : fd_we (fd_b1 f a) σ P ↔ fd_we a σ (fun x s => P (f x) s) := by
  unfold fd_we fd_b1
  rw [fd_we_bind]
  simp only [fd_e2, fd_e3]
theorem wp_b2 {f : α → β → γ} {a : fd_D α} {b : fd_D β} {P : γ → fd_S → Prop} : fd_we (fd_b2 f a b) σ P ↔ fd_we a σ (fun x s => fd_we b s (fun y t => P (f x y) t)) := by
  unfold fd_we fd_b2
  rw [fd_we_bind]
  simp only [fd_we_bind]
  simp only [fd_e2, fd_e3]
theorem wp_b2z {z : α → Bool} {f : α → α → α} {a b : fd_D α} {P : α → fd_S → Prop} : fd_we (fd_b2z z f a b) σ P ↔ fd_we a σ (fun x s => fd_we b s (fun y t => z y = false ∧ P (f x y) t)) := by
  unfold fd_we fd_b2z
  rw [fd_we_bind]
  simp only [fd_we_bind]
  constructor
  · rintro ⟨u, s, h1, u2, s2, h2, v, s3, h3, p⟩
    by_cases hz : z u2 = true
    · simp [hz] at h3
    · simp only [hz, if_false, Option.some.injEq, Prod.mk.injEq] at h3
      obtain ⟨rfl, rfl⟩ := h3
      exact ⟨u, s, h1, u2, s2, h2, by simpa using hz, p⟩
  · rintro ⟨u, s, h1, u2, s2, h2, hz, p⟩
    exact ⟨u, s, h1, u2, s2, h2, _, _, by simp [hz], p⟩
theorem wp_gf {ci j : Nat} {o : fd_D Nat} {P : Int32 → fd_S → Prop} : fd_we (fd_gf ci j o) σ P ↔ fd_we o σ (fun k s => fd_isF k ci j = some 0 ∧ P (s.2.1 k j) s) := by
  unfold fd_we fd_gf
  rw [fd_we_bind]
  constructor
  · rintro ⟨u, s, h1, v, s2, h2, p⟩
    obtain ⟨h3, h4⟩ := fd_if_of h2
    cases h4
    exact ⟨u, _, h1, h3, p⟩
  · rintro ⟨u, s, h1, h3, p⟩
    exact ⟨u, s, h1, _, _, if_pos h3, p⟩
theorem wp_gr {ci j : Nat} {o : fd_D Nat} {P : Nat → fd_S → Prop} : fd_we (fd_gr ci j o) σ P ↔ fd_we o σ (fun k s => ∃ c, fd_rfc (fd_isF k ci j) = some c ∧ P c s) := by
  unfold fd_we fd_gr
  rw [fd_we_bind]
  constructor
  · rintro ⟨u, s, h1, v, s2, h2, p⟩
    obtain ⟨c, h3, h4⟩ := fd_bind_of h2
    cases h4
    exact ⟨u, _, h1, _, h3, p⟩
  · rintro ⟨u, s, h1, c, h3, p⟩
    exact ⟨u, s, h1, c, s, by simp [h3], p⟩
theorem wp_gd {ci j : Nat} {o : fd_D Nat} {P : Option Nat → fd_S → Prop} : fd_we (fd_gd ci j o) σ P ↔ fd_we o σ (fun k s => fd_isF k ci j = some 1 ∧ P (if s.2.1 k j = 0 then none else some ((s.2.1 k j).toNatClampNeg - 1)) s) := by
  unfold fd_we fd_gd
  rw [fd_we_bind]
  constructor
  · rintro ⟨u, s, h1, v, s2, h2, p⟩
    obtain ⟨h3, h4⟩ := fd_if_of h2
    cases h4
    exact ⟨u, _, h1, h3, p⟩
  · rintro ⟨u, s, h1, h3, p⟩
    exact ⟨u, s, h1, _, _, if_pos h3, p⟩
theorem wp_nn {o : fd_D (Option Nat)} {P : Nat → fd_S → Prop} : fd_we (fd_nn o) σ P ↔ fd_we o σ (fun k s => ∃ c, k = some c ∧ P c s) := by
  unfold fd_we fd_nn
  rw [fd_we_bind]
  constructor
  · rintro ⟨u, s, h1, v, s2, h2, p⟩
    obtain ⟨c, h3, h4⟩ := fd_bind_of h2
    cases h4
    exact ⟨u, _, h1, _, h3, p⟩
  · rintro ⟨u, s, h1, c, h3, p⟩
    exact ⟨u, s, h1, c, s, by simp [h3], p⟩
theorem wp_ga {t : Nat} {a : fd_D Nat} {i : fd_D Int32} {P : Int32 → fd_S → Prop} : fd_we (fd_ga t a i) σ P ↔ fd_we a σ (fun k s => fd_we i s (fun x s2 => fd_isA k t x = true ∧ P (s2.2.1 k x.toNatClampNeg) s2)) := by
  unfold fd_we fd_ga
  rw [fd_we_bind]
  simp only [fd_we_bind]
  constructor
  · rintro ⟨u, s, h1, u2, s2, h2, v, s3, h3, p⟩
    obtain ⟨h4, h5⟩ := fd_if_of h3
    cases h5
    exact ⟨u, s, h1, u2, _, h2, h4, p⟩
  · rintro ⟨u, s, h1, u2, s2, h2, h4, p⟩
    exact ⟨u, s, h1, u2, s2, h2, _, _, if_pos h4, p⟩
theorem wp_gl {a : fd_D Nat} {i : fd_D Int32} {P : Int64 → fd_S → Prop} : fd_we (fd_gl a i) σ P ↔ fd_we a σ (fun k s => fd_we i s (fun x s2 => fd_isL k x = true ∧ P (s2.2.2 k x.toNatClampNeg) s2)) := by
  unfold fd_we fd_gl
  rw [fd_we_bind]
  simp only [fd_we_bind]
  constructor
  · rintro ⟨u, s, h1, u2, s2, h2, v, s3, h3, p⟩
    obtain ⟨h4, h5⟩ := fd_if_of h3
    cases h5
    exact ⟨u, s, h1, u2, _, h2, h4, p⟩
  · rintro ⟨u, s, h1, u2, s2, h2, h4, p⟩
    exact ⟨u, s, h1, u2, s2, h2, _, _, if_pos h4, p⟩
theorem wp_gq {t : Nat} {a : fd_D Nat} {i : fd_D Int32} {P : Nat → fd_S → Prop} : fd_we (fd_gq t a i) σ P ↔ fd_we a σ (fun k s => fd_we i s (fun x s2 => ∃ c, fd_isR k t x = some c ∧ P c s2)) := by
  unfold fd_we fd_gq
  rw [fd_we_bind]
  simp only [fd_we_bind]
  constructor
  · rintro ⟨u, s, h1, u2, s2, h2, v, s3, h3, p⟩
    obtain ⟨c, h4, h5⟩ := fd_bind_of h3
    cases h5
    exact ⟨u, s, h1, u2, _, h2, _, h4, p⟩
  · rintro ⟨u, s, h1, u2, s2, h2, c, h4, p⟩
    exact ⟨u, s, h1, u2, s2, h2, c, s2, by simp [h4], p⟩
theorem wp_al2 {a : fd_D Nat} {P : Int32 → fd_S → Prop} : fd_we (fd_al2 a) σ P ↔ fd_we a σ (fun k s => (Nat.blt k fd_N && ((fd_sh k).1 == 1 && Nat.blt (fd_sh k).2.1 4)) = true ∧ P (nI (fd_sh k).2.2.1) s) := by
  unfold fd_we fd_al2
  rw [fd_we_bind]
  constructor
  · rintro ⟨u, s, h1, v, s2, h2, p⟩
    obtain ⟨h3, h4⟩ := fd_if_of h2
    cases h4
    exact ⟨u, _, h1, h3, p⟩
  · rintro ⟨u, s, h1, h3, p⟩
    exact ⟨u, s, h1, _, _, if_pos h3, p⟩
theorem wp_pi {ci j : Nat} {o : fd_D Nat} {P : Int32 → fd_S → Prop} : fd_we (fd_pi ci j o) σ P ↔ fd_we o σ (fun k s => fd_isF k ci j = some 0 ∧ P (s.2.1 k j) (s.1, fd_uI s.2 k j (fd_f_iadd (s.2.1 k j) 1))) := by
  unfold fd_we fd_pi
  rw [fd_we_bind]
  constructor
  · rintro ⟨u, s, h1, v, s2, h2, p⟩
    obtain ⟨h3, h4⟩ := fd_if_of h2
    cases h4
    exact ⟨u, _, h1, h3, p⟩
  · rintro ⟨u, s, h1, h3, p⟩
    exact ⟨u, s, h1, _, _, if_pos h3, p⟩
theorem wp_ltr {a : fd_D Int32} {P : Int32 → fd_S → Prop} : fd_we (fd_ltr a) σ P ↔ fd_we a σ (fun x s => (¬ x < 0 ∧ x.toNatClampNeg < 6) ∧ P (([109, 116, 102, 100, 110, 115] : List Int32).getD x.toNatClampNeg 0) s) := by
  unfold fd_we fd_ltr
  rw [fd_we_bind]
  constructor
  · rintro ⟨u, s, h1, v, s2, h2, p⟩
    obtain ⟨h3, h4⟩ := fd_if_of h2
    cases h4
    exact ⟨u, _, h1, h3, p⟩
  · rintro ⟨u, s, h1, h3, p⟩
    exact ⟨u, s, h1, _, _, if_pos h3, p⟩
theorem wp_ite {c : fd_D Bool} {a b : fd_D α} {P : α → fd_S → Prop} : fd_we (fd_ite c a b) σ P ↔ fd_we c σ (fun t s => if t = true then fd_we a s P else fd_we b s P) := by
  unfold fd_we fd_ite
  rw [fd_we_bind]
  constructor <;> rintro ⟨u, s, h1, h2⟩ <;> refine ⟨u, s, h1, ?_⟩ <;> cases u <;> simp only [Bool.false_eq_true, if_false, if_true, fd_e2, fd_e3] at h2 ⊢ <;> exact h2
theorem wp_and {a b : fd_D Bool} {P : Bool → fd_S → Prop} : fd_we (fd_and a b) σ P ↔ fd_we a σ (fun t s => if t = true then fd_we b s P else P false s) := by
  unfold fd_we fd_and
  rw [fd_we_bind]
  constructor <;> rintro ⟨u, s, h1, h2⟩ <;> refine ⟨u, s, h1, ?_⟩ <;> cases u <;> simp only [Bool.false_eq_true, if_false, if_true, fd_e2, fd_e3] at h2 ⊢ <;> exact h2
theorem wp_or {a b : fd_D Bool} {P : Bool → fd_S → Prop} : fd_we (fd_or a b) σ P ↔ fd_we a σ (fun t s => if t = true then P true s else fd_we b s P) := by
  unfold fd_we fd_or
  rw [fd_we_bind]
  constructor <;> rintro ⟨u, s, h1, h2⟩ <;> refine ⟨u, s, h1, ?_⟩ <;> cases u <;> simp only [Bool.false_eq_true, if_false, if_true, fd_e2, fd_e3] at h2 ⊢ <;> exact h2
theorem wp_not {a : fd_D Bool} {P : Bool → fd_S → Prop} : fd_we (fd_not a) σ P ↔ fd_we a σ (fun t s => P (!t) s) := by
  unfold fd_we fd_not
  rw [fd_we_bind]
  simp only [fd_e2, fd_e3]
theorem wp_cmp {S : Int32 → Int32 → Bool} {a b : fd_D Int32} {P : Bool → fd_S → Prop} : fd_we (fd_cmp S a b) σ P ↔ fd_we a σ (fun x s => fd_we b s (fun y t => P (S x y) t)) := by
  unfold fd_we fd_cmp
  rw [fd_we_bind]
  simp only [fd_we_bind]
  simp only [fd_e2, fd_e3]
theorem wp_cmz {S : Int32 → Int32 → Bool} {a : fd_D Int32} {P : Bool → fd_S → Prop} : fd_we (fd_cmz S a) σ P ↔ fd_we a σ (fun x s => P (S x 0) s) := by
  unfold fd_we fd_cmz
  rw [fd_we_bind]
  simp only [fd_e2, fd_e3]
theorem wp_isn {o : fd_D (Option Nat)} {P : Bool → fd_S → Prop} : fd_we (fd_isn o) σ P ↔ fd_we o σ (fun x s => P x.isNone s) := by
  unfold fd_we fd_isn
  rw [fd_we_bind]
  simp only [fd_e2, fd_e3]
theorem wp_nsn {o : fd_D (Option Nat)} {P : Bool → fd_S → Prop} : fd_we (fd_nsn o) σ P ↔ fd_we o σ (fun x s => P x.isSome s) := by
  unfold fd_we fd_nsn
  rw [fd_we_bind]
  simp only [fd_e2, fd_e3]
theorem wp_a0 {P : List Value → fd_S → Prop} : fd_we fd_a0 σ P ↔ P [] σ := by simp only [fd_we, fd_a0, fd_e2]
theorem wp_a1 {vl : α → Value} {as : fd_D (List Value)} {a : fd_D α} {P : List Value → fd_S → Prop} : fd_we (fd_a1 vl as a) σ P ↔ fd_we as σ (fun l s => fd_we a s (fun x t => P (l ++ [vl x]) t)) := by
  unfold fd_we fd_a1
  rw [fd_we_bind]
  simp only [fd_we_bind]
  simp only [fd_e2, fd_e3]
def fd_ok1 (ci na : Nat) : List Value → Bool
  | .ref o :: r => fd_isO o ci && r.length == na
  | _ => false
theorem wp_cv {ci na : Nat} {f : List Value → fd_M → Option (Value × fd_M)} {as : fd_D (List Value)} {P : Value → fd_S → Prop} : fd_we (fd_cv ci na f as) σ P ↔ fd_we as σ (fun av s => fd_ok1 ci na av = true ∧ fd_run f av s.2 (fun v M => P v (s.1, M))) := by
  unfold fd_we fd_cv fd_run
  rw [fd_we_bind]
  constructor
  · rintro ⟨u, s, h1, v, s2, h2, p⟩
    refine ⟨u, s, h1, ?_⟩
    dsimp only at h2
    split at h2
    next o r =>
      obtain ⟨⟨h3, h4⟩, h5⟩ := fd_if_of h2
      obtain ⟨z, h6, h7⟩ := fd_bind_of h5
      cases h7
      exact ⟨by simp [fd_ok1, h3, h4], z.1, z.2, h6, p⟩
    next => cases h2
  · rintro ⟨u, s, h1, h2, v, M, h3, p⟩
    refine ⟨u, s, h1, v, (s.1, M), ?_, p⟩
    dsimp only
    split
    next o r =>
      simp only [fd_ok1, Bool.and_eq_true, beq_iff_eq] at h2
      rw [if_pos h2, h3]
      rfl
    next h =>
      unfold fd_ok1 at h2
      split at h2
      next o r => exact absurd rfl (h o r)
      next => cases h2
theorem wp_cs {na : Nat} {f : List Value → fd_M → Option (Value × fd_M)} {as : fd_D (List Value)} {P : Value → fd_S → Prop} : fd_we (fd_cs na f as) σ P ↔ fd_we as σ (fun av s => av.length = na ∧ fd_run f av s.2 (fun v M => P v (s.1, M))) := by
  unfold fd_we fd_cs fd_run
  rw [fd_we_bind]
  constructor
  · rintro ⟨u, s, h1, v, s2, h2, p⟩
    obtain ⟨h3, h5⟩ := fd_if_of h2
    obtain ⟨z, h6, h7⟩ := fd_bind_of h5
    cases h7
    exact ⟨u, s, h1, h3, z.1, z.2, h6, p⟩
  · rintro ⟨u, s, h1, h2, v, M, h3, p⟩
    exact ⟨u, s, h1, v, (s.1, M), by dsimp only; rw [if_pos h2, h3]; rfl, p⟩
theorem wp_as {c : Value → Option α} {e : fd_D Value} {P : α → fd_S → Prop} : fd_we (fd_as c e) σ P ↔ fd_we e σ (fun v s => ∃ x, c v = some x ∧ P x s) := by
  unfold fd_we fd_as
  rw [fd_we_bind]
  constructor
  · rintro ⟨u, s, h1, v, s2, h2, p⟩
    obtain ⟨x, h6, h7⟩ := fd_bind_of h2
    cases h7
    exact ⟨u, _, h1, _, h6, p⟩
  · rintro ⟨u, s, h1, x, h3, p⟩
    exact ⟨u, s, h1, x, s, by simp [h3], p⟩
theorem wp_dr {c : Value → Option α} {e : fd_D Value} {P : Value → fd_S → Prop} : fd_we (fd_dr c e) σ P ↔ fd_we (fd_as c e) σ (fun _ s => P fd_jk s) := by
  unfold fd_dr fd_we
  rw [fd_we_bind]
  simp only [fd_e2, fd_e3]
/-! statements -/
theorem wp_sk {Q : Nat → Value → fd_S → Prop} : fd_wp fd_sk σ Q ↔ Q 0 fd_jk σ := by simp only [fd_wp, fd_sk, fd_e3]
theorem wp_brk {Q : Nat → Value → fd_S → Prop} : fd_wp fd_brk σ Q ↔ Q 2 fd_jk σ := by simp only [fd_wp, fd_brk, fd_e3]
theorem wp_cnt {Q : Nat → Value → fd_S → Prop} : fd_wp fd_cnt σ Q ↔ Q 3 fd_jk σ := by simp only [fd_wp, fd_cnt, fd_e3]
theorem wp_rV {Q : Nat → Value → fd_S → Prop} : fd_wp fd_rV σ Q ↔ Q 1 fd_jk σ := by simp only [fd_wp, fd_rV, fd_e3]
theorem fd_wp_bind {α : Type} {a : Option (α × fd_S)} {f : α × fd_S → Option ((Nat × Value) × fd_S)} {Q : Nat → Value → fd_S → Prop} : (∃ (z : Nat) (v : Value) (σ' : fd_S), a.bind f = some ((z, v), σ') ∧ Q z v σ') ↔ ∃ (u : α) (σ1 : fd_S), a = some (u, σ1) ∧ ∃ (z : Nat) (v : Value) (σ' : fd_S), f (u, σ1) = some ((z, v), σ') ∧ Q z v σ' := by
  cases a with
  | none => simp [-Prod.exists]
  | some x =>
    obtain ⟨u, s⟩ := x
    exact ⟨fun h => ⟨u, s, rfl, h⟩, fun ⟨u2, s2, e, h⟩ => by cases e; exact h⟩
theorem wp_seq {a b : fd_T} {Q : Nat → Value → fd_S → Prop} : fd_wp (fd_seq a b) σ Q ↔ fd_wp a σ (fun z v s => if z = 0 then fd_wp b s Q else Q z v s) := by
  unfold fd_wp fd_seq
  rw [fd_wp_bind]
  constructor
  · rintro ⟨⟨z1, v1⟩, s, h1, h2⟩
    refine ⟨z1, v1, s, h1, ?_⟩
    by_cases hz : z1 = 0
    · subst hz
      simp only [if_true] at h2 ⊢
      exact h2
    · simp only [if_neg hz, fd_e3] at h2 ⊢
      exact h2
  · rintro ⟨z1, v1, s, h1, h2⟩
    refine ⟨(z1, v1), s, h1, ?_⟩
    by_cases hz : z1 = 0
    · subst hz
      simp only [if_true] at h2 ⊢
      exact h2
    · simp only [if_neg hz, fd_e3] at h2 ⊢
      exact h2
theorem wp_iff {c : fd_D Bool} {a b : fd_T} {Q : Nat → Value → fd_S → Prop} : fd_wp (fd_iff c a b) σ Q ↔ fd_we c σ (fun t s => if t = true then fd_wp a s Q else fd_wp b s Q) := by
  unfold fd_wp fd_iff fd_we
  rw [fd_wp_bind]
  constructor <;> rintro ⟨u, s, h1, h2⟩ <;> refine ⟨u, s, h1, ?_⟩ <;> cases u <;> simp only [Bool.false_eq_true, if_false, if_true, fd_e2, fd_e3] at h2 ⊢ <;> exact h2
theorem wp_sI {i : Nat} {a : fd_D Int32} {Q : Nat → Value → fd_S → Prop} : fd_wp (fd_sI i a) σ Q ↔ fd_we a σ (fun x s => Q 0 fd_jk (fd_st1 s.1 i (.int x), s.2)) := by
  unfold fd_wp fd_sI fd_we
  rw [fd_wp_bind]
  simp only [fd_e2, fd_e3]
theorem wp_sL {i : Nat} {a : fd_D Int64} {Q : Nat → Value → fd_S → Prop} : fd_wp (fd_sL i a) σ Q ↔ fd_we a σ (fun x s => Q 0 fd_jk (fd_st2 s.1 i (.long x), s.2)) := by
  unfold fd_wp fd_sL fd_we
  rw [fd_wp_bind]
  simp only [fd_e2, fd_e3]
theorem wp_sN {i : Nat} {a : fd_D (Option Nat)} {Q : Nat → Value → fd_S → Prop} : fd_wp (fd_sN i a) σ Q ↔ fd_we a σ (fun x s => Q 0 fd_jk (fd_st1 s.1 i (va_rf x), s.2)) := by
  unfold fd_wp fd_sN fd_we
  rw [fd_wp_bind]
  simp only [fd_e2, fd_e3]
theorem wp_inc {i : Nat} {y : Int32} {Q : Nat → Value → fd_S → Prop} : fd_wp (fd_inc i y) σ Q ↔ fd_we (fd_ld i) σ (fun x s => Q 0 fd_jk (fd_st1 s.1 i (.int (x + y)), s.2)) := by
  unfold fd_wp fd_inc fd_we
  rw [fd_wp_bind]
  simp only [fd_e2, fd_e3]
theorem wp_do {e : fd_D Value} {Q : Nat → Value → fd_S → Prop} : fd_wp (fd_do e) σ Q ↔ fd_we e σ (fun _ s => Q 0 fd_jk s) := by
  unfold fd_wp fd_do fd_we
  rw [fd_wp_bind]
  simp only [fd_e2, fd_e3]
theorem wp_rI {a : fd_D Int32} {Q : Nat → Value → fd_S → Prop} : fd_wp (fd_rI a) σ Q ↔ fd_we a σ (fun x s => Q 1 (.int x) s) := by
  unfold fd_wp fd_rI fd_we
  rw [fd_wp_bind]
  simp only [fd_e2, fd_e3]
theorem wp_rL {a : fd_D Int64} {Q : Nat → Value → fd_S → Prop} : fd_wp (fd_rL a) σ Q ↔ fd_we a σ (fun x s => Q 1 (.long x) s) := by
  unfold fd_wp fd_rL fd_we
  rw [fd_wp_bind]
  simp only [fd_e2, fd_e3]
theorem wp_rN {a : fd_D (Option Nat)} {Q : Nat → Value → fd_S → Prop} : fd_wp (fd_rN a) σ Q ↔ fd_we a σ (fun x s => Q 1 (va_rf x) s) := by
  unfold fd_wp fd_rN fd_we
  rw [fd_wp_bind]
  simp only [fd_e2, fd_e3]
theorem wp_if1 {α : Type} {c : Prop} {dc : Decidable c} {o : Option ((Nat × Value) × fd_S)} {Q : Nat → Value → fd_S → Prop} : (∃ (z : Nat) (v : Value) (σ' : fd_S), (if c then o else none) = some ((z, v), σ') ∧ Q z v σ') ↔ c ∧ ∃ (z : Nat) (v : Value) (σ' : fd_S), o = some ((z, v), σ') ∧ Q z v σ' := by
  by_cases hc : c <;> simp [-Prod.exists, hc]
theorem wp_rZ {a : fd_D Int32} {Q : Nat → Value → fd_S → Prop} : fd_wp (fd_rZ a) σ Q ↔ fd_we a σ (fun x s => (x = 0 ∨ x = 1) ∧ Q 1 (.int x) s) := by
  unfold fd_wp fd_rZ fd_we
  rw [fd_wp_bind]
  simp only [wp_if1 (α := Unit)]
  simp only [fd_e2, fd_e3]
theorem wp_pf {ci j : Nat} {o : fd_D Nat} {a : fd_D Int32} {Q : Nat → Value → fd_S → Prop} : fd_wp (fd_pf ci j o a) σ Q ↔ fd_we o σ (fun k s => fd_we a s (fun x t => fd_isF k ci j = some 0 ∧ Q 0 fd_jk (t.1, fd_uI t.2 k j x))) := by
  unfold fd_wp fd_pf fd_we
  rw [fd_wp_bind]
  simp only [fd_wp_bind, wp_if1 (α := Unit)]
  simp only [fd_e2, fd_e3]
theorem wp_pz {ci j : Nat} {o : fd_D Nat} {a : fd_D Int32} {Q : Nat → Value → fd_S → Prop} : fd_wp (fd_pz ci j o a) σ Q ↔ fd_we o σ (fun k s => fd_we a s (fun x t => (fd_isF k ci j = some 0 ∧ (x = 0 ∨ x = 1)) ∧ Q 0 fd_jk (t.1, fd_uI t.2 k j x))) := by
  unfold fd_wp fd_pz fd_we
  rw [fd_wp_bind]
  simp only [fd_wp_bind, wp_if1 (α := Unit)]
  simp only [fd_e2, fd_e3]
theorem wp_pd {ci j : Nat} {o a : fd_D Nat} {Q : Nat → Value → fd_S → Prop} : fd_wp (fd_pd ci j o a) σ Q ↔ fd_we o σ (fun k s => fd_we a s (fun x t => (fd_isF k ci j = some 1 ∧ x < 1000) ∧ Q 0 fd_jk (t.1, fd_uI t.2 k j (nI (x + 1))))) := by
  unfold fd_wp fd_pd fd_we
  rw [fd_wp_bind]
  simp only [fd_wp_bind, wp_if1 (α := Unit)]
  simp only [fd_e2, fd_e3]
theorem wp_po {ci j : Nat} {f : Int32 → Int32 → Int32} {o : fd_D Nat} {a : fd_D Int32} {Q : Nat → Value → fd_S → Prop} : fd_wp (fd_po ci j f o a) σ Q ↔ fd_we o σ (fun k s => fd_isF k ci j = some 0 ∧ fd_we a s (fun x t => Q 0 fd_jk (t.1, fd_uI t.2 k j (f (s.2.1 k j) x)))) := by
  unfold fd_wp fd_po fd_we
  rw [fd_wp_bind]
  simp only [fd_wp_bind, wp_if1 (α := Unit)]
  simp only [fd_e2, fd_e3]
theorem wp_obind {α : Type} {a : Option α} {f : α → Option ((Nat × Value) × fd_S)} {Q : Nat → Value → fd_S → Prop} : (∃ (z : Nat) (v : Value) (σ' : fd_S), a.bind f = some ((z, v), σ') ∧ Q z v σ') ↔ ∃ u, a = some u ∧ ∃ (z : Nat) (v : Value) (σ' : fd_S), f u = some ((z, v), σ') ∧ Q z v σ' := by
  cases a <;> simp [-Prod.exists]
theorem wp_pa {t0 : Nat} {sv : Int32 → Option Int32} {a : fd_D Nat} {i b : fd_D Int32} {Q : Nat → Value → fd_S → Prop} : fd_wp (fd_pa t0 sv a i b) σ Q ↔ fd_we a σ (fun k s => fd_we i s (fun x t => fd_we b t (fun y w => fd_isA k t0 x = true ∧ ∃ y2, sv y = some y2 ∧ Q 0 fd_jk (w.1, fd_uI w.2 k x.toNatClampNeg y2)))) := by
  unfold fd_wp fd_pa fd_we
  rw [fd_wp_bind]
  simp only [fd_wp_bind, wp_if1 (α := Unit), wp_obind]
  simp only [fd_e2, fd_e3]
theorem wp_pl {a : fd_D Nat} {i : fd_D Int32} {b : fd_D Int64} {Q : Nat → Value → fd_S → Prop} : fd_wp (fd_pl a i b) σ Q ↔ fd_we a σ (fun k s => fd_we i s (fun x t => fd_we b t (fun y w => fd_isL k x = true ∧ Q 0 fd_jk (w.1, fd_uL w.2 k x.toNatClampNeg y)))) := by
  unfold fd_wp fd_pl fd_we
  rw [fd_wp_bind]
  simp only [fd_wp_bind, wp_if1 (α := Unit), wp_obind]
  simp only [fd_e2, fd_e3]
theorem wp_pao {f : Int32 → Int32 → Int32} {a : fd_D Nat} {i b : fd_D Int32} {Q : Nat → Value → fd_S → Prop} : fd_wp (fd_pao f a i b) σ Q ↔ fd_we a σ (fun k s => fd_we i s (fun x t => fd_isA k 0 x = true ∧ fd_we b t (fun y w => Q 0 fd_jk (w.1, fd_uI w.2 k x.toNatClampNeg (f (t.2.1 k x.toNatClampNeg) y))))) := by
  unfold fd_wp fd_pao fd_we
  rw [fd_wp_bind]
  simp only [fd_wp_bind, wp_if1 (α := Unit), wp_obind]
  simp only [fd_e2, fd_e3]
theorem wp_tsw {lo hi : Int} {e : fd_D Int32} {brs : List fd_T} {sd : fd_T} {Q : Nat → Value → fd_S → Prop} : fd_wp (fd_tsw lo hi e brs sd) σ Q ↔ fd_we e σ (fun x s => if x.toInt < lo ∨ hi < x.toInt then fd_wp sd s Q else ∃ b, brs[(x.toInt - lo).toNat]? = some b ∧ fd_wp b s Q) := by
  unfold fd_wp fd_tsw fd_we
  rw [fd_wp_bind]
  constructor
  · rintro ⟨u, s, h1, h2⟩
    refine ⟨u, s, h1, ?_⟩
    by_cases hc : u.toInt < lo ∨ hi < u.toInt
    · simpa [hc] using h2
    · simp only [hc, if_false, wp_obind] at h2 ⊢
      exact h2
  · rintro ⟨u, s, h1, h2⟩
    refine ⟨u, s, h1, ?_⟩
    by_cases hc : u.toInt < lo ∨ hi < u.toInt
    · simpa [hc] using h2
    · simp only [hc, if_false, wp_obind] at h2 ⊢
      exact h2
theorem wp_lsw {e : fd_D Int32} {brs : List (Int × fd_T)} {sd : fd_T} {Q : Nat → Value → fd_S → Prop} : fd_wp (fd_lsw brs e sd) σ Q ↔ fd_we e σ (fun x s => fd_wp (fd_lk brs sd x.toInt) s Q) := by
  unfold fd_wp fd_lsw fd_we
  rw [fd_wp_bind]
theorem wp_fn {n : Nat} {body : fd_T} {av : List Value} {M : fd_M} {P : Value → fd_M → Prop} : fd_run (fd_fn n body) av M P ↔ (fd_in0 n av).length = n ∧ fd_wp body (fd_in0 n av, M) (fun z v s => z = 1 ∧ P v s.2) := by
  unfold fd_run fd_fn fd_wp
  constructor
  · rintro ⟨v, M', h1, p⟩
    obtain ⟨h2, h3⟩ := fd_if_of h1
    obtain ⟨⟨⟨z, v2⟩, s⟩, h4, h5⟩ := fd_bind_of h3
    obtain ⟨h6, h7⟩ := fd_if_of h5
    cases h7
    exact ⟨h2, z, v2, s, h4, h6, p⟩
  · rintro ⟨h1, z, v, s, h2, h3, p⟩
    subst h3
    exact ⟨v, s.2, by rw [if_pos h1, h2]; rfl, p⟩
theorem wp_mono {s : fd_T} {Q Q' : Nat → Value → fd_S → Prop} (h : fd_wp s σ Q) (hq : ∀ z v t, Q z v t → Q' z v t) : fd_wp s σ Q' := by
  obtain ⟨z, v, t, h1, h2⟩ := h
  exact ⟨z, v, t, h1, hq z v t h2⟩
/-- a loop: what is left to do gets less -/
theorem wp_whl {c : fd_D Bool} {b u : fd_T} {Q : Nat → Value → fd_S → Prop} (I : Nat → fd_S → Prop) (hs : ∀ (k : Nat) (σ : fd_S), I k σ → fd_we c σ (fun t s => if t = true then fd_wp b s (fun z v s2 => if z = 0 ∨ z = 3 then fd_wp u s2 (fun z3 _ s3 => z3 = 0 ∧ ∃ k', k' < k ∧ I k' s3) else if z = 2 then Q 0 fd_jk s2 else Q z v s2) else Q 0 fd_jk s)) : ∀ (N m : Nat) (σ : fd_S), m < N → I m σ → fd_wp (fd_whl c b u N) σ Q
  | 0, m, σ, h, _ => absurd h (Nat.not_lt_zero m)
  | N + 1, m, σ, h, hI => by
    obtain ⟨t, s, h1, h2⟩ := hs m σ hI
    cases t with
    | false => exact ⟨0, fd_jk, s, by simp [fd_whl, h1], by simpa using h2⟩
    | true =>
      rw [if_pos rfl] at h2
      obtain ⟨z, v, s2, h3, h4⟩ := h2
      by_cases hz : z = 0 ∨ z = 3
      · rw [if_pos hz] at h4
        obtain ⟨z3, v3, s3, h5, h6, k', h7, h8⟩ := h4
        obtain ⟨z4, v4, s4, h9, h10⟩ := wp_whl I hs N k' s3 (by omega) h8
        exact ⟨z4, v4, s4, by simp [fd_whl, h1, h3, hz, h5, h6, h9], h10⟩
      · rw [if_neg hz] at h4
        by_cases hz2 : z = 2
        · rw [if_pos hz2] at h4
          exact ⟨0, fd_jk, s2, by simp [fd_whl, h1, h3, hz2], h4⟩
        · rw [if_neg hz2] at h4
          exact ⟨z, v, s2, by simp [fd_whl, h1, h3, hz, hz2], h4⟩
end WP
