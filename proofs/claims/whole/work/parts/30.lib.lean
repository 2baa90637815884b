/-! ===== WHAT THE CALLS STAND ON: small facts on numbers, bits, loops, what is touched ===== -/
theorem fa_lit (n : Nat) : (OfNat.ofNat n : Int32) = nI n := rfl
theorem fa_litL (n : Nat) : (OfNat.ofNat n : Int64) = lN n := rfl
theorem fa_lt (a b : Int32) : a < b ↔ a.toInt < b.toInt := Int32.lt_iff_toInt_lt
theorem fa_le (a b : Int32) : a ≤ b ↔ a.toInt ≤ b.toInt := Int32.le_iff_toInt_le
theorem fa_eq (a b : Int32) : a = b ↔ a.toInt = b.toInt := Int32.toInt_inj.symm
theorem fa_and (a b : Nat) : nI a &&& nI b = nI (a &&& b) := by
  apply Int32.toBitVec_inj.1
  show BitVec.ofNat 32 a &&& BitVec.ofNat 32 b = BitVec.ofNat 32 (a &&& b)
  apply BitVec.eq_of_getLsbD_eq
  intro i hi
  simp [hi]
theorem fa_or (a b : Nat) : nI a ||| nI b = nI (a ||| b) := by
  apply Int32.toBitVec_inj.1
  show BitVec.ofNat 32 a ||| BitVec.ofNat 32 b = BitVec.ofNat 32 (a ||| b)
  apply BitVec.eq_of_getLsbD_eq
  intro i hi
  simp [hi]
theorem fa_xor (a b : Nat) : nI a ^^^ nI b = nI (a ^^^ b) := by
  apply Int32.toBitVec_inj.1
  show BitVec.ofNat 32 a ^^^ BitVec.ofNat 32 b = BitVec.ofNat 32 (a ^^^ b)
  apply BitVec.eq_of_getLsbD_eq
  intro i hi
  simp [hi]
theorem fa_shl : ∀ k, k < 31 → (1 : Int32) <<< (nI k &&& 31) = nI (2 ^ k) := by decide +kernel
theorem fa_sl : ∀ n, n < 32 → ((nI n &&& 31).toBitVec.smod 32).toNat = n := by decide +kernel
theorem fa_tb {a k : Nat} (hk : k < 31) : (nI a >>> (nI k &&& 31)) &&& 1 = if a.testBit k = true then 1 else 0 := by
  apply Int32.toBitVec_inj.1
  apply BitVec.eq_of_getLsbD_eq
  intro i hi
  rw [Int32.toBitVec_and, BitVec.getLsbD_and, Int32.toBitVec_shiftRight]
  show ((BitVec.sshiftRight (BitVec.ofNat 32 a) ((nI k &&& 31).toBitVec.smod 32).toNat).getLsbD i && _) = _
  rw [fa_sl k (by omega), BitVec.getLsbD_sshiftRight]
  have h1 : (1 : Int32).toBitVec.getLsbD i = decide (i = 0) := by
    revert i
    decide +kernel
  rw [h1]
  by_cases h0 : i = 0
  · subst h0
    have h2 : k < 32 := by omega
    have e : (BitVec.ofNat 32 a).getLsbD k = a.testBit k := by
      rw [BitVec.getLsbD_ofNat]
      simp [h2]
    rcases Bool.eq_false_or_eq_true (a.testBit k) with hb | hb
    · simp [hb, h2]
      exact e.trans hb
    · simp [hb, h2]
      exact e.trans hb
  · have h3 : ((if a.testBit k = true then (1 : Int32) else 0).toBitVec.getLsbD i) = false := by
      by_cases hb : a.testBit k = true
      · rw [if_pos hb, h1]; simp [h0]
      · rw [if_neg hb]; exact BitVec.getLsbD_zero
    rw [h3]
    simp [h0]
/-- the bits below n of which p holds -/
def bq (p : Nat → Bool) : Nat → Nat
  | 0 => 0
  | n + 1 => bq p n ||| (if p n = true then 2 ^ n else 0)
theorem bq_tb (p : Nat → Bool) (k : Nat) : ∀ n, (bq p n).testBit k = (decide (k < n) && p k)
  | 0 => by simp [bq]
  | n + 1 => by
    rw [bq, Nat.testBit_or, bq_tb p k n]
    by_cases hp : p n = true
    · rw [if_pos hp, Nat.testBit_two_pow]
      by_cases hk : n = k
      · subst hk; simp [hp]
      · have : decide (k < n + 1) = decide (k < n) := by simp; omega
        rw [this]; simp [hk]
    · rw [if_neg hp]
      by_cases hk : n = k
      · subst hk; simp [hp]
      · have : decide (k < n + 1) = decide (k < n) := by simp; omega
        rw [this]; simp
theorem bq_lt (p : Nat → Bool) (n : Nat) : bq p n < 2 ^ n := Nat.lt_pow_two_of_testBit _ fun i hi => by
  rw [bq_tb]
  simp [Nat.not_lt.mpr hi]
theorem bq_cong {p q : Nat → Bool} : ∀ {n : Nat}, (∀ k, k < n → p k = q k) → bq p n = bq q n
  | 0, _ => rfl
  | n + 1, h => by rw [bq, bq, bq_cong fun k hk => h k (by omega), h n (by omega)]
theorem bq_or (p : Nat → Bool) {n : Nat} (hn : n < 31) : nI (bq p n) ||| (if p n = true then (1 : Int32) <<< (nI n &&& 31) else 0) = nI (bq p (n + 1)) := by
  rw [bq]
  by_cases hp : p n = true
  · rw [if_pos hp, if_pos hp, fa_shl n hn, fa_or]
  · rw [if_neg hp, if_neg hp]
    show nI (bq p n) ||| nI 0 = _
    rw [fa_or]
theorem tb_ext {a b n : Nat} (ha : a < 2 ^ n) (hb : b < 2 ^ n) (h : ∀ k, k < n → a.testBit k = b.testBit k) : a = b := Nat.eq_of_testBit_eq fun i => by
  by_cases hi : i < n
  · exact h i hi
  · rw [Nat.testBit_lt_two_pow (Nat.lt_of_lt_of_le ha (Nat.pow_le_pow_right (by decide) (by omega))), Nat.testBit_lt_two_pow (Nat.lt_of_lt_of_le hb (Nat.pow_le_pow_right (by decide) (by omega)))]
/-! one call, as a row that rewrites -/
theorem fd_run_of {f : List Value → fd_M → Option (Value × fd_M)} {av : List Value} {M : fd_M} {a : Value} {b : fd_M} {P : Value → fd_M → Prop} (h : f av M = some (a, b)) : fd_run f av M P ↔ P a b := by
  unfold fd_run
  rw [h]
  exact ⟨fun ⟨v, M', e, p⟩ => by cases e; exact p, fun p => ⟨a, b, rfl, p⟩⟩
theorem fd_run_mono {f : List Value → fd_M → Option (Value × fd_M)} {av : List Value} {M : fd_M} {P P' : Value → fd_M → Prop} (h : fd_run f av M P) (hp : ∀ v M', P v M' → P' v M') : fd_run f av M P' := by
  obtain ⟨v, M', h1, h2⟩ := h
  exact ⟨v, M', h1, hp _ _ h2⟩
theorem fd_of_run {f : List Value → fd_M → Option (Value × fd_M)} {av : List Value} {M : fd_M} {a : Value} {b : fd_M} (h : fd_run f av M (fun v M' => v = a ∧ M' = b)) : f av M = some (a, b) := by
  obtain ⟨v, M', h, rfl, rfl⟩ := h
  exact h
/-! reading behind writing -/
theorem rd_I (M : fd_M) (k j a i : Nat) (x : Int32) : (fd_uI M k j x).1 a i = if a = k then (if i = j then x else M.1 k i) else M.1 a i := by
  unfold fd_uI
  by_cases h : a = k
  · simp [h]
  · simp [h]
theorem rd_I2 (M : fd_M) (k j : Nat) (x : Int32) : (fd_uI M k j x).2 = M.2 := rfl
theorem rd_L (M : fd_M) (k j a i : Nat) (x : Int64) : (fd_uL M k j x).2 a i = if a = k then (if i = j then x else M.2 k i) else M.2 a i := by
  unfold fd_uL
  by_cases h : a = k
  · simp [h]
  · simp [h]
theorem rd_L1 (M : fd_M) (k j : Nat) (x : Int64) : (fd_uL M k j x).1 = M.1 := rfl
/-! a loop that counts -/
theorem fd_fu_lt {n : Nat} (h : n < 900000) : n < fd_fu := by unfold fd_fu; omega
theorem wp_for {c : fd_D Bool} {b u : fd_T} {Q : Nat → Value → fd_S → Prop} (n : Nat) (J : Nat → fd_S → Prop) {k N : Nat} {σ : fd_S} (hN : n < N) (hk : k ≤ n) (h : J k σ)
    (hs : ∀ (k : Nat) (σ : fd_S), k < n → J k σ → fd_we c σ (fun t s => t = true ∧ fd_wp b s (fun z v s2 => if z = 0 ∨ z = 3 then fd_wp u s2 (fun z3 _ s3 => z3 = 0 ∧ J (k + 1) s3) else if z = 2 then Q 0 fd_jk s2 else Q z v s2)))
    (he : ∀ σ : fd_S, J n σ → fd_we c σ (fun t s => t = false ∧ Q 0 fd_jk s)) : fd_wp (fd_whl c b u N) σ Q := by
  refine wp_whl (fun m σ => ∃ k, k ≤ n ∧ m = n - k ∧ J k σ) (fun m σ hI => ?_) N (n - k) σ (by omega) ⟨k, hk, rfl, h⟩
  obtain ⟨k, hk, rfl, hJ⟩ := hI
  by_cases hkn : k = n
  · subst hkn
    obtain ⟨t, s, h1, h2, h3⟩ := he σ hJ
    subst h2
    exact ⟨false, s, h1, by simpa using h3⟩
  · obtain ⟨t, s, h1, h2, h3⟩ := hs k σ (by omega) hJ
    subst h2
    refine ⟨true, s, h1, ?_⟩
    dsimp only
    rw [if_pos rfl]
    refine wp_mono h3 (fun z v s2 h4 => ?_)
    by_cases hz : z = 0 ∨ z = 3
    · rw [if_pos hz] at h4 ⊢
      exact wp_mono h4 (fun z3 v3 s3 h5 => ⟨h5.1, n - (k + 1), by omega, k + 1, by omega, rfl, h5.2⟩)
    · rw [if_neg hz] at h4 ⊢
      exact h4
/-! what is touched: each place has a part of the invariant (0: none) -/
def cl_182 (j : Nat) : Nat := if j = 14 then 1 else if j = 16 then 2 else if j = 1 ∨ j = 3 then 3 else if j = 5 then 4 else if 9 ≤ j ∧ j ≤ 12 then 5 else if j = 30 then 6 else if j = 34 then 8 else if j = 58 then 9 else if j = 53 then 10 else 0
def cl (k j : Nat) : Nat :=
  if k = 182 then cl_182 j
  else if k = 1 then (if j = 1 then 1 else 0) else if k = 2 ∨ k = 189 then 1
  else if k = 3 ∨ k = 4 ∨ k = 190 then 2
  else if k = 5 then (if j ≤ 1 then 3 else 0) else if (6 ≤ k ∧ k ≤ 29) ∨ k = 184 ∨ k = 185 ∨ k = 193 then 3
  else if k = 30 then 5
  else if k = 31 then (if j = 0 then 4 else 0) else if (32 ≤ k ∧ k ≤ 34) ∨ (186 ≤ k ∧ k ≤ 188) then 4
  else if k = 35 then (if j = 1 then 6 else 0) else if k = 36 ∨ k = 195 then 6
  else if k = 42 then (if j = 7 then 0 else 7) else if k = 43 ∨ k = 44 ∨ k = 183 then 7
  else if k = 51 ∨ (88 ≤ k ∧ k ≤ 93) ∨ (214 ≤ k ∧ k ≤ 216) then 9
  else if (48 ≤ k ∧ k ≤ 87) ∨ k = 197 then 8
  else if k = 156 then (if j = 0 then 10 else 0) else if (158 ≤ k ∧ k ≤ 165) ∨ k = 168 ∨ k = 207 ∨ k = 208 ∨ k = 209 then 10
  else if k = 167 then (if j < 8 then 10 else 0) else 0
/-- only places of the parts S were written -/
def fd_sm (S : List Nat) (M M' : fd_M) : Prop := ∀ k j, ¬ cl k j ∈ S → M'.1 k j = M.1 k j ∧ M'.2 k j = M.2 k j
theorem fd_sm.rf {S : List Nat} {M : fd_M} : fd_sm S M M := fun _ _ _ => ⟨rfl, rfl⟩
theorem fd_sm.tr {S : List Nat} {M M' M'' : fd_M} (h : fd_sm S M M') (h2 : fd_sm S M' M'') : fd_sm S M M'' := fun k j hk => ⟨(h2 k j hk).1.trans (h k j hk).1, (h2 k j hk).2.trans (h k j hk).2⟩
theorem fd_sm.up {S S' : List Nat} {M M' : fd_M} (h : fd_sm S M M') (hs : ∀ x ∈ S, x ∈ S') : fd_sm S' M M' := fun k j hk => h k j (fun q => hk (hs _ q))
theorem fd_sm.uI {S : List Nat} {M M' : fd_M} {k j : Nat} {x : Int32} (h : fd_sm S M M') (hk : cl k j ∈ S) : fd_sm S M (fd_uI M' k j x) := fun a i ha => by
  rw [rd_I, rd_I2]
  by_cases h1 : a = k
  · rw [if_pos h1]
    by_cases h2 : i = j
    · subst h1; subst h2; exact absurd hk ha
    · subst h1; rw [if_neg h2]; exact h a i ha
  · rw [if_neg h1]; exact h a i ha
theorem fd_sm.uL {S : List Nat} {M M' : fd_M} {k j : Nat} {x : Int64} (h : fd_sm S M M') (hk : cl k j ∈ S) : fd_sm S M (fd_uL M' k j x) := fun a i ha => by
  rw [rd_L, rd_L1]
  by_cases h1 : a = k
  · rw [if_pos h1]
    by_cases h2 : i = j
    · subst h1; subst h2; exact absurd hk ha
    · subst h1; rw [if_neg h2]; exact h a i ha
  · rw [if_neg h1]; exact h a i ha
/-! the calculus without binders: a state is (locals, memory) -/
def xI : List Value → Nat → Int32
  | [], _ => 0
  | .int x :: _, 0 => x
  | _ :: _, 0 => 0
  | _ :: r, i + 1 => xI r i
def xL : List Value → Nat → Int64
  | [], _ => 0
  | .long x :: _, 0 => x
  | _ :: _, 0 => 0
  | _ :: r, i + 1 => xL r i
def xR : List Value → Nat → Nat
  | [], _ => 0
  | .ref x :: _, 0 => x
  | _ :: _, 0 => 0
  | _ :: r, i + 1 => xR r i
/-- 0 none, 1 an int, 2 a long, 3 a reference -/
def xK : List Value → Nat → Nat
  | [], _ => 0
  | .int _ :: _, 0 => 1
  | .long _ :: _, 0 => 2
  | .ref _ :: _, 0 => 3
  | _ :: _, 0 => 0
  | _ :: r, i + 1 => xK r i
theorem xK_1 : ∀ (L : List Value) (i : Nat) (x : Int32), L[i]? = some (.int x) ↔ xK L i = 1 ∧ xI L i = x
  | [], i, x => by simp [xK]
  | a :: r, 0, x => by cases a <;> simp [xK, xI]
  | a :: r, i + 1, x => by
    rw [List.getElem?_cons_succ, xK_1 r i x]
    cases a <;> rfl
theorem xK_2 : ∀ (L : List Value) (i : Nat) (x : Int64), L[i]? = some (.long x) ↔ xK L i = 2 ∧ xL L i = x
  | [], i, x => by simp [xK]
  | a :: r, 0, x => by cases a <;> simp [xK, xL]
  | a :: r, i + 1, x => by
    rw [List.getElem?_cons_succ, xK_2 r i x]
    cases a <;> rfl
theorem xK_3 : ∀ (L : List Value) (i : Nat) (x : Nat), L[i]? = some (.ref x) ↔ xK L i = 3 ∧ xR L i = x
  | [], i, x => by simp [xK]
  | a :: r, 0, x => by cases a <;> simp [xK, xR]
  | a :: r, i + 1, x => by
    rw [List.getElem?_cons_succ, xK_3 r i x]
    cases a <;> rfl
section WQ
variable {α : Type} {L : List Value} {M : fd_M}
theorem wq_ld {i : Nat} {P : Int32 → fd_S → Prop} : fd_we (fd_ld i) (L, M) P ↔ xK L i = 1 ∧ P (xI L i) (L, M) := by
  rw [wp_ld]
  constructor
  · rintro ⟨x, h, p⟩
    obtain ⟨h1, rfl⟩ := (xK_1 L i x).mp h
    exact ⟨h1, p⟩
  · rintro ⟨h, p⟩
    exact ⟨_, (xK_1 L i _).mpr ⟨h, rfl⟩, p⟩
theorem wq_ldl {i : Nat} {P : Int64 → fd_S → Prop} : fd_we (fd_ldl i) (L, M) P ↔ xK L i = 2 ∧ P (xL L i) (L, M) := by
  rw [wp_ldl]
  constructor
  · rintro ⟨x, h, p⟩
    obtain ⟨h1, rfl⟩ := (xK_2 L i x).mp h
    exact ⟨h1, p⟩
  · rintro ⟨h, p⟩
    exact ⟨_, (xK_2 L i _).mpr ⟨h, rfl⟩, p⟩
theorem wq_lda {i : Nat} {P : Nat → fd_S → Prop} : fd_we (fd_lda i) (L, M) P ↔ xK L i = 3 ∧ P (xR L i) (L, M) := by
  rw [wp_lda]
  constructor
  · rintro ⟨x, h, p⟩
    obtain ⟨h1, rfl⟩ := (xK_3 L i x).mp h
    exact ⟨h1, p⟩
  · rintro ⟨h, p⟩
    exact ⟨_, (xK_3 L i _).mpr ⟨h, rfl⟩, p⟩
theorem wq_c {x : α} {P : α → fd_S → Prop} : fd_we (fd_c x) (L, M) P ↔ P x (L, M) := wp_c
def xG (o : Option Nat) : Nat := o.getD 0
theorem xG_ex {o : Option Nat} {Q : Nat → Prop} : (∃ c, o = some c ∧ Q c) ↔ o.isSome = true ∧ Q (xG o) := by
  cases o <;> simp [xG]
theorem wq_gr {ci j : Nat} {o : fd_D Nat} {P : Nat → fd_S → Prop} {σ : fd_S} : fd_we (fd_gr ci j o) σ P ↔ fd_we o σ (fun k s => (fd_rfc (fd_isF k ci j)).isSome = true ∧ P (xG (fd_rfc (fd_isF k ci j))) s) := by
  rw [wp_gr]
  simp only [xG_ex]
theorem wq_gq {t : Nat} {a : fd_D Nat} {i : fd_D Int32} {P : Nat → fd_S → Prop} {σ : fd_S} : fd_we (fd_gq t a i) σ P ↔ fd_we a σ (fun k s => fd_we i s (fun x s2 => (fd_isR k t x).isSome = true ∧ P (xG (fd_isR k t x)) s2)) := by
  rw [wp_gq]
  simp only [xG_ex]
theorem wq_nn {o : fd_D (Option Nat)} {P : Nat → fd_S → Prop} {σ : fd_S} : fd_we (fd_nn o) σ P ↔ fd_we o σ (fun k s => k.isSome = true ∧ P (xG k) s) := by
  rw [wp_nn]
  simp only [xG_ex]
/-- what a call answers, as an int or a long -/
def yI : Value → Int32
  | .int x => x
  | _ => 0
def yL : Value → Int64
  | .long x => x
  | _ => 0
def yN : Value → Option Nat
  | .ref x => some x
  | _ => none
theorem wq_asI {e : fd_D Value} {P : Int32 → fd_S → Prop} {σ : fd_S} : fd_we (fd_as fd_vI e) σ P ↔ fd_we e σ (fun v s => (fd_vI v).isSome = true ∧ P (yI v) s) := by
  rw [wp_as]
  have : ∀ v : Value, ∀ s : fd_S, (∃ x, fd_vI v = some x ∧ P x s) ↔ (fd_vI v).isSome = true ∧ P (yI v) s := fun v s => by cases v <;> simp [fd_vI, yI]
  simp only [this]
theorem wq_asL {e : fd_D Value} {P : Int64 → fd_S → Prop} {σ : fd_S} : fd_we (fd_as fd_vL e) σ P ↔ fd_we e σ (fun v s => (fd_vL v).isSome = true ∧ P (yL v) s) := by
  rw [wp_as]
  have : ∀ v : Value, ∀ s : fd_S, (∃ x, fd_vL v = some x ∧ P x s) ↔ (fd_vL v).isSome = true ∧ P (yL v) s := fun v s => by cases v <;> simp [fd_vL, yL]
  simp only [this]
theorem wq_asN {e : fd_D Value} {P : Option Nat → fd_S → Prop} {σ : fd_S} : fd_we (fd_as fd_vN e) σ P ↔ fd_we e σ (fun v s => (fd_vN v).isSome = true ∧ P (yN v) s) := by
  rw [wp_as]
  have : ∀ v : Value, ∀ s : fd_S, (∃ x, fd_vN v = some x ∧ P x s) ↔ (fd_vN v).isSome = true ∧ P (yN v) s := fun v s => by cases v <;> simp [fd_vN, yN]
  simp only [this]
theorem wq_pa {t0 : Nat} {sv : Int32 → Option Int32} {a : fd_D Nat} {i b : fd_D Int32} {Q : Nat → Value → fd_S → Prop} {σ : fd_S} : fd_wp (fd_pa t0 sv a i b) σ Q ↔ fd_we a σ (fun k s => fd_we i s (fun x t => fd_we b t (fun y w => fd_isA k t0 x = true ∧ (sv y).isSome = true ∧ Q 0 fd_jk (w.1, fd_uI w.2 k x.toNatClampNeg ((sv y).getD 0))))) := by
  rw [wp_pa]
  have : ∀ (y : Int32) (R : Int32 → Prop), (∃ y2, sv y = some y2 ∧ R y2) ↔ (sv y).isSome = true ∧ R ((sv y).getD 0) := fun y R => by cases sv y <;> simp
  simp only [this]
/-- a step of a sequence, with what holds between -/
theorem wp_cut {a b : fd_T} {σ : fd_S} {Q : Nat → Value → fd_S → Prop} (R : fd_S → Prop) (h1 : fd_wp a σ (fun z _ s => z = 0 ∧ R s)) (h2 : ∀ s, R s → fd_wp b s Q) : fd_wp (fd_seq a b) σ Q := by
  rw [wp_seq]
  refine wp_mono h1 (fun z v t h => ?_)
  rw [if_pos h.1]
  exact h2 t h.2
end WQ
theorem nI_fmin {a b : Nat} (ha : a < 2147483648) (hb : b < 2147483648) : fd_f_min (nI a) (nI b) = nI (min a b) := by
  unfold fd_f_min
  by_cases h : b < a
  · rw [if_pos (nI_lt h (by omega)), Nat.min_eq_right (by omega)]
  · rw [if_neg (nI_nlt (by omega) (by omega)), Nat.min_eq_left (by omega)]
theorem nI_fmax {a b : Nat} (ha : a < 2147483648) (hb : b < 2147483648) : fd_f_max (nI a) (nI b) = nI (max a b) := by
  unfold fd_f_max
  by_cases h : a < b
  · rw [if_pos (nI_lt h (by omega)), Nat.max_eq_right (by omega)]
  · rw [if_neg (nI_nlt (by omega) (by omega)), Nat.max_eq_left (by omega)]
theorem nI_mul (a b : Nat) : nI a * nI b = nI (a * b) := by
  apply Int32.toBitVec_inj.1
  show BitVec.ofNat 32 a * BitVec.ofNat 32 b = BitVec.ofNat 32 (a * b)
  rw [BitVec.ofNat_mul]
/-- only these cells of ints were written -/
def fd_on (S : List Nat) (M M' : fd_M) : Prop := (∀ k j, ¬ k ∈ S → M'.1 k j = M.1 k j) ∧ M'.2 = M.2
theorem fd_on.rf {S : List Nat} {M : fd_M} : fd_on S M M := ⟨fun _ _ _ => rfl, rfl⟩
theorem fd_on.tr {S : List Nat} {M M' M'' : fd_M} (h : fd_on S M M') (h2 : fd_on S M' M'') : fd_on S M M'' := ⟨fun k j hk => (h2.1 k j hk).trans (h.1 k j hk), h2.2.trans h.2⟩
theorem fd_on.up {S S' : List Nat} {M M' : fd_M} (h : fd_on S M M') (hs : ∀ x ∈ S, x ∈ S') : fd_on S' M M' := ⟨fun k j hk => h.1 k j (fun q => hk (hs _ q)), h.2⟩
theorem fd_on.uI {S : List Nat} {M M' : fd_M} {k j : Nat} {x : Int32} (h : fd_on S M M') (hk : k ∈ S) : fd_on S M (fd_uI M' k j x) := ⟨fun a i ha => by
  rw [rd_I, if_neg (fun e => ha (by rw [e]; exact hk))]
  exact h.1 a i ha, h.2⟩
theorem fd_on.sm {S T : List Nat} {M M' : fd_M} (h : fd_on S M M') (hs : ∀ k ∈ S, ∀ j, cl k j ∈ T) : fd_sm T M M' := fun k j hk => ⟨h.1 k j (fun q => hk (hs k q j)), by rw [h.2]⟩
theorem fb_bmod {z : Int} (h1 : -2147483648 ≤ z) (h2 : z < 2147483648) : z.bmod (2 ^ 32) = z := by
  rw [Int.bmod_def]
  split <;> omega
theorem le_cases (a b : Int32) : (a ≤ b ∧ ¬ b < a) ∨ (¬ a ≤ b ∧ b < a) := by
  by_cases h : a ≤ b
  · exact Or.inl ⟨h, Int32.not_lt.mpr h⟩
  · exact Or.inr ⟨h, Int32.not_le.mp h⟩
theorem lt_cases (a b : Int32) : (a < b ∧ ¬ b ≤ a) ∨ (¬ a < b ∧ b ≤ a) := by
  by_cases h : a < b
  · exact Or.inl ⟨h, Int32.not_le.mpr h⟩
  · exact Or.inr ⟨h, Int32.not_lt.mp h⟩
theorem lt_self (a : Int32) : ¬ a < a := Int32.lt_irrefl
