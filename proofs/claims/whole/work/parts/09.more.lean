/-! ===== what the printed walks use besides ===== -/
section FDZ
variable {X : fd_X} {n d : Nat} {Q : State → Prop} {cc : ByteArray} {own : String} {rt : Option FieldType} {k p q r : Nat} {Rt : Value → fd_M → Prop} {qb qc : Nat}
/-- how often a loop may go round: no loop here comes near it -/
def fd_fu : Nat := 1000000
theorem fd_gotr {t : Nat} (h1 : fd_Go X n Q p q) (h2 : fd_Go X n Q q t) : fd_Go X n Q p t := fun st σ h => h1 st σ (h2 st σ h)
theorem fd_ego {α : Type} {inj : α → Value} {e : fd_D α} (h : fd_Ev X n Q inj k p q e) (hg : fd_Go X n Q q r) : fd_Ev X n Q inj k p r e := fun st σ σ' v hct he kk => h st σ σ' v hct he (hg _ _ kk)
theorem fd_esome {e : fd_D Nat} (h : fd_Ev X n Q (fd_r (fd_b X)) k p q e) : fd_Ev X n Q (fd_n (fd_b X)) k p q (fd_b1 some e) := by
  intro st σ σ' v hct he kk
  obtain ⟨⟨u, σ1⟩, e1, e2⟩ := fd_bind_of he
  cases e2
  exact h st σ _ u hct e1 kk
theorem fd_null (F : fd_F X cc own n rt d) (hd : decode cc p = .ok (.aconst_null, 1)) : fd_Ev X n Q (fd_n (fd_b X)) k p (p + 1) (fd_c (none : Option Nat)) := by
  obtain ⟨g, pr, l, e, R, s, m, args, below, meth, c, cells, slots⟩ := X
  obtain ⟨hx, hb, hml, hown, hts, hK, hbs, hcl, hsl, hr, hlk, hfr, hlo⟩ := F
  intro st σ σ' v hct he kk H locs ls hW hS hL
  cases he
  exact lv_null hx hb hd (kk H locs ls hW hS hL)
theorem fd_sgoR {s : fd_T} (h : fd_St X n Q Rt p q qb qc s) (hg : fd_Go X n Q q r) : fd_St X n Q Rt p r qb qc s := by
  intro σ σ' z v he kk
  refine h σ σ' z v he ?_
  by_cases hz : z = 0
  · subst hz
    unfold fd_Ex
    rw [if_pos rfl]
    exact hg _ _ (fd_Ex0 kk)
  · exact fd_Exn hz kk
theorem fd_nu_sk : ∀ (σ : fd_S) (z : Nat) (v : Value) (σ' : fd_S), fd_sk σ = some ((z, v), σ') → z = 0 := fun σ z v σ' h => by cases h; rfl
theorem fd_nu_inc (i : Nat) (y : Int32) : ∀ (σ : fd_S) (z : Nat) (v : Value) (σ' : fd_S), fd_inc i y σ = some ((z, v), σ') → z = 0 := fun σ z v σ' h => by
  obtain ⟨u, h1, h2⟩ := fd_bind_of h
  cases h2
  rfl
/-- a field's old value, and it is one more -/
def fd_pi (ci j : Nat) (o : fd_D Nat) : fd_D Int32 := fun σ => (o σ).bind fun u => if fd_isF u.1 ci j = some 0 then some (u.2.2.1 u.1 j, (u.2.1, fd_uI u.2.2 u.1 j (fd_f_iadd (u.2.2.1 u.1 j) 1))) else none
theorem fd_posti (F : fd_F X cc own n rt d) {idx ci j t : Nat} {o : fd_D Nat} (ho : fd_Ev X n Q (fd_r (fd_b X)) k p q o) (h1 : decode cc q = .ok (.dup, 1)) (h2 : decode cc (q + 1) = .ok (.getfield idx, 3)) (h3 : decode cc (q + 4) = .ok (.dup_x1, 1)) (h4 : ∀ k : Nat, fd_Ev X n Q fd_i k (q + 5) r (fd_c (1 : Int32))) (hop : fd_O2 X n Q fd_i fd_i fd_i r t fd_f_iadd) (hd : decode cc t = .ok (.putfield idx, 3)) (hl : fd_Fl own idx ci j) (hp : fd_Fp ci j .int) : fd_Ev X n Q fd_i k p (t + 3) (fd_pi ci j o) := by
  intro st σ σ' v hct he kk
  obtain ⟨⟨u, σ1⟩, e1, e2⟩ := fd_bind_of he
  obtain ⟨h5, e3⟩ := fd_if_of e2
  cases e3
  exact ho st σ _ u hct e1 (fd_rdup F h1 rfl (fd_rget F hl h2 h5 (fd_rdupx1 F h3 rfl rfl (h4 _ _ _ _ 1 (Nat.le_refl _) rfl (hop _ _ _ _ (fd_rput F hl hp hd h5 rfl rfl rfl kk))))))
def fd_dr {α : Type} (c : Value → Option α) (e : fd_D Value) : fd_D Value := fun σ => (fd_as c e σ).bind fun u => some (fd_jk, u.2)
/-! null or not -/
def fd_isn (o : fd_D (Option Nat)) : fd_D Bool := fun σ => (o σ).bind fun u => some (u.1.isNone, u.2)
def fd_nsn (o : fd_D (Option Nat)) : fd_D Bool := fun σ => (o σ).bind fun u => some (u.1.isSome, u.2)
theorem fd_rnull (F : fd_F X cc own n rt d) {off : Int} {j : Nat} {st : List Value} {σ : fd_S} {v : Option Nat} (hd : decode cc p = .ok (.ifnull off, 3)) (ht : (p : Int) + off = (j : Int)) (kk : fd_W X n Q (if v.isNone then j else p + 3) st σ) : fd_W X n Q p (fd_n (fd_b X) v :: st) σ := by
  obtain ⟨g, pr, l, e, R, s, m, args, below, meth, c, cells, slots⟩ := X
  obtain ⟨hx, hb, hml, hown, hts, hK, hbs, hcl, hsl, hr, hlk, hfr, hlo⟩ := F
  intro H locs ls hW hS hL
  cases v with
  | none => exact lv_ifnullN hx hb hd ht (kk H locs ls hW hS hL)
  | some x => exact lv_ifnull hx hb hd (kk H locs ls hW hS hL)
theorem fd_rnonnull (F : fd_F X cc own n rt d) {off : Int} {j : Nat} {st : List Value} {σ : fd_S} {v : Option Nat} (hd : decode cc p = .ok (.ifnonnull off, 3)) (ht : (p : Int) + off = (j : Int)) (kk : fd_W X n Q (if v.isSome then j else p + 3) st σ) : fd_W X n Q p (fd_n (fd_b X) v :: st) σ := by
  obtain ⟨g, pr, l, e, R, s, m, args, below, meth, c, cells, slots⟩ := X
  obtain ⟨hx, hb, hml, hown, hts, hK, hbs, hcl, hsl, hr, hlk, hfr, hlo⟩ := F
  intro H locs ls hW hS hL
  cases v with
  | none => exact lv_ifnonnullN hx hb hd (kk H locs ls hW hS hL)
  | some x => exact lv_ifnonnull hx hb hd ht (kk H locs ls hW hS hL)
theorem fd_cjnull_t (F : fd_F X cc own n rt d) {off : Int} {j : Nat} {o : fd_D (Option Nat)} (h1 : fd_Ev X n Q (fd_n (fd_b X)) k p q o) (hd : decode cc q = .ok (.ifnull off, 3)) (ht : (q : Int) + off = (j : Int)) : fd_Cj X n Q k p j (q + 3) (fd_isn o) := by
  intro st σ σ' v hct he kk
  obtain ⟨⟨u, σ1⟩, e1, e2⟩ := fd_bind_of he
  cases e2
  exact h1 st σ _ u hct e1 (fd_rnull F hd ht kk)
theorem fd_cjnull_f (F : fd_F X cc own n rt d) {off : Int} {j : Nat} {o : fd_D (Option Nat)} (h1 : fd_Ev X n Q (fd_n (fd_b X)) k p q o) (hd : decode cc q = .ok (.ifnull off, 3)) (ht : (q : Int) + off = (j : Int)) : fd_Cj X n Q k p (q + 3) j (fd_nsn o) := by
  intro st σ σ' v hct he kk
  obtain ⟨⟨u, σ1⟩, e1, e2⟩ := fd_bind_of he
  cases e2
  refine h1 st σ _ u hct e1 (fd_rnull F hd ht ?_)
  cases u <;> exact kk
theorem fd_cjnonnull_t (F : fd_F X cc own n rt d) {off : Int} {j : Nat} {o : fd_D (Option Nat)} (h1 : fd_Ev X n Q (fd_n (fd_b X)) k p q o) (hd : decode cc q = .ok (.ifnonnull off, 3)) (ht : (q : Int) + off = (j : Int)) : fd_Cj X n Q k p j (q + 3) (fd_nsn o) := by
  intro st σ σ' v hct he kk
  obtain ⟨⟨u, σ1⟩, e1, e2⟩ := fd_bind_of he
  cases e2
  exact h1 st σ _ u hct e1 (fd_rnonnull F hd ht kk)
theorem fd_cjnonnull_f (F : fd_F X cc own n rt d) {off : Int} {j : Nat} {o : fd_D (Option Nat)} (h1 : fd_Ev X n Q (fd_n (fd_b X)) k p q o) (hd : decode cc q = .ok (.ifnonnull off, 3)) (ht : (q : Int) + off = (j : Int)) : fd_Cj X n Q k p (q + 3) j (fd_isn o) := by
  intro st σ σ' v hct he kk
  obtain ⟨⟨u, σ1⟩, e1, e2⟩ := fd_bind_of he
  cases e2
  refine h1 st σ _ u hct e1 (fd_rnonnull F hd ht ?_)
  cases u <;> exact kk
/-! Math -/
def fd_f_max (x y : Int32) : Int32 := if x < y then y else x
def fd_f_min (x y : Int32) : Int32 := if y < x then y else x
def fd_f_maxl (x y : Int64) : Int64 := if y < x then x else y
def fd_f_minl (x y : Int64) : Int64 := if y < x then y else x
theorem fd_mathw : Cond.static Lib.Math.max.name ∈ fd_TB ∧ Cond.static Lib.Math.min.name ∈ fd_TB ∧ Cond.static Lib.MathLoose.max_long.x ∈ fd_TB ∧ Cond.static Lib.MathLoose.min_long.x ∈ fd_TB ∧ Cond.initialized "java/lang/Math" ∈ fd_TB ∧ Cond.code Lib.Math.max.name Lib.Math.max.code 2 (some .int) ∈ fd_TB ∧ Cond.code Lib.Math.min.name Lib.Math.min.code 2 (some .int) ∈ fd_TB ∧ Cond.code Lib.MathLoose.max_long.x Lib.MathLoose.max_long.code 4 (some .long) ∈ fd_TB ∧ Cond.code Lib.MathLoose.min_long.x Lib.MathLoose.min_long.code 4 (some .long) ∈ fd_TB := ⟨fd_tbi 759 (by decide +kernel) rfl, fd_tbi 542 (by decide +kernel) rfl, fd_tbi 865 (by decide +kernel) rfl, fd_tbi 862 (by decide +kernel) rfl, fd_tbi 116 (by decide +kernel) rfl, fd_tbi 760 (by decide +kernel) rfl, fd_tbi 543 (by decide +kernel) rfl, fd_tbi 866 (by decide +kernel) rfl, fd_tbi 863 (by decide +kernel) rfl⟩
theorem fd_mmax (F : fd_F X cc own n rt d) (hd1 : 1 ≤ d) {a b : fd_D Int32} {idx : Nat} (h1 : fd_Ev X n Q fd_i k p q a) (h2 : fd_Ev X n Q fd_i (k + 1) q r b) (hk : k ≤ 8) (hd : decode cc r = .ok (.invokestatic idx, 3)) (hl : Cond.methodLink own idx Lib.Math.max.name ∈ fd_TB) : fd_Ev X n Q fd_i k p (r + 3) (fd_b2 fd_f_max a b) := by
  intro st σ σ' v hct he kk
  obtain ⟨⟨u, σ1⟩, e1, e2⟩ := fd_bind_of he
  obtain ⟨⟨y, σ2⟩, e3, e4⟩ := fd_bind_of e2
  cases e4
  refine h1 st σ σ1 u hct e1 (h2 (fd_i u :: st) σ1 σ2 y (by rw [fd_ct_cons]; show 1 + _ ≤ _; omega) e3 ?_)
  obtain ⟨g, pr, l, e, R, s, m, args, below, meth, c, cells, slots⟩ := X
  obtain ⟨hx, hb, hml, hown, hts, hK, hbs, hcl, hsl, hr, hlk, hfr, hlo⟩ := F
  intro H locs ls hW hS hL
  exact va_mmax hx hb (hml.trans hL.1.symm) hown (hts _ hl) (hts _ fd_mathw.1) (hts _ fd_mathw.2.2.2.2.1) (hts _ fd_mathw.2.2.2.2.2.1) (by omega) (by have : (st.map fun v => v.category).sum ≤ 8 := Nat.le_trans hct hk; omega) hcl hsl hd (kk H locs ls hW hS hL)
theorem fd_mmin (F : fd_F X cc own n rt d) (hd1 : 1 ≤ d) {a b : fd_D Int32} {idx : Nat} (h1 : fd_Ev X n Q fd_i k p q a) (h2 : fd_Ev X n Q fd_i (k + 1) q r b) (hk : k ≤ 8) (hd : decode cc r = .ok (.invokestatic idx, 3)) (hl : Cond.methodLink own idx Lib.Math.min.name ∈ fd_TB) : fd_Ev X n Q fd_i k p (r + 3) (fd_b2 fd_f_min a b) := by
  intro st σ σ' v hct he kk
  obtain ⟨⟨u, σ1⟩, e1, e2⟩ := fd_bind_of he
  obtain ⟨⟨y, σ2⟩, e3, e4⟩ := fd_bind_of e2
  cases e4
  refine h1 st σ σ1 u hct e1 (h2 (fd_i u :: st) σ1 σ2 y (by rw [fd_ct_cons]; show 1 + _ ≤ _; omega) e3 ?_)
  obtain ⟨g, pr, l, e, R, s, m, args, below, meth, c, cells, slots⟩ := X
  obtain ⟨hx, hb, hml, hown, hts, hK, hbs, hcl, hsl, hr, hlk, hfr, hlo⟩ := F
  intro H locs ls hW hS hL
  exact va_mmin hx hb (hml.trans hL.1.symm) hown (hts _ hl) (hts _ fd_mathw.2.1) (hts _ fd_mathw.2.2.2.2.1) (hts _ fd_mathw.2.2.2.2.2.2.1) (by omega) (by have : (st.map fun v => v.category).sum ≤ 8 := Nat.le_trans hct hk; omega) hcl hsl hd (kk H locs ls hW hS hL)
theorem fd_mmaxl (F : fd_F X cc own n rt d) (hd1 : 1 ≤ d) {a b : fd_D Int64} {idx : Nat} (h1 : fd_Ev X n Q fd_l k p q a) (h2 : fd_Ev X n Q fd_l (k + 2) q r b) (hk : k ≤ 8) (hd : decode cc r = .ok (.invokestatic idx, 3)) (hl : Cond.methodLink own idx Lib.MathLoose.max_long.x ∈ fd_TB) : fd_Ev X n Q fd_l k p (r + 3) (fd_b2 fd_f_maxl a b) := by
  intro st σ σ' v hct he kk
  obtain ⟨⟨u, σ1⟩, e1, e2⟩ := fd_bind_of he
  obtain ⟨⟨y, σ2⟩, e3, e4⟩ := fd_bind_of e2
  cases e4
  refine h1 st σ σ1 u hct e1 (h2 (fd_l u :: st) σ1 σ2 y (by rw [fd_ct_cons]; show 2 + _ ≤ _; omega) e3 ?_)
  obtain ⟨g, pr, l, e, R, s, m, args, below, meth, c, cells, slots⟩ := X
  obtain ⟨hx, hb, hml, hown, hts, hK, hbs, hcl, hsl, hr, hlk, hfr, hlo⟩ := F
  intro H locs ls hW hS hL
  exact va_mmax_long hx hb (hml.trans hL.1.symm) hown (hts _ hl) (hts _ fd_mathw.2.2.1) (hts _ fd_mathw.2.2.2.2.1) (hts _ fd_mathw.2.2.2.2.2.2.2.1) (by omega) (by have : (st.map fun v => v.category).sum ≤ 8 := Nat.le_trans hct hk; omega) hcl hsl hd (kk H locs ls hW hS hL)
theorem fd_mminl (F : fd_F X cc own n rt d) (hd1 : 1 ≤ d) {a b : fd_D Int64} {idx : Nat} (h1 : fd_Ev X n Q fd_l k p q a) (h2 : fd_Ev X n Q fd_l (k + 2) q r b) (hk : k ≤ 8) (hd : decode cc r = .ok (.invokestatic idx, 3)) (hl : Cond.methodLink own idx Lib.MathLoose.min_long.x ∈ fd_TB) : fd_Ev X n Q fd_l k p (r + 3) (fd_b2 fd_f_minl a b) := by
  intro st σ σ' v hct he kk
  obtain ⟨⟨u, σ1⟩, e1, e2⟩ := fd_bind_of he
  obtain ⟨⟨y, σ2⟩, e3, e4⟩ := fd_bind_of e2
  cases e4
  refine h1 st σ σ1 u hct e1 (h2 (fd_l u :: st) σ1 σ2 y (by rw [fd_ct_cons]; show 2 + _ ≤ _; omega) e3 ?_)
  obtain ⟨g, pr, l, e, R, s, m, args, below, meth, c, cells, slots⟩ := X
  obtain ⟨hx, hb, hml, hown, hts, hK, hbs, hcl, hsl, hr, hlk, hfr, hlo⟩ := F
  intro H locs ls hW hS hL
  exact va_mmin_long hx hb (hml.trans hL.1.symm) hown (hts _ hl) (hts _ fd_mathw.2.2.2.1) (hts _ fd_mathw.2.2.2.2.1) (hts _ fd_mathw.2.2.2.2.2.2.2.2) (by omega) (by have : (st.map fun v => v.category).sum ≤ 8 := Nat.le_trans hct hk; omega) hcl hsl hd (kk H locs ls hW hS hL)
/-! switches -/
def fd_Sl (X : fd_X) (n : Nat) (Q : State → Prop) (Rt : Value → fd_M → Prop) (q qb qc : Nat) : List Nat → List fd_T → Prop
  | [], [] => True
  | t :: ts, b :: bs => fd_St X n Q Rt t q qb qc b ∧ fd_Sl X n Q Rt q qb qc ts bs
  | _, _ => False
theorem fd_sln : fd_Sl X n Q Rt q qb qc [] [] := trivial
theorem fd_slc {t : Nat} {ts : List Nat} {b : fd_T} {bs : List fd_T} (h : fd_St X n Q Rt t q qb qc b) (h2 : fd_Sl X n Q Rt q qb qc ts bs) : fd_Sl X n Q Rt q qb qc (t :: ts) (b :: bs) := ⟨h, h2⟩
theorem fd_sl_at : ∀ (ts : List Nat) (bs : List fd_T) (i t : Nat) (b : fd_T), fd_Sl X n Q Rt q qb qc ts bs → ts[i]? = some t → bs[i]? = some b → fd_St X n Q Rt t q qb qc b
  | t :: ts, b :: bs, 0, t2, b2, h, h1, h2 => by cases h1; cases h2; exact h.1
  | t :: ts, b :: bs, i + 1, t2, b2, h, h1, h2 => fd_sl_at ts bs i t2 b2 h.2 h1 h2
  | [], _, i, t2, b2, _, h1, _ => by simp at h1
  | _ :: _, [], i, t2, b2, h, _, _ => absurd h id
def fd_tsw (lo hi : Int) (e : fd_D Int32) (brs : List fd_T) (sd : fd_T) : fd_T := fun σ => (e σ).bind fun u => if u.1.toInt < lo ∨ hi < u.1.toInt then sd u.2 else (brs[(u.1.toInt - lo).toNat]?).bind fun b => b u.2
theorem fd_stsw (F : fd_F X cc own n rt d) {lo hi dflt : Int} {offs : Array Int} {len td : Nat} {e : fd_D Int32} {tg : List Nat} {brs : List fd_T} {sd : fd_T} (he : fd_Ev X n Q fd_i 0 p q e) (hd : decode cc q = .ok (.tableswitch dflt lo hi offs, len)) (h1 : offs.toList.map (fun o => (q : Int) + o) = tg.map Int.ofNat) (h2 : (q : Int) + dflt = (td : Int)) (h3 : (tg.length : Int) = hi - lo + 1) (hb : fd_Sl X n Q Rt r qb qc tg brs) (hs : fd_St X n Q Rt td r qb qc sd) : fd_St X n Q Rt p r qb qc (fd_tsw lo hi e brs sd) := by
  intro σ σ' z v he0 kk
  obtain ⟨⟨u, σ1⟩, e1, e2⟩ := fd_bind_of he0
  refine he [] σ σ1 u (Nat.le_refl 0) e1 ?_
  dsimp only at e2
  by_cases hc : u.toInt < lo ∨ hi < u.toInt
  · rw [if_pos hc] at e2
    have kk := hs σ1 σ' z v e2 kk
    obtain ⟨g, pr, l, e, R, s, m, args, below, meth, c, cells, slots⟩ := X
    obtain ⟨hx, hb, hml, hown, hts, hK, hbs, hcl, hsl, hr, hlk, hfr, hlo⟩ := F
    intro H locs ls hW hS hL
    exact lv_tableOut hx hb hd hc h2 (kk H locs ls hW hS hL)
  · rw [if_neg hc] at e2
    obtain ⟨b, e3, e4⟩ := fd_bind_of e2
    have hlt : (u.toInt - lo).toNat < tg.length := by omega
    obtain ⟨t, ht⟩ : ∃ t, tg[(u.toInt - lo).toNat]? = some t := ⟨_, List.getElem?_eq_getElem hlt⟩
    have h4 : (offs.toList.map (fun o => (q : Int) + o))[(u.toInt - lo).toNat]? = some (t : Int) := by
      rw [h1, List.getElem?_map, ht]
      rfl
    rw [List.getElem?_map] at h4
    obtain ⟨off, h5, h6⟩ := Option.map_eq_some_iff.mp h4
    rw [Array.getElem?_toList] at h5
    have kk := fd_sl_at _ _ _ _ _ hb ht e3 σ1 σ' z v e4 kk
    obtain ⟨g, pr, l, e, R, s, m, args, below, meth, c, cells, slots⟩ := X
    obtain ⟨hx, hb, hml, hown, hts, hK, hbs, hcl, hsl, hr, hlk, hfr, hlo⟩ := F
    intro H locs ls hW hS hL
    exact lv_tableIn hx hb hd (fun z => hc (Or.inl z)) (fun z => hc (Or.inr z)) h5 h6 (kk H locs ls hW hS hL)
def fd_lk {α : Type} : List (Int × α) → α → Int → α
  | [], dd, _ => dd
  | (a, x) :: r, dd, y => if a = y then x else fd_lk r dd y
def fd_lsw (brs : List (Int × fd_T)) (e : fd_D Int32) (sd : fd_T) : fd_T := fun σ => (e σ).bind fun u => fd_lk brs sd u.1.toInt u.2
theorem fd_lk_off : ∀ (ps : List (Int × Int)) (tg : List (Int × Nat)) (td : Nat) (dflt y : Int), ps.map (fun o => (o.1, (q : Int) + o.2)) = tg.map (fun o => (o.1, (o.2 : Int))) → (q : Int) + dflt = (td : Int) → (q : Int) + Op.lookupswitch.offset ps dflt y = ((fd_lk tg td y : Nat) : Int)
  | [], [], td, dflt, y, _, h2 => by rw [Op.lookupswitch.offset_nil]; exact h2
  | (a, o) :: ps, (b, t) :: tg, td, dflt, y, h, h2 => by
    simp only [List.map_cons, List.cons.injEq, Prod.mk.injEq] at h
    obtain ⟨⟨h3, h4⟩, h5⟩ := h
    subst h3
    have ih := fd_lk_off ps tg td dflt y h5 h2
    rw [Op.lookupswitch.offset_cons]
    unfold fd_lk
    by_cases hy : a = y
    · simp [hy, h4]
    · simp [hy, ih]
  | [], _ :: _, _, _, _, h, _ => by simp at h
  | _ :: _, [], _, _, _, h, _ => by simp at h
def fd_Sk (X : fd_X) (n : Nat) (Q : State → Prop) (Rt : Value → fd_M → Prop) (q qb qc : Nat) (tg : List (Int × Nat)) (brs : List (Int × fd_T)) : Prop := tg.map Prod.fst = brs.map Prod.fst ∧ fd_Sl X n Q Rt q qb qc (tg.map Prod.snd) (brs.map Prod.snd)
theorem fd_sk_at : ∀ (tg : List (Int × Nat)) (brs : List (Int × fd_T)) (td : Nat) (sd : fd_T) (y : Int), fd_Sk X n Q Rt q qb qc tg brs → fd_St X n Q Rt td q qb qc sd → fd_St X n Q Rt (fd_lk tg td y) q qb qc (fd_lk brs sd y)
  | [], [], td, sd, y, _, h => h
  | (a, t) :: tg, (b, s) :: brs, td, sd, y, h, h2 => by
    obtain ⟨h3, h4⟩ := h
    simp only [List.map_cons, List.cons.injEq] at h3
    obtain ⟨h3, h5⟩ := h3
    subst h3
    unfold fd_lk
    by_cases hy : a = y
    · rw [if_pos hy, if_pos hy]; exact h4.1
    · rw [if_neg hy, if_neg hy]; exact fd_sk_at tg brs td sd y ⟨h5, h4.2⟩ h2
  | [], _ :: _, _, _, _, h, _ => by simp [fd_Sk] at h
  | _ :: _, [], _, _, _, h, _ => by simp [fd_Sk] at h
theorem fd_slsw (F : fd_F X cc own n rt d) {dflt : Int} {ps : Array (Int × Int)} {len td : Nat} {e : fd_D Int32} {tg : List (Int × Nat)} {brs : List (Int × fd_T)} {sd : fd_T} (he : fd_Ev X n Q fd_i 0 p q e) (hd : decode cc q = .ok (.lookupswitch dflt ps, len)) (h1 : ps.toList.map (fun o => (o.1, (q : Int) + o.2)) = tg.map (fun o => (o.1, (o.2 : Int)))) (h2 : (q : Int) + dflt = (td : Int)) (h3 : (ps.toList.zip (ps.toList.drop 1)).all (fun (a, next) => a.1 < next.1) = true) (h5 : tg.map Prod.fst = brs.map Prod.fst) (hb : fd_Sl X n Q Rt r qb qc (tg.map Prod.snd) (brs.map Prod.snd)) (hs : fd_St X n Q Rt td r qb qc sd) : fd_St X n Q Rt p r qb qc (fd_lsw brs e sd) := by
  intro σ σ' z v he0 kk
  obtain ⟨⟨u, σ1⟩, e1, e2⟩ := fd_bind_of he0
  refine he [] σ σ1 u (Nat.le_refl 0) e1 ?_
  have kk := fd_sk_at tg brs td sd u.toInt ⟨h5, hb⟩ hs σ1 σ' z v e2 kk
  obtain ⟨g, pr, l, e, R, s, m, args, below, meth, c, cells, slots⟩ := X
  obtain ⟨hx, hb, hml, hown, hts, hK, hbs, hcl, hsl, hr, hlk, hfr, hlo⟩ := F
  intro H locs ls hW hS hL
  exact lv_lookup hx hb hd h3 rfl (fd_lk_off ps.toList tg td dflt u.toInt h1 h2) (kk H locs ls hW hS hL)
end FDZ
