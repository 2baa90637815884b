/-! ===== how they are put together ===== -/
section FDC
variable {X : fd_X} {n d : Nat} {Q : State → Prop} {cc : ByteArray} {own : String} {rt : Option FieldType} {k p q r : Nat} {Rt : Value → fd_M → Prop} {qb qc : Nat}
def fd_and (a b : fd_D Bool) : fd_D Bool := fun σ => (a σ).bind fun u => if u.1 = true then b u.2 else some (false, u.2)
def fd_or (a b : fd_D Bool) : fd_D Bool := fun σ => (a σ).bind fun u => if u.1 = true then some (true, u.2) else b u.2
def fd_not (a : fd_D Bool) : fd_D Bool := fun σ => (a σ).bind fun u => some (!u.1, u.2)
theorem fd_cand {t f i : Nat} {a b : fd_D Bool} (h1 : fd_Cj X n Q k p i f a) (h2 : fd_Cj X n Q k i t f b) : fd_Cj X n Q k p t f (fd_and a b) := by
  intro st σ σ' v hct he kk
  obtain ⟨⟨u, σ1⟩, e1, e2⟩ := fd_bind_of he
  cases u with
  | true => exact h1 st σ σ1 true hct e1 (h2 st σ1 σ' v hct e2 kk)
  | false => cases e2; exact h1 st σ _ false hct e1 kk
theorem fd_cor {t f i : Nat} {a b : fd_D Bool} (h1 : fd_Cj X n Q k p t i a) (h2 : fd_Cj X n Q k i t f b) : fd_Cj X n Q k p t f (fd_or a b) := by
  intro st σ σ' v hct he kk
  obtain ⟨⟨u, σ1⟩, e1, e2⟩ := fd_bind_of he
  cases u with
  | false => exact h1 st σ σ1 false hct e1 (h2 st σ1 σ' v hct e2 kk)
  | true => cases e2; exact h1 st σ _ true hct e1 kk
theorem fd_cnot {t f : Nat} {a : fd_D Bool} (h1 : fd_Cj X n Q k p f t a) : fd_Cj X n Q k p t f (fd_not a) := by
  intro st σ σ' v hct he kk
  obtain ⟨⟨u, σ1⟩, e1, e2⟩ := fd_bind_of he
  cases e2
  refine h1 st σ _ u hct e1 ?_
  cases u <;> exact kk
/-- a jump ahead, or none -/
def fd_Go (X : fd_X) (n : Nat) (Q : State → Prop) (p q : Nat) : Prop := ∀ (st : List Value) (σ : fd_S), fd_W X n Q q st σ → fd_W X n Q p st σ
theorem fd_go0 : fd_Go X n Q p p := fun _ _ h => h
theorem fd_go (F : fd_F X cc own n rt d) {off : Int} (hd : decode cc p = .ok (.goto off, 3)) (ht : (p : Int) + off = (q : Int)) : fd_Go X n Q p q := by
  obtain ⟨g, pr, l, e, R, s, m, args, below, meth, c, cells, slots⟩ := X
  obtain ⟨hx, hb, hml, hown, hts, hK, hbs, hcl, hsl, hr, hlk, hfr, hlo⟩ := F
  intro st σ kk H locs ls hW hS hL
  exact lv_goto hx hb hd ht (kk H locs ls hW hS hL)
def fd_ite {α : Type} (c : fd_D Bool) (a b : fd_D α) : fd_D α := fun σ => (c σ).bind fun u => if u.1 = true then a u.2 else b u.2
theorem fd_eite {α : Type} {inj : α → Value} {t f t2 : Nat} {c : fd_D Bool} {a b : fd_D α} (hc : fd_Cj X n Q k p t f c) (ha : fd_Ev X n Q inj k t t2 a) (hg : fd_Go X n Q t2 q) (hb : fd_Ev X n Q inj k f q b) : fd_Ev X n Q inj k p q (fd_ite c a b) := by
  intro st σ σ' v hct he kk
  obtain ⟨⟨u, σ1⟩, e1, e2⟩ := fd_bind_of he
  cases u with
  | true => exact hc st σ σ1 true hct e1 (ha st σ1 σ' v hct e2 (hg _ _ kk))
  | false => exact hc st σ σ1 false hct e1 (hb st σ1 σ' v hct e2 kk)
/-- a condition chosen by a condition -/
theorem fd_cite {t f t1 f1 : Nat} {c a b : fd_D Bool} (hc : fd_Cj X n Q k p t1 f1 c) (ha : fd_Cj X n Q k t1 t f a) (hb : fd_Cj X n Q k f1 t f b) : fd_Cj X n Q k p t f (fd_ite c a b) := by
  intro st σ σ' v hct he kk
  obtain ⟨⟨u, σ1⟩, e1, e2⟩ := fd_bind_of he
  cases u with
  | true => exact hc st σ σ1 true hct e1 (ha st σ1 σ' v hct e2 kk)
  | false => exact hc st σ σ1 false hct e1 (hb st σ1 σ' v hct e2 kk)
/-- a condition whose ends are jumped to -/
theorem fd_cgo {t f t1 f1 : Nat} {c : fd_D Bool} (hc : fd_Cj X n Q k p t1 f1 c) (h1 : fd_Go X n Q t1 t) (h2 : fd_Go X n Q f1 f) : fd_Cj X n Q k p t f c := by
  intro st σ σ' v hct he kk
  refine hc st σ σ' v hct he ?_
  cases v with
  | true => exact h1 _ _ kk
  | false => exact h2 _ _ kk
def fd_ctrue : fd_D Bool := fun σ => some (true, σ)
theorem fd_cjt {f : Nat} : fd_Cj X n Q k p p f fd_ctrue := by
  intro st σ σ' v hct he kk
  cases he
  exact kk
/-! statements -/
def fd_seq (a b : fd_T) : fd_T := fun σ => (a σ).bind fun u => if u.1.1 = 0 then b u.2 else some u
def fd_iff (c : fd_D Bool) (a b : fd_T) : fd_T := fun σ => (c σ).bind fun u => if u.1 = true then a u.2 else b u.2
def fd_brk : fd_T := fun σ => some ((2, fd_jk), σ)
def fd_cnt : fd_T := fun σ => some ((3, fd_jk), σ)
def fd_whl (c : fd_D Bool) (b u : fd_T) : Nat → fd_T
  | 0 => fun _ => none
  | N + 1 => fun σ => (c σ).bind fun x => if x.1 = true then (b x.2).bind fun y => if y.1.1 = 0 ∨ y.1.1 = 3 then (u y.2).bind fun z => if z.1.1 = 0 then fd_whl c b u N z.2 else some z else if y.1.1 = 2 then some ((0, fd_jk), y.2) else some y else some ((0, fd_jk), x.2)
theorem fd_ssk : fd_St X n Q Rt p p qb qc fd_sk := by
  intro σ σ' z v he kk
  cases he
  exact fd_Ex0 kk
theorem fd_sgo (hg : fd_Go X n Q p q) : fd_St X n Q Rt p q qb qc fd_sk := by
  intro σ σ' z v he kk
  cases he
  exact hg _ _ (fd_Ex0 kk)
theorem fd_sbrk (hg : fd_Go X n Q p qb) : fd_St X n Q Rt p q qb qc fd_brk := by
  intro σ σ' z v he kk
  cases he
  exact hg _ _ kk
theorem fd_scnt (hg : fd_Go X n Q p qc) : fd_St X n Q Rt p q qb qc fd_cnt := by
  intro σ σ' z v he kk
  cases he
  exact hg _ _ kk
theorem fd_Exn {q q' : Nat} {z : Nat} {v : Value} {σ : fd_S} (hz : ¬ z = 0) (h : fd_Ex X n Q Rt q qb qc z v σ) : fd_Ex X n Q Rt q' qb qc z v σ := by
  unfold fd_Ex at h ⊢
  rw [if_neg hz] at h ⊢
  exact h
theorem fd_sseq {a b : fd_T} (h1 : fd_St X n Q Rt p q qb qc a) (h2 : fd_St X n Q Rt q r qb qc b) : fd_St X n Q Rt p r qb qc (fd_seq a b) := by
  intro σ σ' z v he kk
  obtain ⟨⟨⟨z1, v1⟩, σ1⟩, e1, e2⟩ := fd_bind_of he
  by_cases hz : z1 = 0
  · subst hz
    rw [if_pos rfl] at e2
    exact h1 σ σ1 0 v1 e1 (by unfold fd_Ex; rw [if_pos rfl]; exact h2 σ1 σ' z v e2 kk)
  · rw [if_neg hz] at e2
    cases e2
    exact h1 σ _ _ _ e1 (fd_Exn hz kk)
theorem fd_sif {t f t2 : Nat} {c : fd_D Bool} {a b : fd_T} (hc : fd_Cj X n Q 0 p t f c) (ha : fd_St X n Q Rt t t2 qb qc a) (hg : fd_Go X n Q t2 q) (hb : fd_St X n Q Rt f q qb qc b) : fd_St X n Q Rt p q qb qc (fd_iff c a b) := by
  intro σ σ' z v he kk
  obtain ⟨⟨u, σ1⟩, e1, e2⟩ := fd_bind_of he
  cases u with
  | true =>
    refine hc [] σ σ1 true (Nat.le_refl 0) e1 (ha σ1 σ' z v e2 ?_)
    by_cases hz : z = 0
    · subst hz
      unfold fd_Ex at kk ⊢
      rw [if_pos rfl] at kk ⊢
      exact hg _ _ kk
    · exact fd_Exn hz kk
  | false => exact hc [] σ σ1 false (Nat.le_refl 0) e1 (hb σ1 σ' z v e2 kk)
theorem fd_swhl {t f pu : Nat} {c : fd_D Bool} {b u : fd_T} (hc : fd_Cj X n Q 0 p t f c) (hb : fd_St X n Q Rt t pu f pu b) (hu : fd_St X n Q Rt pu p f pu u) (hnu : ∀ σ z v σ', u σ = some ((z, v), σ') → z = 0) : ∀ N : Nat, fd_St X n Q Rt p f qb qc (fd_whl c b u N)
  | 0 => fun σ σ' z v he _ => by cases he
  | N + 1 => by
    intro σ σ' z v he kk
    obtain ⟨⟨x, σ1⟩, e1, e2⟩ := fd_bind_of he
    cases x with
    | false =>
      cases e2
      exact hc [] σ _ false (Nat.le_refl 0) e1 (fd_Ex0 kk)
    | true =>
      refine hc [] σ σ1 true (Nat.le_refl 0) e1 ?_
      obtain ⟨⟨⟨y, vy⟩, σ2⟩, e3, e4⟩ := fd_bind_of e2
      dsimp only at e3 e4
      have go : (u σ2).bind (fun z => if z.1.1 = 0 then fd_whl c b u N z.2 else some z) = some ((z, v), σ') → fd_W X n Q pu [] σ2 := fun e5 => by
        obtain ⟨⟨⟨x3, v3⟩, σ3⟩, e6, e7⟩ := fd_bind_of e5
        have h0 := hnu _ _ _ _ e6
        subst h0
        rw [if_pos rfl] at e7
        exact hu σ2 σ3 0 v3 e6 (by unfold fd_Ex; rw [if_pos rfl]; exact fd_swhl hc hb hu hnu N σ3 σ' z v e7 kk)
      refine hb σ1 σ2 y vy e3 ?_
      unfold fd_Ex
      by_cases h0 : y = 0
      · rw [if_pos h0]
        rw [if_pos (Or.inl h0)] at e4
        exact go e4
      rw [if_neg h0]
      by_cases h3 : y = 3
      · rw [if_neg (by omega), if_neg (by omega), if_pos h3]
        rw [if_pos (Or.inr h3)] at e4
        exact go e4
      rw [if_neg (by omega)] at e4
      by_cases h2 : y = 2
      · rw [if_neg (by omega), if_pos h2]
        rw [if_pos h2] at e4
        cases e4
        exact fd_Ex0 kk
      · rw [if_neg h2] at e4
        cases e4
        unfold fd_Ex at kk
        rw [if_neg h0] at kk
        rw [if_neg h2] at kk ⊢
        rw [if_neg h3] at kk ⊢
        exact kk
end FDC
