/-! ===== each instruction once ===== -/
section FDR
variable {X : fd_X} {n d : Nat} {Q : State → Prop} {cc : ByteArray} {own : String} {rt : Option FieldType} {k p q r : Nat}
def fd_c {α : Type} (x : α) : fd_D α := fun σ => some (x, σ)
def fd_ld (i : Nat) : fd_D Int32 := fun σ => match σ.1[i]? with
  | some (.int x) => some (x, σ)
  | _ => none
def fd_ldl (i : Nat) : fd_D Int64 := fun σ => match σ.1[i]? with
  | some (.long x) => some (x, σ)
  | _ => none
def fd_lda (i : Nat) : fd_D Nat := fun σ => match σ.1[i]? with
  | some (.ref x) => some (x, σ)
  | _ => none
def fd_ldn (i : Nat) : fd_D (Option Nat) := fun σ => match σ.1[i]? with
  | some (.ref x) => some (some x, σ)
  | some .null => some (none, σ)
  | _ => none
theorem fd_ld_of {i : Nat} {σ σ' : fd_S} {v : Int32} (h : fd_ld i σ = some (v, σ')) : σ.1[i]? = some (.int v) ∧ σ' = σ := by
  unfold fd_ld at h
  split at h
  next x hx => cases h; exact ⟨hx, rfl⟩
  next => cases h
theorem fd_ldl_of {i : Nat} {σ σ' : fd_S} {v : Int64} (h : fd_ldl i σ = some (v, σ')) : σ.1[i]? = some (.long v) ∧ σ' = σ := by
  unfold fd_ldl at h
  split at h
  next x hx => cases h; exact ⟨hx, rfl⟩
  next => cases h
theorem fd_lda_of {i : Nat} {σ σ' : fd_S} {v : Nat} (h : fd_lda i σ = some (v, σ')) : σ.1[i]? = some (.ref v) ∧ σ' = σ := by
  unfold fd_lda at h
  split at h
  next x hx => cases h; exact ⟨hx, rfl⟩
  next => cases h
theorem fd_ldn_of {i : Nat} {σ σ' : fd_S} {v : Option Nat} (h : fd_ldn i σ = some (v, σ')) : ((∃ x, v = some x ∧ σ.1[i]? = some (.ref x)) ∨ (v = none ∧ σ.1[i]? = some .null)) ∧ σ' = σ := by
  unfold fd_ldn at h
  split at h
  next x hx => cases h; exact ⟨Or.inl ⟨x, rfl, hx⟩, rfl⟩
  next hx => cases h; exact ⟨Or.inr ⟨rfl, hx⟩, rfl⟩
  next => cases h
theorem fd_iconst (F : fd_F X cc own n rt d) {z : Int} {v : Int32} (hd : decode cc p = .ok (.iconst z, 1)) (hv : Int32.ofInt z = v) : fd_Ev X n Q fd_i k p (p + 1) (fd_c v) := by
  obtain ⟨g, pr, l, e, R, s, m, args, below, meth, c, cells, slots⟩ := X
  obtain ⟨hx, hb, hml, hown, hts, hK, hbs, hcl, hsl, hr, hlk, hfr, hlo⟩ := F
  intro st σ σ' u hct he kk H locs ls hW hS hL
  cases he
  exact lv_iconst hx hb hd hv (kk H locs ls hW hS hL)
theorem fd_bipush (F : fd_F X cc own n rt d) {z : Int} {v : Int32} (hd : decode cc p = .ok (.bipush z, 2)) (hv : (Int8.ofInt z).toInt32 = v) : fd_Ev X n Q fd_i k p (p + 2) (fd_c v) := by
  obtain ⟨g, pr, l, e, R, s, m, args, below, meth, c, cells, slots⟩ := X
  obtain ⟨hx, hb, hml, hown, hts, hK, hbs, hcl, hsl, hr, hlk, hfr, hlo⟩ := F
  intro st σ σ' u hct he kk H locs ls hW hS hL
  cases he
  exact lv_bipush hx hb hd hv (kk H locs ls hW hS hL)
theorem fd_sipush (F : fd_F X cc own n rt d) {z : Int} {v : Int32} (hd : decode cc p = .ok (.sipush z, 3)) (hv : (Int16.ofInt z).toInt32 = v) : fd_Ev X n Q fd_i k p (p + 3) (fd_c v) := by
  obtain ⟨g, pr, l, e, R, s, m, args, below, meth, c, cells, slots⟩ := X
  obtain ⟨hx, hb, hml, hown, hts, hK, hbs, hcl, hsl, hr, hlk, hfr, hlo⟩ := F
  intro st σ σ' u hct he kk H locs ls hW hS hL
  cases he
  exact lv_sipush hx hb hd hv (kk H locs ls hW hS hL)
theorem fd_lconst (F : fd_F X cc own n rt d) {z : Fin 2} {v : Int64} (hd : decode cc p = .ok (.lconst z, 1)) (hv : Int64.ofNat (z : Nat) = v) : fd_Ev X n Q fd_l k p (p + 1) (fd_c v) := by
  obtain ⟨g, pr, l, e, R, s, m, args, below, meth, c, cells, slots⟩ := X
  obtain ⟨hx, hb, hml, hown, hts, hK, hbs, hcl, hsl, hr, hlk, hfr, hlo⟩ := F
  intro st σ σ' u hct he kk H locs ls hW hS hL
  cases he
  exact lv_lconst hx hb hd hv (kk H locs ls hW hS hL)
theorem fd_ldc (F : fd_F X cc own n rt d) {z : Nat} {v : Int32} (hd : decode cc p = .ok (.ldc z, 2)) (hw : Cond.constant own z v ∈ fd_TB) : fd_Ev X n Q fd_i k p (p + 2) (fd_c v) := by
  obtain ⟨g, pr, l, e, R, s, m, args, below, meth, c, cells, slots⟩ := X
  obtain ⟨hx, hb, hml, hown, hts, hK, hbs, hcl, hsl, hr, hlk, hfr, hlo⟩ := F
  intro st σ σ' u hct he kk H locs ls hW hS hL
  cases he
  exact lv_ldc hx hb hown (hts _ hw) hd (kk H locs ls hW hS hL)
theorem fd_ldcw (F : fd_F X cc own n rt d) {z : Nat} {v : Int32} (hd : decode cc p = .ok (.ldc_w z, 3)) (hw : Cond.constant own z v ∈ fd_TB) : fd_Ev X n Q fd_i k p (p + 3) (fd_c v) := by
  obtain ⟨g, pr, l, e, R, s, m, args, below, meth, c, cells, slots⟩ := X
  obtain ⟨hx, hb, hml, hown, hts, hK, hbs, hcl, hsl, hr, hlk, hfr, hlo⟩ := F
  intro st σ σ' u hct he kk H locs ls hW hS hL
  cases he
  exact lv_ldcw hx hb hown (hts _ hw) hd (kk H locs ls hW hS hL)
theorem fd_ldc2 (F : fd_F X cc own n rt d) {z : Nat} {v : Int64} (hd : decode cc p = .ok (.ldc2_w z, 3)) (hw : Cond.constantLong own z v ∈ fd_TB) : fd_Ev X n Q fd_l k p (p + 3) (fd_c v) := by
  obtain ⟨g, pr, l, e, R, s, m, args, below, meth, c, cells, slots⟩ := X
  obtain ⟨hx, hb, hml, hown, hts, hK, hbs, hcl, hsl, hr, hlk, hfr, hlo⟩ := F
  intro st σ σ' u hct he kk H locs ls hW hS hL
  cases he
  exact lv_ldc2 hx hb hown (hts _ hw) hd (kk H locs ls hW hS hL)
theorem fd_iload_n (F : fd_F X cc own n rt d) {i : Nat} {j : Fin 4} (hd : decode cc p = .ok (.iload_n j, 1)) (hi : (j : Nat) = i) : fd_Ev X n Q fd_i k p (p + 1) (fd_ld i) := by
  obtain ⟨g, pr, l, e, R, s, m, args, below, meth, c, cells, slots⟩ := X
  obtain ⟨hx, hb, hml, hown, hts, hK, hbs, hcl, hsl, hr, hlk, hfr, hlo⟩ := F
  intro st σ σ' v hct he kk H locs ls hW hS hL
  obtain ⟨h1, rfl⟩ := fd_ld_of he
  exact lv_iload_n hx hb hd hi (hL.2.2 i _ h1 (by simp [fd_jk])) (kk H locs ls hW hS hL)
theorem fd_iload (F : fd_F X cc own n rt d) {i : Nat} (hd : decode cc p = .ok (.iload i, 2)) : fd_Ev X n Q fd_i k p (p + 2) (fd_ld i) := by
  obtain ⟨g, pr, l, e, R, s, m, args, below, meth, c, cells, slots⟩ := X
  obtain ⟨hx, hb, hml, hown, hts, hK, hbs, hcl, hsl, hr, hlk, hfr, hlo⟩ := F
  intro st σ σ' v hct he kk H locs ls hW hS hL
  obtain ⟨h1, rfl⟩ := fd_ld_of he
  exact lv_iload hx hb hd (hL.2.2 i _ h1 (by simp [fd_jk])) (kk H locs ls hW hS hL)
theorem fd_lload_n (F : fd_F X cc own n rt d) {i : Nat} {j : Fin 4} (hd : decode cc p = .ok (.lload_n j, 1)) (hi : (j : Nat) = i) : fd_Ev X n Q fd_l k p (p + 1) (fd_ldl i) := by
  obtain ⟨g, pr, l, e, R, s, m, args, below, meth, c, cells, slots⟩ := X
  obtain ⟨hx, hb, hml, hown, hts, hK, hbs, hcl, hsl, hr, hlk, hfr, hlo⟩ := F
  intro st σ σ' v hct he kk H locs ls hW hS hL
  obtain ⟨h1, rfl⟩ := fd_ldl_of he
  exact lv_lload_n hx hb hd hi (hL.2.2 i _ h1 (by simp [fd_jk])) (kk H locs ls hW hS hL)
theorem fd_lload (F : fd_F X cc own n rt d) {i : Nat} (hd : decode cc p = .ok (.lload i, 2)) : fd_Ev X n Q fd_l k p (p + 2) (fd_ldl i) := by
  obtain ⟨g, pr, l, e, R, s, m, args, below, meth, c, cells, slots⟩ := X
  obtain ⟨hx, hb, hml, hown, hts, hK, hbs, hcl, hsl, hr, hlk, hfr, hlo⟩ := F
  intro st σ σ' v hct he kk H locs ls hW hS hL
  obtain ⟨h1, rfl⟩ := fd_ldl_of he
  exact lv_lload hx hb hd (hL.2.2 i _ h1 (by simp [fd_jk])) (kk H locs ls hW hS hL)
theorem fd_aload_n (F : fd_F X cc own n rt d) {i : Nat} {j : Fin 4} (hd : decode cc p = .ok (.aload_n j, 1)) (hi : (j : Nat) = i) : fd_Ev X n Q (fd_r (fd_b X)) k p (p + 1) (fd_lda i) := by
  obtain ⟨g, pr, l, e, R, s, m, args, below, meth, c, cells, slots⟩ := X
  obtain ⟨hx, hb, hml, hown, hts, hK, hbs, hcl, hsl, hr, hlk, hfr, hlo⟩ := F
  intro st σ σ' v hct he kk H locs ls hW hS hL
  obtain ⟨h1, rfl⟩ := fd_lda_of he
  exact lv_aload_n hx hb hd hi (hL.2.2 i _ h1 (by simp [fd_jk])) (kk H locs ls hW hS hL)
theorem fd_aload (F : fd_F X cc own n rt d) {i : Nat} (hd : decode cc p = .ok (.aload i, 2)) : fd_Ev X n Q (fd_r (fd_b X)) k p (p + 2) (fd_lda i) := by
  obtain ⟨g, pr, l, e, R, s, m, args, below, meth, c, cells, slots⟩ := X
  obtain ⟨hx, hb, hml, hown, hts, hK, hbs, hcl, hsl, hr, hlk, hfr, hlo⟩ := F
  intro st σ σ' v hct he kk H locs ls hW hS hL
  obtain ⟨h1, rfl⟩ := fd_lda_of he
  exact lv_aload hx hb hd (hL.2.2 i _ h1 (by simp [fd_jk])) (kk H locs ls hW hS hL)
theorem fd_naload_n (F : fd_F X cc own n rt d) {i : Nat} {j : Fin 4} (hd : decode cc p = .ok (.aload_n j, 1)) (hi : (j : Nat) = i) : fd_Ev X n Q (fd_n (fd_b X)) k p (p + 1) (fd_ldn i) := by
  obtain ⟨g, pr, l, e, R, s, m, args, below, meth, c, cells, slots⟩ := X
  obtain ⟨hx, hb, hml, hown, hts, hK, hbs, hcl, hsl, hr, hlk, hfr, hlo⟩ := F
  intro st σ σ' v hct he kk H locs ls hW hS hL
  obtain ⟨h1 | h1, rfl⟩ := fd_ldn_of he
  · obtain ⟨x, rfl, h1⟩ := h1
    exact lv_aload_n hx hb hd hi (hL.2.2 i _ h1 (by simp [fd_jk])) (kk H locs ls hW hS hL)
  · obtain ⟨rfl, h1⟩ := h1
    exact lv_aload_nN hx hb hd hi (hL.2.2 i _ h1 (by simp [fd_jk])) (kk H locs ls hW hS hL)
theorem fd_naload (F : fd_F X cc own n rt d) {i : Nat} (hd : decode cc p = .ok (.aload i, 2)) : fd_Ev X n Q (fd_n (fd_b X)) k p (p + 2) (fd_ldn i) := by
  obtain ⟨g, pr, l, e, R, s, m, args, below, meth, c, cells, slots⟩ := X
  obtain ⟨hx, hb, hml, hown, hts, hK, hbs, hcl, hsl, hr, hlk, hfr, hlo⟩ := F
  intro st σ σ' v hct he kk H locs ls hW hS hL
  obtain ⟨h1 | h1, rfl⟩ := fd_ldn_of he
  · obtain ⟨x, rfl, h1⟩ := h1
    exact lv_aload hx hb hd (hL.2.2 i _ h1 (by simp [fd_jk])) (kk H locs ls hW hS hL)
  · obtain ⟨rfl, h1⟩ := h1
    exact lv_aloadN hx hb hd (hL.2.2 i _ h1 (by simp [fd_jk])) (kk H locs ls hW hS hL)
def fd_sk : fd_T := fun σ => some ((0, fd_jk), σ)
def fd_sI (i : Nat) (a : fd_D Int32) : fd_T := fun σ => (a σ).bind fun u => some ((0, fd_jk), (fd_st1 u.2.1 i (.int u.1), u.2.2))
def fd_sL (i : Nat) (a : fd_D Int64) : fd_T := fun σ => (a σ).bind fun u => some ((0, fd_jk), (fd_st2 u.2.1 i (.long u.1), u.2.2))
def fd_sA (i : Nat) (a : fd_D Nat) : fd_T := fun σ => (a σ).bind fun u => some ((0, fd_jk), (fd_st1 u.2.1 i (.ref u.1), u.2.2))
def fd_sN (i : Nat) (a : fd_D (Option Nat)) : fd_T := fun σ => (a σ).bind fun u => some ((0, fd_jk), (fd_st1 u.2.1 i (va_rf u.1), u.2.2))
theorem fd_Ex0 {Rt : Value → fd_M → Prop} {qb qc : Nat} {v : Value} {σ : fd_S} (h : fd_Ex X n Q Rt q qb qc 0 v σ) : fd_W X n Q q [] σ := by
  unfold fd_Ex at h
  rwa [if_pos rfl] at h
theorem fd_bind_of {α β : Type} {o : Option α} {f : α → Option β} {b : β} (h : o.bind f = some b) : ∃ a, o = some a ∧ f a = some b := Option.bind_eq_some_iff.mp h
theorem fd_istore_n (F : fd_F X cc own n rt d) {Rt : Value → fd_M → Prop} {qb qc i : Nat} {a : fd_D Int32} (ha : fd_Ev X n Q fd_i 0 p q a) {j : Fin 4} (hd : decode cc q = .ok (.istore_n j, 1)) (hi : (j : Nat) = i) (hn : i < n) : fd_St X n Q Rt p (q + 1) qb qc (fd_sI i a) := by
  obtain ⟨g, pr, l, e, R, s, m, args, below, meth, c, cells, slots⟩ := X
  obtain ⟨hx, hb, hml, hown, hts, hK, hbs, hcl, hsl, hr, hlk, hfr, hlo⟩ := F
  intro σ σ' z v he kk
  obtain ⟨⟨u, σ1⟩, h1, h2⟩ := fd_bind_of he
  cases h2
  refine ha [] σ σ1 u (Nat.le_refl 0) h1 ?_
  intro H locs ls hW hS hL
  exact lv_istore_n hx hb hd hi hL.has hn rfl (fun ls' h' => fd_Ex0 kk H locs ls' hW hS (fd_lr_of1 (v := .int u) h'))
theorem fd_istore (F : fd_F X cc own n rt d) {Rt : Value → fd_M → Prop} {qb qc i : Nat} {a : fd_D Int32} (ha : fd_Ev X n Q fd_i 0 p q a) (hd : decode cc q = .ok (.istore i, 2)) (hn : i < n) : fd_St X n Q Rt p (q + 2) qb qc (fd_sI i a) := by
  obtain ⟨g, pr, l, e, R, s, m, args, below, meth, c, cells, slots⟩ := X
  obtain ⟨hx, hb, hml, hown, hts, hK, hbs, hcl, hsl, hr, hlk, hfr, hlo⟩ := F
  intro σ σ' z v he kk
  obtain ⟨⟨u, σ1⟩, h1, h2⟩ := fd_bind_of he
  cases h2
  refine ha [] σ σ1 u (Nat.le_refl 0) h1 ?_
  intro H locs ls hW hS hL
  exact lv_istore hx hb hd hL.has hn rfl (fun ls' h' => fd_Ex0 kk H locs ls' hW hS (fd_lr_of1 (v := .int u) h'))
theorem fd_lstore_n (F : fd_F X cc own n rt d) {Rt : Value → fd_M → Prop} {qb qc i : Nat} {a : fd_D Int64} (ha : fd_Ev X n Q fd_l 0 p q a) {j : Fin 4} (hd : decode cc q = .ok (.lstore_n j, 1)) (hi : (j : Nat) = i) (hn : i + 1 < n) : fd_St X n Q Rt p (q + 1) qb qc (fd_sL i a) := by
  obtain ⟨g, pr, l, e, R, s, m, args, below, meth, c, cells, slots⟩ := X
  obtain ⟨hx, hb, hml, hown, hts, hK, hbs, hcl, hsl, hr, hlk, hfr, hlo⟩ := F
  intro σ σ' z v he kk
  obtain ⟨⟨u, σ1⟩, h1, h2⟩ := fd_bind_of he
  cases h2
  refine ha [] σ σ1 u (Nat.le_refl 0) h1 ?_
  intro H locs ls hW hS hL
  exact lv_lstore_n hx hb hd hi hL.has hn rfl (fun ls' h' => fd_Ex0 kk H locs ls' hW hS (fd_lr_of2 (v := .long u) h'))
theorem fd_lstore (F : fd_F X cc own n rt d) {Rt : Value → fd_M → Prop} {qb qc i : Nat} {a : fd_D Int64} (ha : fd_Ev X n Q fd_l 0 p q a) (hd : decode cc q = .ok (.lstore i, 2)) (hn : i + 1 < n) : fd_St X n Q Rt p (q + 2) qb qc (fd_sL i a) := by
  obtain ⟨g, pr, l, e, R, s, m, args, below, meth, c, cells, slots⟩ := X
  obtain ⟨hx, hb, hml, hown, hts, hK, hbs, hcl, hsl, hr, hlk, hfr, hlo⟩ := F
  intro σ σ' z v he kk
  obtain ⟨⟨u, σ1⟩, h1, h2⟩ := fd_bind_of he
  cases h2
  refine ha [] σ σ1 u (Nat.le_refl 0) h1 ?_
  intro H locs ls hW hS hL
  exact lv_lstore hx hb hd hL.has hn rfl (fun ls' h' => fd_Ex0 kk H locs ls' hW hS (fd_lr_of2 (v := .long u) h'))
theorem fd_astore_n (F : fd_F X cc own n rt d) {Rt : Value → fd_M → Prop} {qb qc i : Nat} {a : fd_D Nat} (ha : fd_Ev X n Q (fd_r (fd_b X)) 0 p q a) {j : Fin 4} (hd : decode cc q = .ok (.astore_n j, 1)) (hi : (j : Nat) = i) (hn : i < n) : fd_St X n Q Rt p (q + 1) qb qc (fd_sA i a) := by
  obtain ⟨g, pr, l, e, R, s, m, args, below, meth, c, cells, slots⟩ := X
  obtain ⟨hx, hb, hml, hown, hts, hK, hbs, hcl, hsl, hr, hlk, hfr, hlo⟩ := F
  intro σ σ' z v he kk
  obtain ⟨⟨u, σ1⟩, h1, h2⟩ := fd_bind_of he
  cases h2
  refine ha [] σ σ1 u (Nat.le_refl 0) h1 ?_
  intro H locs ls hW hS hL
  exact lv_astore_n hx hb hd hi hL.has hn rfl (fun ls' h' => fd_Ex0 kk H locs ls' hW hS (fd_lr_of1 (v := .ref u) h'))
theorem fd_astore (F : fd_F X cc own n rt d) {Rt : Value → fd_M → Prop} {qb qc i : Nat} {a : fd_D Nat} (ha : fd_Ev X n Q (fd_r (fd_b X)) 0 p q a) (hd : decode cc q = .ok (.astore i, 2)) (hn : i < n) : fd_St X n Q Rt p (q + 2) qb qc (fd_sA i a) := by
  obtain ⟨g, pr, l, e, R, s, m, args, below, meth, c, cells, slots⟩ := X
  obtain ⟨hx, hb, hml, hown, hts, hK, hbs, hcl, hsl, hr, hlk, hfr, hlo⟩ := F
  intro σ σ' z v he kk
  obtain ⟨⟨u, σ1⟩, h1, h2⟩ := fd_bind_of he
  cases h2
  refine ha [] σ σ1 u (Nat.le_refl 0) h1 ?_
  intro H locs ls hW hS hL
  exact lv_astore hx hb hd hL.has hn rfl (fun ls' h' => fd_Ex0 kk H locs ls' hW hS (fd_lr_of1 (v := .ref u) h'))
theorem fd_nastore_n (F : fd_F X cc own n rt d) {Rt : Value → fd_M → Prop} {qb qc i : Nat} {a : fd_D (Option Nat)} (ha : fd_Ev X n Q (fd_n (fd_b X)) 0 p q a) {j : Fin 4} (hd : decode cc q = .ok (.astore_n j, 1)) (hi : (j : Nat) = i) (hn : i < n) : fd_St X n Q Rt p (q + 1) qb qc (fd_sN i a) := by
  obtain ⟨g, pr, l, e, R, s, m, args, below, meth, c, cells, slots⟩ := X
  obtain ⟨hx, hb, hml, hown, hts, hK, hbs, hcl, hsl, hr, hlk, hfr, hlo⟩ := F
  intro σ σ' z v he kk
  obtain ⟨⟨u, σ1⟩, h1, h2⟩ := fd_bind_of he
  cases h2
  refine ha [] σ σ1 u (Nat.le_refl 0) h1 ?_
  intro H locs ls hW hS hL
  cases u with
  | some y => exact lv_astore_n hx hb hd hi hL.has hn rfl (fun ls' h' => fd_Ex0 kk H locs ls' hW hS (fd_lr_of1 (v := .ref y) h'))
  | none => exact lv_astore_nN hx hb hd hi hL.has hn rfl (fun ls' h' => fd_Ex0 kk H locs ls' hW hS (fd_lr_of1 (v := .null) h'))
theorem fd_nastore (F : fd_F X cc own n rt d) {Rt : Value → fd_M → Prop} {qb qc i : Nat} {a : fd_D (Option Nat)} (ha : fd_Ev X n Q (fd_n (fd_b X)) 0 p q a) (hd : decode cc q = .ok (.astore i, 2)) (hn : i < n) : fd_St X n Q Rt p (q + 2) qb qc (fd_sN i a) := by
  obtain ⟨g, pr, l, e, R, s, m, args, below, meth, c, cells, slots⟩ := X
  obtain ⟨hx, hb, hml, hown, hts, hK, hbs, hcl, hsl, hr, hlk, hfr, hlo⟩ := F
  intro σ σ' z v he kk
  obtain ⟨⟨u, σ1⟩, h1, h2⟩ := fd_bind_of he
  cases h2
  refine ha [] σ σ1 u (Nat.le_refl 0) h1 ?_
  intro H locs ls hW hS hL
  cases u with
  | some y => exact lv_astore hx hb hd hL.has hn rfl (fun ls' h' => fd_Ex0 kk H locs ls' hW hS (fd_lr_of1 (v := .ref y) h'))
  | none => exact lv_astoreN hx hb hd hL.has hn rfl (fun ls' h' => fd_Ex0 kk H locs ls' hW hS (fd_lr_of1 (v := .null) h'))
def fd_inc (i : Nat) (y : Int32) : fd_T := fun σ => (fd_ld i σ).bind fun u => some ((0, fd_jk), (fd_st1 u.2.1 i (.int (u.1 + y)), u.2.2))
theorem fd_iinc (F : fd_F X cc own n rt d) {Rt : Value → fd_M → Prop} {qb qc i : Nat} {z : Int} {y : Int32} (hd : decode cc p = .ok (.iinc i z, 3)) (hy : Int32.ofInt z = y) (hn : i < n) : fd_St X n Q Rt p (p + 3) qb qc (fd_inc i y) := by
  obtain ⟨g, pr, l, e, R, s, m, args, below, meth, c, cells, slots⟩ := X
  obtain ⟨hx, hb, hml, hown, hts, hK, hbs, hcl, hsl, hr, hlk, hfr, hlo⟩ := F
  intro σ σ' z2 v he kk
  obtain ⟨⟨u, σ1⟩, h1, h2⟩ := fd_bind_of he
  cases h2
  obtain ⟨h1, rfl⟩ := fd_ld_of h1
  intro H locs ls hW hS hL
  obtain ⟨k9, hk9⟩ := List.getElem?_of_mem (fd_al_in (b := g.1) h1 (by simp [fd_jk]))
  exact lv_iinc (v := u + y) hx hb hd hL.has hk9 (by rw [hy]) hn rfl (fun ls' h' => fd_Ex0 kk H locs ls' hW hS (fd_lr_of1 (v := .int (u + y)) h'))
def fd_O2 {α β γ : Type} (X : fd_X) (n : Nat) (Q : State → Prop) (ia : α → Value) (ib : β → Value) (ic : γ → Value) (p q : Nat) (f : α → β → γ) : Prop := ∀ (st : List Value) (σ : fd_S) (x : α) (y : β), fd_W X n Q q (ic (f x y) :: st) σ → fd_W X n Q p (ib y :: ia x :: st) σ
def fd_O1 {α γ : Type} (X : fd_X) (n : Nat) (Q : State → Prop) (ia : α → Value) (ic : γ → Value) (p q : Nat) (f : α → γ) : Prop := ∀ (st : List Value) (σ : fd_S) (x : α), fd_W X n Q q (ic (f x) :: st) σ → fd_W X n Q p (ia x :: st) σ
def fd_b2 {α β γ : Type} (f : α → β → γ) (a : fd_D α) (b : fd_D β) : fd_D γ := fun σ => (a σ).bind fun u => (b u.2).bind fun v => some (f u.1 v.1, v.2)
def fd_b1 {α γ : Type} (f : α → γ) (a : fd_D α) : fd_D γ := fun σ => (a σ).bind fun u => some (f u.1, u.2)
theorem fd_ct_cons (v : Value) (st : List Value) : fd_ct (v :: st) = v.category + fd_ct st := by simp [fd_ct]
theorem fd_bin {α β γ : Type} {ia : α → Value} {ib : β → Value} {ic : γ → Value} {w p q r t : Nat} {f : α → β → γ} {a : fd_D α} {b : fd_D β} (h1 : fd_Ev X n Q ia k p q a) (h2 : fd_Ev X n Q ib (k + w) q r b) (hw : ∀ x, (ia x).category = w) (ho : fd_O2 X n Q ia ib ic r t f) : fd_Ev X n Q ic k p t (fd_b2 f a b) := by
  intro st σ σ' v hct he kk
  obtain ⟨⟨u, σ1⟩, e1, e2⟩ := fd_bind_of he
  obtain ⟨⟨y, σ2⟩, e3, e4⟩ := fd_bind_of e2
  cases e4
  exact h1 st σ σ1 u hct e1 (h2 (ia u :: st) σ1 σ2 y (by rw [fd_ct_cons, hw]; omega) e3 (ho st σ2 u y kk))
theorem fd_un {α γ : Type} {ia : α → Value} {ic : γ → Value} {p q t : Nat} {f : α → γ} {a : fd_D α} (h1 : fd_Ev X n Q ia k p q a) (ho : fd_O1 X n Q ia ic q t f) : fd_Ev X n Q ic k p t (fd_b1 f a) := by
  intro st σ σ' v hct he kk
  obtain ⟨⟨u, σ1⟩, e1, e2⟩ := fd_bind_of he
  cases e2
  exact h1 st σ σ1 u hct e1 (ho st σ1 u kk)
theorem fd_wi : ∀ x, (fd_i x).category = 1 := fun _ => rfl
theorem fd_wl : ∀ x, (fd_l x).category = 2 := fun _ => rfl
theorem fd_wr {b : Nat} : ∀ x, (fd_r b x).category = 1 := fun _ => rfl
/-- an operation that its second part can forbid -/
def fd_b2z {α : Type} (z : α → Bool) (f : α → α → α) (a : fd_D α) (b : fd_D α) : fd_D α := fun σ => (a σ).bind fun u => (b u.2).bind fun v => if z v.1 = true then none else some (f u.1 v.1, v.2)
def fd_f_iadd (x y : Int32) : Int32 := x + y
def fd_f_isub (x y : Int32) : Int32 := x - y
def fd_f_imul (x y : Int32) : Int32 := x * y
def fd_f_iand (x y : Int32) : Int32 := x &&& y
def fd_f_ior (x y : Int32) : Int32 := x ||| y
def fd_f_ixor (x y : Int32) : Int32 := x ^^^ y
def fd_f_ishl (x y : Int32) : Int32 := x <<< (y &&& 31)
def fd_f_ishr (x y : Int32) : Int32 := x >>> (y &&& 31)
def fd_f_iushr (x y : Int32) : Int32 := (x.toUInt32 >>> (y.toUInt32 &&& Int32.toUInt32 31)).toInt32
def fd_f_ladd (x y : Int64) : Int64 := x + y
def fd_f_lsub (x y : Int64) : Int64 := x - y
def fd_f_lmul (x y : Int64) : Int64 := x * y
theorem fd_o_iadd (F : fd_F X cc own n rt d) (hd : decode cc p = .ok (.iadd, 1)) : fd_O2 X n Q fd_i fd_i fd_i p (p + 1) fd_f_iadd := by
  obtain ⟨g, pr, l, e, R, s, m, args, below, meth, c, cells, slots⟩ := X
  obtain ⟨hx, hb, hml, hown, hts, hK, hbs, hcl, hsl, hr, hlk, hfr, hlo⟩ := F
  intro st σ x y kk H locs ls hW hS hL
  exact lv_iadd hx hb hd (kk H locs ls hW hS hL)
theorem fd_o_isub (F : fd_F X cc own n rt d) (hd : decode cc p = .ok (.isub, 1)) : fd_O2 X n Q fd_i fd_i fd_i p (p + 1) fd_f_isub := by
  obtain ⟨g, pr, l, e, R, s, m, args, below, meth, c, cells, slots⟩ := X
  obtain ⟨hx, hb, hml, hown, hts, hK, hbs, hcl, hsl, hr, hlk, hfr, hlo⟩ := F
  intro st σ x y kk H locs ls hW hS hL
  exact lv_isub hx hb hd (kk H locs ls hW hS hL)
theorem fd_o_imul (F : fd_F X cc own n rt d) (hd : decode cc p = .ok (.imul, 1)) : fd_O2 X n Q fd_i fd_i fd_i p (p + 1) fd_f_imul := by
  obtain ⟨g, pr, l, e, R, s, m, args, below, meth, c, cells, slots⟩ := X
  obtain ⟨hx, hb, hml, hown, hts, hK, hbs, hcl, hsl, hr, hlk, hfr, hlo⟩ := F
  intro st σ x y kk H locs ls hW hS hL
  exact lv_imul hx hb hd (kk H locs ls hW hS hL)
theorem fd_o_iand (F : fd_F X cc own n rt d) (hd : decode cc p = .ok (.iand, 1)) : fd_O2 X n Q fd_i fd_i fd_i p (p + 1) fd_f_iand := by
  obtain ⟨g, pr, l, e, R, s, m, args, below, meth, c, cells, slots⟩ := X
  obtain ⟨hx, hb, hml, hown, hts, hK, hbs, hcl, hsl, hr, hlk, hfr, hlo⟩ := F
  intro st σ x y kk H locs ls hW hS hL
  exact lv_iand hx hb hd (kk H locs ls hW hS hL)
theorem fd_o_ior (F : fd_F X cc own n rt d) (hd : decode cc p = .ok (.ior, 1)) : fd_O2 X n Q fd_i fd_i fd_i p (p + 1) fd_f_ior := by
  obtain ⟨g, pr, l, e, R, s, m, args, below, meth, c, cells, slots⟩ := X
  obtain ⟨hx, hb, hml, hown, hts, hK, hbs, hcl, hsl, hr, hlk, hfr, hlo⟩ := F
  intro st σ x y kk H locs ls hW hS hL
  exact lv_ior hx hb hd (kk H locs ls hW hS hL)
theorem fd_o_ixor (F : fd_F X cc own n rt d) (hd : decode cc p = .ok (.ixor, 1)) : fd_O2 X n Q fd_i fd_i fd_i p (p + 1) fd_f_ixor := by
  obtain ⟨g, pr, l, e, R, s, m, args, below, meth, c, cells, slots⟩ := X
  obtain ⟨hx, hb, hml, hown, hts, hK, hbs, hcl, hsl, hr, hlk, hfr, hlo⟩ := F
  intro st σ x y kk H locs ls hW hS hL
  exact lv_ixor hx hb hd (kk H locs ls hW hS hL)
theorem fd_o_ishl (F : fd_F X cc own n rt d) (hd : decode cc p = .ok (.ishl, 1)) : fd_O2 X n Q fd_i fd_i fd_i p (p + 1) fd_f_ishl := by
  obtain ⟨g, pr, l, e, R, s, m, args, below, meth, c, cells, slots⟩ := X
  obtain ⟨hx, hb, hml, hown, hts, hK, hbs, hcl, hsl, hr, hlk, hfr, hlo⟩ := F
  intro st σ x y kk H locs ls hW hS hL
  exact lv_ishl hx hb hd (kk H locs ls hW hS hL)
theorem fd_o_ishr (F : fd_F X cc own n rt d) (hd : decode cc p = .ok (.ishr, 1)) : fd_O2 X n Q fd_i fd_i fd_i p (p + 1) fd_f_ishr := by
  obtain ⟨g, pr, l, e, R, s, m, args, below, meth, c, cells, slots⟩ := X
  obtain ⟨hx, hb, hml, hown, hts, hK, hbs, hcl, hsl, hr, hlk, hfr, hlo⟩ := F
  intro st σ x y kk H locs ls hW hS hL
  exact lv_ishr hx hb hd (kk H locs ls hW hS hL)
theorem fd_o_iushr (F : fd_F X cc own n rt d) (hd : decode cc p = .ok (.iushr, 1)) : fd_O2 X n Q fd_i fd_i fd_i p (p + 1) fd_f_iushr := by
  obtain ⟨g, pr, l, e, R, s, m, args, below, meth, c, cells, slots⟩ := X
  obtain ⟨hx, hb, hml, hown, hts, hK, hbs, hcl, hsl, hr, hlk, hfr, hlo⟩ := F
  intro st σ x y kk H locs ls hW hS hL
  exact lv_iushr hx hb hd rfl (kk H locs ls hW hS hL)
theorem fd_o_ladd (F : fd_F X cc own n rt d) (hd : decode cc p = .ok (.ladd, 1)) : fd_O2 X n Q fd_l fd_l fd_l p (p + 1) fd_f_ladd := by
  obtain ⟨g, pr, l, e, R, s, m, args, below, meth, c, cells, slots⟩ := X
  obtain ⟨hx, hb, hml, hown, hts, hK, hbs, hcl, hsl, hr, hlk, hfr, hlo⟩ := F
  intro st σ x y kk H locs ls hW hS hL
  exact lv_ladd hx hb hd (kk H locs ls hW hS hL)
theorem fd_o_lsub (F : fd_F X cc own n rt d) (hd : decode cc p = .ok (.lsub, 1)) : fd_O2 X n Q fd_l fd_l fd_l p (p + 1) fd_f_lsub := by
  obtain ⟨g, pr, l, e, R, s, m, args, below, meth, c, cells, slots⟩ := X
  obtain ⟨hx, hb, hml, hown, hts, hK, hbs, hcl, hsl, hr, hlk, hfr, hlo⟩ := F
  intro st σ x y kk H locs ls hW hS hL
  exact lv_lsub hx hb hd (kk H locs ls hW hS hL)
theorem fd_o_lmul (F : fd_F X cc own n rt d) (hd : decode cc p = .ok (.lmul, 1)) : fd_O2 X n Q fd_l fd_l fd_l p (p + 1) fd_f_lmul := by
  obtain ⟨g, pr, l, e, R, s, m, args, below, meth, c, cells, slots⟩ := X
  obtain ⟨hx, hb, hml, hown, hts, hK, hbs, hcl, hsl, hr, hlk, hfr, hlo⟩ := F
  intro st σ x y kk H locs ls hW hS hL
  exact lv_lmul hx hb hd (kk H locs ls hW hS hL)
def fd_f_lcmp (x y : Int64) : Int32 := lg_cmp x y
theorem fd_o_lcmp (F : fd_F X cc own n rt d) (hd : decode cc p = .ok (.lcmp, 1)) : fd_O2 X n Q fd_l fd_l fd_i p (p + 1) fd_f_lcmp := by
  obtain ⟨g, pr, l, e, R, s, m, args, below, meth, c, cells, slots⟩ := X
  obtain ⟨hx, hb, hml, hown, hts, hK, hbs, hcl, hsl, hr, hlk, hfr, hlo⟩ := F
  intro st σ x y kk H locs ls hW hS hL
  exact W.lcmp hx hb hd (kk H locs ls hW hS hL)
def fd_f_idiv (x y : Int32) : Int32 := x / y
def fd_z_idiv (y : Int32) : Bool := decide (y = 0)
theorem fd_idiv (F : fd_F X cc own n rt d) {a b : fd_D Int32} (h1 : fd_Ev X n Q fd_i k p q a) (h2 : fd_Ev X n Q fd_i (k + 1) q r b) (hd : decode cc r = .ok (.idiv, 1)) : fd_Ev X n Q fd_i k p (r + 1) (fd_b2z fd_z_idiv fd_f_idiv a b) := by
  intro st σ σ' v hct he kk
  obtain ⟨⟨u, σ1⟩, e1, e2⟩ := fd_bind_of he
  obtain ⟨⟨y, σ2⟩, e3, e4⟩ := fd_bind_of e2
  by_cases hy : y = 0
  · rw [if_pos (by simp [fd_z_idiv, hy])] at e4
    cases e4
  · rw [if_neg (by simp [fd_z_idiv, hy])] at e4
    cases e4
    refine h1 st σ σ1 u hct e1 (h2 (fd_i u :: st) σ1 _ y (by rw [fd_ct_cons]; show 1 + _ ≤ _; omega) e3 ?_)
    obtain ⟨g, pr, l, e, R, s, m, args, below, meth, c, cells, slots⟩ := X
    obtain ⟨hx, hb, hml, hown, hts, hK, hbs, hcl, hsl, hr, hlk, hfr, hlo⟩ := F
    intro H locs ls hW hS hL
    exact lv_idiv hx hb hd hy (kk H locs ls hW hS hL)
def fd_f_irem (x y : Int32) : Int32 := x - x / y * y
def fd_z_irem (y : Int32) : Bool := decide (y = 0)
theorem fd_irem (F : fd_F X cc own n rt d) {a b : fd_D Int32} (h1 : fd_Ev X n Q fd_i k p q a) (h2 : fd_Ev X n Q fd_i (k + 1) q r b) (hd : decode cc r = .ok (.irem, 1)) : fd_Ev X n Q fd_i k p (r + 1) (fd_b2z fd_z_irem fd_f_irem a b) := by
  intro st σ σ' v hct he kk
  obtain ⟨⟨u, σ1⟩, e1, e2⟩ := fd_bind_of he
  obtain ⟨⟨y, σ2⟩, e3, e4⟩ := fd_bind_of e2
  by_cases hy : y = 0
  · rw [if_pos (by simp [fd_z_irem, hy])] at e4
    cases e4
  · rw [if_neg (by simp [fd_z_irem, hy])] at e4
    cases e4
    refine h1 st σ σ1 u hct e1 (h2 (fd_i u :: st) σ1 _ y (by rw [fd_ct_cons]; show 1 + _ ≤ _; omega) e3 ?_)
    obtain ⟨g, pr, l, e, R, s, m, args, below, meth, c, cells, slots⟩ := X
    obtain ⟨hx, hb, hml, hown, hts, hK, hbs, hcl, hsl, hr, hlk, hfr, hlo⟩ := F
    intro H locs ls hW hS hL
    exact lv_irem hx hb hd hy (kk H locs ls hW hS hL)
def fd_f_ldiv (x y : Int64) : Int64 := x / y
def fd_z_ldiv (y : Int64) : Bool := decide (y = 0)
theorem fd_ldiv (F : fd_F X cc own n rt d) {a b : fd_D Int64} (h1 : fd_Ev X n Q fd_l k p q a) (h2 : fd_Ev X n Q fd_l (k + 2) q r b) (hd : decode cc r = .ok (.ldiv, 1)) : fd_Ev X n Q fd_l k p (r + 1) (fd_b2z fd_z_ldiv fd_f_ldiv a b) := by
  intro st σ σ' v hct he kk
  obtain ⟨⟨u, σ1⟩, e1, e2⟩ := fd_bind_of he
  obtain ⟨⟨y, σ2⟩, e3, e4⟩ := fd_bind_of e2
  by_cases hy : y = 0
  · rw [if_pos (by simp [fd_z_ldiv, hy])] at e4
    cases e4
  · rw [if_neg (by simp [fd_z_ldiv, hy])] at e4
    cases e4
    refine h1 st σ σ1 u hct e1 (h2 (fd_l u :: st) σ1 _ y (by rw [fd_ct_cons]; show 2 + _ ≤ _; omega) e3 ?_)
    obtain ⟨g, pr, l, e, R, s, m, args, below, meth, c, cells, slots⟩ := X
    obtain ⟨hx, hb, hml, hown, hts, hK, hbs, hcl, hsl, hr, hlk, hfr, hlo⟩ := F
    intro H locs ls hW hS hL
    exact lv_ldiv hx hb hd hy (kk H locs ls hW hS hL)
def fd_f_lrem (x y : Int64) : Int64 := x - x / y * y
def fd_z_lrem (y : Int64) : Bool := decide (y = 0)
theorem fd_lrem (F : fd_F X cc own n rt d) {a b : fd_D Int64} (h1 : fd_Ev X n Q fd_l k p q a) (h2 : fd_Ev X n Q fd_l (k + 2) q r b) (hd : decode cc r = .ok (.lrem, 1)) : fd_Ev X n Q fd_l k p (r + 1) (fd_b2z fd_z_lrem fd_f_lrem a b) := by
  intro st σ σ' v hct he kk
  obtain ⟨⟨u, σ1⟩, e1, e2⟩ := fd_bind_of he
  obtain ⟨⟨y, σ2⟩, e3, e4⟩ := fd_bind_of e2
  by_cases hy : y = 0
  · rw [if_pos (by simp [fd_z_lrem, hy])] at e4
    cases e4
  · rw [if_neg (by simp [fd_z_lrem, hy])] at e4
    cases e4
    refine h1 st σ σ1 u hct e1 (h2 (fd_l u :: st) σ1 _ y (by rw [fd_ct_cons]; show 2 + _ ≤ _; omega) e3 ?_)
    obtain ⟨g, pr, l, e, R, s, m, args, below, meth, c, cells, slots⟩ := X
    obtain ⟨hx, hb, hml, hown, hts, hK, hbs, hcl, hsl, hr, hlk, hfr, hlo⟩ := F
    intro H locs ls hW hS hL
    exact lv_lrem hx hb hd hy (kk H locs ls hW hS hL)
def fd_f_ineg (x : Int32) : Int32 := -x
theorem fd_o_ineg (F : fd_F X cc own n rt d) (hd : decode cc p = .ok (.ineg, 1)) : fd_O1 X n Q fd_i fd_i p (p + 1) fd_f_ineg := by
  obtain ⟨g, pr, l, e, R, s, m, args, below, meth, c, cells, slots⟩ := X
  obtain ⟨hx, hb, hml, hown, hts, hK, hbs, hcl, hsl, hr, hlk, hfr, hlo⟩ := F
  intro st σ x kk H locs ls hW hS hL
  exact lv_ineg hx hb hd (kk H locs ls hW hS hL)
def fd_f_i2l (x : Int32) : Int64 := x.toInt64
theorem fd_o_i2l (F : fd_F X cc own n rt d) (hd : decode cc p = .ok (.i2l, 1)) : fd_O1 X n Q fd_i fd_l p (p + 1) fd_f_i2l := by
  obtain ⟨g, pr, l, e, R, s, m, args, below, meth, c, cells, slots⟩ := X
  obtain ⟨hx, hb, hml, hown, hts, hK, hbs, hcl, hsl, hr, hlk, hfr, hlo⟩ := F
  intro st σ x kk H locs ls hW hS hL
  exact lv_i2l hx hb hd rfl (kk H locs ls hW hS hL)
def fd_f_l2i (x : Int64) : Int32 := x.toInt32
theorem fd_o_l2i (F : fd_F X cc own n rt d) (hd : decode cc p = .ok (.l2i, 1)) : fd_O1 X n Q fd_l fd_i p (p + 1) fd_f_l2i := by
  obtain ⟨g, pr, l, e, R, s, m, args, below, meth, c, cells, slots⟩ := X
  obtain ⟨hx, hb, hml, hown, hts, hK, hbs, hcl, hsl, hr, hlk, hfr, hlo⟩ := F
  intro st σ x kk H locs ls hW hS hL
  exact lv_l2i hx hb hd rfl (kk H locs ls hW hS hL)
def fd_f_i2b (x : Int32) : Int32 := x.toInt8.toInt32
theorem fd_o_i2b (F : fd_F X cc own n rt d) (hd : decode cc p = .ok (.i2b, 1)) : fd_O1 X n Q fd_i fd_i p (p + 1) fd_f_i2b := by
  obtain ⟨g, pr, l, e, R, s, m, args, below, meth, c, cells, slots⟩ := X
  obtain ⟨hx, hb, hml, hown, hts, hK, hbs, hcl, hsl, hr, hlk, hfr, hlo⟩ := F
  intro st σ x kk H locs ls hW hS hL
  exact lv_i2b hx hb hd rfl (kk H locs ls hW hS hL)
def fd_f_i2s (x : Int32) : Int32 := x.toInt16.toInt32
theorem fd_o_i2s (F : fd_F X cc own n rt d) (hd : decode cc p = .ok (.i2s, 1)) : fd_O1 X n Q fd_i fd_i p (p + 1) fd_f_i2s := by
  obtain ⟨g, pr, l, e, R, s, m, args, below, meth, c, cells, slots⟩ := X
  obtain ⟨hx, hb, hml, hown, hts, hK, hbs, hcl, hsl, hr, hlk, hfr, hlo⟩ := F
  intro st σ x kk H locs ls hW hS hL
  exact lv_i2s hx hb hd rfl (kk H locs ls hW hS hL)
def fd_f_i2c (x : Int32) : Int32 := (x.toUInt32 % 65536).toInt32
theorem fd_o_i2c (F : fd_F X cc own n rt d) (hd : decode cc p = .ok (.i2c, 1)) : fd_O1 X n Q fd_i fd_i p (p + 1) fd_f_i2c := by
  obtain ⟨g, pr, l, e, R, s, m, args, below, meth, c, cells, slots⟩ := X
  obtain ⟨hx, hb, hml, hown, hts, hK, hbs, hcl, hsl, hr, hlk, hfr, hlo⟩ := F
  intro st σ x kk H locs ls hW hS hL
  exact lv_i2c hx hb hd rfl (kk H locs ls hW hS hL)
def fd_J2 (X : fd_X) (n : Nat) (Q : State → Prop) (p t f : Nat) (S : Int32 → Int32 → Bool) : Prop := ∀ (st : List Value) (σ : fd_S) (x y : Int32), fd_W X n Q (if S x y then t else f) st σ → fd_W X n Q p (.int y :: .int x :: st) σ
def fd_J1 (X : fd_X) (n : Nat) (Q : State → Prop) (p t f : Nat) (S : Int32 → Int32 → Bool) : Prop := ∀ (st : List Value) (σ : fd_S) (x : Int32), fd_W X n Q (if S x 0 then t else f) st σ → fd_W X n Q p (.int x :: st) σ
def fd_p_eq (x y : Int32) : Bool := decide (x = y)
def fd_p_ne (x y : Int32) : Bool := decide (¬ x = y)
def fd_p_lt (x y : Int32) : Bool := decide (x < y)
def fd_p_ge (x y : Int32) : Bool := decide (y ≤ x)
def fd_p_gt (x y : Int32) : Bool := decide (y < x)
def fd_p_le (x y : Int32) : Bool := decide (x ≤ y)
def fd_cmp (S : Int32 → Int32 → Bool) (a b : fd_D Int32) : fd_D Bool := fun σ => (a σ).bind fun u => (b u.2).bind fun v => some (S u.1 v.1, v.2)
def fd_cmz (S : Int32 → Int32 → Bool) (a : fd_D Int32) : fd_D Bool := fun σ => (a σ).bind fun u => some (S u.1 0, u.2)
theorem fd_cj2 {t f : Nat} {S : Int32 → Int32 → Bool} {a b : fd_D Int32} (h1 : fd_Ev X n Q fd_i k p q a) (h2 : fd_Ev X n Q fd_i (k + 1) q r b) (hj : fd_J2 X n Q r t f S) : fd_Cj X n Q k p t f (fd_cmp S a b) := by
  intro st σ σ' v hct he kk
  obtain ⟨⟨u, σ1⟩, e1, e2⟩ := fd_bind_of he
  obtain ⟨⟨y, σ2⟩, e3, e4⟩ := fd_bind_of e2
  cases e4
  exact h1 st σ σ1 u hct e1 (h2 (fd_i u :: st) σ1 σ2 y (by rw [fd_ct_cons]; show 1 + _ ≤ _; omega) e3 (hj st σ2 u y kk))
theorem fd_cj1 {t f : Nat} {S : Int32 → Int32 → Bool} {a : fd_D Int32} (h1 : fd_Ev X n Q fd_i k p q a) (hj : fd_J1 X n Q q t f S) : fd_Cj X n Q k p t f (fd_cmz S a) := by
  intro st σ σ' v hct he kk
  obtain ⟨⟨u, σ1⟩, e1, e2⟩ := fd_bind_of he
  cases e2
  exact h1 st σ σ1 u hct e1 (hj st σ1 u kk)
theorem fd_j2_eq_t (F : fd_F X cc own n rt d) {off : Int} {j : Nat} (hd : decode cc p = .ok (.if_icmp .eq off, 3)) (ht : (p : Int) + off = (j : Int)) : fd_J2 X n Q p (j) (p + 3) fd_p_eq := by
  obtain ⟨g, pr, l, e, R, s, m, args, below, meth, c, cells, slots⟩ := X
  obtain ⟨hx, hb, hml, hown, hts, hK, hbs, hcl, hsl, hr, hlk, hfr, hlo⟩ := F
  intro st σ x y kk H locs ls hW hS hL
  refine lv_icmp_eq hx hb hd ht (fun h => ?_) (fun h => ?_)
  · rw [show fd_p_eq x y = true by simp only [fd_p_eq, decide_eq_true_eq, decide_eq_false_iff_not]; exact h] at kk
    exact kk H locs ls hW hS hL
  · rw [show fd_p_eq x y = false by simp only [fd_p_eq, decide_eq_true_eq, decide_eq_false_iff_not]; first | exact h | exact Int32.not_le.mp h | exact Int32.not_lt.mp h | exact Decidable.not_not.mp h | exact (fun z => z h)] at kk
    exact kk H locs ls hW hS hL
theorem fd_j2_eq_f (F : fd_F X cc own n rt d) {off : Int} {j : Nat} (hd : decode cc p = .ok (.if_icmp .eq off, 3)) (ht : (p : Int) + off = (j : Int)) : fd_J2 X n Q p (p + 3) (j) fd_p_ne := by
  obtain ⟨g, pr, l, e, R, s, m, args, below, meth, c, cells, slots⟩ := X
  obtain ⟨hx, hb, hml, hown, hts, hK, hbs, hcl, hsl, hr, hlk, hfr, hlo⟩ := F
  intro st σ x y kk H locs ls hW hS hL
  refine lv_icmp_eq hx hb hd ht (fun h => ?_) (fun h => ?_)
  · rw [show fd_p_ne x y = false by simp only [fd_p_ne, decide_eq_true_eq, decide_eq_false_iff_not, Int32.not_le, Int32.not_lt, Decidable.not_not]; exact h] at kk
    exact kk H locs ls hW hS hL
  · rw [show fd_p_ne x y = true by simp only [fd_p_ne, decide_eq_true_eq, decide_eq_false_iff_not]; first | exact h | exact Int32.not_le.mp h | exact Int32.not_lt.mp h | exact Decidable.not_not.mp h | exact (fun z => z h)] at kk
    exact kk H locs ls hW hS hL
theorem fd_j1_eq_t (F : fd_F X cc own n rt d) {off : Int} {j : Nat} (hd : decode cc p = .ok (.ifCond .eq off, 3)) (ht : (p : Int) + off = (j : Int)) : fd_J1 X n Q p (j) (p + 3) fd_p_eq := by
  obtain ⟨g, pr, l, e, R, s, m, args, below, meth, c, cells, slots⟩ := X
  obtain ⟨hx, hb, hml, hown, hts, hK, hbs, hcl, hsl, hr, hlk, hfr, hlo⟩ := F
  intro st σ x kk H locs ls hW hS hL
  refine lv_if_eq hx hb hd ht (fun h => ?_) (fun h => ?_)
  · rw [show fd_p_eq x 0 = true by simp only [fd_p_eq, decide_eq_true_eq, decide_eq_false_iff_not]; exact h] at kk
    exact kk H locs ls hW hS hL
  · rw [show fd_p_eq x 0 = false by simp only [fd_p_eq, decide_eq_true_eq, decide_eq_false_iff_not]; first | exact h | exact Int32.not_le.mp h | exact Int32.not_lt.mp h | exact Decidable.not_not.mp h | exact (fun z => z h)] at kk
    exact kk H locs ls hW hS hL
theorem fd_j1_eq_f (F : fd_F X cc own n rt d) {off : Int} {j : Nat} (hd : decode cc p = .ok (.ifCond .eq off, 3)) (ht : (p : Int) + off = (j : Int)) : fd_J1 X n Q p (p + 3) (j) fd_p_ne := by
  obtain ⟨g, pr, l, e, R, s, m, args, below, meth, c, cells, slots⟩ := X
  obtain ⟨hx, hb, hml, hown, hts, hK, hbs, hcl, hsl, hr, hlk, hfr, hlo⟩ := F
  intro st σ x kk H locs ls hW hS hL
  refine lv_if_eq hx hb hd ht (fun h => ?_) (fun h => ?_)
  · rw [show fd_p_ne x 0 = false by simp only [fd_p_ne, decide_eq_true_eq, decide_eq_false_iff_not, Int32.not_le, Int32.not_lt, Decidable.not_not]; exact h] at kk
    exact kk H locs ls hW hS hL
  · rw [show fd_p_ne x 0 = true by simp only [fd_p_ne, decide_eq_true_eq, decide_eq_false_iff_not]; first | exact h | exact Int32.not_le.mp h | exact Int32.not_lt.mp h | exact Decidable.not_not.mp h | exact (fun z => z h)] at kk
    exact kk H locs ls hW hS hL
theorem fd_j2_ne_t (F : fd_F X cc own n rt d) {off : Int} {j : Nat} (hd : decode cc p = .ok (.if_icmp .ne off, 3)) (ht : (p : Int) + off = (j : Int)) : fd_J2 X n Q p (j) (p + 3) fd_p_ne := by
  obtain ⟨g, pr, l, e, R, s, m, args, below, meth, c, cells, slots⟩ := X
  obtain ⟨hx, hb, hml, hown, hts, hK, hbs, hcl, hsl, hr, hlk, hfr, hlo⟩ := F
  intro st σ x y kk H locs ls hW hS hL
  refine lv_icmp_ne hx hb hd ht (fun h => ?_) (fun h => ?_)
  · rw [show fd_p_ne x y = true by simp only [fd_p_ne, decide_eq_true_eq, decide_eq_false_iff_not]; exact h] at kk
    exact kk H locs ls hW hS hL
  · rw [show fd_p_ne x y = false by simp only [fd_p_ne, decide_eq_true_eq, decide_eq_false_iff_not]; first | exact h | exact Int32.not_le.mp h | exact Int32.not_lt.mp h | exact Decidable.not_not.mp h | exact (fun z => z h)] at kk
    exact kk H locs ls hW hS hL
theorem fd_j2_ne_f (F : fd_F X cc own n rt d) {off : Int} {j : Nat} (hd : decode cc p = .ok (.if_icmp .ne off, 3)) (ht : (p : Int) + off = (j : Int)) : fd_J2 X n Q p (p + 3) (j) fd_p_eq := by
  obtain ⟨g, pr, l, e, R, s, m, args, below, meth, c, cells, slots⟩ := X
  obtain ⟨hx, hb, hml, hown, hts, hK, hbs, hcl, hsl, hr, hlk, hfr, hlo⟩ := F
  intro st σ x y kk H locs ls hW hS hL
  refine lv_icmp_ne hx hb hd ht (fun h => ?_) (fun h => ?_)
  · rw [show fd_p_eq x y = false by simp only [fd_p_eq, decide_eq_true_eq, decide_eq_false_iff_not, Int32.not_le, Int32.not_lt, Decidable.not_not]; exact h] at kk
    exact kk H locs ls hW hS hL
  · rw [show fd_p_eq x y = true by simp only [fd_p_eq, decide_eq_true_eq, decide_eq_false_iff_not]; first | exact h | exact Int32.not_le.mp h | exact Int32.not_lt.mp h | exact Decidable.not_not.mp h | exact (fun z => z h)] at kk
    exact kk H locs ls hW hS hL
theorem fd_j1_ne_t (F : fd_F X cc own n rt d) {off : Int} {j : Nat} (hd : decode cc p = .ok (.ifCond .ne off, 3)) (ht : (p : Int) + off = (j : Int)) : fd_J1 X n Q p (j) (p + 3) fd_p_ne := by
  obtain ⟨g, pr, l, e, R, s, m, args, below, meth, c, cells, slots⟩ := X
  obtain ⟨hx, hb, hml, hown, hts, hK, hbs, hcl, hsl, hr, hlk, hfr, hlo⟩ := F
  intro st σ x kk H locs ls hW hS hL
  refine lv_if_ne hx hb hd ht (fun h => ?_) (fun h => ?_)
  · rw [show fd_p_ne x 0 = true by simp only [fd_p_ne, decide_eq_true_eq, decide_eq_false_iff_not]; exact h] at kk
    exact kk H locs ls hW hS hL
  · rw [show fd_p_ne x 0 = false by simp only [fd_p_ne, decide_eq_true_eq, decide_eq_false_iff_not]; first | exact h | exact Int32.not_le.mp h | exact Int32.not_lt.mp h | exact Decidable.not_not.mp h | exact (fun z => z h)] at kk
    exact kk H locs ls hW hS hL
theorem fd_j1_ne_f (F : fd_F X cc own n rt d) {off : Int} {j : Nat} (hd : decode cc p = .ok (.ifCond .ne off, 3)) (ht : (p : Int) + off = (j : Int)) : fd_J1 X n Q p (p + 3) (j) fd_p_eq := by
  obtain ⟨g, pr, l, e, R, s, m, args, below, meth, c, cells, slots⟩ := X
  obtain ⟨hx, hb, hml, hown, hts, hK, hbs, hcl, hsl, hr, hlk, hfr, hlo⟩ := F
  intro st σ x kk H locs ls hW hS hL
  refine lv_if_ne hx hb hd ht (fun h => ?_) (fun h => ?_)
  · rw [show fd_p_eq x 0 = false by simp only [fd_p_eq, decide_eq_true_eq, decide_eq_false_iff_not, Int32.not_le, Int32.not_lt, Decidable.not_not]; exact h] at kk
    exact kk H locs ls hW hS hL
  · rw [show fd_p_eq x 0 = true by simp only [fd_p_eq, decide_eq_true_eq, decide_eq_false_iff_not]; first | exact h | exact Int32.not_le.mp h | exact Int32.not_lt.mp h | exact Decidable.not_not.mp h | exact (fun z => z h)] at kk
    exact kk H locs ls hW hS hL
theorem fd_j2_lt_t (F : fd_F X cc own n rt d) {off : Int} {j : Nat} (hd : decode cc p = .ok (.if_icmp .lt off, 3)) (ht : (p : Int) + off = (j : Int)) : fd_J2 X n Q p (j) (p + 3) fd_p_lt := by
  obtain ⟨g, pr, l, e, R, s, m, args, below, meth, c, cells, slots⟩ := X
  obtain ⟨hx, hb, hml, hown, hts, hK, hbs, hcl, hsl, hr, hlk, hfr, hlo⟩ := F
  intro st σ x y kk H locs ls hW hS hL
  refine lv_icmp_lt hx hb hd ht (fun h => ?_) (fun h => ?_)
  · rw [show fd_p_lt x y = true by simp only [fd_p_lt, decide_eq_true_eq, decide_eq_false_iff_not]; exact h] at kk
    exact kk H locs ls hW hS hL
  · rw [show fd_p_lt x y = false by simp only [fd_p_lt, decide_eq_true_eq, decide_eq_false_iff_not]; first | exact h | exact Int32.not_le.mp h | exact Int32.not_lt.mp h | exact Decidable.not_not.mp h | exact (fun z => z h)] at kk
    exact kk H locs ls hW hS hL
theorem fd_j2_lt_f (F : fd_F X cc own n rt d) {off : Int} {j : Nat} (hd : decode cc p = .ok (.if_icmp .lt off, 3)) (ht : (p : Int) + off = (j : Int)) : fd_J2 X n Q p (p + 3) (j) fd_p_ge := by
  obtain ⟨g, pr, l, e, R, s, m, args, below, meth, c, cells, slots⟩ := X
  obtain ⟨hx, hb, hml, hown, hts, hK, hbs, hcl, hsl, hr, hlk, hfr, hlo⟩ := F
  intro st σ x y kk H locs ls hW hS hL
  refine lv_icmp_lt hx hb hd ht (fun h => ?_) (fun h => ?_)
  · rw [show fd_p_ge x y = false by simp only [fd_p_ge, decide_eq_true_eq, decide_eq_false_iff_not, Int32.not_le, Int32.not_lt, Decidable.not_not]; exact h] at kk
    exact kk H locs ls hW hS hL
  · rw [show fd_p_ge x y = true by simp only [fd_p_ge, decide_eq_true_eq, decide_eq_false_iff_not]; first | exact h | exact Int32.not_le.mp h | exact Int32.not_lt.mp h | exact Decidable.not_not.mp h | exact (fun z => z h)] at kk
    exact kk H locs ls hW hS hL
theorem fd_j1_lt_t (F : fd_F X cc own n rt d) {off : Int} {j : Nat} (hd : decode cc p = .ok (.ifCond .lt off, 3)) (ht : (p : Int) + off = (j : Int)) : fd_J1 X n Q p (j) (p + 3) fd_p_lt := by
  obtain ⟨g, pr, l, e, R, s, m, args, below, meth, c, cells, slots⟩ := X
  obtain ⟨hx, hb, hml, hown, hts, hK, hbs, hcl, hsl, hr, hlk, hfr, hlo⟩ := F
  intro st σ x kk H locs ls hW hS hL
  refine lv_if_lt hx hb hd ht (fun h => ?_) (fun h => ?_)
  · rw [show fd_p_lt x 0 = true by simp only [fd_p_lt, decide_eq_true_eq, decide_eq_false_iff_not]; exact h] at kk
    exact kk H locs ls hW hS hL
  · rw [show fd_p_lt x 0 = false by simp only [fd_p_lt, decide_eq_true_eq, decide_eq_false_iff_not]; first | exact h | exact Int32.not_le.mp h | exact Int32.not_lt.mp h | exact Decidable.not_not.mp h | exact (fun z => z h)] at kk
    exact kk H locs ls hW hS hL
theorem fd_j1_lt_f (F : fd_F X cc own n rt d) {off : Int} {j : Nat} (hd : decode cc p = .ok (.ifCond .lt off, 3)) (ht : (p : Int) + off = (j : Int)) : fd_J1 X n Q p (p + 3) (j) fd_p_ge := by
  obtain ⟨g, pr, l, e, R, s, m, args, below, meth, c, cells, slots⟩ := X
  obtain ⟨hx, hb, hml, hown, hts, hK, hbs, hcl, hsl, hr, hlk, hfr, hlo⟩ := F
  intro st σ x kk H locs ls hW hS hL
  refine lv_if_lt hx hb hd ht (fun h => ?_) (fun h => ?_)
  · rw [show fd_p_ge x 0 = false by simp only [fd_p_ge, decide_eq_true_eq, decide_eq_false_iff_not, Int32.not_le, Int32.not_lt, Decidable.not_not]; exact h] at kk
    exact kk H locs ls hW hS hL
  · rw [show fd_p_ge x 0 = true by simp only [fd_p_ge, decide_eq_true_eq, decide_eq_false_iff_not]; first | exact h | exact Int32.not_le.mp h | exact Int32.not_lt.mp h | exact Decidable.not_not.mp h | exact (fun z => z h)] at kk
    exact kk H locs ls hW hS hL
theorem fd_j2_ge_t (F : fd_F X cc own n rt d) {off : Int} {j : Nat} (hd : decode cc p = .ok (.if_icmp .ge off, 3)) (ht : (p : Int) + off = (j : Int)) : fd_J2 X n Q p (j) (p + 3) fd_p_ge := by
  obtain ⟨g, pr, l, e, R, s, m, args, below, meth, c, cells, slots⟩ := X
  obtain ⟨hx, hb, hml, hown, hts, hK, hbs, hcl, hsl, hr, hlk, hfr, hlo⟩ := F
  intro st σ x y kk H locs ls hW hS hL
  refine lv_icmp_ge hx hb hd ht (fun h => ?_) (fun h => ?_)
  · rw [show fd_p_ge x y = true by simp only [fd_p_ge, decide_eq_true_eq, decide_eq_false_iff_not]; exact h] at kk
    exact kk H locs ls hW hS hL
  · rw [show fd_p_ge x y = false by simp only [fd_p_ge, decide_eq_true_eq, decide_eq_false_iff_not]; first | exact h | exact Int32.not_le.mp h | exact Int32.not_lt.mp h | exact Decidable.not_not.mp h | exact (fun z => z h)] at kk
    exact kk H locs ls hW hS hL
theorem fd_j2_ge_f (F : fd_F X cc own n rt d) {off : Int} {j : Nat} (hd : decode cc p = .ok (.if_icmp .ge off, 3)) (ht : (p : Int) + off = (j : Int)) : fd_J2 X n Q p (p + 3) (j) fd_p_lt := by
  obtain ⟨g, pr, l, e, R, s, m, args, below, meth, c, cells, slots⟩ := X
  obtain ⟨hx, hb, hml, hown, hts, hK, hbs, hcl, hsl, hr, hlk, hfr, hlo⟩ := F
  intro st σ x y kk H locs ls hW hS hL
  refine lv_icmp_ge hx hb hd ht (fun h => ?_) (fun h => ?_)
  · rw [show fd_p_lt x y = false by simp only [fd_p_lt, decide_eq_true_eq, decide_eq_false_iff_not, Int32.not_le, Int32.not_lt, Decidable.not_not]; exact h] at kk
    exact kk H locs ls hW hS hL
  · rw [show fd_p_lt x y = true by simp only [fd_p_lt, decide_eq_true_eq, decide_eq_false_iff_not]; first | exact h | exact Int32.not_le.mp h | exact Int32.not_lt.mp h | exact Decidable.not_not.mp h | exact (fun z => z h)] at kk
    exact kk H locs ls hW hS hL
theorem fd_j1_ge_t (F : fd_F X cc own n rt d) {off : Int} {j : Nat} (hd : decode cc p = .ok (.ifCond .ge off, 3)) (ht : (p : Int) + off = (j : Int)) : fd_J1 X n Q p (j) (p + 3) fd_p_ge := by
  obtain ⟨g, pr, l, e, R, s, m, args, below, meth, c, cells, slots⟩ := X
  obtain ⟨hx, hb, hml, hown, hts, hK, hbs, hcl, hsl, hr, hlk, hfr, hlo⟩ := F
  intro st σ x kk H locs ls hW hS hL
  refine lv_if_ge hx hb hd ht (fun h => ?_) (fun h => ?_)
  · rw [show fd_p_ge x 0 = true by simp only [fd_p_ge, decide_eq_true_eq, decide_eq_false_iff_not]; exact h] at kk
    exact kk H locs ls hW hS hL
  · rw [show fd_p_ge x 0 = false by simp only [fd_p_ge, decide_eq_true_eq, decide_eq_false_iff_not]; first | exact h | exact Int32.not_le.mp h | exact Int32.not_lt.mp h | exact Decidable.not_not.mp h | exact (fun z => z h)] at kk
    exact kk H locs ls hW hS hL
theorem fd_j1_ge_f (F : fd_F X cc own n rt d) {off : Int} {j : Nat} (hd : decode cc p = .ok (.ifCond .ge off, 3)) (ht : (p : Int) + off = (j : Int)) : fd_J1 X n Q p (p + 3) (j) fd_p_lt := by
  obtain ⟨g, pr, l, e, R, s, m, args, below, meth, c, cells, slots⟩ := X
  obtain ⟨hx, hb, hml, hown, hts, hK, hbs, hcl, hsl, hr, hlk, hfr, hlo⟩ := F
  intro st σ x kk H locs ls hW hS hL
  refine lv_if_ge hx hb hd ht (fun h => ?_) (fun h => ?_)
  · rw [show fd_p_lt x 0 = false by simp only [fd_p_lt, decide_eq_true_eq, decide_eq_false_iff_not, Int32.not_le, Int32.not_lt, Decidable.not_not]; exact h] at kk
    exact kk H locs ls hW hS hL
  · rw [show fd_p_lt x 0 = true by simp only [fd_p_lt, decide_eq_true_eq, decide_eq_false_iff_not]; first | exact h | exact Int32.not_le.mp h | exact Int32.not_lt.mp h | exact Decidable.not_not.mp h | exact (fun z => z h)] at kk
    exact kk H locs ls hW hS hL
theorem fd_j2_gt_t (F : fd_F X cc own n rt d) {off : Int} {j : Nat} (hd : decode cc p = .ok (.if_icmp .gt off, 3)) (ht : (p : Int) + off = (j : Int)) : fd_J2 X n Q p (j) (p + 3) fd_p_gt := by
  obtain ⟨g, pr, l, e, R, s, m, args, below, meth, c, cells, slots⟩ := X
  obtain ⟨hx, hb, hml, hown, hts, hK, hbs, hcl, hsl, hr, hlk, hfr, hlo⟩ := F
  intro st σ x y kk H locs ls hW hS hL
  refine lv_icmp_gt hx hb hd ht (fun h => ?_) (fun h => ?_)
  · rw [show fd_p_gt x y = true by simp only [fd_p_gt, decide_eq_true_eq, decide_eq_false_iff_not]; exact h] at kk
    exact kk H locs ls hW hS hL
  · rw [show fd_p_gt x y = false by simp only [fd_p_gt, decide_eq_true_eq, decide_eq_false_iff_not]; first | exact h | exact Int32.not_le.mp h | exact Int32.not_lt.mp h | exact Decidable.not_not.mp h | exact (fun z => z h)] at kk
    exact kk H locs ls hW hS hL
theorem fd_j2_gt_f (F : fd_F X cc own n rt d) {off : Int} {j : Nat} (hd : decode cc p = .ok (.if_icmp .gt off, 3)) (ht : (p : Int) + off = (j : Int)) : fd_J2 X n Q p (p + 3) (j) fd_p_le := by
  obtain ⟨g, pr, l, e, R, s, m, args, below, meth, c, cells, slots⟩ := X
  obtain ⟨hx, hb, hml, hown, hts, hK, hbs, hcl, hsl, hr, hlk, hfr, hlo⟩ := F
  intro st σ x y kk H locs ls hW hS hL
  refine lv_icmp_gt hx hb hd ht (fun h => ?_) (fun h => ?_)
  · rw [show fd_p_le x y = false by simp only [fd_p_le, decide_eq_true_eq, decide_eq_false_iff_not, Int32.not_le, Int32.not_lt, Decidable.not_not]; exact h] at kk
    exact kk H locs ls hW hS hL
  · rw [show fd_p_le x y = true by simp only [fd_p_le, decide_eq_true_eq, decide_eq_false_iff_not]; first | exact h | exact Int32.not_le.mp h | exact Int32.not_lt.mp h | exact Decidable.not_not.mp h | exact (fun z => z h)] at kk
    exact kk H locs ls hW hS hL
theorem fd_j1_gt_t (F : fd_F X cc own n rt d) {off : Int} {j : Nat} (hd : decode cc p = .ok (.ifCond .gt off, 3)) (ht : (p : Int) + off = (j : Int)) : fd_J1 X n Q p (j) (p + 3) fd_p_gt := by
  obtain ⟨g, pr, l, e, R, s, m, args, below, meth, c, cells, slots⟩ := X
  obtain ⟨hx, hb, hml, hown, hts, hK, hbs, hcl, hsl, hr, hlk, hfr, hlo⟩ := F
  intro st σ x kk H locs ls hW hS hL
  refine lv_if_gt hx hb hd ht (fun h => ?_) (fun h => ?_)
  · rw [show fd_p_gt x 0 = true by simp only [fd_p_gt, decide_eq_true_eq, decide_eq_false_iff_not]; exact h] at kk
    exact kk H locs ls hW hS hL
  · rw [show fd_p_gt x 0 = false by simp only [fd_p_gt, decide_eq_true_eq, decide_eq_false_iff_not]; first | exact h | exact Int32.not_le.mp h | exact Int32.not_lt.mp h | exact Decidable.not_not.mp h | exact (fun z => z h)] at kk
    exact kk H locs ls hW hS hL
theorem fd_j1_gt_f (F : fd_F X cc own n rt d) {off : Int} {j : Nat} (hd : decode cc p = .ok (.ifCond .gt off, 3)) (ht : (p : Int) + off = (j : Int)) : fd_J1 X n Q p (p + 3) (j) fd_p_le := by
  obtain ⟨g, pr, l, e, R, s, m, args, below, meth, c, cells, slots⟩ := X
  obtain ⟨hx, hb, hml, hown, hts, hK, hbs, hcl, hsl, hr, hlk, hfr, hlo⟩ := F
  intro st σ x kk H locs ls hW hS hL
  refine lv_if_gt hx hb hd ht (fun h => ?_) (fun h => ?_)
  · rw [show fd_p_le x 0 = false by simp only [fd_p_le, decide_eq_true_eq, decide_eq_false_iff_not, Int32.not_le, Int32.not_lt, Decidable.not_not]; exact h] at kk
    exact kk H locs ls hW hS hL
  · rw [show fd_p_le x 0 = true by simp only [fd_p_le, decide_eq_true_eq, decide_eq_false_iff_not]; first | exact h | exact Int32.not_le.mp h | exact Int32.not_lt.mp h | exact Decidable.not_not.mp h | exact (fun z => z h)] at kk
    exact kk H locs ls hW hS hL
theorem fd_j2_le_t (F : fd_F X cc own n rt d) {off : Int} {j : Nat} (hd : decode cc p = .ok (.if_icmp .le off, 3)) (ht : (p : Int) + off = (j : Int)) : fd_J2 X n Q p (j) (p + 3) fd_p_le := by
  obtain ⟨g, pr, l, e, R, s, m, args, below, meth, c, cells, slots⟩ := X
  obtain ⟨hx, hb, hml, hown, hts, hK, hbs, hcl, hsl, hr, hlk, hfr, hlo⟩ := F
  intro st σ x y kk H locs ls hW hS hL
  refine lv_icmp_le hx hb hd ht (fun h => ?_) (fun h => ?_)
  · rw [show fd_p_le x y = true by simp only [fd_p_le, decide_eq_true_eq, decide_eq_false_iff_not]; exact h] at kk
    exact kk H locs ls hW hS hL
  · rw [show fd_p_le x y = false by simp only [fd_p_le, decide_eq_true_eq, decide_eq_false_iff_not]; first | exact h | exact Int32.not_le.mp h | exact Int32.not_lt.mp h | exact Decidable.not_not.mp h | exact (fun z => z h)] at kk
    exact kk H locs ls hW hS hL
theorem fd_j2_le_f (F : fd_F X cc own n rt d) {off : Int} {j : Nat} (hd : decode cc p = .ok (.if_icmp .le off, 3)) (ht : (p : Int) + off = (j : Int)) : fd_J2 X n Q p (p + 3) (j) fd_p_gt := by
  obtain ⟨g, pr, l, e, R, s, m, args, below, meth, c, cells, slots⟩ := X
  obtain ⟨hx, hb, hml, hown, hts, hK, hbs, hcl, hsl, hr, hlk, hfr, hlo⟩ := F
  intro st σ x y kk H locs ls hW hS hL
  refine lv_icmp_le hx hb hd ht (fun h => ?_) (fun h => ?_)
  · rw [show fd_p_gt x y = false by simp only [fd_p_gt, decide_eq_true_eq, decide_eq_false_iff_not, Int32.not_le, Int32.not_lt, Decidable.not_not]; exact h] at kk
    exact kk H locs ls hW hS hL
  · rw [show fd_p_gt x y = true by simp only [fd_p_gt, decide_eq_true_eq, decide_eq_false_iff_not]; first | exact h | exact Int32.not_le.mp h | exact Int32.not_lt.mp h | exact Decidable.not_not.mp h | exact (fun z => z h)] at kk
    exact kk H locs ls hW hS hL
theorem fd_j1_le_t (F : fd_F X cc own n rt d) {off : Int} {j : Nat} (hd : decode cc p = .ok (.ifCond .le off, 3)) (ht : (p : Int) + off = (j : Int)) : fd_J1 X n Q p (j) (p + 3) fd_p_le := by
  obtain ⟨g, pr, l, e, R, s, m, args, below, meth, c, cells, slots⟩ := X
  obtain ⟨hx, hb, hml, hown, hts, hK, hbs, hcl, hsl, hr, hlk, hfr, hlo⟩ := F
  intro st σ x kk H locs ls hW hS hL
  refine lv_if_le hx hb hd ht (fun h => ?_) (fun h => ?_)
  · rw [show fd_p_le x 0 = true by simp only [fd_p_le, decide_eq_true_eq, decide_eq_false_iff_not]; exact h] at kk
    exact kk H locs ls hW hS hL
  · rw [show fd_p_le x 0 = false by simp only [fd_p_le, decide_eq_true_eq, decide_eq_false_iff_not]; first | exact h | exact Int32.not_le.mp h | exact Int32.not_lt.mp h | exact Decidable.not_not.mp h | exact (fun z => z h)] at kk
    exact kk H locs ls hW hS hL
theorem fd_j1_le_f (F : fd_F X cc own n rt d) {off : Int} {j : Nat} (hd : decode cc p = .ok (.ifCond .le off, 3)) (ht : (p : Int) + off = (j : Int)) : fd_J1 X n Q p (p + 3) (j) fd_p_gt := by
  obtain ⟨g, pr, l, e, R, s, m, args, below, meth, c, cells, slots⟩ := X
  obtain ⟨hx, hb, hml, hown, hts, hK, hbs, hcl, hsl, hr, hlk, hfr, hlo⟩ := F
  intro st σ x kk H locs ls hW hS hL
  refine lv_if_le hx hb hd ht (fun h => ?_) (fun h => ?_)
  · rw [show fd_p_gt x 0 = false by simp only [fd_p_gt, decide_eq_true_eq, decide_eq_false_iff_not, Int32.not_le, Int32.not_lt, Decidable.not_not]; exact h] at kk
    exact kk H locs ls hW hS hL
  · rw [show fd_p_gt x 0 = true by simp only [fd_p_gt, decide_eq_true_eq, decide_eq_false_iff_not]; first | exact h | exact Int32.not_le.mp h | exact Int32.not_lt.mp h | exact Decidable.not_not.mp h | exact (fun z => z h)] at kk
    exact kk H locs ls hW hS hL
end FDR
