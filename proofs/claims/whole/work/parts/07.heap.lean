/-! ===== fields, arrays, calls, ends ===== -/
section FDH
variable {X : fd_X} {n d : Nat} {Q : State → Prop} {cc : ByteArray} {own : String} {rt : Option FieldType} {k p q r : Nat} {Rt : Value → fd_M → Prop} {qb qc : Nat}
def fd_isO (k ci : Nat) : Bool := Nat.blt k fd_N && ((fd_sh k).1 == 0 && (fd_sh k).2.1 == ci)
def fd_isF (k ci j : Nat) : Option Nat := if fd_isO k ci = true then (fd_sh k).2.2.2[j]? else none
theorem fd_isO_of {k ci : Nat} (h : fd_isO k ci = true) : k < fd_N ∧ (fd_sh k).1 = 0 ∧ (fd_sh k).2.1 = ci := by
  simp only [fd_isO, Bool.and_eq_true, beq_iff_eq] at h
  exact ⟨Nat.le_of_ble_eq_true h.1, h.2.1, h.2.2⟩
theorem fd_isF_of {k ci j c : Nat} (h : fd_isF k ci j = some c) : k < fd_N ∧ (fd_sh k).1 = 0 ∧ (fd_sh k).2.1 = ci ∧ (fd_sh k).2.2.2[j]? = some c := by
  unfold fd_isF at h
  split at h
  next h1 => exact ⟨(fd_isO_of h1).1, (fd_isO_of h1).2.1, (fd_isO_of h1).2.2, h⟩
  next => cases h
def fd_fs (g : fd_G) (M : fd_M) (k : Nat) : List Value := (fd_sh k).2.2.2.mapIdx fun j c => fd_fv g.1 (M.1 k j) c
theorem fd_ce_obj {g : fd_G} {M : fd_M} {k ci : Nat} (h : (fd_sh k).1 = 0) (h2 : (fd_sh k).2.1 = ci) : fd_ce g M k = .inr (ci, fd_fs g M k) := by
  unfold fd_ce
  rw [if_pos h, h2]
  rfl
theorem fd_fs_at {g : fd_G} {M : fd_M} {k j c : Nat} (h : (fd_sh k).2.2.2[j]? = some c) : (fd_fs g M k)[j]? = some (fd_fv g.1 (M.1 k j) c) := by
  unfold fd_fs
  rw [List.getElem?_mapIdx, h]
  rfl
theorem fd_ce_ne {g : fd_G} {M : fd_M} {k j i : Nat} {x : Int32} (h : i ≠ k) : fd_ce g (fd_uI M k j x) i = fd_ce g M i := by
  have e1 : (fd_uI M k j x).1 i = M.1 i := by funext a; simp [fd_uI, h]
  have e2 : (fd_uI M k j x).2 i = M.2 i := rfl
  unfold fd_ce
  rw [e1, e2]
theorem fd_ceL_ne {g : fd_G} {M : fd_M} {k j i : Nat} {x : Int64} (h : i ≠ k) : fd_ce g (fd_uL M k j x) i = fd_ce g M i := by
  have e1 : (fd_uL M k j x).1 i = M.1 i := rfl
  have e2 : (fd_uL M k j x).2 i = M.2 i := by funext a; simp [fd_uL, h]
  unfold fd_ce
  rw [e1, e2]
theorem fd_uI_row (M : fd_M) (k j : Nat) (x : Int32) : (fd_uI M k j x).1 k = upd (M.1 k) j x := by
  funext i
  simp [fd_uI, upd]
theorem fd_uL_row (M : fd_M) (k j : Nat) (x : Int64) : (fd_uL M k j x).2 k = vp_updL (M.2 k) j x := by
  funext i
  simp [fd_uL, vp_updL]
theorem fd_fs_set {g : fd_G} {M : fd_M} {k j c : Nat} {x : Int32} {v : Value} (h : (fd_sh k).2.2.2[j]? = some c) (hv : v = fd_fv g.1 x c) : (fd_fs g M k).set j v = fd_fs g (fd_uI M k j x) k := by
  apply List.ext_getElem?
  intro i
  rw [List.getElem?_set]
  by_cases hij : j = i
  · subst hij
    have hl : j < (fd_fs g M k).length := by
      have := (List.getElem?_eq_some_iff.mp h).1
      simpa [fd_fs] using this
    rw [if_pos rfl, if_pos hl, fd_fs_at h, hv]
    simp [fd_uI]
  · rw [if_neg hij]
    unfold fd_fs
    rw [List.getElem?_mapIdx, List.getElem?_mapIdx]
    simp [fd_uI, Ne.symm hij]
/-- what the tables say of a field that an instruction names, and of its type -/
def fd_Fl (own : String) (idx ci j : Nat) : Prop := ∃ (C : String) (T : u_T) (N : Nat), fd_cl[ci]? = some (C, T, N) ∧ j < N ∧ (∀ w ∈ u_ws C T N, w ∈ fd_TB) ∧ (Cond.fieldLink own idx (T j).1 (T j).2.1 (T j).2.2.1 ∈ fd_TB ∨ ∃ host, Cond.fieldLinkNest own idx (T j).1 (T j).2.1 (T j).2.2.1 host ∈ fd_NW)
def fd_Fp (ci j : Nat) (ty : FieldType) : Prop := ∃ (C : String) (T : u_T) (N : Nat) (ty0 : Nat → FieldType), fd_cl[ci]? = some (C, T, N) ∧ (∀ k, k < N → parseFieldDescriptor (T k).2.2.1 = some (ty0 k)) ∧ (∀ a, a < N → ∀ b, b < N → a ≠ b → (T a).2.1 ≠ (T b).2.1) ∧ (T j).2.2.2 = false ∧ parseFieldDescriptor (T j).2.2.1 = some ty
theorem fd_rget (F : fd_F X cc own n rt d) {idx ci j kk0 c0 : Nat} {st : List Value} {σ : fd_S} (hl : fd_Fl own idx ci j) (hd : decode cc p = .ok (.getfield idx, 3)) (h : fd_isF kk0 ci j = some c0) (kk : fd_W X n Q (p + 3) (fd_fv (fd_b X) (σ.2.1 kk0 j) c0 :: st) σ) : fd_W X n Q p (.ref (fd_b X + kk0) :: st) σ := by
  obtain ⟨g, pr, l, e, R, s, m, args, below, meth, c, cells, slots⟩ := X
  obtain ⟨hx, hb, hml, hown, hts, hK, hbs, hcl, hsl, hr, hlk, hfr, hlo⟩ := F
  obtain ⟨h1, h2, h3, h4⟩ := fd_isF_of h
  obtain ⟨C, T, N, hc, hj, hin, hlk2⟩ := hl
  intro H locs ls hW hS hL
  rcases hlk2 with hlk2 | ⟨host, hlk2⟩
  · exact va_get hx hb hts hin hown hK.1 hW kk0 ((fd_ws_at h1).trans (by rw [fd_ce_obj h2 h3])) hc j hj (hts _ hlk2) (fun _ z => z) (fd_fs_at h4) hd (kk H locs ls hW hS hL)
  · exact va_getN hx hb hts hin hown hK.1 hW kk0 ((fd_ws_at h1).trans (by rw [fd_ce_obj h2 h3])) hc j hj (va_Nw.use rfl (hK.2.1 _ hlk2)) (fun _ z => z) (fd_fs_at h4) hd (kk H locs ls hW hS hL)
theorem fd_rput (F : fd_F X cc own n rt d) {idx ci j kk0 c0 : Nat} {st : List Value} {σ : fd_S} {ty : FieldType} {v : Value} {x : Int32} (hl : fd_Fl own idx ci j) (hp : fd_Fp ci j ty) (hd : decode cc p = .ok (.putfield idx, 3)) (h : fd_isF kk0 ci j = some c0) (hn : narrow ty v = v) (hf : fits ty v = true) (hv : v = fd_fv (fd_b X) x c0) (kk : fd_W X n Q (p + 3) st (σ.1, fd_uI σ.2 kk0 j x)) : fd_W X n Q p (v :: .ref (fd_b X + kk0) :: st) σ := by
  obtain ⟨g, pr, l, e, R, s, m, args, below, meth, c, cells, slots⟩ := X
  obtain ⟨hx, hb, hml, hown, hts, hK, hbs, hcl, hsl, hr, hlk, hfr, hlo⟩ := F
  obtain ⟨h1, h2, h3, h4⟩ := fd_isF_of h
  obtain ⟨C, T, N, hc, hj, hin, hlk2⟩ := hl
  obtain ⟨C', T', N', ty0, hc', hty, hnm, hfin, hpd⟩ := hp
  have hcc : (C, T, N) = (C', T', N') := Option.some.inj (hc.symm.trans hc')
  cases hcc
  intro H locs ls hW hS hL
  have fin : ∀ (H1 : Heap) (locs1 : List Loc), va_P g.2.2.1 fd_cl ((fd_ws g σ.2).set kk0 (g.1 + kk0, .inr (ci, (fd_fs g σ.2 kk0).set j v))) H1 → va_D (fd_A g) ((fd_ws g σ.2).set kk0 (g.1 + kk0, .inr (ci, (fd_fs g σ.2 kk0).set j v))) → va_S (fd_A g) s.heap H1 locs1 → W pr l e R s m args below meth c H1 locs1 cells slots Q (F0 m (p + 3) ls st) := by
    intro H1 locs1 hP1 hD1 hS1
    refine kk H1 locs1 ls ?_ hS1 hL
    have e : (fd_ws g σ.2).set kk0 (g.1 + kk0, .inr (ci, (fd_fs g σ.2 kk0).set j v)) = fd_ws g (fd_uI σ.2 kk0 j x) := fd_ws_set (by rw [fd_ce_obj h2 h3, fd_fs_set h4 hv]) (fun i hi => fd_ce_ne hi)
    show va_P _ _ _ _
    rw [← e]
    exact hP1
  have hlen : j < (fd_fs g σ.2 kk0).length := (List.getElem?_eq_some_iff.mp (fd_fs_at (g := g) (M := σ.2) h4)).1
  rcases hlk2 with hlk2 | ⟨host, hlk2⟩
  · exact va_put hx hb hts hin ty0 hty hnm hown hK.1 hW (fd_D_ok g σ.2) hS kk0 ((fd_ws_at h1).trans (by rw [fd_ce_obj h2 h3])) hc j hj (hts _ hlk2) (fun _ z => z) hfin hpd hn hf hlen hd fin
  · exact va_putN hx hb hts hin ty0 hty hnm hown hK.1 hW (fd_D_ok g σ.2) hS kk0 ((fd_ws_at h1).trans (by rw [fd_ce_obj h2 h3])) hc j hj (va_Nw.use rfl (hK.2.1 _ hlk2)) (fun _ z => z) hfin hpd hn hf hlen hd fin
def fd_gf (ci j : Nat) (o : fd_D Nat) : fd_D Int32 := fun σ => (o σ).bind fun u => if fd_isF u.1 ci j = some 0 then some (u.2.2.1 u.1 j, u.2) else none
def fd_rfc : Option Nat → Option Nat
  | some (c + 2) => some c
  | _ => none
def fd_gr (ci j : Nat) (o : fd_D Nat) : fd_D Nat := fun σ => (o σ).bind fun u => (fd_rfc (fd_isF u.1 ci j)).bind fun c => some (c, u.2)
def fd_gd (ci j : Nat) (o : fd_D Nat) : fd_D (Option Nat) := fun σ => (o σ).bind fun u => if fd_isF u.1 ci j = some 1 then some (if u.2.2.1 u.1 j = 0 then none else some ((u.2.2.1 u.1 j).toNatClampNeg - 1), u.2) else none
def fd_nn (o : fd_D (Option Nat)) : fd_D Nat := fun σ => (o σ).bind fun u => u.1.bind fun c => some (c, u.2)
theorem fd_if_of {α : Type} {c : Prop} {dc : Decidable c} {a : Option α} {b : α} (h : (if c then a else none) = some b) : c ∧ a = some b := by
  by_cases hc : c
  · rw [if_pos hc] at h; exact ⟨hc, h⟩
  · rw [if_neg hc] at h; cases h
theorem fd_getf (F : fd_F X cc own n rt d) {idx ci j : Nat} {o : fd_D Nat} (ho : fd_Ev X n Q (fd_r (fd_b X)) k p q o) (hd : decode cc q = .ok (.getfield idx, 3)) (hl : fd_Fl own idx ci j) : fd_Ev X n Q fd_i k p (q + 3) (fd_gf ci j o) := by
  intro st σ σ' v hct he kk
  obtain ⟨⟨u, σ1⟩, e1, e2⟩ := fd_bind_of he
  obtain ⟨h1, h2⟩ := fd_if_of e2
  cases h2
  exact ho st σ _ u hct e1 (fd_rget F hl hd h1 kk)
theorem fd_getr (F : fd_F X cc own n rt d) {idx ci j : Nat} {o : fd_D Nat} (ho : fd_Ev X n Q (fd_r (fd_b X)) k p q o) (hd : decode cc q = .ok (.getfield idx, 3)) (hl : fd_Fl own idx ci j) : fd_Ev X n Q (fd_r (fd_b X)) k p (q + 3) (fd_gr ci j o) := by
  intro st σ σ' v hct he kk
  obtain ⟨⟨u, σ1⟩, e1, e2⟩ := fd_bind_of he
  obtain ⟨c, h1, h2⟩ := fd_bind_of e2
  cases h2
  have h3 : fd_isF u ci j = some (v + 2) := by
    dsimp only at h1
    unfold fd_rfc at h1
    split at h1
    next q0 hq => rw [hq]; cases h1; rfl
    next => cases h1
  exact ho st σ _ u hct e1 (fd_rget F hl hd h3 kk)
theorem fd_getd (F : fd_F X cc own n rt d) {idx ci j : Nat} {o : fd_D Nat} (ho : fd_Ev X n Q (fd_r (fd_b X)) k p q o) (hd : decode cc q = .ok (.getfield idx, 3)) (hl : fd_Fl own idx ci j) : fd_Ev X n Q (fd_n (fd_b X)) k p (q + 3) (fd_gd ci j o) := by
  intro st σ σ' v hct he kk
  obtain ⟨⟨u, σ1⟩, e1, e2⟩ := fd_bind_of he
  obtain ⟨h1, h2⟩ := fd_if_of e2
  cases h2
  refine ho st σ _ u hct e1 (fd_rget F hl hd h1 ?_)
  by_cases hz : σ1.2.1 u j = 0
  · simp only [if_pos hz] at kk
    simp only [fd_fv, if_pos hz]
    exact kk
  · simp only [if_neg hz] at kk
    simp only [fd_fv, if_neg hz]
    exact kk
theorem fd_enn {o : fd_D (Option Nat)} (ho : fd_Ev X n Q (fd_n (fd_b X)) k p q o) : fd_Ev X n Q (fd_r (fd_b X)) k p q (fd_nn o) := by
  intro st σ σ' v hct he kk
  obtain ⟨⟨u, σ1⟩, e1, e2⟩ := fd_bind_of he
  obtain ⟨c, h1, h2⟩ := fd_bind_of e2
  cases h2
  dsimp only at h1
  subst h1
  exact ho st σ _ _ hct e1 kk
/-! stores to fields -/
def fd_pf (ci j : Nat) (o : fd_D Nat) (a : fd_D Int32) : fd_T := fun σ => (o σ).bind fun u => (a u.2).bind fun v => if fd_isF u.1 ci j = some 0 then some ((0, fd_jk), (v.2.1, fd_uI v.2.2 u.1 j v.1)) else none
def fd_pz (ci j : Nat) (o : fd_D Nat) (a : fd_D Int32) : fd_T := fun σ => (o σ).bind fun u => (a u.2).bind fun v => if fd_isF u.1 ci j = some 0 ∧ (v.1 = 0 ∨ v.1 = 1) then some ((0, fd_jk), (v.2.1, fd_uI v.2.2 u.1 j v.1)) else none
def fd_pd (ci j : Nat) (o : fd_D Nat) (a : fd_D Nat) : fd_T := fun σ => (o σ).bind fun u => (a u.2).bind fun v => if fd_isF u.1 ci j = some 1 ∧ v.1 < 1000 then some ((0, fd_jk), (v.2.1, fd_uI v.2.2 u.1 j (nI (v.1 + 1)))) else none
theorem fd_putf (F : fd_F X cc own n rt d) {idx ci j : Nat} {o : fd_D Nat} {a : fd_D Int32} (ho : fd_Ev X n Q (fd_r (fd_b X)) 0 p q o) (ha : fd_Ev X n Q fd_i 1 q r a) (hd : decode cc r = .ok (.putfield idx, 3)) (hl : fd_Fl own idx ci j) (hp : fd_Fp ci j .int) : fd_St X n Q Rt p (r + 3) qb qc (fd_pf ci j o a) := by
  intro σ σ' z v he kk
  obtain ⟨⟨u, σ1⟩, e1, e2⟩ := fd_bind_of he
  obtain ⟨⟨y, σ2⟩, e3, e4⟩ := fd_bind_of e2
  obtain ⟨h1, h2⟩ := fd_if_of e4
  cases h2
  exact ho [] σ _ u (Nat.le_refl 0) e1 (ha _ _ _ y (Nat.le_refl 1) e3 (fd_rput F hl hp hd h1 rfl rfl rfl (fd_Ex0 kk)))
theorem fd_putz (F : fd_F X cc own n rt d) {idx ci j : Nat} {o : fd_D Nat} {a : fd_D Int32} (ho : fd_Ev X n Q (fd_r (fd_b X)) 0 p q o) (ha : fd_Ev X n Q fd_i 1 q r a) (hd : decode cc r = .ok (.putfield idx, 3)) (hl : fd_Fl own idx ci j) (hp : fd_Fp ci j .boolean) : fd_St X n Q Rt p (r + 3) qb qc (fd_pz ci j o a) := by
  intro σ σ' z v he kk
  obtain ⟨⟨u, σ1⟩, e1, e2⟩ := fd_bind_of he
  obtain ⟨⟨y, σ2⟩, e3, e4⟩ := fd_bind_of e2
  obtain ⟨⟨h1, h3⟩, h2⟩ := fd_if_of e4
  cases h2
  dsimp only at h3
  refine ho [] σ _ u (Nat.le_refl 0) e1 (ha _ _ _ y (Nat.le_refl 1) e3 (fd_rput F hl hp hd h1 ?_ ?_ rfl (fd_Ex0 kk)))
  · rcases h3 with h3 | h3 <;> rw [h3] <;> decide
  · rcases h3 with h3 | h3 <;> rw [h3] <;> decide
theorem fd_putd (F : fd_F X cc own n rt d) {idx ci j : Nat} {o : fd_D Nat} {a : fd_D Nat} (ho : fd_Ev X n Q (fd_r (fd_b X)) 0 p q o) (ha : fd_Ev X n Q (fd_r (fd_b X)) 1 q r a) (hd : decode cc r = .ok (.putfield idx, 3)) (hl : fd_Fl own idx ci j) (hp : fd_Fp ci j (.array .byte)) : fd_St X n Q Rt p (r + 3) qb qc (fd_pd ci j o a) := by
  intro σ σ' z v he kk
  obtain ⟨⟨u, σ1⟩, e1, e2⟩ := fd_bind_of he
  obtain ⟨⟨y, σ2⟩, e3, e4⟩ := fd_bind_of e2
  obtain ⟨⟨h1, h3⟩, h2⟩ := fd_if_of e4
  cases h2
  dsimp only at h3
  refine ho [] σ _ u (Nat.le_refl 0) e1 (ha _ _ _ y (Nat.le_refl 1) e3 (fd_rput F hl hp hd h1 rfl rfl ?_ (fd_Ex0 kk)))
  have hz : ¬ nI (y + 1) = 0 := nI_ne0 (by omega) (by omega)
  simp only [fd_fv, if_neg hz]
  rw [nI_clamp (by omega)]
  rfl
def fd_po (ci j : Nat) (f : Int32 → Int32 → Int32) (o : fd_D Nat) (a : fd_D Int32) : fd_T := fun σ => (o σ).bind fun u => if fd_isF u.1 ci j = some 0 then (a u.2).bind fun v => some ((0, fd_jk), (v.2.1, fd_uI v.2.2 u.1 j (f (u.2.2.1 u.1 j) v.1))) else none
theorem fd_rdup (F : fd_F X cc own n rt d) {st : List Value} {σ : fd_S} {v : Value} (hd : decode cc p = .ok (.dup, 1)) (hv : v.category = 1) (kk : fd_W X n Q (p + 1) (v :: v :: st) σ) : fd_W X n Q p (v :: st) σ := by
  obtain ⟨g, pr, l, e, R, s, m, args, below, meth, c, cells, slots⟩ := X
  obtain ⟨hx, hb, hml, hown, hts, hK, hbs, hcl, hsl, hr, hlk, hfr, hlo⟩ := F
  intro H locs ls hW hS hL
  exact lv_dup hx hb hd hv (kk H locs ls hW hS hL)
theorem fd_rdup2 (F : fd_F X cc own n rt d) {st : List Value} {σ : fd_S} {v u : Value} (hd : decode cc p = .ok (.dup2, 1)) (hv : v.category = 1) (hu : u.category = 1) (kk : fd_W X n Q (p + 1) (v :: u :: v :: u :: st) σ) : fd_W X n Q p (v :: u :: st) σ := by
  obtain ⟨g, pr, l, e, R, s, m, args, below, meth, c, cells, slots⟩ := X
  obtain ⟨hx, hb, hml, hown, hts, hK, hbs, hcl, hsl, hr, hlk, hfr, hlo⟩ := F
  intro H locs ls hW hS hL
  exact lv_dup2_11 hx hb hd hv hu (kk H locs ls hW hS hL)
theorem fd_rdupx1 (F : fd_F X cc own n rt d) {st : List Value} {σ : fd_S} {v u : Value} (hd : decode cc p = .ok (.dup_x1, 1)) (hv : v.category = 1) (hu : u.category = 1) (kk : fd_W X n Q (p + 1) (v :: u :: v :: st) σ) : fd_W X n Q p (v :: u :: st) σ := by
  obtain ⟨g, pr, l, e, R, s, m, args, below, meth, c, cells, slots⟩ := X
  obtain ⟨hx, hb, hml, hown, hts, hK, hbs, hcl, hsl, hr, hlk, hfr, hlo⟩ := F
  intro H locs ls hW hS hL
  exact lv_dup_x1 hx hb hd hv hu (kk H locs ls hW hS hL)
theorem fd_rpop (F : fd_F X cc own n rt d) {st : List Value} {σ : fd_S} {v : Value} (hd : decode cc p = .ok (.pop, 1)) (hv : v.category = 1) (kk : fd_W X n Q (p + 1) st σ) : fd_W X n Q p (v :: st) σ := by
  obtain ⟨g, pr, l, e, R, s, m, args, below, meth, c, cells, slots⟩ := X
  obtain ⟨hx, hb, hml, hown, hts, hK, hbs, hcl, hsl, hr, hlk, hfr, hlo⟩ := F
  intro H locs ls hW hS hL
  exact lv_pop hx hb hd hv (kk H locs ls hW hS hL)
theorem fd_putfo (F : fd_F X cc own n rt d) {idx ci j t : Nat} {f : Int32 → Int32 → Int32} {o : fd_D Nat} {a : fd_D Int32} (ho : fd_Ev X n Q (fd_r (fd_b X)) 0 p q o) (h1 : decode cc q = .ok (.dup, 1)) (h2 : decode cc (q + 1) = .ok (.getfield idx, 3)) (ha : fd_Ev X n Q fd_i 2 (q + 4) r a) (hop : fd_O2 X n Q fd_i fd_i fd_i r t f) (hd : decode cc t = .ok (.putfield idx, 3)) (hl : fd_Fl own idx ci j) (hp : fd_Fp ci j .int) : fd_St X n Q Rt p (t + 3) qb qc (fd_po ci j f o a) := by
  intro σ σ' z v he kk
  obtain ⟨⟨u, σ1⟩, e1, e2⟩ := fd_bind_of he
  obtain ⟨h3, e3⟩ := fd_if_of e2
  obtain ⟨⟨y, σ2⟩, e4, e5⟩ := fd_bind_of e3
  cases e5
  exact ho [] σ _ u (Nat.le_refl 0) e1 (fd_rdup F h1 rfl (fd_rget F hl h2 h3 (ha _ _ _ y (Nat.le_refl 2) e4 (hop _ _ _ _ (fd_rput F hl hp hd h3 rfl rfl rfl (fd_Ex0 kk))))))
/-! arrays -/
def fd_isA (k t : Nat) (i : Int32) : Bool := Nat.blt k fd_N && ((fd_sh k).1 == 1 && ((fd_sh k).2.1 == t && (decide (¬ i < 0) && Nat.blt i.toNatClampNeg (fd_sh k).2.2.1)))
theorem fd_isA_of {k t : Nat} {i : Int32} (h : fd_isA k t i = true) : k < fd_N ∧ (fd_sh k).1 = 1 ∧ (fd_sh k).2.1 = t ∧ vp_in i (fd_sh k).2.2.1 := by
  simp only [fd_isA, Bool.and_eq_true, beq_iff_eq, decide_eq_true_eq] at h
  exact ⟨Nat.le_of_ble_eq_true h.1, h.2.1, h.2.2.1, fun z => z.elim h.2.2.2.1 (fun z => absurd (Nat.le_of_ble_eq_true h.2.2.2.2) (Nat.not_le.mpr (Nat.lt_succ_of_le z)))⟩
theorem fd_ce_arr {g : fd_G} {M : fd_M} {k t : Nat} (h : (fd_sh k).1 = 1) (h2 : (fd_sh k).2.1 = t) : fd_ce g M k = .inl (g.2.1 t, (fd_sh k).2.2.1, .inl (M.1 k)) := by
  unfold fd_ce
  rw [if_neg (by omega), if_pos h, h2]
def fd_isL (k : Nat) (i : Int32) : Bool := Nat.blt k fd_N && ((fd_sh k).1 == 2 && ((fd_sh k).2.1 == 4 && (decide (¬ i < 0) && Nat.blt i.toNatClampNeg (fd_sh k).2.2.1)))
theorem fd_isL_of {k : Nat} {i : Int32} (h : fd_isL k i = true) : k < fd_N ∧ (fd_sh k).1 = 2 ∧ (fd_sh k).2.1 = 4 ∧ vp_in i (fd_sh k).2.2.1 := by
  simp only [fd_isL, Bool.and_eq_true, beq_iff_eq, decide_eq_true_eq] at h
  exact ⟨Nat.le_of_ble_eq_true h.1, h.2.1, h.2.2.1, fun z => z.elim h.2.2.2.1 (fun z => absurd (Nat.le_of_ble_eq_true h.2.2.2.2) (Nat.not_le.mpr (Nat.lt_succ_of_le z)))⟩
theorem fd_ce_arl {g : fd_G} {M : fd_M} {k t : Nat} (h : (fd_sh k).1 = 2) (h2 : (fd_sh k).2.1 = t) : fd_ce g M k = .inl (g.2.1 t, (fd_sh k).2.2.1, .inr (.inl (M.2 k))) := by
  unfold fd_ce
  rw [if_neg (by omega), if_neg (by omega), if_pos h, h2]
def fd_isR (k t : Nat) (i : Int32) : Option Nat := if (Nat.blt k fd_N && ((fd_sh k).1 == 3 && ((fd_sh k).2.1 == t && (decide (¬ i < 0) && Nat.blt i.toNatClampNeg (fd_sh k).2.2.1)))) = true then (fd_sh k).2.2.2[i.toNatClampNeg]? else none
theorem fd_isR_of {k t c : Nat} {i : Int32} (h : fd_isR k t i = some c) : k < fd_N ∧ (fd_sh k).1 = 3 ∧ (fd_sh k).2.1 = t ∧ vp_in i (fd_sh k).2.2.1 ∧ (fd_sh k).2.2.2[i.toNatClampNeg]? = some c := by
  unfold fd_isR at h
  obtain ⟨h, h0⟩ := fd_if_of h
  simp only [Bool.and_eq_true, beq_iff_eq, decide_eq_true_eq] at h
  exact ⟨Nat.le_of_ble_eq_true h.1, h.2.1, h.2.2.1, fun z => z.elim h.2.2.2.1 (fun z => absurd (Nat.le_of_ble_eq_true h.2.2.2.2) (Nat.not_le.mpr (Nat.lt_succ_of_le z))), h0⟩
theorem fd_ce_arq {g : fd_G} {M : fd_M} {k t : Nat} (h : (fd_sh k).1 = 3) (h2 : (fd_sh k).2.1 = t) : fd_ce g M k = .inl (g.2.1 t, (fd_sh k).2.2.1, .inr (.inr (.inr (.inr fun j => ((fd_sh k).2.2.2[j]?).map (g.1 + ·))))) := by
  unfold fd_ce
  rw [if_neg (by omega), if_neg (by omega), if_neg (by omega), h2]
def fd_ga (t : Nat) (a : fd_D Nat) (i : fd_D Int32) : fd_D Int32 := fun σ => (a σ).bind fun u => (i u.2).bind fun v => if fd_isA u.1 t v.1 = true then some (v.2.2.1 u.1 v.1.toNatClampNeg, v.2) else none
def fd_gl (a : fd_D Nat) (i : fd_D Int32) : fd_D Int64 := fun σ => (a σ).bind fun u => (i u.2).bind fun v => if fd_isL u.1 v.1 = true then some (v.2.2.2 u.1 v.1.toNatClampNeg, v.2) else none
def fd_gq (t : Nat) (a : fd_D Nat) (i : fd_D Int32) : fd_D Nat := fun σ => (a σ).bind fun u => (i u.2).bind fun v => (fd_isR u.1 t v.1).bind fun c => some (c, v.2)
def fd_pa (t : Nat) (sv : Int32 → Option Int32) (a : fd_D Nat) (i b : fd_D Int32) : fd_T := fun σ => (a σ).bind fun u => (i u.2).bind fun v => (b v.2).bind fun y => if fd_isA u.1 t v.1 = true then (sv y.1).bind fun x => some ((0, fd_jk), (y.2.1, fd_uI y.2.2 u.1 v.1.toNatClampNeg x)) else none
def fd_pl (a : fd_D Nat) (i : fd_D Int32) (b : fd_D Int64) : fd_T := fun σ => (a σ).bind fun u => (i u.2).bind fun v => (b v.2).bind fun y => if fd_isL u.1 v.1 = true then some ((0, fd_jk), (y.2.1, fd_uL y.2.2 u.1 v.1.toNatClampNeg y.1)) else none
def fd_pao (f : Int32 → Int32 → Int32) (a : fd_D Nat) (i b : fd_D Int32) : fd_T := fun σ => (a σ).bind fun u => (i u.2).bind fun v => if fd_isA u.1 0 v.1 = true then (b v.2).bind fun y => some ((0, fd_jk), (y.2.1, fd_uI y.2.2 u.1 v.1.toNatClampNeg (f (v.2.2.1 u.1 v.1.toNatClampNeg) y.1))) else none
def fd_v_int (x : Int32) : Option Int32 := some x
def fd_v_byte (x : Int32) : Option Int32 := some x.toInt8.toInt32
def fd_v_bool (x : Int32) : Option Int32 := if x = 0 ∨ x = 1 then some x else none
def fd_v_char (x : Int32) : Option Int32 := some x.toUInt32.toUInt16.toUInt32.toInt32
theorem fd_v_bool_of {x y : Int32} (h : fd_v_bool x = some y) : y = vp_nar .boolean x := by
  obtain ⟨h1, h2⟩ := fd_if_of h
  cases h2
  rcases h1 with h1 | h1 <;> subst h1 <;> rfl
theorem fd_v_int_of {x y : Int32} (h : fd_v_int x = some y) : y = x := by cases h; rfl
theorem fd_v_byte_of {x y : Int32} (h : fd_v_byte x = some y) : y = vp_nar .byte x := by cases h; rfl
theorem fd_v_char_of {x y : Int32} (h : fd_v_char x = some y) : y = vp_nar .char x := by cases h; rfl
theorem fd_riald (F : fd_F X cc own n rt d) {a : Nat} {i : Int32} {st : List Value} {σ : fd_S} (hd : decode cc p = .ok (.iaload, 1)) (h : fd_isA a 0 i = true) (kk : fd_W X n Q (p + 1) (.int (σ.2.1 a i.toNatClampNeg) :: st) σ) : fd_W X n Q p (.int i :: .ref (fd_b X + a) :: st) σ := by
  obtain ⟨g, pr, l, e, R, s, m, args, below, meth, c, cells, slots⟩ := X
  obtain ⟨hx, hb, hml, hown, hts, hK, hbs, hcl, hsl, hr, hlk, hfr, hlo⟩ := F
  obtain ⟨h1, h2, h3, h4⟩ := fd_isA_of h
  intro H locs ls hW hS hL
  exact va_iald hx hb hK.1 hW a 0 ((fd_ws_at h1).trans (by rw [fd_ce_arr h2 h3])) rfl h4 hd (kk H locs ls hW hS hL)
theorem fd_iald (F : fd_F X cc own n rt d) {a : fd_D Nat} {i : fd_D Int32} (h1 : fd_Ev X n Q (fd_r (fd_b X)) k p q a) (h2 : fd_Ev X n Q fd_i (k + 1) q r i) (hd : decode cc r = .ok (.iaload, 1)) : fd_Ev X n Q fd_i k p (r + 1) (fd_ga 0 a i) := by
  intro st σ σ' v hct he kk
  obtain ⟨⟨u, σ1⟩, e1, e2⟩ := fd_bind_of he
  obtain ⟨⟨y, σ2⟩, e3, e4⟩ := fd_bind_of e2
  obtain ⟨h3, e5⟩ := fd_if_of e4
  cases e5
  exact h1 st σ σ1 u hct e1 (h2 _ _ _ y (by rw [fd_ct_cons]; show 1 + _ ≤ _; omega) e3 (fd_riald F hd h3 kk))
theorem fd_rbald (F : fd_F X cc own n rt d) {a : Nat} {i : Int32} {st : List Value} {σ : fd_S} (hd : decode cc p = .ok (.baload, 1)) (h : fd_isA a 1 i = true) (kk : fd_W X n Q (p + 1) (.int (σ.2.1 a i.toNatClampNeg) :: st) σ) : fd_W X n Q p (.int i :: .ref (fd_b X + a) :: st) σ := by
  obtain ⟨g, pr, l, e, R, s, m, args, below, meth, c, cells, slots⟩ := X
  obtain ⟨hx, hb, hml, hown, hts, hK, hbs, hcl, hsl, hr, hlk, hfr, hlo⟩ := F
  obtain ⟨h1, h2, h3, h4⟩ := fd_isA_of h
  intro H locs ls hW hS hL
  exact va_bald hx hb hK.1 hW a 1 ((fd_ws_at h1).trans (by rw [fd_ce_arr h2 h3])) rfl h4 hd (kk H locs ls hW hS hL)
theorem fd_bald (F : fd_F X cc own n rt d) {a : fd_D Nat} {i : fd_D Int32} (h1 : fd_Ev X n Q (fd_r (fd_b X)) k p q a) (h2 : fd_Ev X n Q fd_i (k + 1) q r i) (hd : decode cc r = .ok (.baload, 1)) : fd_Ev X n Q fd_i k p (r + 1) (fd_ga 1 a i) := by
  intro st σ σ' v hct he kk
  obtain ⟨⟨u, σ1⟩, e1, e2⟩ := fd_bind_of he
  obtain ⟨⟨y, σ2⟩, e3, e4⟩ := fd_bind_of e2
  obtain ⟨h3, e5⟩ := fd_if_of e4
  cases e5
  exact h1 st σ σ1 u hct e1 (h2 _ _ _ y (by rw [fd_ct_cons]; show 1 + _ ≤ _; omega) e3 (fd_rbald F hd h3 kk))
theorem fd_rzald (F : fd_F X cc own n rt d) {a : Nat} {i : Int32} {st : List Value} {σ : fd_S} (hd : decode cc p = .ok (.baload, 1)) (h : fd_isA a 2 i = true) (kk : fd_W X n Q (p + 1) (.int (σ.2.1 a i.toNatClampNeg) :: st) σ) : fd_W X n Q p (.int i :: .ref (fd_b X + a) :: st) σ := by
  obtain ⟨g, pr, l, e, R, s, m, args, below, meth, c, cells, slots⟩ := X
  obtain ⟨hx, hb, hml, hown, hts, hK, hbs, hcl, hsl, hr, hlk, hfr, hlo⟩ := F
  obtain ⟨h1, h2, h3, h4⟩ := fd_isA_of h
  intro H locs ls hW hS hL
  exact va_zald hx hb hK.1 hW a 2 ((fd_ws_at h1).trans (by rw [fd_ce_arr h2 h3])) rfl h4 hd (kk H locs ls hW hS hL)
theorem fd_zald (F : fd_F X cc own n rt d) {a : fd_D Nat} {i : fd_D Int32} (h1 : fd_Ev X n Q (fd_r (fd_b X)) k p q a) (h2 : fd_Ev X n Q fd_i (k + 1) q r i) (hd : decode cc r = .ok (.baload, 1)) : fd_Ev X n Q fd_i k p (r + 1) (fd_ga 2 a i) := by
  intro st σ σ' v hct he kk
  obtain ⟨⟨u, σ1⟩, e1, e2⟩ := fd_bind_of he
  obtain ⟨⟨y, σ2⟩, e3, e4⟩ := fd_bind_of e2
  obtain ⟨h3, e5⟩ := fd_if_of e4
  cases e5
  exact h1 st σ σ1 u hct e1 (h2 _ _ _ y (by rw [fd_ct_cons]; show 1 + _ ≤ _; omega) e3 (fd_rzald F hd h3 kk))
theorem fd_rcald (F : fd_F X cc own n rt d) {a : Nat} {i : Int32} {st : List Value} {σ : fd_S} (hd : decode cc p = .ok (.caload, 1)) (h : fd_isA a 3 i = true) (kk : fd_W X n Q (p + 1) (.int (σ.2.1 a i.toNatClampNeg) :: st) σ) : fd_W X n Q p (.int i :: .ref (fd_b X + a) :: st) σ := by
  obtain ⟨g, pr, l, e, R, s, m, args, below, meth, c, cells, slots⟩ := X
  obtain ⟨hx, hb, hml, hown, hts, hK, hbs, hcl, hsl, hr, hlk, hfr, hlo⟩ := F
  obtain ⟨h1, h2, h3, h4⟩ := fd_isA_of h
  intro H locs ls hW hS hL
  exact va_cald hx hb hK.1 hW a 3 ((fd_ws_at h1).trans (by rw [fd_ce_arr h2 h3])) rfl h4 hd (kk H locs ls hW hS hL)
theorem fd_cald (F : fd_F X cc own n rt d) {a : fd_D Nat} {i : fd_D Int32} (h1 : fd_Ev X n Q (fd_r (fd_b X)) k p q a) (h2 : fd_Ev X n Q fd_i (k + 1) q r i) (hd : decode cc r = .ok (.caload, 1)) : fd_Ev X n Q fd_i k p (r + 1) (fd_ga 3 a i) := by
  intro st σ σ' v hct he kk
  obtain ⟨⟨u, σ1⟩, e1, e2⟩ := fd_bind_of he
  obtain ⟨⟨y, σ2⟩, e3, e4⟩ := fd_bind_of e2
  obtain ⟨h3, e5⟩ := fd_if_of e4
  cases e5
  exact h1 st σ σ1 u hct e1 (h2 _ _ _ y (by rw [fd_ct_cons]; show 1 + _ ≤ _; omega) e3 (fd_rcald F hd h3 kk))
theorem fd_lald (F : fd_F X cc own n rt d) {a : fd_D Nat} {i : fd_D Int32} (h1 : fd_Ev X n Q (fd_r (fd_b X)) k p q a) (h2 : fd_Ev X n Q fd_i (k + 1) q r i) (hd : decode cc r = .ok (.laload, 1)) : fd_Ev X n Q fd_l k p (r + 1) (fd_gl a i) := by
  intro st σ σ' v hct he kk
  obtain ⟨⟨u, σ1⟩, e1, e2⟩ := fd_bind_of he
  obtain ⟨⟨y, σ2⟩, e3, e4⟩ := fd_bind_of e2
  obtain ⟨h3, e5⟩ := fd_if_of e4
  cases e5
  refine h1 st σ σ1 u hct e1 (h2 _ _ _ y (by rw [fd_ct_cons]; show 1 + _ ≤ _; omega) e3 ?_)
  obtain ⟨h4, h5, h6, h7⟩ := fd_isL_of h3
  obtain ⟨g, pr, l, e, R, s, m, args, below, meth, c, cells, slots⟩ := X
  obtain ⟨hx, hb, hml, hown, hts, hK, hbs, hcl, hsl, hr, hlk, hfr, hlo⟩ := F
  intro H locs ls hW hS hL
  exact va_lald hx hb hK.1 hW u 4 ((fd_ws_at h4).trans (by rw [fd_ce_arl h5 h6])) rfl h7 hd (kk H locs ls hW hS hL)
theorem fd_aald5 (F : fd_F X cc own n rt d) {a : fd_D Nat} {i : fd_D Int32} (h1 : fd_Ev X n Q (fd_r (fd_b X)) k p q a) (h2 : fd_Ev X n Q fd_i (k + 1) q r i) (hd : decode cc r = .ok (.aaload, 1)) : fd_Ev X n Q (fd_r (fd_b X)) k p (r + 1) (fd_gq 5 a i) := by
  intro st σ σ' v hct he kk
  obtain ⟨⟨u, σ1⟩, e1, e2⟩ := fd_bind_of he
  obtain ⟨⟨y, σ2⟩, e3, e4⟩ := fd_bind_of e2
  obtain ⟨c0, h3, e5⟩ := fd_bind_of e4
  cases e5
  refine h1 st σ σ1 u hct e1 (h2 _ _ _ y (by rw [fd_ct_cons]; show 1 + _ ≤ _; omega) e3 ?_)
  obtain ⟨h4, h5, h6, h7, h8⟩ := fd_isR_of h3
  obtain ⟨g, pr, l, e, R, s, m, args, below, meth, c, cells, slots⟩ := X
  obtain ⟨hx, hb, hml, hown, hts, hK, hbs, hcl, hsl, hr, hlk, hfr, hlo⟩ := F
  intro H locs ls hW hS hL
  have hlt : y.toNatClampNeg < (fd_sh u).2.2.1 := Nat.not_le.mp fun z => h7 (Or.inr z)
  have ha : (fd_ws g σ2.2)[u]? = some (g.1 + u, .inl (g.2.1 5, (fd_sh u).2.2.1, .inr (.inr (.inr (.inr fun j => ((fd_sh u).2.2.2[j]?).map (g.1 + ·)))))) := (fd_ws_at h4).trans (by rw [fd_ce_arq h5 h6])
  have ht : (fd_tys g)[5]? = some (g.2.1 5, .array .int) := rfl
  have e9 : va_rf (((fd_sh u).2.2.2[y.toNatClampNeg]?).map (g.1 + ·)) = .ref (g.1 + v) := by rw [h8]; rfl
  refine W.aald (v := .ref (g.1 + v)) (ty := .array .int) hx hb (hW u _ ha) ((hK.1.2 5 _ ht).1 _ (fun j => va_rf (((fd_sh u).2.2.2[j]?).map (g.1 + ·)))) rfl (fun z => by cases z) (by show ¬ (_ ∨ (arrV _ _ _).slots.size ≤ _); rw [arrV_size]; exact h7) (by show (arrV _ _ _).slots[_]? = _; rw [arrV_read _ _ hlt, e9]) rfl rfl hd (kk H locs ls hW hS hL)
theorem fd_aald6 (F : fd_F X cc own n rt d) {a : fd_D Nat} {i : fd_D Int32} (h1 : fd_Ev X n Q (fd_r (fd_b X)) k p q a) (h2 : fd_Ev X n Q fd_i (k + 1) q r i) (hd : decode cc r = .ok (.aaload, 1)) : fd_Ev X n Q (fd_r (fd_b X)) k p (r + 1) (fd_gq 6 a i) := by
  intro st σ σ' v hct he kk
  obtain ⟨⟨u, σ1⟩, e1, e2⟩ := fd_bind_of he
  obtain ⟨⟨y, σ2⟩, e3, e4⟩ := fd_bind_of e2
  obtain ⟨c0, h3, e5⟩ := fd_bind_of e4
  cases e5
  refine h1 st σ σ1 u hct e1 (h2 _ _ _ y (by rw [fd_ct_cons]; show 1 + _ ≤ _; omega) e3 ?_)
  obtain ⟨h4, h5, h6, h7, h8⟩ := fd_isR_of h3
  obtain ⟨g, pr, l, e, R, s, m, args, below, meth, c, cells, slots⟩ := X
  obtain ⟨hx, hb, hml, hown, hts, hK, hbs, hcl, hsl, hr, hlk, hfr, hlo⟩ := F
  intro H locs ls hW hS hL
  have hlt : y.toNatClampNeg < (fd_sh u).2.2.1 := Nat.not_le.mp fun z => h7 (Or.inr z)
  have ha : (fd_ws g σ2.2)[u]? = some (g.1 + u, .inl (g.2.1 6, (fd_sh u).2.2.1, .inr (.inr (.inr (.inr fun j => ((fd_sh u).2.2.2[j]?).map (g.1 + ·)))))) := (fd_ws_at h4).trans (by rw [fd_ce_arq h5 h6])
  have ht : (fd_tys g)[6]? = some (g.2.1 6, .object RX10) := rfl
  have e9 : va_rf (((fd_sh u).2.2.2[y.toNatClampNeg]?).map (g.1 + ·)) = .ref (g.1 + v) := by rw [h8]; rfl
  refine W.aald (v := .ref (g.1 + v)) (ty := .object RX10) hx hb (hW u _ ha) ((hK.1.2 6 _ ht).1 _ (fun j => va_rf (((fd_sh u).2.2.2[j]?).map (g.1 + ·)))) rfl (fun z => by cases z) (by show ¬ (_ ∨ (arrV _ _ _).slots.size ≤ _); rw [arrV_size]; exact h7) (by show (arrV _ _ _).slots[_]? = _; rw [arrV_read _ _ hlt, e9]) rfl rfl hd (kk H locs ls hW hS hL)
theorem fd_riast (F : fd_F X cc own n rt d) {a : Nat} {i x y : Int32} {st : List Value} {σ : fd_S} (hd : decode cc p = .ok (.iastore, 1)) (h : fd_isA a 0 i = true) (hy : fd_v_int x = some y) (kk : fd_W X n Q (p + 1) st (σ.1, fd_uI σ.2 a i.toNatClampNeg y)) : fd_W X n Q p (.int x :: .int i :: .ref (fd_b X + a) :: st) σ := by
  obtain ⟨g, pr, l, e, R, s, m, args, below, meth, c, cells, slots⟩ := X
  obtain ⟨hx, hb, hml, hown, hts, hK, hbs, hcl, hsl, hr, hlk, hfr, hlo⟩ := F
  obtain ⟨h1, h2, h3, h4⟩ := fd_isA_of h
  have hy := fd_v_int_of hy
  subst hy
  intro H locs ls hW hS hL
  refine va_iast hx hb hK.1 hW (fd_D_ok g σ.2) hS a 0 ((fd_ws_at h1).trans (by rw [fd_ce_arr h2 h3])) rfl h4 hd ?_
  intro H1 locs1 hP1 hD1 hS1
  refine kk H1 locs1 ls ?_ hS1 hL
  show va_P _ _ _ _
  rw [← fd_ws_set (k := a) (M := σ.2) (e := fd_ce g (fd_uI σ.2 a i.toNatClampNeg _) a) rfl (fun j hj => fd_ce_ne hj), fd_ce_arr h2 h3, fd_uI_row]
  exact hP1
theorem fd_iast (F : fd_F X cc own n rt d) {a : fd_D Nat} {i b : fd_D Int32} {t : Nat} (h1 : fd_Ev X n Q (fd_r (fd_b X)) 0 p q a) (h2 : fd_Ev X n Q fd_i 1 q r i) (h3 : fd_Ev X n Q fd_i 2 r t b) (hd : decode cc t = .ok (.iastore, 1)) : fd_St X n Q Rt p (t + 1) qb qc (fd_pa 0 fd_v_int a i b) := by
  intro σ σ' z v he kk
  obtain ⟨⟨u, σ1⟩, e1, e2⟩ := fd_bind_of he
  obtain ⟨⟨y, σ2⟩, e3, e4⟩ := fd_bind_of e2
  obtain ⟨⟨x, σ3⟩, e5, e6⟩ := fd_bind_of e4
  obtain ⟨h4, e7⟩ := fd_if_of e6
  obtain ⟨x2, e8, e9⟩ := fd_bind_of e7
  cases e9
  exact h1 [] σ σ1 u (Nat.le_refl 0) e1 (h2 _ _ _ y (Nat.le_refl 1) e3 (h3 _ _ _ x (Nat.le_refl 2) e5 (fd_riast F hd h4 e8 (fd_Ex0 kk))))
theorem fd_rbast (F : fd_F X cc own n rt d) {a : Nat} {i x y : Int32} {st : List Value} {σ : fd_S} (hd : decode cc p = .ok (.bastore, 1)) (h : fd_isA a 1 i = true) (hy : fd_v_byte x = some y) (kk : fd_W X n Q (p + 1) st (σ.1, fd_uI σ.2 a i.toNatClampNeg y)) : fd_W X n Q p (.int x :: .int i :: .ref (fd_b X + a) :: st) σ := by
  obtain ⟨g, pr, l, e, R, s, m, args, below, meth, c, cells, slots⟩ := X
  obtain ⟨hx, hb, hml, hown, hts, hK, hbs, hcl, hsl, hr, hlk, hfr, hlo⟩ := F
  obtain ⟨h1, h2, h3, h4⟩ := fd_isA_of h
  have hy := fd_v_byte_of hy
  subst hy
  intro H locs ls hW hS hL
  refine va_bast hx hb hK.1 hW (fd_D_ok g σ.2) hS a 1 ((fd_ws_at h1).trans (by rw [fd_ce_arr h2 h3])) rfl h4 hd ?_
  intro H1 locs1 hP1 hD1 hS1
  refine kk H1 locs1 ls ?_ hS1 hL
  show va_P _ _ _ _
  rw [← fd_ws_set (k := a) (M := σ.2) (e := fd_ce g (fd_uI σ.2 a i.toNatClampNeg _) a) rfl (fun j hj => fd_ce_ne hj), fd_ce_arr h2 h3, fd_uI_row]
  exact hP1
theorem fd_bast (F : fd_F X cc own n rt d) {a : fd_D Nat} {i b : fd_D Int32} {t : Nat} (h1 : fd_Ev X n Q (fd_r (fd_b X)) 0 p q a) (h2 : fd_Ev X n Q fd_i 1 q r i) (h3 : fd_Ev X n Q fd_i 2 r t b) (hd : decode cc t = .ok (.bastore, 1)) : fd_St X n Q Rt p (t + 1) qb qc (fd_pa 1 fd_v_byte a i b) := by
  intro σ σ' z v he kk
  obtain ⟨⟨u, σ1⟩, e1, e2⟩ := fd_bind_of he
  obtain ⟨⟨y, σ2⟩, e3, e4⟩ := fd_bind_of e2
  obtain ⟨⟨x, σ3⟩, e5, e6⟩ := fd_bind_of e4
  obtain ⟨h4, e7⟩ := fd_if_of e6
  obtain ⟨x2, e8, e9⟩ := fd_bind_of e7
  cases e9
  exact h1 [] σ σ1 u (Nat.le_refl 0) e1 (h2 _ _ _ y (Nat.le_refl 1) e3 (h3 _ _ _ x (Nat.le_refl 2) e5 (fd_rbast F hd h4 e8 (fd_Ex0 kk))))
theorem fd_rzast (F : fd_F X cc own n rt d) {a : Nat} {i x y : Int32} {st : List Value} {σ : fd_S} (hd : decode cc p = .ok (.bastore, 1)) (h : fd_isA a 2 i = true) (hy : fd_v_bool x = some y) (kk : fd_W X n Q (p + 1) st (σ.1, fd_uI σ.2 a i.toNatClampNeg y)) : fd_W X n Q p (.int x :: .int i :: .ref (fd_b X + a) :: st) σ := by
  obtain ⟨g, pr, l, e, R, s, m, args, below, meth, c, cells, slots⟩ := X
  obtain ⟨hx, hb, hml, hown, hts, hK, hbs, hcl, hsl, hr, hlk, hfr, hlo⟩ := F
  obtain ⟨h1, h2, h3, h4⟩ := fd_isA_of h
  have hy := fd_v_bool_of hy
  subst hy
  intro H locs ls hW hS hL
  refine va_zast hx hb hK.1 hW (fd_D_ok g σ.2) hS a 2 ((fd_ws_at h1).trans (by rw [fd_ce_arr h2 h3])) rfl h4 hd ?_
  intro H1 locs1 hP1 hD1 hS1
  refine kk H1 locs1 ls ?_ hS1 hL
  show va_P _ _ _ _
  rw [← fd_ws_set (k := a) (M := σ.2) (e := fd_ce g (fd_uI σ.2 a i.toNatClampNeg _) a) rfl (fun j hj => fd_ce_ne hj), fd_ce_arr h2 h3, fd_uI_row]
  exact hP1
theorem fd_zast (F : fd_F X cc own n rt d) {a : fd_D Nat} {i b : fd_D Int32} {t : Nat} (h1 : fd_Ev X n Q (fd_r (fd_b X)) 0 p q a) (h2 : fd_Ev X n Q fd_i 1 q r i) (h3 : fd_Ev X n Q fd_i 2 r t b) (hd : decode cc t = .ok (.bastore, 1)) : fd_St X n Q Rt p (t + 1) qb qc (fd_pa 2 fd_v_bool a i b) := by
  intro σ σ' z v he kk
  obtain ⟨⟨u, σ1⟩, e1, e2⟩ := fd_bind_of he
  obtain ⟨⟨y, σ2⟩, e3, e4⟩ := fd_bind_of e2
  obtain ⟨⟨x, σ3⟩, e5, e6⟩ := fd_bind_of e4
  obtain ⟨h4, e7⟩ := fd_if_of e6
  obtain ⟨x2, e8, e9⟩ := fd_bind_of e7
  cases e9
  exact h1 [] σ σ1 u (Nat.le_refl 0) e1 (h2 _ _ _ y (Nat.le_refl 1) e3 (h3 _ _ _ x (Nat.le_refl 2) e5 (fd_rzast F hd h4 e8 (fd_Ex0 kk))))
theorem fd_rcast (F : fd_F X cc own n rt d) {a : Nat} {i x y : Int32} {st : List Value} {σ : fd_S} (hd : decode cc p = .ok (.castore, 1)) (h : fd_isA a 3 i = true) (hy : fd_v_char x = some y) (kk : fd_W X n Q (p + 1) st (σ.1, fd_uI σ.2 a i.toNatClampNeg y)) : fd_W X n Q p (.int x :: .int i :: .ref (fd_b X + a) :: st) σ := by
  obtain ⟨g, pr, l, e, R, s, m, args, below, meth, c, cells, slots⟩ := X
  obtain ⟨hx, hb, hml, hown, hts, hK, hbs, hcl, hsl, hr, hlk, hfr, hlo⟩ := F
  obtain ⟨h1, h2, h3, h4⟩ := fd_isA_of h
  have hy := fd_v_char_of hy
  subst hy
  intro H locs ls hW hS hL
  refine va_cast hx hb hK.1 hW (fd_D_ok g σ.2) hS a 3 ((fd_ws_at h1).trans (by rw [fd_ce_arr h2 h3])) rfl h4 hd ?_
  intro H1 locs1 hP1 hD1 hS1
  refine kk H1 locs1 ls ?_ hS1 hL
  show va_P _ _ _ _
  rw [← fd_ws_set (k := a) (M := σ.2) (e := fd_ce g (fd_uI σ.2 a i.toNatClampNeg _) a) rfl (fun j hj => fd_ce_ne hj), fd_ce_arr h2 h3, fd_uI_row]
  exact hP1
theorem fd_cast (F : fd_F X cc own n rt d) {a : fd_D Nat} {i b : fd_D Int32} {t : Nat} (h1 : fd_Ev X n Q (fd_r (fd_b X)) 0 p q a) (h2 : fd_Ev X n Q fd_i 1 q r i) (h3 : fd_Ev X n Q fd_i 2 r t b) (hd : decode cc t = .ok (.castore, 1)) : fd_St X n Q Rt p (t + 1) qb qc (fd_pa 3 fd_v_char a i b) := by
  intro σ σ' z v he kk
  obtain ⟨⟨u, σ1⟩, e1, e2⟩ := fd_bind_of he
  obtain ⟨⟨y, σ2⟩, e3, e4⟩ := fd_bind_of e2
  obtain ⟨⟨x, σ3⟩, e5, e6⟩ := fd_bind_of e4
  obtain ⟨h4, e7⟩ := fd_if_of e6
  obtain ⟨x2, e8, e9⟩ := fd_bind_of e7
  cases e9
  exact h1 [] σ σ1 u (Nat.le_refl 0) e1 (h2 _ _ _ y (Nat.le_refl 1) e3 (h3 _ _ _ x (Nat.le_refl 2) e5 (fd_rcast F hd h4 e8 (fd_Ex0 kk))))
theorem fd_iasto (F : fd_F X cc own n rt d) {a : fd_D Nat} {i b : fd_D Int32} {f : Int32 → Int32 → Int32} {t t2 : Nat} (h1 : fd_Ev X n Q (fd_r (fd_b X)) 0 p q a) (h2 : fd_Ev X n Q fd_i 1 q r i) (hd2 : decode cc r = .ok (.dup2, 1)) (hd3 : decode cc (r + 1) = .ok (.iaload, 1)) (h3 : fd_Ev X n Q fd_i 3 (r + 2) t b) (ho : fd_O2 X n Q fd_i fd_i fd_i t t2 f) (hd : decode cc t2 = .ok (.iastore, 1)) : fd_St X n Q Rt p (t2 + 1) qb qc (fd_pao f a i b) := by
  intro σ σ' z v he kk
  obtain ⟨⟨u, σ1⟩, e1, e2⟩ := fd_bind_of he
  obtain ⟨⟨y, σ2⟩, e3, e4⟩ := fd_bind_of e2
  obtain ⟨h4, e5⟩ := fd_if_of e4
  obtain ⟨⟨x, σ3⟩, e6, e7⟩ := fd_bind_of e5
  cases e7
  exact h1 [] σ σ1 u (Nat.le_refl 0) e1 (h2 _ _ _ y (Nat.le_refl 1) e3 (fd_rdup2 F hd2 rfl rfl (fd_riald F hd3 h4 (h3 _ _ _ x (Nat.le_refl 3) e6 (ho _ _ _ _ (fd_riast F hd h4 rfl (fd_Ex0 kk)))))))
theorem fd_last (F : fd_F X cc own n rt d) {a : fd_D Nat} {i : fd_D Int32} {b : fd_D Int64} {t : Nat} (h1 : fd_Ev X n Q (fd_r (fd_b X)) 0 p q a) (h2 : fd_Ev X n Q fd_i 1 q r i) (h3 : fd_Ev X n Q fd_l 2 r t b) (hd : decode cc t = .ok (.lastore, 1)) : fd_St X n Q Rt p (t + 1) qb qc (fd_pl a i b) := by
  intro σ σ' z v he kk
  obtain ⟨⟨u, σ1⟩, e1, e2⟩ := fd_bind_of he
  obtain ⟨⟨y, σ2⟩, e3, e4⟩ := fd_bind_of e2
  obtain ⟨⟨x, σ3⟩, e5, e6⟩ := fd_bind_of e4
  obtain ⟨h4, e7⟩ := fd_if_of e6
  cases e7
  refine h1 [] σ σ1 u (Nat.le_refl 0) e1 (h2 _ _ _ y (Nat.le_refl 1) e3 (h3 _ _ _ x (Nat.le_refl 2) e5 ?_))
  have kk := fd_Ex0 kk
  obtain ⟨h5, h6, h7, h8⟩ := fd_isL_of h4
  obtain ⟨g, pr, l, e, R, s, m, args, below, meth, c, cells, slots⟩ := X
  obtain ⟨hx, hb, hml, hown, hts, hK, hbs, hcl, hsl, hr, hlk, hfr, hlo⟩ := F
  intro H locs ls hW hS hL
  refine va_last hx hb hK.1 hW (fd_D_ok g _) hS u 4 ((fd_ws_at h5).trans (by rw [fd_ce_arl h6 h7])) rfl h8 hd ?_
  intro H1 locs1 hP1 hD1 hS1
  refine kk H1 locs1 ls ?_ hS1 hL
  show va_P _ _ _ _
  rw [← fd_ws_set (k := u) (M := σ3.2) (e := fd_ce g (fd_uL σ3.2 u y.toNatClampNeg x) u) rfl (fun j hj => fd_ceL_ne hj), fd_ce_arl h6 h7, fd_uL_row]
  exact hP1
def fd_al2 (a : fd_D Nat) : fd_D Int32 := fun σ => (a σ).bind fun u => if (Nat.blt u.1 fd_N && ((fd_sh u.1).1 == 1 && Nat.blt (fd_sh u.1).2.1 4)) = true then some (nI (fd_sh u.1).2.2.1, u.2) else none
theorem fd_alen (F : fd_F X cc own n rt d) {a : fd_D Nat} (h1 : fd_Ev X n Q (fd_r (fd_b X)) k p q a) (hd : decode cc q = .ok (.arraylength, 1)) : fd_Ev X n Q fd_i k p (q + 1) (fd_al2 a) := by
  intro st σ σ' v hct he kk
  obtain ⟨⟨u, σ1⟩, e1, e2⟩ := fd_bind_of he
  obtain ⟨h3, e5⟩ := fd_if_of e2
  cases e5
  refine h1 st σ _ u hct e1 ?_
  simp only [Bool.and_eq_true, beq_iff_eq] at h3
  have h4 : u < fd_N := Nat.le_of_ble_eq_true h3.1
  have h5 : (fd_sh u).2.1 < 4 := Nat.le_of_ble_eq_true h3.2.2
  obtain ⟨g, pr, l, e, R, s, m, args, below, meth, c, cells, slots⟩ := X
  obtain ⟨hx, hb, hml, hown, hts, hK, hbs, hcl, hsl, hr, hlk, hfr, hlo⟩ := F
  intro H locs ls hW hS hL
  obtain ⟨ty, hty⟩ : ∃ ty, (fd_tys g)[(fd_sh u).2.1]? = some (g.2.1 (fd_sh u).2.1, ty) := by
    generalize (fd_sh u).2.1 = t at h5
    match t, h5 with
    | 0, _ => exact ⟨_, rfl⟩
    | 1, _ => exact ⟨_, rfl⟩
    | 2, _ => exact ⟨_, rfl⟩
    | 3, _ => exact ⟨_, rfl⟩
  exact va_alen (x := ((fd_sh u).2.2.1, .inl (σ1.2.1 u))) hx hb hK.1 hW u (fd_sh u).2.1 ((fd_ws_at h4).trans (by rw [fd_ce_arr h3.2.1 rfl])) hty rfl hd (kk H locs ls hW hS hL)
end FDH
