/-! ===== calls, returns, a method's contract ===== -/
section FDM
variable {X : fd_X} {n d : Nat} {Q : State → Prop} {cc : ByteArray} {own : String} {rt : Option FieldType} {k p q r : Nat} {Rt : Value → fd_M → Prop} {qb qc : Nat}
def fd_rm (d : Nat) : Room := { frames := d, cells := 0, slots := 0, locals := 64 * d }
def fd_w (y : MethodName) (cc : ByteArray) (n : Nat) (rt : Option FieldType) : List Cond := .code y cc n rt :: fd_TB
def fd_Pc (g : fd_G) (av : List Value) (M : fd_M) : Array Value → State → Prop := fun a U => a = (av.map (fd_re g.1)).toArray ∧ fd_Wd g M U.heap ∧ fd_K g U ∧ g.1 ≤ U.heap.size
def fd_Qc (g : fd_G) (rk : Nat) (z : Value × fd_M) : Array Value → State → Outcome → State → Prop := fun _ st o t => o = .returned (if rk = 0 then none else some (fd_re g.1 z.1)) ∧ fd_Wd g z.2 t.heap ∧ va_F (fd_A g) st t
def fd_Con (l : Launch) (g : fd_G) (y : MethodName) (cc : ByteArray) (n : Nat) (rt : Option FieldType) (d rk : Nat) (f : List Value → fd_M → Option (Value × fd_M)) : Prop :=
  ∀ (av : List Value) (M : fd_M) (z : Value × fd_M), f av M = some z → Met l y (fd_w y cc n rt) (fd_rm d) (fd_Pc g av M) (fd_Qc g rk z) 0 0 (fd_A g)
theorem fd_good {ws : List Cond} (h : ∀ w ∈ ws, w ∈ fd_TB) : GoodIn fd_TB ws := fun w hw => ⟨h w hw, good_of_word (List.mem_filter.mp (h w hw)).2⟩
theorem fd_w_in {y : MethodName} {cc : ByteArray} {n : Nat} {rt : Option FieldType} (h : Cond.code y cc n rt ∈ fd_TB) : ∀ w ∈ fd_w y cc n rt, w ∈ fd_TB := fun w hw => (List.mem_cons.mp hw).elim (fun e => by rw [e]; exact h) id
/-- what the tables say of a method that is called: by a receiver of its class; by its name -/
def fd_Yv (y : MethodName) (cc : ByteArray) (n : Nat) (rt : Option FieldType) (C : String) (na : Nat) : Prop := Cond.instanceMethod y ∈ fd_TB ∧ Cond.selects C y y ∈ fd_TB ∧ Cond.initialized C ∈ fd_TB ∧ Cond.code y cc n rt ∈ fd_TB ∧ n ≤ 45 ∧ y.cls = C ∧ y.cls ≠ "java/lang/invoke/MethodHandle" ∧ y.cls ≠ "java/lang/invoke/VarHandle" ∧ (parseMethodDescriptor y.desc).map (fun d => d.parameters.length) = some na
def fd_Ys (y : MethodName) (cc : ByteArray) (n : Nat) (rt : Option FieldType) (na : Nat) : Prop := Cond.static y ∈ fd_TB ∧ Cond.initialized y.cls ∈ fd_TB ∧ Cond.code y cc n rt ∈ fd_TB ∧ n ≤ 45 ∧ y.cls ≠ "java/lang/invoke/MethodHandle" ∧ y.cls ≠ "java/lang/invoke/VarHandle" ∧ (parseMethodDescriptor y.desc).map (fun d => d.parameters.length) = some na
def fd_rv (b rk : Nat) (v : Value) : List Value := if rk = 0 then [] else [fd_re b v]
theorem fd_rv_eq {b rk : Nat} {v : Value} : (if rk = 0 then none else some (fd_re b v) : Option Value).toList = fd_rv b rk v := by
  unfold fd_rv
  split <;> rfl
theorem fd_blind {g : fd_G} {av : List Value} {M : fd_M} : FrameBlind (fd_Pc g av M) := fun a U g1 mk h => ⟨h.1, h.2.1, fd_K.same (u := U) (U := U.calling g1 mk a) rfl rfl h.2.2.1, h.2.2.2⟩
/-- behind a run of a callee -/
theorem fd_back {g : fd_G} {pr : Program} {l : Launch} {e : Env} {R : Room} {s : State} {m : MethodId} {args : Array Value} {below : List Frame} {meth : Method} {c : Code} {cells slots rk pc : Nat} {H : Heap} {locs : List Loc} {ls : Array Slot} {st rest : List Value} {a : Array Value} {z : Value × fd_M} {L : List Value}
    (hr : va_Run pr l e R s m args below meth c H locs cells slots 0 0 (F0 m pc ls st) rest (fd_Qc g rk z a) (fd_A g)) (hbs : g.1 ≤ s.heap.size) (hS : va_S (fd_A g) s.heap H locs) (hL : fd_lr g.1 n L ls)
    (kk : fd_W (g, pr, l, e, R, s, m, args, below, meth, c, cells, slots) n Q (pc + 3) (fd_rv g.1 rk z.1 ++ rest) (L, z.2)) : W pr l e R s m args below meth c H locs cells slots Q (F0 m pc ls st) := by
  intro T hT Xs
  obtain ⟨v, st₀, t, T', Lo, h0, X', hLo, e1, e2, ⟨ho, hWd, hz, hk⟩, stp⟩ := hr T hT Xs
  rw [h0] at hz hk
  cases ho
  obtain ⟨t2, a1, b1⟩ := kk T'.heap (locs ++ Lo) ls (by rw [e1]; exact hWd)
    ⟨Nat.le_trans hS.1 (by rw [e1]; exact hz), fun q h1 h2 => by rw [e1, hk q (Nat.lt_of_lt_of_le h1 hS.1) h2]; exact hS.2.1 q h1 h2, fun q hq => (List.mem_append.mp hq).elim (hS.2.2 q) (hLo q)⟩ hL T' rfl X'
  refine ⟨t2, stp t2 ?_, b1⟩
  rw [fd_rv_eq]
  exact a1
theorem fd_rcv (F : fd_F X cc own n rt d) {y : MethodName} {cy : ByteArray} {ny dy rk na idx ci ko : Nat} {ry : Option FieldType} {C : String} {T : u_T} {N : Nat} {f : List Value → fd_M → Option (Value × fd_M)} {st as : List Value} {σ : fd_S} {z : Value × fd_M} (hcon : fd_Con X.2.2.1 X.1 y cy ny ry dy rk f) (hy : fd_Yv y cy ny ry C na) (hl : Cond.methodLink own idx y ∈ fd_TB) (hdd : dy + 1 ≤ d) (hc : fd_cl[ci]? = some (C, T, N)) (hd : decode cc p = .ok (.invokevirtual idx, 3))
    (hst : fd_ct st ≤ 8) (ho : fd_isO ko ci = true) (hlen : as.length = na) (he : f (.ref ko :: as) σ.2 = some z) (kk : fd_W X n Q (p + 3) (fd_rv (fd_b X) rk z.1 ++ st) (σ.1, z.2)) : fd_W X n Q p ((as.map (fd_re (fd_b X))).reverse ++ .ref (fd_b X + ko) :: st) σ := by
  obtain ⟨g, pr, l, e, R, s, m, args, below, meth, c, cells, slots⟩ := X
  obtain ⟨hx, hb, hml, hown, hts, hK, hbs, hcl, hsl, hr, hlk, hfr, hlo⟩ := F
  obtain ⟨y1, y2, y3, y4, y5, y6, y7, y8, y9⟩ := hy
  obtain ⟨h1, h2, h3⟩ := fd_isO_of ho
  intro H locs ls hW hS hL
  have he0 : (fd_ws g σ.2)[ko]? = some (g.1 + ko, .inr (ci, fd_fs g σ.2 ko)) := (fd_ws_at h1).trans (by rw [fd_ce_obj h2 h3])
  have hrun := va_runV (e := e) (below := below) (meth := meth) (H := H) (locs := locs) (cells := cells) (slots := slots) (b := g.1 + ko) (As := as.map (fd_re g.1)) (rest := st) (g := F0 m p ls ((as.map (fd_re g.1)).reverse ++ .ref (g.1 + ko) :: st)) ⟨hx, hb, hml, hown, hts⟩ (hcon _ _ _ he)
    (cwV (own := own) (C := C) (index := idx) (R := R) na hts (fd_good (fun w hw => by
      rcases List.mem_append.mp hw with hw | hw
      · rcases List.mem_cons.mp hw with rfl | hw
        · exact hl
        rcases List.mem_cons.mp hw with rfl | hw
        · exact y1
        rcases List.mem_cons.mp hw with rfl | hw
        · exact y2
        rcases List.mem_cons.mp hw with rfl | hw
        · exact y3
        · cases hw
      · exact fd_w_in y4 w hw)) rfl rfl rfl ⟨y6, y7, y8, y9⟩ ⟨by show dy + 1 ≤ _; omega, by show 8 + (ny + 11) + 64 * dy ≤ _; omega⟩)
    ⟨fd_blind, va_recv hK.1 hW hc he0, fun U hU hWm => ⟨rfl, by rw [hU]; exact hW, fd_K.warm hWm (fun q hq => by rw [hU]; exact fd_old hS hbs hK q hq) hK, by rw [hU]; exact Nat.le_trans hbs hS.1⟩⟩ rfl (by rw [List.length_map]; exact hlen) hL.1 rfl (lv_room hst) hd ⟨hcl, hsl⟩
  exact fd_back hrun hbs hS hL kk
theorem fd_rcs (F : fd_F X cc own n rt d) {y : MethodName} {cy : ByteArray} {ny dy rk na idx : Nat} {ry : Option FieldType} {f : List Value → fd_M → Option (Value × fd_M)} {st as : List Value} {σ : fd_S} {z : Value × fd_M} (hcon : fd_Con X.2.2.1 X.1 y cy ny ry dy rk f) (hy : fd_Ys y cy ny ry na) (hl : Cond.methodLink own idx y ∈ fd_TB) (hdd : dy + 1 ≤ d) (hd : decode cc p = .ok (.invokestatic idx, 3))
    (hst : fd_ct st ≤ 8) (hlen : as.length = na) (he : f as σ.2 = some z) (kk : fd_W X n Q (p + 3) (fd_rv (fd_b X) rk z.1 ++ st) (σ.1, z.2)) : fd_W X n Q p ((as.map (fd_re (fd_b X))).reverse ++ st) σ := by
  obtain ⟨g, pr, l, e, R, s, m, args, below, meth, c, cells, slots⟩ := X
  obtain ⟨hx, hb, hml, hown, hts, hK, hbs, hcl, hsl, hr, hlk, hfr, hlo⟩ := F
  obtain ⟨y1, y2, y4, y5, y7, y8, y9⟩ := hy
  intro H locs ls hW hS hL
  have hrun := va_runS (e := e) (below := below) (meth := meth) (H := H) (locs := locs) (cells := cells) (slots := slots) (As := as.map (fd_re g.1)) (rest := st) (g := F0 m p ls ((as.map (fd_re g.1)).reverse ++ st)) ⟨hx, hb, hml, hown, hts⟩ (hcon _ _ _ he)
    (va_cwS (own := own) (index := idx) (R := R) na hts (fd_good (fun w hw => by
      rcases List.mem_append.mp hw with hw | hw
      · rcases List.mem_cons.mp hw with rfl | hw
        · exact hl
        rcases List.mem_cons.mp hw with rfl | hw
        · exact y1
        rcases List.mem_cons.mp hw with rfl | hw
        · exact y2
        · cases hw
      · exact fd_w_in y4 w hw)) rfl rfl rfl ⟨y7, y8, y9⟩ ⟨by show dy + 1 ≤ _; omega, by show 8 + (ny + 11) + 64 * dy ≤ _; omega⟩)
    ⟨fd_blind, fun U hU hWm => ⟨rfl, by rw [hU]; exact hW, fd_K.warm hWm (fun q hq => by rw [hU]; exact fd_old hS hbs hK q hq) hK, by rw [hU]; exact Nat.le_trans hbs hS.1⟩⟩ rfl (by rw [List.length_map]; exact hlen) hL.1 rfl (lv_room hst) hd ⟨hcl, hsl⟩
  exact fd_back hrun hbs hS hL kk
/-! arguments, one behind another -/
def fd_As (X : fd_X) (n : Nat) (Q : State → Prop) (k w p q : Nat) (as : fd_D (List Value)) : Prop := (∀ (st : List Value) (σ σ' : fd_S) (av : List Value), fd_ct st ≤ k → as σ = some (av, σ') → fd_W X n Q q ((av.map (fd_re (fd_b X))).reverse ++ st) σ' → fd_W X n Q p st σ) ∧ ∀ (σ σ' : fd_S) (av : List Value), as σ = some (av, σ') → fd_ct av = w
def fd_a0 : fd_D (List Value) := fun σ => some ([], σ)
def fd_a1 {α : Type} (vl : α → Value) (as : fd_D (List Value)) (a : fd_D α) : fd_D (List Value) := fun σ => (as σ).bind fun u => (a u.2).bind fun v => some (u.1 ++ [vl v.1], v.2)
theorem fd_as0 : fd_As X n Q k 0 p p fd_a0 := ⟨fun st σ σ' av _ he kk => by cases he; exact kk, fun σ σ' av he => by cases he; rfl⟩
theorem fd_ct_rev {b : Nat} (av st : List Value) : fd_ct ((av.map (fd_re b)).reverse ++ st) = fd_ct av + fd_ct st := by
  simp only [fd_ct, List.map_append, List.sum_append, List.map_reverse, List.sum_reverse, List.map_map]
  congr 2
  apply List.map_congr_left
  intro v _
  exact fd_re_cat b v
theorem fd_as1 {α : Type} {inj vl : α → Value} {w w1 : Nat} {as : fd_D (List Value)} {a : fd_D α} (h1 : fd_As X n Q k w p q as) (h2 : fd_Ev X n Q inj (k + w) q r a) (hv : ∀ x, fd_re (fd_b X) (vl x) = inj x) (hw : ∀ x, (vl x).category = w1) : fd_As X n Q k (w + w1) p r (fd_a1 vl as a) := by
  refine ⟨fun st σ σ' av hct he kk => ?_, fun σ σ' av he => ?_⟩
  · obtain ⟨⟨u, σ1⟩, e1, e2⟩ := fd_bind_of he
    obtain ⟨⟨y, σ2⟩, e3, e4⟩ := fd_bind_of e2
    cases e4
    refine h1.1 st σ σ1 u hct e1 (h2 _ σ1 σ2 y (by rw [fd_ct_rev, h1.2 _ _ _ e1]; omega) e3 ?_)
    simpa [hv] using kk
  · obtain ⟨⟨u, σ1⟩, e1, e2⟩ := fd_bind_of he
    obtain ⟨⟨y, σ2⟩, e3, e4⟩ := fd_bind_of e2
    cases e4
    have := h1.2 _ _ _ e1
    simp only [fd_ct, List.map_append, List.sum_append, List.map_cons, List.map_nil, List.sum_cons, List.sum_nil] at this ⊢
    rw [this, hw]
    rfl
theorem fd_asi {w : Nat} {as : fd_D (List Value)} {a : fd_D Int32} (h1 : fd_As X n Q k w p q as) (h2 : fd_Ev X n Q fd_i (k + w) q r a) : fd_As X n Q k (w + 1) p r (fd_a1 .int as a) := fd_as1 h1 h2 (fun _ => rfl) (fun _ => rfl)
theorem fd_asl {w : Nat} {as : fd_D (List Value)} {a : fd_D Int64} (h1 : fd_As X n Q k w p q as) (h2 : fd_Ev X n Q fd_l (k + w) q r a) : fd_As X n Q k (w + 2) p r (fd_a1 .long as a) := fd_as1 h1 h2 (fun _ => rfl) (fun _ => rfl)
theorem fd_asr {w : Nat} {as : fd_D (List Value)} {a : fd_D Nat} (h1 : fd_As X n Q k w p q as) (h2 : fd_Ev X n Q (fd_r (fd_b X)) (k + w) q r a) : fd_As X n Q k (w + 1) p r (fd_a1 .ref as a) := fd_as1 h1 h2 (fun _ => rfl) (fun _ => rfl)
/-! a call as a function: of a receiver (its class is looked at), of none -/
def fd_cv (ci na : Nat) (f : List Value → fd_M → Option (Value × fd_M)) (as : fd_D (List Value)) : fd_D Value := fun σ => (as σ).bind fun u => match u.1 with
  | .ref o :: r => if fd_isO o ci = true ∧ r.length = na then (f u.1 u.2.2).bind fun z => some (z.1, (u.2.1, z.2)) else none
  | _ => none
def fd_cs (na : Nat) (f : List Value → fd_M → Option (Value × fd_M)) (as : fd_D (List Value)) : fd_D Value := fun σ => (as σ).bind fun u => if u.1.length = na then (f u.1 u.2.2).bind fun z => some (z.1, (u.2.1, z.2)) else none
def fd_Cl (X : fd_X) (n : Nat) (Q : State → Prop) (k p q rk : Nat) (e : fd_D Value) : Prop := ∀ (st : List Value) (σ σ' : fd_S) (v : Value), fd_ct st ≤ k → e σ = some (v, σ') → fd_W X n Q q (fd_rv (fd_b X) rk v ++ st) σ' → fd_W X n Q p st σ
theorem fd_ecv (F : fd_F X cc own n rt d) {y : MethodName} {cy : ByteArray} {ny dy rk na idx ci w : Nat} {ry : Option FieldType} {C : String} {T : u_T} {N : Nat} {f : List Value → fd_M → Option (Value × fd_M)} {as : fd_D (List Value)} (hcon : fd_Con X.2.2.1 X.1 y cy ny ry dy rk f) (hy : fd_Yv y cy ny ry C na) (hl : Cond.methodLink own idx y ∈ fd_TB) (hdd : dy + 1 ≤ d) (hc : fd_cl[ci]? = some (C, T, N)) (ha : fd_As X n Q k w p q as) (hk : k ≤ 8) (hd : decode cc q = .ok (.invokevirtual idx, 3)) : fd_Cl X n Q k p (q + 3) rk (fd_cv ci na f as) := by
  intro st σ σ' v hct he kk
  obtain ⟨⟨u, σ1⟩, e1, e2⟩ := fd_bind_of he
  dsimp only at e2
  split at e2
  next o r =>
    obtain ⟨⟨h1, h2⟩, e3⟩ := fd_if_of e2
    obtain ⟨z, e4, e5⟩ := fd_bind_of e3
    cases e5
    refine ha.1 st σ σ1 _ hct e1 ?_
    have := fd_rcv F hcon hy hl hdd hc hd (st := st) (σ := σ1) (Q := Q) (by omega) h1 h2 e4 kk
    show fd_W X n Q q ((fd_re (fd_b X) (Value.ref o) :: List.map (fd_re (fd_b X)) r).reverse ++ st) σ1
    rw [List.reverse_cons, List.append_assoc]
    exact this
  next => cases e2
theorem fd_ecs (F : fd_F X cc own n rt d) {y : MethodName} {cy : ByteArray} {ny dy rk na idx w : Nat} {ry : Option FieldType} {f : List Value → fd_M → Option (Value × fd_M)} {as : fd_D (List Value)} (hcon : fd_Con X.2.2.1 X.1 y cy ny ry dy rk f) (hy : fd_Ys y cy ny ry na) (hl : Cond.methodLink own idx y ∈ fd_TB) (hdd : dy + 1 ≤ d) (ha : fd_As X n Q k w p q as) (hk : k ≤ 8) (hd : decode cc q = .ok (.invokestatic idx, 3)) : fd_Cl X n Q k p (q + 3) rk (fd_cs na f as) := by
  intro st σ σ' v hct he kk
  obtain ⟨⟨u, σ1⟩, e1, e2⟩ := fd_bind_of he
  obtain ⟨h2, e3⟩ := fd_if_of e2
  obtain ⟨z, e4, e5⟩ := fd_bind_of e3
  cases e5
  exact ha.1 st σ σ1 u hct e1 (fd_rcs F hcon hy hl hdd hd (by omega) h2 e4 kk)
/-! what a call answers -/
def fd_vI : Value → Option Int32
  | .int x => some x
  | _ => none
def fd_vL : Value → Option Int64
  | .long x => some x
  | _ => none
def fd_vN : Value → Option (Option Nat)
  | .ref x => some (some x)
  | .null => some none
  | _ => none
def fd_as {α : Type} (c : Value → Option α) (e : fd_D Value) : fd_D α := fun σ => (e σ).bind fun u => (c u.1).bind fun x => some (x, u.2)
theorem fd_eas {α : Type} {inj : α → Value} {c : Value → Option α} {e : fd_D Value} (h : fd_Cl X n Q k p q 1 e) (hc : ∀ v x, c v = some x → fd_re (fd_b X) v = inj x) : fd_Ev X n Q inj k p q (fd_as c e) := by
  intro st σ σ' v hct he kk
  obtain ⟨⟨u, σ1⟩, e1, e2⟩ := fd_bind_of he
  obtain ⟨x, e3, e4⟩ := fd_bind_of e2
  cases e4
  refine h st σ _ u hct e1 ?_
  unfold fd_rv
  rw [if_neg (by decide), hc u v e3]
  exact kk
theorem fd_asI {e : fd_D Value} (h : fd_Cl X n Q k p q 1 e) : fd_Ev X n Q fd_i k p q (fd_as fd_vI e) := fd_eas h (fun v x hx => by cases v <;> cases hx; rfl)
theorem fd_asL {e : fd_D Value} (h : fd_Cl X n Q k p q 1 e) : fd_Ev X n Q fd_l k p q (fd_as fd_vL e) := fd_eas h (fun v x hx => by cases v <;> cases hx; rfl)
theorem fd_asN {e : fd_D Value} (h : fd_Cl X n Q k p q 1 e) : fd_Ev X n Q (fd_n (fd_b X)) k p q (fd_as fd_vN e) := fd_eas h (fun v x hx => by cases v <;> cases hx <;> rfl)
def fd_do (e : fd_D Value) : fd_T := fun σ => (e σ).bind fun u => some ((0, fd_jk), u.2)
theorem fd_sdo {e : fd_D Value} (h : fd_Cl X n Q 0 p q 0 e) : fd_St X n Q Rt p q qb qc (fd_do e) := by
  intro σ σ' z v he kk
  obtain ⟨⟨u, σ1⟩, e1, e2⟩ := fd_bind_of he
  cases e2
  exact h [] σ _ u (Nat.le_refl 0) e1 (fd_Ex0 kk)
theorem fd_spop (F : fd_F X cc own n rt d) {α : Type} {inj : α → Value} {c : Value → Option α} {e : fd_D Value} (h : fd_Ev X n Q inj 0 p q (fd_as c e)) (hi : ∀ x, (inj x).category = 1) (hd : decode cc q = .ok (.pop, 1)) : fd_St X n Q Rt p (q + 1) qb qc (fd_do (fun σ => (fd_as c e σ).bind fun u => some (fd_jk, u.2))) := by
  intro σ σ' z v he kk
  obtain ⟨⟨u, σ1⟩, e1, e2⟩ := fd_bind_of he
  obtain ⟨⟨u2, σ2⟩, e3, e4⟩ := fd_bind_of e1
  cases e4
  cases e2
  exact h [] σ _ u2 (Nat.le_refl 0) e3 (fd_rpop F hd (hi _) (fd_Ex0 kk))
/-! ends -/
def fd_MQ (X : fd_X) (rk : Nat) (z : Value × fd_M) : State → Prop := match X with
  | (g, _, _, _, _, s, _, args, below, _, _, cells, slots) => MQ below (fd_Qc g rk z) args s cells slots (fd_A g)
def fd_rV : fd_T := fun σ => some ((1, fd_jk), σ)
def fd_rI (a : fd_D Int32) : fd_T := fun σ => (a σ).bind fun u => some ((1, .int u.1), u.2)
def fd_rZ (a : fd_D Int32) : fd_T := fun σ => (a σ).bind fun u => if u.1 = 0 ∨ u.1 = 1 then some ((1, .int u.1), u.2) else none
def fd_rL (a : fd_D Int64) : fd_T := fun σ => (a σ).bind fun u => some ((1, .long u.1), u.2)
def fd_rN (a : fd_D (Option Nat)) : fd_T := fun σ => (a σ).bind fun u => some ((1, va_rf u.1), u.2)
theorem fd_Ex1 {z : Value × fd_M} {Q : State → Prop} {v : Value} {σ : fd_S} (h : fd_Ex X n Q (fun v M => z = (v, M)) q qb qc 1 v σ) : z = (v, σ.2) := by
  unfold fd_Ex at h
  rwa [if_neg (by decide), if_pos rfl] at h
theorem fd_srI (F : fd_F X cc own n (some .int) d) {z : Value × fd_M} {a : fd_D Int32} (ha : fd_Ev X n (fd_MQ X 1 z) fd_i 0 p q a) (hd : decode cc q = .ok (.ireturn, 1)) : fd_St X n (fd_MQ X 1 z) (fun v M => z = (v, M)) p r qb qc (fd_rI a) := by
  intro σ σ' z0 v he kk
  obtain ⟨⟨u, σ1⟩, e1, e2⟩ := fd_bind_of he
  cases e2
  refine ha [] σ _ u (Nat.le_refl 0) e1 ?_
  have hz := fd_Ex1 kk
  subst hz
  obtain ⟨g, pr, l, e, R, s, m, args, below, meth, c, cells, slots⟩ := X
  obtain ⟨hx, hb, hml, hown, hts, hK, hbs, hcl, hsl, hr, hlk, hfr, hlo⟩ := F
  intro H locs ls hW hS hL
  exact W.iret hx hb hr (fun t ht hw => ⟨rfl, by rw [ht]; exact hW, hS.F ht⟩) hS.2.2 hd hlk
theorem fd_srZ (F : fd_F X cc own n (some .boolean) d) {z : Value × fd_M} {a : fd_D Int32} (ha : fd_Ev X n (fd_MQ X 1 z) fd_i 0 p q a) (hd : decode cc q = .ok (.ireturn, 1)) : fd_St X n (fd_MQ X 1 z) (fun v M => z = (v, M)) p r qb qc (fd_rZ a) := by
  intro σ σ' z0 v he kk
  obtain ⟨⟨u, σ1⟩, e1, e2⟩ := fd_bind_of he
  obtain ⟨h1, e3⟩ := fd_if_of e2
  cases e3
  refine ha [] σ _ u (Nat.le_refl 0) e1 ?_
  have hz := fd_Ex1 kk
  subst hz
  dsimp only at h1
  obtain ⟨g, pr, l, e, R, s, m, args, below, meth, c, cells, slots⟩ := X
  obtain ⟨hx, hb, hml, hown, hts, hK, hbs, hcl, hsl, hr, hlk, hfr, hlo⟩ := F
  intro H locs ls hW hS hL
  exact W.zret hx hb hr (by rcases h1 with h1 | h1 <;> rw [h1] <;> rfl) (fun t ht hw => ⟨rfl, by rw [ht]; exact hW, hS.F ht⟩) hS.2.2 hd hlk
theorem fd_srL (F : fd_F X cc own n (some .long) d) {z : Value × fd_M} {a : fd_D Int64} (ha : fd_Ev X n (fd_MQ X 1 z) fd_l 0 p q a) (hd : decode cc q = .ok (.lreturn, 1)) : fd_St X n (fd_MQ X 1 z) (fun v M => z = (v, M)) p r qb qc (fd_rL a) := by
  intro σ σ' z0 v he kk
  obtain ⟨⟨u, σ1⟩, e1, e2⟩ := fd_bind_of he
  cases e2
  refine ha [] σ _ u (Nat.le_refl 0) e1 ?_
  have hz := fd_Ex1 kk
  subst hz
  obtain ⟨g, pr, l, e, R, s, m, args, below, meth, c, cells, slots⟩ := X
  obtain ⟨hx, hb, hml, hown, hts, hK, hbs, hcl, hsl, hr, hlk, hfr, hlo⟩ := F
  intro H locs ls hW hS hL
  exact W.lret hx hb hr (fun t ht hw => ⟨rfl, by rw [ht]; exact hW, hS.F ht⟩) hS.2.2 hd hlk
theorem fd_srN {own2 : String} (F : fd_F X cc own n (some (.object own2)) d) {z : Value × fd_M} {a : fd_D (Option Nat)} (ha : fd_Ev X n (fd_MQ X 1 z) (fd_n (fd_b X)) 0 p q a) (hd : decode cc q = .ok (.areturn, 1)) : fd_St X n (fd_MQ X 1 z) (fun v M => z = (v, M)) p r qb qc (fd_rN a) := by
  intro σ σ' z0 v he kk
  obtain ⟨⟨u, σ1⟩, e1, e2⟩ := fd_bind_of he
  cases e2
  refine ha [] σ _ u (Nat.le_refl 0) e1 ?_
  have hz := fd_Ex1 kk
  subst hz
  obtain ⟨g, pr, l, e, R, s, m, args, below, meth, c, cells, slots⟩ := X
  obtain ⟨hx, hb, hml, hown, hts, hK, hbs, hcl, hsl, hr, hlk, hfr, hlo⟩ := F
  intro H locs ls hW hS hL
  cases u with
  | none => exact W.aret hx hb hr (Or.inl ⟨_, rfl⟩) (Or.inl rfl) (fun t ht hw => ⟨rfl, by rw [ht]; exact hW, hS.F ht⟩) hS.2.2 hd hlk
  | some x => exact W.aret hx hb hr (Or.inl ⟨_, rfl⟩) (Or.inr ⟨_, rfl⟩) (fun t ht hw => ⟨rfl, by rw [ht]; exact hW, hS.F ht⟩) hS.2.2 hd hlk
theorem fd_srV (F : fd_F X cc own n none d) {z : Value × fd_M} (hd : decode cc p = .ok (.return_, 1)) : fd_St X n (fd_MQ X 0 z) (fun v M => z = (v, M)) p r qb qc fd_rV := by
  intro σ σ' z0 v he kk
  cases he
  have hz := fd_Ex1 kk
  subst hz
  obtain ⟨g, pr, l, e, R, s, m, args, below, meth, c, cells, slots⟩ := X
  obtain ⟨hx, hb, hml, hown, hts, hK, hbs, hcl, hsl, hr, hlk, hfr, hlo⟩ := F
  intro H locs ls hW hS hL
  exact W.vret hx hb hr (fun t ht hw => ⟨rfl, by rw [ht]; exact hW, hS.F ht⟩) hS.2.2 hd hlk
/-- a method: its body at its entry -/
def fd_fn (n : Nat) (body : fd_T) : List Value → fd_M → Option (Value × fd_M) := fun av M => if (fd_in0 n av).length = n then (body (fd_in0 n av, M)).bind fun u => if u.1.1 = 1 then some (u.1.2, u.2.2) else none else none
theorem fd_lg_len (b : Nat) : ∀ av : List Value, (lg_sl (av.map (fd_re b))).length = (fd_sl av).length := by
  intro av
  induction av with
  | nil => rfl
  | cons a r ih =>
    simp only [lg_sl, List.map_cons, List.flatMap_cons, List.length_append, fd_re_cat] at ih ⊢
    rw [ih]
    cases a <;> simp [fd_sl, Value.category] <;> omega
theorem fd_mk {l : Launch} {g : fd_G} {y : MethodName} {cc : ByteArray} {n : Nat} {rt : Option FieldType} {d rk q qb qc : Nat} {body : fd_T} (hy : plainName y.cls = true)
    (hbd : ∀ (X : fd_X) (z : Value × fd_M), X.1 = g → X.2.2.1 = l → fd_F X cc y.cls n rt d → fd_St X n (fd_MQ X rk z) (fun v M => z = (v, M)) 0 q qb qc body) : fd_Con l g y cc n rt d rk (fd_fn n body) := by
  intro av M z hf
  unfold fd_fn at hf
  obtain ⟨hlen, hf⟩ := fd_if_of hf
  obtain ⟨⟨⟨z1, v1⟩, σ1⟩, e1, e2⟩ := fd_bind_of hf
  obtain ⟨h1, e3⟩ := fd_if_of e2
  dsimp only at h1
  subst h1
  cases e3
  refine Met.ofW (cc := cc) (maxL := n) (ret := rt) hy rfl ?_
  intro p e s m args below meth c s₁ B hml hv
  obtain ⟨hargs, hWd, hK, hbs⟩ := hv
  subst hargs
  have hts := atoms_spec (ws := fd_w y cc n rt) B.pre
  have hown : s.vm.findClass y.cls = some m.cls := findClass_of_methodNamed B.named
  have hll : (lg_sl (av.map (fd_re g.1))).length ≤ n := by
    rw [fd_lg_len]
    have : (fd_in0 n av).length = n := hlen
    unfold fd_in0 at this
    rw [List.length_append] at this
    omega
  have F : fd_F (g, p, l, e, (headSpec (fd_w y cc n rt) (fd_rm d)).room, s, m, (av.map (fd_re g.1)).toArray, below, meth, c, 0, 0) cc y.cls n rt d := ⟨B.exec, B.bytes, hml, hown, fun w hw => hts w (List.mem_cons_of_mem _ hw), hK, hbs, Nat.zero_le _, Nat.zero_le _, B.returns, B.notSynchronized, Nat.le_refl _, Nat.le_refl _⟩
  rw [lg_entry_eq]
  exact hbd _ (v1, σ1.2) rfl rfl F (fd_in0 n av, M) σ1 1 v1 e1 (by unfold fd_Ex; rw [if_neg (by decide), if_pos rfl]) s.heap [] _ hWd va_S.rf (fd_in0_ok g.1 n av hll)
end FDM
