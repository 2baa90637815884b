/-! ===== constructors: the cells that stand, one behind another ===== -/
def va_AOA (ty : FieldType) (U : State) : Prop := (Cond.arrayOver (.array ty)).before #[] U = true
theorem va_AOA.of {ty : FieldType} {A : Array Value} {U : State} (h : (Cond.arrayOver (.array ty)).before A U = true) : va_AOA ty U := h
theorem va_AOA.use {ty : FieldType} {A : Array Value} {U : State} (h : va_AOA ty U) : (Cond.arrayOver (.array ty)).before A U = true := h
theorem va_AOA.moved {ty : FieldType} {u U : State} (hvm : u.vm.Alike U.vm) (h : va_AOA ty u) : va_AOA ty U := by
  unfold va_AOA Cond.before Cond.holds at h ⊢
  simp only [Cond.value, beq_iff_eq] at h ⊢
  cases hc : u.vm.findClass (FieldType.array ty).toString with
  | none => simp [hc] at h
  | some comp =>
    simp only [hc, Option.bind_some, Option.bind_eq_some_iff, Option.map_eq_some_iff] at h
    obtain ⟨c, hi, k, hk, hb⟩ := h
    obtain ⟨k', hk', he⟩ := hvm.2.2 _ _ hk
    have hi' : (U.vm.classes.findIdx? fun (x : Class) => match x.kind with | .array component _ => component == comp | _ => false) = some c := by
      refine (va_idx_bare U.vm comp).symm.trans ?_
      rw [show U.vm.bare = u.vm.bare from by first | exact hvm.bare_eq | exact hvm.bare_eq.symm]
      exact (va_idx_bare u.vm comp).trans hi
    have f1 : U.vm.findClass (FieldType.array ty).toString = some comp := by rw [hvm.findClass]; exact hc
    rw [f1, Option.bind_some]
    refine (congrArg (fun o : Option Nat => o.bind fun c => (U.vm.classes[c]?).map fun (k : Class) => match k.kind with | .array _ ty9 => decide (ty9 = FieldType.array ty) && decide (U.vm.findClass ("[" ++ (FieldType.array ty).toString) = some c) | _ => false) hi').trans ?_
    rw [Option.bind_some, hk', Option.map_some]
    rw [hvm.findClass, he]
    exact congrArg some hb
theorem vr_outer (c : ClassId) (N h0 : Nat) : ∀ i : Nat, Jvm.Free.Multi.outerC c N h0 i = arrV c N (fun j => va_rf (if j < i then some (h0 + 1 + j) else none))
  | 0 => by
    show ({ cls := c, slots := Array.replicate N .null, vm := .none } : Cell) = _
    rw [arrV_new]
    refine congrArg (arrV c N) (funext fun j => ?_)
    simp [va_rf]
  | i + 1 => by
    show (Jvm.Free.Multi.outerC c N h0 i).setSlot i (.ref (h0 + 1 + i)) = _
    rw [vr_outer c N h0 i, arrV_store]
    refine congrArg (arrV c N) (funext fun j => ?_)
    by_cases e : j = i
    · subst e
      simp [updV, va_rf]
    · by_cases h : j < i
      · simp [updV, e, h, Nat.lt_succ_of_lt h]
      · simp [updV, e, h, show ¬ j < i + 1 by omega]
def fd_ww (b : Nat) (es : List va_E) : va_W := es.mapIdx fun k e => (b + k, e)
def fd_We (g : fd_G) (es : List va_E) (H : Heap) : Prop := va_P g.2.2.1 fd_cl (fd_ww g.1 es) H ∧ H.size = g.1 + es.length
theorem fd_ww_at {b k : Nat} {es : List va_E} {e : va_E} (h : es[k]? = some e) : (fd_ww b es)[k]? = some (b + k, e) := by simp [fd_ww, h]
theorem fd_ww_of {b k : Nat} {es : List va_E} {q : Nat × va_E} (h : (fd_ww b es)[k]? = some q) : k < es.length ∧ q.1 = b + k := by
  simp only [fd_ww, List.getElem?_mapIdx, Option.map_eq_some_iff] at h
  obtain ⟨a, ha, rfl⟩ := h
  exact ⟨(List.getElem?_eq_some_iff.mp ha).1, rfl⟩
theorem fd_ww_D (g : fd_G) (es : List va_E) : va_D (fd_A g) (fd_ww g.1 es) := by
  refine ⟨fun i j p q hi hj h => ?_, fun k q hk => ?_⟩
  · have h1 := (fd_ww_of hi).2
    have h2 := (fd_ww_of hj).2
    omega
  · have := (fd_ww_of hk).2
    show g.1 ≤ q.1
    omega
theorem fd_ww_set {b k : Nat} {es : List va_E} {e : va_E} : (fd_ww b es).set k (b + k, e) = fd_ww b (es.set k e) := by
  apply List.ext_getElem?
  intro i
  simp only [fd_ww, List.getElem?_set, List.getElem?_mapIdx, List.length_mapIdx]
  by_cases h : k = i
  · subst h
    by_cases hl : k < es.length <;> simp [hl]
  · simp [h]
theorem fd_ww_snoc {b : Nat} {es : List va_E} {e : va_E} : fd_ww b es ++ [(b + es.length, e)] = fd_ww b (es ++ [e]) := by
  simp [fd_ww, List.mapIdx_append]
theorem fd_We.push {g : fd_G} {es : List va_E} {H H1 : Heap} {e : va_E} (h : fd_We g es H) (hk : ∀ q, q < H.size → H1[q]? = H[q]?) (hz : H1.size = H.size + 1) (he : va_P g.2.2.1 fd_cl [(H.size, e)] H1) : fd_We g (es ++ [e]) H1 := by
  refine ⟨?_, by rw [hz, h.2]; simp; omega⟩
  rw [← fd_ww_snoc, ← h.2]
  exact (h.1.kept fun k x hx => hk x.1 ((h.1 k x hx).lt)).app he
theorem fd_We.set {g : fd_G} {es : List va_E} {H H1 : Heap} {e e0 : va_E} {k : Nat} (h : fd_We g es H) (h0 : es[k]? = some e0) (hP : va_P g.2.2.1 fd_cl ((fd_ww g.1 es).set k (g.1 + k, e)) H1) (hz : H1.size = H.size) : fd_We g (es.set k e) H1 := ⟨by rw [← fd_ww_set]; exact hP, by rw [hz, h.2]; simp⟩
/-- what else a constructor wants of the tables: the arrays of arrays -/
def fd_AO (U : State) : Prop := va_AO RX10 U ∧ va_AOA .int U
theorem fd_AO.moved {u U : State} (hvm : u.vm.Alike U.vm) (h : fd_AO u) : fd_AO U := ⟨va_AO.moved hvm h.1, va_AOA.moved hvm h.2⟩
def fd_Z (X : fd_X) (n : Nat) (Q : State → Prop) (pc : Nat) (st L : List Value) (es : List va_E) (kc ks : Nat) : Prop := match X with
  | (g, p, l, e, R, s, m, args, below, meth, c, _, _) => ∀ (H : Heap) (locs : List Loc) (ls : Array Slot), fd_We g es H → va_S (fd_A g) s.heap H locs → fd_lr g.1 n L ls → W p l e R s m args below meth c H locs kc ks Q (F0 m pc ls st)
def fd_Fc (X : fd_X) : Prop := match X with
  | (_, _, _, _, _, s, _, _, _, meth, _, _, _) => meth.name = "<init>" ∧ fd_AO s
def fd_Fa (X : fd_X) : Prop := match X with
  | (_, _, _, _, _, s, _, _, _, _, _, _, _) => fd_AO s
theorem fd_Fc.a {X : fd_X} (h : fd_Fc X) : fd_Fa X := h.2
def fd_Rm (X : fd_X) (kc ks : Nat) : Prop := match X with
  | (_, _, _, _, R, _, _, _, _, _, _, _, _) => kc ≤ R.cells ∧ ks ≤ R.slots
section FDZ
variable {X : fd_X} {n d : Nat} {Q : State → Prop} {cc : ByteArray} {own : String} {rt : Option FieldType} {p kc ks : Nat} {st L : List Value} {es : List va_E}
theorem fd_zal (F : fd_F X cc own n rt d) {i k : Nat} {j : Fin 4} (hd : decode cc p = .ok (.aload_n j, 1)) (hi : (j : Nat) = i) (hL : L[i]? = some (.ref k)) (kk : fd_Z X n Q (p + 1) (.ref (fd_b X + k) :: st) L es kc ks) : fd_Z X n Q p st L es kc ks := by
  obtain ⟨g, pr, l, e, R, s, m, args, below, meth, c, cells, slots⟩ := X
  obtain ⟨hx, hb, hml, hown, hts, hK, hbs, hcl, hsl, hr, hlk, hfr, hlo⟩ := F
  intro H locs ls hW hS hl
  exact lv_aload_n hx hb hd hi (hl.2.2 i _ hL (by intro h; cases h)) (kk H locs ls hW hS hl)
theorem fd_zdup (F : fd_F X cc own n rt d) {a : Nat} (hd : decode cc p = .ok (.dup, 1)) (kk : fd_Z X n Q (p + 1) (.ref a :: .ref a :: st) L es kc ks) : fd_Z X n Q p (.ref a :: st) L es kc ks := by
  obtain ⟨g, pr, l, e, R, s, m, args, below, meth, c, cells, slots⟩ := X
  obtain ⟨hx, hb, hml, hown, hts, hK, hbs, hcl, hsl, hr, hlk, hfr, hlo⟩ := F
  intro H locs ls hW hS hl
  exact lv_dup hx hb hd rfl (kk H locs ls hW hS hl)
theorem fd_zic (F : fd_F X cc own n rt d) {z : Int} {v : Int32} (hd : decode cc p = .ok (.iconst z, 1)) (hv : Int32.ofInt z = v) (kk : fd_Z X n Q (p + 1) (.int v :: st) L es kc ks) : fd_Z X n Q p st L es kc ks := by
  obtain ⟨g, pr, l, e, R, s, m, args, below, meth, c, cells, slots⟩ := X
  obtain ⟨hx, hb, hml, hown, hts, hK, hbs, hcl, hsl, hr, hlk, hfr, hlo⟩ := F
  intro H locs ls hW hS hl
  exact lv_iconst hx hb hd hv (kk H locs ls hW hS hl)
theorem fd_zbi (F : fd_F X cc own n rt d) {z : Int} {v : Int32} (hd : decode cc p = .ok (.bipush z, 2)) (hv : (Int8.ofInt z).toInt32 = v) (kk : fd_Z X n Q (p + 2) (.int v :: st) L es kc ks) : fd_Z X n Q p st L es kc ks := by
  obtain ⟨g, pr, l, e, R, s, m, args, below, meth, c, cells, slots⟩ := X
  obtain ⟨hx, hb, hml, hown, hts, hK, hbs, hcl, hsl, hr, hlk, hfr, hlo⟩ := F
  intro H locs ls hW hS hl
  exact lv_bipush hx hb hd hv (kk H locs ls hW hS hl)
theorem fd_zsi (F : fd_F X cc own n rt d) {z : Int} {v : Int32} (hd : decode cc p = .ok (.sipush z, 3)) (hv : (Int16.ofInt z).toInt32 = v) (kk : fd_Z X n Q (p + 3) (.int v :: st) L es kc ks) : fd_Z X n Q p st L es kc ks := by
  obtain ⟨g, pr, l, e, R, s, m, args, below, meth, c, cells, slots⟩ := X
  obtain ⟨hx, hb, hml, hown, hts, hK, hbs, hcl, hsl, hr, hlk, hfr, hlo⟩ := F
  intro H locs ls hW hS hl
  exact lv_sipush hx hb hd hv (kk H locs ls hW hS hl)
theorem fd_zob (F : fd_F X cc own n rt d) {idx a : Nat} (hd : decode cc p = .ok (.invokespecial idx, 3)) (h1 : Cond.methodLink own idx objectInit ∈ fd_TB) (h2 : Cond.instanceMethod objectInit ∈ fd_TB) (h3 : Cond.code objectInit ⟨#[0xb1]⟩ 1 none ∈ fd_TB) (hd1 : 1 ≤ d) (kk : fd_Z X n Q (p + 3) [] L es kc ks) : fd_Z X n Q p [.ref a] L es kc ks := by
  obtain ⟨g, pr, l, e, R, s, m, args, below, meth, c, cells, slots⟩ := X
  obtain ⟨hx, hb, hml, hown, hts, hK, hbs, hcl, hsl, hr, hlk, hfr, hlo⟩ := F
  intro H locs ls hW hS hl
  refine W.objInit hx hb hown (hts _ h1) (hts _ h2) (hts _ h3) rfl (by rw [hml]; exact hl.1) rfl hd (by first | omega | (simp [F0]; omega)) (by first | omega | (simp [F0]; omega)) ?_
  exact kk H locs ls hW hS hl
/-- an array of numbers, filled with what such an array begins with -/
def fd_na (g : fd_G) : Nat → Nat → va_E
  | 4, N => .inl (g.2.1 4, N, .inr (.inl fun _ => 0))
  | t, N => .inl (g.2.1 t, N, .inl fun _ => 0)
theorem fd_znewa (F : fd_F X cc own n rt d) {t N : Nat} {at0 : ArrayType} {v : Int32} (hd : decode cc p = .ok (.newarray at0, 2)) (hw : Cond.arrayClass (newarray.typeOf at0) ∈ fd_TB) (ht : (fd_tys X.1)[t]? = some (X.1.2.1 t, newarray.typeOf at0)) (ht5 : t < 5) (hv : ¬ v < 0) (hN : v.toNatClampNeg = N) (hbytes : N * componentBytes (newarray.typeOf at0) ≤ 536870912)
    (hc : ∀ cA : ClassId, vp_cell cA (N, (if t = 4 then .inr (.inl fun _ => 0) else .inl fun _ => 0)) = arrV cA N (fun _ => defaultValue (newarray.typeOf at0))) (hR : fd_Rm X (kc + 1) (ks + N))
    (kk : fd_Z X n Q (p + 2) (.ref (fd_b X + es.length) :: st) L (es ++ [fd_na X.1 t N]) (kc + 1) (ks + N)) : fd_Z X n Q p (.int v :: st) L es kc ks := by
  obtain ⟨g, pr, l, e, R, s, m, args, below, meth, c, cells, slots⟩ := X
  obtain ⟨hx, hb, hml, hown, hts, hK, hbs, hcl, hsl, hr, hlk, hfr, hlo⟩ := F
  intro H locs ls hW hS hl
  refine va_newaK hx hb (hts _ hw) rfl hd rfl hv hN hbytes hR.1 hR.2 rfl fun H1 cA e1 z1 o1 hAr hNm => ?_
  have hcA : cA = g.2.1 t := by
    have h1 := (hK.1.2 t _ ht).2
    have h2 : s.vm.findClass ("[" ++ (newarray.typeOf at0).toString) = some (g.2.1 t) := by
      revert h1
      cases at0 <;> exact id
    exact Option.some.inj (hNm.symm.trans h2)
  subst hcA
  have hA : va_S (fd_A g) s.heap H1 locs := ⟨Nat.le_trans hS.1 (by omega), fun x h1 h2 => (o1 x (Nat.lt_of_lt_of_le h1 hS.1)).trans (hS.2.1 x h1 h2), hS.2.2⟩
  have hna : fd_na g t N = .inl (g.2.1 t, N, (if t = 4 then .inr (.inl fun _ => 0) else .inl fun _ => 0)) := by
    match t, ht5 with
    | 0, _ => rfl
    | 1, _ => rfl
    | 2, _ => rfl
    | 3, _ => rfl
    | 4, _ => rfl
  have := kk H1 locs ls (hW.push o1 z1 (fun k x hx => by
    have h0 : k < 1 := (List.getElem?_eq_some_iff.mp hx).1
    rw [show k = 0 by omega] at hx
    cases hx
    rw [hna]
    show H1[H.size]? = some (vp_cell _ _)
    rw [hc]
    exact e1)) hA hl
  rw [hW.2]
  exact this
/-- a new object of a class, its fields at their defaults -/
theorem fd_znew (F : fd_F X cc own n rt d) {C : String} {T : u_T} {N ci idx : Nat} {fs : List Value} (hd : decode cc p = .ok (.new idx, 3)) (hin : ∀ w ∈ u_ws C T N, w ∈ fd_TB) (ty : Nat → FieldType) (hty : ∀ k, k < N → parseFieldDescriptor (T k).2.2.1 = some (ty k)) (h1 : Cond.classLink own idx C ∈ fd_TB) (h2 : Cond.instantiable C N ∈ fd_TB) (h3 : Cond.initialized C ∈ fd_TB) (hc : fd_cl[ci]? = some (C, T, N)) (hfs : ∀ j, j < N → defaultValue (ty j) = vp_V fs j) (hR : fd_Rm X (kc + 1) (ks + N))
    (kk : fd_Z X n Q (p + 3) (.ref (fd_b X + es.length) :: st) L (es ++ [.inr (ci, fs)]) (kc + 1) (ks + N)) : fd_Z X n Q p st L es kc ks := by
  obtain ⟨g, pr, l, e, R, s, m, args, below, meth, c, cells, slots⟩ := X
  obtain ⟨hx, hb, hml, hown, hts, hK, hbs, hcl, hsl, hr, hlk, hfr, hlo⟩ := F
  intro H locs ls hW hS hl
  have hKn := hK.1.1 ci _ hc
  refine W.newcK hx hb hown (hts _ h1) (hts _ h2) (hts _ h3) rfl hd hR.1 hR.2 hKn.2.1 rfl fun H1 kC hkC e1 z1 o1 => ?_
  have hA : va_S (fd_A g) s.heap H1 locs := ⟨Nat.le_trans hS.1 (by omega), fun x h1 h2 => (o1 x (Nat.lt_of_lt_of_le h1 hS.1)).trans (hS.2.1 x h1 h2), hS.2.2⟩
  have := kk H1 locs ls (hW.push o1 z1 (fun k x hx => by
    have h0 : k < 1 := (List.getElem?_eq_some_iff.mp hx).1
    rw [show k = 0 by omega] at hx
    cases hx
    exact ⟨_, hc, (u_born ty hts hin hKn hkC e1 hty).to hfs⟩)) hA hl
  rw [hW.2]
  exact this
/-- an array of references to objects, all null -/
theorem fd_zanew (F : fd_F X cc own n rt d) (Fc : fd_Fc X) {N idx : Nat} {v : Int32} (hd : decode cc p = .ok (.anewarray idx, 3)) (h1 : Cond.classLink own idx RX10 ∈ fd_TB) (hv : ¬ v < 0) (hN : v.toNatClampNeg = N) (hbytes : N * 4 ≤ 536870912) (hR : fd_Rm X (kc + 1) (ks + N))
    (kk : fd_Z X n Q (p + 3) (.ref (fd_b X + es.length) :: st) L (es ++ [.inl (X.1.2.1 6, N, .inr (.inr (.inr (.inr fun _ => none))))]) (kc + 1) (ks + N)) : fd_Z X n Q p (.int v :: st) L es kc ks := by
  obtain ⟨g, pr, l, e, R, s, m, args, below, meth, c, cells, slots⟩ := X
  obtain ⟨hx, hb, hml, hown, hts, hK, hbs, hcl, hsl, hr, hlk, hfr, hlo⟩ := F
  subst hN
  intro H locs ls hW hS hl
  refine W.anew hx hb hown (hts _ h1) (va_AO.use Fc.2.1) rfl hd rfl hv hbytes hR.1 hR.2 fun cA kA comp f1 f2 f3 f4 => ?_
  have hcA : cA = g.2.1 6 := by
    have h1 := (hK.1.2 6 _ rfl).2
    obtain ⟨kA', comp', i1, i2, i3, i4⟩ := h1
    exact Option.some.inj (f1.symm.trans i4)
  subst hcA
  generalize hH1 : H.push ({ cls := g.2.1 6, slots := Array.replicate v.toNatClampNeg .null, vm := .none } : Cell) = H1
  have z1 : H1.size = H.size + 1 := by rw [← hH1, Array.size_push]
  have e1 : H1[H.size]? = some (arrV (g.2.1 6) v.toNatClampNeg (fun _ => .null)) := by rw [← hH1, Array.getElem?_push_size, ← arrV_new]
  have o1 : ∀ q : Nat, q < H.size → H1[q]? = H[q]? := fun q hq => by rw [← hH1, Array.getElem?_push, if_neg (Nat.ne_of_lt hq)]
  have hA : va_S (fd_A g) s.heap H1 locs := ⟨Nat.le_trans hS.1 (by omega), fun x h1 h2 => (o1 x (Nat.lt_of_lt_of_le h1 hS.1)).trans (hS.2.1 x h1 h2), hS.2.2⟩
  have := kk H1 locs ls (hW.push o1 z1 (fun k x hx => by
    have h0 : k < 1 := (List.getElem?_eq_some_iff.mp hx).1
    rw [show k = 0 by omega] at hx
    cases hx
    show H1[H.size]? = some (vp_cell _ _)
    rw [vp_cell_q]
    exact e1)) hA hl
  rw [hW.2]
  exact this
/-- rows of ints -/
theorem fd_We.app {g : fd_G} {es fs : List va_E} {H H1 : Heap} (h : fd_We g es H) (hk : ∀ q, q < H.size → H1[q]? = H[q]?) (hz : H1.size = H.size + fs.length) (he : va_P g.2.2.1 fd_cl (fs.mapIdx fun k e => (H.size + k, e)) H1) : fd_We g (es ++ fs) H1 := by
  refine ⟨?_, by rw [hz, h.2]; simp; omega⟩
  have e1 : fd_ww g.1 (es ++ fs) = fd_ww g.1 es ++ fs.mapIdx fun k e => (H.size + k, e) := by
    rw [h.2]
    simp [fd_ww, List.mapIdx_append, Nat.add_assoc, Nat.add_comm, Nat.add_left_comm]
  rw [e1]
  exact (h.1.kept fun k x hx => hk x.1 ((h.1 k x hx).lt)).app he
theorem fd_zmul (F : fd_F X cc own n rt d) (Fc : fd_Fc X) {N K idx : Nat} {v w : Int32} (hd : decode cc p = .ok (.multianewarray idx 2, 4)) (h1 : Cond.classLink own idx ("[" ++ (FieldType.array .int).toString) ∈ fd_TB) (h2 : Cond.arrayClass .int ∈ fd_TB) (hv : ¬ v < 0) (hw : ¬ w < 0) (hN : v.toNatClampNeg = N) (hM : w.toNatClampNeg = K) (hb1 : N * 4 ≤ 536870912) (hb2 : K * componentBytes .int ≤ 536870912) (hb3 : K ≤ 536870912) (hR : fd_Rm X (kc + (1 + N)) (ks + (N + N * K)))
    (kk : fd_Z X n Q (p + 4) (.ref (fd_b X + es.length) :: st) L (es ++ (.inl (X.1.2.1 5, N, .inr (.inr (.inr (.inr fun i => if i < N then some (fd_b X + es.length + 1 + i) else none)))) :: List.replicate N (fd_na X.1 0 K))) (kc + 1 + N) (ks + N + N * K)) : fd_Z X n Q p (.int w :: .int v :: st) L es kc ks := by
  obtain ⟨g, pr, l, e, R, s, m, args, below, meth, c, cells, slots⟩ := X
  obtain ⟨hx, hb, hml, hown, hts, hK, hbs, hcl, hsl, hr, hlk, hfr, hlo⟩ := F
  subst hN
  subst hM
  intro H locs ls hW hS hl T hT Xs
  obtain ⟨vm₁, cA, comp, -, fA, fC, hO, -, X', step⟩ := Xs.multianewarray2F hx hown (hts _ h1) (va_AOA.use Fc.2.2) (hts _ h2) (g := F0 m p ls (.int w :: .int v :: st)) rfl (by rw [hb]; exact hd) rfl hv hw hb1 hb2 hb3 rfl rfl hR.1 hR.2
  have hn0 := (hK.1.2 0 _ rfl).2
  have hn5 := (hK.1.2 5 _ rfl).2
  have ec : comp = g.2.1 0 := Option.some.inj (fC.symm.trans hn0)
  have eA : cA = g.2.1 5 := Option.some.inj (fA.symm.trans hn5)
  subst ec
  subst eA
  generalize hF : Jvm.Free.Multi.fill (T.setVm vm₁) (g.2.1 5) (g.2.1 0) v.toNatClampNeg w.toNatClampNeg (defaultValue .int) v.toNatClampNeg = U at X' step
  have hTh : (T.setVm vm₁).heap = H := hT
  obtain ⟨f1, f2, -, -⟩ := Jvm.Free.Multi.fill_facts (T.setVm vm₁) (g.2.1 5) (g.2.1 0) v.toNatClampNeg w.toNatClampNeg (defaultValue .int) v.toNatClampNeg
  rw [hF, hTh] at f1 f2
  have hold : ∀ x : Nat, x < H.size → U.heap[x]? = H[x]? := fun x hx => by
    have := Jvm.Free.Multi.fill_old (T.setVm vm₁) (g.2.1 5) (g.2.1 0) v.toNatClampNeg w.toNatClampNeg (defaultValue .int) (a := x) (by rw [hTh]; exact hx) v.toNatClampNeg
    rw [hF, hTh] at this
    exact this
  have hrow : ∀ j : Nat, j < v.toNatClampNeg → U.heap[H.size + 1 + j]? = some (vp_cell (g.2.1 0) (w.toNatClampNeg, .inl fun _ => 0)) := fun j hj => by
    have := Jvm.Free.Multi.fill_inner (T.setVm vm₁) (g.2.1 5) (g.2.1 0) v.toNatClampNeg w.toNatClampNeg (defaultValue .int) v.toNatClampNeg j hj
    rw [hF, hTh] at this
    rw [this]
    refine congrArg some ?_
    show _ = arrV (g.2.1 0) w.toNatClampNeg (fun _ => .int 0)
    rw [← arrV_new]
    rfl
  have hout : Jvm.Free.Multi.outerC (g.2.1 5) v.toNatClampNeg H.size v.toNatClampNeg = vp_cell (g.2.1 5) (v.toNatClampNeg, .inr (.inr (.inr (.inr (fun i => if i < v.toNatClampNeg then some (H.size + 1 + i) else none))))) := by
    rw [vp_cell_q]
    exact vr_outer (g.2.1 5) v.toNatClampNeg H.size v.toNatClampNeg
  rw [hout] at f2
  have hA : va_S (fd_A g) s.heap U.heap locs := ⟨by rw [f1]; have := hS.1; omega, fun x h1 h2 => (hold x (Nat.lt_of_lt_of_le h1 hS.1)).trans (hS.2.1 x h1 h2), hS.2.2⟩
  have hWU : fd_We g (es ++ (.inl (g.2.1 5, v.toNatClampNeg, .inr (.inr (.inr (.inr fun i => if i < v.toNatClampNeg then some (g.1 + es.length + 1 + i) else none)))) :: List.replicate v.toNatClampNeg (fd_na g 0 w.toNatClampNeg))) U.heap := by
    refine hW.app hold (by rw [f1]; simp; omega) (fun k x hx => ?_)
    rw [List.getElem?_mapIdx] at hx
    cases k with
    | zero =>
      cases hx
      show U.heap[H.size + 0]? = some (vp_cell _ _)
      rw [Nat.add_zero, f2, hW.2]
    | succ k =>
      rw [List.getElem?_cons_succ, List.getElem?_replicate] at hx
      split at hx
      next hk =>
        cases hx
        show U.heap[H.size + (k + 1)]? = some (vp_cell _ _)
        rw [show H.size + (k + 1) = H.size + 1 + k by omega]
        exact hrow k hk
      next => cases hx
  have hq := kk U.heap locs ls hWU hA hl
  obtain ⟨t, a1, b1⟩ := hq U rfl X'
  refine ⟨t, step t ?_, b1⟩
  have e : T.heap.size = g.1 + es.length := by rw [hT, hW.2]
  rw [e]
  exact a1
/-- what the tables say of a field of one's own, which a constructor sets -/
def fd_Fq (own : String) (ci j : Nat) (ty : FieldType) : Prop := ∃ (C : String) (T : u_T) (N : Nat) (ty0 : Nat → FieldType), fd_cl[ci]? = some (C, T, N) ∧ (∀ k, k < N → parseFieldDescriptor (T k).2.2.1 = some (ty0 k)) ∧ (∀ a, a < N → ∀ b, b < N → a ≠ b → (T a).2.1 ≠ (T b).2.1) ∧ (T j).1 = own ∧ parseFieldDescriptor (T j).2.2.1 = some ty
def fd_Fo (own : String) (idx ci j : Nat) : Prop := ∃ (C : String) (T : u_T) (N : Nat), fd_cl[ci]? = some (C, T, N) ∧ j < N ∧ (∀ w ∈ u_ws C T N, w ∈ fd_TB) ∧ Cond.fieldLink own idx (T j).1 (T j).2.1 (T j).2.2.1 ∈ fd_TB
theorem fd_zput (F : fd_F X cc own n rt d) (Fc : fd_Fc X) {idx ci j k : Nat} {fs : List Value} {ty : FieldType} {v : Value} (hl : fd_Fo own idx ci j) (hp : fd_Fq own ci j ty) (hd : decode cc p = .ok (.putfield idx, 3)) (he : es[k]? = some (.inr (ci, fs))) (hlen : j < fs.length) (hn : narrow ty v = v) (hf : fits ty v = true) (kk : fd_Z X n Q (p + 3) st L (es.set k (.inr (ci, fs.set j v))) kc ks) : fd_Z X n Q p (v :: .ref (fd_b X + k) :: st) L es kc ks := by
  obtain ⟨g, pr, l, e, R, s, m, args, below, meth, c, cells, slots⟩ := X
  obtain ⟨hx, hb, hml, hown, hts, hK, hbs, hcl, hsl, hr, hlk, hfr, hlo⟩ := F
  obtain ⟨C, T, N, hc, hj, hin, hlk2⟩ := hl
  obtain ⟨C', T', N', ty0, hc', hty, hnm, hdecl, hpd⟩ := hp
  have hcc : (C, T, N) = (C', T', N') := Option.some.inj (hc.symm.trans hc')
  cases hcc
  intro H locs ls hW hS hL
  have hap := va_apart (own := own) hts hin ty0 hty hnm hK.1 hc
  obtain ⟨r, h1, cell, q1, q2, q3, q4⟩ := hW.1 k _ (fd_ww_at he)
  have hr : r = (C, T, N) := Option.some.inj (h1.symm.trans hc)
  subst hr
  obtain ⟨hSf, hfc, kC, hkC, hkind⟩ := hK.1.1 ci _ hc
  obtain ⟨cf, kf, fi, f, hi, hsl2⟩ := hSf j hj
  have hlay := hts _ (hin _ (u_in_lay hj))
  unfold u_lay at hlay
  have hst := (u_facts hfc hkC (u_lays hts hin hj) hi).1
  cases hfin : (T j).2.2.2 with
  | false =>
    rw [if_neg (by rw [hfin]; decide)] at hlay
    have h6 := u_store hfc hkC hkind hlay hi hpd hn hf
    refine W.putK hx hb (f := f) ⟨hown, hts _ hlk2, ⟨_, _, _, hi⟩, hst⟩ (by rw [q2]; exact h6) q1 q3 (by rw [hsl2]; exact k2_hasslot (q4 j hj)) rfl rfl hd fun H' e1 e2 e3 => ?_
    rw [hsl2] at e1 ⊢
    exact kk H' _ ls (hW.set he (hW.1.set (fd_ww_D g es) (fd_ww_at he) ⟨_, hc, t_OB.to (V := updV (vp_V fs) j v) ⟨_, e1, q2, q3, t_set q4 hap hj v⟩ (fun j9 _ => vp_updV_set hlen v j9)⟩ e3) e2) (hS.put e2 e3 ((fd_ww_D g es).2 k _ (fd_ww_at he))) hL
  | true =>
    rw [if_pos hfin] at hlay
    have hcf : m.cls = cf := by
      obtain ⟨_, _, c', _, _, _, -, -, hf', -, -, -, hown2, -⟩ := Cond.laysFinal_spec hlay
      have e1 : c' = cf := by have := hi.symm.trans hf'; simp at this; exact this.1.symm
      rw [hdecl] at hown2
      rw [← e1]; exact Option.some.inj (hown.symm.trans hown2)
    have h6 := u_fits hfc hkC hkind (Or.inr hlay) hi hpd hn hf
    refine W.putFinK hx hb hown (hts _ hlk2) hi hst hcf Fc.1 (by rw [q2]; exact h6) q1 q3 (by rw [hsl2]; exact k2_hasslot (q4 j hj)) rfl rfl hd fun H' e1 e2 e3 => ?_
    rw [hsl2] at e1 ⊢
    exact kk H' _ ls (hW.set he (hW.1.set (fd_ww_D g es) (fd_ww_at he) ⟨_, hc, t_OB.to (V := updV (vp_V fs) j v) ⟨_, e1, q2, q3, t_set q4 hap hj v⟩ (fun j9 _ => vp_updV_set hlen v j9)⟩ e3) e2) (hS.put e2 e3 ((fd_ww_D g es).2 k _ (fd_ww_at he))) hL
theorem fd_zget (F : fd_F X cc own n rt d) {idx ci j k : Nat} {fs : List Value} {v : Value} (hl : fd_Fo own idx ci j) (hd : decode cc p = .ok (.getfield idx, 3)) (he : es[k]? = some (.inr (ci, fs))) (hv : fs[j]? = some v) (kk : fd_Z X n Q (p + 3) (v :: st) L es kc ks) : fd_Z X n Q p (.ref (fd_b X + k) :: st) L es kc ks := by
  obtain ⟨g, pr, l, e, R, s, m, args, below, meth, c, cells, slots⟩ := X
  obtain ⟨hx, hb, hml, hown, hts, hK, hbs, hcl, hsl, hr, hlk, hfr, hlo⟩ := F
  obtain ⟨C, T, N, hc, hj, hin, hlk2⟩ := hl
  intro H locs ls hW hS hL
  exact va_get hx hb hts hin hown hK.1 hW.1 k (fd_ww_at he) hc j hj (hts _ hlk2) (fun _ z => z) hv hd (kk H locs ls hW hS hL)
theorem fd_zias (F : fd_F X cc own n rt d) {k N : Nat} {f : Nat → Int32} {i x : Int32} (hd : decode cc p = .ok (.iastore, 1)) (he : es[k]? = some (.inl (X.1.2.1 0, N, .inl f))) (hin : vp_in i N) (kk : fd_Z X n Q (p + 1) st L (es.set k (.inl (X.1.2.1 0, N, .inl (upd f i.toNatClampNeg x)))) kc ks) : fd_Z X n Q p (.int x :: .int i :: .ref (fd_b X + k) :: st) L es kc ks := by
  obtain ⟨g, pr, l, e, R, s, m, args, below, meth, c, cells, slots⟩ := X
  obtain ⟨hx, hb, hml, hown, hts, hK, hbs, hcl, hsl, hr, hlk, hfr, hlo⟩ := F
  intro H locs ls hW hS hL
  refine W.iast hx hb (hW.1 k _ (fd_ww_at he)) ((hK.1.2 0 _ rfl).1 N (fun j => .int (f j))) (fun q => by cases q) (by show ¬ (i < 0 ∨ (arrV _ _ _).slots.size ≤ _); rw [arrV_size]; exact hin) rfl rfl hd fun H1 e z oq => ?_
  refine kk H1 _ ls (hW.set he (hW.1.set (fd_ww_D g es) (fd_ww_at he) ?_ oq) z) (hS.put z oq ((fd_ww_D g es).2 k _ (fd_ww_at he))) hL
  show H1[_]? = some (vp_cell _ _)
  rw [e]
  rw [vp_cell_i, vp_cell_i, arrV_store]
  congr 2
  funext q
  by_cases hq : q = i.toNatClampNeg
  · simp [updV, upd, hq]
  · simp [updV, upd, hq]
theorem fd_zaas (F : fd_F X cc own n rt d) {k N kv : Nat} {vs : List Value} {f : Nat → Option Nat} {i : Int32} (hd : decode cc p = .ok (.aastore, 1)) (he : es[k]? = some (.inl (X.1.2.1 6, N, .inr (.inr (.inr (.inr f)))))) (hv : es[kv]? = some (.inr (10, vs))) (hin : vp_in i N) (kk : fd_Z X n Q (p + 1) st L (es.set k (.inl (X.1.2.1 6, N, .inr (.inr (.inr (.inr (va_up f i.toNatClampNeg (some (fd_b X + kv))))))))) kc ks) : fd_Z X n Q p (.ref (fd_b X + kv) :: .int i :: .ref (fd_b X + k) :: st) L es kc ks := by
  obtain ⟨g, pr, l, e, R, s, m, args, below, meth, c, cells, slots⟩ := X
  obtain ⟨hx, hb, hml, hown, hts, hK, hbs, hcl, hsl, hr, hlk, hfr, hlo⟩ := F
  intro H locs ls hW hS hL
  have hlt : i.toNatClampNeg < N := Nat.not_le.mp fun q => hin (Or.inr q)
  have h0 : ¬ i < 0 := fun q => hin (Or.inl q)
  obtain ⟨r', hr', cellV, g1, g2, g3, -⟩ := hW.1 kv _ (fd_ww_at hv)
  have hcls := (hK.1.1 10 _ rfl).2
  obtain ⟨kA, comp, k1, k2, k3, -⟩ := (hK.1.2 6 _ rfl).2
  have hcomp : comp = g.2.2.1.1 10 := Option.some.inj (k3.symm.trans hcls.1)
  subst hcomp
  obtain ⟨kC, hkC, -⟩ := hcls.2
  refine W.aast hx hb (hW.1 k _ (fd_ww_at he)) (fun q h => by cases h) (fun h => by cases h) k1 k2 rfl hkC ⟨h0, by show _ < (arrV _ _ _).slots.size; rw [arrV_size]; exact hlt⟩ g1 (fun q h => by rw [g3] at h; cases h) (by rw [g2]; exact hkC) (by rw [g2]; exact va_assign hcls) rfl rfl hd fun H1 e z oq => ?_
  refine kk H1 _ ls (hW.set he (hW.1.set (fd_ww_D g es) (fd_ww_at he) ?_ oq) z) (hS.put z oq ((fd_ww_D g es).2 k _ (fd_ww_at he))) hL
  show H1[_]? = some (vp_cell _ _)
  rw [e]
  rw [vp_cell_q, vp_cell_q, arrV_store]
  congr 2
  funext q
  by_cases hq : q = i.toNatClampNeg
  · subst hq
    simp [updV, va_up, va_rf]
  · simp [updV, va_up, hq]
theorem fd_zil (F : fd_F X cc own n rt d) {i : Nat} {v : Int32} {j : Fin 4} (hd : decode cc p = .ok (.iload_n j, 1)) (hi : (j : Nat) = i) (hL : L[i]? = some (.int v)) (kk : fd_Z X n Q (p + 1) (.int v :: st) L es kc ks) : fd_Z X n Q p st L es kc ks := by
  obtain ⟨g, pr, l, e, R, s, m, args, below, meth, c, cells, slots⟩ := X
  obtain ⟨hx, hb, hml, hown, hts, hK, hbs, hcl, hsl, hr, hlk, hfr, hlo⟩ := F
  intro H locs ls hW hS hl
  exact lv_iload_n hx hb hd hi (hl.2.2 i _ hL (by simp [fd_jk])) (kk H locs ls hW hS hl)
theorem fd_zis (F : fd_F X cc own n rt d) {i : Nat} {v : Int32} {j : Fin 4} (hd : decode cc p = .ok (.istore_n j, 1)) (hi : (j : Nat) = i) (hn : i < n) (kk : fd_Z X n Q (p + 1) st (fd_st1 L i (.int v)) es kc ks) : fd_Z X n Q p (.int v :: st) L es kc ks := by
  obtain ⟨g, pr, l, e, R, s, m, args, below, meth, c, cells, slots⟩ := X
  obtain ⟨hx, hb, hml, hown, hts, hK, hbs, hcl, hsl, hr, hlk, hfr, hlo⟩ := F
  intro H locs ls hW hS hl
  exact lv_istore_n hx hb hd hi hl.has hn rfl (fun ls' h' => kk H locs ls' hW hS (fd_lr_of1 (v := .int v) h'))
theorem fd_zinc (F : fd_F X cc own n rt d) {i : Nat} {u y : Int32} {z : Int} (hd : decode cc p = .ok (.iinc i z, 3)) (hy : Int32.ofInt z = y) (hn : i < n) (hL : L[i]? = some (.int u)) (kk : fd_Z X n Q (p + 3) st (fd_st1 L i (.int (u + y))) es kc ks) : fd_Z X n Q p st L es kc ks := by
  obtain ⟨g, pr, l, e, R, s, m, args, below, meth, c, cells, slots⟩ := X
  obtain ⟨hx, hb, hml, hown, hts, hK, hbs, hcl, hsl, hr, hlk, hfr, hlo⟩ := F
  intro H locs ls hW hS hl
  obtain ⟨k9, hk9⟩ := List.getElem?_of_mem (fd_al_in (b := g.1) hL (by simp [fd_jk]))
  exact lv_iinc (v := u + y) hx hb hd hl.has hk9 (by rw [hy]) hn rfl (fun ls' h' => kk H locs ls' hW hS (fd_lr_of1 (v := .int (u + y)) h'))
theorem fd_zge (F : fd_F X cc own n rt d) {x y : Int32} {off : Int} {j : Nat} (hd : decode cc p = .ok (.if_icmp .ge off, 3)) (ht : (p : Int) + off = (j : Int)) (kt : y ≤ x → fd_Z X n Q j st L es kc ks) (kf : x < y → fd_Z X n Q (p + 3) st L es kc ks) : fd_Z X n Q p (.int y :: .int x :: st) L es kc ks := by
  obtain ⟨g, pr, l, e, R, s, m, args, below, meth, c, cells, slots⟩ := X
  obtain ⟨hx, hb, hml, hown, hts, hK, hbs, hcl, hsl, hr, hlk, hfr, hlo⟩ := F
  intro H locs ls hW hS hl
  refine lv_icmp_ge hx hb hd ht (fun h => ?_) (fun h => ?_)
  · exact kt (by first | exact h | exact Int32.not_lt.mp h) H locs ls hW hS hl
  · exact kf (by first | exact h | exact Int32.not_le.mp h) H locs ls hW hS hl
theorem fd_zne (F : fd_F X cc own n rt d) {x : Int32} {off : Int} {j : Nat} (hd : decode cc p = .ok (.ifCond .ne off, 3)) (ht : (p : Int) + off = (j : Int)) (kt : x ≠ 0 → fd_Z X n Q j st L es kc ks) (kf : x = 0 → fd_Z X n Q (p + 3) st L es kc ks) : fd_Z X n Q p (.int x :: st) L es kc ks := by
  obtain ⟨g, pr, l, e, R, s, m, args, below, meth, c, cells, slots⟩ := X
  obtain ⟨hx, hb, hml, hown, hts, hK, hbs, hcl, hsl, hr, hlk, hfr, hlo⟩ := F
  intro H locs ls hW hS hl
  refine lv_if_ne hx hb hd ht (fun h => ?_) (fun h => ?_)
  · exact kt h H locs ls hW hS hl
  · exact kf (by first | exact h | exact Decidable.not_not.mp h) H locs ls hW hS hl
theorem fd_zgo (F : fd_F X cc own n rt d) {off : Int} {j : Nat} (hd : decode cc p = .ok (.goto off, 3)) (ht : (p : Int) + off = (j : Int)) (kk : fd_Z X n Q j st L es kc ks) : fd_Z X n Q p st L es kc ks := by
  obtain ⟨g, pr, l, e, R, s, m, args, below, meth, c, cells, slots⟩ := X
  obtain ⟨hx, hb, hml, hown, hts, hK, hbs, hcl, hsl, hr, hlk, hfr, hlo⟩ := F
  intro H locs ls hW hS hl
  exact lv_goto hx hb hd ht (kk H locs ls hW hS hl)
theorem fd_zrem (F : fd_F X cc own n rt d) {x y : Int32} (hd : decode cc p = .ok (.irem, 1)) (hy : y ≠ 0) (kk : fd_Z X n Q (p + 1) (.int (x - x / y * y) :: st) L es kc ks) : fd_Z X n Q p (.int y :: .int x :: st) L es kc ks := by
  obtain ⟨g, pr, l, e, R, s, m, args, below, meth, c, cells, slots⟩ := X
  obtain ⟨hx, hb, hml, hown, hts, hK, hbs, hcl, hsl, hr, hlk, hfr, hlo⟩ := F
  intro H locs ls hW hS hl
  exact lv_irem hx hb hd hy (kk H locs ls hW hS hl)
theorem fd_zldc (F : fd_F X cc own n rt d) {z : Nat} {v : Int32} (hd : decode cc p = .ok (.ldc z, 2)) (hw : Cond.constant own z v ∈ fd_TB) (kk : fd_Z X n Q (p + 2) (.int v :: st) L es kc ks) : fd_Z X n Q p st L es kc ks := by
  obtain ⟨g, pr, l, e, R, s, m, args, below, meth, c, cells, slots⟩ := X
  obtain ⟨hx, hb, hml, hown, hts, hK, hbs, hcl, hsl, hr, hlk, hfr, hlo⟩ := F
  intro H locs ls hW hS hl
  exact lv_ldc hx hb hown (hts _ hw) hd (kk H locs ls hW hS hl)
/-! a constructor's contract -/
def fd_rmI (d mc ms : Nat) : Room := { frames := d, cells := mc, slots := ms, locals := 64 * d }
def fd_PI (g : fd_G) (k : Nat) (es : List va_E) : Array Value → State → Prop := fun a U => a = #[.ref (g.1 + k)] ∧ fd_We g es U.heap ∧ fd_K g U ∧ g.1 ≤ U.heap.size ∧ fd_AO U
def fd_QI (g : fd_G) (es : List va_E) : Array Value → State → Outcome → State → Prop := fun _ st o t => o = .returned none ∧ fd_We g es t.heap ∧ va_F (fd_A g) st t
def fd_MI (X : fd_X) (es : List va_E) (mc ms : Nat) : State → Prop := match X with
  | (g, _, _, _, _, s, _, args, below, _, _, _, _) => MQ below (fd_QI g es) args s mc ms (fd_A g)
/-- the cells es, but the object k is of class ci with the fields fs, and more cells behind them -/
def fd_zs (es : List va_E) (k ci : Nat) (fs : List Value) (tl : List va_E) : List va_E := es.set k (.inr (ci, fs)) ++ tl
theorem zs_len {es : List va_E} {k ci m : Nat} {fs : List Value} {tl : List va_E} (hm : tl.length = m) : (fd_zs es k ci fs tl).length = es.length + m := by simp [fd_zs, hm]
theorem zs_app {es a : List va_E} {k ci : Nat} {fs : List Value} {tl : List va_E} : fd_zs es k ci fs tl ++ a = fd_zs es k ci fs (tl ++ a) := by simp [fd_zs]
theorem zs_at {es : List va_E} {k ci : Nat} {fs : List Value} {tl : List va_E} (hk : k < es.length) : (fd_zs es k ci fs tl)[k]? = some (.inr (ci, fs)) := by
  unfold fd_zs
  rw [List.getElem?_append_left (by simpa using hk), List.getElem?_set_self hk]
theorem zs_set {es : List va_E} {k ci c2 : Nat} {fs fs' : List Value} {tl : List va_E} (hk : k < es.length) : (fd_zs es k ci fs tl).set k (.inr (c2, fs')) = fd_zs es k c2 fs' tl := by
  unfold fd_zs
  rw [List.set_append_left _ _ (by simpa using hk), List.set_set]
theorem zs_tl {es : List va_E} {k ci j : Nat} {fs : List Value} {tl : List va_E} : (fd_zs es k ci fs tl)[es.length + j]? = tl[j]? := by
  unfold fd_zs
  rw [List.getElem?_append_right (by simp)]
  simp
theorem zs_stl {es : List va_E} {k ci j : Nat} {fs : List Value} {tl : List va_E} {e : va_E} : (fd_zs es k ci fs tl).set (es.length + j) e = fd_zs es k ci fs (tl.set j e) := by
  unfold fd_zs
  rw [List.set_append_right _ _ (by simp)]
  simp
theorem zs_of {es : List va_E} {k ci : Nat} {fs : List Value} (h : es[k]? = some (.inr (ci, fs))) : es = fd_zs es k ci fs [] := by
  unfold fd_zs
  rw [List.append_nil]
  apply List.ext_getElem?
  intro i
  rw [List.getElem?_set]
  split
  next hki => subst hki; rw [h]; rw [if_pos (List.getElem?_eq_some_iff.mp h).1]
  next => rfl
theorem zs_call {es : List va_E} {k c m ci : Nat} {fs fs' : List Value} {tl tl' : List va_E} {x : va_E} (hm : tl.length = m) : fd_zs (fd_zs es k c fs (tl ++ [x])) (es.length + m) ci fs' tl' = fd_zs es k c fs (tl ++ .inr (ci, fs') :: tl') := by
  subst hm
  rw [fd_zs, zs_stl]
  simp [fd_zs]
/-- from the cells es with the object k blank, to the cells with it made: its fields, and what lies behind -/
def fd_ConI (l : Launch) (g : fd_G) (y : MethodName) (cc : ByteArray) (n d mc ms ci : Nat) (blank : List Value) (fs : Nat → List Value) (tl : Nat → List va_E) : Prop :=
  ∀ (es : List va_E) (k : Nat), es[k]? = some (.inr (ci, blank)) → Met l y (fd_w y cc n none) (fd_rmI d mc ms) (fd_PI g k es) (fd_QI g (fd_zs es k ci (fs es.length) (tl es.length))) mc ms (fd_A g)
def fd_Yi (y : MethodName) (cc : ByteArray) (n : Nat) : Prop := Cond.instanceMethod y ∈ fd_TB ∧ Cond.initialized y.cls ∈ fd_TB ∧ Cond.code y cc n none ∈ fd_TB ∧ n ≤ 45 ∧ y.name = "<init>" ∧ y.cls ≠ "java/lang/invoke/MethodHandle" ∧ y.cls ≠ "java/lang/invoke/VarHandle" ∧ (parseMethodDescriptor y.desc).map (fun d => d.parameters.length) = some 0
theorem fd_zcall (F : fd_F X cc own n rt d) (Fc : fd_Fa X) {y : MethodName} {cy : ByteArray} {ny dy mc ms ci idx k : Nat} {blank : List Value} {fs : Nat → List Value} {tl : Nat → List va_E} (hcon : fd_ConI X.2.2.1 X.1 y cy ny dy mc ms ci blank fs tl) (hy : fd_Yi y cy ny) (hl : Cond.methodLink own idx y ∈ fd_TB ∨ ∃ host, Cond.methodLinkNest own idx y host ∈ fd_NW) (hdd : dy + 1 ≤ d) (hd : decode cc p = .ok (.invokespecial idx, 3)) (he : es[k]? = some (.inr (ci, blank))) (hst : fd_ct st ≤ 8) (hR : fd_Rm X (kc + mc) (ks + ms))
    (kk : fd_Z X n Q (p + 3) st L (fd_zs es k ci (fs es.length) (tl es.length)) (kc + mc) (ks + ms)) : fd_Z X n Q p (.ref (fd_b X + k) :: st) L es kc ks := by
  obtain ⟨g, pr, l, e, R, s, m, args, below, meth, c, cells, slots⟩ := X
  obtain ⟨hx, hb, hml, hown, hts, hK, hbs, hcl, hsl, hr, hlk, hfr, hlo⟩ := F
  obtain ⟨y1, y2, y3, y4, y5, y6, y7, y8⟩ := hy
  intro H locs ls hW hS hL
  have hpre : PreS s H (fd_PI g k es) [.ref (g.1 + k)] := ⟨fun a U g1 mk q => ⟨q.1, q.2.1, fd_K.same (u := U) (U := U.calling g1 mk a) rfl rfl q.2.2.1, q.2.2.2.1, fd_AO.moved (u := U) (U := U.calling g1 mk a) (Vm.Alike.refl U.vm) q.2.2.2.2⟩, fun U hU hWm => ⟨rfl, by rw [hU]; exact hW, fd_K.warm hWm (fun q hq => by rw [hU]; exact fd_old hS hbs hK q hq) hK, by rw [hU]; exact Nat.le_trans hbs hS.1, fd_AO.moved hWm.alike Fc⟩⟩
  have hGd : GoodIn fd_TB (fd_w y cy ny none) := fd_good (fun w hw => fd_w_in y3 w hw)
  have hgo : ∀ (hrun : va_Run pr l e R s m args below meth c H locs kc ks mc ms (F0 m p ls (.ref (g.1 + k) :: st)) st (fd_QI g (fd_zs es k ci (fs es.length) (tl es.length)) #[.ref (g.1 + k)]) (fd_A g)), W pr l e R s m args below meth c H locs kc ks Q (F0 m p ls (.ref (g.1 + k) :: st)) := by
    intro hrun T hT Xs
    obtain ⟨v, st₀, t, T', Lo, h0, X', hLo, e1, e2, ⟨ho, hWd, hz, hk⟩, stp⟩ := hrun T hT Xs
    rw [h0] at hz hk
    cases ho
    obtain ⟨t2, a1, b1⟩ := kk T'.heap (locs ++ Lo) ls (by rw [e1]; exact hWd)
      ⟨Nat.le_trans hS.1 (by rw [e1]; exact hz), fun q h1 h2 => by rw [e1, hk q (Nat.lt_of_lt_of_le h1 hS.1) h2]; exact hS.2.1 q h1 h2, fun q hq => (List.mem_append.mp hq).elim (hS.2.2 q) (hLo q)⟩ hL T' rfl X'
    exact ⟨t2, stp t2 a1, b1⟩
  rcases hl with hl | ⟨host, hl⟩
  · exact hgo (va_runI (As := []) (g := F0 m p ls (.ref (g.1 + k) :: st)) ⟨hx, hb, hml, hown, hts⟩ (hcon es k he) (cwI (own := own) (index := idx) (R := R) 0 hts hGd rfl rfl rfl (hts _ y2) (hts _ hl) (hts _ y1) y5 ⟨y6, y7, y8⟩ ⟨by show dy + 1 ≤ _; omega, by show 8 + (ny + 11) + 64 * dy ≤ _; omega⟩) hpre rfl rfl hL.1 rfl (lv_room hst) hd hR)
  · exact hgo (va_runIN (As := []) (g := F0 m p ls (.ref (g.1 + k) :: st)) ⟨hx, hb, hml, hown, hts⟩ (hcon es k he) ⟨va_cnB (own := own) (index := idx) (R := R) 0 hts hGd rfl rfl rfl (hK.2.1 _ hl) (hts _ y2) ⟨y6, y7, y8⟩ ⟨by show dy + 1 ≤ _; omega, by show 8 + (ny + 11) + 64 * dy ≤ _; omega⟩, y5, hts _ y1⟩ hpre rfl rfl hL.1 rfl (lv_room hst) hd hR)
theorem fd_zret {es' : List va_E} {mc ms : Nat} (F : fd_F X cc own n none d) (hd : decode cc p = .ok (.return_, 1)) (he : es = es') (hc : kc = mc) (hs : ks = ms) : fd_Z X n (fd_MI X es' mc ms) p [] L es kc ks := by
  subst he
  subst hc
  subst hs
  obtain ⟨g, pr, l, e, R, s, m, args, below, meth, c, cells, slots⟩ := X
  obtain ⟨hx, hb, hml, hown, hts, hK, hbs, hcl, hsl, hr, hlk, hfr, hlo⟩ := F
  intro H locs ls hW hS hL
  exact W.vret hx hb hr (fun t ht hw => ⟨rfl, by rw [ht]; exact hW, hS.F ht⟩) hS.2.2 hd hlk
/-! the same rows over such cells -/
variable {k c m : Nat} {fs : List Value} {tl : List va_E}
theorem fd_Zna (F : fd_F X cc own n rt d) (hm : tl.length = m) {t N : Nat} {at0 : ArrayType} {v : Int32} (hd : decode cc p = .ok (.newarray at0, 2)) (hw : Cond.arrayClass (newarray.typeOf at0) ∈ fd_TB) (ht : (fd_tys X.1)[t]? = some (X.1.2.1 t, newarray.typeOf at0)) (ht5 : t < 5) (hv : ¬ v < 0) (hN : v.toNatClampNeg = N) (hbytes : N * componentBytes (newarray.typeOf at0) ≤ 536870912)
    (hc : ∀ cA : ClassId, vp_cell cA (N, (if t = 4 then .inr (.inl fun _ => 0) else .inl fun _ => 0)) = arrV cA N (fun _ => defaultValue (newarray.typeOf at0))) (hR : fd_Rm X (kc + 1) (ks + N))
    (kk : fd_Z X n Q (p + 2) (.ref (fd_b X + (es.length + m)) :: st) L (fd_zs es k c fs (tl ++ [fd_na X.1 t N])) (kc + 1) (ks + N)) : fd_Z X n Q p (.int v :: st) L (fd_zs es k c fs tl) kc ks := by
  refine fd_znewa F hd hw ht ht5 hv hN hbytes hc hR ?_
  rw [zs_app, zs_len hm]
  exact kk
theorem fd_Znew (F : fd_F X cc own n rt d) (hm : tl.length = m) {C : String} {T : u_T} {N ci idx : Nat} {fs' : List Value} (hd : decode cc p = .ok (.new idx, 3)) (hin : ∀ w ∈ u_ws C T N, w ∈ fd_TB) (ty : Nat → FieldType) (hty : ∀ k, k < N → parseFieldDescriptor (T k).2.2.1 = some (ty k)) (h1 : Cond.classLink own idx C ∈ fd_TB) (h2 : Cond.instantiable C N ∈ fd_TB) (h3 : Cond.initialized C ∈ fd_TB) (hc : fd_cl[ci]? = some (C, T, N)) (hfs : ∀ j, j < N → defaultValue (ty j) = vp_V fs' j) (hR : fd_Rm X (kc + 1) (ks + N))
    (kk : fd_Z X n Q (p + 3) (.ref (fd_b X + (es.length + m)) :: st) L (fd_zs es k c fs (tl ++ [.inr (ci, fs')])) (kc + 1) (ks + N)) : fd_Z X n Q p st L (fd_zs es k c fs tl) kc ks := by
  refine fd_znew F hd hin ty hty h1 h2 h3 hc hfs hR ?_
  rw [zs_app, zs_len hm]
  exact kk
theorem fd_Zan (F : fd_F X cc own n rt d) (Fc : fd_Fc X) (hm : tl.length = m) {N idx : Nat} {v : Int32} (hd : decode cc p = .ok (.anewarray idx, 3)) (h1 : Cond.classLink own idx RX10 ∈ fd_TB) (hv : ¬ v < 0) (hN : v.toNatClampNeg = N) (hbytes : N * 4 ≤ 536870912) (hR : fd_Rm X (kc + 1) (ks + N))
    (kk : fd_Z X n Q (p + 3) (.ref (fd_b X + (es.length + m)) :: st) L (fd_zs es k c fs (tl ++ [.inl (X.1.2.1 6, N, .inr (.inr (.inr (.inr fun _ => none))))])) (kc + 1) (ks + N)) : fd_Z X n Q p (.int v :: st) L (fd_zs es k c fs tl) kc ks := by
  refine fd_zanew F Fc hd h1 hv hN hbytes hR ?_
  rw [zs_app, zs_len hm]
  exact kk
def fd_rr (g : fd_G) (o N K : Nat) : List va_E := .inl (g.2.1 5, N, .inr (.inr (.inr (.inr fun i => if i < N then some (g.1 + o + 1 + i) else none)))) :: List.replicate N (fd_na g 0 K)
theorem fd_Zmu (F : fd_F X cc own n rt d) (Fc : fd_Fc X) (hm : tl.length = m) {N K idx : Nat} {v w : Int32} (hd : decode cc p = .ok (.multianewarray idx 2, 4)) (h1 : Cond.classLink own idx ("[" ++ (FieldType.array .int).toString) ∈ fd_TB) (h2 : Cond.arrayClass .int ∈ fd_TB) (hv : ¬ v < 0) (hw : ¬ w < 0) (hN : v.toNatClampNeg = N) (hM : w.toNatClampNeg = K) (hb1 : N * 4 ≤ 536870912) (hb2 : K * componentBytes .int ≤ 536870912) (hb3 : K ≤ 536870912) (hR : fd_Rm X (kc + (1 + N)) (ks + (N + N * K)))
    (kk : fd_Z X n Q (p + 4) (.ref (fd_b X + (es.length + m)) :: st) L (fd_zs es k c fs (tl ++ fd_rr X.1 (es.length + m) N K)) (kc + 1 + N) (ks + N + N * K)) : fd_Z X n Q p (.int w :: .int v :: st) L (fd_zs es k c fs tl) kc ks := by
  refine fd_zmul F Fc hd h1 h2 hv hw hN hM hb1 hb2 hb3 hR ?_
  rw [zs_app, zs_len hm]
  exact kk
theorem fd_Zpu (F : fd_F X cc own n rt d) (Fc : fd_Fc X) (hk : k < es.length) {idx j : Nat} {ty : FieldType} {v : Value} (hl : fd_Fo own idx c j) (hp : fd_Fq own c j ty) (hd : decode cc p = .ok (.putfield idx, 3)) (hlen : j < fs.length) (hn : narrow ty v = v) (hf : fits ty v = true) (kk : fd_Z X n Q (p + 3) st L (fd_zs es k c (fs.set j v) tl) kc ks) : fd_Z X n Q p (v :: .ref (fd_b X + k) :: st) L (fd_zs es k c fs tl) kc ks := by
  refine fd_zput F Fc hl hp hd (zs_at hk) hlen hn hf ?_
  rw [zs_set hk]
  exact kk
theorem fd_Zpv (F : fd_F X cc own n rt d) (Fc : fd_Fc X) (hk : k < es.length) {idx j : Nat} {ty : FieldType} {v : Value} {fs' : List Value} (hl : fd_Fo own idx c j) (hp : fd_Fq own c j ty) (hd : decode cc p = .ok (.putfield idx, 3)) (hlen : j < fs.length) (hn : narrow ty v = v) (hf : fits ty v = true) (hfs : fs.set j v = fs') (kk : fd_Z X n Q (p + 3) st L (fd_zs es k c fs' tl) kc ks) : fd_Z X n Q p (v :: .ref (fd_b X + k) :: st) L (fd_zs es k c fs tl) kc ks := by
  subst hfs
  exact fd_Zpu F Fc hk hl hp hd hlen hn hf kk
theorem fd_Zca (F : fd_F X cc own n rt d) (Fc : fd_Fa X) (hm : tl.length = m) {y : MethodName} {cy : ByteArray} {ny dy mc ms ci idx : Nat} {blank : List Value} {fs' : Nat → List Value} {tl' : Nat → List va_E} (hcon : fd_ConI X.2.2.1 X.1 y cy ny dy mc ms ci blank fs' tl') (hy : fd_Yi y cy ny) (hl : Cond.methodLink own idx y ∈ fd_TB ∨ ∃ host, Cond.methodLinkNest own idx y host ∈ fd_NW) (hdd : dy + 1 ≤ d) (hd : decode cc p = .ok (.invokespecial idx, 3)) (hst : fd_ct st ≤ 8) (hR : fd_Rm X (kc + mc) (ks + ms))
    (kk : fd_Z X n Q (p + 3) st L (fd_zs es k c fs (tl ++ .inr (ci, fs' (es.length + (m + 1))) :: tl' (es.length + (m + 1)))) (kc + mc) (ks + ms)) : fd_Z X n Q p (.ref (fd_b X + (es.length + m)) :: st) L (fd_zs es k c fs (tl ++ [.inr (ci, blank)])) kc ks := by
  refine fd_zcall F Fc hcon hy hl hdd hd (by rw [zs_tl, List.getElem?_append_right (by omega), hm]; simp) hst hR ?_
  rw [zs_call hm, zs_len (m := m + 1) (by simp [hm])]
  exact kk
theorem fd_Zin (F : fd_F X cc own n rt d) {i : Nat} {u y v : Int32} {z : Int} (hd : decode cc p = .ok (.iinc i z, 3)) (hy : Int32.ofInt z = y) (hn : i < n) (hL : L[i]? = some (.int u)) (hv : u + y = v) (kk : fd_Z X n Q (p + 3) st (fd_st1 L i (.int v)) es kc ks) : fd_Z X n Q p st L es kc ks := by
  subst hv
  exact fd_zinc F hd hy hn hL kk
theorem fd_Zaa (F : fd_F X cc own n rt d) {a j N : Nat} {vs : List Value} {f : Nat → Option Nat} {i : Int32} (hd : decode cc p = .ok (.aastore, 1)) (he : tl[a]? = some (.inl (X.1.2.1 6, N, .inr (.inr (.inr (.inr f)))))) (hv : tl[j]? = some (.inr (10, vs))) (hin : vp_in i N) (kk : fd_Z X n Q (p + 1) st L (fd_zs es k c fs (tl.set a (.inl (X.1.2.1 6, N, .inr (.inr (.inr (.inr (va_up f i.toNatClampNeg (some (fd_b X + (es.length + j))))))))))) kc ks) : fd_Z X n Q p (.ref (fd_b X + (es.length + j)) :: .int i :: .ref (fd_b X + (es.length + a)) :: st) L (fd_zs es k c fs tl) kc ks := by
  refine fd_zaas F hd (by rw [zs_tl]; exact he) (by rw [zs_tl]; exact hv) hin ?_
  rw [zs_stl]
  exact kk
theorem fd_Zia (F : fd_F X cc own n rt d) {a N : Nat} {f : Nat → Int32} {i x : Int32} (hd : decode cc p = .ok (.iastore, 1)) (he : tl[a]? = some (.inl (X.1.2.1 0, N, .inl f))) (hin : vp_in i N) (kk : fd_Z X n Q (p + 1) st L (fd_zs es k c fs (tl.set a (.inl (X.1.2.1 0, N, .inl (upd f i.toNatClampNeg x))))) kc ks) : fd_Z X n Q p (.int x :: .int i :: .ref (fd_b X + (es.length + a)) :: st) L (fd_zs es k c fs tl) kc ks := by
  refine fd_zias F hd (by rw [zs_tl]; exact he) hin ?_
  rw [zs_stl]
  exact kk
theorem fd_mkI {l : Launch} {g : fd_G} {y : MethodName} {cy : ByteArray} {ny dy mc ms ci : Nat} {blank : List Value} {fs' : Nat → List Value} {tl' : Nat → List va_E} (hy : plainName y.cls = true) (hyn : y.name = "<init>") (hn1 : 1 ≤ ny)
    (hbd : ∀ (X : fd_X) (es : List va_E) (k : Nat), X.1 = g → X.2.2.1 = l → k < es.length → fd_F X cy y.cls ny none dy → fd_Fc X → (∀ a b, a ≤ mc → b ≤ ms → fd_Rm X a b) → fd_Z X ny (fd_MI X (fd_zs es k ci (fs' es.length) (tl' es.length)) mc ms) 0 [] (.ref k :: List.replicate (ny - 1) fd_jk) (fd_zs es k ci blank []) 0 0) : fd_ConI l g y cy ny dy mc ms ci blank fs' tl' := by
  intro es k he
  refine Met.ofW (cc := cy) (maxL := ny) (ret := none) hy rfl ?_
  intro p e s m args below meth c s₁ B hml hv
  obtain ⟨hargs, hWd, hK, hbs, hAO⟩ := hv
  subst hargs
  have hts := atoms_spec (ws := fd_w y cy ny none) B.pre
  have hown : s.vm.findClass y.cls = some m.cls := findClass_of_methodNamed B.named
  have hin : meth.name = "<init>" := ((name_of_methodNamed B.named B.method).1).trans hyn
  have F : fd_F (g, p, l, e, (headSpec (fd_w y cy ny none) (fd_rmI dy mc ms)).room, s, m, #[.ref (g.1 + k)], below, meth, c, 0, 0) cy y.cls ny none dy := ⟨B.exec, B.bytes, hml, hown, fun w hw => hts w (List.mem_cons_of_mem _ hw), hK, hbs, Nat.zero_le _, Nat.zero_le _, B.returns, B.notSynchronized, Nat.le_refl _, Nat.le_refl _⟩
  rw [lg_entry_eq]
  have hz := zs_of he
  have hl0 := fd_in0_ok g.1 ny [.ref k] (by rw [fd_lg_len]; show 1 ≤ ny; omega)
  have := hbd _ es k rfl rfl (List.getElem?_eq_some_iff.mp he).1 F ⟨hin, hAO⟩ (fun a b ha hb => ⟨ha, hb⟩)
  exact this s.heap [] _ (by rw [← hz]; exact hWd) va_S.rf hl0
end FDZ
