/-! ===== the law's three helpers, which catch ===== -/
section FDY
variable {n d : Nat} {Q : State → Prop} {cc : ByteArray} {own : String} {rt : Option FieldType} {k p q r : Nat}
theorem fd_rcx {g : fd_G} {pr : Program} {l : Launch} {e : Env} {R : Room} {s : State} {m : MethodId} {args : Array Value} {below : List Frame} {meth : Method} {c : Code} (F : fd_F (g, pr, l, e, R, s, m, args, below, meth, c, 0, 0) cc own n rt d) {y : MethodName} {cy : ByteArray} {ny dy na idx ci ko : Nat} {ry : Option FieldType} {C : String} {T : u_T} {N : Nat} {f : List Value → fd_M → Option (Value × fd_M)} {st as : List Value} {σ : fd_S} {z : Value × fd_M} (hcon : fd_ConX l g y cy ny ry dy f) (hy : fd_Yv y cy ny ry C na) (hl : Cond.methodLink own idx y ∈ fd_TB) (hdd : dy + 1 ≤ d) (hR : 1 ≤ R.cells ∧ 6 ≤ R.slots) (hc : fd_cl[ci]? = some (C, T, N)) (hd : decode cc p = .ok (.invokevirtual idx, 3))
    (hst : fd_ct st ≤ 8) (ho : fd_isO ko ci = true) (hlen : as.length = na) (he : f (.ref ko :: as) σ.2 = some z) (x : ExceptionTableEntry) (htab : c.exceptionTable.toList = [x]) (hcov : covers x p = true) (h0 : x.catchType ≠ 0) (hlink : Cond.classLink own x.catchType "java/util/NoSuchElementException" ∈ fd_TB) 
    (kr : z.1 ≠ .null → fd_W (g, pr, l, e, R, s, m, args, below, meth, c, 1, 6) n Q (p + 3) (fd_re g.1 z.1 :: st) (σ.1, z.2)) (kx : z.1 = .null → ∀ q9 : Nat, fd_W (g, pr, l, e, R, s, m, args, below, meth, c, 1, 6) n Q x.handlerPc [.ref q9] (σ.1, z.2)) : fd_W (g, pr, l, e, R, s, m, args, below, meth, c, 0, 0) n Q p ((as.map (fd_re g.1)).reverse ++ .ref (g.1 + ko) :: st) σ := by
  obtain ⟨hx, hb, hml, hown, hts, hK, hbs, hcl, hsl, hr, hlk, hfr, hlo⟩ := F
  obtain ⟨y1, y2, y3, y4, y5, y6, y7, y8, y9⟩ := hy
  obtain ⟨h1, h2, h3⟩ := fd_isO_of ho
  intro H locs ls hW hS hL
  have he0 : (fd_ws g σ.2)[ko]? = some (g.1 + ko, .inr (ci, fd_fs g σ.2 ko)) := (fd_ws_at h1).trans (by rw [fd_ce_obj h2 h3])
  have hrun := vx_runV (e := e) (below := below) (meth := meth) (H := H) (locs := locs) (cells := 0) (slots := 0) (mc := 1) (ms := 6) (b := g.1 + ko) (As := as.map (fd_re g.1)) (rest := st) (g := F0 m p ls ((as.map (fd_re g.1)).reverse ++ .ref (g.1 + ko) :: st)) ⟨hx, hb, hml, hown, hts⟩ (hcon _ _ _ he)
    (cwV (own := own) (C := C) (index := idx) (R := R) na hts (fd_good (fun w hw => by
      rcases List.mem_append.mp hw with hw | hw
      · rcases List.mem_cons.mp hw with rfl | hw
        · exact hl
        rcases List.mem_cons.mp hw with rfl | hw
        · exact y1
        rcases List.mem_cons.mp hw with rfl | hw
        · exact y2
        rcases List.mem_cons.mp hw with rfl | hw
        · exact y3
        · cases hw
      · exact fd_w_in y4 w hw)) rfl rfl rfl ⟨y6, y7, y8, y9⟩ ⟨by show dy + 1 ≤ _; omega, by show 8 + (ny + 11) + 64 * dy ≤ _; omega⟩)
    ⟨fd_blind, va_recv hK.1 hW hc he0, fun U hU hWm => ⟨rfl, by rw [hU]; exact hW, fd_K.warm hWm (fun q hq => by rw [hU]; exact fd_old hS hbs hK q hq) hK, by rw [hU]; exact Nat.le_trans hbs hS.1⟩⟩ rfl (by rw [List.length_map]; exact hlen) hL.1 rfl (lv_room hst) hd ⟨by omega, by omega⟩
  have keep : ∀ {st₀ t T' : State} {Lo : List Loc}, st₀.heap = H → T'.heap = t.heap → va_F (fd_A g) st₀ t → (∀ q ∈ Lo, fd_A g q.base) → va_S (fd_A g) s.heap T'.heap (locs ++ Lo) := by
    intro st₀ t T' Lo a1 a2 a3 a4
    rw [a2]
    obtain ⟨hz, hk⟩ := a3
    rw [a1] at hz hk
    exact ⟨Nat.le_trans hS.1 hz, fun q h1 h2 => by rw [hk q (Nat.lt_of_lt_of_le h1 hS.1) h2]; exact hS.2.1 q h1 h2, fun q hq => (List.mem_append.mp hq).elim (hS.2.2 q) (a4 q)⟩
  intro T hT Xs
  rcases hrun T hT Xs with ⟨v, st₀, t, T', Lo, b0, X', hLo, e1, e2, ⟨hnn, ho, hWd, hz⟩, stp⟩ | ⟨q, st₀, t, T', Lo, E, ce, b0, X', hLo, e1, e2, ⟨hE, hnull, hWd, hz⟩, hcell, hv, hcls, stp⟩
  · cases ho
    obtain ⟨t2, a1, b1⟩ := kr hnn T'.heap (locs ++ Lo) ls (by rw [e1]; exact hWd) (keep b0 e1 hz hLo) hL T' rfl X'
    exact ⟨t2, stp t2 a1, b1⟩
  · subst hE
    have hcat := vx_catch (pc := p) (ls := ls) (rest := st) (Q := Q) (p := pr) (l := l) (e := e) (R := R) (s := s) (m := m) (args := args) (below := below) (meth := meth) (c := c) (H := T'.heap) (locs := locs ++ Lo) (cells := 1) (slots := 6) hown [] x [] htab (fun z hz => by cases hz) hcov h0 (hts _ hlink) (va_Nw.use rfl (hK.2.1 _ th_cs)) (by rw [e1]; exact hcell) hv hcls (kx hnull q T'.heap (locs ++ Lo) ls (by rw [e1]; exact hWd) (keep b0 e1 hz hLo) hL)
    obtain ⟨t2, a1, b1⟩ := hcat T' rfl X'
    exact ⟨t2, Steps.trans stp a1, b1⟩
theorem fd_rlast {X : fd_X} (F : fd_F X cc own n rt d) {a : Nat} {i : Int32} {x : Int64} {st : List Value} {σ : fd_S} (hd : decode cc p = .ok (.lastore, 1)) (h : fd_isL a i = true) (kk : fd_W X n Q (p + 1) st (σ.1, fd_uL σ.2 a i.toNatClampNeg x)) : fd_W X n Q p (.long x :: .int i :: .ref (fd_b X + a) :: st) σ := by
  obtain ⟨h5, h6, h7, h8⟩ := fd_isL_of h
  obtain ⟨g, pr, l, e, R, s, m, args, below, meth, c, cells, slots⟩ := X
  obtain ⟨hx, hb, hml, hown, hts, hK, hbs, hcl, hsl, hr, hlk, hfr, hlo⟩ := F
  intro H locs ls hW hS hL
  refine va_last hx hb hK.1 hW (fd_D_ok g _) hS a 4 ((fd_ws_at h5).trans (by rw [fd_ce_arl h6 h7])) rfl h8 hd ?_
  intro H1 locs1 hP1 hD1 hS1
  refine kk H1 locs1 ls ?_ hS1 hL
  show va_P _ _ _ _
  rw [← fd_ws_set (k := a) (M := σ.2) (e := fd_ce g (fd_uL σ.2 a i.toNatClampNeg x) a) rfl (fun j hj => fd_ceL_ne hj), fd_ce_arl h6 h7, fd_uL_row]
  exact hP1
/-- the caught exception is laid aside -/
theorem fd_rcat {X : fd_X} (F : fd_F X cc own n rt d) {i q9 : Nat} {σ : fd_S} (hd : decode cc p = .ok (.astore i, 2)) (hn : i < n) (kk : fd_W X n Q (p + 2) [] (fd_st1 σ.1 i (.retAddr (q9 + 1)), σ.2)) : fd_W X n Q p [.ref q9] σ := by
  obtain ⟨g, pr, l, e, R, s, m, args, below, meth, c, cells, slots⟩ := X
  obtain ⟨hx, hb, hml, hown, hts, hK, hbs, hcl, hsl, hr, hlk, hfr, hlo⟩ := F
  intro H locs ls hW hS hL
  exact lv_astore hx hb hd hL.has hn rfl (fun ls' h' => kk H locs ls' hW hS (fd_lr_of1 (v := .retAddr (q9 + 1)) h'))
theorem fd_rcat_n {X : fd_X} (F : fd_F X cc own n rt d) {i q9 : Nat} {j : Fin 4} {σ : fd_S} (hd : decode cc p = .ok (.astore_n j, 1)) (hi : (j : Nat) = i) (hn : i < n) (kk : fd_W X n Q (p + 1) [] (fd_st1 σ.1 i (.retAddr (q9 + 1)), σ.2)) : fd_W X n Q p [.ref q9] σ := by
  obtain ⟨g, pr, l, e, R, s, m, args, below, meth, c, cells, slots⟩ := X
  obtain ⟨hx, hb, hml, hown, hts, hK, hbs, hcl, hsl, hr, hlk, hfr, hlo⟩ := F
  intro H locs ls hW hS hL
  exact lv_astore_n hx hb hd hi hL.has hn rfl (fun ls' h' => kk H locs ls' hW hS (fd_lr_of1 (v := .retAddr (q9 + 1)) h'))
theorem fd_ofWH {l : Launch} {y : MethodName} {ws ws' : List Cond} {rm : Room} {Pc : Array Value → State → Prop} {Qc : Array Value → State → Outcome → State → Prop} {mc ms : Nat} {free : Addr → Prop} {cc : ByteArray} {maxL : Nat} {ret : Option FieldType} {hh : List (Nat × Nat × Nat × Nat)}
    (hy : plainName y.cls = true) (hw : ws = Cond.codeWith y cc maxL ret hh :: ws')
    (body : ∀ p e s m args below meth c s₁, BodyLoose p l y (headSpec ws rm) cc maxL ret e s m args below meth c s₁ → c.maxLocals = maxL → Pc args s →
      W p l e (headSpec ws rm).room s m args below meth c s.heap [] 0 0 (MQ below Qc args s mc ms free) (entryFrame m args maxL)) : Met l y ws rm Pc Qc mc ms free := by
  refine MetFree.of_bodyS (code := cc) (maxLocals := maxL) (ret := ret) hy ?_ ?_
  · intro args s m h hn
    obtain ⟨m9, meth, c, hn9, h1, h2, h3, h4, -, h5, h6, -⟩ := Cond.codeWith_spec (atoms_spec (ws := ws) h _ (by rw [hw]; exact List.mem_cons_self))
    cases hn.symm.trans hn9
    exact ⟨meth, c, h1, h2, h3, h4, h5, h6⟩
  · intro p e s m args below meth c s₁ B hml hP _
    have hh0 : s₁.heap = s.heap := by rw [B.state]; rfl
    obtain ⟨t, a1, o, b1, b2, b3⟩ := body p e s m args below meth c s₁ B hml hP s₁ hh0 (Stand.of_body B)
    exact ⟨t, o, a1, b1, b2, ⟨b3.1, b3.2⟩⟩
def fd_wH (y : MethodName) (cc : ByteArray) (n : Nat) (rt : Option FieldType) (hh : List (Nat × Nat × Nat × Nat)) : List Cond := .codeWith y cc n rt hh :: fd_TB
def fd_ConW (l : Launch) (g : fd_G) (y : MethodName) (cc : ByteArray) (n : Nat) (rt : Option FieldType) (hh : List (Nat × Nat × Nat × Nat)) (d : Nat) (f : List Value → fd_M → Option (Value × fd_M)) : Prop :=
  ∀ (av : List Value) (M : fd_M) (z : Value × fd_M), f av M = some z → Met l y (fd_wH y cc n rt hh) (fd_rmX d) (fd_Pc g av M) (fd_Qc g 1 z) 1 6 (fd_A g)
def w_out (f : List Value → fd_M → Option (Value × fd_M)) (av : List Value) (M : fd_M) : Option (Value × fd_M) := (f av M).bind fun z => match z.1 with
  | .null => some (.int 1, z.2)
  | .int v => some (.int 0, fd_uL z.2 217 0 v.toInt64)
  | _ => none
def w_outl (f : List Value → fd_M → Option (Value × fd_M)) (av : List Value) (M : fd_M) : Option (Value × fd_M) := (f av M).bind fun z => match z.1 with
  | .null => some (.int 1, z.2)
  | .long v => some (.int 0, fd_uL z.2 217 0 v)
  | _ => none
theorem ml_L_7 : Cond.methodLink RL 7 yX11_village ∈ fd_TB := fd_tbi 1313 (by decide +kernel) rfl
theorem ml_L_15 : Cond.methodLink RL 15 yX11_feast ∈ fd_TB := fd_tbi 1387 (by decide +kernel) rfl
theorem ml_L_18 : Cond.methodLink RL 18 yX11_row ∈ fd_TB := fd_tbi 1395 (by decide +kernel) rfl
theorem cl_L : Cond.classLink RL 13 "java/util/NoSuchElementException" ∈ fd_TB := fd_tbi 1312 (by decide +kernel) rfl
def w_village (av : List Value) (M : fd_M) : Option (Value × fd_M) := match av with
  | [.ref x, .int a, .int b, .ref o] => if x = 0 ∧ o = 217 then w_out m_X11_village [.ref 0, .int a, .int b] M else none
  | _ => none
theorem c_L_village (l : Launch) (hfl : l.stackTraces = false) (g : fd_G) : fd_ConW l g yL_village cL_village 5 (some .int) [(0, 10, 13, 13)] 13 w_village := by
  intro av M z hf
  obtain ⟨a, b, rfl, hf⟩ : ∃ a b, av = [.ref 0, .int a, .int b, .ref 217] ∧ w_out m_X11_village [.ref 0, .int a, .int b] M = some z := by
    unfold w_village at hf
    split at hf
    next x a b o =>
      obtain ⟨⟨rfl, rfl⟩, h⟩ := fd_if_of hf
      exact ⟨a, b, rfl, h⟩
    next => cases hf
  obtain ⟨z1, h1, h2⟩ := fd_bind_of hf
  refine fd_ofWH (cc := cL_village) (maxL := 5) (ret := some .int) (by decide) rfl ?_
  intro p e s m args below meth c s₁ B hml hv
  obtain ⟨hargs, hWd, hK, hbs⟩ := hv
  subst hargs
  have hts := atoms_spec (ws := fd_wH yL_village cL_village 5 (some .int) [(0, 10, 13, 13)]) B.pre
  have hown : s.vm.findClass RL = some m.cls := findClass_of_methodNamed B.named
  have htab : c.exceptionTable.toList = [⟨0, 10, 13, 13⟩] := vx_table (x := yL_village) B (hts _ List.mem_cons_self)
  have F0 : fd_F (g, p, l, e, (headSpec (fd_wH yL_village cL_village 5 (some .int) [(0, 10, 13, 13)]) (fd_rmX 13)).room, s, m, (([.ref 0, .int a, .int b, .ref 217] : List Value).map (fd_re g.1)).toArray, below, meth, c, 0, 0) cL_village RL 5 (some .int) 13 := ⟨B.exec, B.bytes, hml, hown, fun w hw => hts w (List.mem_cons_of_mem _ hw), hK, hbs, Nat.zero_le _, Nat.zero_le _, B.returns, B.notSynchronized, Nat.le_refl _, Nat.le_refl _⟩
  have F1 : fd_F (g, p, l, e, (headSpec (fd_wH yL_village cL_village 5 (some .int) [(0, 10, 13, 13)]) (fd_rmX 13)).room, s, m, (([.ref 0, .int a, .int b, .ref 217] : List Value).map (fd_re g.1)).toArray, below, meth, c, 1, 6) cL_village RL 5 (some .int) 13 := ⟨B.exec, B.bytes, hml, hown, fun w hw => hts w (List.mem_cons_of_mem _ hw), hK, hbs, Nat.le_refl 1, Nat.le_refl 6, B.returns, B.notSynchronized, Nat.le_refl _, Nat.le_refl _⟩
  have hlr := fd_in0_ok g.1 5 [.ref 0, .int a, .int b, .ref 217] (Nat.le_of_ble_eq_true rfl)
  rw [lg_entry_eq]
  obtain ⟨v1, M1⟩ := z1
  have body : fd_W (g, p, l, e, (headSpec (fd_wH yL_village cL_village 5 (some .int) [(0, 10, 13, 13)]) (fd_rmX 13)).room, s, m, (([.ref 0, .int a, .int b, .ref 217] : List Value).map (fd_re g.1)).toArray, below, meth, c, 0, 0) 5 (fd_MQ (g, p, l, e, (headSpec (fd_wH yL_village cL_village 5 (some .int) [(0, 10, 13, 13)]) (fd_rmX 13)).room, s, m, (([.ref 0, .int a, .int b, .ref 217] : List Value).map (fd_re g.1)).toArray, below, meth, c, 1, 6) 1 z) 0 [] ([.ref 0, .int a, .int b, .ref 217, fd_jk], M) := by
    refine fd_aload_n (i := 3) (k := 8) F0 dL_village_0 rfl [] _ _ 217 (Nat.le_of_ble_eq_true rfl) rfl ?_
    refine fd_iconst (v := 0) (k := 8) F0 dL_village_1 ki_0 _ _ _ 0 (Nat.le_of_ble_eq_true rfl) rfl ?_
    refine fd_aload_n (i := 0) (k := 8) F0 dL_village_2 rfl _ _ _ 0 (Nat.le_of_ble_eq_true rfl) rfl ?_
    refine fd_iload_n (i := 1) (k := 8) F0 dL_village_3 rfl _ _ _ a (Nat.le_of_ble_eq_true rfl) rfl ?_
    refine fd_iload_n (i := 2) (k := 8) F0 dL_village_4 rfl _ _ _ b (Nat.le_of_ble_eq_true rfl) rfl ?_
    refine fd_rcx (st := [.int 0, .ref (g.1 + 217)]) (as := [.int a, .int b]) F0 (c_X11_village l hfl g) yv_X11_village ml_L_7 (by omega) ⟨Nat.le_refl 1, Nat.le_refl 6⟩ cl11 dL_village_5 (Nat.le_of_ble_eq_true rfl) rfl rfl h1 ⟨0, 10, 13, 13⟩ htab rfl (by decide) cl_L (fun hnn => ?_) (fun hnull q9 => ?_)
    · cases v1 with
      | int v =>
        cases h2
        refine fd_o_i2l F1 dL_village_8 _ _ v ?_
        refine fd_rlast F1 dL_village_9 rfl ?_
        refine fd_go (q := 17) F1 dL_village_10 rfl _ _ ?_
        exact fd_srI (r := 0) (qb := 0) (qc := 0) F1 (fd_iconst (v := 0) F1 dL_village_17 ki_0) dL_village_18 _ _ 1 (.int 0) rfl (by unfold fd_Ex; rw [if_neg (by decide), if_pos rfl]; rfl)
      | null => exact absurd rfl hnn
      | long v => cases h2
      | float v => cases h2
      | double v => cases h2
      | ref v => cases h2
      | retAddr v => cases h2
    · dsimp only at hnull
      subst hnull
      cases h2
      refine fd_rcat (i := 4) F1 dL_village_13 (by decide) ?_
      exact fd_srI (r := 0) (qb := 0) (qc := 0) F1 (fd_iconst (v := 1) F1 dL_village_15 ki_1) dL_village_16 _ _ 1 (.int 1) rfl (by unfold fd_Ex; rw [if_neg (by decide), if_pos rfl])
  exact body s.heap [] _ hWd va_S.rf hlr
def w_feast (av : List Value) (M : fd_M) : Option (Value × fd_M) := match av with
  | [.ref x, .int a, .int b, .ref o] => if x = 0 ∧ o = 217 then w_out m_X11_feast [.ref 0, .int a, .int b] M else none
  | _ => none
theorem c_L_feast (l : Launch) (hfl : l.stackTraces = false) (g : fd_G) : fd_ConW l g yL_feast cL_feast 5 (some .int) [(0, 10, 13, 13)] 13 w_feast := by
  intro av M z hf
  obtain ⟨a, b, rfl, hf⟩ : ∃ a b, av = [.ref 0, .int a, .int b, .ref 217] ∧ w_out m_X11_feast [.ref 0, .int a, .int b] M = some z := by
    unfold w_feast at hf
    split at hf
    next x a b o =>
      obtain ⟨⟨rfl, rfl⟩, h⟩ := fd_if_of hf
      exact ⟨a, b, rfl, h⟩
    next => cases hf
  obtain ⟨z1, h1, h2⟩ := fd_bind_of hf
  refine fd_ofWH (cc := cL_feast) (maxL := 5) (ret := some .int) (by decide) rfl ?_
  intro p e s m args below meth c s₁ B hml hv
  obtain ⟨hargs, hWd, hK, hbs⟩ := hv
  subst hargs
  have hts := atoms_spec (ws := fd_wH yL_feast cL_feast 5 (some .int) [(0, 10, 13, 13)]) B.pre
  have hown : s.vm.findClass RL = some m.cls := findClass_of_methodNamed B.named
  have htab : c.exceptionTable.toList = [⟨0, 10, 13, 13⟩] := vx_table (x := yL_feast) B (hts _ List.mem_cons_self)
  have F0 : fd_F (g, p, l, e, (headSpec (fd_wH yL_feast cL_feast 5 (some .int) [(0, 10, 13, 13)]) (fd_rmX 13)).room, s, m, (([.ref 0, .int a, .int b, .ref 217] : List Value).map (fd_re g.1)).toArray, below, meth, c, 0, 0) cL_feast RL 5 (some .int) 13 := ⟨B.exec, B.bytes, hml, hown, fun w hw => hts w (List.mem_cons_of_mem _ hw), hK, hbs, Nat.zero_le _, Nat.zero_le _, B.returns, B.notSynchronized, Nat.le_refl _, Nat.le_refl _⟩
  have F1 : fd_F (g, p, l, e, (headSpec (fd_wH yL_feast cL_feast 5 (some .int) [(0, 10, 13, 13)]) (fd_rmX 13)).room, s, m, (([.ref 0, .int a, .int b, .ref 217] : List Value).map (fd_re g.1)).toArray, below, meth, c, 1, 6) cL_feast RL 5 (some .int) 13 := ⟨B.exec, B.bytes, hml, hown, fun w hw => hts w (List.mem_cons_of_mem _ hw), hK, hbs, Nat.le_refl 1, Nat.le_refl 6, B.returns, B.notSynchronized, Nat.le_refl _, Nat.le_refl _⟩
  have hlr := fd_in0_ok g.1 5 [.ref 0, .int a, .int b, .ref 217] (Nat.le_of_ble_eq_true rfl)
  rw [lg_entry_eq]
  obtain ⟨v1, M1⟩ := z1
  have body : fd_W (g, p, l, e, (headSpec (fd_wH yL_feast cL_feast 5 (some .int) [(0, 10, 13, 13)]) (fd_rmX 13)).room, s, m, (([.ref 0, .int a, .int b, .ref 217] : List Value).map (fd_re g.1)).toArray, below, meth, c, 0, 0) 5 (fd_MQ (g, p, l, e, (headSpec (fd_wH yL_feast cL_feast 5 (some .int) [(0, 10, 13, 13)]) (fd_rmX 13)).room, s, m, (([.ref 0, .int a, .int b, .ref 217] : List Value).map (fd_re g.1)).toArray, below, meth, c, 1, 6) 1 z) 0 [] ([.ref 0, .int a, .int b, .ref 217, fd_jk], M) := by
    refine fd_aload_n (i := 3) (k := 8) F0 dL_feast_0 rfl [] _ _ 217 (Nat.le_of_ble_eq_true rfl) rfl ?_
    refine fd_iconst (v := 0) (k := 8) F0 dL_feast_1 ki_0 _ _ _ 0 (Nat.le_of_ble_eq_true rfl) rfl ?_
    refine fd_aload_n (i := 0) (k := 8) F0 dL_feast_2 rfl _ _ _ 0 (Nat.le_of_ble_eq_true rfl) rfl ?_
    refine fd_iload_n (i := 1) (k := 8) F0 dL_feast_3 rfl _ _ _ a (Nat.le_of_ble_eq_true rfl) rfl ?_
    refine fd_iload_n (i := 2) (k := 8) F0 dL_feast_4 rfl _ _ _ b (Nat.le_of_ble_eq_true rfl) rfl ?_
    refine fd_rcx (st := [.int 0, .ref (g.1 + 217)]) (as := [.int a, .int b]) F0 (c_X11_feast l hfl g) yv_X11_feast ml_L_15 (by omega) ⟨Nat.le_refl 1, Nat.le_refl 6⟩ cl11 dL_feast_5 (Nat.le_of_ble_eq_true rfl) rfl rfl h1 ⟨0, 10, 13, 13⟩ htab rfl (by decide) cl_L (fun hnn => ?_) (fun hnull q9 => ?_)
    · cases v1 with
      | int v =>
        cases h2
        refine fd_o_i2l F1 dL_feast_8 _ _ v ?_
        refine fd_rlast F1 dL_feast_9 rfl ?_
        refine fd_go (q := 17) F1 dL_feast_10 rfl _ _ ?_
        exact fd_srI (r := 0) (qb := 0) (qc := 0) F1 (fd_iconst (v := 0) F1 dL_feast_17 ki_0) dL_feast_18 _ _ 1 (.int 0) rfl (by unfold fd_Ex; rw [if_neg (by decide), if_pos rfl]; rfl)
      | null => exact absurd rfl hnn
      | long v => cases h2
      | float v => cases h2
      | double v => cases h2
      | ref v => cases h2
      | retAddr v => cases h2
    · dsimp only at hnull
      subst hnull
      cases h2
      refine fd_rcat (i := 4) F1 dL_feast_13 (by decide) ?_
      exact fd_srI (r := 0) (qb := 0) (qc := 0) F1 (fd_iconst (v := 1) F1 dL_feast_15 ki_1) dL_feast_16 _ _ 1 (.int 1) rfl (by unfold fd_Ex; rw [if_neg (by decide), if_pos rfl])
  exact body s.heap [] _ hWd va_S.rf hlr
def w_row (av : List Value) (M : fd_M) : Option (Value × fd_M) := match av with
  | [.ref x, .int a, .ref o] => if x = 0 ∧ o = 217 then w_outl m_X11_row [.ref 0, .int a] M else none
  | _ => none
theorem c_L_row (l : Launch) (hfl : l.stackTraces = false) (g : fd_G) : fd_ConW l g yL_row cL_row 4 (some .int) [(0, 8, 11, 13)] 13 w_row := by
  intro av M z hf
  obtain ⟨a, rfl, hf⟩ : ∃ a, av = [.ref 0, .int a, .ref 217] ∧ w_outl m_X11_row [.ref 0, .int a] M = some z := by
    unfold w_row at hf
    split at hf
    next x a o =>
      obtain ⟨⟨rfl, rfl⟩, h⟩ := fd_if_of hf
      exact ⟨a, rfl, h⟩
    next => cases hf
  obtain ⟨z1, h1, h2⟩ := fd_bind_of hf
  refine fd_ofWH (cc := cL_row) (maxL := 4) (ret := some .int) (by decide) rfl ?_
  intro p e s m args below meth c s₁ B hml hv
  obtain ⟨hargs, hWd, hK, hbs⟩ := hv
  subst hargs
  have hts := atoms_spec (ws := fd_wH yL_row cL_row 4 (some .int) [(0, 8, 11, 13)]) B.pre
  have hown : s.vm.findClass RL = some m.cls := findClass_of_methodNamed B.named
  have htab : c.exceptionTable.toList = [⟨0, 8, 11, 13⟩] := vx_table (x := yL_row) B (hts _ List.mem_cons_self)
  have F0 : fd_F (g, p, l, e, (headSpec (fd_wH yL_row cL_row 4 (some .int) [(0, 8, 11, 13)]) (fd_rmX 13)).room, s, m, (([.ref 0, .int a, .ref 217] : List Value).map (fd_re g.1)).toArray, below, meth, c, 0, 0) cL_row RL 4 (some .int) 13 := ⟨B.exec, B.bytes, hml, hown, fun w hw => hts w (List.mem_cons_of_mem _ hw), hK, hbs, Nat.zero_le _, Nat.zero_le _, B.returns, B.notSynchronized, Nat.le_refl _, Nat.le_refl _⟩
  have F1 : fd_F (g, p, l, e, (headSpec (fd_wH yL_row cL_row 4 (some .int) [(0, 8, 11, 13)]) (fd_rmX 13)).room, s, m, (([.ref 0, .int a, .ref 217] : List Value).map (fd_re g.1)).toArray, below, meth, c, 1, 6) cL_row RL 4 (some .int) 13 := ⟨B.exec, B.bytes, hml, hown, fun w hw => hts w (List.mem_cons_of_mem _ hw), hK, hbs, Nat.le_refl 1, Nat.le_refl 6, B.returns, B.notSynchronized, Nat.le_refl _, Nat.le_refl _⟩
  have hlr := fd_in0_ok g.1 4 [.ref 0, .int a, .ref 217] (Nat.le_of_ble_eq_true rfl)
  rw [lg_entry_eq]
  obtain ⟨v1, M1⟩ := z1
  have body : fd_W (g, p, l, e, (headSpec (fd_wH yL_row cL_row 4 (some .int) [(0, 8, 11, 13)]) (fd_rmX 13)).room, s, m, (([.ref 0, .int a, .ref 217] : List Value).map (fd_re g.1)).toArray, below, meth, c, 0, 0) 4 (fd_MQ (g, p, l, e, (headSpec (fd_wH yL_row cL_row 4 (some .int) [(0, 8, 11, 13)]) (fd_rmX 13)).room, s, m, (([.ref 0, .int a, .ref 217] : List Value).map (fd_re g.1)).toArray, below, meth, c, 1, 6) 1 z) 0 [] ([.ref 0, .int a, .ref 217, fd_jk], M) := by
    refine fd_aload_n (i := 2) (k := 8) F0 dL_row_0 rfl [] _ _ 217 (Nat.le_of_ble_eq_true rfl) rfl ?_
    refine fd_iconst (v := 0) (k := 8) F0 dL_row_1 ki_0 _ _ _ 0 (Nat.le_of_ble_eq_true rfl) rfl ?_
    refine fd_aload_n (i := 0) (k := 8) F0 dL_row_2 rfl _ _ _ 0 (Nat.le_of_ble_eq_true rfl) rfl ?_
    refine fd_iload_n (i := 1) (k := 8) F0 dL_row_3 rfl _ _ _ a (Nat.le_of_ble_eq_true rfl) rfl ?_
    refine fd_rcx (st := [.int 0, .ref (g.1 + 217)]) (as := [.int a]) F0 (c_X11_row l hfl g) yv_X11_row ml_L_18 (by omega) ⟨Nat.le_refl 1, Nat.le_refl 6⟩ cl11 dL_row_4 (Nat.le_of_ble_eq_true rfl) rfl rfl h1 ⟨0, 8, 11, 13⟩ htab rfl (by decide) cl_L (fun hnn => ?_) (fun hnull q9 => ?_)
    · cases v1 with
      | long v =>
        cases h2
        refine fd_rlast F1 dL_row_7 rfl ?_
        refine fd_go (q := 14) F1 dL_row_8 rfl _ _ ?_
        exact fd_srI (r := 0) (qb := 0) (qc := 0) F1 (fd_iconst (v := 0) F1 dL_row_14 ki_0) dL_row_15 _ _ 1 (.int 0) rfl (by unfold fd_Ex; rw [if_neg (by decide), if_pos rfl]; rfl)
      | null => exact absurd rfl hnn
      | int v => cases h2
      | float v => cases h2
      | double v => cases h2
      | ref v => cases h2
      | retAddr v => cases h2
    · dsimp only at hnull
      subst hnull
      cases h2
      refine fd_rcat_n (i := 3) F1 dL_row_11 rfl (by decide) ?_
      exact fd_srI (r := 0) (qb := 0) (qc := 0) F1 (fd_iconst (v := 1) F1 dL_row_12 ki_1) dL_row_13 _ _ 1 (.int 1) rfl (by unfold fd_Ex; rw [if_neg (by decide), if_pos rfl])
  exact body s.heap [] _ hWd va_S.rf hlr
end FDY
