/-! ===== the law's loop: what it reads of the script, what it calls ===== -/
def dl_Yw (y : MethodName) (cc : ByteArray) (n : Nat) (rt : Option FieldType) (hh : List (Nat × Nat × Nat × Nat)) (na : Nat) : Prop := Cond.static y ∈ fd_TB ∧ Cond.initialized y.cls ∈ fd_TB ∧ Cond.codeWith y cc n rt hh ∈ fd_TB ∧ n ≤ 45 ∧ y.cls ≠ "java/lang/invoke/MethodHandle" ∧ y.cls ≠ "java/lang/invoke/VarHandle" ∧ (parseMethodDescriptor y.desc).map (fun d => d.parameters.length) = some na
theorem yw_village : dl_Yw yL_village cL_village 5 (some .int) [(0, 10, 13, 13)] 4 := ⟨fd_tbi 1310 (by decide +kernel) rfl, fd_tbi 102 (by decide +kernel) rfl, fd_tbi 1311 (by decide +kernel) rfl, by decide, by decide, by decide, by decide +kernel⟩
theorem yw_feast : dl_Yw yL_feast cL_feast 5 (some .int) [(0, 10, 13, 13)] 4 := ⟨fd_tbi 1385 (by decide +kernel) rfl, fd_tbi 102 (by decide +kernel) rfl, fd_tbi 1386 (by decide +kernel) rfl, by decide, by decide, by decide, by decide +kernel⟩
theorem yw_row : dl_Yw yL_row cL_row 4 (some .int) [(0, 8, 11, 13)] 3 := ⟨fd_tbi 1393 (by decide +kernel) rfl, fd_tbi 102 (by decide +kernel) rfl, fd_tbi 1394 (by decide +kernel) rfl, by decide, by decide, by decide, by decide +kernel⟩
/-- the locals at the loop's head -/
def dl_L0 (b i : Nat) : List Value := [.retAddr (b + 1), .ref 0, .ref 182, .ref 217, .int (nI i), fd_jk, fd_jk, fd_jk]
/-- the script lies outside -/
def dl_S (X : fd_X) (b L : Nat) (xs : Nat → Int32) : Prop := match X with
  | (g, _, _, _, _, s, _, _, _, _, _, _, _) => va_X b L xs s s.heap ∧ b < s.heap.size ∧ g.1 = s.heap.size
section DL
variable {X : fd_X} {Q : State → Prop} {b L : Nat} {xs : Nat → Int32} {i d p : Nat} {cc : ByteArray} {own : String} {rt : Option FieldType}
theorem dl_arg (F : fd_F X cc own 8 rt d) (S : dl_S X b L xs) {j : Nat} {st : List Value} {M : fd_M} {z : Int} (d0 : decode cc p = .ok (.aload_n 0, 1)) (d1 : decode cc (p + 1) = .ok (.iload 4, 2)) (d3 : decode cc (p + 3) = .ok (.iconst z, 1)) (d4 : decode cc (p + 4) = .ok (.iadd, 1)) (d5 : decode cc (p + 5) = .ok (.iaload, 1)) (hz : Int32.ofInt z = nI j) (hi : i + j < L) (hLb : L ≤ 2560) (LL : List Value) (h0 : LL[0]? = some (.retAddr (b + 1))) (h4 : LL[4]? = some (.int (nI i))) (_hst : fd_ct st ≤ 8) (kk : fd_W X 8 Q (p + 6) (.int (xs (i + j)) :: st) (LL, M)) : fd_W X 8 Q p st (LL, M) := by
  obtain ⟨g, pr, l, e, R, s, m, args, below, meth, c, cells, slots⟩ := X
  obtain ⟨hx, hb, hml, hown, hts, hK, hbs, hcl, hsl, hr, hlk, hfr, hlo⟩ := F
  obtain ⟨hX, hbl, hg⟩ := S
  intro H locs ls hW hS hLr
  refine lv_aload_n hx hb d0 rfl (hLr.2.2 0 _ h0 (by intro h; cases h)) ?_
  refine lv_iload hx hb d1 (hLr.2.2 4 _ h4 (by intro h; cases h)) ?_
  refine lv_iconst hx hb d3 hz ?_
  refine lv_iadd hx hb d4 ?_
  have e1 : nI i + nI j = nI (i + j) := nI_add i j
  have e2 : (nI (i + j)).toNatClampNeg = i + j := nI_clamp (by omega)
  rw [e1]
  refine va_sld (A := fd_A g) hx hb hX hbl (by show ¬ g.1 ≤ b; omega) hS (nI_in hi (by omega)) d5 ?_
  rw [e2]
  exact kk H locs ls hW hS hLr
theorem dl_eq (F : fd_F X cc own 8 rt d) {st : List Value} {σ : fd_S} {v : Int32} {off : Int} {j : Nat} (hd : decode cc p = .ok (.if_icmp .eq off, 3)) (ht : (p : Int) + off = (j : Int)) (kk : fd_W X 8 Q j st σ) : fd_W X 8 Q p (.int v :: .int v :: st) σ := by
  refine fd_j2_eq_t F hd ht st σ v v ?_
  rw [if_pos (by simp [fd_p_eq])]
  exact kk
theorem dl_ist (F : fd_F X cc own 8 rt d) {σ : fd_S} {i : Nat} {u : Int32} (hd : decode cc p = .ok (.istore i, 2)) (hn : i < 8) (kk : fd_W X 8 Q (p + 2) [] (fd_st1 σ.1 i (.int u), σ.2)) : fd_W X 8 Q p [.int u] σ := by
  obtain ⟨g, pr, l, e, R, s, m, args, below, meth, c, cells, slots⟩ := X
  obtain ⟨hx, hb, hml, hown, hts, hK, hbs, hcl, hsl, hr, hlk, hfr, hlo⟩ := F
  intro H locs ls hW hS hL
  exact lv_istore hx hb hd hL.has hn rfl (fun ls' h' => kk H locs ls' hW hS (fd_lr_of1 (v := .int u) h'))
theorem dl_lst (F : fd_F X cc own 8 rt d) {σ : fd_S} {i : Nat} {u : Int64} (hd : decode cc p = .ok (.lstore i, 2)) (hn : i + 1 < 8) (kk : fd_W X 8 Q (p + 2) [] (fd_st2 σ.1 i (.long u), σ.2)) : fd_W X 8 Q p [.long u] σ := by
  obtain ⟨g, pr, l, e, R, s, m, args, below, meth, c, cells, slots⟩ := X
  obtain ⟨hx, hb, hml, hown, hts, hK, hbs, hcl, hsl, hr, hlk, hfr, hlo⟩ := F
  intro H locs ls hW hS hL
  exact lv_lstore hx hb hd hL.has hn rfl (fun ls' h' => kk H locs ls' hW hS (fd_lr_of2 (v := .long u) h'))
/-- what isn't needed any more of the locals -/
theorem dl_fgt {n pc : Nat} {st LL LL' : List Value} {M : fd_M} (h : ∀ (i : Nat) (v : Value), LL'[i]? = some v → v ≠ fd_jk → LL[i]? = some v) (kk : fd_W X n Q pc st (LL', M)) : fd_W X n Q pc st (LL, M) := by
  obtain ⟨g, pr, l, e, R, s, m, args, below, meth, c, cells, slots⟩ := X
  intro H locs ls hW hS hL
  exact kk H locs ls hW hS ⟨hL.1, hL.2.1, fun i v h1 h2 => hL.2.2 i v (h i v h1 h2) h2⟩
theorem dl_fg {pc : Nat} {st : List Value} {M : fd_M} {a5 a6 a7 : Value} (kk : fd_W X 8 Q pc st (dl_L0 b i, M)) : fd_W X 8 Q pc st ([.retAddr (b + 1), .ref 0, .ref 182, .ref 217, .int (nI i), a5, a6, a7], M) := by
  refine dl_fgt (fun k v h1 h2 => ?_) kk
  match k, h1 with
  | 0, h => exact h
  | 1, h => exact h
  | 2, h => exact h
  | 3, h => exact h
  | 4, h => exact h
  | 5, h => cases h; exact absurd rfl h2
  | 6, h => cases h; exact absurd rfl h2
  | 7, h => cases h; exact absurd rfl h2
  | k + 8, h => simp [dl_L0] at h
theorem dl_lald {LL : List Value} {M : fd_M} (h : LL[3]? = some (.ref 217)) : fd_gl (fd_lda 3) (fd_c (0 : Int32)) (LL, M) = some (M.2 217 0, (LL, M)) := by
  have e1 : fd_isL 217 (0 : Int32) = true := hL_217 (i := 0) (by omega)
  have e2 : (0 : Int32).toNatClampNeg = 0 := by decide
  simp [fd_gl, fd_lda, fd_c, h, e1, e2]
theorem dl_lcmp (x : Int64) : fd_p_eq (fd_f_lcmp x x) 0 = true := by
  unfold fd_p_eq fd_f_lcmp lg_cmp
  simp
end DL
section DLS
variable {p : Program} {l : Launch} {e : Env} {R : Room} {s : State} {m : MethodId} {args : Array Value} {below : List Frame} {meth : Method} {c : Code}
theorem dl_callS {T : State} {locs : List Loc} {cells slots : Nat} (X : Stand p l e R s m args below meth c T locs cells slots) (hexec : p.tables.exec = Jvm.exec) {own : String} {index : Nat} {y : MethodName} {bytes : ByteArray} {maxL : Nat} {ret : Option FieldType} {hh : List (Nat × Nat × Nat × Nat)}
    (hown : s.vm.findClass own = some m.cls) (hlink : (Cond.methodLink own index y).before args s = true) (hstat : (Cond.static y).before args s = true) (hinit : (Cond.initialized y.cls).before args s = true)
    (hcode : (Cond.codeWith y bytes maxL ret hh).before args s = true) (hy : y.cls ≠ "java/lang/invoke/MethodHandle" ∧ y.cls ≠ "java/lang/invoke/VarHandle")
    {W : Nat} {Pre : Pt → Array Value → Prop} {Post : Pt → Array Value → Option Value → Pt → Prop} (hK : Back l R p e below s args y 3 W Pre Post)
    {g : JFrame} (hg : g.method = m) (hsize : g.locals.size = c.maxLocals) {argsL rest : List Value} (hlen : ∀ sig, parseMethodDescriptor y.desc = some sig → argsL.length = sig.parameters.length)
    (hstack : g.stack = argsL.reverse ++ rest) (hW : 2 * g.monitorRoom + (rest.map fun v => v.category).sum ≤ W) (hdg : decode c.code g.pc = .ok (.invokestatic index, 3))
    (hpre : ∀ vm₁, s.WarmedH vm₁ → Pre ⟨T.setVm vm₁, locs, cells, slots⟩ argsL.toArray) :
    ∃ (v : Option Value) (vm₁ : Vm) (B : Pt), s.WarmedH vm₁ ∧ Stand p l e R s m args below meth c B.U B.locs B.cells B.slots ∧ Post ⟨T.setVm vm₁, locs, cells, slots⟩ argsL.toArray v B ∧
      ∀ target, Steps p.tables e below (B.U.setTop { g with pc := g.pc + 3, stack := v.toList ++ rest }) target → Steps p.tables e below (T.setTop g) target := by
  obtain ⟨mk, methM, cM, hnamed, hmethM, -, -, -, -, -, -, hsigM⟩ := Cond.codeWith_spec hcode
  have hstatic : methM.isStatic = true := Cond.static_spec hnamed hmethM hstat
  obtain ⟨kP, hkP, -⟩ := className_of_methodNamed hnamed
  have hinitP : kP.init = .initialized := Cond.initialized_spec (findClass_of_methodNamed hnamed) hkP hinit
  obtain ⟨vm₁, X₁, hstep₁⟩ := X.invokestatic hexec hown hlink hnamed hmethM hstatic hkP hinitP hy (g := g) hg (argsL := argsL) (rest := rest) (hlen _ hsigM) hstack hdg
  obtain ⟨v, B, X', hpost, hsteps⟩ := hK m meth c ⟨T.setVm vm₁, locs, cells, slots⟩ { g with stack := rest } (.invokestatic index) mk argsL.toArray X₁ hg hsize hdg hW (X₁.named hnamed) (hpre vm₁ X₁.warmed)
  exact ⟨v, vm₁, B, X₁.warmed, X', hpost, fun target h => hstep₁ _ fun acts => by rw [doInvoke_state]; exact hsteps.trans h⟩
/-- a call of one of the law's helpers that catch: one cell and six slots of room are used -/
theorem dl_cw {g : fd_G} {Q : State → Prop} {cc : ByteArray} {own : String} {n d q cells slots : Nat} {rt : Option FieldType} (F : fd_F (g, p, l, e, R, s, m, args, below, meth, c, cells, slots) cc own n rt d) {y : MethodName} {cy : ByteArray} {ny dy na idx : Nat} {ry : Option FieldType} {hh : List (Nat × Nat × Nat × Nat)} {f : List Value → fd_M → Option (Value × fd_M)} {st as : List Value} {σ : fd_S} {z : Value × fd_M} (hcon : fd_ConW l g y cy ny ry hh dy f) (hy : dl_Yw y cy ny ry hh na) (hl : Cond.methodLink own idx y ∈ fd_TB) (hdd : dy + 1 ≤ d) (hR : cells + 1 ≤ R.cells ∧ slots + 6 ≤ R.slots) (hd : decode cc q = .ok (.invokestatic idx, 3))
    (hst : fd_ct st ≤ 8) (hlen : as.length = na) (he : f as σ.2 = some z) (kk : fd_W (g, p, l, e, R, s, m, args, below, meth, c, cells + 1, slots + 6) n Q (q + 3) (fd_re g.1 z.1 :: st) (σ.1, z.2)) : fd_W (g, p, l, e, R, s, m, args, below, meth, c, cells, slots) n Q q ((as.map (fd_re g.1)).reverse ++ st) σ := by
  obtain ⟨hx, hb, hml, hown, hts, hK, hbs, hcl, hsl, hr, hlk, hfr, hlo⟩ := F
  obtain ⟨y1, y2, y4, y5, y7, y8, y9⟩ := hy
  intro H locs ls hW hS hL
  have hgood : ∀ w ∈ fd_wH y cy ny ry hh, w ∈ fd_TB := fun w hw => (List.mem_cons.mp hw).elim (fun e => by rw [e]; exact y4) id
  have pay := pay_in hts (fd_good (ws := fd_TB) (fun w hw => hw))
  have hBack : Back l R p e below s args y 3 8 (PreOf R 1 6 (fd_Pc g as σ.2)) (PostOf (fd_Qc g 1 z) 1 6 (fd_A g)) := va_backW (hh := hh) (bytes := cy) (maxL := ny) (ret := ry) (hcon _ _ _ he) fd_blind rfl rfl (by show dy + 1 ≤ _; omega) (by show 8 + (ny + 11) + 64 * dy ≤ _; omega) (fun w hw => pay w (hgood w hw)) List.mem_cons_self (pay _ y2)
  intro T hT Xs
  obtain ⟨v, vm₁, ⟨U', l2, c2, s2⟩, hW₁, X', ⟨g', mk, t, Lo, e1, e2, hq, h1, hLo, h2, h3⟩, stp⟩ := dl_callS Xs hx (bytes := cy) (maxL := ny) (ret := ry) (hh := hh) hown (hts _ hl) (hts _ y1) (hts _ y2) (hts _ y4) ⟨y7, y8⟩ hBack (g := F0 m q ls ((as.map (fd_re g.1)).reverse ++ st)) rfl (hL.1.trans hml.symm) (argsL := as.map (fd_re g.1)) (rest := st) (fun sig hsig => by rw [hsig] at y9; rw [List.length_map, hlen]; exact (Option.some.inj y9).symm) rfl (lv_room hst) (by rw [hb]; exact hd)
    (fun vm₁ hW₁ => ⟨hR.1, hR.2, rfl, by show fd_Wd g σ.2 T.heap; rw [hT]; exact hW, fd_K.warm hW₁ (fun q hq => by show (T.setVm vm₁).heap[q]? = _; show T.heap[q]? = _; rw [hT]; exact fd_old hS hbs hK q hq) hK, by show g.1 ≤ T.heap.size; rw [hT]; exact Nat.le_trans hbs hS.1⟩)
  dsimp only [Pt.U, Pt.locs, Pt.cells, Pt.slots] at X' e1 e2 h1 h2 h3 stp
  subst h1; subst h2; subst h3
  obtain ⟨ho, hWd, hz, hk⟩ := hq
  cases ho
  have h0 : ((T.setVm vm₁).calling g' mk (as.map (fd_re g.1)).toArray).heap = H := hT
  rw [h0] at hz hk
  obtain ⟨t2, a1, b1⟩ := kk U'.heap (locs ++ Lo) ls (by rw [e1]; exact hWd)
    ⟨Nat.le_trans hS.1 (by rw [e1]; exact hz), fun q h1 h2 => by rw [e1, hk q (Nat.lt_of_lt_of_le h1 hS.1) h2]; exact hS.2.1 q h1 h2, fun q hq => (List.mem_append.mp hq).elim (hS.2.2 q) (hLo q)⟩ hL U' rfl X'
  exact ⟨t2, stp t2 a1, b1⟩
end DLS

theorem dk_0 {X : fd_X} {Q : State → Prop} {b L : Nat} {xs : Nat → Int32} {i : Nat} {d : Nat} (F : fd_F X code RL 8 ret (d + 600)) (S : dl_S X b L xs) (hi : i + 5 ≤ L) (hLb : L ≤ 2560) {M Mx Mm : fd_M} {v : Int32} (hx : m_X11_sign [.ref 0, .int (xs (i + 1))] M = some (.int v, Mx)) (hm : m_X12_sign [.ref 182, .int (xs (i + 1))] Mx = some (.int v, Mm)) (kk : fd_W X 8 Q 1340 [] (dl_L0 b i, Mm)) : fd_W X 8 Q 212 [] (dl_L0 b i, M) := by
  have h0 : (dl_L0 b i)[0]? = some (.retAddr (b + 1)) := rfl
  have h4 : (dl_L0 b i)[4]? = some (.int (nI i)) := rfl
  refine fd_aload_n (i := 1) (k := 8) F dL_law_212 rfl _ _ _ 0 (Nat.le_of_ble_eq_true rfl) (by first | rfl | (simp only [dl_L0, hLL]; rfl)) ?_
  refine dl_arg (j := 1) F S dL_law_213 dL_law_214 dL_law_216 dL_law_217 dL_law_218 (by decide) (by omega) hLb _ h0 h4 (Nat.le_of_ble_eq_true rfl) ?_
  refine fd_rcv (as := [.int (xs (i + 1))]) (st := []) F (c_X11_sign _ _) yv_X11_sign ml_L_26 (by omega) cl11 dL_law_219 (Nat.le_of_ble_eq_true rfl) rfl rfl hx ?_
  refine fd_aload_n (i := 2) (k := 8) F dL_law_222 rfl _ _ _ 182 (Nat.le_of_ble_eq_true rfl) (by first | rfl | (simp only [dl_L0, hLL]; rfl)) ?_
  refine dl_arg (j := 1) F S dL_law_223 dL_law_224 dL_law_226 dL_law_227 dL_law_228 (by decide) (by omega) hLb _ h0 h4 (Nat.le_of_ble_eq_true rfl) ?_
  refine fd_rcv (as := [.int (xs (i + 1))]) (st := [.int v]) F (c_X12_sign _ _) yv_X12_sign ml_L_30 (by omega) cl12 dL_law_229 (Nat.le_of_ble_eq_true rfl) rfl rfl hm ?_
  exact dl_eq F dL_law_232 rfl kk
theorem dk_1 {X : fd_X} {Q : State → Prop} {b L : Nat} {xs : Nat → Int32} {i : Nat} {d : Nat} (F : fd_F X code RL 8 ret (d + 600)) (S : dl_S X b L xs) (hi : i + 5 ≤ L) (hLb : L ≤ 2560) {M Mx Mm : fd_M} {v : Int32} (hx : m_X11_end [.ref 0, .int (xs (i + 1))] M = some (.int v, Mx)) (hm : m_X12_end [.ref 182, .int (xs (i + 1))] Mx = some (.int v, Mm)) (kk : fd_W X 8 Q 1340 [] (dl_L0 b i, Mm)) : fd_W X 8 Q 237 [] (dl_L0 b i, M) := by
  have h0 : (dl_L0 b i)[0]? = some (.retAddr (b + 1)) := rfl
  have h4 : (dl_L0 b i)[4]? = some (.int (nI i)) := rfl
  refine fd_aload_n (i := 1) (k := 8) F dL_law_237 rfl _ _ _ 0 (Nat.le_of_ble_eq_true rfl) (by first | rfl | (simp only [dl_L0, hLL]; rfl)) ?_
  refine dl_arg (j := 1) F S dL_law_238 dL_law_239 dL_law_241 dL_law_242 dL_law_243 (by decide) (by omega) hLb _ h0 h4 (Nat.le_of_ble_eq_true rfl) ?_
  refine fd_rcv (as := [.int (xs (i + 1))]) (st := []) F (c_X11_end _ _) yv_X11_end ml_L_31 (by omega) cl11 dL_law_244 (Nat.le_of_ble_eq_true rfl) rfl rfl hx ?_
  refine fd_aload_n (i := 2) (k := 8) F dL_law_247 rfl _ _ _ 182 (Nat.le_of_ble_eq_true rfl) (by first | rfl | (simp only [dl_L0, hLL]; rfl)) ?_
  refine dl_arg (j := 1) F S dL_law_248 dL_law_249 dL_law_251 dL_law_252 dL_law_253 (by decide) (by omega) hLb _ h0 h4 (Nat.le_of_ble_eq_true rfl) ?_
  refine fd_rcv (as := [.int (xs (i + 1))]) (st := [.int v]) F (c_X12_end _ _) yv_X12_end ml_L_35 (by omega) cl12 dL_law_254 (Nat.le_of_ble_eq_true rfl) rfl rfl hm ?_
  exact dl_eq F dL_law_257 rfl kk
theorem dk_2 {X : fd_X} {Q : State → Prop} {b L : Nat} {xs : Nat → Int32} {i : Nat} {d : Nat} (F : fd_F X code RL 8 ret (d + 600)) (S : dl_S X b L xs) (hi : i + 5 ≤ L) (hLb : L ≤ 2560) {M Mx Mm : fd_M} {v : Int32} (hx : m_X11_hills [.ref 0] M = some (.int v, Mx)) (hm : m_X12_hills [.ref 182] Mx = some (.int v, Mm)) (kk : fd_W X 8 Q 1340 [] (dl_L0 b i, Mm)) : fd_W X 8 Q 262 [] (dl_L0 b i, M) := by
  have h0 : (dl_L0 b i)[0]? = some (.retAddr (b + 1)) := rfl
  have h4 : (dl_L0 b i)[4]? = some (.int (nI i)) := rfl
  refine fd_aload_n (i := 1) (k := 8) F dL_law_262 rfl _ _ _ 0 (Nat.le_of_ble_eq_true rfl) (by first | rfl | (simp only [dl_L0, hLL]; rfl)) ?_
  refine fd_rcv (as := []) (st := []) F (c_X11_hills _ _) yv_X11_hills ml_L_36 (by omega) cl11 dL_law_263 (Nat.le_of_ble_eq_true rfl) rfl rfl hx ?_
  refine fd_aload_n (i := 2) (k := 8) F dL_law_266 rfl _ _ _ 182 (Nat.le_of_ble_eq_true rfl) (by first | rfl | (simp only [dl_L0, hLL]; rfl)) ?_
  refine fd_rcv (as := []) (st := [.int v]) F (c_X12_hills _ _) yv_X12_hills ml_L_40 (by omega) cl12 dL_law_267 (Nat.le_of_ble_eq_true rfl) rfl rfl hm ?_
  exact dl_eq F dL_law_270 rfl kk
theorem dk_3 {X : fd_X} {Q : State → Prop} {b L : Nat} {xs : Nat → Int32} {i : Nat} {d : Nat} (F : fd_F X code RL 8 ret (d + 600)) (S : dl_S X b L xs) (hi : i + 5 ≤ L) (hLb : L ≤ 2560) {M Mx Mm : fd_M} {v : Int32} (hx : m_X11_feasts [.ref 0] M = some (.int v, Mx)) (hm : m_X12_feasts [.ref 182] Mx = some (.int v, Mm)) (kk : fd_W X 8 Q 1340 [] (dl_L0 b i, Mm)) : fd_W X 8 Q 275 [] (dl_L0 b i, M) := by
  have h0 : (dl_L0 b i)[0]? = some (.retAddr (b + 1)) := rfl
  have h4 : (dl_L0 b i)[4]? = some (.int (nI i)) := rfl
  refine fd_aload_n (i := 1) (k := 8) F dL_law_275 rfl _ _ _ 0 (Nat.le_of_ble_eq_true rfl) (by first | rfl | (simp only [dl_L0, hLL]; rfl)) ?_
  refine fd_rcv (as := []) (st := []) F (c_X11_feasts _ _) yv_X11_feasts ml_L_41 (by omega) cl11 dL_law_276 (Nat.le_of_ble_eq_true rfl) rfl rfl hx ?_
  refine fd_aload_n (i := 2) (k := 8) F dL_law_279 rfl _ _ _ 182 (Nat.le_of_ble_eq_true rfl) (by first | rfl | (simp only [dl_L0, hLL]; rfl)) ?_
  refine fd_rcv (as := []) (st := [.int v]) F (c_X12_feasts _ _) yv_X12_feasts ml_L_44 (by omega) cl12 dL_law_280 (Nat.le_of_ble_eq_true rfl) rfl rfl hm ?_
  exact dl_eq F dL_law_283 rfl kk
theorem dk_4 {X : fd_X} {Q : State → Prop} {b L : Nat} {xs : Nat → Int32} {i : Nat} {d : Nat} (F : fd_F X code RL 8 ret (d + 600)) (S : dl_S X b L xs) (hi : i + 5 ≤ L) (hLb : L ≤ 2560) {M Mx Mm : fd_M} {v : Int32} (hx : m_X11_rule [.ref 0] M = some (.int v, Mx)) (hm : m_X12_rule [.ref 182] Mx = some (.int v, Mm)) (kk : fd_W X 8 Q 1340 [] (dl_L0 b i, Mm)) : fd_W X 8 Q 288 [] (dl_L0 b i, M) := by
  have h0 : (dl_L0 b i)[0]? = some (.retAddr (b + 1)) := rfl
  have h4 : (dl_L0 b i)[4]? = some (.int (nI i)) := rfl
  refine fd_aload_n (i := 1) (k := 8) F dL_law_288 rfl _ _ _ 0 (Nat.le_of_ble_eq_true rfl) (by first | rfl | (simp only [dl_L0, hLL]; rfl)) ?_
  refine fd_rcv (as := []) (st := []) F (c_X11_rule _ _) yv_X11_rule ml_L_45 (by omega) cl11 dL_law_289 (Nat.le_of_ble_eq_true rfl) rfl rfl hx ?_
  refine fd_aload_n (i := 2) (k := 8) F dL_law_292 rfl _ _ _ 182 (Nat.le_of_ble_eq_true rfl) (by first | rfl | (simp only [dl_L0, hLL]; rfl)) ?_
  refine fd_rcv (as := []) (st := [.int v]) F (c_X12_rule _ _) yv_X12_rule ml_L_48 (by omega) cl12 dL_law_293 (Nat.le_of_ble_eq_true rfl) rfl rfl hm ?_
  exact dl_eq F dL_law_296 rfl kk
theorem dk_7 {X : fd_X} {Q : State → Prop} {b L : Nat} {xs : Nat → Int32} {i : Nat} {d : Nat} (F : fd_F X code RL 8 ret (d + 600)) (S : dl_S X b L xs) (hi : i + 5 ≤ L) (hLb : L ≤ 2560) {M Mx Mm : fd_M} {v : Int32} (hx : m_X11_set [.ref 0, .int (xs (i + 1)), .int (xs (i + 2))] M = some (.int v, Mx)) (hm : m_X12_set [.ref 182, .int (xs (i + 1)), .int (xs (i + 2))] Mx = some (.int v, Mm)) (kk : fd_W X 8 Q 1340 [] (dl_L0 b i, Mm)) : fd_W X 8 Q 437 [] (dl_L0 b i, M) := by
  have h0 : (dl_L0 b i)[0]? = some (.retAddr (b + 1)) := rfl
  have h4 : (dl_L0 b i)[4]? = some (.int (nI i)) := rfl
  refine fd_aload_n (i := 1) (k := 8) F dL_law_437 rfl _ _ _ 0 (Nat.le_of_ble_eq_true rfl) (by first | rfl | (simp only [dl_L0, hLL]; rfl)) ?_
  refine dl_arg (j := 1) F S dL_law_438 dL_law_439 dL_law_441 dL_law_442 dL_law_443 (by decide) (by omega) hLb _ h0 h4 (Nat.le_of_ble_eq_true rfl) ?_
  refine dl_arg (j := 2) F S dL_law_444 dL_law_445 dL_law_447 dL_law_448 dL_law_449 (by decide) (by omega) hLb _ h0 h4 (Nat.le_of_ble_eq_true rfl) ?_
  refine fd_rcv (as := [.int (xs (i + 1)), .int (xs (i + 2))]) (st := []) F (c_X11_set _ _) yv_X11_set ml_L_61 (by omega) cl11 dL_law_450 (Nat.le_of_ble_eq_true rfl) rfl rfl hx ?_
  refine fd_aload_n (i := 2) (k := 8) F dL_law_453 rfl _ _ _ 182 (Nat.le_of_ble_eq_true rfl) (by first | rfl | (simp only [dl_L0, hLL]; rfl)) ?_
  refine dl_arg (j := 1) F S dL_law_454 dL_law_455 dL_law_457 dL_law_458 dL_law_459 (by decide) (by omega) hLb _ h0 h4 (Nat.le_of_ble_eq_true rfl) ?_
  refine dl_arg (j := 2) F S dL_law_460 dL_law_461 dL_law_463 dL_law_464 dL_law_465 (by decide) (by omega) hLb _ h0 h4 (Nat.le_of_ble_eq_true rfl) ?_
  refine fd_rcv (as := [.int (xs (i + 1)), .int (xs (i + 2))]) (st := [.int v]) F (c_X12_set _ _) yv_X12_set ml_L_64 (by omega) cl12 dL_law_466 (Nat.le_of_ble_eq_true rfl) rfl rfl hm ?_
  exact dl_eq F dL_law_469 rfl kk
theorem dk_8 {X : fd_X} {Q : State → Prop} {b L : Nat} {xs : Nat → Int32} {i : Nat} {d : Nat} (F : fd_F X code RL 8 ret (d + 600)) (S : dl_S X b L xs) (hi : i + 5 ≤ L) (hLb : L ≤ 2560) {M Mx Mm : fd_M} {v : Int32} (hx : m_X11_sheet [.ref 0, .int (xs (i + 1)), .int (xs (i + 2)), .int (xs (i + 3)), .int (xs (i + 4))] M = some (.int v, Mx)) (hm : m_X12_sheet [.ref 182, .int (xs (i + 1)), .int (xs (i + 2)), .int (xs (i + 3)), .int (xs (i + 4))] Mx = some (.int v, Mm)) (kk : fd_W X 8 Q 1340 [] (dl_L0 b i, Mm)) : fd_W X 8 Q 474 [] (dl_L0 b i, M) := by
  have h0 : (dl_L0 b i)[0]? = some (.retAddr (b + 1)) := rfl
  have h4 : (dl_L0 b i)[4]? = some (.int (nI i)) := rfl
  refine fd_aload_n (i := 1) (k := 8) F dL_law_474 rfl _ _ _ 0 (Nat.le_of_ble_eq_true rfl) (by first | rfl | (simp only [dl_L0, hLL]; rfl)) ?_
  refine dl_arg (j := 1) F S dL_law_475 dL_law_476 dL_law_478 dL_law_479 dL_law_480 (by decide) (by omega) hLb _ h0 h4 (Nat.le_of_ble_eq_true rfl) ?_
  refine dl_arg (j := 2) F S dL_law_481 dL_law_482 dL_law_484 dL_law_485 dL_law_486 (by decide) (by omega) hLb _ h0 h4 (Nat.le_of_ble_eq_true rfl) ?_
  refine dl_arg (j := 3) F S dL_law_487 dL_law_488 dL_law_490 dL_law_491 dL_law_492 (by decide) (by omega) hLb _ h0 h4 (Nat.le_of_ble_eq_true rfl) ?_
  refine dl_arg (j := 4) F S dL_law_493 dL_law_494 dL_law_496 dL_law_497 dL_law_498 (by decide) (by omega) hLb _ h0 h4 (Nat.le_of_ble_eq_true rfl) ?_
  refine fd_rcv (as := [.int (xs (i + 1)), .int (xs (i + 2)), .int (xs (i + 3)), .int (xs (i + 4))]) (st := []) F (c_X11_sheet _ _) yv_X11_sheet ml_L_65 (by omega) cl11 dL_law_499 (Nat.le_of_ble_eq_true rfl) rfl rfl hx ?_
  refine fd_aload_n (i := 2) (k := 8) F dL_law_502 rfl _ _ _ 182 (Nat.le_of_ble_eq_true rfl) (by first | rfl | (simp only [dl_L0, hLL]; rfl)) ?_
  refine dl_arg (j := 1) F S dL_law_503 dL_law_504 dL_law_506 dL_law_507 dL_law_508 (by decide) (by omega) hLb _ h0 h4 (Nat.le_of_ble_eq_true rfl) ?_
  refine dl_arg (j := 2) F S dL_law_509 dL_law_510 dL_law_512 dL_law_513 dL_law_514 (by decide) (by omega) hLb _ h0 h4 (Nat.le_of_ble_eq_true rfl) ?_
  refine dl_arg (j := 3) F S dL_law_515 dL_law_516 dL_law_518 dL_law_519 dL_law_520 (by decide) (by omega) hLb _ h0 h4 (Nat.le_of_ble_eq_true rfl) ?_
  refine dl_arg (j := 4) F S dL_law_521 dL_law_522 dL_law_524 dL_law_525 dL_law_526 (by decide) (by omega) hLb _ h0 h4 (Nat.le_of_ble_eq_true rfl) ?_
  refine fd_rcv (as := [.int (xs (i + 1)), .int (xs (i + 2)), .int (xs (i + 3)), .int (xs (i + 4))]) (st := [.int v]) F (c_X12_sheet _ _) yv_X12_sheet ml_L_69 (by omega) cl12 dL_law_527 (Nat.le_of_ble_eq_true rfl) rfl rfl hm ?_
  exact dl_eq F dL_law_530 rfl kk
theorem dk_9 {X : fd_X} {Q : State → Prop} {b L : Nat} {xs : Nat → Int32} {i : Nat} {d : Nat} (F : fd_F X code RL 8 ret (d + 600)) (S : dl_S X b L xs) (hi : i + 5 ≤ L) (hLb : L ≤ 2560) {M Mx Mm : fd_M} {v : Int32} (hx : m_X11_night [.ref 0, .int (xs (i + 1))] M = some (.int v, Mx)) (hm : m_X12_night [.ref 182, .int (xs (i + 1))] Mx = some (.int v, Mm)) (kk : fd_W X 8 Q 1340 [] (dl_L0 b i, Mm)) : fd_W X 8 Q 535 [] (dl_L0 b i, M) := by
  have h0 : (dl_L0 b i)[0]? = some (.retAddr (b + 1)) := rfl
  have h4 : (dl_L0 b i)[4]? = some (.int (nI i)) := rfl
  refine fd_aload_n (i := 1) (k := 8) F dL_law_535 rfl _ _ _ 0 (Nat.le_of_ble_eq_true rfl) (by first | rfl | (simp only [dl_L0, hLL]; rfl)) ?_
  refine dl_arg (j := 1) F S dL_law_536 dL_law_537 dL_law_539 dL_law_540 dL_law_541 (by decide) (by omega) hLb _ h0 h4 (Nat.le_of_ble_eq_true rfl) ?_
  refine fd_rcv (as := [.int (xs (i + 1))]) (st := []) F (c_X11_night _ _) yv_X11_night ml_L_70 (by omega) cl11 dL_law_542 (Nat.le_of_ble_eq_true rfl) rfl rfl hx ?_
  refine fd_aload_n (i := 2) (k := 8) F dL_law_545 rfl _ _ _ 182 (Nat.le_of_ble_eq_true rfl) (by first | rfl | (simp only [dl_L0, hLL]; rfl)) ?_
  refine dl_arg (j := 1) F S dL_law_546 dL_law_547 dL_law_549 dL_law_550 dL_law_551 (by decide) (by omega) hLb _ h0 h4 (Nat.le_of_ble_eq_true rfl) ?_
  refine fd_rcv (as := [.int (xs (i + 1))]) (st := [.int v]) F (c_X12_night _ _) yv_X12_night ml_L_73 (by omega) cl12 dL_law_552 (Nat.le_of_ble_eq_true rfl) rfl rfl hm ?_
  exact dl_eq F dL_law_555 rfl kk
theorem dk_10 {X : fd_X} {Q : State → Prop} {b L : Nat} {xs : Nat → Int32} {i : Nat} {d : Nat} (F : fd_F X code RL 8 ret (d + 600)) (S : dl_S X b L xs) (hi : i + 5 ≤ L) (hLb : L ≤ 2560) {M Mx Mm : fd_M} {v : Int32} (hx : m_X11_stay [.ref 0, .int (xs (i + 1))] M = some (.int v, Mx)) (hm : m_X12_stay [.ref 182, .int (xs (i + 1))] Mx = some (.int v, Mm)) (kk : fd_W X 8 Q 1340 [] (dl_L0 b i, Mm)) : fd_W X 8 Q 560 [] (dl_L0 b i, M) := by
  have h0 : (dl_L0 b i)[0]? = some (.retAddr (b + 1)) := rfl
  have h4 : (dl_L0 b i)[4]? = some (.int (nI i)) := rfl
  refine fd_aload_n (i := 1) (k := 8) F dL_law_560 rfl _ _ _ 0 (Nat.le_of_ble_eq_true rfl) (by first | rfl | (simp only [dl_L0, hLL]; rfl)) ?_
  refine dl_arg (j := 1) F S dL_law_561 dL_law_562 dL_law_564 dL_law_565 dL_law_566 (by decide) (by omega) hLb _ h0 h4 (Nat.le_of_ble_eq_true rfl) ?_
  refine fd_rcv (as := [.int (xs (i + 1))]) (st := []) F (c_X11_stay _ _) yv_X11_stay ml_L_74 (by omega) cl11 dL_law_567 (Nat.le_of_ble_eq_true rfl) rfl rfl hx ?_
  refine fd_aload_n (i := 2) (k := 8) F dL_law_570 rfl _ _ _ 182 (Nat.le_of_ble_eq_true rfl) (by first | rfl | (simp only [dl_L0, hLL]; rfl)) ?_
  refine dl_arg (j := 1) F S dL_law_571 dL_law_572 dL_law_574 dL_law_575 dL_law_576 (by decide) (by omega) hLb _ h0 h4 (Nat.le_of_ble_eq_true rfl) ?_
  refine fd_rcv (as := [.int (xs (i + 1))]) (st := [.int v]) F (c_X12_stay _ _) yv_X12_stay ml_L_77 (by omega) cl12 dL_law_577 (Nat.le_of_ble_eq_true rfl) rfl rfl hm ?_
  exact dl_eq F dL_law_580 rfl kk
theorem dk_11 {X : fd_X} {Q : State → Prop} {b L : Nat} {xs : Nat → Int32} {i : Nat} {d : Nat} (F : fd_F X code RL 8 ret (d + 600)) (S : dl_S X b L xs) (hi : i + 5 ≤ L) (hLb : L ≤ 2560) {M Mx Mm : fd_M} {v : Int32} (hx : m_X11_mend [.ref 0] M = some (.int v, Mx)) (hm : m_X12_mend [.ref 182] Mx = some (.int v, Mm)) (kk : fd_W X 8 Q 1340 [] (dl_L0 b i, Mm)) : fd_W X 8 Q 585 [] (dl_L0 b i, M) := by
  have h0 : (dl_L0 b i)[0]? = some (.retAddr (b + 1)) := rfl
  have h4 : (dl_L0 b i)[4]? = some (.int (nI i)) := rfl
  refine fd_aload_n (i := 1) (k := 8) F dL_law_585 rfl _ _ _ 0 (Nat.le_of_ble_eq_true rfl) (by first | rfl | (simp only [dl_L0, hLL]; rfl)) ?_
  refine fd_rcv (as := []) (st := []) F (c_X11_mend _ _) yv_X11_mend ml_L_78 (by omega) cl11 dL_law_586 (Nat.le_of_ble_eq_true rfl) rfl rfl hx ?_
  refine fd_aload_n (i := 2) (k := 8) F dL_law_589 rfl _ _ _ 182 (Nat.le_of_ble_eq_true rfl) (by first | rfl | (simp only [dl_L0, hLL]; rfl)) ?_
  refine fd_rcv (as := []) (st := [.int v]) F (c_X12_mend _ _) yv_X12_mend ml_L_81 (by omega) cl12 dL_law_590 (Nat.le_of_ble_eq_true rfl) rfl rfl hm ?_
  exact dl_eq F dL_law_593 rfl kk
theorem dk_12 {X : fd_X} {Q : State → Prop} {b L : Nat} {xs : Nat → Int32} {i : Nat} {d : Nat} (F : fd_F X code RL 8 ret (d + 600)) (S : dl_S X b L xs) (hi : i + 5 ≤ L) (hLb : L ≤ 2560) {M Mx Mm : fd_M} {v : Int32} (hx : m_X11_move [.ref 0, .int (xs (i + 1)), .int (xs (i + 2))] M = some (.int v, Mx)) (hm : m_X12_move [.ref 182, .int (xs (i + 1)), .int (xs (i + 2))] Mx = some (.int v, Mm)) (kk : fd_W X 8 Q 1340 [] (dl_L0 b i, Mm)) : fd_W X 8 Q 598 [] (dl_L0 b i, M) := by
  have h0 : (dl_L0 b i)[0]? = some (.retAddr (b + 1)) := rfl
  have h4 : (dl_L0 b i)[4]? = some (.int (nI i)) := rfl
  refine fd_aload_n (i := 1) (k := 8) F dL_law_598 rfl _ _ _ 0 (Nat.le_of_ble_eq_true rfl) (by first | rfl | (simp only [dl_L0, hLL]; rfl)) ?_
  refine dl_arg (j := 1) F S dL_law_599 dL_law_600 dL_law_602 dL_law_603 dL_law_604 (by decide) (by omega) hLb _ h0 h4 (Nat.le_of_ble_eq_true rfl) ?_
  refine dl_arg (j := 2) F S dL_law_605 dL_law_606 dL_law_608 dL_law_609 dL_law_610 (by decide) (by omega) hLb _ h0 h4 (Nat.le_of_ble_eq_true rfl) ?_
  refine fd_rcv (as := [.int (xs (i + 1)), .int (xs (i + 2))]) (st := []) F (c_X11_move _ _) yv_X11_move ml_L_82 (by omega) cl11 dL_law_611 (Nat.le_of_ble_eq_true rfl) rfl rfl hx ?_
  refine fd_aload_n (i := 2) (k := 8) F dL_law_614 rfl _ _ _ 182 (Nat.le_of_ble_eq_true rfl) (by first | rfl | (simp only [dl_L0, hLL]; rfl)) ?_
  refine dl_arg (j := 1) F S dL_law_615 dL_law_616 dL_law_618 dL_law_619 dL_law_620 (by decide) (by omega) hLb _ h0 h4 (Nat.le_of_ble_eq_true rfl) ?_
  refine dl_arg (j := 2) F S dL_law_621 dL_law_622 dL_law_624 dL_law_625 dL_law_626 (by decide) (by omega) hLb _ h0 h4 (Nat.le_of_ble_eq_true rfl) ?_
  refine fd_rcv (as := [.int (xs (i + 1)), .int (xs (i + 2))]) (st := [.int v]) F (c_X12_move _ _) yv_X12_move ml_L_85 (by omega) cl12 dL_law_627 (Nat.le_of_ble_eq_true rfl) rfl rfl hm ?_
  exact dl_eq F dL_law_630 rfl kk
theorem dk_13 {X : fd_X} {Q : State → Prop} {b L : Nat} {xs : Nat → Int32} {i : Nat} {d : Nat} (F : fd_F X code RL 8 ret (d + 600)) (S : dl_S X b L xs) (hi : i + 5 ≤ L) (hLb : L ≤ 2560) {M Mx Mm : fd_M} {v : Int32} (hx : m_X11_season [.ref 0] M = some (.int v, Mx)) (hm : m_X12_season [.ref 182] Mx = some (.int v, Mm)) (kk : fd_W X 8 Q 1340 [] (dl_L0 b i, Mm)) : fd_W X 8 Q 635 [] (dl_L0 b i, M) := by
  have h0 : (dl_L0 b i)[0]? = some (.retAddr (b + 1)) := rfl
  have h4 : (dl_L0 b i)[4]? = some (.int (nI i)) := rfl
  refine fd_aload_n (i := 1) (k := 8) F dL_law_635 rfl _ _ _ 0 (Nat.le_of_ble_eq_true rfl) (by first | rfl | (simp only [dl_L0, hLL]; rfl)) ?_
  refine fd_rcv (as := []) (st := []) F (c_X11_season _ _) yv_X11_season ml_L_86 (by omega) cl11 dL_law_636 (Nat.le_of_ble_eq_true rfl) rfl rfl hx ?_
  refine fd_aload_n (i := 2) (k := 8) F dL_law_639 rfl _ _ _ 182 (Nat.le_of_ble_eq_true rfl) (by first | rfl | (simp only [dl_L0, hLL]; rfl)) ?_
  refine fd_rcv (as := []) (st := [.int v]) F (c_X12_season _ _) yv_X12_season ml_L_89 (by omega) cl12 dL_law_640 (Nat.le_of_ble_eq_true rfl) rfl rfl hm ?_
  exact dl_eq F dL_law_643 rfl kk
theorem dk_14 {X : fd_X} {Q : State → Prop} {b L : Nat} {xs : Nat → Int32} {i : Nat} {d : Nat} (F : fd_F X code RL 8 ret (d + 600)) (S : dl_S X b L xs) (hi : i + 5 ≤ L) (hLb : L ≤ 2560) {M Mx Mm : fd_M} {v : Int32} (hx : m_X11_undo [.ref 0] M = some (.int v, Mx)) (hm : m_X12_undo [.ref 182] Mx = some (.int v, Mm)) (kk : fd_W X 8 Q 1340 [] (dl_L0 b i, Mm)) : fd_W X 8 Q 648 [] (dl_L0 b i, M) := by
  have h0 : (dl_L0 b i)[0]? = some (.retAddr (b + 1)) := rfl
  have h4 : (dl_L0 b i)[4]? = some (.int (nI i)) := rfl
  refine fd_aload_n (i := 1) (k := 8) F dL_law_648 rfl _ _ _ 0 (Nat.le_of_ble_eq_true rfl) (by first | rfl | (simp only [dl_L0, hLL]; rfl)) ?_
  refine fd_rcv (as := []) (st := []) F (c_X11_undo _ _) yv_X11_undo ml_L_90 (by omega) cl11 dL_law_649 (Nat.le_of_ble_eq_true rfl) rfl rfl hx ?_
  refine fd_aload_n (i := 2) (k := 8) F dL_law_652 rfl _ _ _ 182 (Nat.le_of_ble_eq_true rfl) (by first | rfl | (simp only [dl_L0, hLL]; rfl)) ?_
  refine fd_rcv (as := []) (st := [.int v]) F (c_X12_undo _ _) yv_X12_undo ml_L_93 (by omega) cl12 dL_law_653 (Nat.le_of_ble_eq_true rfl) rfl rfl hm ?_
  exact dl_eq F dL_law_656 rfl kk
theorem dk_15 {X : fd_X} {Q : State → Prop} {b L : Nat} {xs : Nat → Int32} {i : Nat} {d : Nat} (F : fd_F X code RL 8 ret (d + 600)) (S : dl_S X b L xs) (hi : i + 5 ≤ L) (hLb : L ≤ 2560) {M Mx Mm : fd_M} {v : Int32} (hx : m_X11_far [.ref 0, .int (xs (i + 1)), .int (xs (i + 2))] M = some (.int v, Mx)) (hm : m_X12_far [.ref 182, .int (xs (i + 1)), .int (xs (i + 2))] Mx = some (.int v, Mm)) (kk : fd_W X 8 Q 1340 [] (dl_L0 b i, Mm)) : fd_W X 8 Q 661 [] (dl_L0 b i, M) := by
  have h0 : (dl_L0 b i)[0]? = some (.retAddr (b + 1)) := rfl
  have h4 : (dl_L0 b i)[4]? = some (.int (nI i)) := rfl
  refine fd_aload_n (i := 1) (k := 8) F dL_law_661 rfl _ _ _ 0 (Nat.le_of_ble_eq_true rfl) (by first | rfl | (simp only [dl_L0, hLL]; rfl)) ?_
  refine dl_arg (j := 1) F S dL_law_662 dL_law_663 dL_law_665 dL_law_666 dL_law_667 (by decide) (by omega) hLb _ h0 h4 (Nat.le_of_ble_eq_true rfl) ?_
  refine dl_arg (j := 2) F S dL_law_668 dL_law_669 dL_law_671 dL_law_672 dL_law_673 (by decide) (by omega) hLb _ h0 h4 (Nat.le_of_ble_eq_true rfl) ?_
  refine fd_rcv (as := [.int (xs (i + 1)), .int (xs (i + 2))]) (st := []) F (c_X11_far _ _) yv_X11_far ml_L_94 (by omega) cl11 dL_law_674 (Nat.le_of_ble_eq_true rfl) rfl rfl hx ?_
  refine fd_aload_n (i := 2) (k := 8) F dL_law_677 rfl _ _ _ 182 (Nat.le_of_ble_eq_true rfl) (by first | rfl | (simp only [dl_L0, hLL]; rfl)) ?_
  refine dl_arg (j := 1) F S dL_law_678 dL_law_679 dL_law_681 dL_law_682 dL_law_683 (by decide) (by omega) hLb _ h0 h4 (Nat.le_of_ble_eq_true rfl) ?_
  refine dl_arg (j := 2) F S dL_law_684 dL_law_685 dL_law_687 dL_law_688 dL_law_689 (by decide) (by omega) hLb _ h0 h4 (Nat.le_of_ble_eq_true rfl) ?_
  refine fd_rcv (as := [.int (xs (i + 1)), .int (xs (i + 2))]) (st := [.int v]) F (c_X12_far _ _) yv_X12_far ml_L_97 (by omega) cl12 dL_law_690 (Nat.le_of_ble_eq_true rfl) rfl rfl hm ?_
  exact dl_eq F dL_law_693 rfl kk
theorem dk_16 {X : fd_X} {Q : State → Prop} {b L : Nat} {xs : Nat → Int32} {i : Nat} {d : Nat} (F : fd_F X code RL 8 ret (d + 600)) (S : dl_S X b L xs) (hi : i + 5 ≤ L) (hLb : L ≤ 2560) {M Mx Mm : fd_M} {v : Int32} (hx : m_X11_reach [.ref 0] M = some (.int v, Mx)) (hm : m_X12_reach [.ref 182] Mx = some (.int v, Mm)) (kk : fd_W X 8 Q 1340 [] (dl_L0 b i, Mm)) : fd_W X 8 Q 698 [] (dl_L0 b i, M) := by
  have h0 : (dl_L0 b i)[0]? = some (.retAddr (b + 1)) := rfl
  have h4 : (dl_L0 b i)[4]? = some (.int (nI i)) := rfl
  refine fd_aload_n (i := 1) (k := 8) F dL_law_698 rfl _ _ _ 0 (Nat.le_of_ble_eq_true rfl) (by first | rfl | (simp only [dl_L0, hLL]; rfl)) ?_
  refine fd_rcv (as := []) (st := []) F (c_X11_reach _ _) yv_X11_reach ml_L_98 (by omega) cl11 dL_law_699 (Nat.le_of_ble_eq_true rfl) rfl rfl hx ?_
  refine fd_aload_n (i := 2) (k := 8) F dL_law_702 rfl _ _ _ 182 (Nat.le_of_ble_eq_true rfl) (by first | rfl | (simp only [dl_L0, hLL]; rfl)) ?_
  refine fd_rcv (as := []) (st := [.int v]) F (c_X12_reach _ _) yv_X12_reach ml_L_101 (by omega) cl12 dL_law_703 (Nat.le_of_ble_eq_true rfl) rfl rfl hm ?_
  exact dl_eq F dL_law_706 rfl kk
theorem dk_17 {X : fd_X} {Q : State → Prop} {b L : Nat} {xs : Nat → Int32} {i : Nat} {d : Nat} (F : fd_F X code RL 8 ret (d + 600)) (S : dl_S X b L xs) (hi : i + 5 ≤ L) (hLb : L ≤ 2560) {M Mx Mm : fd_M} {v : Int32} (hx : m_X11_comes [.ref 0, .int (xs (i + 1))] M = some (.int v, Mx)) (hm : m_X12_comes [.ref 182, .int (xs (i + 1))] Mx = some (.int v, Mm)) (kk : fd_W X 8 Q 1340 [] (dl_L0 b i, Mm)) : fd_W X 8 Q 711 [] (dl_L0 b i, M) := by
  have h0 : (dl_L0 b i)[0]? = some (.retAddr (b + 1)) := rfl
  have h4 : (dl_L0 b i)[4]? = some (.int (nI i)) := rfl
  refine fd_aload_n (i := 1) (k := 8) F dL_law_711 rfl _ _ _ 0 (Nat.le_of_ble_eq_true rfl) (by first | rfl | (simp only [dl_L0, hLL]; rfl)) ?_
  refine dl_arg (j := 1) F S dL_law_712 dL_law_713 dL_law_715 dL_law_716 dL_law_717 (by decide) (by omega) hLb _ h0 h4 (Nat.le_of_ble_eq_true rfl) ?_
  refine fd_rcv (as := [.int (xs (i + 1))]) (st := []) F (c_X11_comes _ _) yv_X11_comes ml_L_102 (by omega) cl11 dL_law_718 (Nat.le_of_ble_eq_true rfl) rfl rfl hx ?_
  refine fd_aload_n (i := 2) (k := 8) F dL_law_721 rfl _ _ _ 182 (Nat.le_of_ble_eq_true rfl) (by first | rfl | (simp only [dl_L0, hLL]; rfl)) ?_
  refine dl_arg (j := 1) F S dL_law_722 dL_law_723 dL_law_725 dL_law_726 dL_law_727 (by decide) (by omega) hLb _ h0 h4 (Nat.le_of_ble_eq_true rfl) ?_
  refine fd_rcv (as := [.int (xs (i + 1))]) (st := [.int v]) F (c_X12_comes _ _) yv_X12_comes ml_L_105 (by omega) cl12 dL_law_728 (Nat.le_of_ble_eq_true rfl) rfl rfl hm ?_
  exact dl_eq F dL_law_731 rfl kk
theorem dk_18 {X : fd_X} {Q : State → Prop} {b L : Nat} {xs : Nat → Int32} {i : Nat} {d : Nat} (F : fd_F X code RL 8 ret (d + 600)) (S : dl_S X b L xs) (hi : i + 5 ≤ L) (hLb : L ≤ 2560) {M Mx Mm : fd_M} {v : Int32} (hx : m_X11_round [.ref 0, .int (xs (i + 1))] M = some (.int v, Mx)) (hm : m_X12_round [.ref 182, .int (xs (i + 1))] Mx = some (.int v, Mm)) (kk : fd_W X 8 Q 1340 [] (dl_L0 b i, Mm)) : fd_W X 8 Q 736 [] (dl_L0 b i, M) := by
  have h0 : (dl_L0 b i)[0]? = some (.retAddr (b + 1)) := rfl
  have h4 : (dl_L0 b i)[4]? = some (.int (nI i)) := rfl
  refine fd_aload_n (i := 1) (k := 8) F dL_law_736 rfl _ _ _ 0 (Nat.le_of_ble_eq_true rfl) (by first | rfl | (simp only [dl_L0, hLL]; rfl)) ?_
  refine dl_arg (j := 1) F S dL_law_737 dL_law_738 dL_law_740 dL_law_741 dL_law_742 (by decide) (by omega) hLb _ h0 h4 (Nat.le_of_ble_eq_true rfl) ?_
  refine fd_rcv (as := [.int (xs (i + 1))]) (st := []) F (c_X11_round _ _) yv_X11_round ml_L_106 (by omega) cl11 dL_law_743 (Nat.le_of_ble_eq_true rfl) rfl rfl hx ?_
  refine fd_aload_n (i := 2) (k := 8) F dL_law_746 rfl _ _ _ 182 (Nat.le_of_ble_eq_true rfl) (by first | rfl | (simp only [dl_L0, hLL]; rfl)) ?_
  refine dl_arg (j := 1) F S dL_law_747 dL_law_748 dL_law_750 dL_law_751 dL_law_752 (by decide) (by omega) hLb _ h0 h4 (Nat.le_of_ble_eq_true rfl) ?_
  refine fd_rcv (as := [.int (xs (i + 1))]) (st := [.int v]) F (c_X12_round _ _) yv_X12_round ml_L_109 (by omega) cl12 dL_law_753 (Nat.le_of_ble_eq_true rfl) rfl rfl hm ?_
  exact dl_eq F dL_law_756 rfl kk
theorem dk_19 {X : fd_X} {Q : State → Prop} {b L : Nat} {xs : Nat → Int32} {i : Nat} {d : Nat} (F : fd_F X code RL 8 ret (d + 600)) (S : dl_S X b L xs) (hi : i + 5 ≤ L) (hLb : L ≤ 2560) {M Mx Mm : fd_M} {v : Int32} (hx : m_X11_richest [.ref 0, .int (xs (i + 1))] M = some (.int v, Mx)) (hm : m_X12_richest [.ref 182, .int (xs (i + 1))] Mx = some (.int v, Mm)) (kk : fd_W X 8 Q 1340 [] (dl_L0 b i, Mm)) : fd_W X 8 Q 761 [] (dl_L0 b i, M) := by
  have h0 : (dl_L0 b i)[0]? = some (.retAddr (b + 1)) := rfl
  have h4 : (dl_L0 b i)[4]? = some (.int (nI i)) := rfl
  refine fd_aload_n (i := 1) (k := 8) F dL_law_761 rfl _ _ _ 0 (Nat.le_of_ble_eq_true rfl) (by first | rfl | (simp only [dl_L0, hLL]; rfl)) ?_
  refine dl_arg (j := 1) F S dL_law_762 dL_law_763 dL_law_765 dL_law_766 dL_law_767 (by decide) (by omega) hLb _ h0 h4 (Nat.le_of_ble_eq_true rfl) ?_
  refine fd_rcv (as := [.int (xs (i + 1))]) (st := []) F (c_X11_richest _ _) yv_X11_richest ml_L_110 (by omega) cl11 dL_law_768 (Nat.le_of_ble_eq_true rfl) rfl rfl hx ?_
  refine fd_aload_n (i := 2) (k := 8) F dL_law_771 rfl _ _ _ 182 (Nat.le_of_ble_eq_true rfl) (by first | rfl | (simp only [dl_L0, hLL]; rfl)) ?_
  refine dl_arg (j := 1) F S dL_law_772 dL_law_773 dL_law_775 dL_law_776 dL_law_777 (by decide) (by omega) hLb _ h0 h4 (Nat.le_of_ble_eq_true rfl) ?_
  refine fd_rcv (as := [.int (xs (i + 1))]) (st := [.int v]) F (c_X12_richest _ _) yv_X12_richest ml_L_113 (by omega) cl12 dL_law_778 (Nat.le_of_ble_eq_true rfl) rfl rfl hm ?_
  exact dl_eq F dL_law_781 rfl kk
theorem dk_20 {X : fd_X} {Q : State → Prop} {b L : Nat} {xs : Nat → Int32} {i : Nat} {d : Nat} (F : fd_F X code RL 8 ret (d + 600)) (S : dl_S X b L xs) (hi : i + 5 ≤ L) (hLb : L ≤ 2560) {M Mx Mm : fd_M} {v : Int32} (hx : m_X11_all [.ref 0, .int (xs (i + 1))] M = some (.int v, Mx)) (hm : m_X12_all [.ref 182, .int (xs (i + 1))] Mx = some (.int v, Mm)) (kk : fd_W X 8 Q 1340 [] (dl_L0 b i, Mm)) : fd_W X 8 Q 786 [] (dl_L0 b i, M) := by
  have h0 : (dl_L0 b i)[0]? = some (.retAddr (b + 1)) := rfl
  have h4 : (dl_L0 b i)[4]? = some (.int (nI i)) := rfl
  refine fd_aload_n (i := 1) (k := 8) F dL_law_786 rfl _ _ _ 0 (Nat.le_of_ble_eq_true rfl) (by first | rfl | (simp only [dl_L0, hLL]; rfl)) ?_
  refine dl_arg (j := 1) F S dL_law_787 dL_law_788 dL_law_790 dL_law_791 dL_law_792 (by decide) (by omega) hLb _ h0 h4 (Nat.le_of_ble_eq_true rfl) ?_
  refine fd_rcv (as := [.int (xs (i + 1))]) (st := []) F (c_X11_all _ _) yv_X11_all ml_L_114 (by omega) cl11 dL_law_793 (Nat.le_of_ble_eq_true rfl) rfl rfl hx ?_
  refine fd_aload_n (i := 2) (k := 8) F dL_law_796 rfl _ _ _ 182 (Nat.le_of_ble_eq_true rfl) (by first | rfl | (simp only [dl_L0, hLL]; rfl)) ?_
  refine dl_arg (j := 1) F S dL_law_797 dL_law_798 dL_law_800 dL_law_801 dL_law_802 (by decide) (by omega) hLb _ h0 h4 (Nat.le_of_ble_eq_true rfl) ?_
  refine fd_rcv (as := [.int (xs (i + 1))]) (st := [.int v]) F (c_X12_all _ _) yv_X12_all ml_L_117 (by omega) cl12 dL_law_803 (Nat.le_of_ble_eq_true rfl) rfl rfl hm ?_
  exact dl_eq F dL_law_806 rfl kk
theorem dk_21 {X : fd_X} {Q : State → Prop} {b L : Nat} {xs : Nat → Int32} {i : Nat} {d : Nat} (F : fd_F X code RL 8 ret (d + 600)) (S : dl_S X b L xs) (hi : i + 5 ≤ L) (hLb : L ≤ 2560) {M Mx Mm : fd_M} {v : Int32} (hx : m_X11_clash [.ref 0] M = some (.int v, Mx)) (hm : m_X12_clash [.ref 182] Mx = some (.int v, Mm)) (kk : fd_W X 8 Q 1340 [] (dl_L0 b i, Mm)) : fd_W X 8 Q 811 [] (dl_L0 b i, M) := by
  have h0 : (dl_L0 b i)[0]? = some (.retAddr (b + 1)) := rfl
  have h4 : (dl_L0 b i)[4]? = some (.int (nI i)) := rfl
  refine fd_aload_n (i := 1) (k := 8) F dL_law_811 rfl _ _ _ 0 (Nat.le_of_ble_eq_true rfl) (by first | rfl | (simp only [dl_L0, hLL]; rfl)) ?_
  refine fd_rcv (as := []) (st := []) F (c_X11_clash _ _) yv_X11_clash ml_L_118 (by omega) cl11 dL_law_812 (Nat.le_of_ble_eq_true rfl) rfl rfl hx ?_
  refine fd_aload_n (i := 2) (k := 8) F dL_law_815 rfl _ _ _ 182 (Nat.le_of_ble_eq_true rfl) (by first | rfl | (simp only [dl_L0, hLL]; rfl)) ?_
  refine fd_rcv (as := []) (st := [.int v]) F (c_X12_clash _ _) yv_X12_clash ml_L_121 (by omega) cl12 dL_law_816 (Nat.le_of_ble_eq_true rfl) rfl rfl hm ?_
  exact dl_eq F dL_law_819 rfl kk
theorem dk_22 {X : fd_X} {Q : State → Prop} {b L : Nat} {xs : Nat → Int32} {i : Nat} {d : Nat} (F : fd_F X code RL 8 ret (d + 600)) (S : dl_S X b L xs) (hi : i + 5 ≤ L) (hLb : L ≤ 2560) {M Mx Mm : fd_M} {v : Int32} (hx : m_X11_worth [.ref 0, .int (xs (i + 1)), .int (xs (i + 2))] M = some (.int v, Mx)) (hm : m_X12_worth [.ref 182, .int (xs (i + 1)), .int (xs (i + 2))] Mx = some (.int v, Mm)) (kk : fd_W X 8 Q 1340 [] (dl_L0 b i, Mm)) : fd_W X 8 Q 824 [] (dl_L0 b i, M) := by
  have h0 : (dl_L0 b i)[0]? = some (.retAddr (b + 1)) := rfl
  have h4 : (dl_L0 b i)[4]? = some (.int (nI i)) := rfl
  refine fd_aload_n (i := 1) (k := 8) F dL_law_824 rfl _ _ _ 0 (Nat.le_of_ble_eq_true rfl) (by first | rfl | (simp only [dl_L0, hLL]; rfl)) ?_
  refine dl_arg (j := 1) F S dL_law_825 dL_law_826 dL_law_828 dL_law_829 dL_law_830 (by decide) (by omega) hLb _ h0 h4 (Nat.le_of_ble_eq_true rfl) ?_
  refine dl_arg (j := 2) F S dL_law_831 dL_law_832 dL_law_834 dL_law_835 dL_law_836 (by decide) (by omega) hLb _ h0 h4 (Nat.le_of_ble_eq_true rfl) ?_
  refine fd_rcv (as := [.int (xs (i + 1)), .int (xs (i + 2))]) (st := []) F (c_X11_worth _ _) yv_X11_worth ml_L_122 (by omega) cl11 dL_law_837 (Nat.le_of_ble_eq_true rfl) rfl rfl hx ?_
  refine fd_aload_n (i := 2) (k := 8) F dL_law_840 rfl _ _ _ 182 (Nat.le_of_ble_eq_true rfl) (by first | rfl | (simp only [dl_L0, hLL]; rfl)) ?_
  refine dl_arg (j := 1) F S dL_law_841 dL_law_842 dL_law_844 dL_law_845 dL_law_846 (by decide) (by omega) hLb _ h0 h4 (Nat.le_of_ble_eq_true rfl) ?_
  refine dl_arg (j := 2) F S dL_law_847 dL_law_848 dL_law_850 dL_law_851 dL_law_852 (by decide) (by omega) hLb _ h0 h4 (Nat.le_of_ble_eq_true rfl) ?_
  refine fd_rcv (as := [.int (xs (i + 1)), .int (xs (i + 2))]) (st := [.int v]) F (c_X12_worth _ _) yv_X12_worth ml_L_125 (by omega) cl12 dL_law_853 (Nat.le_of_ble_eq_true rfl) rfl rfl hm ?_
  exact dl_eq F dL_law_856 rfl kk
theorem dk_23 {X : fd_X} {Q : State → Prop} {b L : Nat} {xs : Nat → Int32} {i : Nat} {d : Nat} (F : fd_F X code RL 8 ret (d + 600)) (S : dl_S X b L xs) (hi : i + 5 ≤ L) (hLb : L ≤ 2560) {M Mx Mm : fd_M} {v : Int32} (hx : m_X11_longer [.ref 0, .int (xs (i + 1))] M = some (.int v, Mx)) (hm : m_X12_longer [.ref 182, .int (xs (i + 1))] Mx = some (.int v, Mm)) (kk : fd_W X 8 Q 1340 [] (dl_L0 b i, Mm)) : fd_W X 8 Q 861 [] (dl_L0 b i, M) := by
  have h0 : (dl_L0 b i)[0]? = some (.retAddr (b + 1)) := rfl
  have h4 : (dl_L0 b i)[4]? = some (.int (nI i)) := rfl
  refine fd_aload_n (i := 1) (k := 8) F dL_law_861 rfl _ _ _ 0 (Nat.le_of_ble_eq_true rfl) (by first | rfl | (simp only [dl_L0, hLL]; rfl)) ?_
  refine dl_arg (j := 1) F S dL_law_862 dL_law_863 dL_law_865 dL_law_866 dL_law_867 (by decide) (by omega) hLb _ h0 h4 (Nat.le_of_ble_eq_true rfl) ?_
  refine fd_rcv (as := [.int (xs (i + 1))]) (st := []) F (c_X11_longer _ _) yv_X11_longer ml_L_126 (by omega) cl11 dL_law_868 (Nat.le_of_ble_eq_true rfl) rfl rfl hx ?_
  refine fd_aload_n (i := 2) (k := 8) F dL_law_871 rfl _ _ _ 182 (Nat.le_of_ble_eq_true rfl) (by first | rfl | (simp only [dl_L0, hLL]; rfl)) ?_
  refine dl_arg (j := 1) F S dL_law_872 dL_law_873 dL_law_875 dL_law_876 dL_law_877 (by decide) (by omega) hLb _ h0 h4 (Nat.le_of_ble_eq_true rfl) ?_
  refine fd_rcv (as := [.int (xs (i + 1))]) (st := [.int v]) F (c_X12_longer _ _) yv_X12_longer ml_L_129 (by omega) cl12 dL_law_878 (Nat.le_of_ble_eq_true rfl) rfl rfl hm ?_
  exact dl_eq F dL_law_881 rfl kk
theorem dk_24 {X : fd_X} {Q : State → Prop} {b L : Nat} {xs : Nat → Int32} {i : Nat} {d : Nat} (F : fd_F X code RL 8 ret (d + 600)) (S : dl_S X b L xs) (hi : i + 5 ≤ L) (hLb : L ≤ 2560) {M Mx Mm : fd_M} {v : Int32} (hx : m_X11_learns [.ref 0, .int (xs (i + 1))] M = some (.int v, Mx)) (hm : m_X12_learns [.ref 182, .int (xs (i + 1))] Mx = some (.int v, Mm)) (kk : fd_W X 8 Q 1340 [] (dl_L0 b i, Mm)) : fd_W X 8 Q 886 [] (dl_L0 b i, M) := by
  have h0 : (dl_L0 b i)[0]? = some (.retAddr (b + 1)) := rfl
  have h4 : (dl_L0 b i)[4]? = some (.int (nI i)) := rfl
  refine fd_aload_n (i := 1) (k := 8) F dL_law_886 rfl _ _ _ 0 (Nat.le_of_ble_eq_true rfl) (by first | rfl | (simp only [dl_L0, hLL]; rfl)) ?_
  refine dl_arg (j := 1) F S dL_law_887 dL_law_888 dL_law_890 dL_law_891 dL_law_892 (by decide) (by omega) hLb _ h0 h4 (Nat.le_of_ble_eq_true rfl) ?_
  refine fd_rcv (as := [.int (xs (i + 1))]) (st := []) F (c_X11_learns _ _) yv_X11_learns ml_L_130 (by omega) cl11 dL_law_893 (Nat.le_of_ble_eq_true rfl) rfl rfl hx ?_
  refine fd_aload_n (i := 2) (k := 8) F dL_law_896 rfl _ _ _ 182 (Nat.le_of_ble_eq_true rfl) (by first | rfl | (simp only [dl_L0, hLL]; rfl)) ?_
  refine dl_arg (j := 1) F S dL_law_897 dL_law_898 dL_law_900 dL_law_901 dL_law_902 (by decide) (by omega) hLb _ h0 h4 (Nat.le_of_ble_eq_true rfl) ?_
  refine fd_rcv (as := [.int (xs (i + 1))]) (st := [.int v]) F (c_X12_learns _ _) yv_X12_learns ml_L_133 (by omega) cl12 dL_law_903 (Nat.le_of_ble_eq_true rfl) rfl rfl hm ?_
  exact dl_eq F dL_law_906 rfl kk
theorem dk_25 {X : fd_X} {Q : State → Prop} {b L : Nat} {xs : Nat → Int32} {i : Nat} {d : Nat} (F : fd_F X code RL 8 ret (d + 600)) (S : dl_S X b L xs) (hi : i + 5 ≤ L) (hLb : L ≤ 2560) {M Mx Mm : fd_M} {v : Int32} (hx : m_X11_second [.ref 0, .int (xs (i + 1)), .int (xs (i + 2))] M = some (.int v, Mx)) (hm : m_X12_second [.ref 182, .int (xs (i + 1)), .int (xs (i + 2))] Mx = some (.int v, Mm)) (kk : fd_W X 8 Q 1340 [] (dl_L0 b i, Mm)) : fd_W X 8 Q 911 [] (dl_L0 b i, M) := by
  have h0 : (dl_L0 b i)[0]? = some (.retAddr (b + 1)) := rfl
  have h4 : (dl_L0 b i)[4]? = some (.int (nI i)) := rfl
  refine fd_aload_n (i := 1) (k := 8) F dL_law_911 rfl _ _ _ 0 (Nat.le_of_ble_eq_true rfl) (by first | rfl | (simp only [dl_L0, hLL]; rfl)) ?_
  refine dl_arg (j := 1) F S dL_law_912 dL_law_913 dL_law_915 dL_law_916 dL_law_917 (by decide) (by omega) hLb _ h0 h4 (Nat.le_of_ble_eq_true rfl) ?_
  refine dl_arg (j := 2) F S dL_law_918 dL_law_919 dL_law_921 dL_law_922 dL_law_923 (by decide) (by omega) hLb _ h0 h4 (Nat.le_of_ble_eq_true rfl) ?_
  refine fd_rcv (as := [.int (xs (i + 1)), .int (xs (i + 2))]) (st := []) F (c_X11_second _ _) yv_X11_second ml_L_134 (by omega) cl11 dL_law_924 (Nat.le_of_ble_eq_true rfl) rfl rfl hx ?_
  refine fd_aload_n (i := 2) (k := 8) F dL_law_927 rfl _ _ _ 182 (Nat.le_of_ble_eq_true rfl) (by first | rfl | (simp only [dl_L0, hLL]; rfl)) ?_
  refine dl_arg (j := 1) F S dL_law_928 dL_law_929 dL_law_931 dL_law_932 dL_law_933 (by decide) (by omega) hLb _ h0 h4 (Nat.le_of_ble_eq_true rfl) ?_
  refine dl_arg (j := 2) F S dL_law_934 dL_law_935 dL_law_937 dL_law_938 dL_law_939 (by decide) (by omega) hLb _ h0 h4 (Nat.le_of_ble_eq_true rfl) ?_
  refine fd_rcv (as := [.int (xs (i + 1)), .int (xs (i + 2))]) (st := [.int v]) F (c_X12_second _ _) yv_X12_second ml_L_137 (by omega) cl12 dL_law_940 (Nat.le_of_ble_eq_true rfl) rfl rfl hm ?_
  exact dl_eq F dL_law_943 rfl kk
theorem dk_26 {X : fd_X} {Q : State → Prop} {b L : Nat} {xs : Nat → Int32} {i : Nat} {d : Nat} (F : fd_F X code RL 8 ret (d + 600)) (S : dl_S X b L xs) (hi : i + 5 ≤ L) (hLb : L ≤ 2560) {M Mx Mm : fd_M} {v : Int32} (hx : m_X11_tune [.ref 0, .int (xs (i + 1))] M = some (.int v, Mx)) (hm : m_X12_tune [.ref 182, .int (xs (i + 1))] Mx = some (.int v, Mm)) (kk : fd_W X 8 Q 1340 [] (dl_L0 b i, Mm)) : fd_W X 8 Q 948 [] (dl_L0 b i, M) := by
  have h0 : (dl_L0 b i)[0]? = some (.retAddr (b + 1)) := rfl
  have h4 : (dl_L0 b i)[4]? = some (.int (nI i)) := rfl
  refine fd_aload_n (i := 1) (k := 8) F dL_law_948 rfl _ _ _ 0 (Nat.le_of_ble_eq_true rfl) (by first | rfl | (simp only [dl_L0, hLL]; rfl)) ?_
  refine dl_arg (j := 1) F S dL_law_949 dL_law_950 dL_law_952 dL_law_953 dL_law_954 (by decide) (by omega) hLb _ h0 h4 (Nat.le_of_ble_eq_true rfl) ?_
  refine fd_rcv (as := [.int (xs (i + 1))]) (st := []) F (c_X11_tune _ _) yv_X11_tune ml_L_138 (by omega) cl11 dL_law_955 (Nat.le_of_ble_eq_true rfl) rfl rfl hx ?_
  refine fd_aload_n (i := 2) (k := 8) F dL_law_958 rfl _ _ _ 182 (Nat.le_of_ble_eq_true rfl) (by first | rfl | (simp only [dl_L0, hLL]; rfl)) ?_
  refine dl_arg (j := 1) F S dL_law_959 dL_law_960 dL_law_962 dL_law_963 dL_law_964 (by decide) (by omega) hLb _ h0 h4 (Nat.le_of_ble_eq_true rfl) ?_
  refine fd_rcv (as := [.int (xs (i + 1))]) (st := [.int v]) F (c_X12_tune _ _) yv_X12_tune ml_L_141 (by omega) cl12 dL_law_965 (Nat.le_of_ble_eq_true rfl) rfl rfl hm ?_
  exact dl_eq F dL_law_968 rfl kk
theorem dk_27 {X : fd_X} {Q : State → Prop} {b L : Nat} {xs : Nat → Int32} {i : Nat} {d : Nat} (F : fd_F X code RL 8 ret (d + 600)) (S : dl_S X b L xs) (hi : i + 5 ≤ L) (hLb : L ≤ 2560) {M Mx Mm : fd_M} {v : Int32} (hx : m_X11_hush [.ref 0] M = some (.int v, Mx)) (hm : m_X12_hush [.ref 182] Mx = some (.int v, Mm)) (kk : fd_W X 8 Q 1340 [] (dl_L0 b i, Mm)) : fd_W X 8 Q 973 [] (dl_L0 b i, M) := by
  have h0 : (dl_L0 b i)[0]? = some (.retAddr (b + 1)) := rfl
  have h4 : (dl_L0 b i)[4]? = some (.int (nI i)) := rfl
  refine fd_aload_n (i := 1) (k := 8) F dL_law_973 rfl _ _ _ 0 (Nat.le_of_ble_eq_true rfl) (by first | rfl | (simp only [dl_L0, hLL]; rfl)) ?_
  refine fd_rcv (as := []) (st := []) F (c_X11_hush _ _) yv_X11_hush ml_L_142 (by omega) cl11 dL_law_974 (Nat.le_of_ble_eq_true rfl) rfl rfl hx ?_
  refine fd_aload_n (i := 2) (k := 8) F dL_law_977 rfl _ _ _ 182 (Nat.le_of_ble_eq_true rfl) (by first | rfl | (simp only [dl_L0, hLL]; rfl)) ?_
  refine fd_rcv (as := []) (st := [.int v]) F (c_X12_hush _ _) yv_X12_hush ml_L_145 (by omega) cl12 dL_law_978 (Nat.le_of_ble_eq_true rfl) rfl rfl hm ?_
  exact dl_eq F dL_law_981 rfl kk
theorem dk_28 {X : fd_X} {Q : State → Prop} {b L : Nat} {xs : Nat → Int32} {i : Nat} {d : Nat} (F : fd_F X code RL 8 ret (d + 600)) (S : dl_S X b L xs) (hi : i + 5 ≤ L) (hLb : L ≤ 2560) {M Mx Mm : fd_M} {v : Int32} (hx : m_X11_differ [.ref 0, .int (xs (i + 1)), .int (xs (i + 2))] M = some (.int v, Mx)) (hm : m_X12_differ [.ref 182, .int (xs (i + 1)), .int (xs (i + 2))] Mx = some (.int v, Mm)) (kk : fd_W X 8 Q 1340 [] (dl_L0 b i, Mm)) : fd_W X 8 Q 986 [] (dl_L0 b i, M) := by
  have h0 : (dl_L0 b i)[0]? = some (.retAddr (b + 1)) := rfl
  have h4 : (dl_L0 b i)[4]? = some (.int (nI i)) := rfl
  refine fd_aload_n (i := 1) (k := 8) F dL_law_986 rfl _ _ _ 0 (Nat.le_of_ble_eq_true rfl) (by first | rfl | (simp only [dl_L0, hLL]; rfl)) ?_
  refine dl_arg (j := 1) F S dL_law_987 dL_law_988 dL_law_990 dL_law_991 dL_law_992 (by decide) (by omega) hLb _ h0 h4 (Nat.le_of_ble_eq_true rfl) ?_
  refine dl_arg (j := 2) F S dL_law_993 dL_law_994 dL_law_996 dL_law_997 dL_law_998 (by decide) (by omega) hLb _ h0 h4 (Nat.le_of_ble_eq_true rfl) ?_
  refine fd_rcv (as := [.int (xs (i + 1)), .int (xs (i + 2))]) (st := []) F (c_X11_differ _ _) yv_X11_differ ml_L_146 (by omega) cl11 dL_law_999 (Nat.le_of_ble_eq_true rfl) rfl rfl hx ?_
  refine fd_aload_n (i := 2) (k := 8) F dL_law_1002 rfl _ _ _ 182 (Nat.le_of_ble_eq_true rfl) (by first | rfl | (simp only [dl_L0, hLL]; rfl)) ?_
  refine dl_arg (j := 1) F S dL_law_1003 dL_law_1004 dL_law_1006 dL_law_1007 dL_law_1008 (by decide) (by omega) hLb _ h0 h4 (Nat.le_of_ble_eq_true rfl) ?_
  refine dl_arg (j := 2) F S dL_law_1009 dL_law_1010 dL_law_1012 dL_law_1013 dL_law_1014 (by decide) (by omega) hLb _ h0 h4 (Nat.le_of_ble_eq_true rfl) ?_
  refine fd_rcv (as := [.int (xs (i + 1)), .int (xs (i + 2))]) (st := [.int v]) F (c_X12_differ _ _) yv_X12_differ ml_L_149 (by omega) cl12 dL_law_1015 (Nat.le_of_ble_eq_true rfl) rfl rfl hm ?_
  exact dl_eq F dL_law_1018 rfl kk
theorem dk_29 {X : fd_X} {Q : State → Prop} {b L : Nat} {xs : Nat → Int32} {i : Nat} {d : Nat} (F : fd_F X code RL 8 ret (d + 600)) (S : dl_S X b L xs) (hi : i + 5 ≤ L) (hLb : L ≤ 2560) {M Mx Mm : fd_M} {v : Int32} (hx : m_X11_whence [.ref 0] M = some (.int v, Mx)) (hm : m_X12_whence [.ref 182] Mx = some (.int v, Mm)) (kk : fd_W X 8 Q 1340 [] (dl_L0 b i, Mm)) : fd_W X 8 Q 1023 [] (dl_L0 b i, M) := by
  have h0 : (dl_L0 b i)[0]? = some (.retAddr (b + 1)) := rfl
  have h4 : (dl_L0 b i)[4]? = some (.int (nI i)) := rfl
  refine fd_aload_n (i := 1) (k := 8) F dL_law_1023 rfl _ _ _ 0 (Nat.le_of_ble_eq_true rfl) (by first | rfl | (simp only [dl_L0, hLL]; rfl)) ?_
  refine fd_rcv (as := []) (st := []) F (c_X11_whence _ _) yv_X11_whence ml_L_150 (by omega) cl11 dL_law_1024 (Nat.le_of_ble_eq_true rfl) rfl rfl hx ?_
  refine fd_aload_n (i := 2) (k := 8) F dL_law_1027 rfl _ _ _ 182 (Nat.le_of_ble_eq_true rfl) (by first | rfl | (simp only [dl_L0, hLL]; rfl)) ?_
  refine fd_rcv (as := []) (st := [.int v]) F (c_X12_whence _ _) yv_X12_whence ml_L_153 (by omega) cl12 dL_law_1028 (Nat.le_of_ble_eq_true rfl) rfl rfl hm ?_
  exact dl_eq F dL_law_1031 rfl kk
theorem dk_30 {X : fd_X} {Q : State → Prop} {b L : Nat} {xs : Nat → Int32} {i : Nat} {d : Nat} (F : fd_F X code RL 8 ret (d + 600)) (S : dl_S X b L xs) (hi : i + 5 ≤ L) (hLb : L ≤ 2560) {M Mx Mm : fd_M} {v : Int32} (hx : m_X11_tree [.ref 0] M = some (.int v, Mx)) (hm : m_X12_tree [.ref 182] Mx = some (.int v, Mm)) (kk : fd_W X 8 Q 1340 [] (dl_L0 b i, Mm)) : fd_W X 8 Q 1036 [] (dl_L0 b i, M) := by
  have h0 : (dl_L0 b i)[0]? = some (.retAddr (b + 1)) := rfl
  have h4 : (dl_L0 b i)[4]? = some (.int (nI i)) := rfl
  refine fd_aload_n (i := 1) (k := 8) F dL_law_1036 rfl _ _ _ 0 (Nat.le_of_ble_eq_true rfl) (by first | rfl | (simp only [dl_L0, hLL]; rfl)) ?_
  refine fd_rcv (as := []) (st := []) F (c_X11_tree _ _) yv_X11_tree ml_L_154 (by omega) cl11 dL_law_1037 (Nat.le_of_ble_eq_true rfl) rfl rfl hx ?_
  refine fd_aload_n (i := 2) (k := 8) F dL_law_1040 rfl _ _ _ 182 (Nat.le_of_ble_eq_true rfl) (by first | rfl | (simp only [dl_L0, hLL]; rfl)) ?_
  refine fd_rcv (as := []) (st := [.int v]) F (c_X12_tree _ _) yv_X12_tree ml_L_157 (by omega) cl12 dL_law_1041 (Nat.le_of_ble_eq_true rfl) rfl rfl hm ?_
  exact dl_eq F dL_law_1044 rfl kk
theorem dk_31 {X : fd_X} {Q : State → Prop} {b L : Nat} {xs : Nat → Int32} {i : Nat} {d : Nat} (F : fd_F X code RL 8 ret (d + 600)) (S : dl_S X b L xs) (hi : i + 5 ≤ L) (hLb : L ≤ 2560) {M Mx Mm : fd_M} {v : Int32} (hx : m_X11_got [.ref 0] M = some (.int v, Mx)) (hm : m_X12_got [.ref 182] Mx = some (.int v, Mm)) (kk : fd_W X 8 Q 1340 [] (dl_L0 b i, Mm)) : fd_W X 8 Q 1049 [] (dl_L0 b i, M) := by
  have h0 : (dl_L0 b i)[0]? = some (.retAddr (b + 1)) := rfl
  have h4 : (dl_L0 b i)[4]? = some (.int (nI i)) := rfl
  refine fd_aload_n (i := 1) (k := 8) F dL_law_1049 rfl _ _ _ 0 (Nat.le_of_ble_eq_true rfl) (by first | rfl | (simp only [dl_L0, hLL]; rfl)) ?_
  refine fd_rcv (as := []) (st := []) F (c_X11_got _ _) yv_X11_got ml_L_158 (by omega) cl11 dL_law_1050 (Nat.le_of_ble_eq_true rfl) rfl rfl hx ?_
  refine fd_aload_n (i := 2) (k := 8) F dL_law_1053 rfl _ _ _ 182 (Nat.le_of_ble_eq_true rfl) (by first | rfl | (simp only [dl_L0, hLL]; rfl)) ?_
  refine fd_rcv (as := []) (st := [.int v]) F (c_X12_got _ _) yv_X12_got ml_L_161 (by omega) cl12 dL_law_1054 (Nat.le_of_ble_eq_true rfl) rfl rfl hm ?_
  exact dl_eq F dL_law_1057 rfl kk
theorem dk_32 {X : fd_X} {Q : State → Prop} {b L : Nat} {xs : Nat → Int32} {i : Nat} {d : Nat} (F : fd_F X code RL 8 ret (d + 600)) (S : dl_S X b L xs) (hi : i + 5 ≤ L) (hLb : L ≤ 2560) {M Mx Mm : fd_M} {v : Int32} (hx : m_X11_breaks [.ref 0, .int (xs (i + 1)), .int (xs (i + 2))] M = some (.int v, Mx)) (hm : m_X12_breaks [.ref 182, .int (xs (i + 1)), .int (xs (i + 2))] Mx = some (.int v, Mm)) (kk : fd_W X 8 Q 1340 [] (dl_L0 b i, Mm)) : fd_W X 8 Q 1062 [] (dl_L0 b i, M) := by
  have h0 : (dl_L0 b i)[0]? = some (.retAddr (b + 1)) := rfl
  have h4 : (dl_L0 b i)[4]? = some (.int (nI i)) := rfl
  refine fd_aload_n (i := 1) (k := 8) F dL_law_1062 rfl _ _ _ 0 (Nat.le_of_ble_eq_true rfl) (by first | rfl | (simp only [dl_L0, hLL]; rfl)) ?_
  refine dl_arg (j := 1) F S dL_law_1063 dL_law_1064 dL_law_1066 dL_law_1067 dL_law_1068 (by decide) (by omega) hLb _ h0 h4 (Nat.le_of_ble_eq_true rfl) ?_
  refine dl_arg (j := 2) F S dL_law_1069 dL_law_1070 dL_law_1072 dL_law_1073 dL_law_1074 (by decide) (by omega) hLb _ h0 h4 (Nat.le_of_ble_eq_true rfl) ?_
  refine fd_rcv (as := [.int (xs (i + 1)), .int (xs (i + 2))]) (st := []) F (c_X11_breaks _ _) yv_X11_breaks ml_L_162 (by omega) cl11 dL_law_1075 (Nat.le_of_ble_eq_true rfl) rfl rfl hx ?_
  refine fd_aload_n (i := 2) (k := 8) F dL_law_1078 rfl _ _ _ 182 (Nat.le_of_ble_eq_true rfl) (by first | rfl | (simp only [dl_L0, hLL]; rfl)) ?_
  refine dl_arg (j := 1) F S dL_law_1079 dL_law_1080 dL_law_1082 dL_law_1083 dL_law_1084 (by decide) (by omega) hLb _ h0 h4 (Nat.le_of_ble_eq_true rfl) ?_
  refine dl_arg (j := 2) F S dL_law_1085 dL_law_1086 dL_law_1088 dL_law_1089 dL_law_1090 (by decide) (by omega) hLb _ h0 h4 (Nat.le_of_ble_eq_true rfl) ?_
  refine fd_rcv (as := [.int (xs (i + 1)), .int (xs (i + 2))]) (st := [.int v]) F (c_X12_breaks _ _) yv_X12_breaks ml_L_165 (by omega) cl12 dL_law_1091 (Nat.le_of_ble_eq_true rfl) rfl rfl hm ?_
  exact dl_eq F dL_law_1094 rfl kk
theorem dk_33 {X : fd_X} {Q : State → Prop} {b L : Nat} {xs : Nat → Int32} {i : Nat} {d : Nat} (F : fd_F X code RL 8 ret (d + 600)) (S : dl_S X b L xs) (hi : i + 5 ≤ L) (hLb : L ≤ 2560) {M Mx Mm : fd_M} {v : Int32} (hx : m_X11_bids [.ref 0, .int (xs (i + 1)), .int (xs (i + 2)), .int (xs (i + 3))] M = some (.int v, Mx)) (hm : m_X12_bids [.ref 182, .int (xs (i + 1)), .int (xs (i + 2)), .int (xs (i + 3))] Mx = some (.int v, Mm)) (kk : fd_W X 8 Q 1340 [] (dl_L0 b i, Mm)) : fd_W X 8 Q 1099 [] (dl_L0 b i, M) := by
  have h0 : (dl_L0 b i)[0]? = some (.retAddr (b + 1)) := rfl
  have h4 : (dl_L0 b i)[4]? = some (.int (nI i)) := rfl
  refine fd_aload_n (i := 1) (k := 8) F dL_law_1099 rfl _ _ _ 0 (Nat.le_of_ble_eq_true rfl) (by first | rfl | (simp only [dl_L0, hLL]; rfl)) ?_
  refine dl_arg (j := 1) F S dL_law_1100 dL_law_1101 dL_law_1103 dL_law_1104 dL_law_1105 (by decide) (by omega) hLb _ h0 h4 (Nat.le_of_ble_eq_true rfl) ?_
  refine dl_arg (j := 2) F S dL_law_1106 dL_law_1107 dL_law_1109 dL_law_1110 dL_law_1111 (by decide) (by omega) hLb _ h0 h4 (Nat.le_of_ble_eq_true rfl) ?_
  refine dl_arg (j := 3) F S dL_law_1112 dL_law_1113 dL_law_1115 dL_law_1116 dL_law_1117 (by decide) (by omega) hLb _ h0 h4 (Nat.le_of_ble_eq_true rfl) ?_
  refine fd_rcv (as := [.int (xs (i + 1)), .int (xs (i + 2)), .int (xs (i + 3))]) (st := []) F (c_X11_bids _ _) yv_X11_bids ml_L_166 (by omega) cl11 dL_law_1118 (Nat.le_of_ble_eq_true rfl) rfl rfl hx ?_
  refine fd_aload_n (i := 2) (k := 8) F dL_law_1121 rfl _ _ _ 182 (Nat.le_of_ble_eq_true rfl) (by first | rfl | (simp only [dl_L0, hLL]; rfl)) ?_
  refine dl_arg (j := 1) F S dL_law_1122 dL_law_1123 dL_law_1125 dL_law_1126 dL_law_1127 (by decide) (by omega) hLb _ h0 h4 (Nat.le_of_ble_eq_true rfl) ?_
  refine dl_arg (j := 2) F S dL_law_1128 dL_law_1129 dL_law_1131 dL_law_1132 dL_law_1133 (by decide) (by omega) hLb _ h0 h4 (Nat.le_of_ble_eq_true rfl) ?_
  refine dl_arg (j := 3) F S dL_law_1134 dL_law_1135 dL_law_1137 dL_law_1138 dL_law_1139 (by decide) (by omega) hLb _ h0 h4 (Nat.le_of_ble_eq_true rfl) ?_
  refine fd_rcv (as := [.int (xs (i + 1)), .int (xs (i + 2)), .int (xs (i + 3))]) (st := [.int v]) F (c_X12_bids _ _) yv_X12_bids ml_L_170 (by omega) cl12 dL_law_1140 (Nat.le_of_ble_eq_true rfl) rfl rfl hm ?_
  exact dl_eq F dL_law_1143 rfl kk
theorem dk_34 {X : fd_X} {Q : State → Prop} {b L : Nat} {xs : Nat → Int32} {i : Nat} {d : Nat} (F : fd_F X code RL 8 ret (d + 600)) (S : dl_S X b L xs) (hi : i + 5 ≤ L) (hLb : L ≤ 2560) {M Mx Mm : fd_M} {v : Int32} (hx : m_X11_kinds [.ref 0, .int (xs (i + 1))] M = some (.int v, Mx)) (hm : m_X12_kinds [.ref 182, .int (xs (i + 1))] Mx = some (.int v, Mm)) (kk : fd_W X 8 Q 1340 [] (dl_L0 b i, Mm)) : fd_W X 8 Q 1148 [] (dl_L0 b i, M) := by
  have h0 : (dl_L0 b i)[0]? = some (.retAddr (b + 1)) := rfl
  have h4 : (dl_L0 b i)[4]? = some (.int (nI i)) := rfl
  refine fd_aload_n (i := 1) (k := 8) F dL_law_1148 rfl _ _ _ 0 (Nat.le_of_ble_eq_true rfl) (by first | rfl | (simp only [dl_L0, hLL]; rfl)) ?_
  refine dl_arg (j := 1) F S dL_law_1149 dL_law_1150 dL_law_1152 dL_law_1153 dL_law_1154 (by decide) (by omega) hLb _ h0 h4 (Nat.le_of_ble_eq_true rfl) ?_
  refine fd_rcv (as := [.int (xs (i + 1))]) (st := []) F (c_X11_kinds _ _) yv_X11_kinds ml_L_171 (by omega) cl11 dL_law_1155 (Nat.le_of_ble_eq_true rfl) rfl rfl hx ?_
  refine fd_aload_n (i := 2) (k := 8) F dL_law_1158 rfl _ _ _ 182 (Nat.le_of_ble_eq_true rfl) (by first | rfl | (simp only [dl_L0, hLL]; rfl)) ?_
  refine dl_arg (j := 1) F S dL_law_1159 dL_law_1160 dL_law_1162 dL_law_1163 dL_law_1164 (by decide) (by omega) hLb _ h0 h4 (Nat.le_of_ble_eq_true rfl) ?_
  refine fd_rcv (as := [.int (xs (i + 1))]) (st := [.int v]) F (c_X12_kinds _ _) yv_X12_kinds ml_L_174 (by omega) cl12 dL_law_1165 (Nat.le_of_ble_eq_true rfl) rfl rfl hm ?_
  exact dl_eq F dL_law_1168 rfl kk
theorem dk_35 {X : fd_X} {Q : State → Prop} {b L : Nat} {xs : Nat → Int32} {i : Nat} {d : Nat} (F : fd_F X code RL 8 ret (d + 600)) (S : dl_S X b L xs) (hi : i + 5 ≤ L) (hLb : L ≤ 2560) {M Mx Mm : fd_M} {v : Int32} (hx : m_X11_years [.ref 0, .int (xs (i + 1)), .int (xs (i + 2))] M = some (.int v, Mx)) (hm : m_X12_years [.ref 182, .int (xs (i + 1)), .int (xs (i + 2))] Mx = some (.int v, Mm)) (kk : fd_W X 8 Q 1340 [] (dl_L0 b i, Mm)) : fd_W X 8 Q 1173 [] (dl_L0 b i, M) := by
  have h0 : (dl_L0 b i)[0]? = some (.retAddr (b + 1)) := rfl
  have h4 : (dl_L0 b i)[4]? = some (.int (nI i)) := rfl
  refine fd_aload_n (i := 1) (k := 8) F dL_law_1173 rfl _ _ _ 0 (Nat.le_of_ble_eq_true rfl) (by first | rfl | (simp only [dl_L0, hLL]; rfl)) ?_
  refine dl_arg (j := 1) F S dL_law_1174 dL_law_1175 dL_law_1177 dL_law_1178 dL_law_1179 (by decide) (by omega) hLb _ h0 h4 (Nat.le_of_ble_eq_true rfl) ?_
  refine dl_arg (j := 2) F S dL_law_1180 dL_law_1181 dL_law_1183 dL_law_1184 dL_law_1185 (by decide) (by omega) hLb _ h0 h4 (Nat.le_of_ble_eq_true rfl) ?_
  refine fd_rcv (as := [.int (xs (i + 1)), .int (xs (i + 2))]) (st := []) F (c_X11_years _ _) yv_X11_years ml_L_175 (by omega) cl11 dL_law_1186 (Nat.le_of_ble_eq_true rfl) rfl rfl hx ?_
  refine fd_aload_n (i := 2) (k := 8) F dL_law_1189 rfl _ _ _ 182 (Nat.le_of_ble_eq_true rfl) (by first | rfl | (simp only [dl_L0, hLL]; rfl)) ?_
  refine dl_arg (j := 1) F S dL_law_1190 dL_law_1191 dL_law_1193 dL_law_1194 dL_law_1195 (by decide) (by omega) hLb _ h0 h4 (Nat.le_of_ble_eq_true rfl) ?_
  refine dl_arg (j := 2) F S dL_law_1196 dL_law_1197 dL_law_1199 dL_law_1200 dL_law_1201 (by decide) (by omega) hLb _ h0 h4 (Nat.le_of_ble_eq_true rfl) ?_
  refine fd_rcv (as := [.int (xs (i + 1)), .int (xs (i + 2))]) (st := [.int v]) F (c_X12_years _ _) yv_X12_years ml_L_178 (by omega) cl12 dL_law_1202 (Nat.le_of_ble_eq_true rfl) rfl rfl hm ?_
  exact dl_eq F dL_law_1205 rfl kk
theorem dk_36 {X : fd_X} {Q : State → Prop} {b L : Nat} {xs : Nat → Int32} {i : Nat} {d : Nat} (F : fd_F X code RL 8 ret (d + 600)) (S : dl_S X b L xs) (hi : i + 5 ≤ L) (hLb : L ≤ 2560) {M Mx Mm : fd_M} {v : Int32} (hx : m_X11_keep [.ref 0, .int (xs (i + 1))] M = some (.int v, Mx)) (hm : m_X12_keep [.ref 182, .int (xs (i + 1))] Mx = some (.int v, Mm)) (kk : fd_W X 8 Q 1340 [] (dl_L0 b i, Mm)) : fd_W X 8 Q 1210 [] (dl_L0 b i, M) := by
  have h0 : (dl_L0 b i)[0]? = some (.retAddr (b + 1)) := rfl
  have h4 : (dl_L0 b i)[4]? = some (.int (nI i)) := rfl
  refine fd_aload_n (i := 1) (k := 8) F dL_law_1210 rfl _ _ _ 0 (Nat.le_of_ble_eq_true rfl) (by first | rfl | (simp only [dl_L0, hLL]; rfl)) ?_
  refine dl_arg (j := 1) F S dL_law_1211 dL_law_1212 dL_law_1214 dL_law_1215 dL_law_1216 (by decide) (by omega) hLb _ h0 h4 (Nat.le_of_ble_eq_true rfl) ?_
  refine fd_rcv (as := [.int (xs (i + 1))]) (st := []) F (c_X11_keep _ _) yv_X11_keep ml_L_179 (by omega) cl11 dL_law_1217 (Nat.le_of_ble_eq_true rfl) rfl rfl hx ?_
  refine fd_aload_n (i := 2) (k := 8) F dL_law_1220 rfl _ _ _ 182 (Nat.le_of_ble_eq_true rfl) (by first | rfl | (simp only [dl_L0, hLL]; rfl)) ?_
  refine dl_arg (j := 1) F S dL_law_1221 dL_law_1222 dL_law_1224 dL_law_1225 dL_law_1226 (by decide) (by omega) hLb _ h0 h4 (Nat.le_of_ble_eq_true rfl) ?_
  refine fd_rcv (as := [.int (xs (i + 1))]) (st := [.int v]) F (c_X12_keep _ _) yv_X12_keep ml_L_182 (by omega) cl12 dL_law_1227 (Nat.le_of_ble_eq_true rfl) rfl rfl hm ?_
  exact dl_eq F dL_law_1230 rfl kk
theorem dk_37 {X : fd_X} {Q : State → Prop} {b L : Nat} {xs : Nat → Int32} {i : Nat} {d : Nat} (F : fd_F X code RL 8 ret (d + 600)) (S : dl_S X b L xs) (hi : i + 5 ≤ L) (hLb : L ≤ 2560) {M Mx Mm : fd_M} {v : Int32} (hx : m_X11_again [.ref 0, .int (xs (i + 1))] M = some (.int v, Mx)) (hm : m_X12_again [.ref 182, .int (xs (i + 1))] Mx = some (.int v, Mm)) (kk : fd_W X 8 Q 1340 [] (dl_L0 b i, Mm)) : fd_W X 8 Q 1235 [] (dl_L0 b i, M) := by
  have h0 : (dl_L0 b i)[0]? = some (.retAddr (b + 1)) := rfl
  have h4 : (dl_L0 b i)[4]? = some (.int (nI i)) := rfl
  refine fd_aload_n (i := 1) (k := 8) F dL_law_1235 rfl _ _ _ 0 (Nat.le_of_ble_eq_true rfl) (by first | rfl | (simp only [dl_L0, hLL]; rfl)) ?_
  refine dl_arg (j := 1) F S dL_law_1236 dL_law_1237 dL_law_1239 dL_law_1240 dL_law_1241 (by decide) (by omega) hLb _ h0 h4 (Nat.le_of_ble_eq_true rfl) ?_
  refine fd_rcv (as := [.int (xs (i + 1))]) (st := []) F (c_X11_again _ _) yv_X11_again ml_L_183 (by omega) cl11 dL_law_1242 (Nat.le_of_ble_eq_true rfl) rfl rfl hx ?_
  refine fd_aload_n (i := 2) (k := 8) F dL_law_1245 rfl _ _ _ 182 (Nat.le_of_ble_eq_true rfl) (by first | rfl | (simp only [dl_L0, hLL]; rfl)) ?_
  refine dl_arg (j := 1) F S dL_law_1246 dL_law_1247 dL_law_1249 dL_law_1250 dL_law_1251 (by decide) (by omega) hLb _ h0 h4 (Nat.le_of_ble_eq_true rfl) ?_
  refine fd_rcv (as := [.int (xs (i + 1))]) (st := [.int v]) F (c_X12_again _ _) yv_X12_again ml_L_186 (by omega) cl12 dL_law_1252 (Nat.le_of_ble_eq_true rfl) rfl rfl hm ?_
  exact dl_eq F dL_law_1255 rfl kk
theorem dk_38 {X : fd_X} {Q : State → Prop} {b L : Nat} {xs : Nat → Int32} {i : Nat} {d : Nat} (F : fd_F X code RL 8 ret (d + 600)) (S : dl_S X b L xs) (hi : i + 5 ≤ L) (hLb : L ≤ 2560) {M Mx Mm : fd_M} {v : Int32} (hx : m_X11_count [.ref 0, .int (xs (i + 1))] M = some (.int v, Mx)) (hm : m_X12_count [.ref 182, .int (xs (i + 1))] Mx = some (.int v, Mm)) (kk : fd_W X 8 Q 1340 [] (dl_L0 b i, Mm)) : fd_W X 8 Q 1260 [] (dl_L0 b i, M) := by
  have h0 : (dl_L0 b i)[0]? = some (.retAddr (b + 1)) := rfl
  have h4 : (dl_L0 b i)[4]? = some (.int (nI i)) := rfl
  refine fd_aload_n (i := 1) (k := 8) F dL_law_1260 rfl _ _ _ 0 (Nat.le_of_ble_eq_true rfl) (by first | rfl | (simp only [dl_L0, hLL]; rfl)) ?_
  refine dl_arg (j := 1) F S dL_law_1261 dL_law_1262 dL_law_1264 dL_law_1265 dL_law_1266 (by decide) (by omega) hLb _ h0 h4 (Nat.le_of_ble_eq_true rfl) ?_
  refine fd_rcv (as := [.int (xs (i + 1))]) (st := []) F (c_X11_count _ _) yv_X11_count ml_L_187 (by omega) cl11 dL_law_1267 (Nat.le_of_ble_eq_true rfl) rfl rfl hx ?_
  refine fd_aload_n (i := 2) (k := 8) F dL_law_1270 rfl _ _ _ 182 (Nat.le_of_ble_eq_true rfl) (by first | rfl | (simp only [dl_L0, hLL]; rfl)) ?_
  refine dl_arg (j := 1) F S dL_law_1271 dL_law_1272 dL_law_1274 dL_law_1275 dL_law_1276 (by decide) (by omega) hLb _ h0 h4 (Nat.le_of_ble_eq_true rfl) ?_
  refine fd_rcv (as := [.int (xs (i + 1))]) (st := [.int v]) F (c_X12_count _ _) yv_X12_count ml_L_190 (by omega) cl12 dL_law_1277 (Nat.le_of_ble_eq_true rfl) rfl rfl hm ?_
  exact dl_eq F dL_law_1280 rfl kk
theorem dk_5 {g : fd_G} {pr : Program} {l : Launch} {e : Env} {R : Room} {s : State} {m : MethodId} {args : Array Value} {below : List Frame} {meth : Method} {c : Code} {ck sk : Nat} {Q : State → Prop} {b L : Nat} {xs : Nat → Int32} {i d : Nat} (hfl : l.stackTraces = false) (F : fd_F (g, pr, l, e, R, s, m, args, below, meth, c, ck, sk) code RL 8 ret (d + 600)) (F1 : fd_F (g, pr, l, e, R, s, m, args, below, meth, c, ck + 1, sk + 6) code RL 8 ret (d + 600)) (S : dl_S (g, pr, l, e, R, s, m, args, below, meth, c, ck, sk) b L xs) (hR : ck + 1 ≤ R.cells ∧ sk + 6 ≤ R.slots) (hi : i + 5 ≤ L) (hLb : L ≤ 2560) {M Mx Mm Mt : fd_M} {kv : Int32} {bv : Int32} (hx : w_village [.ref 0, .int (xs (i + 1)), .int (xs (i + 2)), .ref 217] M = some (.int kv, Mx)) (hm : m_X12_village [.ref 182, .int (xs (i + 1)), .int (xs (i + 2))] Mx = some (.int bv, Mm)) (ht : m_X12_thrown [.ref 182] Mm = some (.int kv, Mt)) (he : kv = 0 → Mt.2 217 0 = bv.toInt64) (kk : fd_W (g, pr, l, e, R, s, m, args, below, meth, c, ck + 1, sk + 6) 8 Q 1340 [] (dl_L0 b i, Mt)) : fd_W (g, pr, l, e, R, s, m, args, below, meth, c, ck, sk) 8 Q 301 [] (dl_L0 b i, M) := by
  refine fd_aload_n (i := 1) (k := 8) F dL_law_301 rfl _ _ _ 0 (Nat.le_of_ble_eq_true rfl) rfl ?_
  refine dl_arg (j := 1) F S dL_law_302 dL_law_303 dL_law_305 dL_law_306 dL_law_307 (by decide) (by omega) hLb _ rfl rfl (Nat.le_of_ble_eq_true rfl) ?_
  refine dl_arg (j := 2) F S dL_law_308 dL_law_309 dL_law_311 dL_law_312 dL_law_313 (by decide) (by omega) hLb _ rfl rfl (Nat.le_of_ble_eq_true rfl) ?_
  refine fd_aload_n (i := 3) (k := 8) F dL_law_314 rfl _ _ _ 217 (Nat.le_of_ble_eq_true rfl) rfl ?_
  refine dl_cw (as := [.ref 0, .int (xs (i + 1)), .int (xs (i + 2)), .ref 217]) (st := []) F (c_L_village _ hfl _) yw_village ml_L_49 (by omega) hR dL_law_315 (Nat.le_of_ble_eq_true rfl) rfl hx ?_
  refine dl_ist (i := 5) F1 dL_law_318 (by decide) ?_
  refine fd_aload_n (i := 2) (k := 8) F1 dL_law_320 rfl _ _ _ 182 (Nat.le_of_ble_eq_true rfl) rfl ?_
  refine dl_arg (j := 1) F1 S dL_law_321 dL_law_322 dL_law_324 dL_law_325 dL_law_326 (by decide) (by omega) hLb _ rfl rfl (Nat.le_of_ble_eq_true rfl) ?_
  refine dl_arg (j := 2) F1 S dL_law_327 dL_law_328 dL_law_330 dL_law_331 dL_law_332 (by decide) (by omega) hLb _ rfl rfl (Nat.le_of_ble_eq_true rfl) ?_
  refine fd_rcv (as := [.int (xs (i + 1)), .int (xs (i + 2))]) (st := []) F1 (c_X12_village _ _) yv_X12_village ml_L_54 (by omega) cl12 dL_law_333 (Nat.le_of_ble_eq_true rfl) rfl rfl hm ?_
  refine dl_ist (i := 6) F1 dL_law_336 (by decide) ?_
  refine fd_aload_n (i := 2) (k := 8) F1 dL_law_338 rfl _ _ _ 182 (Nat.le_of_ble_eq_true rfl) rfl ?_
  refine fd_rcv (as := []) (st := []) F1 (c_X12_thrown _ _) yv_X12_thrown ml_L_55 (by omega) cl12 dL_law_339 (Nat.le_of_ble_eq_true rfl) rfl rfl ht ?_
  refine fd_iload (k := 8) F1 dL_law_342 _ _ _ kv (Nat.le_of_ble_eq_true rfl) rfl ?_
  refine dl_eq F1 dL_law_344 rfl ?_
  refine fd_iload (k := 8) F1 dL_law_349 _ _ _ kv (Nat.le_of_ble_eq_true rfl) rfl ?_
  refine fd_j1_ne_t (j := 366) F1 dL_law_351 rfl _ _ _ ?_
  by_cases hk : kv = 0
  · subst hk
    rw [if_neg (by decide)]
    have he := he rfl
    refine fd_lald (k := 8) F1 (fd_aload_n (i := 3) F1 dL_law_354 rfl) (fd_iconst (v := 0) F1 dL_law_355 ki_0) dL_law_356 _ _ _ bv.toInt64 (Nat.le_of_ble_eq_true rfl) ((dl_lald rfl).trans (congrArg (fun z => some (z, _)) he)) ?_
    refine fd_iload (k := 8) F1 dL_law_357 _ _ _ bv (Nat.le_of_ble_eq_true rfl) rfl ?_
    refine fd_o_i2l F1 dL_law_359 _ _ _ ?_
    refine fd_o_lcmp F1 dL_law_360 _ _ _ _ ?_
    refine fd_j1_eq_t (j := 366) F1 dL_law_361 rfl _ _ _ ?_
    rw [show fd_f_i2l bv = bv.toInt64 from rfl, if_pos (dl_lcmp _)]
    exact fd_go F1 dL_law_366 rfl _ _ (dl_fg kk)
  · rw [if_pos (by simp [fd_p_ne, hk])]
    exact fd_go F1 dL_law_366 rfl _ _ (dl_fg kk)
theorem dk_6 {g : fd_G} {pr : Program} {l : Launch} {e : Env} {R : Room} {s : State} {m : MethodId} {args : Array Value} {below : List Frame} {meth : Method} {c : Code} {ck sk : Nat} {Q : State → Prop} {b L : Nat} {xs : Nat → Int32} {i d : Nat} (hfl : l.stackTraces = false) (F : fd_F (g, pr, l, e, R, s, m, args, below, meth, c, ck, sk) code RL 8 ret (d + 600)) (F1 : fd_F (g, pr, l, e, R, s, m, args, below, meth, c, ck + 1, sk + 6) code RL 8 ret (d + 600)) (S : dl_S (g, pr, l, e, R, s, m, args, below, meth, c, ck, sk) b L xs) (hR : ck + 1 ≤ R.cells ∧ sk + 6 ≤ R.slots) (hi : i + 5 ≤ L) (hLb : L ≤ 2560) {M Mx Mm Mt : fd_M} {kv : Int32} {bv : Int32} (hx : w_feast [.ref 0, .int (xs (i + 1)), .int (xs (i + 2)), .ref 217] M = some (.int kv, Mx)) (hm : m_X12_feast [.ref 182, .int (xs (i + 1)), .int (xs (i + 2))] Mx = some (.int bv, Mm)) (ht : m_X12_thrown [.ref 182] Mm = some (.int kv, Mt)) (he : kv = 0 → Mt.2 217 0 = bv.toInt64) (kk : fd_W (g, pr, l, e, R, s, m, args, below, meth, c, ck + 1, sk + 6) 8 Q 1340 [] (dl_L0 b i, Mt)) : fd_W (g, pr, l, e, R, s, m, args, below, meth, c, ck, sk) 8 Q 369 [] (dl_L0 b i, M) := by
  refine fd_aload_n (i := 1) (k := 8) F dL_law_369 rfl _ _ _ 0 (Nat.le_of_ble_eq_true rfl) rfl ?_
  refine dl_arg (j := 1) F S dL_law_370 dL_law_371 dL_law_373 dL_law_374 dL_law_375 (by decide) (by omega) hLb _ rfl rfl (Nat.le_of_ble_eq_true rfl) ?_
  refine dl_arg (j := 2) F S dL_law_376 dL_law_377 dL_law_379 dL_law_380 dL_law_381 (by decide) (by omega) hLb _ rfl rfl (Nat.le_of_ble_eq_true rfl) ?_
  refine fd_aload_n (i := 3) (k := 8) F dL_law_382 rfl _ _ _ 217 (Nat.le_of_ble_eq_true rfl) rfl ?_
  refine dl_cw (as := [.ref 0, .int (xs (i + 1)), .int (xs (i + 2)), .ref 217]) (st := []) F (c_L_feast _ hfl _) yw_feast ml_L_58 (by omega) hR dL_law_383 (Nat.le_of_ble_eq_true rfl) rfl hx ?_
  refine dl_ist (i := 5) F1 dL_law_386 (by decide) ?_
  refine fd_aload_n (i := 2) (k := 8) F1 dL_law_388 rfl _ _ _ 182 (Nat.le_of_ble_eq_true rfl) rfl ?_
  refine dl_arg (j := 1) F1 S dL_law_389 dL_law_390 dL_law_392 dL_law_393 dL_law_394 (by decide) (by omega) hLb _ rfl rfl (Nat.le_of_ble_eq_true rfl) ?_
  refine dl_arg (j := 2) F1 S dL_law_395 dL_law_396 dL_law_398 dL_law_399 dL_law_400 (by decide) (by omega) hLb _ rfl rfl (Nat.le_of_ble_eq_true rfl) ?_
  refine fd_rcv (as := [.int (xs (i + 1)), .int (xs (i + 2))]) (st := []) F1 (c_X12_feast _ _) yv_X12_feast ml_L_60 (by omega) cl12 dL_law_401 (Nat.le_of_ble_eq_true rfl) rfl rfl hm ?_
  refine dl_ist (i := 6) F1 dL_law_404 (by decide) ?_
  refine fd_aload_n (i := 2) (k := 8) F1 dL_law_406 rfl _ _ _ 182 (Nat.le_of_ble_eq_true rfl) rfl ?_
  refine fd_rcv (as := []) (st := []) F1 (c_X12_thrown _ _) yv_X12_thrown ml_L_55 (by omega) cl12 dL_law_407 (Nat.le_of_ble_eq_true rfl) rfl rfl ht ?_
  refine fd_iload (k := 8) F1 dL_law_410 _ _ _ kv (Nat.le_of_ble_eq_true rfl) rfl ?_
  refine dl_eq F1 dL_law_412 rfl ?_
  refine fd_iload (k := 8) F1 dL_law_417 _ _ _ kv (Nat.le_of_ble_eq_true rfl) rfl ?_
  refine fd_j1_ne_t (j := 434) F1 dL_law_419 rfl _ _ _ ?_
  by_cases hk : kv = 0
  · subst hk
    rw [if_neg (by decide)]
    have he := he rfl
    refine fd_lald (k := 8) F1 (fd_aload_n (i := 3) F1 dL_law_422 rfl) (fd_iconst (v := 0) F1 dL_law_423 ki_0) dL_law_424 _ _ _ bv.toInt64 (Nat.le_of_ble_eq_true rfl) ((dl_lald rfl).trans (congrArg (fun z => some (z, _)) he)) ?_
    refine fd_iload (k := 8) F1 dL_law_425 _ _ _ bv (Nat.le_of_ble_eq_true rfl) rfl ?_
    refine fd_o_i2l F1 dL_law_427 _ _ _ ?_
    refine fd_o_lcmp F1 dL_law_428 _ _ _ _ ?_
    refine fd_j1_eq_t (j := 434) F1 dL_law_429 rfl _ _ _ ?_
    rw [show fd_f_i2l bv = bv.toInt64 from rfl, if_pos (dl_lcmp _)]
    exact fd_go F1 dL_law_434 rfl _ _ (dl_fg kk)
  · rw [if_pos (by simp [fd_p_ne, hk])]
    exact fd_go F1 dL_law_434 rfl _ _ (dl_fg kk)
theorem dk_39 {g : fd_G} {pr : Program} {l : Launch} {e : Env} {R : Room} {s : State} {m : MethodId} {args : Array Value} {below : List Frame} {meth : Method} {c : Code} {ck sk : Nat} {Q : State → Prop} {b L : Nat} {xs : Nat → Int32} {i d : Nat} (hfl : l.stackTraces = false) (F : fd_F (g, pr, l, e, R, s, m, args, below, meth, c, ck, sk) code RL 8 ret (d + 600)) (F1 : fd_F (g, pr, l, e, R, s, m, args, below, meth, c, ck + 1, sk + 6) code RL 8 ret (d + 600)) (S : dl_S (g, pr, l, e, R, s, m, args, below, meth, c, ck, sk) b L xs) (hR : ck + 1 ≤ R.cells ∧ sk + 6 ≤ R.slots) (hi : i + 5 ≤ L) (hLb : L ≤ 2560) {M Mx Mm Mt : fd_M} {kv : Int32} {bv : Int64} (hx : w_row [.ref 0, .int (xs (i + 1)), .ref 217] M = some (.int kv, Mx)) (hm : m_X12_row [.ref 182, .int (xs (i + 1))] Mx = some (.long bv, Mm)) (ht : m_X12_thrown [.ref 182] Mm = some (.int kv, Mt)) (he : kv = 0 → Mt.2 217 0 = bv) (kk : fd_W (g, pr, l, e, R, s, m, args, below, meth, c, ck + 1, sk + 6) 8 Q 1340 [] (dl_L0 b i, Mt)) : fd_W (g, pr, l, e, R, s, m, args, below, meth, c, ck, sk) 8 Q 1285 [] (dl_L0 b i, M) := by
  refine fd_aload_n (i := 1) (k := 8) F dL_law_1285 rfl _ _ _ 0 (Nat.le_of_ble_eq_true rfl) rfl ?_
  refine dl_arg (j := 1) F S dL_law_1286 dL_law_1287 dL_law_1289 dL_law_1290 dL_law_1291 (by decide) (by omega) hLb _ rfl rfl (Nat.le_of_ble_eq_true rfl) ?_
  refine fd_aload_n (i := 3) (k := 8) F dL_law_1292 rfl _ _ _ 217 (Nat.le_of_ble_eq_true rfl) rfl ?_
  refine dl_cw (as := [.ref 0, .int (xs (i + 1)), .ref 217]) (st := []) F (c_L_row _ hfl _) yw_row ml_L_191 (by omega) hR dL_law_1293 (Nat.le_of_ble_eq_true rfl) rfl hx ?_
  refine dl_ist (i := 5) F1 dL_law_1296 (by decide) ?_
  refine fd_aload_n (i := 2) (k := 8) F1 dL_law_1298 rfl _ _ _ 182 (Nat.le_of_ble_eq_true rfl) rfl ?_
  refine dl_arg (j := 1) F1 S dL_law_1299 dL_law_1300 dL_law_1302 dL_law_1303 dL_law_1304 (by decide) (by omega) hLb _ rfl rfl (Nat.le_of_ble_eq_true rfl) ?_
  refine fd_rcv (as := [.int (xs (i + 1))]) (st := []) F1 (c_X12_row _ _) yv_X12_row ml_L_194 (by omega) cl12 dL_law_1305 (Nat.le_of_ble_eq_true rfl) rfl rfl hm ?_
  refine dl_lst (i := 6) F1 dL_law_1308 (by decide) ?_
  refine fd_aload_n (i := 2) (k := 8) F1 dL_law_1310 rfl _ _ _ 182 (Nat.le_of_ble_eq_true rfl) rfl ?_
  refine fd_rcv (as := []) (st := []) F1 (c_X12_thrown _ _) yv_X12_thrown ml_L_55 (by omega) cl12 dL_law_1311 (Nat.le_of_ble_eq_true rfl) rfl rfl ht ?_
  refine fd_iload (k := 8) F1 dL_law_1314 _ _ _ kv (Nat.le_of_ble_eq_true rfl) rfl ?_
  refine dl_eq F1 dL_law_1316 rfl ?_
  refine fd_iload (k := 8) F1 dL_law_1321 _ _ _ kv (Nat.le_of_ble_eq_true rfl) rfl ?_
  refine fd_j1_ne_t (j := 1337) F1 dL_law_1323 rfl _ _ _ ?_
  by_cases hk : kv = 0
  · subst hk
    rw [if_neg (by decide)]
    have he := he rfl
    refine fd_lald (k := 8) F1 (fd_aload_n (i := 3) F1 dL_law_1326 rfl) (fd_iconst (v := 0) F1 dL_law_1327 ki_0) dL_law_1328 _ _ _ bv (Nat.le_of_ble_eq_true rfl) ((dl_lald rfl).trans (congrArg (fun z => some (z, _)) he)) ?_
    refine fd_lload (k := 8) F1 dL_law_1329 _ _ _ bv (Nat.le_of_ble_eq_true rfl) rfl ?_
    refine fd_o_lcmp F1 dL_law_1331 _ _ _ _ ?_
    refine fd_j1_eq_t (j := 1337) F1 dL_law_1332 rfl _ _ _ ?_
    rw [if_pos (dl_lcmp _)]
    exact fd_go F1 dL_law_1337 rfl _ _ (dl_fg kk)
  · rw [if_pos (by simp [fd_p_ne, hk])]
    exact fd_go F1 dL_law_1337 rfl _ _ (dl_fg kk)
