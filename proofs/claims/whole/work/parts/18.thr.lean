/-! ===== the methods that throw ===== -/
theorem ml_X11_121 : Cond.methodLink RX11 121 yX3_foodOf ∈ fd_TB := fd_tbi 1378 (by decide +kernel) rfl
theorem yv_X1_bitsAt : fd_Yv yX1_bitsAt cX1_bitsAt 4 (some .int) RX1 1 := ⟨fd_tbi 1380 (by decide +kernel) rfl, fd_tbi 1381 (by decide +kernel) rfl, fd_tbi 108 (by decide +kernel) rfl, fd_tbi 1382 (by decide +kernel) rfl, by decide, rfl, by decide, by decide, by decide +kernel⟩
theorem ml_X11_124 : Cond.methodLink RX11 124 yX1_bitsAt ∈ fd_TB := fd_tbi 1379 (by decide +kernel) rfl
theorem ml_X11_130 : Cond.methodLink RX11 130 yX10_openAt ∈ fd_TB := fd_tbi 1383 (by decide +kernel) rfl
theorem yv_X11_village : fd_Yv yX11_village cX11_village 3 (some .int) RX11 2 := ⟨fd_tbi 1314 (by decide +kernel) rfl, fd_tbi 1315 (by decide +kernel) rfl, fd_tbi 103 (by decide +kernel) rfl, fd_tbi 1316 (by decide +kernel) rfl, by decide, rfl, by decide, by decide, by decide +kernel⟩
theorem fl_X11_151 : fd_Fl RX11 151 1 3 := ⟨RX1, TX1, 5, rfl, by decide, inX1, Or.inr ⟨RX11, fd_nwi 146 (by decide +kernel) rfl⟩⟩
theorem fl_X11_154 : fd_Fl RX11 154 1 4 := ⟨RX1, TX1, 5, rfl, by decide, inX1, Or.inr ⟨RX11, fd_nwi 148 (by decide +kernel) rfl⟩⟩
theorem ml_X11_160 : Cond.methodLink RX11 160 yX10_isOver ∈ fd_TB := fd_tbi 1391 (by decide +kernel) rfl
theorem yv_X11_feast : fd_Yv yX11_feast cX11_feast 3 (some .int) RX11 2 := ⟨fd_tbi 1388 (by decide +kernel) rfl, fd_tbi 1389 (by decide +kernel) rfl, fd_tbi 103 (by decide +kernel) rfl, fd_tbi 1390 (by decide +kernel) rfl, by decide, rfl, by decide, by decide, by decide +kernel⟩
theorem ml_X11_401 : Cond.methodLink RX11 401 yX4_has ∈ fd_TB := fd_tbi 1399 (by decide +kernel) rfl
theorem yv_X4_at : fd_Yv yX4_at cX4_at 2 (some .long) RX4 1 := ⟨fd_tbi 1404 (by decide +kernel) rfl, fd_tbi 1405 (by decide +kernel) rfl, fd_tbi 105 (by decide +kernel) rfl, fd_tbi 1406 (by decide +kernel) rfl, by decide, rfl, by decide, by decide, by decide +kernel⟩
theorem ml_X11_402 : Cond.methodLink RX11 402 yX4_at ∈ fd_TB := fd_tbi 1403 (by decide +kernel) rfl
theorem yv_X11_row : fd_Yv yX11_row cX11_row 2 (some .long) RX11 1 := ⟨fd_tbi 1396 (by decide +kernel) rfl, fd_tbi 1397 (by decide +kernel) rfl, fd_tbi 103 (by decide +kernel) rfl, fd_tbi 1398 (by decide +kernel) rfl, by decide, rfl, by decide, by decide, by decide +kernel⟩
def th_E : String := "java/util/NoSuchElementException"
def th_ns : List String := ["java/lang/RuntimeException", "java/lang/Exception"]
theorem fd_isN_on {w : Cond} (h : fd_isN w = true) : w.onTables = true := by
  cases w with
  | fieldLinkNest => rfl
  | methodLinkNest => rfl
  | castable => rfl
  | declares => rfl
  | _ => exact absurd h (by simp [fd_isN])
theorem th_good : ∀ w ∈ vx_at0 RX11 120 "java/util/NoSuchElementException" th_ns, goodWord w = true ∨ fd_isN w = true := by decide +kernel
theorem th_in : ∀ w ∈ vx_at0 RX11 120 "java/util/NoSuchElementException" th_ns, w ∈ lw_tbl := by decide +kernel
theorem th_in2 : ∀ w ∈ (vx_at0 RX11 120 "java/util/NoSuchElementException" th_ns).filter fd_isN, w ∈ tables_1 := by decide +kernel
theorem th_cs : Cond.castable "java/util/NoSuchElementException" "java/util/NoSuchElementException" ∈ fd_NW := fd_nwi 1217 (by decide +kernel) rfl
theorem th_at {w : Cond} (hw : w ∈ vx_at0 RX11 120 "java/util/NoSuchElementException" th_ns) : w ∈ fd_TB ∨ (w ∈ fd_NW ∧ w.onTables = true) := (th_good w hw).elim (fun h => Or.inl (fd_tb (th_in w hw) h)) (fun h => Or.inr ⟨List.mem_filter.mpr ⟨th_in2 w (List.mem_filter.mpr ⟨hw, h⟩), h⟩, fd_isN_on h⟩)
theorem th_cl : Cond.classLink RX11 118 "java/util/NoSuchElementException" ∈ fd_TB := fd_tbi 1317 (by decide +kernel) rfl
theorem th_ini : Cond.initialized "java/util/NoSuchElementException" ∈ fd_TB := fd_tbi 124 (by decide +kernel) rfl
section FDX
variable {X : fd_X} {n d : Nat} {Q : State → Prop} {cc : ByteArray} {own : String} {rt : Option FieldType} {k p q r : Nat} {Rt : Value → fd_M → Prop} {qb qc : Nat}
def fd_rmX (d : Nat) : Room := { frames := d, cells := 1, slots := 6, locals := 64 * d }
def fd_c0 (X : fd_X) : Prop := match X with
  | (_, _, _, _, R, _, _, _, _, _, _, cells, slots) => cells = 0 ∧ slots = 0 ∧ 1 ≤ R.cells ∧ 6 ≤ R.slots
def fd_noT (X : fd_X) : Prop := match X with
  | (_, _, _, _, _, _, _, _, _, _, c, _, _) => ∀ x ∈ c.exceptionTable.toList, False
def fd_QX (g : fd_G) (z : Value × fd_M) : Array Value → State → Outcome → State → Prop := fun a st o t => z.1 ≠ .null ∧ fd_Qc g 1 z a st o t
def fd_XC (g : fd_G) (z : Value × fd_M) : String → State → State → Prop := fun E st t => E = "java/util/NoSuchElementException" ∧ z.1 = .null ∧ fd_Wd g z.2 t.heap ∧ va_F (fd_A g) st t
def fd_MX (X : fd_X) (z : Value × fd_M) : State → Prop := match X with
  | (g, _, _, _, _, s, _, args, below, _, _, _, _) => vx_MQ below (fd_QX g z) (fd_XC g z) args s 1 6 (fd_A g)
/-- a method that answers, or throws that there is none such ('.null' for its answer), and then nothing is changed -/
def fd_ConX (l : Launch) (g : fd_G) (y : MethodName) (cc : ByteArray) (n : Nat) (rt : Option FieldType) (d : Nat) (f : List Value → fd_M → Option (Value × fd_M)) : Prop :=
  ∀ (av : List Value) (M : fd_M) (z : Value × fd_M), f av M = some z → vx_Met l y (fd_w y cc n rt) (fd_rmX d) (fd_Pc g av M) (fd_QX g z) (fd_XC g z) 1 6 (fd_A g)
def fd_thr : fd_T := fun σ => some ((1, .null), σ)
theorem fd_sthr (h0 : fd_c0 X) (hfl : X.2.2.1.stackTraces = false) (hex : fd_noT X) (F : fd_F X cc RX11 n rt 12) {z : Value × fd_M} (d0 : decode cc p = .ok (.new 118, 3)) (d3 : decode cc (p + 3) = .ok (.dup, 1)) (d4 : decode cc (p + 4) = .ok (.invokespecial 120, 3)) (d7 : decode cc (p + 7) = .ok (.athrow, 1)) : fd_St X n (fd_MX X z) (fun v M => z = (v, M)) p r qb qc fd_thr := by
  intro σ σ' z0 v he kk
  cases he
  have hz := fd_Ex1 kk
  subst hz
  obtain ⟨g, pr, l, e, R, s, m, args, below, meth, c, cells, slots⟩ := X
  obtain ⟨hx, hb, hml, hown, hts, hK, hbs, hcl, hsl, hr, hlk, hfr, hlo⟩ := F
  obtain ⟨c1, c2, c3, c4⟩ := h0
  subst c1; subst c2
  intro H locs ls hW hS hL
  refine vx_throw0 (names := th_ns) (cls := "java/util/NoSuchElementException") (mc := 1) (ms := 6) (A := fd_A g) hx hb hfl hown (by decide +kernel) (by decide +kernel) (hts _ th_cl) (hts _ th_ini) (fun w hw => (th_at hw).elim (hts w) (fun e => va_Nw.use e.2 (hK.2.1 _ e.1))) (fun w hw => ?_) (vx_Zq.kept hK.2.2.2.2.2.2.2.1 (fd_oldk hbs hK)) (vx_Zq.kept hK.2.2.2.2.2.2.2.2 (fd_oldk hbs hK)) hS (hL.1.trans hml.symm) d0 d3 d4 d7 (fun x h => (hex x h).elim) (by show 2 + 3 < _; omega) (by show 0 + (13 * 3 + 42) ≤ _; omega) (by omega) (by omega) hlk (fun t hal hsz hsm => ⟨rfl, rfl, ?_, ?_⟩) hS.2.2 (Nat.le_refl _) (Nat.le_refl _)
  · rcases List.mem_cons.mp hw with rfl | hw
    · have := (List.mem_filter.mp th_cl).2
      simp [vx_ot, this]
    rcases List.mem_cons.mp hw with rfl | hw
    · have := (List.mem_filter.mp th_ini).2
      simp [vx_ot, this]
    rcases th_at hw with h | h
    · have := (List.mem_filter.mp h).2
      simp [vx_ot, this]
    · simp [vx_ot, h.2]
  · exact va_P.kept hW (fun k q hk => hsm _ (hW k q hk).lt)
  · exact ⟨Nat.le_trans hS.1 hsz, fun q h1 h2 => by rw [hsm q (Nat.lt_of_lt_of_le h1 hS.1)]; exact hS.2.1 q h1 h2⟩
theorem fd_srIX (h0 : fd_c0 X) (F : fd_F X cc own n (some .int) d) {z : Value × fd_M} {a : fd_D Int32} (ha : fd_Ev X n (fd_MX X z) fd_i 0 p q a) (hd : decode cc q = .ok (.ireturn, 1)) : fd_St X n (fd_MX X z) (fun v M => z = (v, M)) p r qb qc (fd_rI a) := by
  intro σ σ' z0 v he kk
  obtain ⟨⟨u, σ1⟩, e1, e2⟩ := fd_bind_of he
  cases e2
  refine ha [] σ _ u (Nat.le_refl 0) e1 ?_
  have hz := fd_Ex1 kk
  subst hz
  obtain ⟨g, pr, l, e, R, s, m, args, below, meth, c, cells, slots⟩ := X
  obtain ⟨hx, hb, hml, hown, hts, hK, hbs, hcl, hsl, hr, hlk, hfr, hlo⟩ := F
  obtain ⟨c1, c2, c3, c4⟩ := h0
  subst c1; subst c2
  intro H locs ls hW hS hL
  exact W.widen (k := 1) (n := 6) (by omega) (by omega) (vx_ret (W.iret hx hb hr (fun t ht hw => ⟨fun h => (by cases h), rfl, by rw [ht]; exact hW, hS.F ht⟩) hS.2.2 hd hlk))
theorem fd_srLX (h0 : fd_c0 X) (F : fd_F X cc own n (some .long) d) {z : Value × fd_M} {a : fd_D Int64} (ha : fd_Ev X n (fd_MX X z) fd_l 0 p q a) (hd : decode cc q = .ok (.lreturn, 1)) : fd_St X n (fd_MX X z) (fun v M => z = (v, M)) p r qb qc (fd_rL a) := by
  intro σ σ' z0 v he kk
  obtain ⟨⟨u, σ1⟩, e1, e2⟩ := fd_bind_of he
  cases e2
  refine ha [] σ _ u (Nat.le_refl 0) e1 ?_
  have hz := fd_Ex1 kk
  subst hz
  obtain ⟨g, pr, l, e, R, s, m, args, below, meth, c, cells, slots⟩ := X
  obtain ⟨hx, hb, hml, hown, hts, hK, hbs, hcl, hsl, hr, hlk, hfr, hlo⟩ := F
  obtain ⟨c1, c2, c3, c4⟩ := h0
  subst c1; subst c2
  intro H locs ls hW hS hL
  exact W.widen (k := 1) (n := 6) (by omega) (by omega) (vx_ret (W.lret hx hb hr (fun t ht hw => ⟨fun h => (by cases h), rfl, by rw [ht]; exact hW, hS.F ht⟩) hS.2.2 hd hlk))
theorem fd_mkX {l : Launch} {g : fd_G} {y : MethodName} {cc : ByteArray} {n : Nat} {rt : Option FieldType} {d q qb qc : Nat} {body : fd_T} (hfl : l.stackTraces = false) (hy : plainName y.cls = true)
    (hbd : ∀ (X : fd_X) (z : Value × fd_M), X.1 = g → X.2.2.1 = l → fd_c0 X → fd_noT X → fd_F X cc y.cls n rt d → fd_St X n (fd_MX X z) (fun v M => z = (v, M)) 0 q qb qc body) : fd_ConX l g y cc n rt d (fd_fn n body) := by
  intro av M z hf
  unfold fd_fn at hf
  obtain ⟨hlen, hf⟩ := fd_if_of hf
  obtain ⟨⟨⟨z1, v1⟩, σ1⟩, e1, e2⟩ := fd_bind_of hf
  obtain ⟨h1, e3⟩ := fd_if_of e2
  dsimp only at h1
  subst h1
  cases e3
  refine vx_ofW (cc := cc) (maxL := n) (ret := rt) hy rfl ?_
  intro p e s m args below meth c s₁ B hml hex hv
  obtain ⟨hargs, hWd, hK, hbs⟩ := hv
  subst hargs
  have hts := atoms_spec (ws := fd_w y cc n rt) B.pre
  have hown : s.vm.findClass y.cls = some m.cls := findClass_of_methodNamed B.named
  have hll : (lg_sl (av.map (fd_re g.1))).length ≤ n := by
    rw [fd_lg_len]
    have : (fd_in0 n av).length = n := hlen
    unfold fd_in0 at this
    rw [List.length_append] at this
    omega
  have F : fd_F (g, p, l, e, (headSpec (fd_w y cc n rt) (fd_rmX d)).room, s, m, (av.map (fd_re g.1)).toArray, below, meth, c, 0, 0) cc y.cls n rt d := ⟨B.exec, B.bytes, hml, hown, fun w hw => hts w (List.mem_cons_of_mem _ hw), hK, hbs, Nat.zero_le _, Nat.zero_le _, B.returns, B.notSynchronized, Nat.le_refl _, Nat.le_refl _⟩
  rw [lg_entry_eq]
  exact hbd (g, p, l, e, (headSpec (fd_w y cc n rt) (fd_rmX d)).room, s, m, (av.map (fd_re g.1)).toArray, below, meth, c, 0, 0) (v1, σ1.2) rfl rfl ⟨rfl, rfl, Nat.le_refl _, Nat.le_refl _⟩ hex F (fd_in0 n av, M) σ1 1 v1 e1 (by unfold fd_Ex; rw [if_neg (by decide), if_pos rfl]) s.heap [] _ hWd va_S.rf (fd_in0_ok g.1 n av hll)
end FDX
def b_X11_village : fd_T := (fd_seq (fd_iff (fd_or (fd_or (fd_not (fd_cmz fd_p_ne (fd_as fd_vI (fd_cv 3 1 m_X3_has (fd_a1 .int (fd_a1 .ref fd_a0 (fd_gr 11 2 (fd_lda 0))) (fd_ld 1)))))) (fd_cmz fd_p_lt (fd_ld 2))) (fd_cmp fd_p_gt (fd_ld 2) (fd_c (3 : Int32)))) fd_thr fd_sk) (fd_tsw (0) (2) (fd_ld 2) [(fd_rI (fd_as fd_vI (fd_cv 3 1 m_X3_foodOf (fd_a1 .int (fd_a1 .ref fd_a0 (fd_gr 11 2 (fd_lda 0))) (fd_ld 1))))), (fd_rI (fd_as fd_vI (fd_cv 1 1 m_X1_bitsAt (fd_a1 .int (fd_a1 .ref fd_a0 (fd_gr 11 4 (fd_lda 0))) (fd_ld 1))))), (fd_rI (fd_as fd_vI (fd_cv 10 3 m_X10_openAt (fd_a1 .int (fd_a1 .int (fd_a1 .ref (fd_a1 .ref fd_a0 (fd_gr 11 6 (fd_lda 0))) (fd_gr 11 4 (fd_lda 0))) (fd_ld 1)) (fd_gf 10 0 (fd_gr 11 6 (fd_lda 0)))))))] (fd_rI (fd_as fd_vI (fd_cv 3 2 m_X3_miles (fd_a1 .int (fd_a1 .int (fd_a1 .ref fd_a0 (fd_gr 11 2 (fd_lda 0))) (fd_gf 10 1 (fd_gr 11 6 (fd_lda 0)))) (fd_ld 1)))))))
def m_X11_village : List Value → fd_M → Option (Value × fd_M) := fd_fn 3 b_X11_village
theorem k_X11_village {X : fd_X} {z : Value × fd_M} (h0 : fd_c0 X) (hfl : X.2.2.1.stackTraces = false) (hex : fd_noT X) (F : fd_F X cX11_village RX11 3 (some .int) 12) : fd_St X 3 (fd_MX X z) (fun v M => z = (v, M)) 0 0 0 0 b_X11_village := (fd_sseq (fd_sif (fd_cor (fd_cor (fd_cnot (fd_cj1 (fd_asI (fd_ecv (k := 0) F (c_X3_has X.2.2.1 X.1) yv_X3_has ml_X11_115 (by omega) cl3 (fd_asi (fd_asr fd_as0 (fd_getr F (fd_aload_n (i := 0) F dX11_village_0 rfl) dX11_village_1 fl_X11_26)) (fd_iload_n (i := 1) F dX11_village_4 rfl)) (Nat.le_of_ble_eq_true rfl) dX11_village_5)) (fd_j1_eq_f (j := 20) F dX11_village_8 rfl))) (fd_cj1 (fd_iload_n (i := 2) F dX11_village_11 rfl) (fd_j1_lt_t (j := 20) F dX11_village_12 rfl))) (fd_cj2 (fd_iload_n (i := 2) F dX11_village_15 rfl) (fd_iconst (v := (3 : Int32)) F dX11_village_16 ki_3) (fd_j2_le_f (j := 28) F dX11_village_17 rfl))) (fd_sthr h0 hfl hex F dX11_village_20 dX11_village_23 dX11_village_24 dX11_village_27) fd_go0 fd_ssk) (fd_stsw (tg := [56, 65, 74]) (td := 94) F (fd_iload_n (i := 2) F dX11_village_28 rfl) dX11_village_29 rfl rfl rfl (fd_slc (fd_srIX h0 F (fd_asI (fd_ecv (k := 0) F (c_X3_foodOf X.2.2.1 X.1) yv_X3_foodOf ml_X11_121 (by omega) cl3 (fd_asi (fd_asr fd_as0 (fd_getr F (fd_aload_n (i := 0) F dX11_village_56 rfl) dX11_village_57 fl_X11_26)) (fd_iload_n (i := 1) F dX11_village_60 rfl)) (Nat.le_of_ble_eq_true rfl) dX11_village_61)) dX11_village_64) (fd_slc (fd_srIX h0 F (fd_asI (fd_ecv (k := 0) F (c_X1_bitsAt X.2.2.1 X.1) yv_X1_bitsAt ml_X11_124 (by omega) cl1 (fd_asi (fd_asr fd_as0 (fd_getr F (fd_aload_n (i := 0) F dX11_village_65 rfl) dX11_village_66 fl_X11_40)) (fd_iload_n (i := 1) F dX11_village_69 rfl)) (Nat.le_of_ble_eq_true rfl) dX11_village_70)) dX11_village_73) (fd_slc (fd_srIX h0 F (fd_asI (fd_ecv (k := 0) F (c_X10_openAt X.2.2.1 X.1) yv_X10_openAt ml_X11_130 (by omega) cl10 (fd_asi (fd_asi (fd_asr (fd_asr fd_as0 (fd_getr F (fd_aload_n (i := 0) F dX11_village_74 rfl) dX11_village_75 fl_X11_54)) (fd_getr F (fd_aload_n (i := 0) F dX11_village_78 rfl) dX11_village_79 fl_X11_40)) (fd_iload_n (i := 1) F dX11_village_82 rfl)) (fd_getf F (fd_getr F (fd_aload_n (i := 0) F dX11_village_83 rfl) dX11_village_84 fl_X11_54) dX11_village_87 fl_X11_127)) (Nat.le_of_ble_eq_true rfl) dX11_village_90)) dX11_village_93) fd_sln))) (fd_srIX h0 F (fd_asI (fd_ecv (k := 0) F (c_X3_miles X.2.2.1 X.1) yv_X3_miles ml_X11_137 (by omega) cl3 (fd_asi (fd_asi (fd_asr fd_as0 (fd_getr F (fd_aload_n (i := 0) F dX11_village_94 rfl) dX11_village_95 fl_X11_26)) (fd_getf F (fd_getr F (fd_aload_n (i := 0) F dX11_village_98 rfl) dX11_village_99 fl_X11_54) dX11_village_102 fl_X11_134)) (fd_iload_n (i := 1) F dX11_village_105 rfl)) (Nat.le_of_ble_eq_true rfl) dX11_village_106)) dX11_village_109)))
theorem c_X11_village (l : Launch) (hfl : l.stackTraces = false) (g : fd_G) : fd_ConX l g yX11_village cX11_village 3 (some .int) 12 m_X11_village := fd_mkX hfl (by decide) (fun X z h1 h2 h0 hex F => by subst h1; subst h2; exact k_X11_village h0 hfl hex F)
def b_X11_feast : fd_T := (fd_seq (fd_iff (fd_or (fd_or (fd_not (fd_cmz fd_p_ne (fd_as fd_vI (fd_cv 1 1 m_X1_has (fd_a1 .int (fd_a1 .ref fd_a0 (fd_gr 11 4 (fd_lda 0))) (fd_ld 1)))))) (fd_cmz fd_p_lt (fd_ld 2))) (fd_cmp fd_p_gt (fd_ld 2) (fd_c (6 : Int32)))) fd_thr fd_sk) (fd_tsw (0) (5) (fd_ld 2) [(fd_rI (fd_ga 0 (fd_gr 1 2 (fd_gr 11 4 (fd_lda 0))) (fd_ld 1))), (fd_rI (fd_ga 0 (fd_gr 10 8 (fd_gr 11 6 (fd_lda 0))) (fd_ld 1))), (fd_rI (fd_ga 0 (fd_gr 10 9 (fd_gr 11 6 (fd_lda 0))) (fd_ld 1))), (fd_rI (fd_ga 0 (fd_gr 1 3 (fd_gr 11 4 (fd_lda 0))) (fd_ld 1))), (fd_rI (fd_ga 0 (fd_gr 1 4 (fd_gr 11 4 (fd_lda 0))) (fd_ld 1))), (fd_rI (fd_ite (fd_cmz fd_p_ne (fd_as fd_vI (fd_cv 10 1 m_X10_wasPlayed (fd_a1 .int (fd_a1 .ref fd_a0 (fd_gr 11 6 (fd_lda 0))) (fd_ld 1))))) (fd_c (1 : Int32)) (fd_c (0 : Int32))))] (fd_rI (fd_ite (fd_cmz fd_p_ne (fd_as fd_vI (fd_cv 10 1 m_X10_isOver (fd_a1 .int (fd_a1 .ref fd_a0 (fd_gr 11 6 (fd_lda 0))) (fd_ld 1))))) (fd_c (1 : Int32)) (fd_c (0 : Int32))))))
def m_X11_feast : List Value → fd_M → Option (Value × fd_M) := fd_fn 3 b_X11_feast
theorem k_X11_feast {X : fd_X} {z : Value × fd_M} (h0 : fd_c0 X) (hfl : X.2.2.1.stackTraces = false) (hex : fd_noT X) (F : fd_F X cX11_feast RX11 3 (some .int) 12) : fd_St X 3 (fd_MX X z) (fun v M => z = (v, M)) 0 0 0 0 b_X11_feast := (fd_sseq (fd_sif (fd_cor (fd_cor (fd_cnot (fd_cj1 (fd_asI (fd_ecv (k := 0) F (c_X1_has X.2.2.1 X.1) yv_X1_has ml_X11_141 (by omega) cl1 (fd_asi (fd_asr fd_as0 (fd_getr F (fd_aload_n (i := 0) F dX11_feast_0 rfl) dX11_feast_1 fl_X11_40)) (fd_iload_n (i := 1) F dX11_feast_4 rfl)) (Nat.le_of_ble_eq_true rfl) dX11_feast_5)) (fd_j1_eq_f (j := 21) F dX11_feast_8 rfl))) (fd_cj1 (fd_iload_n (i := 2) F dX11_feast_11 rfl) (fd_j1_lt_t (j := 21) F dX11_feast_12 rfl))) (fd_cj2 (fd_iload_n (i := 2) F dX11_feast_15 rfl) (fd_bipush (v := (6 : Int32)) F dX11_feast_16 kb_6) (fd_j2_le_f (j := 29) F dX11_feast_18 rfl))) (fd_sthr h0 hfl hex F dX11_feast_21 dX11_feast_24 dX11_feast_25 dX11_feast_28) fd_go0 fd_ssk) (fd_stsw (tg := [68, 78, 88, 98, 108, 118]) (td := 135) F (fd_iload_n (i := 2) F dX11_feast_29 rfl) dX11_feast_30 rfl rfl rfl (fd_slc (fd_srIX h0 F (fd_iald F (fd_getr F (fd_getr F (fd_aload_n (i := 0) F dX11_feast_68 rfl) dX11_feast_69 fl_X11_40) dX11_feast_72 fl_X11_142) (fd_iload_n (i := 1) F dX11_feast_75 rfl) dX11_feast_76) dX11_feast_77) (fd_slc (fd_srIX h0 F (fd_iald F (fd_getr F (fd_getr F (fd_aload_n (i := 0) F dX11_feast_78 rfl) dX11_feast_79 fl_X11_54) dX11_feast_82 fl_X11_145) (fd_iload_n (i := 1) F dX11_feast_85 rfl) dX11_feast_86) dX11_feast_87) (fd_slc (fd_srIX h0 F (fd_iald F (fd_getr F (fd_getr F (fd_aload_n (i := 0) F dX11_feast_88 rfl) dX11_feast_89 fl_X11_54) dX11_feast_92 fl_X11_148) (fd_iload_n (i := 1) F dX11_feast_95 rfl) dX11_feast_96) dX11_feast_97) (fd_slc (fd_srIX h0 F (fd_iald F (fd_getr F (fd_getr F (fd_aload_n (i := 0) F dX11_feast_98 rfl) dX11_feast_99 fl_X11_40) dX11_feast_102 fl_X11_151) (fd_iload_n (i := 1) F dX11_feast_105 rfl) dX11_feast_106) dX11_feast_107) (fd_slc (fd_srIX h0 F (fd_iald F (fd_getr F (fd_getr F (fd_aload_n (i := 0) F dX11_feast_108 rfl) dX11_feast_109 fl_X11_40) dX11_feast_112 fl_X11_154) (fd_iload_n (i := 1) F dX11_feast_115 rfl) dX11_feast_116) dX11_feast_117) (fd_slc (fd_srIX h0 F (fd_eite (fd_cj1 (fd_asI (fd_ecv (k := 0) F (c_X10_wasPlayed X.2.2.1 X.1) yv_X10_wasPlayed ml_X11_157 (by omega) cl10 (fd_asi (fd_asr fd_as0 (fd_getr F (fd_aload_n (i := 0) F dX11_feast_118 rfl) dX11_feast_119 fl_X11_54)) (fd_iload_n (i := 1) F dX11_feast_122 rfl)) (Nat.le_of_ble_eq_true rfl) dX11_feast_123)) (fd_j1_eq_f (j := 133) F dX11_feast_126 rfl)) (fd_ego (fd_iconst (v := (1 : Int32)) F dX11_feast_129 ki_1) (fd_go (q := 134) F dX11_feast_130 rfl)) fd_go0 (fd_iconst (v := (0 : Int32)) F dX11_feast_133 ki_0)) dX11_feast_134) fd_sln)))))) (fd_srIX h0 F (fd_eite (fd_cj1 (fd_asI (fd_ecv (k := 0) F (c_X10_isOver X.2.2.1 X.1) yv_X10_isOver ml_X11_160 (by omega) cl10 (fd_asi (fd_asr fd_as0 (fd_getr F (fd_aload_n (i := 0) F dX11_feast_135 rfl) dX11_feast_136 fl_X11_54)) (fd_iload_n (i := 1) F dX11_feast_139 rfl)) (Nat.le_of_ble_eq_true rfl) dX11_feast_140)) (fd_j1_eq_f (j := 150) F dX11_feast_143 rfl)) (fd_ego (fd_iconst (v := (1 : Int32)) F dX11_feast_146 ki_1) (fd_go (q := 151) F dX11_feast_147 rfl)) fd_go0 (fd_iconst (v := (0 : Int32)) F dX11_feast_150 ki_0)) dX11_feast_151)))
theorem c_X11_feast (l : Launch) (hfl : l.stackTraces = false) (g : fd_G) : fd_ConX l g yX11_feast cX11_feast 3 (some .int) 12 m_X11_feast := fd_mkX hfl (by decide) (fun X z h1 h2 h0 hex F => by subst h1; subst h2; exact k_X11_feast h0 hfl hex F)
def b_X11_row : fd_T := (fd_seq (fd_iff (fd_not (fd_cmz fd_p_ne (fd_as fd_vI (fd_cv 4 1 m_X4_has (fd_a1 .int (fd_a1 .ref fd_a0 (fd_gr 11 1 (fd_lda 0))) (fd_ld 1)))))) fd_thr fd_sk) (fd_rL (fd_as fd_vL (fd_cv 4 1 m_X4_at (fd_a1 .int (fd_a1 .ref fd_a0 (fd_gr 11 1 (fd_lda 0))) (fd_ld 1))))))
def m_X11_row : List Value → fd_M → Option (Value × fd_M) := fd_fn 2 b_X11_row
theorem k_X11_row {X : fd_X} {z : Value × fd_M} (h0 : fd_c0 X) (hfl : X.2.2.1.stackTraces = false) (hex : fd_noT X) (F : fd_F X cX11_row RX11 2 (some .long) 12) : fd_St X 2 (fd_MX X z) (fun v M => z = (v, M)) 0 0 0 0 b_X11_row := (fd_sseq (fd_sif (fd_cnot (fd_cj1 (fd_asI (fd_ecv (k := 0) F (c_X4_has X.2.2.1 X.1) yv_X4_has ml_X11_401 (by omega) cl4 (fd_asi (fd_asr fd_as0 (fd_getr F (fd_aload_n (i := 0) F dX11_row_0 rfl) dX11_row_1 fl_X11_19)) (fd_iload_n (i := 1) F dX11_row_4 rfl)) (Nat.le_of_ble_eq_true rfl) dX11_row_5)) (fd_j1_ne_t (j := 19) F dX11_row_8 rfl))) (fd_sthr h0 hfl hex F dX11_row_11 dX11_row_14 dX11_row_15 dX11_row_18) fd_go0 fd_ssk) (fd_srLX h0 F (fd_asL (fd_ecv (k := 0) F (c_X4_at X.2.2.1 X.1) yv_X4_at ml_X11_402 (by omega) cl4 (fd_asi (fd_asr fd_as0 (fd_getr F (fd_aload_n (i := 0) F dX11_row_19 rfl) dX11_row_20 fl_X11_19)) (fd_iload_n (i := 1) F dX11_row_23 rfl)) (Nat.le_of_ble_eq_true rfl) dX11_row_24)) dX11_row_27))
theorem c_X11_row (l : Launch) (hfl : l.stackTraces = false) (g : fd_G) : fd_ConX l g yX11_row cX11_row 2 (some .long) 12 m_X11_row := fd_mkX hfl (by decide) (fun X z h1 h2 h0 hex F => by subst h1; subst h2; exact k_X11_row h0 hfl hex F)
