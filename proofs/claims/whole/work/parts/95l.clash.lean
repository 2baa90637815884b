theorem an_zero {s b : Nat} (hs : s < 2 ^ 8) : an s b = 0 ↔ ∀ i, s.testBit i = true → b.testBit i = true := by
  constructor
  · intro h i hi
    have i8 : i < 8 := Classical.byContradiction fun z => by
      rw [Nat.testBit_lt_two_pow (Nat.lt_of_lt_of_le hs (Nat.pow_le_pow_right (by decide) (by omega)))] at hi
      exact absurd hi (by decide)
    have := an_tb s b i
    rw [h, Nat.zero_testBit, decide_eq_true i8, hi] at this
    cases e : b.testBit i
    · rw [e] at this; simp at this
    · rfl
  · intro h
    refine tb_ext (n := 8) (an_lt hs) (by decide) fun i hi => ?_
    rw [an_tb, Nat.zero_testBit]
    cases e : s.testBit i
    · simp
    · rw [h i e]; simp
theorem and_zero {s b : Nat} : s &&& b = 0 ↔ ∀ i, s.testBit i = true → b.testBit i = false := by
  constructor
  · intro h i hi
    have : (s &&& b).testBit i = false := by rw [h, Nat.zero_testBit]
    rw [Nat.testBit_and, hi, Bool.true_and] at this
    exact this
  · intro h
    refine Nat.eq_of_testBit_eq fun i => ?_
    rw [Nat.testBit_and, Nat.zero_testBit]
    cases e : s.testBit i
    · rfl
    · rw [h i e]; rfl
theorem left_tb {f pl i : Nat} (hf : f ≤ 8) : (an (2 ^ f - 1) pl).testBit i = (decide (i < f) && !pl.testBit i) := by
  rw [an_tb, Nat.testBit_two_pow_sub_one]
  by_cases h : i < f
  · rw [decide_eq_true h, decide_eq_true (show i < 8 by omega)]
    simp
  · rw [decide_eq_false h]
    simp
theorem left_iff {f pl s : Nat} (hf : f ≤ 8) (hs : s < 2 ^ f) : an s (an (2 ^ f - 1) pl) = 0 ↔ s &&& pl = 0 := by
  rw [an_zero (Nat.lt_of_lt_of_le hs (Nat.pow_le_pow_right (by decide) hf)), and_zero]
  constructor
  · intro h i hi
    have := h i hi
    rw [left_tb hf, Bool.and_eq_true] at this
    simpa using this.2
  · intro h i hi
    rw [left_tb hf, h i hi]
    have : i < f := Classical.byContradiction fun z => by
      rw [Nat.testBit_lt_two_pow (Nat.lt_of_lt_of_le hs (Nat.pow_le_pow_right (by decide) (by omega)))] at hi
      exact absurd hi (by decide)
    simp [this]
theorem left_le {f pl s : Nat} (hf : f ≤ 8) (hs : s < 2 ^ f) (h : s &&& pl = 0) : s ≤ an (2 ^ f - 1) pl := by
  have e : s &&& an (2 ^ f - 1) pl = s := tb_sub fun i hi => (an_zero (Nat.lt_of_lt_of_le hs (Nat.pow_le_pow_right (by decide) hf))).mp ((left_iff hf hs).mpr h) i hi
  rw [← e]
  exact Nat.and_le_right
def cl_m : fd_T := (fd_seq (fd_sI 1 (fd_c (-1 : Int32))) (fd_seq (fd_sI 2 (fd_b2 fd_f_iand (fd_b2 fd_f_isub (fd_b2 fd_f_ishl (fd_c (1 : Int32)) (fd_gf 12 5 (fd_lda 0))) (fd_c (1 : Int32))) (fd_b2 fd_f_ixor (fd_ga 0 (fd_gr 12 0 (fd_lda 0)) (fd_c (6 : Int32))) (fd_c (-1 : Int32))))) (fd_seq (fd_seq (fd_sI 3 (fd_c (0 : Int32))) (fd_whl (fd_cmp fd_p_le (fd_ld 3) (fd_ld 2)) (fd_seq (fd_iff (fd_or (fd_or (fd_cmz fd_p_ne (fd_b2 fd_f_iand (fd_ld 3) (fd_b2 fd_f_ixor (fd_ld 2) (fd_c (-1 : Int32))))) (fd_and (fd_cmp fd_p_ne (fd_ld 1) (fd_c (-1 : Int32))) (fd_cmp fd_p_ge (fd_as fd_vI (fd_cs 1 m_J6_bitCount_0f7a4 (fd_a1 .int fd_a0 (fd_ld 3)))) (fd_as fd_vI (fd_cs 1 m_J6_bitCount_0f7a4 (fd_a1 .int fd_a0 (fd_ld 1))))))) (fd_cmz fd_p_ne (fd_as fd_vI (fd_cv 12 1 m_X12_isWithin (fd_a1 .int (fd_a1 .ref fd_a0 (fd_lda 0)) (fd_ld 3)))))) fd_cnt fd_sk) (fd_sI 1 (fd_ld 3))) (fd_inc 3 (1 : Int32)) fd_fu)) (fd_seq (fd_iff (fd_cmp fd_p_eq (fd_ld 1) (fd_c (-1 : Int32))) (fd_rI (fd_c (-2 : Int32))) fd_sk) (fd_seq (fd_pf 12 16 (fd_lda 0) (fd_c (0 : Int32))) (fd_seq (fd_do (fd_cv 12 1 m_X12_tell (fd_a1 .long (fd_a1 .ref fd_a0 (fd_lda 0)) (fd_b1 fd_f_i2l (fd_as fd_vI (fd_cs 1 m_J6_bitCount_0f7a4 (fd_a1 .int fd_a0 (fd_ld 1)))))))) (fd_rI (fd_ld 1))))))))
theorem cl_m_eq : b_X12_clash = (fd_seq (fd_pf 12 17 (fd_lda 0) (fd_c (0 : Int32))) (fd_seq (fd_iff (fd_cmz fd_p_eq (fd_gf 12 1 (fd_lda 0))) (fd_rI (fd_c (-1 : Int32))) fd_sk) (fd_seq (fd_do (fd_cv 12 1 m_X12_beginRound (fd_a1 .int (fd_a1 .ref fd_a0 (fd_lda 0)) (fd_c (0 : Int32))))) (fd_seq (fd_do (fd_cv 12 1 m_X12_layCanBe (fd_a1 .int (fd_a1 .ref fd_a0 (fd_lda 0)) (fd_c (10 : Int32))))) cl_m)))) := rfl
section CL
variable {M : fd_M} {w : wl} {S : sto} {R : Nat → Nat → Prop}
theorem cl_m_wp (hw : wd w M) (hS : mst w.f 183 0 S M) (hpl : S.pl < 2 ^ w.f) (hb : cb w.v w.f 205 (fun q t => R q t) M) {c1 c2 c3 : Value} {Q : Value → fd_M → Prop} (hQ0 : lu (fun s => s &&& S.pl = 0 ∧ ¬ PL w.v w.f R s) (2 ^ w.f) = none → Q (.int (-2)) M) (hQ1 : ∀ l, lu (fun s => s &&& S.pl = 0 ∧ ¬ PL w.v w.f R s) (2 ^ w.f) = some l → ∀ M2, fZ (fun a j => a = 182 ∧ j = 16) (fun a _ => a = 190) M M2 → M2.1 182 16 = 1 → M2.2 190 0 = (bc (nI l)).toInt64 → Q (.int (nI l)) M2) : fd_wp cl_m ([.ref 182, c1, c2, c3], M) (fun z v s => z = 1 ∧ Q v s.2) := by
  have hf := hw.2.1.1
  have hv := hw.1.1
  have l256 := p256 hf
  have y6 : fd_isA 183 0 6 = true := hA_183 (i := 6) (by omega)
  have z6 : (6 : Int32).toNatClampNeg = 6 := rfl
  have k6 : M.1 183 6 = nI S.pl := by have := hS.2.2.2.2.2.2.1; rwa [Nat.zero_add] at this
  have p2 : nI (2 ^ w.f) - 1 = nI (2 ^ w.f - 1) := by
    have : 1 ≤ 2 ^ w.f := Nat.two_pow_pos _
    rw [show (1 : Int32) = nI 1 from rfl, nI_sub this]
  have l8 : 2 ^ w.f - 1 < 2 ^ 8 := by show _ < 256; omega
  obtain ⟨lf', hlf⟩ : ∃ lf', lf' = an (2 ^ w.f - 1) S.pl := ⟨_, rfl⟩
  have lfl : lf' < 2 ^ w.f := by rw [hlf]; exact an_lt (by omega)
  obtain ⟨C, hC⟩ : ∃ C : Nat → Prop, C = fun s => s &&& S.pl = 0 ∧ ¬ PL w.v w.f R s := ⟨_, rfl⟩
  rw [← hC] at hQ0 hQ1
  have eend : lu C (lf' + 1) = lu C (2 ^ w.f) := (lu_none (C := C) (m := lf' + 1) (n := 2 ^ w.f) (by omega) (fun s h1 h2 h3 => by
    rw [hC] at h3
    have := left_le hf h2 h3.1
    omega)).symm
  unfold cl_m
  simp [↓wp_ldn, ↓wp_b1, ↓wp_b2, ↓wp_b2z, ↓wp_gf, ↓wp_gd, ↓wp_ga, ↓wp_gl, ↓wp_al2, ↓wp_pi, ↓wp_ltr, ↓wp_ite, ↓wp_and, ↓wp_or, ↓wp_not, ↓wp_cmp, ↓wp_cmz, ↓wp_isn, ↓wp_nsn, ↓wp_a0, ↓wp_a1, ↓wp_cv, ↓wp_cs, ↓wp_dr, ↓wp_sk, ↓wp_brk, ↓wp_cnt, ↓wp_rV, ↓wp_seq, ↓wp_iff, ↓wp_sI, ↓wp_sL, ↓wp_sN, ↓wp_inc, ↓wp_do, ↓wp_rI, ↓wp_rL, ↓wp_rN, ↓wp_rZ, ↓wp_pf, ↓wp_pz, ↓wp_pd, ↓wp_po, ↓wp_pl, ↓wp_pao, ↓wp_tsw, ↓wp_lsw, ↓wp_fn, ↓wq_ld, ↓wq_ldl, ↓wq_lda, ↓wq_c, ↓wq_gr, ↓wq_gq, ↓wq_nn, ↓wq_asI, ↓wq_asL, ↓wq_asN, ↓wq_pa, hO_182, hR_182_0, hF_182_1, hR_182_2, hF_182_3, hR_182_4, hF_182_5, hR_182_6, hR_182_7, hR_182_8, hF_182_9, hF_182_10, hF_182_11, hF_182_12, hR_182_13, hF_182_14, hR_182_15, hF_182_16, hF_182_17, hF_182_18, hF_182_19, hF_182_20, hF_182_21, hF_182_22, hR_182_23, hR_182_24, hF_182_25, hF_182_26, hR_182_27, hR_182_28, hR_182_29, hF_182_30, hF_182_31, hR_182_32, hR_182_33, hF_182_34, hR_182_35, hF_182_36, hF_182_37, hF_182_38, hF_182_39, hF_182_40, hR_182_41, hR_182_42, hR_182_43, hR_182_44, hR_182_45, hR_182_46, hF_182_47, hR_182_48, hR_182_49, hR_182_50, hR_182_51, hR_182_52, hF_182_53, hR_182_54, hR_182_55, hR_182_56, hR_182_57, hF_182_58, hR_182_59, hR_182_60, hR_182_61, fd_p_eq, fd_p_ne, fd_p_lt, fd_p_ge, fd_p_gt, fd_p_le, fd_f_iadd, fd_f_isub, fd_f_imul, fd_f_iand, fd_f_ior, fd_f_ixor, fd_f_ishl, fd_f_ishr, fd_f_iushr, fd_f_ladd, fd_f_lsub, fd_f_lmul, fd_f_lcmp, fd_f_idiv, fd_f_irem, fd_f_ldiv, fd_f_lrem, fd_f_ineg, fd_f_i2l, fd_f_l2i, fd_f_i2b, fd_f_i2s, fd_f_i2c, fd_z_idiv, fd_z_irem, fd_z_ldiv, fd_z_lrem, fd_in0, fd_sl, fd_st1, fd_st2, fd_kl, fd_vI, fd_vL, fd_vN, fd_ok1, fd_v_int, xI, xL, xR, xK, xG, yI, yL, yN, -Prod.exists, hw.2.1.2.2.1, fa_shl w.f (by omega), y6, z6, k6, p2, an_not l8, ← hlf]
  obtain ⟨J, hJ⟩ : ∃ J : Nat → fd_S → Prop, J = fun s σ => σ = ([.ref 182, .int (lgw (-1) (lu C s)), .int (nI lf'), .int (nI s)], M) := ⟨_, rfl⟩
  refine wp_for (lf' + 1) J (fd_fu_lt (by omega)) (Nat.zero_le _) (by rw [hJ]; rfl) (fun s σ hs h => ?_) (fun σ h => ?_)
  · rw [hJ] at h
    subst h
    have d1 : nI s ≤ nI lf' := nI_le (by omega) (by omega)
    have sl : s < 2 ^ w.f := by omega
    have s8 : s < 2 ^ 8 := Nat.lt_of_lt_of_le sl (Nat.pow_le_pow_right (by decide) hf)
    have el : lu C (s + 1) = if rch (C s) = true ∧ rch (∀ l, lu C s = some l → bc (nI s) < bc (nI l)) = true then some s else lu C s := rfl
    have al := an_lt (s := lf') s8
    have ea : nI (an s lf') = 0 ↔ s &&& S.pl = 0 := by
      rw [hlf, ← left_iff hf sl]
      rw [hlf] at al
      exact nI_eq (b := 0) (by omega) (by decide)
    have iw := s_X12_isWithin (R := R) hw.1.2.2.1 hw.2.1.2.2.1 hv hf sl hb
    have skip : ¬ (C s ∧ ∀ l, lu C s = some l → bc (nI s) < bc (nI l)) → J (s + 1) ([.ref 182, .int (lgw (-1) (lu C s)), .int (nI lf'), .int (nI (s + 1))], M) := fun no => by
      rw [if_neg (fun z => no ⟨rch_iff.mp z.1, rch_iff.mp z.2⟩)] at el
      rw [hJ]
      dsimp only
      rw [el]
    have take : (C s ∧ ∀ l, lu C s = some l → bc (nI s) < bc (nI l)) → J (s + 1) ([.ref 182, .int (nI s), .int (nI lf'), .int (nI (s + 1))], M) := fun yes => by
      rw [if_pos ⟨rch_iff.mpr yes.1, rch_iff.mpr yes.2⟩] at el
      rw [hJ]
      dsimp only
      rw [el]
      rfl
    have hCs : C s ↔ s &&& S.pl = 0 ∧ ¬ PL w.v w.f R s := by rw [hC]
    by_cases c : s &&& S.pl = 0
    rotate_left
    · have g := skip (fun z => c (hCs.mp z.1).1)
      simp [↓wp_ldn, ↓wp_b1, ↓wp_b2, ↓wp_b2z, ↓wp_gf, ↓wp_gd, ↓wp_ga, ↓wp_gl, ↓wp_al2, ↓wp_pi, ↓wp_ltr, ↓wp_ite, ↓wp_and, ↓wp_or, ↓wp_not, ↓wp_cmp, ↓wp_cmz, ↓wp_isn, ↓wp_nsn, ↓wp_a0, ↓wp_a1, ↓wp_cv, ↓wp_cs, ↓wp_dr, ↓wp_sk, ↓wp_brk, ↓wp_cnt, ↓wp_rV, ↓wp_seq, ↓wp_iff, ↓wp_sI, ↓wp_sL, ↓wp_sN, ↓wp_inc, ↓wp_do, ↓wp_rI, ↓wp_rL, ↓wp_rN, ↓wp_rZ, ↓wp_pf, ↓wp_pz, ↓wp_pd, ↓wp_po, ↓wp_pl, ↓wp_pao, ↓wp_tsw, ↓wp_lsw, ↓wp_fn, ↓wq_ld, ↓wq_ldl, ↓wq_lda, ↓wq_c, ↓wq_gr, ↓wq_gq, ↓wq_nn, ↓wq_asI, ↓wq_asL, ↓wq_asN, ↓wq_pa, hO_182, hR_182_0, hF_182_1, hR_182_2, hF_182_3, hR_182_4, hF_182_5, hR_182_6, hR_182_7, hR_182_8, hF_182_9, hF_182_10, hF_182_11, hF_182_12, hR_182_13, hF_182_14, hR_182_15, hF_182_16, hF_182_17, hF_182_18, hF_182_19, hF_182_20, hF_182_21, hF_182_22, hR_182_23, hR_182_24, hF_182_25, hF_182_26, hR_182_27, hR_182_28, hR_182_29, hF_182_30, hF_182_31, hR_182_32, hR_182_33, hF_182_34, hR_182_35, hF_182_36, hF_182_37, hF_182_38, hF_182_39, hF_182_40, hR_182_41, hR_182_42, hR_182_43, hR_182_44, hR_182_45, hR_182_46, hF_182_47, hR_182_48, hR_182_49, hR_182_50, hR_182_51, hR_182_52, hF_182_53, hR_182_54, hR_182_55, hR_182_56, hR_182_57, hF_182_58, hR_182_59, hR_182_60, hR_182_61, fd_p_eq, fd_p_ne, fd_p_lt, fd_p_ge, fd_p_gt, fd_p_le, fd_f_iadd, fd_f_isub, fd_f_imul, fd_f_iand, fd_f_ior, fd_f_ixor, fd_f_ishl, fd_f_ishr, fd_f_iushr, fd_f_ladd, fd_f_lsub, fd_f_lmul, fd_f_lcmp, fd_f_idiv, fd_f_irem, fd_f_ldiv, fd_f_lrem, fd_f_ineg, fd_f_i2l, fd_f_l2i, fd_f_i2b, fd_f_i2s, fd_f_i2c, fd_z_idiv, fd_z_irem, fd_z_ldiv, fd_z_lrem, fd_in0, fd_sl, fd_st1, fd_st2, fd_kl, fd_vI, fd_vL, fd_vN, fd_ok1, fd_v_int, xI, xL, xR, xK, xG, yI, yL, yN, -Prod.exists, d1, an_not s8, mt ea.mp c, nI_1]
      exact g
    have e0 := ea.mpr c
    cases e : lu C s with
    | none =>
      by_cases d : PL w.v w.f R s
      · rw [if_pos (rch_iff.mpr d)] at iw
        have g := skip (fun z => (hCs.mp z.1).2 d)
        rw [e] at g
        simp [lgw] at g
        simp [↓wp_ldn, ↓wp_b1, ↓wp_b2, ↓wp_b2z, ↓wp_gf, ↓wp_gd, ↓wp_ga, ↓wp_gl, ↓wp_al2, ↓wp_pi, ↓wp_ltr, ↓wp_ite, ↓wp_and, ↓wp_or, ↓wp_not, ↓wp_cmp, ↓wp_cmz, ↓wp_isn, ↓wp_nsn, ↓wp_a0, ↓wp_a1, ↓wp_cv, ↓wp_cs, ↓wp_dr, ↓wp_sk, ↓wp_brk, ↓wp_cnt, ↓wp_rV, ↓wp_seq, ↓wp_iff, ↓wp_sI, ↓wp_sL, ↓wp_sN, ↓wp_inc, ↓wp_do, ↓wp_rI, ↓wp_rL, ↓wp_rN, ↓wp_rZ, ↓wp_pf, ↓wp_pz, ↓wp_pd, ↓wp_po, ↓wp_pl, ↓wp_pao, ↓wp_tsw, ↓wp_lsw, ↓wp_fn, ↓wq_ld, ↓wq_ldl, ↓wq_lda, ↓wq_c, ↓wq_gr, ↓wq_gq, ↓wq_nn, ↓wq_asI, ↓wq_asL, ↓wq_asN, ↓wq_pa, hO_182, hR_182_0, hF_182_1, hR_182_2, hF_182_3, hR_182_4, hF_182_5, hR_182_6, hR_182_7, hR_182_8, hF_182_9, hF_182_10, hF_182_11, hF_182_12, hR_182_13, hF_182_14, hR_182_15, hF_182_16, hF_182_17, hF_182_18, hF_182_19, hF_182_20, hF_182_21, hF_182_22, hR_182_23, hR_182_24, hF_182_25, hF_182_26, hR_182_27, hR_182_28, hR_182_29, hF_182_30, hF_182_31, hR_182_32, hR_182_33, hF_182_34, hR_182_35, hF_182_36, hF_182_37, hF_182_38, hF_182_39, hF_182_40, hR_182_41, hR_182_42, hR_182_43, hR_182_44, hR_182_45, hR_182_46, hF_182_47, hR_182_48, hR_182_49, hR_182_50, hR_182_51, hR_182_52, hF_182_53, hR_182_54, hR_182_55, hR_182_56, hR_182_57, hF_182_58, hR_182_59, hR_182_60, hR_182_61, fd_p_eq, fd_p_ne, fd_p_lt, fd_p_ge, fd_p_gt, fd_p_le, fd_f_iadd, fd_f_isub, fd_f_imul, fd_f_iand, fd_f_ior, fd_f_ixor, fd_f_ishl, fd_f_ishr, fd_f_iushr, fd_f_ladd, fd_f_lsub, fd_f_lmul, fd_f_lcmp, fd_f_idiv, fd_f_irem, fd_f_ldiv, fd_f_lrem, fd_f_ineg, fd_f_i2l, fd_f_l2i, fd_f_i2b, fd_f_i2s, fd_f_i2c, fd_z_idiv, fd_z_irem, fd_z_ldiv, fd_z_lrem, fd_in0, fd_sl, fd_st1, fd_st2, fd_kl, fd_vI, fd_vL, fd_vN, fd_ok1, fd_v_int, xI, xL, xR, xK, xG, yI, yL, yN, -Prod.exists, d1, an_not s8, e0, lgw, fd_run_of iw, nI_1]
        exact g
      · rw [if_neg (fun z => d (rch_iff.mp z))] at iw
        have g := take ⟨hCs.mpr ⟨c, d⟩, fun l hl => by rw [e] at hl; cases hl⟩
        simp [↓wp_ldn, ↓wp_b1, ↓wp_b2, ↓wp_b2z, ↓wp_gf, ↓wp_gd, ↓wp_ga, ↓wp_gl, ↓wp_al2, ↓wp_pi, ↓wp_ltr, ↓wp_ite, ↓wp_and, ↓wp_or, ↓wp_not, ↓wp_cmp, ↓wp_cmz, ↓wp_isn, ↓wp_nsn, ↓wp_a0, ↓wp_a1, ↓wp_cv, ↓wp_cs, ↓wp_dr, ↓wp_sk, ↓wp_brk, ↓wp_cnt, ↓wp_rV, ↓wp_seq, ↓wp_iff, ↓wp_sI, ↓wp_sL, ↓wp_sN, ↓wp_inc, ↓wp_do, ↓wp_rI, ↓wp_rL, ↓wp_rN, ↓wp_rZ, ↓wp_pf, ↓wp_pz, ↓wp_pd, ↓wp_po, ↓wp_pl, ↓wp_pao, ↓wp_tsw, ↓wp_lsw, ↓wp_fn, ↓wq_ld, ↓wq_ldl, ↓wq_lda, ↓wq_c, ↓wq_gr, ↓wq_gq, ↓wq_nn, ↓wq_asI, ↓wq_asL, ↓wq_asN, ↓wq_pa, hO_182, hR_182_0, hF_182_1, hR_182_2, hF_182_3, hR_182_4, hF_182_5, hR_182_6, hR_182_7, hR_182_8, hF_182_9, hF_182_10, hF_182_11, hF_182_12, hR_182_13, hF_182_14, hR_182_15, hF_182_16, hF_182_17, hF_182_18, hF_182_19, hF_182_20, hF_182_21, hF_182_22, hR_182_23, hR_182_24, hF_182_25, hF_182_26, hR_182_27, hR_182_28, hR_182_29, hF_182_30, hF_182_31, hR_182_32, hR_182_33, hF_182_34, hR_182_35, hF_182_36, hF_182_37, hF_182_38, hF_182_39, hF_182_40, hR_182_41, hR_182_42, hR_182_43, hR_182_44, hR_182_45, hR_182_46, hF_182_47, hR_182_48, hR_182_49, hR_182_50, hR_182_51, hR_182_52, hF_182_53, hR_182_54, hR_182_55, hR_182_56, hR_182_57, hF_182_58, hR_182_59, hR_182_60, hR_182_61, fd_p_eq, fd_p_ne, fd_p_lt, fd_p_ge, fd_p_gt, fd_p_le, fd_f_iadd, fd_f_isub, fd_f_imul, fd_f_iand, fd_f_ior, fd_f_ixor, fd_f_ishl, fd_f_ishr, fd_f_iushr, fd_f_ladd, fd_f_lsub, fd_f_lmul, fd_f_lcmp, fd_f_idiv, fd_f_irem, fd_f_ldiv, fd_f_lrem, fd_f_ineg, fd_f_i2l, fd_f_l2i, fd_f_i2b, fd_f_i2s, fd_f_i2c, fd_z_idiv, fd_z_irem, fd_z_ldiv, fd_z_lrem, fd_in0, fd_sl, fd_st1, fd_st2, fd_kl, fd_vI, fd_vL, fd_vN, fd_ok1, fd_v_int, xI, xL, xR, xK, xG, yI, yL, yN, -Prod.exists, d1, an_not s8, e0, lgw, fd_run_of iw, nI_1]
        exact g
    | some l =>
      have ll := lu_lt C s l e
      have m1 : ¬ nI l = -1 := nI_m1 (by omega)
      rcases lt_cases (bc (nI s)) (bc (nI l)) with ⟨b, b'⟩ | ⟨b, b'⟩
      · by_cases d : PL w.v w.f R s
        · rw [if_pos (rch_iff.mpr d)] at iw
          have g := skip (fun z => (hCs.mp z.1).2 d)
          rw [e] at g
          simp [lgw] at g
          simp [↓wp_ldn, ↓wp_b1, ↓wp_b2, ↓wp_b2z, ↓wp_gf, ↓wp_gd, ↓wp_ga, ↓wp_gl, ↓wp_al2, ↓wp_pi, ↓wp_ltr, ↓wp_ite, ↓wp_and, ↓wp_or, ↓wp_not, ↓wp_cmp, ↓wp_cmz, ↓wp_isn, ↓wp_nsn, ↓wp_a0, ↓wp_a1, ↓wp_cv, ↓wp_cs, ↓wp_dr, ↓wp_sk, ↓wp_brk, ↓wp_cnt, ↓wp_rV, ↓wp_seq, ↓wp_iff, ↓wp_sI, ↓wp_sL, ↓wp_sN, ↓wp_inc, ↓wp_do, ↓wp_rI, ↓wp_rL, ↓wp_rN, ↓wp_rZ, ↓wp_pf, ↓wp_pz, ↓wp_pd, ↓wp_po, ↓wp_pl, ↓wp_pao, ↓wp_tsw, ↓wp_lsw, ↓wp_fn, ↓wq_ld, ↓wq_ldl, ↓wq_lda, ↓wq_c, ↓wq_gr, ↓wq_gq, ↓wq_nn, ↓wq_asI, ↓wq_asL, ↓wq_asN, ↓wq_pa, hO_182, hR_182_0, hF_182_1, hR_182_2, hF_182_3, hR_182_4, hF_182_5, hR_182_6, hR_182_7, hR_182_8, hF_182_9, hF_182_10, hF_182_11, hF_182_12, hR_182_13, hF_182_14, hR_182_15, hF_182_16, hF_182_17, hF_182_18, hF_182_19, hF_182_20, hF_182_21, hF_182_22, hR_182_23, hR_182_24, hF_182_25, hF_182_26, hR_182_27, hR_182_28, hR_182_29, hF_182_30, hF_182_31, hR_182_32, hR_182_33, hF_182_34, hR_182_35, hF_182_36, hF_182_37, hF_182_38, hF_182_39, hF_182_40, hR_182_41, hR_182_42, hR_182_43, hR_182_44, hR_182_45, hR_182_46, hF_182_47, hR_182_48, hR_182_49, hR_182_50, hR_182_51, hR_182_52, hF_182_53, hR_182_54, hR_182_55, hR_182_56, hR_182_57, hF_182_58, hR_182_59, hR_182_60, hR_182_61, fd_p_eq, fd_p_ne, fd_p_lt, fd_p_ge, fd_p_gt, fd_p_le, fd_f_iadd, fd_f_isub, fd_f_imul, fd_f_iand, fd_f_ior, fd_f_ixor, fd_f_ishl, fd_f_ishr, fd_f_iushr, fd_f_ladd, fd_f_lsub, fd_f_lmul, fd_f_lcmp, fd_f_idiv, fd_f_irem, fd_f_ldiv, fd_f_lrem, fd_f_ineg, fd_f_i2l, fd_f_l2i, fd_f_i2b, fd_f_i2s, fd_f_i2c, fd_z_idiv, fd_z_irem, fd_z_ldiv, fd_z_lrem, fd_in0, fd_sl, fd_st1, fd_st2, fd_kl, fd_vI, fd_vL, fd_vN, fd_ok1, fd_v_int, xI, xL, xR, xK, xG, yI, yL, yN, -Prod.exists, d1, an_not s8, e0, lgw, m1, fd_run_of (s_bitCount _ _), b, b', fd_run_of iw, nI_1]
          exact g
        · rw [if_neg (fun z => d (rch_iff.mp z))] at iw
          have g := take ⟨hCs.mpr ⟨c, d⟩, fun l' hl => by rw [e] at hl; cases hl; exact b⟩
          simp [↓wp_ldn, ↓wp_b1, ↓wp_b2, ↓wp_b2z, ↓wp_gf, ↓wp_gd, ↓wp_ga, ↓wp_gl, ↓wp_al2, ↓wp_pi, ↓wp_ltr, ↓wp_ite, ↓wp_and, ↓wp_or, ↓wp_not, ↓wp_cmp, ↓wp_cmz, ↓wp_isn, ↓wp_nsn, ↓wp_a0, ↓wp_a1, ↓wp_cv, ↓wp_cs, ↓wp_dr, ↓wp_sk, ↓wp_brk, ↓wp_cnt, ↓wp_rV, ↓wp_seq, ↓wp_iff, ↓wp_sI, ↓wp_sL, ↓wp_sN, ↓wp_inc, ↓wp_do, ↓wp_rI, ↓wp_rL, ↓wp_rN, ↓wp_rZ, ↓wp_pf, ↓wp_pz, ↓wp_pd, ↓wp_po, ↓wp_pl, ↓wp_pao, ↓wp_tsw, ↓wp_lsw, ↓wp_fn, ↓wq_ld, ↓wq_ldl, ↓wq_lda, ↓wq_c, ↓wq_gr, ↓wq_gq, ↓wq_nn, ↓wq_asI, ↓wq_asL, ↓wq_asN, ↓wq_pa, hO_182, hR_182_0, hF_182_1, hR_182_2, hF_182_3, hR_182_4, hF_182_5, hR_182_6, hR_182_7, hR_182_8, hF_182_9, hF_182_10, hF_182_11, hF_182_12, hR_182_13, hF_182_14, hR_182_15, hF_182_16, hF_182_17, hF_182_18, hF_182_19, hF_182_20, hF_182_21, hF_182_22, hR_182_23, hR_182_24, hF_182_25, hF_182_26, hR_182_27, hR_182_28, hR_182_29, hF_182_30, hF_182_31, hR_182_32, hR_182_33, hF_182_34, hR_182_35, hF_182_36, hF_182_37, hF_182_38, hF_182_39, hF_182_40, hR_182_41, hR_182_42, hR_182_43, hR_182_44, hR_182_45, hR_182_46, hF_182_47, hR_182_48, hR_182_49, hR_182_50, hR_182_51, hR_182_52, hF_182_53, hR_182_54, hR_182_55, hR_182_56, hR_182_57, hF_182_58, hR_182_59, hR_182_60, hR_182_61, fd_p_eq, fd_p_ne, fd_p_lt, fd_p_ge, fd_p_gt, fd_p_le, fd_f_iadd, fd_f_isub, fd_f_imul, fd_f_iand, fd_f_ior, fd_f_ixor, fd_f_ishl, fd_f_ishr, fd_f_iushr, fd_f_ladd, fd_f_lsub, fd_f_lmul, fd_f_lcmp, fd_f_idiv, fd_f_irem, fd_f_ldiv, fd_f_lrem, fd_f_ineg, fd_f_i2l, fd_f_l2i, fd_f_i2b, fd_f_i2s, fd_f_i2c, fd_z_idiv, fd_z_irem, fd_z_ldiv, fd_z_lrem, fd_in0, fd_sl, fd_st1, fd_st2, fd_kl, fd_vI, fd_vL, fd_vN, fd_ok1, fd_v_int, xI, xL, xR, xK, xG, yI, yL, yN, -Prod.exists, d1, an_not s8, e0, lgw, m1, fd_run_of (s_bitCount _ _), b, b', fd_run_of iw, nI_1]
          exact g
      · have g := skip (fun z => b (z.2 l e))
        rw [e] at g
        simp [lgw] at g
        simp [↓wp_ldn, ↓wp_b1, ↓wp_b2, ↓wp_b2z, ↓wp_gf, ↓wp_gd, ↓wp_ga, ↓wp_gl, ↓wp_al2, ↓wp_pi, ↓wp_ltr, ↓wp_ite, ↓wp_and, ↓wp_or, ↓wp_not, ↓wp_cmp, ↓wp_cmz, ↓wp_isn, ↓wp_nsn, ↓wp_a0, ↓wp_a1, ↓wp_cv, ↓wp_cs, ↓wp_dr, ↓wp_sk, ↓wp_brk, ↓wp_cnt, ↓wp_rV, ↓wp_seq, ↓wp_iff, ↓wp_sI, ↓wp_sL, ↓wp_sN, ↓wp_inc, ↓wp_do, ↓wp_rI, ↓wp_rL, ↓wp_rN, ↓wp_rZ, ↓wp_pf, ↓wp_pz, ↓wp_pd, ↓wp_po, ↓wp_pl, ↓wp_pao, ↓wp_tsw, ↓wp_lsw, ↓wp_fn, ↓wq_ld, ↓wq_ldl, ↓wq_lda, ↓wq_c, ↓wq_gr, ↓wq_gq, ↓wq_nn, ↓wq_asI, ↓wq_asL, ↓wq_asN, ↓wq_pa, hO_182, hR_182_0, hF_182_1, hR_182_2, hF_182_3, hR_182_4, hF_182_5, hR_182_6, hR_182_7, hR_182_8, hF_182_9, hF_182_10, hF_182_11, hF_182_12, hR_182_13, hF_182_14, hR_182_15, hF_182_16, hF_182_17, hF_182_18, hF_182_19, hF_182_20, hF_182_21, hF_182_22, hR_182_23, hR_182_24, hF_182_25, hF_182_26, hR_182_27, hR_182_28, hR_182_29, hF_182_30, hF_182_31, hR_182_32, hR_182_33, hF_182_34, hR_182_35, hF_182_36, hF_182_37, hF_182_38, hF_182_39, hF_182_40, hR_182_41, hR_182_42, hR_182_43, hR_182_44, hR_182_45, hR_182_46, hF_182_47, hR_182_48, hR_182_49, hR_182_50, hR_182_51, hR_182_52, hF_182_53, hR_182_54, hR_182_55, hR_182_56, hR_182_57, hF_182_58, hR_182_59, hR_182_60, hR_182_61, fd_p_eq, fd_p_ne, fd_p_lt, fd_p_ge, fd_p_gt, fd_p_le, fd_f_iadd, fd_f_isub, fd_f_imul, fd_f_iand, fd_f_ior, fd_f_ixor, fd_f_ishl, fd_f_ishr, fd_f_iushr, fd_f_ladd, fd_f_lsub, fd_f_lmul, fd_f_lcmp, fd_f_idiv, fd_f_irem, fd_f_ldiv, fd_f_lrem, fd_f_ineg, fd_f_i2l, fd_f_l2i, fd_f_i2b, fd_f_i2s, fd_f_i2c, fd_z_idiv, fd_z_irem, fd_z_ldiv, fd_z_lrem, fd_in0, fd_sl, fd_st1, fd_st2, fd_kl, fd_vI, fd_vL, fd_vN, fd_ok1, fd_v_int, xI, xL, xR, xK, xG, yI, yL, yN, -Prod.exists, d1, an_not s8, e0, lgw, m1, fd_run_of (s_bitCount _ _), b, b', nI_1]
        exact g
  · rw [hJ] at h
    subst h
    have d1 : ¬ nI (lf' + 1) ≤ nI lf' := nI_ge (by omega) (by omega)
    rw [eend]
    cases e : lu C (2 ^ w.f) with
    | none =>
      simp [↓wp_ldn, ↓wp_b1, ↓wp_b2, ↓wp_b2z, ↓wp_gf, ↓wp_gd, ↓wp_ga, ↓wp_gl, ↓wp_al2, ↓wp_pi, ↓wp_ltr, ↓wp_ite, ↓wp_and, ↓wp_or, ↓wp_not, ↓wp_cmp, ↓wp_cmz, ↓wp_isn, ↓wp_nsn, ↓wp_a0, ↓wp_a1, ↓wp_cv, ↓wp_cs, ↓wp_dr, ↓wp_sk, ↓wp_brk, ↓wp_cnt, ↓wp_rV, ↓wp_seq, ↓wp_iff, ↓wp_sI, ↓wp_sL, ↓wp_sN, ↓wp_inc, ↓wp_do, ↓wp_rI, ↓wp_rL, ↓wp_rN, ↓wp_rZ, ↓wp_pf, ↓wp_pz, ↓wp_pd, ↓wp_po, ↓wp_pl, ↓wp_pao, ↓wp_tsw, ↓wp_lsw, ↓wp_fn, ↓wq_ld, ↓wq_ldl, ↓wq_lda, ↓wq_c, ↓wq_gr, ↓wq_gq, ↓wq_nn, ↓wq_asI, ↓wq_asL, ↓wq_asN, ↓wq_pa, hO_182, hR_182_0, hF_182_1, hR_182_2, hF_182_3, hR_182_4, hF_182_5, hR_182_6, hR_182_7, hR_182_8, hF_182_9, hF_182_10, hF_182_11, hF_182_12, hR_182_13, hF_182_14, hR_182_15, hF_182_16, hF_182_17, hF_182_18, hF_182_19, hF_182_20, hF_182_21, hF_182_22, hR_182_23, hR_182_24, hF_182_25, hF_182_26, hR_182_27, hR_182_28, hR_182_29, hF_182_30, hF_182_31, hR_182_32, hR_182_33, hF_182_34, hR_182_35, hF_182_36, hF_182_37, hF_182_38, hF_182_39, hF_182_40, hR_182_41, hR_182_42, hR_182_43, hR_182_44, hR_182_45, hR_182_46, hF_182_47, hR_182_48, hR_182_49, hR_182_50, hR_182_51, hR_182_52, hF_182_53, hR_182_54, hR_182_55, hR_182_56, hR_182_57, hF_182_58, hR_182_59, hR_182_60, hR_182_61, fd_p_eq, fd_p_ne, fd_p_lt, fd_p_ge, fd_p_gt, fd_p_le, fd_f_iadd, fd_f_isub, fd_f_imul, fd_f_iand, fd_f_ior, fd_f_ixor, fd_f_ishl, fd_f_ishr, fd_f_iushr, fd_f_ladd, fd_f_lsub, fd_f_lmul, fd_f_lcmp, fd_f_idiv, fd_f_irem, fd_f_ldiv, fd_f_lrem, fd_f_ineg, fd_f_i2l, fd_f_l2i, fd_f_i2b, fd_f_i2s, fd_f_i2c, fd_z_idiv, fd_z_irem, fd_z_ldiv, fd_z_lrem, fd_in0, fd_sl, fd_st1, fd_st2, fd_kl, fd_vI, fd_vL, fd_vN, fd_ok1, fd_v_int, xI, xL, xR, xK, xG, yI, yL, yN, -Prod.exists, d1, lgw]
      exact hQ0 e
    | some l =>
      have ll := lu_lt C _ l e
      have m1 : ¬ nI l = -1 := nI_m1 (by omega)
      simp [↓wp_ldn, ↓wp_b1, ↓wp_b2, ↓wp_b2z, ↓wp_gf, ↓wp_gd, ↓wp_ga, ↓wp_gl, ↓wp_al2, ↓wp_pi, ↓wp_ltr, ↓wp_ite, ↓wp_and, ↓wp_or, ↓wp_not, ↓wp_cmp, ↓wp_cmz, ↓wp_isn, ↓wp_nsn, ↓wp_a0, ↓wp_a1, ↓wp_cv, ↓wp_cs, ↓wp_dr, ↓wp_sk, ↓wp_brk, ↓wp_cnt, ↓wp_rV, ↓wp_seq, ↓wp_iff, ↓wp_sI, ↓wp_sL, ↓wp_sN, ↓wp_inc, ↓wp_do, ↓wp_rI, ↓wp_rL, ↓wp_rN, ↓wp_rZ, ↓wp_pf, ↓wp_pz, ↓wp_pd, ↓wp_po, ↓wp_pl, ↓wp_pao, ↓wp_tsw, ↓wp_lsw, ↓wp_fn, ↓wq_ld, ↓wq_ldl, ↓wq_lda, ↓wq_c, ↓wq_gr, ↓wq_gq, ↓wq_nn, ↓wq_asI, ↓wq_asL, ↓wq_asN, ↓wq_pa, hO_182, hR_182_0, hF_182_1, hR_182_2, hF_182_3, hR_182_4, hF_182_5, hR_182_6, hR_182_7, hR_182_8, hF_182_9, hF_182_10, hF_182_11, hF_182_12, hR_182_13, hF_182_14, hR_182_15, hF_182_16, hF_182_17, hF_182_18, hF_182_19, hF_182_20, hF_182_21, hF_182_22, hR_182_23, hR_182_24, hF_182_25, hF_182_26, hR_182_27, hR_182_28, hR_182_29, hF_182_30, hF_182_31, hR_182_32, hR_182_33, hF_182_34, hR_182_35, hF_182_36, hF_182_37, hF_182_38, hF_182_39, hF_182_40, hR_182_41, hR_182_42, hR_182_43, hR_182_44, hR_182_45, hR_182_46, hF_182_47, hR_182_48, hR_182_49, hR_182_50, hR_182_51, hR_182_52, hF_182_53, hR_182_54, hR_182_55, hR_182_56, hR_182_57, hF_182_58, hR_182_59, hR_182_60, hR_182_61, fd_p_eq, fd_p_ne, fd_p_lt, fd_p_ge, fd_p_gt, fd_p_le, fd_f_iadd, fd_f_isub, fd_f_imul, fd_f_iand, fd_f_ior, fd_f_ixor, fd_f_ishl, fd_f_ishr, fd_f_iushr, fd_f_ladd, fd_f_lsub, fd_f_lmul, fd_f_lcmp, fd_f_idiv, fd_f_irem, fd_f_ldiv, fd_f_lrem, fd_f_ineg, fd_f_i2l, fd_f_l2i, fd_f_i2b, fd_f_i2s, fd_f_i2c, fd_z_idiv, fd_z_irem, fd_z_ldiv, fd_z_lrem, fd_in0, fd_sl, fd_st1, fd_st2, fd_kl, fd_vI, fd_vL, fd_vN, fd_ok1, fd_v_int, xI, xL, xR, xK, xG, yI, yL, yN, -Prod.exists, d1, lgw, m1, fd_run_of (s_bitCount _ _), t_tell0, rd_I]
      refine hQ1 l e _ (fZ.uI (fZ.uL (fZ.uI fZ.rf ⟨rfl, rfl⟩) rfl) ⟨rfl, rfl⟩) ?_ ?_
      · simp [rd_I]
      · simp [rd_L, rd_I2]
end CL
theorem call_clash : fd_both m_X11_clash m_X12_clash [] := by
  refine fd_both_of fun c M hc hI => ?_
  obtain ⟨v, f, n, R, D, A, B, U, L, H, N, a1, a2, a3, a4, a5, a6, a7, a8, a9, a10⟩ := hI
  obtain ⟨w, rfl, rfl, rfl, rfl, rfl, rfl, rfl, hw⟩ := wd_of a3 a4 a5 a6
  obtain ⟨S, sk, sc, sm⟩ := a7
  have hf := hw.2.1.1
  have hv := hw.1.1
  have l256 := p256 hf
  have I0 := Inv_mk a1 a2 a3 a4 a5 a6 ⟨S, sk, sc, sm⟩ a8 a9 a10
  have sk' : sok w.v w.f 1400000 S := sk.up (by omega)
  have s0 : fd_sm [0] M (fd_uI M 182 17 0) := (by repeat' (first | exact fd_sm.rf | refine fd_sm.uI ?_ (by first | decide | (simp [cl, cl_182]; done)) | refine fd_sm.uL ?_ (by first | decide | (simp [cl, cl_182]; done))))
  have e5 := hw.1.2.1
  by_cases c0 : w.v = 0
  · have e0 : nI w.v = 0 := by rw [c0]; rfl
    unfold m_X11_clash b_X11_clash
    simp [↓wp_ldn, ↓wp_b1, ↓wp_b2, ↓wp_b2z, ↓wp_gf, ↓wp_gd, ↓wp_ga, ↓wp_gl, ↓wp_al2, ↓wp_pi, ↓wp_ltr, ↓wp_ite, ↓wp_and, ↓wp_or, ↓wp_not, ↓wp_cmp, ↓wp_cmz, ↓wp_isn, ↓wp_nsn, ↓wp_a0, ↓wp_a1, ↓wp_cv, ↓wp_cs, ↓wp_dr, ↓wp_sk, ↓wp_brk, ↓wp_cnt, ↓wp_rV, ↓wp_seq, ↓wp_iff, ↓wp_sI, ↓wp_sL, ↓wp_sN, ↓wp_inc, ↓wp_do, ↓wp_rI, ↓wp_rL, ↓wp_rN, ↓wp_rZ, ↓wp_pf, ↓wp_pz, ↓wp_pd, ↓wp_po, ↓wp_pl, ↓wp_pao, ↓wp_tsw, ↓wp_lsw, ↓wp_fn, ↓wq_ld, ↓wq_ldl, ↓wq_lda, ↓wq_c, ↓wq_gr, ↓wq_gq, ↓wq_nn, ↓wq_asI, ↓wq_asL, ↓wq_asN, ↓wq_pa, hO_0, hR_0_0, hR_0_1, hR_0_2, hR_0_3, hR_0_4, hR_0_5, hR_0_6, hR_0_7, hR_0_8, hR_0_9, hR_0_10, hR_0_11, hF_0_12, hO_1, hR_1_0, hF_1_1, hF_1_2, hF_1_3, hO_3, hR_3_0, hF_3_1, hO_5, hF_5_0, hF_5_1, hR_5_2, hR_5_3, hR_5_4, hR_5_5, hR_5_6, hR_5_7, hF_5_8, hF_5_9, hO_30, hF_30_0, hF_30_1, hF_30_2, hF_30_3, hO_31, hF_31_0, hF_31_1, hR_31_2, hR_31_3, hR_31_4, hO_35, hR_35_0, hF_35_1, hR_35_2, hF_35_3, hR_35_4, hF_35_5, hF_35_6, hR_35_7, hF_35_8, hR_35_9, hR_35_10, hO_42, hO_45, hO_48, hR_48_0, hF_48_1, hF_48_2, hR_48_3, hR_48_4, hO_94, hR_94_0, hR_94_1, hO_97, hF_97_0, hF_97_1, hF_97_2, hF_97_3, hR_97_4, hR_97_5, hR_97_6, hR_97_7, hR_97_8, hR_97_9, hR_97_10, hR_97_11, hF_97_12, hO_156, hF_156_0, hR_156_1, hR_156_2, hR_156_3, hR_156_4, hR_156_5, hR_156_6, hR_156_7, hR_156_8, fd_p_eq, fd_p_ne, fd_p_lt, fd_p_ge, fd_p_gt, fd_p_le, fd_f_iadd, fd_f_isub, fd_f_imul, fd_f_iand, fd_f_ior, fd_f_ixor, fd_f_ishl, fd_f_ishr, fd_f_iushr, fd_f_ladd, fd_f_lsub, fd_f_lmul, fd_f_lcmp, fd_f_idiv, fd_f_irem, fd_f_ldiv, fd_f_lrem, fd_f_ineg, fd_f_i2l, fd_f_l2i, fd_f_i2b, fd_f_i2s, fd_f_i2c, fd_z_idiv, fd_z_irem, fd_z_ldiv, fd_z_lrem, fd_in0, fd_sl, fd_st1, fd_st2, fd_kl, fd_vI, fd_vL, fd_vN, fd_ok1, fd_v_int, xI, xL, xR, xK, xG, yI, yL, yN, -Prod.exists, e5, e0]
    unfold fd_bm m_X12_clash b_X12_clash
    simp [↓wp_ldn, ↓wp_b1, ↓wp_b2, ↓wp_b2z, ↓wp_gf, ↓wp_gd, ↓wp_ga, ↓wp_gl, ↓wp_al2, ↓wp_pi, ↓wp_ltr, ↓wp_ite, ↓wp_and, ↓wp_or, ↓wp_not, ↓wp_cmp, ↓wp_cmz, ↓wp_isn, ↓wp_nsn, ↓wp_a0, ↓wp_a1, ↓wp_cv, ↓wp_cs, ↓wp_dr, ↓wp_sk, ↓wp_brk, ↓wp_cnt, ↓wp_rV, ↓wp_seq, ↓wp_iff, ↓wp_sI, ↓wp_sL, ↓wp_sN, ↓wp_inc, ↓wp_do, ↓wp_rI, ↓wp_rL, ↓wp_rN, ↓wp_rZ, ↓wp_pf, ↓wp_pz, ↓wp_pd, ↓wp_po, ↓wp_pl, ↓wp_pao, ↓wp_tsw, ↓wp_lsw, ↓wp_fn, ↓wq_ld, ↓wq_ldl, ↓wq_lda, ↓wq_c, ↓wq_gr, ↓wq_gq, ↓wq_nn, ↓wq_asI, ↓wq_asL, ↓wq_asN, ↓wq_pa, hO_182, hR_182_0, hF_182_1, hR_182_2, hF_182_3, hR_182_4, hF_182_5, hR_182_6, hR_182_7, hR_182_8, hF_182_9, hF_182_10, hF_182_11, hF_182_12, hR_182_13, hF_182_14, hR_182_15, hF_182_16, hF_182_17, hF_182_18, hF_182_19, hF_182_20, hF_182_21, hF_182_22, hR_182_23, hR_182_24, hF_182_25, hF_182_26, hR_182_27, hR_182_28, hR_182_29, hF_182_30, hF_182_31, hR_182_32, hR_182_33, hF_182_34, hR_182_35, hF_182_36, hF_182_37, hF_182_38, hF_182_39, hF_182_40, hR_182_41, hR_182_42, hR_182_43, hR_182_44, hR_182_45, hR_182_46, hF_182_47, hR_182_48, hR_182_49, hR_182_50, hR_182_51, hR_182_52, hF_182_53, hR_182_54, hR_182_55, hR_182_56, hR_182_57, hF_182_58, hR_182_59, hR_182_60, hR_182_61, fd_p_eq, fd_p_ne, fd_p_lt, fd_p_ge, fd_p_gt, fd_p_le, fd_f_iadd, fd_f_isub, fd_f_imul, fd_f_iand, fd_f_ior, fd_f_ixor, fd_f_ishl, fd_f_ishr, fd_f_iushr, fd_f_ladd, fd_f_lsub, fd_f_lmul, fd_f_lcmp, fd_f_idiv, fd_f_irem, fd_f_ldiv, fd_f_lrem, fd_f_ineg, fd_f_i2l, fd_f_l2i, fd_f_i2b, fd_f_i2s, fd_f_i2c, fd_z_idiv, fd_z_irem, fd_z_ldiv, fd_z_lrem, fd_in0, fd_sl, fd_st1, fd_st2, fd_kl, fd_vI, fd_vL, fd_vN, fd_ok1, fd_v_int, xI, xL, xR, xK, xG, yI, yL, yN, -Prod.exists, rd_I, hw.1.2.2.1, e0]
    exact Inv_sm I0 s0
  have v0 : 0 < w.v := by omega
  have nz : ¬ nI w.v = 0 := nI_ne0 v0 (by omega)
  have ha : S.a < w.v := by have := sk.2.1; omega
  have hpl := sk.2.2.2.1
  have F1 : ∀ M1, fP rF M M1 → wd w M1 ∧ cst w.f 42 S M1 := fun M1 f1 => ⟨hw.cg (f1.sm rF_cl) (by decide) (by decide) (by decide) (by decide), sc.cg hf (fun j _ => f1.1 _ _ (by unfold rF; omega)) (fun j _ => f1.1 _ _ (by unfold rF; omega)) (fun j _ => f1.1 _ _ (by unfold rF; omega))⟩
  have cv : ∀ {k q s : Nat}, Rc w.v (rnr w S.n) (rop w S) S.a S.pl k q s ↔ Rc w.v (rnr w S.n) (rpl w S S.Y) S.a S.pl k q s := Rc_op fun k q s _ h => rp_sub (fun i hi => hi) k q h
  obtain ⟨R, hR⟩ : ∃ R : Nat → Nat → Prop, R = fun q t => Rc w.v (rnr w S.n) (rpl w S S.Y) S.a S.pl 10 q t := ⟨_, rfl⟩
  obtain ⟨T, hT⟩ : ∃ T, T = lu (fun s => s &&& S.pl = 0 ∧ ¬ PL w.v w.f R s) (2 ^ w.f) := ⟨_, rfl⟩
  unfold m_X11_clash b_X11_clash
  simp [↓wp_ldn, ↓wp_b1, ↓wp_b2, ↓wp_b2z, ↓wp_gf, ↓wp_gd, ↓wp_ga, ↓wp_gl, ↓wp_al2, ↓wp_pi, ↓wp_ltr, ↓wp_ite, ↓wp_and, ↓wp_or, ↓wp_not, ↓wp_cmp, ↓wp_cmz, ↓wp_isn, ↓wp_nsn, ↓wp_a0, ↓wp_a1, ↓wp_cv, ↓wp_cs, ↓wp_dr, ↓wp_sk, ↓wp_brk, ↓wp_cnt, ↓wp_rV, ↓wp_seq, ↓wp_iff, ↓wp_sI, ↓wp_sL, ↓wp_sN, ↓wp_inc, ↓wp_do, ↓wp_rI, ↓wp_rL, ↓wp_rN, ↓wp_rZ, ↓wp_pf, ↓wp_pz, ↓wp_pd, ↓wp_po, ↓wp_pl, ↓wp_pao, ↓wp_tsw, ↓wp_lsw, ↓wp_fn, ↓wq_ld, ↓wq_ldl, ↓wq_lda, ↓wq_c, ↓wq_gr, ↓wq_gq, ↓wq_nn, ↓wq_asI, ↓wq_asL, ↓wq_asN, ↓wq_pa, hO_0, hR_0_0, hR_0_1, hR_0_2, hR_0_3, hR_0_4, hR_0_5, hR_0_6, hR_0_7, hR_0_8, hR_0_9, hR_0_10, hR_0_11, hF_0_12, hO_1, hR_1_0, hF_1_1, hF_1_2, hF_1_3, hO_3, hR_3_0, hF_3_1, hO_5, hF_5_0, hF_5_1, hR_5_2, hR_5_3, hR_5_4, hR_5_5, hR_5_6, hR_5_7, hF_5_8, hF_5_9, hO_30, hF_30_0, hF_30_1, hF_30_2, hF_30_3, hO_31, hF_31_0, hF_31_1, hR_31_2, hR_31_3, hR_31_4, hO_35, hR_35_0, hF_35_1, hR_35_2, hF_35_3, hR_35_4, hF_35_5, hF_35_6, hR_35_7, hF_35_8, hR_35_9, hR_35_10, hO_42, hO_45, hO_48, hR_48_0, hF_48_1, hF_48_2, hR_48_3, hR_48_4, hO_94, hR_94_0, hR_94_1, hO_97, hF_97_0, hF_97_1, hF_97_2, hF_97_3, hR_97_4, hR_97_5, hR_97_6, hR_97_7, hR_97_8, hR_97_9, hR_97_10, hR_97_11, hF_97_12, hO_156, hF_156_0, hR_156_1, hR_156_2, hR_156_3, hR_156_4, hR_156_5, hR_156_6, hR_156_7, hR_156_8, fd_p_eq, fd_p_ne, fd_p_lt, fd_p_ge, fd_p_gt, fd_p_le, fd_f_iadd, fd_f_isub, fd_f_imul, fd_f_iand, fd_f_ior, fd_f_ixor, fd_f_ishl, fd_f_ishr, fd_f_iushr, fd_f_ladd, fd_f_lsub, fd_f_lmul, fd_f_lcmp, fd_f_idiv, fd_f_irem, fd_f_ldiv, fd_f_lrem, fd_f_ineg, fd_f_i2l, fd_f_l2i, fd_f_i2b, fd_f_i2s, fd_f_i2c, fd_z_idiv, fd_z_irem, fd_z_ldiv, fd_z_lrem, fd_in0, fd_sl, fd_st1, fd_st2, fd_kl, fd_vI, fd_vL, fd_vN, fd_ok1, fd_v_int, xI, xL, xR, xK, xG, yI, yL, yN, -Prod.exists, e5, nz]
  have lp := fun {Q : Value → fd_M → Prop} => s_X11_layPlan (n := 10) (Q := Q) hw sc sk' (by omega)
  rw [show nI 10 = (10 : Int32) from rfl] at lp
  refine lp (fun M1 f1 t1 => ?_)
  obtain ⟨w1, sc1⟩ := F1 M1 f1
  simp [↓wp_ldn, ↓wp_b1, ↓wp_b2, ↓wp_b2z, ↓wp_gf, ↓wp_gd, ↓wp_ga, ↓wp_gl, ↓wp_al2, ↓wp_pi, ↓wp_ltr, ↓wp_ite, ↓wp_and, ↓wp_or, ↓wp_not, ↓wp_cmp, ↓wp_cmz, ↓wp_isn, ↓wp_nsn, ↓wp_a0, ↓wp_a1, ↓wp_cv, ↓wp_cs, ↓wp_dr, ↓wp_sk, ↓wp_brk, ↓wp_cnt, ↓wp_rV, ↓wp_seq, ↓wp_iff, ↓wp_sI, ↓wp_sL, ↓wp_sN, ↓wp_inc, ↓wp_do, ↓wp_rI, ↓wp_rL, ↓wp_rN, ↓wp_rZ, ↓wp_pf, ↓wp_pz, ↓wp_pd, ↓wp_po, ↓wp_pl, ↓wp_pao, ↓wp_tsw, ↓wp_lsw, ↓wp_fn, ↓wq_ld, ↓wq_ldl, ↓wq_lda, ↓wq_c, ↓wq_gr, ↓wq_gq, ↓wq_nn, ↓wq_asI, ↓wq_asL, ↓wq_asN, ↓wq_pa, hO_0, hR_0_0, hR_0_1, hR_0_2, hR_0_3, hR_0_4, hR_0_5, hR_0_6, hR_0_7, hR_0_8, hR_0_9, hR_0_10, hR_0_11, hF_0_12, hO_1, hR_1_0, hF_1_1, hF_1_2, hF_1_3, hO_3, hR_3_0, hF_3_1, hO_5, hF_5_0, hF_5_1, hR_5_2, hR_5_3, hR_5_4, hR_5_5, hR_5_6, hR_5_7, hF_5_8, hF_5_9, hO_30, hF_30_0, hF_30_1, hF_30_2, hF_30_3, hO_31, hF_31_0, hF_31_1, hR_31_2, hR_31_3, hR_31_4, hO_35, hR_35_0, hF_35_1, hR_35_2, hF_35_3, hR_35_4, hF_35_5, hF_35_6, hR_35_7, hF_35_8, hR_35_9, hR_35_10, hO_42, hO_45, hO_48, hR_48_0, hF_48_1, hF_48_2, hR_48_3, hR_48_4, hO_94, hR_94_0, hR_94_1, hO_97, hF_97_0, hF_97_1, hF_97_2, hF_97_3, hR_97_4, hR_97_5, hR_97_6, hR_97_7, hR_97_8, hR_97_9, hR_97_10, hR_97_11, hF_97_12, hO_156, hF_156_0, hR_156_1, hR_156_2, hR_156_3, hR_156_4, hR_156_5, hR_156_6, hR_156_7, hR_156_8, fd_p_eq, fd_p_ne, fd_p_lt, fd_p_ge, fd_p_gt, fd_p_le, fd_f_iadd, fd_f_isub, fd_f_imul, fd_f_iand, fd_f_ior, fd_f_ixor, fd_f_ishl, fd_f_ishr, fd_f_iushr, fd_f_ladd, fd_f_lsub, fd_f_lmul, fd_f_lcmp, fd_f_idiv, fd_f_irem, fd_f_ldiv, fd_f_lrem, fd_f_ineg, fd_f_i2l, fd_f_l2i, fd_f_i2b, fd_f_i2s, fd_f_i2c, fd_z_idiv, fd_z_irem, fd_z_ldiv, fd_z_lrem, fd_in0, fd_sl, fd_st1, fd_st2, fd_kl, fd_vI, fd_vL, fd_vN, fd_ok1, fd_v_int, xI, xL, xR, xK, xG, yI, yL, yN, -Prod.exists, show fd_isF 42 10 1 = some 0 from rfl, show fd_isF 42 10 6 = some 0 from rfl, sc1.2.1, sc1.2.2.2.2.2.2.1]
  have spr := fun {Q : Value → fd_M → Prop} => s_X6_spread (Q := Q) (n := 10) (v := w.v) (f := w.f) t1.1 t1.2.1 hv hf (by omega) ha hpl t1.2.2.1 t1.2.2.2
  rw [show nI 10 = (10 : Int32) from rfl] at spr
  refine spr (fun M2 f2 z2 z3 r2 => ?_)
  have f02 : fP rF M M2 := f1.tr (f2.up (fun a j z => by unfold sF at z; unfold rF; omega))
  have e2 : M2.1 97 1 = nI (2 ^ w.f) := by rw [f2.1 _ _ (by unfold sF; omega)]; exact t1.2.1
  try simp [↓wp_ldn, ↓wp_b1, ↓wp_b2, ↓wp_b2z, ↓wp_gf, ↓wp_gd, ↓wp_ga, ↓wp_gl, ↓wp_al2, ↓wp_pi, ↓wp_ltr, ↓wp_ite, ↓wp_and, ↓wp_or, ↓wp_not, ↓wp_cmp, ↓wp_cmz, ↓wp_isn, ↓wp_nsn, ↓wp_a0, ↓wp_a1, ↓wp_cv, ↓wp_cs, ↓wp_dr, ↓wp_sk, ↓wp_brk, ↓wp_cnt, ↓wp_rV, ↓wp_seq, ↓wp_iff, ↓wp_sI, ↓wp_sL, ↓wp_sN, ↓wp_inc, ↓wp_do, ↓wp_rI, ↓wp_rL, ↓wp_rN, ↓wp_rZ, ↓wp_pf, ↓wp_pz, ↓wp_pd, ↓wp_po, ↓wp_pl, ↓wp_pao, ↓wp_tsw, ↓wp_lsw, ↓wp_fn, ↓wq_ld, ↓wq_ldl, ↓wq_lda, ↓wq_c, ↓wq_gr, ↓wq_gq, ↓wq_nn, ↓wq_asI, ↓wq_asL, ↓wq_asN, ↓wq_pa, hO_0, hR_0_0, hR_0_1, hR_0_2, hR_0_3, hR_0_4, hR_0_5, hR_0_6, hR_0_7, hR_0_8, hR_0_9, hR_0_10, hR_0_11, hF_0_12, hO_1, hR_1_0, hF_1_1, hF_1_2, hF_1_3, hO_3, hR_3_0, hF_3_1, hO_5, hF_5_0, hF_5_1, hR_5_2, hR_5_3, hR_5_4, hR_5_5, hR_5_6, hR_5_7, hF_5_8, hF_5_9, hO_30, hF_30_0, hF_30_1, hF_30_2, hF_30_3, hO_31, hF_31_0, hF_31_1, hR_31_2, hR_31_3, hR_31_4, hO_35, hR_35_0, hF_35_1, hR_35_2, hF_35_3, hR_35_4, hF_35_5, hF_35_6, hR_35_7, hF_35_8, hR_35_9, hR_35_10, hO_42, hO_45, hO_48, hR_48_0, hF_48_1, hF_48_2, hR_48_3, hR_48_4, hO_94, hR_94_0, hR_94_1, hO_97, hF_97_0, hF_97_1, hF_97_2, hF_97_3, hR_97_4, hR_97_5, hR_97_6, hR_97_7, hR_97_8, hR_97_9, hR_97_10, hR_97_11, hF_97_12, hO_156, hF_156_0, hR_156_1, hR_156_2, hR_156_3, hR_156_4, hR_156_5, hR_156_6, hR_156_7, hR_156_8, fd_p_eq, fd_p_ne, fd_p_lt, fd_p_ge, fd_p_gt, fd_p_le, fd_f_iadd, fd_f_isub, fd_f_imul, fd_f_iand, fd_f_ior, fd_f_ixor, fd_f_ishl, fd_f_ishr, fd_f_iushr, fd_f_ladd, fd_f_lsub, fd_f_lmul, fd_f_lcmp, fd_f_idiv, fd_f_irem, fd_f_ldiv, fd_f_lrem, fd_f_ineg, fd_f_i2l, fd_f_l2i, fd_f_i2b, fd_f_i2s, fd_f_i2c, fd_z_idiv, fd_z_irem, fd_z_ldiv, fd_z_lrem, fd_in0, fd_sl, fd_st1, fd_st2, fd_kl, fd_vI, fd_vL, fd_vN, fd_ok1, fd_v_int, xI, xL, xR, xK, xG, yI, yL, yN, -Prod.exists]
  refine s_X6_findPlayable (v := w.v) (R := R) e2 hv hf (fun t ht => (r2 10 t (by omega) ht).cg fun q _ => by rw [hR]; exact cv) (fun M3 f3 p3 => ?_)
  have f03 : fP rF M M3 := f02.tr (f3.up (fun a j z => by unfold rF; omega))
  obtain ⟨w3, sc3⟩ := F1 M3 f03
  have e3 : M3.1 97 1 = nI (2 ^ w.f) := by rw [f3.1 _ _ (by omega)]; exact e2
  have lup := s_X6_leastUnplayable (v := w.v) (R := R) e3 hf hpl p3
  rw [← hT] at lup
  have s3 : fd_sm [0] M M3 := f03.sm rF_cl
  -- the reference's side
  have ref : ∀ (M4 : fd_M), fd_sm [0, 2] M M4 → (∀ j, M4.1 183 j = M.1 183 j) → ∀ (r : Value), (T = none → r = .int (-2) ∧ fd_sm [0] M M4) → (∀ l, T = some l → r = .int (nI l) ∧ M4.1 3 1 = 1 ∧ M4.2 4 0 = (bc (nI l)).toInt64) → fd_bm m_X12_clash [] c r M4 := by
    intro M4 s4 e4 r hr0 hr1
    have s5 : fd_sm [0, 2] M4 (fd_uI M4 182 17 0) := (by repeat' (first | exact fd_sm.rf | refine fd_sm.uI ?_ (by first | decide | (simp [cl, cl_182]; done)) | refine fd_sm.uL ?_ (by first | decide | (simp [cl, cl_182]; done))))
    have s15 := s4.tr s5
    have w5 := hw.cg s15 (by decide) (by decide) (by decide) (by decide)
    have sm5 : mst w.f 183 0 S (fd_uI M4 182 17 0) := sm.cg hf (fun j _ => by rw [rd_ne (by omega)]; exact e4 _)
    unfold fd_bm m_X12_clash
    rw [cl_m_eq]
    simp [↓wp_ldn, ↓wp_b1, ↓wp_b2, ↓wp_b2z, ↓wp_gf, ↓wp_gd, ↓wp_ga, ↓wp_gl, ↓wp_al2, ↓wp_pi, ↓wp_ltr, ↓wp_ite, ↓wp_and, ↓wp_or, ↓wp_not, ↓wp_cmp, ↓wp_cmz, ↓wp_isn, ↓wp_nsn, ↓wp_a0, ↓wp_a1, ↓wp_cv, ↓wp_cs, ↓wp_dr, ↓wp_sk, ↓wp_brk, ↓wp_cnt, ↓wp_rV, ↓wp_seq, ↓wp_iff, ↓wp_sI, ↓wp_sL, ↓wp_sN, ↓wp_inc, ↓wp_do, ↓wp_rI, ↓wp_rL, ↓wp_rN, ↓wp_rZ, ↓wp_pf, ↓wp_pz, ↓wp_pd, ↓wp_po, ↓wp_pl, ↓wp_pao, ↓wp_tsw, ↓wp_lsw, ↓wp_fn, ↓wq_ld, ↓wq_ldl, ↓wq_lda, ↓wq_c, ↓wq_gr, ↓wq_gq, ↓wq_nn, ↓wq_asI, ↓wq_asL, ↓wq_asN, ↓wq_pa, hO_182, hR_182_0, hF_182_1, hR_182_2, hF_182_3, hR_182_4, hF_182_5, hR_182_6, hR_182_7, hR_182_8, hF_182_9, hF_182_10, hF_182_11, hF_182_12, hR_182_13, hF_182_14, hR_182_15, hF_182_16, hF_182_17, hF_182_18, hF_182_19, hF_182_20, hF_182_21, hF_182_22, hR_182_23, hR_182_24, hF_182_25, hF_182_26, hR_182_27, hR_182_28, hR_182_29, hF_182_30, hF_182_31, hR_182_32, hR_182_33, hF_182_34, hR_182_35, hF_182_36, hF_182_37, hF_182_38, hF_182_39, hF_182_40, hR_182_41, hR_182_42, hR_182_43, hR_182_44, hR_182_45, hR_182_46, hF_182_47, hR_182_48, hR_182_49, hR_182_50, hR_182_51, hR_182_52, hF_182_53, hR_182_54, hR_182_55, hR_182_56, hR_182_57, hF_182_58, hR_182_59, hR_182_60, hR_182_61, fd_p_eq, fd_p_ne, fd_p_lt, fd_p_ge, fd_p_gt, fd_p_le, fd_f_iadd, fd_f_isub, fd_f_imul, fd_f_iand, fd_f_ior, fd_f_ixor, fd_f_ishl, fd_f_ishr, fd_f_iushr, fd_f_ladd, fd_f_lsub, fd_f_lmul, fd_f_lcmp, fd_f_idiv, fd_f_irem, fd_f_ldiv, fd_f_lrem, fd_f_ineg, fd_f_i2l, fd_f_l2i, fd_f_i2b, fd_f_i2s, fd_f_i2c, fd_z_idiv, fd_z_irem, fd_z_ldiv, fd_z_lrem, fd_in0, fd_sl, fd_st1, fd_st2, fd_kl, fd_vI, fd_vL, fd_vN, fd_ok1, fd_v_int, xI, xL, xR, xK, xG, yI, yL, yN, -Prod.exists, w5.1.2.2.1, nz]
    refine s_X12_begin0 w5 sm5 sk' (fun M6 f6 q6 => ?_)
    try simp [↓wp_ldn, ↓wp_b1, ↓wp_b2, ↓wp_b2z, ↓wp_gf, ↓wp_gd, ↓wp_ga, ↓wp_gl, ↓wp_al2, ↓wp_pi, ↓wp_ltr, ↓wp_ite, ↓wp_and, ↓wp_or, ↓wp_not, ↓wp_cmp, ↓wp_cmz, ↓wp_isn, ↓wp_nsn, ↓wp_a0, ↓wp_a1, ↓wp_cv, ↓wp_cs, ↓wp_dr, ↓wp_sk, ↓wp_brk, ↓wp_cnt, ↓wp_rV, ↓wp_seq, ↓wp_iff, ↓wp_sI, ↓wp_sL, ↓wp_sN, ↓wp_inc, ↓wp_do, ↓wp_rI, ↓wp_rL, ↓wp_rN, ↓wp_rZ, ↓wp_pf, ↓wp_pz, ↓wp_pd, ↓wp_po, ↓wp_pl, ↓wp_pao, ↓wp_tsw, ↓wp_lsw, ↓wp_fn, ↓wq_ld, ↓wq_ldl, ↓wq_lda, ↓wq_c, ↓wq_gr, ↓wq_gq, ↓wq_nn, ↓wq_asI, ↓wq_asL, ↓wq_asN, ↓wq_pa, hO_182, hR_182_0, hF_182_1, hR_182_2, hF_182_3, hR_182_4, hF_182_5, hR_182_6, hR_182_7, hR_182_8, hF_182_9, hF_182_10, hF_182_11, hF_182_12, hR_182_13, hF_182_14, hR_182_15, hF_182_16, hF_182_17, hF_182_18, hF_182_19, hF_182_20, hF_182_21, hF_182_22, hR_182_23, hR_182_24, hF_182_25, hF_182_26, hR_182_27, hR_182_28, hR_182_29, hF_182_30, hF_182_31, hR_182_32, hR_182_33, hF_182_34, hR_182_35, hF_182_36, hF_182_37, hF_182_38, hF_182_39, hF_182_40, hR_182_41, hR_182_42, hR_182_43, hR_182_44, hR_182_45, hR_182_46, hF_182_47, hR_182_48, hR_182_49, hR_182_50, hR_182_51, hR_182_52, hF_182_53, hR_182_54, hR_182_55, hR_182_56, hR_182_57, hF_182_58, hR_182_59, hR_182_60, hR_182_61, fd_p_eq, fd_p_ne, fd_p_lt, fd_p_ge, fd_p_gt, fd_p_le, fd_f_iadd, fd_f_isub, fd_f_imul, fd_f_iand, fd_f_ior, fd_f_ixor, fd_f_ishl, fd_f_ishr, fd_f_iushr, fd_f_ladd, fd_f_lsub, fd_f_lmul, fd_f_lcmp, fd_f_idiv, fd_f_irem, fd_f_ldiv, fd_f_lrem, fd_f_ineg, fd_f_i2l, fd_f_l2i, fd_f_i2b, fd_f_i2s, fd_f_i2c, fd_z_idiv, fd_z_irem, fd_z_ldiv, fd_z_lrem, fd_in0, fd_sl, fd_st1, fd_st2, fd_kl, fd_vI, fd_vL, fd_vN, fd_ok1, fd_v_int, xI, xL, xR, xK, xG, yI, yL, yN, -Prod.exists]
    refine s_X12_layCanBe q6 sk' ha (fun M7 f7 b7 => ?_)
    have q7 := q6.cg f7 cF_0
    have t5 : fd_sm [0] M4 M7 := by
      have x1 : fd_sm [0] M4 (fd_uI M4 182 17 0) := (by repeat' (first | exact fd_sm.rf | refine fd_sm.uI ?_ (by first | decide | (simp [cl, cl_182]; done)) | refine fd_sm.uL ?_ (by first | decide | (simp [cl, cl_182]; done))))
      exact x1.tr ((f6.sm (fun k j z => by rcases z with rfl | rfl <;> simp [cl])).tr (f7.sm (fun k j z => by rw [(cF_0 k j z).1]; decide)))
    have s17 := s4.tr (t5.up (S' := [0, 2]) (by simp))
    rw [← show (fun q t => R q t) = (fun q t => Rc w.v (rnr w S.n) (rpl w S S.Y) S.a S.pl 10 q t) by rw [hR]] at b7
    try simp [↓wp_ldn, ↓wp_b1, ↓wp_b2, ↓wp_b2z, ↓wp_gf, ↓wp_gd, ↓wp_ga, ↓wp_gl, ↓wp_al2, ↓wp_pi, ↓wp_ltr, ↓wp_ite, ↓wp_and, ↓wp_or, ↓wp_not, ↓wp_cmp, ↓wp_cmz, ↓wp_isn, ↓wp_nsn, ↓wp_a0, ↓wp_a1, ↓wp_cv, ↓wp_cs, ↓wp_dr, ↓wp_sk, ↓wp_brk, ↓wp_cnt, ↓wp_rV, ↓wp_seq, ↓wp_iff, ↓wp_sI, ↓wp_sL, ↓wp_sN, ↓wp_inc, ↓wp_do, ↓wp_rI, ↓wp_rL, ↓wp_rN, ↓wp_rZ, ↓wp_pf, ↓wp_pz, ↓wp_pd, ↓wp_po, ↓wp_pl, ↓wp_pao, ↓wp_tsw, ↓wp_lsw, ↓wp_fn, ↓wq_ld, ↓wq_ldl, ↓wq_lda, ↓wq_c, ↓wq_gr, ↓wq_gq, ↓wq_nn, ↓wq_asI, ↓wq_asL, ↓wq_asN, ↓wq_pa, hO_182, hR_182_0, hF_182_1, hR_182_2, hF_182_3, hR_182_4, hF_182_5, hR_182_6, hR_182_7, hR_182_8, hF_182_9, hF_182_10, hF_182_11, hF_182_12, hR_182_13, hF_182_14, hR_182_15, hF_182_16, hF_182_17, hF_182_18, hF_182_19, hF_182_20, hF_182_21, hF_182_22, hR_182_23, hR_182_24, hF_182_25, hF_182_26, hR_182_27, hR_182_28, hR_182_29, hF_182_30, hF_182_31, hR_182_32, hR_182_33, hF_182_34, hR_182_35, hF_182_36, hF_182_37, hF_182_38, hF_182_39, hF_182_40, hR_182_41, hR_182_42, hR_182_43, hR_182_44, hR_182_45, hR_182_46, hF_182_47, hR_182_48, hR_182_49, hR_182_50, hR_182_51, hR_182_52, hF_182_53, hR_182_54, hR_182_55, hR_182_56, hR_182_57, hF_182_58, hR_182_59, hR_182_60, hR_182_61, fd_p_eq, fd_p_ne, fd_p_lt, fd_p_ge, fd_p_gt, fd_p_le, fd_f_iadd, fd_f_isub, fd_f_imul, fd_f_iand, fd_f_ior, fd_f_ixor, fd_f_ishl, fd_f_ishr, fd_f_iushr, fd_f_ladd, fd_f_lsub, fd_f_lmul, fd_f_lcmp, fd_f_idiv, fd_f_irem, fd_f_ldiv, fd_f_lrem, fd_f_ineg, fd_f_i2l, fd_f_l2i, fd_f_i2b, fd_f_i2s, fd_f_i2c, fd_z_idiv, fd_z_irem, fd_z_ldiv, fd_z_lrem, fd_in0, fd_sl, fd_st1, fd_st2, fd_kl, fd_vI, fd_vL, fd_vN, fd_ok1, fd_v_int, xI, xL, xR, xK, xG, yI, yL, yN, -Prod.exists]
    refine cl_m_wp (R := R) (Q := fun r2 Mm => r2 = r ∧ (∃ v, r = .int v) ∧ Inv (c + 1) Mm) q7.1 q7.2.1 hpl b7 (fun e => ?_) (fun l e M8 f8 h1 h2 => ?_)
    · rw [← hT] at e
      obtain ⟨e1, e2⟩ := hr0 e
      exact ⟨e1.symm, ⟨_, e1⟩, Inv_sm I0 (e2.tr t5)⟩
    · rw [← hT] at e
      obtain ⟨e1, e2, e3⟩ := hr1 l e
      have s8 : fd_sm [0, 2] M7 M8 := f8.sm (fun k j z => by rcases z with ⟨rfl, rfl⟩ | rfl <;> simp [cl, cl_182])
      refine ⟨e1.symm, ⟨_, e1⟩, Inv_row I0 (s17.tr s8) ⟨1, by omega, ?_, h1, fun i hi => ?_⟩⟩
      · rw [f8.1 _ _ (by omega), f7.1 _ _ (by unfold cF; omega), f6.1 _ _ (by omega), rd_ne (by omega)]; exact e2
      · rw [show i = 0 by omega, f8.2 _ _ (by omega), f7.2, f6.2, rd_I2, e3, h2]
  cases e : T with
  | none =>
    rw [e] at lup
    have b1 : (-1 : Int32) < 0 := by decide
    simp [lgw] at lup
    simp [↓wp_ldn, ↓wp_b1, ↓wp_b2, ↓wp_b2z, ↓wp_gf, ↓wp_gd, ↓wp_ga, ↓wp_gl, ↓wp_al2, ↓wp_pi, ↓wp_ltr, ↓wp_ite, ↓wp_and, ↓wp_or, ↓wp_not, ↓wp_cmp, ↓wp_cmz, ↓wp_isn, ↓wp_nsn, ↓wp_a0, ↓wp_a1, ↓wp_cv, ↓wp_cs, ↓wp_dr, ↓wp_sk, ↓wp_brk, ↓wp_cnt, ↓wp_rV, ↓wp_seq, ↓wp_iff, ↓wp_sI, ↓wp_sL, ↓wp_sN, ↓wp_inc, ↓wp_do, ↓wp_rI, ↓wp_rL, ↓wp_rN, ↓wp_rZ, ↓wp_pf, ↓wp_pz, ↓wp_pd, ↓wp_po, ↓wp_pl, ↓wp_pao, ↓wp_tsw, ↓wp_lsw, ↓wp_fn, ↓wq_ld, ↓wq_ldl, ↓wq_lda, ↓wq_c, ↓wq_gr, ↓wq_gq, ↓wq_nn, ↓wq_asI, ↓wq_asL, ↓wq_asN, ↓wq_pa, hO_0, hR_0_0, hR_0_1, hR_0_2, hR_0_3, hR_0_4, hR_0_5, hR_0_6, hR_0_7, hR_0_8, hR_0_9, hR_0_10, hR_0_11, hF_0_12, hO_1, hR_1_0, hF_1_1, hF_1_2, hF_1_3, hO_3, hR_3_0, hF_3_1, hO_5, hF_5_0, hF_5_1, hR_5_2, hR_5_3, hR_5_4, hR_5_5, hR_5_6, hR_5_7, hF_5_8, hF_5_9, hO_30, hF_30_0, hF_30_1, hF_30_2, hF_30_3, hO_31, hF_31_0, hF_31_1, hR_31_2, hR_31_3, hR_31_4, hO_35, hR_35_0, hF_35_1, hR_35_2, hF_35_3, hR_35_4, hF_35_5, hF_35_6, hR_35_7, hF_35_8, hR_35_9, hR_35_10, hO_42, hO_45, hO_48, hR_48_0, hF_48_1, hF_48_2, hR_48_3, hR_48_4, hO_94, hR_94_0, hR_94_1, hO_97, hF_97_0, hF_97_1, hF_97_2, hF_97_3, hR_97_4, hR_97_5, hR_97_6, hR_97_7, hR_97_8, hR_97_9, hR_97_10, hR_97_11, hF_97_12, hO_156, hF_156_0, hR_156_1, hR_156_2, hR_156_3, hR_156_4, hR_156_5, hR_156_6, hR_156_7, hR_156_8, fd_p_eq, fd_p_ne, fd_p_lt, fd_p_ge, fd_p_gt, fd_p_le, fd_f_iadd, fd_f_isub, fd_f_imul, fd_f_iand, fd_f_ior, fd_f_ixor, fd_f_ishl, fd_f_ishr, fd_f_iushr, fd_f_ladd, fd_f_lsub, fd_f_lmul, fd_f_lcmp, fd_f_idiv, fd_f_irem, fd_f_ldiv, fd_f_lrem, fd_f_ineg, fd_f_i2l, fd_f_l2i, fd_f_i2b, fd_f_i2s, fd_f_i2c, fd_z_idiv, fd_z_irem, fd_z_ldiv, fd_z_lrem, fd_in0, fd_sl, fd_st1, fd_st2, fd_kl, fd_vI, fd_vL, fd_vN, fd_ok1, fd_v_int, xI, xL, xR, xK, xG, yI, yL, yN, -Prod.exists, show fd_isF 42 10 6 = some 0 from rfl, sc3.2.2.2.2.2.2.1, fd_run_of lup, b1]
    exact ref M3 (s3.up (by simp)) (fun j => f03.1 _ _ (by unfold rF; omega)) _ (fun _ => ⟨rfl, s3⟩) (fun l hl => by rw [e] at hl; cases hl)
  | some l =>
    have ll := lu_lt _ _ l (hT.symm.trans e)
    have b1 : ¬ nI l < 0 := nI_pos (by omega)
    rw [e] at lup
    simp [lgw] at lup
    simp [↓wp_ldn, ↓wp_b1, ↓wp_b2, ↓wp_b2z, ↓wp_gf, ↓wp_gd, ↓wp_ga, ↓wp_gl, ↓wp_al2, ↓wp_pi, ↓wp_ltr, ↓wp_ite, ↓wp_and, ↓wp_or, ↓wp_not, ↓wp_cmp, ↓wp_cmz, ↓wp_isn, ↓wp_nsn, ↓wp_a0, ↓wp_a1, ↓wp_cv, ↓wp_cs, ↓wp_dr, ↓wp_sk, ↓wp_brk, ↓wp_cnt, ↓wp_rV, ↓wp_seq, ↓wp_iff, ↓wp_sI, ↓wp_sL, ↓wp_sN, ↓wp_inc, ↓wp_do, ↓wp_rI, ↓wp_rL, ↓wp_rN, ↓wp_rZ, ↓wp_pf, ↓wp_pz, ↓wp_pd, ↓wp_po, ↓wp_pl, ↓wp_pao, ↓wp_tsw, ↓wp_lsw, ↓wp_fn, ↓wq_ld, ↓wq_ldl, ↓wq_lda, ↓wq_c, ↓wq_gr, ↓wq_gq, ↓wq_nn, ↓wq_asI, ↓wq_asL, ↓wq_asN, ↓wq_pa, hO_0, hR_0_0, hR_0_1, hR_0_2, hR_0_3, hR_0_4, hR_0_5, hR_0_6, hR_0_7, hR_0_8, hR_0_9, hR_0_10, hR_0_11, hF_0_12, hO_1, hR_1_0, hF_1_1, hF_1_2, hF_1_3, hO_3, hR_3_0, hF_3_1, hO_5, hF_5_0, hF_5_1, hR_5_2, hR_5_3, hR_5_4, hR_5_5, hR_5_6, hR_5_7, hF_5_8, hF_5_9, hO_30, hF_30_0, hF_30_1, hF_30_2, hF_30_3, hO_31, hF_31_0, hF_31_1, hR_31_2, hR_31_3, hR_31_4, hO_35, hR_35_0, hF_35_1, hR_35_2, hF_35_3, hR_35_4, hF_35_5, hF_35_6, hR_35_7, hF_35_8, hR_35_9, hR_35_10, hO_42, hO_45, hO_48, hR_48_0, hF_48_1, hF_48_2, hR_48_3, hR_48_4, hO_94, hR_94_0, hR_94_1, hO_97, hF_97_0, hF_97_1, hF_97_2, hF_97_3, hR_97_4, hR_97_5, hR_97_6, hR_97_7, hR_97_8, hR_97_9, hR_97_10, hR_97_11, hF_97_12, hO_156, hF_156_0, hR_156_1, hR_156_2, hR_156_3, hR_156_4, hR_156_5, hR_156_6, hR_156_7, hR_156_8, fd_p_eq, fd_p_ne, fd_p_lt, fd_p_ge, fd_p_gt, fd_p_le, fd_f_iadd, fd_f_isub, fd_f_imul, fd_f_iand, fd_f_ior, fd_f_ixor, fd_f_ishl, fd_f_ishr, fd_f_iushr, fd_f_ladd, fd_f_lsub, fd_f_lmul, fd_f_lcmp, fd_f_idiv, fd_f_irem, fd_f_ldiv, fd_f_lrem, fd_f_ineg, fd_f_i2l, fd_f_l2i, fd_f_i2b, fd_f_i2s, fd_f_i2c, fd_z_idiv, fd_z_irem, fd_z_ldiv, fd_z_lrem, fd_in0, fd_sl, fd_st1, fd_st2, fd_kl, fd_vI, fd_vL, fd_vN, fd_ok1, fd_v_int, xI, xL, xR, xK, xG, yI, yL, yN, -Prod.exists, show fd_isF 42 10 6 = some 0 from rfl, sc3.2.2.2.2.2.2.1, fd_run_of lup, b1, Int32.not_lt.mp b1, fd_run_of (s_bitCount _ _), t_clear, t_add0, rd_I]
    have s4 : fd_sm [0, 2] M3 (fd_uI (fd_uL (fd_uI M3 3 1 0) 4 0 (bc (nI l)).toInt64) 3 1 1) := (by repeat' (first | exact fd_sm.rf | refine fd_sm.uI ?_ (by first | decide | (simp [cl, cl_182]; done)) | refine fd_sm.uL ?_ (by first | decide | (simp [cl, cl_182]; done))))
    refine ref _ ((s3.up (by simp)).tr s4) (fun j => by rw [rd_ne (by omega), rd_L1, rd_ne (by omega), f03.1 _ _ (by unfold rF; omega)]) _ (fun h => by rw [e] at h; cases h) (fun l' hl => ?_)
    rw [e] at hl
    cases hl
    exact ⟨rfl, by simp [rd_I], by simp [rd_L, rd_I2]⟩
