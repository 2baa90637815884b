-- FILE 55.gonight
/-! ===== A NIGHT at the reference ===== -/
def bt_gon : fd_T := (fd_seq (fd_pf 12 36 (fd_lda 0) (fd_as fd_vI (fd_cs 1 m_J6_bitCount_0f7a4 (fd_a1 .int fd_a0 (fd_ld 5))))) (fd_seq (fd_pf 12 37 (fd_lda 0) (fd_c (0 : Int32))) (fd_seq (fd_sI 6 (fd_c (0 : Int32))) (fd_seq (fd_seq (fd_sI 7 (fd_c (0 : Int32))) (fd_whl (fd_cmp fd_p_lt (fd_ld 7) (fd_gf 12 5 (fd_lda 0))) (fd_seq (fd_iff (fd_not (fd_cmz fd_p_ne (fd_as fd_vI (fd_cs 2 m_X12_has (fd_a1 .int (fd_a1 .int fd_a0 (fd_ld 5)) (fd_ld 7)))))) fd_cnt fd_sk) (fd_seq (fd_po 12 37 fd_f_iadd (fd_lda 0) (fd_ite (fd_cmp fd_p_ge (fd_ld 4) (fd_c (50 : Int32))) (fd_b2z fd_z_idiv fd_f_idiv (fd_ga 0 (fd_gr 12 7 (fd_lda 0)) (fd_ld 7)) (fd_c (2 : Int32))) (fd_ga 0 (fd_gr 12 7 (fd_lda 0)) (fd_ld 7)))) (fd_sI 6 (fd_b2 fd_f_iadd (fd_ld 6) (fd_ga 0 (fd_gr 12 8 (fd_lda 0)) (fd_ld 7)))))) (fd_inc 7 (1 : Int32)) fd_fu)) (fd_seq (fd_pao fd_f_ior (fd_lda 1) (fd_c (6 : Int32)) (fd_ld 5)) (fd_seq (fd_pao fd_f_iadd (fd_lda 1) (fd_c (2 : Int32)) (fd_gf 12 37 (fd_lda 0))) (fd_seq (fd_sI 7 (fd_b2 fd_f_isub (fd_b2z fd_z_idiv fd_f_idiv (fd_b2 fd_f_iadd (fd_ga 0 (fd_lda 1) (fd_c (4 : Int32))) (fd_ld 6)) (fd_c (20 : Int32))) (fd_b2z fd_z_idiv fd_f_idiv (fd_ga 0 (fd_lda 1) (fd_c (4 : Int32))) (fd_c (20 : Int32))))) (fd_seq (fd_pao fd_f_iadd (fd_lda 1) (fd_c (4 : Int32)) (fd_ld 6)) (fd_seq (fd_pa 0 fd_v_int (fd_lda 1) (fd_c (3 : Int32)) (fd_b2 fd_f_max (fd_c (0 : Int32)) (fd_b2 fd_f_isub (fd_ld 3) (fd_ld 7)))) (fd_seq (fd_iff (fd_and (fd_cmz fd_p_eq (fd_gf 12 38 (fd_lda 0))) (fd_cmz fd_p_eq (fd_ld 5))) (fd_pa 0 fd_v_int (fd_lda 1) (fd_c (1 : Int32)) (fd_b2z fd_z_idiv fd_f_idiv (fd_ld 4) (fd_c (2 : Int32)))) (fd_pa 0 fd_v_int (fd_lda 1) (fd_c (1 : Int32)) (fd_b1 fd_f_l2i (fd_b2 fd_f_maxl (fd_c (0 : Int64)) (fd_b2 fd_f_minl (fd_c (99 : Int64)) (fd_b2 fd_f_ladd (fd_b1 fd_f_i2l (fd_ld 4)) (fd_b1 fd_f_i2l (fd_as fd_vI (fd_cv 12 6 m_X12_tiresBy (fd_a1 .int (fd_a1 .int (fd_a1 .int (fd_a1 .int (fd_a1 .int (fd_a1 .int (fd_a1 .ref fd_a0 (fd_lda 0)) (fd_gf 12 38 (fd_lda 0))) (fd_ld 6)) (fd_ga 0 (fd_gr 12 2 (fd_lda 0)) (fd_ld 2))) (fd_ld 4)) (fd_ga 0 (fd_lda 1) (fd_c (5 : Int32)))) (fd_ld 3))))))))))) (fd_pao fd_f_iadd (fd_lda 1) (fd_c (5 : Int32)) (fd_c (1 : Int32)))))))))))))
theorem bt_gon_eq : b_X12_goNight = (fd_seq (fd_seq (fd_pf 12 38 (fd_lda 0) (fd_as fd_vI (fd_cv 12 2 m_X12_wayOf (fd_a1 .int (fd_a1 .int (fd_a1 .ref fd_a0 (fd_lda 0)) (fd_ga 0 (fd_lda 1) (fd_c (0 : Int32)))) (fd_ld 2))))) (fd_seq (fd_pa 0 fd_v_int (fd_lda 1) (fd_c (0 : Int32)) (fd_ld 2)) (fd_seq (fd_sI 3 (fd_ga 0 (fd_lda 1) (fd_c (3 : Int32)))) (fd_seq (fd_sI 4 (fd_ga 0 (fd_lda 1) (fd_c (1 : Int32)))) (fd_seq (fd_sI 5 (fd_ite (fd_or (fd_cmz fd_p_ne (fd_as fd_vI (fd_cv 12 1 m_X12_isLent (fd_a1 .int (fd_a1 .ref fd_a0 (fd_lda 0)) (fd_ga 0 (fd_lda 1) (fd_c (5 : Int32))))))) (fd_cmz fd_p_eq (fd_ld 3))) (fd_c (0 : Int32)) (fd_b2 fd_f_iand (fd_as fd_vI (fd_cv 12 3 m_X12_feastsAt (fd_a1 .int (fd_a1 .int (fd_a1 .ref (fd_a1 .ref fd_a0 (fd_lda 0)) (fd_lda 1)) (fd_ld 2)) (fd_ga 0 (fd_lda 1) (fd_c (5 : Int32)))))) (fd_b2 fd_f_ixor (fd_ga 0 (fd_lda 1) (fd_c (6 : Int32))) (fd_c (-1 : Int32)))))) bt_gon))))) fd_rV) := rfl

theorem fa_andn {a b c : Nat} (h : ∀ i, i < 32 → c.testBit i = (a.testBit i && !b.testBit i)) : nI a &&& (nI b ^^^ -1) = nI c := by
  apply Int32.toBitVec_inj.1
  show BitVec.ofNat 32 a &&& (BitVec.ofNat 32 b ^^^ (-1 : Int32).toBitVec) = BitVec.ofNat 32 c
  apply BitVec.eq_of_getLsbD_eq
  intro i hi
  have e : ((-1 : Int32).toBitVec).getLsbD i = true := by
    have : ∀ i, i < 32 → ((-1 : Int32).toBitVec).getLsbD i = true := by decide
    exact this i hi
  rw [BitVec.getLsbD_and, BitVec.getLsbD_xor, BitVec.getLsbD_ofNat, BitVec.getLsbD_ofNat, BitVec.getLsbD_ofNat, e, h i hi]
  simp [hi]
/-- what a night touches at the reference -/
def pM (c a j : Nat) : Prop := a = c ∨ a = 196 ∨ (a = 182 ∧ (j = 36 ∨ j = 37 ∨ j = 38 ∨ (18 ≤ j ∧ j ≤ 22) ∨ j = 31))
theorem pM_cl {c : Nat} (hc : c = 183 ∨ c = 213) (a j : Nat) (h : pM c a j) : cl a j ∈ [0, 7] := by
  unfold pM at h
  rcases h with rfl | rfl | ⟨rfl, h⟩
  · rcases hc with rfl | rfl <;> simp [cl]
  · simp [cl]
  · show cl_182 j ∈ [0, 7]
    unfold cl_182
    repeat' split
    all_goals first | decide | omega
theorem fP.wdM {c : Nat} (hc : c = 183 ∨ c = 213) {w : wl} {M M' : fd_M} (h : fP (pM c) M M') (hw : wd w M) : wd w M' := hw.cg (h.sm (pM_cl hc)) (by decide) (by decide) (by decide) (by decide)
theorem hA_183' {c : Nat} (hc : c = 183 ∨ c = 213) {i : Nat} (hi : i < 23) : fd_isA c 0 (nI i) = true := by
  rcases hc with rfl | rfl
  · exact hA_183 hi
  · exact hA_213 hi
theorem s_X12_feastsAt {M : fd_M} {w : wl} {S : sto} {c x : Nat} (hc : c = 183 ∨ c = 213) (hF : iv_fairs w.v w.f w.A w.B w.U M) (hv : w.v ≤ 9) (hsp : ∀ i, i < w.f → M.1 c (0 + (7 + i)) = nI (S.X i) ∧ M.1 c (0 + (15 + i)) = nI (S.Y i)) (hxy : ∀ i, i < w.f → S.X i ≤ S.Y i ∧ S.Y i ≤ 99) (hx : x < 9) (hn : S.n < 2147483648) : m_X12_feastsAt [.ref 182, .ref c, .int (nI x), .int (nI S.n)] M = some (.int (nI (bq (fun i => decide (w.A i = x) && decide (S.X i ≤ S.n) && decide (S.n ≤ S.Y i)) w.f)), M) := by
  apply fd_of_run
  obtain ⟨f8, _, h1, h2⟩ := hF
  unfold m_X12_feastsAt b_X12_feastsAt
  simp [↓wp_ldn, ↓wp_b1, ↓wp_b2, ↓wp_b2z, ↓wp_gf, ↓wp_gd, ↓wp_ga, ↓wp_gl, ↓wp_al2, ↓wp_pi, ↓wp_ltr, ↓wp_ite, ↓wp_and, ↓wp_or, ↓wp_not, ↓wp_cmp, ↓wp_cmz, ↓wp_isn, ↓wp_nsn, ↓wp_a0, ↓wp_a1, ↓wp_cv, ↓wp_cs, ↓wp_dr, ↓wp_sk, ↓wp_brk, ↓wp_cnt, ↓wp_rV, ↓wp_seq, ↓wp_iff, ↓wp_sI, ↓wp_sL, ↓wp_sN, ↓wp_inc, ↓wp_do, ↓wp_rI, ↓wp_rL, ↓wp_rN, ↓wp_rZ, ↓wp_pf, ↓wp_pz, ↓wp_pd, ↓wp_po, ↓wp_pl, ↓wp_pao, ↓wp_tsw, ↓wp_lsw, ↓wp_fn, ↓wq_ld, ↓wq_ldl, ↓wq_lda, ↓wq_c, ↓wq_gr, ↓wq_gq, ↓wq_nn, ↓wq_asI, ↓wq_asL, ↓wq_asN, ↓wq_pa, hO_182, hR_182_0, hF_182_1, hR_182_2, hF_182_3, hR_182_4, hF_182_5, hR_182_6, hR_182_7, hR_182_8, hF_182_9, hF_182_10, hF_182_11, hF_182_12, hR_182_13, hF_182_14, hR_182_15, hF_182_16, hF_182_17, hF_182_18, hF_182_19, hF_182_20, hF_182_21, hF_182_22, hR_182_23, hR_182_24, hF_182_25, hF_182_26, hR_182_27, hR_182_28, hR_182_29, hF_182_30, hF_182_31, hR_182_32, hR_182_33, hF_182_34, hR_182_35, hF_182_36, hF_182_37, hF_182_38, hF_182_39, hF_182_40, hR_182_41, hR_182_42, hR_182_43, hR_182_44, hR_182_45, hR_182_46, hF_182_47, hR_182_48, hR_182_49, hR_182_50, hR_182_51, hR_182_52, hF_182_53, hR_182_54, hR_182_55, hR_182_56, hR_182_57, hF_182_58, hR_182_59, hR_182_60, hR_182_61, fd_p_eq, fd_p_ne, fd_p_lt, fd_p_ge, fd_p_gt, fd_p_le, fd_f_iadd, fd_f_isub, fd_f_imul, fd_f_iand, fd_f_ior, fd_f_ixor, fd_f_ishl, fd_f_ishr, fd_f_iushr, fd_f_ladd, fd_f_lsub, fd_f_lmul, fd_f_lcmp, fd_f_idiv, fd_f_irem, fd_f_ldiv, fd_f_lrem, fd_f_ineg, fd_f_i2l, fd_f_l2i, fd_f_i2b, fd_f_i2s, fd_f_i2c, fd_z_idiv, fd_z_irem, fd_z_ldiv, fd_z_lrem, fd_in0, fd_sl, fd_st1, fd_st2, fd_kl, fd_vI, fd_vL, fd_vN, fd_ok1, fd_v_int, xI, xL, xR, xK, xG, yI, yL, yN, -Prod.exists]
  generalize hp : (fun i => decide (w.A i = x) && decide (S.X i ≤ S.n) && decide (S.n ≤ S.Y i)) = p
  have hp : ∀ i, p i = (decide (w.A i = x) && decide (S.X i ≤ S.n) && decide (S.n ≤ S.Y i)) := fun i => by rw [← hp]
  obtain ⟨J, hJ⟩ : ∃ J : Nat → fd_S → Prop, J = fun i σ => σ = ([.ref 182, .ref c, .int (nI x), .int (nI S.n), .int (nI (bq p i)), .int (nI i)], M) := ⟨_, rfl⟩
  refine wp_for w.f J (fd_fu_lt (by omega)) (Nat.zero_le _) (by rw [hJ]; rfl) (fun i σ hi hs => ?_) (fun σ hs => ?_)
  · rw [hJ] at hs
    subst hs
    have c1 : nI i < nI w.f := nI_lt hi (by omega)
    obtain ⟨q1, _, _, _, _, k186, _⟩ := h2 i hi
    obtain ⟨q2, q3⟩ := hxy i hi
    have e := bq_or p (n := i) (by omega)
    rw [hp i] at e
    have l1 : nI (S.X i) ≤ nI S.n ↔ S.X i ≤ S.n := nI_leI (by omega) hn
    have l2 : nI S.n ≤ nI (S.Y i) ↔ S.n ≤ S.Y i := nI_leI hn (by omega)
    have l3 : nI (w.A i) = nI x ↔ w.A i = x := nI_eq (by omega) (by omega)
    have e7 : (7 : Int32) + nI i = nI (7 + i) := nI_add 7 i
    have e15 : (15 : Int32) + nI i = nI (15 + i) := nI_add 15 i
    have s7 := (hsp i hi).1
    have s15 := (hsp i hi).2
    rw [Nat.zero_add] at s7 s15
    by_cases k3 : w.A i = x
    · by_cases k1 : S.X i ≤ S.n ∧ S.n ≤ S.Y i
      · simp [k1, k3] at e
        simp [↓wp_ldn, ↓wp_b1, ↓wp_b2, ↓wp_b2z, ↓wp_gf, ↓wp_gd, ↓wp_ga, ↓wp_gl, ↓wp_al2, ↓wp_pi, ↓wp_ltr, ↓wp_ite, ↓wp_and, ↓wp_or, ↓wp_not, ↓wp_cmp, ↓wp_cmz, ↓wp_isn, ↓wp_nsn, ↓wp_a0, ↓wp_a1, ↓wp_cv, ↓wp_cs, ↓wp_dr, ↓wp_sk, ↓wp_brk, ↓wp_cnt, ↓wp_rV, ↓wp_seq, ↓wp_iff, ↓wp_sI, ↓wp_sL, ↓wp_sN, ↓wp_inc, ↓wp_do, ↓wp_rI, ↓wp_rL, ↓wp_rN, ↓wp_rZ, ↓wp_pf, ↓wp_pz, ↓wp_pd, ↓wp_po, ↓wp_pl, ↓wp_pao, ↓wp_tsw, ↓wp_lsw, ↓wp_fn, ↓wq_ld, ↓wq_ldl, ↓wq_lda, ↓wq_c, ↓wq_gr, ↓wq_gq, ↓wq_nn, ↓wq_asI, ↓wq_asL, ↓wq_asN, ↓wq_pa, hO_182, hR_182_0, hF_182_1, hR_182_2, hF_182_3, hR_182_4, hF_182_5, hR_182_6, hR_182_7, hR_182_8, hF_182_9, hF_182_10, hF_182_11, hF_182_12, hR_182_13, hF_182_14, hR_182_15, hF_182_16, hF_182_17, hF_182_18, hF_182_19, hF_182_20, hF_182_21, hF_182_22, hR_182_23, hR_182_24, hF_182_25, hF_182_26, hR_182_27, hR_182_28, hR_182_29, hF_182_30, hF_182_31, hR_182_32, hR_182_33, hF_182_34, hR_182_35, hF_182_36, hF_182_37, hF_182_38, hF_182_39, hF_182_40, hR_182_41, hR_182_42, hR_182_43, hR_182_44, hR_182_45, hR_182_46, hF_182_47, hR_182_48, hR_182_49, hR_182_50, hR_182_51, hR_182_52, hF_182_53, hR_182_54, hR_182_55, hR_182_56, hR_182_57, hF_182_58, hR_182_59, hR_182_60, hR_182_61, fd_p_eq, fd_p_ne, fd_p_lt, fd_p_ge, fd_p_gt, fd_p_le, fd_f_iadd, fd_f_isub, fd_f_imul, fd_f_iand, fd_f_ior, fd_f_ixor, fd_f_ishl, fd_f_ishr, fd_f_iushr, fd_f_ladd, fd_f_lsub, fd_f_lmul, fd_f_lcmp, fd_f_idiv, fd_f_irem, fd_f_ldiv, fd_f_lrem, fd_f_ineg, fd_f_i2l, fd_f_l2i, fd_f_i2b, fd_f_i2s, fd_f_i2c, fd_z_idiv, fd_z_irem, fd_z_ldiv, fd_z_lrem, fd_in0, fd_sl, fd_st1, fd_st2, fd_kl, fd_vI, fd_vL, fd_vN, fd_ok1, fd_v_int, xI, xL, xR, xK, xG, yI, yL, yN, -Prod.exists, h1, c1, hA_186 (show i < 8 by omega), k186, k3, nI_clamp (show i < 2 ^ 31 by omega), m_X12_isOn, b_X12_isOn, e7, e15, hA_183' hc (show 7 + i < 23 by omega), hA_183' hc (show 15 + i < 23 by omega), nI_clamp (show 7 + i < 2 ^ 31 by omega), nI_clamp (show 15 + i < 2 ^ 31 by omega), s7, s15, fd_run_of (s_X12_in _ _ _ _), l1, l2, k1, nI_1]
        rw [hJ, e]
      · have e' : (if (decide (w.A i = x) && decide (S.X i ≤ S.n) && decide (S.n ≤ S.Y i)) = true then (1 : Int32) <<< (nI i &&& 31) else 0) = 0 := by
          rw [if_neg]
          simp only [Bool.and_eq_true, decide_eq_true_eq]
          exact fun z => k1 ⟨z.1.2, z.2⟩
        rw [e'] at e
        simp [↓wp_ldn, ↓wp_b1, ↓wp_b2, ↓wp_b2z, ↓wp_gf, ↓wp_gd, ↓wp_ga, ↓wp_gl, ↓wp_al2, ↓wp_pi, ↓wp_ltr, ↓wp_ite, ↓wp_and, ↓wp_or, ↓wp_not, ↓wp_cmp, ↓wp_cmz, ↓wp_isn, ↓wp_nsn, ↓wp_a0, ↓wp_a1, ↓wp_cv, ↓wp_cs, ↓wp_dr, ↓wp_sk, ↓wp_brk, ↓wp_cnt, ↓wp_rV, ↓wp_seq, ↓wp_iff, ↓wp_sI, ↓wp_sL, ↓wp_sN, ↓wp_inc, ↓wp_do, ↓wp_rI, ↓wp_rL, ↓wp_rN, ↓wp_rZ, ↓wp_pf, ↓wp_pz, ↓wp_pd, ↓wp_po, ↓wp_pl, ↓wp_pao, ↓wp_tsw, ↓wp_lsw, ↓wp_fn, ↓wq_ld, ↓wq_ldl, ↓wq_lda, ↓wq_c, ↓wq_gr, ↓wq_gq, ↓wq_nn, ↓wq_asI, ↓wq_asL, ↓wq_asN, ↓wq_pa, hO_182, hR_182_0, hF_182_1, hR_182_2, hF_182_3, hR_182_4, hF_182_5, hR_182_6, hR_182_7, hR_182_8, hF_182_9, hF_182_10, hF_182_11, hF_182_12, hR_182_13, hF_182_14, hR_182_15, hF_182_16, hF_182_17, hF_182_18, hF_182_19, hF_182_20, hF_182_21, hF_182_22, hR_182_23, hR_182_24, hF_182_25, hF_182_26, hR_182_27, hR_182_28, hR_182_29, hF_182_30, hF_182_31, hR_182_32, hR_182_33, hF_182_34, hR_182_35, hF_182_36, hF_182_37, hF_182_38, hF_182_39, hF_182_40, hR_182_41, hR_182_42, hR_182_43, hR_182_44, hR_182_45, hR_182_46, hF_182_47, hR_182_48, hR_182_49, hR_182_50, hR_182_51, hR_182_52, hF_182_53, hR_182_54, hR_182_55, hR_182_56, hR_182_57, hF_182_58, hR_182_59, hR_182_60, hR_182_61, fd_p_eq, fd_p_ne, fd_p_lt, fd_p_ge, fd_p_gt, fd_p_le, fd_f_iadd, fd_f_isub, fd_f_imul, fd_f_iand, fd_f_ior, fd_f_ixor, fd_f_ishl, fd_f_ishr, fd_f_iushr, fd_f_ladd, fd_f_lsub, fd_f_lmul, fd_f_lcmp, fd_f_idiv, fd_f_irem, fd_f_ldiv, fd_f_lrem, fd_f_ineg, fd_f_i2l, fd_f_l2i, fd_f_i2b, fd_f_i2s, fd_f_i2c, fd_z_idiv, fd_z_irem, fd_z_ldiv, fd_z_lrem, fd_in0, fd_sl, fd_st1, fd_st2, fd_kl, fd_vI, fd_vL, fd_vN, fd_ok1, fd_v_int, xI, xL, xR, xK, xG, yI, yL, yN, -Prod.exists, h1, c1, hA_186 (show i < 8 by omega), k186, k3, nI_clamp (show i < 2 ^ 31 by omega), m_X12_isOn, b_X12_isOn, e7, e15, hA_183' hc (show 7 + i < 23 by omega), hA_183' hc (show 15 + i < 23 by omega), nI_clamp (show 7 + i < 2 ^ 31 by omega), nI_clamp (show 15 + i < 2 ^ 31 by omega), s7, s15, fd_run_of (s_X12_in _ _ _ _), l1, l2, k1, nI_1]
        rw [Int32.or_zero] at e
        rw [hJ, e]
    · have m5 : ¬ nI (w.A i) = nI x := fun z => k3 (l3.mp z)
      have e' : (if (decide (w.A i = x) && decide (S.X i ≤ S.n) && decide (S.n ≤ S.Y i)) = true then (1 : Int32) <<< (nI i &&& 31) else 0) = 0 := by
        rw [if_neg]
        simp [k3]
      rw [e'] at e
      simp [↓wp_ldn, ↓wp_b1, ↓wp_b2, ↓wp_b2z, ↓wp_gf, ↓wp_gd, ↓wp_ga, ↓wp_gl, ↓wp_al2, ↓wp_pi, ↓wp_ltr, ↓wp_ite, ↓wp_and, ↓wp_or, ↓wp_not, ↓wp_cmp, ↓wp_cmz, ↓wp_isn, ↓wp_nsn, ↓wp_a0, ↓wp_a1, ↓wp_cv, ↓wp_cs, ↓wp_dr, ↓wp_sk, ↓wp_brk, ↓wp_cnt, ↓wp_rV, ↓wp_seq, ↓wp_iff, ↓wp_sI, ↓wp_sL, ↓wp_sN, ↓wp_inc, ↓wp_do, ↓wp_rI, ↓wp_rL, ↓wp_rN, ↓wp_rZ, ↓wp_pf, ↓wp_pz, ↓wp_pd, ↓wp_po, ↓wp_pl, ↓wp_pao, ↓wp_tsw, ↓wp_lsw, ↓wp_fn, ↓wq_ld, ↓wq_ldl, ↓wq_lda, ↓wq_c, ↓wq_gr, ↓wq_gq, ↓wq_nn, ↓wq_asI, ↓wq_asL, ↓wq_asN, ↓wq_pa, hO_182, hR_182_0, hF_182_1, hR_182_2, hF_182_3, hR_182_4, hF_182_5, hR_182_6, hR_182_7, hR_182_8, hF_182_9, hF_182_10, hF_182_11, hF_182_12, hR_182_13, hF_182_14, hR_182_15, hF_182_16, hF_182_17, hF_182_18, hF_182_19, hF_182_20, hF_182_21, hF_182_22, hR_182_23, hR_182_24, hF_182_25, hF_182_26, hR_182_27, hR_182_28, hR_182_29, hF_182_30, hF_182_31, hR_182_32, hR_182_33, hF_182_34, hR_182_35, hF_182_36, hF_182_37, hF_182_38, hF_182_39, hF_182_40, hR_182_41, hR_182_42, hR_182_43, hR_182_44, hR_182_45, hR_182_46, hF_182_47, hR_182_48, hR_182_49, hR_182_50, hR_182_51, hR_182_52, hF_182_53, hR_182_54, hR_182_55, hR_182_56, hR_182_57, hF_182_58, hR_182_59, hR_182_60, hR_182_61, fd_p_eq, fd_p_ne, fd_p_lt, fd_p_ge, fd_p_gt, fd_p_le, fd_f_iadd, fd_f_isub, fd_f_imul, fd_f_iand, fd_f_ior, fd_f_ixor, fd_f_ishl, fd_f_ishr, fd_f_iushr, fd_f_ladd, fd_f_lsub, fd_f_lmul, fd_f_lcmp, fd_f_idiv, fd_f_irem, fd_f_ldiv, fd_f_lrem, fd_f_ineg, fd_f_i2l, fd_f_l2i, fd_f_i2b, fd_f_i2s, fd_f_i2c, fd_z_idiv, fd_z_irem, fd_z_ldiv, fd_z_lrem, fd_in0, fd_sl, fd_st1, fd_st2, fd_kl, fd_vI, fd_vL, fd_vN, fd_ok1, fd_v_int, xI, xL, xR, xK, xG, yI, yL, yN, -Prod.exists, h1, c1, hA_186 (show i < 8 by omega), k186, m5, nI_clamp (show i < 2 ^ 31 by omega), nI_1]
      rw [Int32.or_zero] at e
      rw [hJ, e]
  · rw [hJ] at hs
    subst hs
    simp [↓wp_ldn, ↓wp_b1, ↓wp_b2, ↓wp_b2z, ↓wp_gf, ↓wp_gd, ↓wp_ga, ↓wp_gl, ↓wp_al2, ↓wp_pi, ↓wp_ltr, ↓wp_ite, ↓wp_and, ↓wp_or, ↓wp_not, ↓wp_cmp, ↓wp_cmz, ↓wp_isn, ↓wp_nsn, ↓wp_a0, ↓wp_a1, ↓wp_cv, ↓wp_cs, ↓wp_dr, ↓wp_sk, ↓wp_brk, ↓wp_cnt, ↓wp_rV, ↓wp_seq, ↓wp_iff, ↓wp_sI, ↓wp_sL, ↓wp_sN, ↓wp_inc, ↓wp_do, ↓wp_rI, ↓wp_rL, ↓wp_rN, ↓wp_rZ, ↓wp_pf, ↓wp_pz, ↓wp_pd, ↓wp_po, ↓wp_pl, ↓wp_pao, ↓wp_tsw, ↓wp_lsw, ↓wp_fn, ↓wq_ld, ↓wq_ldl, ↓wq_lda, ↓wq_c, ↓wq_gr, ↓wq_gq, ↓wq_nn, ↓wq_asI, ↓wq_asL, ↓wq_asN, ↓wq_pa, hO_182, hR_182_0, hF_182_1, hR_182_2, hF_182_3, hR_182_4, hF_182_5, hR_182_6, hR_182_7, hR_182_8, hF_182_9, hF_182_10, hF_182_11, hF_182_12, hR_182_13, hF_182_14, hR_182_15, hF_182_16, hF_182_17, hF_182_18, hF_182_19, hF_182_20, hF_182_21, hF_182_22, hR_182_23, hR_182_24, hF_182_25, hF_182_26, hR_182_27, hR_182_28, hR_182_29, hF_182_30, hF_182_31, hR_182_32, hR_182_33, hF_182_34, hR_182_35, hF_182_36, hF_182_37, hF_182_38, hF_182_39, hF_182_40, hR_182_41, hR_182_42, hR_182_43, hR_182_44, hR_182_45, hR_182_46, hF_182_47, hR_182_48, hR_182_49, hR_182_50, hR_182_51, hR_182_52, hF_182_53, hR_182_54, hR_182_55, hR_182_56, hR_182_57, hF_182_58, hR_182_59, hR_182_60, hR_182_61, fd_p_eq, fd_p_ne, fd_p_lt, fd_p_ge, fd_p_gt, fd_p_le, fd_f_iadd, fd_f_isub, fd_f_imul, fd_f_iand, fd_f_ior, fd_f_ixor, fd_f_ishl, fd_f_ishr, fd_f_iushr, fd_f_ladd, fd_f_lsub, fd_f_lmul, fd_f_lcmp, fd_f_idiv, fd_f_irem, fd_f_ldiv, fd_f_lrem, fd_f_ineg, fd_f_i2l, fd_f_l2i, fd_f_i2b, fd_f_i2s, fd_f_i2c, fd_z_idiv, fd_z_irem, fd_z_ldiv, fd_z_lrem, fd_in0, fd_sl, fd_st1, fd_st2, fd_kl, fd_vI, fd_vL, fd_vN, fd_ok1, fd_v_int, xI, xL, xR, xK, xG, yI, yL, yN, -Prod.exists, h1, lt_self]
-- FILE 56.goman
theorem ftP {c : Nat} {M M' : fd_M} (h : ft M M') : fP (pM c) M M' := ⟨fun a j z => by
  by_cases e : a = 196
  · exact absurd (Or.inr (Or.inl e)) z
  · refine h.1 a j e ?_
    by_cases e2 : a = 182
    · refine Or.inr ?_
      unfold pM at z
      omega
    · exact Or.inl e2, h.2⟩
theorem s_bt_gon {M : fd_M} {w : wl} {S : sto} {c x nb : Nat} (hc : c = 183 ∨ c = 213) (hw : wd w M) (hS : mst w.f c 0 S M) (hok : sok w.v w.f 1500000 S) (hx : x < w.v) (ha : S.a < w.v) {c6 c7 : Value} {Q : fd_M → Prop} (hQ : ∀ M2, mst w.f c 0 (w_go w S x) M2 → M2.1 182 36 = bc (nI (w_bits w S x)) → M2.1 182 37 = nI (w_paid w (w_bits w S x) (w_half S)) → M2.1 182 38 = nI (w.D S.a x) → fP (pM c) M M2 → Q M2) : fd_wp bt_gon ([.ref 182, .ref c, .int (nI x), .int (nI S.s), .int S.T, .int (nI (w_bits w S x)), c6, c7], fd_uI (fd_uI M 182 38 (nI (w.D S.a x))) c 0 (nI x)) (fun z v s => z = 0 ∧ Q s.2) := by
  obtain ⟨g5, g0, g1, g2, g3, g4, g6, g7⟩ := hS
  obtain ⟨o1, o2, o3, o4, o5, o6⟩ := hok
  have hv := hw.1.1
  have hf := hw.2.1.1
  have hF := hw.2.1
  have ht := sumq_le (p := fun i => (w_bits w S x).testBit i) (fun i hi => (hF.2.2.2 i hi).2.2.2.1)
  have ht2 : w_tunes w (w_bits w S x) ≤ 72 := by unfold w_tunes; omega
  have hb := w_bits_lt w S x
  have hb8 : 2 ^ w.f ≤ 256 := Nat.pow_le_pow_right (n := 2) (by omega) hf
  have nc : ¬ c = 182 := by omega
  have nc' : ¬ 182 = c := by omega
  have hT : (w_go w S x).T = (if w.D S.a x = 0 ∧ w_bits w S x = 0 then S.T / 2 else w_cl S.T (wkv w.cd (as6 (nI (w.D S.a x)) (nI (w_tunes w (w_bits w S x))) (w.fo x) S.T (nI S.n) (nI S.s)))) := rfl
  have hpost : ∀ (M2 : fd_M), M2.1 c 5 = nI (S.n + 1) → M2.1 c 0 = nI x → M2.1 c 1 = (w_go w S x).T → M2.1 c 2 = S.C + nI (w_paid w (w_bits w S x) (w_half S)) → M2.1 c 3 = nI (S.s - ((S.w + w_tunes w (w_bits w S x)) / 20 - S.w / 20)) → M2.1 c 4 = nI (S.w + w_tunes w (w_bits w S x)) → M2.1 c 6 = nI (S.pl ||| w_bits w S x) → (∀ j, 7 ≤ j → M2.1 c j = M.1 c j) → M2.1 182 36 = bc (nI (w_bits w S x)) → M2.1 182 37 = nI (w_paid w (w_bits w S x) (w_half S)) → M2.1 182 38 = nI (w.D S.a x) → fP (pM c) M M2 → Q M2 := by
    intro M2 e5 e0 e1 e2 e3 e4 e6 e7 k36 k37 k38 ef
    refine hQ M2 ⟨e5, e0, e1, e2, e3, e4, e6, fun i hi => ?_⟩ k36 k37 k38 ef
    rw [e7 _ (by omega), e7 _ (by omega)]
    exact g7 i hi
  rw [hT] at hpost
  generalize w_bits w S x = b at *
  have q50 : (50 ≤ S.T ∧ ¬ S.T < 50 ∧ w_half S = true) ∨ (¬ 50 ≤ S.T ∧ S.T < 50 ∧ w_half S = false) := by
    unfold w_half
    rcases le_cases 50 S.T with ⟨k, k'⟩ | ⟨k, k'⟩
    · exact Or.inl ⟨k, k', by simp [k]⟩
    · exact Or.inr ⟨k, k', by simp [k]⟩
  have z0 : (0 : Int32).toNatClampNeg = 0 := rfl
  have z1 : (1 : Int32).toNatClampNeg = 1 := rfl
  have z2 : (2 : Int32).toNatClampNeg = 2 := rfl
  have z3 : (3 : Int32).toNatClampNeg = 3 := rfl
  have z4 : (4 : Int32).toNatClampNeg = 4 := rfl
  have z5 : (5 : Int32).toNatClampNeg = 5 := rfl
  have z6 : (6 : Int32).toNatClampNeg = 6 := rfl
  have y0 : fd_isA c 0 0 = true := hA_183' hc (i := 0) (by omega)
  have y1 : fd_isA c 0 1 = true := hA_183' hc (i := 1) (by omega)
  have y2 : fd_isA c 0 2 = true := hA_183' hc (i := 2) (by omega)
  have y3 : fd_isA c 0 3 = true := hA_183' hc (i := 3) (by omega)
  have y4 : fd_isA c 0 4 = true := hA_183' hc (i := 4) (by omega)
  have y5 : fd_isA c 0 5 = true := hA_183' hc (i := 5) (by omega)
  have y6 : fd_isA c 0 6 = true := hA_183' hc (i := 6) (by omega)
  have d2 : ¬ (2 : Int32) = 0 := by decide
  have d20 : ¬ (20 : Int32) = 0 := by decide
  have e1 : nI (S.w + w_tunes w b) / 20 = nI ((S.w + w_tunes w b) / 20) := pk_div (d := 20) (by omega) (by omega) (by omega)
  have e2 : nI S.w / 20 = nI (S.w / 20) := pk_div (d := 20) (by omega) (by omega) (by omega)
  have e3 : nI ((S.w + w_tunes w b) / 20) - nI (S.w / 20) = nI ((S.w + w_tunes w b) / 20 - S.w / 20) := pk_sub (Nat.div_le_div_right (by omega))
  have e4 := fmax0 (a := S.s) (b := (S.w + w_tunes w b) / 20 - S.w / 20) (by omega) (by omega)
  unfold bt_gon
  simp [↓wp_ldn, ↓wp_b1, ↓wp_b2, ↓wp_b2z, ↓wp_gf, ↓wp_gd, ↓wp_ga, ↓wp_gl, ↓wp_al2, ↓wp_pi, ↓wp_ltr, ↓wp_ite, ↓wp_and, ↓wp_or, ↓wp_not, ↓wp_cmp, ↓wp_cmz, ↓wp_isn, ↓wp_nsn, ↓wp_a0, ↓wp_a1, ↓wp_cv, ↓wp_cs, ↓wp_dr, ↓wp_sk, ↓wp_brk, ↓wp_cnt, ↓wp_rV, ↓wp_seq, ↓wp_iff, ↓wp_sI, ↓wp_sL, ↓wp_sN, ↓wp_inc, ↓wp_do, ↓wp_rI, ↓wp_rL, ↓wp_rN, ↓wp_rZ, ↓wp_pf, ↓wp_pz, ↓wp_pd, ↓wp_po, ↓wp_pl, ↓wp_pao, ↓wp_tsw, ↓wp_lsw, ↓wp_fn, ↓wq_ld, ↓wq_ldl, ↓wq_lda, ↓wq_c, ↓wq_gr, ↓wq_gq, ↓wq_nn, ↓wq_asI, ↓wq_asL, ↓wq_asN, ↓wq_pa, hO_182, hR_182_0, hF_182_1, hR_182_2, hF_182_3, hR_182_4, hF_182_5, hR_182_6, hR_182_7, hR_182_8, hF_182_9, hF_182_10, hF_182_11, hF_182_12, hR_182_13, hF_182_14, hR_182_15, hF_182_16, hF_182_17, hF_182_18, hF_182_19, hF_182_20, hF_182_21, hF_182_22, hR_182_23, hR_182_24, hF_182_25, hF_182_26, hR_182_27, hR_182_28, hR_182_29, hF_182_30, hF_182_31, hR_182_32, hR_182_33, hF_182_34, hR_182_35, hF_182_36, hF_182_37, hF_182_38, hF_182_39, hF_182_40, hR_182_41, hR_182_42, hR_182_43, hR_182_44, hR_182_45, hR_182_46, hF_182_47, hR_182_48, hR_182_49, hR_182_50, hR_182_51, hR_182_52, hF_182_53, hR_182_54, hR_182_55, hR_182_56, hR_182_57, hF_182_58, hR_182_59, hR_182_60, hR_182_61, fd_p_eq, fd_p_ne, fd_p_lt, fd_p_ge, fd_p_gt, fd_p_le, fd_f_iadd, fd_f_isub, fd_f_imul, fd_f_iand, fd_f_ior, fd_f_ixor, fd_f_ishl, fd_f_ishr, fd_f_iushr, fd_f_ladd, fd_f_lsub, fd_f_lmul, fd_f_lcmp, fd_f_idiv, fd_f_irem, fd_f_ldiv, fd_f_lrem, fd_f_ineg, fd_f_i2l, fd_f_l2i, fd_f_i2b, fd_f_i2s, fd_f_i2c, fd_z_idiv, fd_z_irem, fd_z_ldiv, fd_z_lrem, fd_in0, fd_sl, fd_st1, fd_st2, fd_kl, fd_vI, fd_vL, fd_vN, fd_ok1, fd_v_int, xI, xL, xR, xK, xG, yI, yL, yN, -Prod.exists, fd_run_of (s_bitCount _ _)]
  obtain ⟨J, hJ⟩ : ∃ J : Nat → fd_S → Prop, J = fun i σ => ∃ M1 : fd_M, σ = ([.ref 182, .ref c, .int (nI x), .int (nI S.s), .int S.T, .int (nI b), .int (nI (sumq (fun i => b.testBit i) w.U i)), .int (nI i)], M1) ∧ M1.1 182 37 = nI (sumq (fun i => b.testBit i) (fun i => if w_half S = true then w.B i / 2 else w.B i) i) ∧ M1.1 182 36 = bc (nI b) ∧ M1.1 182 38 = nI (w.D S.a x) ∧ M1.1 c 0 = nI x ∧ (∀ j, 0 < j → M1.1 c j = M.1 c j) ∧ fP (pM c) M M1 := ⟨_, rfl⟩
  have f1 : fP (pM c) M (fd_uI (fd_uI (fd_uI (fd_uI M 182 38 (nI (w.D S.a x))) c 0 (nI x)) 182 36 (bc (nI b))) 182 37 0) := fP.uI (fP.uI (fP.uI (fP.uI fP.rf (by unfold pM; omega)) (Or.inl rfl)) (by unfold pM; omega)) (by unfold pM; omega)
  refine wp_for w.f J (fd_fu_lt (by omega)) (Nat.zero_le _) (by rw [hJ]; exact ⟨_, rfl, by simp [rd_I, nc, nc', sumq, nI_0], by simp [rd_I, nc, nc'], by simp [rd_I, nc, nc'], by simp [rd_I, nc], fun j hj => by simp [rd_I, nc, show ¬ j = 0 by omega], f1⟩) (fun i σ hi hs => ?_) (fun σ hs => ?_)
  · rw [hJ] at hs
    obtain ⟨M1, rfl, k37, k36, k38, j0, j1, j2⟩ := hs
    have c1 : nI i < nI w.f := nI_lt hi (by omega)
    have h5 : M1.1 182 5 = nI w.f := by rw [j2.1 _ _ (by unfold pM; omega)]; exact hF.2.2.1
    obtain ⟨_, q1, _, _, _, _, _, k187, _, k188⟩ := hF.2.2.2 i hi
    have h187 : M1.1 187 i = nI (w.B i) := by rw [j2.1 _ _ (by unfold pM; omega)]; exact k187
    have h188 : M1.1 188 i = nI (w.U i) := by rw [j2.1 _ _ (by unfold pM; omega)]; exact k188
    have d3 : nI (w.B i) / 2 = nI (w.B i / 2) := pk_div (d := 2) (by omega) (by omega) (by omega)
    by_cases t : b.testBit i = true
    · have es : sumq (fun i => b.testBit i) w.U (i + 1) = sumq (fun i => b.testBit i) w.U i + w.U i := by simp [sumq, t]
      rcases q50 with ⟨u1, u2, u3⟩ | ⟨u1, u2, u3⟩
      · rw [u3] at k37
        simp [↓wp_ldn, ↓wp_b1, ↓wp_b2, ↓wp_b2z, ↓wp_gf, ↓wp_gd, ↓wp_ga, ↓wp_gl, ↓wp_al2, ↓wp_pi, ↓wp_ltr, ↓wp_ite, ↓wp_and, ↓wp_or, ↓wp_not, ↓wp_cmp, ↓wp_cmz, ↓wp_isn, ↓wp_nsn, ↓wp_a0, ↓wp_a1, ↓wp_cv, ↓wp_cs, ↓wp_dr, ↓wp_sk, ↓wp_brk, ↓wp_cnt, ↓wp_rV, ↓wp_seq, ↓wp_iff, ↓wp_sI, ↓wp_sL, ↓wp_sN, ↓wp_inc, ↓wp_do, ↓wp_rI, ↓wp_rL, ↓wp_rN, ↓wp_rZ, ↓wp_pf, ↓wp_pz, ↓wp_pd, ↓wp_po, ↓wp_pl, ↓wp_pao, ↓wp_tsw, ↓wp_lsw, ↓wp_fn, ↓wq_ld, ↓wq_ldl, ↓wq_lda, ↓wq_c, ↓wq_gr, ↓wq_gq, ↓wq_nn, ↓wq_asI, ↓wq_asL, ↓wq_asN, ↓wq_pa, hO_182, hR_182_0, hF_182_1, hR_182_2, hF_182_3, hR_182_4, hF_182_5, hR_182_6, hR_182_7, hR_182_8, hF_182_9, hF_182_10, hF_182_11, hF_182_12, hR_182_13, hF_182_14, hR_182_15, hF_182_16, hF_182_17, hF_182_18, hF_182_19, hF_182_20, hF_182_21, hF_182_22, hR_182_23, hR_182_24, hF_182_25, hF_182_26, hR_182_27, hR_182_28, hR_182_29, hF_182_30, hF_182_31, hR_182_32, hR_182_33, hF_182_34, hR_182_35, hF_182_36, hF_182_37, hF_182_38, hF_182_39, hF_182_40, hR_182_41, hR_182_42, hR_182_43, hR_182_44, hR_182_45, hR_182_46, hF_182_47, hR_182_48, hR_182_49, hR_182_50, hR_182_51, hR_182_52, hF_182_53, hR_182_54, hR_182_55, hR_182_56, hR_182_57, hF_182_58, hR_182_59, hR_182_60, hR_182_61, fd_p_eq, fd_p_ne, fd_p_lt, fd_p_ge, fd_p_gt, fd_p_le, fd_f_iadd, fd_f_isub, fd_f_imul, fd_f_iand, fd_f_ior, fd_f_ixor, fd_f_ishl, fd_f_ishr, fd_f_iushr, fd_f_ladd, fd_f_lsub, fd_f_lmul, fd_f_lcmp, fd_f_idiv, fd_f_irem, fd_f_ldiv, fd_f_lrem, fd_f_ineg, fd_f_i2l, fd_f_l2i, fd_f_i2b, fd_f_i2s, fd_f_i2c, fd_z_idiv, fd_z_irem, fd_z_ldiv, fd_z_lrem, fd_in0, fd_sl, fd_st1, fd_st2, fd_kl, fd_vI, fd_vL, fd_vN, fd_ok1, fd_v_int, xI, xL, xR, xK, xG, yI, yL, yN, -Prod.exists, h5, c1, fd_run_of (s_X12_has _ _ _), fa_tb (show i < 31 by omega), t, u1, u2, hA_187 (show i < 8 by omega), hA_188 (show i < 8 by omega), nI_clamp (show i < 2 ^ 31 by omega), h187, h188, d2, d3, rd_I, nI_add, nI_1, k37]
        rw [hJ]
        simp only [es]
        refine ⟨_, rfl, by simp [rd_I, sumq, t, u3], by simp [rd_I, k36], by simp [rd_I, k38], by simp [rd_I, nc, j0], fun j hj => by simp [rd_I, nc]; exact j1 j hj, fP.uI j2 (by unfold pM; omega)⟩
      · rw [u3] at k37
        simp [↓wp_ldn, ↓wp_b1, ↓wp_b2, ↓wp_b2z, ↓wp_gf, ↓wp_gd, ↓wp_ga, ↓wp_gl, ↓wp_al2, ↓wp_pi, ↓wp_ltr, ↓wp_ite, ↓wp_and, ↓wp_or, ↓wp_not, ↓wp_cmp, ↓wp_cmz, ↓wp_isn, ↓wp_nsn, ↓wp_a0, ↓wp_a1, ↓wp_cv, ↓wp_cs, ↓wp_dr, ↓wp_sk, ↓wp_brk, ↓wp_cnt, ↓wp_rV, ↓wp_seq, ↓wp_iff, ↓wp_sI, ↓wp_sL, ↓wp_sN, ↓wp_inc, ↓wp_do, ↓wp_rI, ↓wp_rL, ↓wp_rN, ↓wp_rZ, ↓wp_pf, ↓wp_pz, ↓wp_pd, ↓wp_po, ↓wp_pl, ↓wp_pao, ↓wp_tsw, ↓wp_lsw, ↓wp_fn, ↓wq_ld, ↓wq_ldl, ↓wq_lda, ↓wq_c, ↓wq_gr, ↓wq_gq, ↓wq_nn, ↓wq_asI, ↓wq_asL, ↓wq_asN, ↓wq_pa, hO_182, hR_182_0, hF_182_1, hR_182_2, hF_182_3, hR_182_4, hF_182_5, hR_182_6, hR_182_7, hR_182_8, hF_182_9, hF_182_10, hF_182_11, hF_182_12, hR_182_13, hF_182_14, hR_182_15, hF_182_16, hF_182_17, hF_182_18, hF_182_19, hF_182_20, hF_182_21, hF_182_22, hR_182_23, hR_182_24, hF_182_25, hF_182_26, hR_182_27, hR_182_28, hR_182_29, hF_182_30, hF_182_31, hR_182_32, hR_182_33, hF_182_34, hR_182_35, hF_182_36, hF_182_37, hF_182_38, hF_182_39, hF_182_40, hR_182_41, hR_182_42, hR_182_43, hR_182_44, hR_182_45, hR_182_46, hF_182_47, hR_182_48, hR_182_49, hR_182_50, hR_182_51, hR_182_52, hF_182_53, hR_182_54, hR_182_55, hR_182_56, hR_182_57, hF_182_58, hR_182_59, hR_182_60, hR_182_61, fd_p_eq, fd_p_ne, fd_p_lt, fd_p_ge, fd_p_gt, fd_p_le, fd_f_iadd, fd_f_isub, fd_f_imul, fd_f_iand, fd_f_ior, fd_f_ixor, fd_f_ishl, fd_f_ishr, fd_f_iushr, fd_f_ladd, fd_f_lsub, fd_f_lmul, fd_f_lcmp, fd_f_idiv, fd_f_irem, fd_f_ldiv, fd_f_lrem, fd_f_ineg, fd_f_i2l, fd_f_l2i, fd_f_i2b, fd_f_i2s, fd_f_i2c, fd_z_idiv, fd_z_irem, fd_z_ldiv, fd_z_lrem, fd_in0, fd_sl, fd_st1, fd_st2, fd_kl, fd_vI, fd_vL, fd_vN, fd_ok1, fd_v_int, xI, xL, xR, xK, xG, yI, yL, yN, -Prod.exists, h5, c1, fd_run_of (s_X12_has _ _ _), fa_tb (show i < 31 by omega), t, u1, u2, hA_187 (show i < 8 by omega), hA_188 (show i < 8 by omega), nI_clamp (show i < 2 ^ 31 by omega), h187, h188, d2, d3, rd_I, nI_add, nI_1, k37]
        rw [hJ]
        simp only [es]
        refine ⟨_, rfl, by simp [rd_I, sumq, t, u3], by simp [rd_I, k36], by simp [rd_I, k38], by simp [rd_I, nc, j0], fun j hj => by simp [rd_I, nc]; exact j1 j hj, fP.uI j2 (by unfold pM; omega)⟩
    · simp [↓wp_ldn, ↓wp_b1, ↓wp_b2, ↓wp_b2z, ↓wp_gf, ↓wp_gd, ↓wp_ga, ↓wp_gl, ↓wp_al2, ↓wp_pi, ↓wp_ltr, ↓wp_ite, ↓wp_and, ↓wp_or, ↓wp_not, ↓wp_cmp, ↓wp_cmz, ↓wp_isn, ↓wp_nsn, ↓wp_a0, ↓wp_a1, ↓wp_cv, ↓wp_cs, ↓wp_dr, ↓wp_sk, ↓wp_brk, ↓wp_cnt, ↓wp_rV, ↓wp_seq, ↓wp_iff, ↓wp_sI, ↓wp_sL, ↓wp_sN, ↓wp_inc, ↓wp_do, ↓wp_rI, ↓wp_rL, ↓wp_rN, ↓wp_rZ, ↓wp_pf, ↓wp_pz, ↓wp_pd, ↓wp_po, ↓wp_pl, ↓wp_pao, ↓wp_tsw, ↓wp_lsw, ↓wp_fn, ↓wq_ld, ↓wq_ldl, ↓wq_lda, ↓wq_c, ↓wq_gr, ↓wq_gq, ↓wq_nn, ↓wq_asI, ↓wq_asL, ↓wq_asN, ↓wq_pa, hO_182, hR_182_0, hF_182_1, hR_182_2, hF_182_3, hR_182_4, hF_182_5, hR_182_6, hR_182_7, hR_182_8, hF_182_9, hF_182_10, hF_182_11, hF_182_12, hR_182_13, hF_182_14, hR_182_15, hF_182_16, hF_182_17, hF_182_18, hF_182_19, hF_182_20, hF_182_21, hF_182_22, hR_182_23, hR_182_24, hF_182_25, hF_182_26, hR_182_27, hR_182_28, hR_182_29, hF_182_30, hF_182_31, hR_182_32, hR_182_33, hF_182_34, hR_182_35, hF_182_36, hF_182_37, hF_182_38, hF_182_39, hF_182_40, hR_182_41, hR_182_42, hR_182_43, hR_182_44, hR_182_45, hR_182_46, hF_182_47, hR_182_48, hR_182_49, hR_182_50, hR_182_51, hR_182_52, hF_182_53, hR_182_54, hR_182_55, hR_182_56, hR_182_57, hF_182_58, hR_182_59, hR_182_60, hR_182_61, fd_p_eq, fd_p_ne, fd_p_lt, fd_p_ge, fd_p_gt, fd_p_le, fd_f_iadd, fd_f_isub, fd_f_imul, fd_f_iand, fd_f_ior, fd_f_ixor, fd_f_ishl, fd_f_ishr, fd_f_iushr, fd_f_ladd, fd_f_lsub, fd_f_lmul, fd_f_lcmp, fd_f_idiv, fd_f_irem, fd_f_ldiv, fd_f_lrem, fd_f_ineg, fd_f_i2l, fd_f_l2i, fd_f_i2b, fd_f_i2s, fd_f_i2c, fd_z_idiv, fd_z_irem, fd_z_ldiv, fd_z_lrem, fd_in0, fd_sl, fd_st1, fd_st2, fd_kl, fd_vI, fd_vL, fd_vN, fd_ok1, fd_v_int, xI, xL, xR, xK, xG, yI, yL, yN, -Prod.exists, h5, c1, fd_run_of (s_X12_has _ _ _), fa_tb (show i < 31 by omega), t, nI_1]
      rw [hJ]
      refine ⟨_, by simp [sumq, t], by simp [sumq, t, k37], k36, k38, j0, j1, j2⟩
  · rw [hJ] at hs
    obtain ⟨M1, rfl, k37, k36, k38, j0, j1, j2⟩ := hs
    have h5 : M1.1 182 5 = nI w.f := by rw [j2.1 _ _ (by unfold pM; omega)]; exact hF.2.2.1
    rw [show sumq (fun i => b.testBit i) w.U w.f = w_tunes w b from rfl] at *
    rw [show sumq (fun i => b.testBit i) (fun i => if w_half S = true then w.B i / 2 else w.B i) w.f = w_paid w b (w_half S) from rfl] at k37
    have r1 : M1.1 c 1 = S.T := (j1 1 (by omega)).trans g1
    have r2 : M1.1 c 2 = S.C := (j1 2 (by omega)).trans g2
    have r3 : M1.1 c 3 = nI S.s := (j1 3 (by omega)).trans g3
    have r4 : M1.1 c 4 = nI S.w := (j1 4 (by omega)).trans g4
    have r5 : M1.1 c 5 = nI S.n := (j1 5 (by omega)).trans g5
    have r6 : M1.1 c 6 = nI S.pl := (j1 6 (by omega)).trans g6
    generalize w_tunes w b = tu at *
    generalize w_paid w b (w_half S) = pd at *
    by_cases c0 : w.D S.a x = 0 ∧ b = 0
    · rw [if_pos c0] at hpost
      have a1 : nI (w.D S.a x) = 0 := by rw [c0.1]; rfl
      have a2 : nI b = 0 := by rw [c0.2]; rfl
      simp [↓wp_ldn, ↓wp_b1, ↓wp_b2, ↓wp_b2z, ↓wp_gf, ↓wp_gd, ↓wp_ga, ↓wp_gl, ↓wp_al2, ↓wp_pi, ↓wp_ltr, ↓wp_ite, ↓wp_and, ↓wp_or, ↓wp_not, ↓wp_cmp, ↓wp_cmz, ↓wp_isn, ↓wp_nsn, ↓wp_a0, ↓wp_a1, ↓wp_cv, ↓wp_cs, ↓wp_dr, ↓wp_sk, ↓wp_brk, ↓wp_cnt, ↓wp_rV, ↓wp_seq, ↓wp_iff, ↓wp_sI, ↓wp_sL, ↓wp_sN, ↓wp_inc, ↓wp_do, ↓wp_rI, ↓wp_rL, ↓wp_rN, ↓wp_rZ, ↓wp_pf, ↓wp_pz, ↓wp_pd, ↓wp_po, ↓wp_pl, ↓wp_pao, ↓wp_tsw, ↓wp_lsw, ↓wp_fn, ↓wq_ld, ↓wq_ldl, ↓wq_lda, ↓wq_c, ↓wq_gr, ↓wq_gq, ↓wq_nn, ↓wq_asI, ↓wq_asL, ↓wq_asN, ↓wq_pa, hO_182, hR_182_0, hF_182_1, hR_182_2, hF_182_3, hR_182_4, hF_182_5, hR_182_6, hR_182_7, hR_182_8, hF_182_9, hF_182_10, hF_182_11, hF_182_12, hR_182_13, hF_182_14, hR_182_15, hF_182_16, hF_182_17, hF_182_18, hF_182_19, hF_182_20, hF_182_21, hF_182_22, hR_182_23, hR_182_24, hF_182_25, hF_182_26, hR_182_27, hR_182_28, hR_182_29, hF_182_30, hF_182_31, hR_182_32, hR_182_33, hF_182_34, hR_182_35, hF_182_36, hF_182_37, hF_182_38, hF_182_39, hF_182_40, hR_182_41, hR_182_42, hR_182_43, hR_182_44, hR_182_45, hR_182_46, hF_182_47, hR_182_48, hR_182_49, hR_182_50, hR_182_51, hR_182_52, hF_182_53, hR_182_54, hR_182_55, hR_182_56, hR_182_57, hF_182_58, hR_182_59, hR_182_60, hR_182_61, fd_p_eq, fd_p_ne, fd_p_lt, fd_p_ge, fd_p_gt, fd_p_le, fd_f_iadd, fd_f_isub, fd_f_imul, fd_f_iand, fd_f_ior, fd_f_ixor, fd_f_ishl, fd_f_ishr, fd_f_iushr, fd_f_ladd, fd_f_lsub, fd_f_lmul, fd_f_lcmp, fd_f_idiv, fd_f_irem, fd_f_ldiv, fd_f_lrem, fd_f_ineg, fd_f_i2l, fd_f_l2i, fd_f_i2b, fd_f_i2s, fd_f_i2c, fd_z_idiv, fd_z_irem, fd_z_ldiv, fd_z_lrem, fd_in0, fd_sl, fd_st1, fd_st2, fd_kl, fd_vI, fd_vL, fd_vN, fd_ok1, fd_v_int, xI, xL, xR, xK, xG, yI, yL, yN, -Prod.exists, h5, lt_self, y0, y1, y2, y3, y4, y5, y6, z0, z1, z2, z3, z4, z5, z6, rd_I, nc, nc', r1, r2, r3, r4, r5, r6, j0, k37, k38, nI_add, d20, d2, e1, e2, e3, e4, a1, a2]
      refine hpost _ ?_ ?_ ?_ ?_ ?_ ?_ ?_ (fun j hj => ?_) ?_ ?_ ?_ ?_
      all_goals first | (simp [rd_I, nc, nc', r2, r3, r4, r5, r6, j0, k36, k37, k38, nI_1, fa_or, w_cl, c0.2]; done) | skip
      · simp [rd_I, nc, show ¬ j = 6 by omega, show ¬ j = 5 by omega, show ¬ j = 4 by omega, show ¬ j = 3 by omega, show ¬ j = 2 by omega, show ¬ j = 1 by omega]
        exact j1 j (by omega)
      · refine fP.tr j2 ?_
        repeat' (first | exact fP.rf | refine fP.uI ?_ (Or.inl rfl))
    · rw [if_neg c0] at hpost
      have hDm := (hw.1.2.2.2.2.2.1.1 S.a x ha hx).2.1
      have a0 : ¬ (nI (w.D S.a x) = 0 ∧ nI b = 0) := fun z => c0 ⟨(nI_eq (b := 0) (by omega) (by omega)).mp z.1, (nI_eq (b := 0) (by omega) (by omega)).mp z.2⟩
      have x2 : fd_isA 184 0 (nI x) = true := hA_184 (by omega)
      have x3 : M1.1 184 x = w.fo x := by rw [j2.1 _ _ (by unfold pM; omega)]; exact (hw.2.2.2.2 x hx).2
      have hrule : ∀ M2, fP (pM c) M M2 → fd_run m_X12_tiresBy [.ref 182, .int (nI (w.D S.a x)), .int (nI tu), .int (w.fo x), .int S.T, .int (nI S.n), .int (nI S.s)] M2 (fun v M' => v = .int (wkv w.cd (as6 (nI (w.D S.a x)) (nI tu) (w.fo x) S.T (nI S.n) (nI S.s))) ∧ ft M2 M') := fun M2 e => s_X12_tiresBy (e.wdM hc hw).2.2.2.1.2.2.2.2 _ _ _ _ _ _
      have n184 : ¬ 184 = c := by omega
      have n196 : ¬ c = 196 := by omega
      by_cases a1 : nI (w.D S.a x) = 0
      · have a2 : ¬ nI b = 0 := fun z => a0 ⟨a1, z⟩
        rw [a1] at hrule
        simp [↓wp_ldn, ↓wp_b1, ↓wp_b2, ↓wp_b2z, ↓wp_gf, ↓wp_gd, ↓wp_ga, ↓wp_gl, ↓wp_al2, ↓wp_pi, ↓wp_ltr, ↓wp_ite, ↓wp_and, ↓wp_or, ↓wp_not, ↓wp_cmp, ↓wp_cmz, ↓wp_isn, ↓wp_nsn, ↓wp_a0, ↓wp_a1, ↓wp_cv, ↓wp_cs, ↓wp_dr, ↓wp_sk, ↓wp_brk, ↓wp_cnt, ↓wp_rV, ↓wp_seq, ↓wp_iff, ↓wp_sI, ↓wp_sL, ↓wp_sN, ↓wp_inc, ↓wp_do, ↓wp_rI, ↓wp_rL, ↓wp_rN, ↓wp_rZ, ↓wp_pf, ↓wp_pz, ↓wp_pd, ↓wp_po, ↓wp_pl, ↓wp_pao, ↓wp_tsw, ↓wp_lsw, ↓wp_fn, ↓wq_ld, ↓wq_ldl, ↓wq_lda, ↓wq_c, ↓wq_gr, ↓wq_gq, ↓wq_nn, ↓wq_asI, ↓wq_asL, ↓wq_asN, ↓wq_pa, hO_182, hR_182_0, hF_182_1, hR_182_2, hF_182_3, hR_182_4, hF_182_5, hR_182_6, hR_182_7, hR_182_8, hF_182_9, hF_182_10, hF_182_11, hF_182_12, hR_182_13, hF_182_14, hR_182_15, hF_182_16, hF_182_17, hF_182_18, hF_182_19, hF_182_20, hF_182_21, hF_182_22, hR_182_23, hR_182_24, hF_182_25, hF_182_26, hR_182_27, hR_182_28, hR_182_29, hF_182_30, hF_182_31, hR_182_32, hR_182_33, hF_182_34, hR_182_35, hF_182_36, hF_182_37, hF_182_38, hF_182_39, hF_182_40, hR_182_41, hR_182_42, hR_182_43, hR_182_44, hR_182_45, hR_182_46, hF_182_47, hR_182_48, hR_182_49, hR_182_50, hR_182_51, hR_182_52, hF_182_53, hR_182_54, hR_182_55, hR_182_56, hR_182_57, hF_182_58, hR_182_59, hR_182_60, hR_182_61, fd_p_eq, fd_p_ne, fd_p_lt, fd_p_ge, fd_p_gt, fd_p_le, fd_f_iadd, fd_f_isub, fd_f_imul, fd_f_iand, fd_f_ior, fd_f_ixor, fd_f_ishl, fd_f_ishr, fd_f_iushr, fd_f_ladd, fd_f_lsub, fd_f_lmul, fd_f_lcmp, fd_f_idiv, fd_f_irem, fd_f_ldiv, fd_f_lrem, fd_f_ineg, fd_f_i2l, fd_f_l2i, fd_f_i2b, fd_f_i2s, fd_f_i2c, fd_z_idiv, fd_z_irem, fd_z_ldiv, fd_z_lrem, fd_in0, fd_sl, fd_st1, fd_st2, fd_kl, fd_vI, fd_vL, fd_vN, fd_ok1, fd_v_int, xI, xL, xR, xK, xG, yI, yL, yN, -Prod.exists, h5, lt_self, y0, y1, y2, y3, y4, y5, y6, z0, z1, z2, z3, z4, z5, z6, rd_I, nc, nc', r1, r2, r3, r4, r5, r6, j0, k37, k38, nI_add, d20, d2, e1, e2, e3, e4, a1, a2, x2, x3, n184, nI_clamp (show x < 2 ^ 31 by omega)]
        refine fd_run_mono (hrule _ ?_) (fun v M2 h => ?_)
        · refine fP.tr j2 ?_
          repeat' (first | exact fP.rf | refine fP.uI ?_ (Or.inl rfl))
        obtain ⟨rfl, h⟩ := h
        have e : ∀ j, M2.1 c j = _ := fun j => h.1 c j n196 (Or.inl nc)
        have u36 : M2.1 182 36 = _ := h.1 182 36 (by decide) (by decide)
        have u37 : M2.1 182 37 = _ := h.1 182 37 (by decide) (by decide)
        have u38 : M2.1 182 38 = _ := h.1 182 38 (by decide) (by decide)
        simp [↓wp_ldn, ↓wp_b1, ↓wp_b2, ↓wp_b2z, ↓wp_gf, ↓wp_gd, ↓wp_ga, ↓wp_gl, ↓wp_al2, ↓wp_pi, ↓wp_ltr, ↓wp_ite, ↓wp_and, ↓wp_or, ↓wp_not, ↓wp_cmp, ↓wp_cmz, ↓wp_isn, ↓wp_nsn, ↓wp_a0, ↓wp_a1, ↓wp_cv, ↓wp_cs, ↓wp_dr, ↓wp_sk, ↓wp_brk, ↓wp_cnt, ↓wp_rV, ↓wp_seq, ↓wp_iff, ↓wp_sI, ↓wp_sL, ↓wp_sN, ↓wp_inc, ↓wp_do, ↓wp_rI, ↓wp_rL, ↓wp_rN, ↓wp_rZ, ↓wp_pf, ↓wp_pz, ↓wp_pd, ↓wp_po, ↓wp_pl, ↓wp_pao, ↓wp_tsw, ↓wp_lsw, ↓wp_fn, ↓wq_ld, ↓wq_ldl, ↓wq_lda, ↓wq_c, ↓wq_gr, ↓wq_gq, ↓wq_nn, ↓wq_asI, ↓wq_asL, ↓wq_asN, ↓wq_pa, hO_182, hR_182_0, hF_182_1, hR_182_2, hF_182_3, hR_182_4, hF_182_5, hR_182_6, hR_182_7, hR_182_8, hF_182_9, hF_182_10, hF_182_11, hF_182_12, hR_182_13, hF_182_14, hR_182_15, hF_182_16, hF_182_17, hF_182_18, hF_182_19, hF_182_20, hF_182_21, hF_182_22, hR_182_23, hR_182_24, hF_182_25, hF_182_26, hR_182_27, hR_182_28, hR_182_29, hF_182_30, hF_182_31, hR_182_32, hR_182_33, hF_182_34, hR_182_35, hF_182_36, hF_182_37, hF_182_38, hF_182_39, hF_182_40, hR_182_41, hR_182_42, hR_182_43, hR_182_44, hR_182_45, hR_182_46, hF_182_47, hR_182_48, hR_182_49, hR_182_50, hR_182_51, hR_182_52, hF_182_53, hR_182_54, hR_182_55, hR_182_56, hR_182_57, hF_182_58, hR_182_59, hR_182_60, hR_182_61, fd_p_eq, fd_p_ne, fd_p_lt, fd_p_ge, fd_p_gt, fd_p_le, fd_f_iadd, fd_f_isub, fd_f_imul, fd_f_iand, fd_f_ior, fd_f_ixor, fd_f_ishl, fd_f_ishr, fd_f_iushr, fd_f_ladd, fd_f_lsub, fd_f_lmul, fd_f_lcmp, fd_f_idiv, fd_f_irem, fd_f_ldiv, fd_f_lrem, fd_f_ineg, fd_f_i2l, fd_f_l2i, fd_f_i2b, fd_f_i2s, fd_f_i2c, fd_z_idiv, fd_z_irem, fd_z_ldiv, fd_z_lrem, fd_in0, fd_sl, fd_st1, fd_st2, fd_kl, fd_vI, fd_vL, fd_vN, fd_ok1, fd_v_int, xI, xL, xR, xK, xG, yI, yL, yN, -Prod.exists, y1, y5, z1, z5, rd_I]
        refine hpost _ ?_ ?_ ?_ ?_ ?_ ?_ ?_ (fun j hj => ?_) ?_ ?_ ?_ ?_
        all_goals first | (simp [rd_I, nc, nc', e, u36, u37, u38, r2, r3, r4, r5, r6, j0, k36, k37, k38, nI_1, fa_or, w_cl, a1]; done) | skip
        · simp [rd_I, nc, e, show ¬ j = 6 by omega, show ¬ j = 5 by omega, show ¬ j = 4 by omega, show ¬ j = 3 by omega, show ¬ j = 2 by omega, show ¬ j = 1 by omega]
          exact j1 j (by omega)
        · refine fP.uI (fP.uI (fP.tr j2 (fP.tr (M' := _) ?_ (ftP h))) (Or.inl rfl)) (Or.inl rfl)
          repeat' (first | exact fP.rf | refine fP.uI ?_ (Or.inl rfl))
      · simp [↓wp_ldn, ↓wp_b1, ↓wp_b2, ↓wp_b2z, ↓wp_gf, ↓wp_gd, ↓wp_ga, ↓wp_gl, ↓wp_al2, ↓wp_pi, ↓wp_ltr, ↓wp_ite, ↓wp_and, ↓wp_or, ↓wp_not, ↓wp_cmp, ↓wp_cmz, ↓wp_isn, ↓wp_nsn, ↓wp_a0, ↓wp_a1, ↓wp_cv, ↓wp_cs, ↓wp_dr, ↓wp_sk, ↓wp_brk, ↓wp_cnt, ↓wp_rV, ↓wp_seq, ↓wp_iff, ↓wp_sI, ↓wp_sL, ↓wp_sN, ↓wp_inc, ↓wp_do, ↓wp_rI, ↓wp_rL, ↓wp_rN, ↓wp_rZ, ↓wp_pf, ↓wp_pz, ↓wp_pd, ↓wp_po, ↓wp_pl, ↓wp_pao, ↓wp_tsw, ↓wp_lsw, ↓wp_fn, ↓wq_ld, ↓wq_ldl, ↓wq_lda, ↓wq_c, ↓wq_gr, ↓wq_gq, ↓wq_nn, ↓wq_asI, ↓wq_asL, ↓wq_asN, ↓wq_pa, hO_182, hR_182_0, hF_182_1, hR_182_2, hF_182_3, hR_182_4, hF_182_5, hR_182_6, hR_182_7, hR_182_8, hF_182_9, hF_182_10, hF_182_11, hF_182_12, hR_182_13, hF_182_14, hR_182_15, hF_182_16, hF_182_17, hF_182_18, hF_182_19, hF_182_20, hF_182_21, hF_182_22, hR_182_23, hR_182_24, hF_182_25, hF_182_26, hR_182_27, hR_182_28, hR_182_29, hF_182_30, hF_182_31, hR_182_32, hR_182_33, hF_182_34, hR_182_35, hF_182_36, hF_182_37, hF_182_38, hF_182_39, hF_182_40, hR_182_41, hR_182_42, hR_182_43, hR_182_44, hR_182_45, hR_182_46, hF_182_47, hR_182_48, hR_182_49, hR_182_50, hR_182_51, hR_182_52, hF_182_53, hR_182_54, hR_182_55, hR_182_56, hR_182_57, hF_182_58, hR_182_59, hR_182_60, hR_182_61, fd_p_eq, fd_p_ne, fd_p_lt, fd_p_ge, fd_p_gt, fd_p_le, fd_f_iadd, fd_f_isub, fd_f_imul, fd_f_iand, fd_f_ior, fd_f_ixor, fd_f_ishl, fd_f_ishr, fd_f_iushr, fd_f_ladd, fd_f_lsub, fd_f_lmul, fd_f_lcmp, fd_f_idiv, fd_f_irem, fd_f_ldiv, fd_f_lrem, fd_f_ineg, fd_f_i2l, fd_f_l2i, fd_f_i2b, fd_f_i2s, fd_f_i2c, fd_z_idiv, fd_z_irem, fd_z_ldiv, fd_z_lrem, fd_in0, fd_sl, fd_st1, fd_st2, fd_kl, fd_vI, fd_vL, fd_vN, fd_ok1, fd_v_int, xI, xL, xR, xK, xG, yI, yL, yN, -Prod.exists, h5, lt_self, y0, y1, y2, y3, y4, y5, y6, z0, z1, z2, z3, z4, z5, z6, rd_I, nc, nc', r1, r2, r3, r4, r5, r6, j0, k37, k38, nI_add, d20, d2, e1, e2, e3, e4, a1, x2, x3, n184, nI_clamp (show x < 2 ^ 31 by omega)]
        refine fd_run_mono (hrule _ ?_) (fun v M2 h => ?_)
        · refine fP.tr j2 ?_
          repeat' (first | exact fP.rf | refine fP.uI ?_ (Or.inl rfl))
        obtain ⟨rfl, h⟩ := h
        have e : ∀ j, M2.1 c j = _ := fun j => h.1 c j n196 (Or.inl nc)
        have u36 : M2.1 182 36 = _ := h.1 182 36 (by decide) (by decide)
        have u37 : M2.1 182 37 = _ := h.1 182 37 (by decide) (by decide)
        have u38 : M2.1 182 38 = _ := h.1 182 38 (by decide) (by decide)
        simp [↓wp_ldn, ↓wp_b1, ↓wp_b2, ↓wp_b2z, ↓wp_gf, ↓wp_gd, ↓wp_ga, ↓wp_gl, ↓wp_al2, ↓wp_pi, ↓wp_ltr, ↓wp_ite, ↓wp_and, ↓wp_or, ↓wp_not, ↓wp_cmp, ↓wp_cmz, ↓wp_isn, ↓wp_nsn, ↓wp_a0, ↓wp_a1, ↓wp_cv, ↓wp_cs, ↓wp_dr, ↓wp_sk, ↓wp_brk, ↓wp_cnt, ↓wp_rV, ↓wp_seq, ↓wp_iff, ↓wp_sI, ↓wp_sL, ↓wp_sN, ↓wp_inc, ↓wp_do, ↓wp_rI, ↓wp_rL, ↓wp_rN, ↓wp_rZ, ↓wp_pf, ↓wp_pz, ↓wp_pd, ↓wp_po, ↓wp_pl, ↓wp_pao, ↓wp_tsw, ↓wp_lsw, ↓wp_fn, ↓wq_ld, ↓wq_ldl, ↓wq_lda, ↓wq_c, ↓wq_gr, ↓wq_gq, ↓wq_nn, ↓wq_asI, ↓wq_asL, ↓wq_asN, ↓wq_pa, hO_182, hR_182_0, hF_182_1, hR_182_2, hF_182_3, hR_182_4, hF_182_5, hR_182_6, hR_182_7, hR_182_8, hF_182_9, hF_182_10, hF_182_11, hF_182_12, hR_182_13, hF_182_14, hR_182_15, hF_182_16, hF_182_17, hF_182_18, hF_182_19, hF_182_20, hF_182_21, hF_182_22, hR_182_23, hR_182_24, hF_182_25, hF_182_26, hR_182_27, hR_182_28, hR_182_29, hF_182_30, hF_182_31, hR_182_32, hR_182_33, hF_182_34, hR_182_35, hF_182_36, hF_182_37, hF_182_38, hF_182_39, hF_182_40, hR_182_41, hR_182_42, hR_182_43, hR_182_44, hR_182_45, hR_182_46, hF_182_47, hR_182_48, hR_182_49, hR_182_50, hR_182_51, hR_182_52, hF_182_53, hR_182_54, hR_182_55, hR_182_56, hR_182_57, hF_182_58, hR_182_59, hR_182_60, hR_182_61, fd_p_eq, fd_p_ne, fd_p_lt, fd_p_ge, fd_p_gt, fd_p_le, fd_f_iadd, fd_f_isub, fd_f_imul, fd_f_iand, fd_f_ior, fd_f_ixor, fd_f_ishl, fd_f_ishr, fd_f_iushr, fd_f_ladd, fd_f_lsub, fd_f_lmul, fd_f_lcmp, fd_f_idiv, fd_f_irem, fd_f_ldiv, fd_f_lrem, fd_f_ineg, fd_f_i2l, fd_f_l2i, fd_f_i2b, fd_f_i2s, fd_f_i2c, fd_z_idiv, fd_z_irem, fd_z_ldiv, fd_z_lrem, fd_in0, fd_sl, fd_st1, fd_st2, fd_kl, fd_vI, fd_vL, fd_vN, fd_ok1, fd_v_int, xI, xL, xR, xK, xG, yI, yL, yN, -Prod.exists, y1, y5, z1, z5, rd_I]
        refine hpost _ ?_ ?_ ?_ ?_ ?_ ?_ ?_ (fun j hj => ?_) ?_ ?_ ?_ ?_
        all_goals first | (simp [rd_I, nc, nc', e, u36, u37, u38, r2, r3, r4, r5, r6, j0, k36, k37, k38, nI_1, fa_or, w_cl]; done) | skip
        · simp [rd_I, nc, e, show ¬ j = 6 by omega, show ¬ j = 5 by omega, show ¬ j = 4 by omega, show ¬ j = 3 by omega, show ¬ j = 2 by omega, show ¬ j = 1 by omega]
          exact j1 j (by omega)
        · refine fP.uI (fP.uI (fP.tr j2 (fP.tr (M' := _) ?_ (ftP h))) (Or.inl rfl)) (Or.inl rfl)
          repeat' (first | exact fP.rf | refine fP.uI ?_ (Or.inl rfl))
