-- FILE 95y.feasts
/-! ===== the call feasts ===== -/
theorem s_X5_forgetAll (M : fd_M) : m_X5_forgetAll [.ref 48] M = some (fd_jk, fd_uI (fd_uI (fd_uI M 48 2 0) 51 0 0) 51 1 0) := by
  apply fd_of_run
  unfold m_X5_forgetAll b_X5_forgetAll
  simp [↓wp_ldn, ↓wp_b1, ↓wp_b2, ↓wp_b2z, ↓wp_gf, ↓wp_gd, ↓wp_ga, ↓wp_gl, ↓wp_al2, ↓wp_pi, ↓wp_ltr, ↓wp_ite, ↓wp_and, ↓wp_or, ↓wp_not, ↓wp_cmp, ↓wp_cmz, ↓wp_isn, ↓wp_nsn, ↓wp_a0, ↓wp_a1, ↓wp_cv, ↓wp_cs, ↓wp_dr, ↓wp_sk, ↓wp_brk, ↓wp_cnt, ↓wp_rV, ↓wp_seq, ↓wp_iff, ↓wp_sI, ↓wp_sL, ↓wp_sN, ↓wp_inc, ↓wp_do, ↓wp_rI, ↓wp_rL, ↓wp_rN, ↓wp_rZ, ↓wp_pf, ↓wp_pz, ↓wp_pd, ↓wp_po, ↓wp_pl, ↓wp_pao, ↓wp_tsw, ↓wp_lsw, ↓wp_fn, ↓wq_ld, ↓wq_ldl, ↓wq_lda, ↓wq_c, ↓wq_gr, ↓wq_gq, ↓wq_nn, ↓wq_asI, ↓wq_asL, ↓wq_asN, ↓wq_pa, hO_0, hR_0_0, hR_0_1, hR_0_2, hR_0_3, hR_0_4, hR_0_5, hR_0_6, hR_0_7, hR_0_8, hR_0_9, hR_0_10, hR_0_11, hF_0_12, hO_1, hR_1_0, hF_1_1, hF_1_2, hF_1_3, hO_3, hR_3_0, hF_3_1, hO_5, hF_5_0, hF_5_1, hR_5_2, hR_5_3, hR_5_4, hR_5_5, hR_5_6, hR_5_7, hF_5_8, hF_5_9, hO_30, hF_30_0, hF_30_1, hF_30_2, hF_30_3, hO_31, hF_31_0, hF_31_1, hR_31_2, hR_31_3, hR_31_4, hO_35, hR_35_0, hF_35_1, hR_35_2, hF_35_3, hR_35_4, hF_35_5, hF_35_6, hR_35_7, hF_35_8, hR_35_9, hR_35_10, hO_42, hO_45, hO_48, hR_48_0, hF_48_1, hF_48_2, hR_48_3, hR_48_4, hO_94, hR_94_0, hR_94_1, hO_97, hF_97_0, hF_97_1, hF_97_2, hF_97_3, hR_97_4, hR_97_5, hR_97_6, hR_97_7, hR_97_8, hR_97_9, hR_97_10, hR_97_11, hF_97_12, hO_156, hF_156_0, hR_156_1, hR_156_2, hR_156_3, hR_156_4, hR_156_5, hR_156_6, hR_156_7, hR_156_8, fd_p_eq, fd_p_ne, fd_p_lt, fd_p_ge, fd_p_gt, fd_p_le, fd_f_iadd, fd_f_isub, fd_f_imul, fd_f_iand, fd_f_ior, fd_f_ixor, fd_f_ishl, fd_f_ishr, fd_f_iushr, fd_f_ladd, fd_f_lsub, fd_f_lmul, fd_f_lcmp, fd_f_idiv, fd_f_irem, fd_f_ldiv, fd_f_lrem, fd_f_ineg, fd_f_i2l, fd_f_l2i, fd_f_i2b, fd_f_i2s, fd_f_i2c, fd_z_idiv, fd_z_irem, fd_z_ldiv, fd_z_lrem, fd_in0, fd_sl, fd_st1, fd_st2, fd_kl, fd_vI, fd_vL, fd_vN, fd_ok1, fd_v_int, xI, xL, xR, xK, xG, yI, yL, yN, -Prod.exists]
  refine wp_for 2 (fun k σ => (k = 0 ∧ σ = ([.ref 48, .int (nI 0)], fd_uI M 48 2 0)) ∨ (k = 1 ∧ σ = ([.ref 48, .int (nI 1)], fd_uI (fd_uI M 48 2 0) 51 0 0)) ∨ (k = 2 ∧ σ = ([.ref 48, .int (nI 2)], fd_uI (fd_uI (fd_uI M 48 2 0) 51 0 0) 51 1 0))) (fd_fu_lt (by omega)) (Nat.zero_le _) (Or.inl ⟨rfl, rfl⟩) (fun k σ hk hs => ?_) (fun σ hs => ?_)
  · rcases hs with ⟨rfl, rfl⟩ | ⟨rfl, rfl⟩ | ⟨rfl, rfl⟩
    · have b : nI 0 < 2 := by decide
      simp [↓wp_ldn, ↓wp_b1, ↓wp_b2, ↓wp_b2z, ↓wp_gf, ↓wp_gd, ↓wp_ga, ↓wp_gl, ↓wp_al2, ↓wp_pi, ↓wp_ltr, ↓wp_ite, ↓wp_and, ↓wp_or, ↓wp_not, ↓wp_cmp, ↓wp_cmz, ↓wp_isn, ↓wp_nsn, ↓wp_a0, ↓wp_a1, ↓wp_cv, ↓wp_cs, ↓wp_dr, ↓wp_sk, ↓wp_brk, ↓wp_cnt, ↓wp_rV, ↓wp_seq, ↓wp_iff, ↓wp_sI, ↓wp_sL, ↓wp_sN, ↓wp_inc, ↓wp_do, ↓wp_rI, ↓wp_rL, ↓wp_rN, ↓wp_rZ, ↓wp_pf, ↓wp_pz, ↓wp_pd, ↓wp_po, ↓wp_pl, ↓wp_pao, ↓wp_tsw, ↓wp_lsw, ↓wp_fn, ↓wq_ld, ↓wq_ldl, ↓wq_lda, ↓wq_c, ↓wq_gr, ↓wq_gq, ↓wq_nn, ↓wq_asI, ↓wq_asL, ↓wq_asN, ↓wq_pa, hO_0, hR_0_0, hR_0_1, hR_0_2, hR_0_3, hR_0_4, hR_0_5, hR_0_6, hR_0_7, hR_0_8, hR_0_9, hR_0_10, hR_0_11, hF_0_12, hO_1, hR_1_0, hF_1_1, hF_1_2, hF_1_3, hO_3, hR_3_0, hF_3_1, hO_5, hF_5_0, hF_5_1, hR_5_2, hR_5_3, hR_5_4, hR_5_5, hR_5_6, hR_5_7, hF_5_8, hF_5_9, hO_30, hF_30_0, hF_30_1, hF_30_2, hF_30_3, hO_31, hF_31_0, hF_31_1, hR_31_2, hR_31_3, hR_31_4, hO_35, hR_35_0, hF_35_1, hR_35_2, hF_35_3, hR_35_4, hF_35_5, hF_35_6, hR_35_7, hF_35_8, hR_35_9, hR_35_10, hO_42, hO_45, hO_48, hR_48_0, hF_48_1, hF_48_2, hR_48_3, hR_48_4, hO_94, hR_94_0, hR_94_1, hO_97, hF_97_0, hF_97_1, hF_97_2, hF_97_3, hR_97_4, hR_97_5, hR_97_6, hR_97_7, hR_97_8, hR_97_9, hR_97_10, hR_97_11, hF_97_12, hO_156, hF_156_0, hR_156_1, hR_156_2, hR_156_3, hR_156_4, hR_156_5, hR_156_6, hR_156_7, hR_156_8, fd_p_eq, fd_p_ne, fd_p_lt, fd_p_ge, fd_p_gt, fd_p_le, fd_f_iadd, fd_f_isub, fd_f_imul, fd_f_iand, fd_f_ior, fd_f_ixor, fd_f_ishl, fd_f_ishr, fd_f_iushr, fd_f_ladd, fd_f_lsub, fd_f_lmul, fd_f_lcmp, fd_f_idiv, fd_f_irem, fd_f_ldiv, fd_f_lrem, fd_f_ineg, fd_f_i2l, fd_f_l2i, fd_f_i2b, fd_f_i2s, fd_f_i2c, fd_z_idiv, fd_z_irem, fd_z_ldiv, fd_z_lrem, fd_in0, fd_sl, fd_st1, fd_st2, fd_kl, fd_vI, fd_vL, fd_vN, fd_ok1, fd_v_int, xI, xL, xR, xK, xG, yI, yL, yN, -Prod.exists, b, hA_51 (show 0 < 2 by omega), nI_clamp (show 0 < 2 ^ 31 by omega), fd_v_bool, nI_1]
    · have b : nI 1 < 2 := by decide
      simp [↓wp_ldn, ↓wp_b1, ↓wp_b2, ↓wp_b2z, ↓wp_gf, ↓wp_gd, ↓wp_ga, ↓wp_gl, ↓wp_al2, ↓wp_pi, ↓wp_ltr, ↓wp_ite, ↓wp_and, ↓wp_or, ↓wp_not, ↓wp_cmp, ↓wp_cmz, ↓wp_isn, ↓wp_nsn, ↓wp_a0, ↓wp_a1, ↓wp_cv, ↓wp_cs, ↓wp_dr, ↓wp_sk, ↓wp_brk, ↓wp_cnt, ↓wp_rV, ↓wp_seq, ↓wp_iff, ↓wp_sI, ↓wp_sL, ↓wp_sN, ↓wp_inc, ↓wp_do, ↓wp_rI, ↓wp_rL, ↓wp_rN, ↓wp_rZ, ↓wp_pf, ↓wp_pz, ↓wp_pd, ↓wp_po, ↓wp_pl, ↓wp_pao, ↓wp_tsw, ↓wp_lsw, ↓wp_fn, ↓wq_ld, ↓wq_ldl, ↓wq_lda, ↓wq_c, ↓wq_gr, ↓wq_gq, ↓wq_nn, ↓wq_asI, ↓wq_asL, ↓wq_asN, ↓wq_pa, hO_0, hR_0_0, hR_0_1, hR_0_2, hR_0_3, hR_0_4, hR_0_5, hR_0_6, hR_0_7, hR_0_8, hR_0_9, hR_0_10, hR_0_11, hF_0_12, hO_1, hR_1_0, hF_1_1, hF_1_2, hF_1_3, hO_3, hR_3_0, hF_3_1, hO_5, hF_5_0, hF_5_1, hR_5_2, hR_5_3, hR_5_4, hR_5_5, hR_5_6, hR_5_7, hF_5_8, hF_5_9, hO_30, hF_30_0, hF_30_1, hF_30_2, hF_30_3, hO_31, hF_31_0, hF_31_1, hR_31_2, hR_31_3, hR_31_4, hO_35, hR_35_0, hF_35_1, hR_35_2, hF_35_3, hR_35_4, hF_35_5, hF_35_6, hR_35_7, hF_35_8, hR_35_9, hR_35_10, hO_42, hO_45, hO_48, hR_48_0, hF_48_1, hF_48_2, hR_48_3, hR_48_4, hO_94, hR_94_0, hR_94_1, hO_97, hF_97_0, hF_97_1, hF_97_2, hF_97_3, hR_97_4, hR_97_5, hR_97_6, hR_97_7, hR_97_8, hR_97_9, hR_97_10, hR_97_11, hF_97_12, hO_156, hF_156_0, hR_156_1, hR_156_2, hR_156_3, hR_156_4, hR_156_5, hR_156_6, hR_156_7, hR_156_8, fd_p_eq, fd_p_ne, fd_p_lt, fd_p_ge, fd_p_gt, fd_p_le, fd_f_iadd, fd_f_isub, fd_f_imul, fd_f_iand, fd_f_ior, fd_f_ixor, fd_f_ishl, fd_f_ishr, fd_f_iushr, fd_f_ladd, fd_f_lsub, fd_f_lmul, fd_f_lcmp, fd_f_idiv, fd_f_irem, fd_f_ldiv, fd_f_lrem, fd_f_ineg, fd_f_i2l, fd_f_l2i, fd_f_i2b, fd_f_i2s, fd_f_i2c, fd_z_idiv, fd_z_irem, fd_z_ldiv, fd_z_lrem, fd_in0, fd_sl, fd_st1, fd_st2, fd_kl, fd_vI, fd_vL, fd_vN, fd_ok1, fd_v_int, xI, xL, xR, xK, xG, yI, yL, yN, -Prod.exists, b, hA_51 (show 1 < 2 by omega), nI_clamp (show 1 < 2 ^ 31 by omega), fd_v_bool, nI_1]
    · omega
  · rcases hs with ⟨h, -⟩ | ⟨h, -⟩ | ⟨-, rfl⟩
    · omega
    · omega
    · have b : ¬ nI 2 < 2 := by decide
      have b2 : (2 : Int32) ≤ nI 2 := by decide
      simp [↓wp_ldn, ↓wp_b1, ↓wp_b2, ↓wp_b2z, ↓wp_gf, ↓wp_gd, ↓wp_ga, ↓wp_gl, ↓wp_al2, ↓wp_pi, ↓wp_ltr, ↓wp_ite, ↓wp_and, ↓wp_or, ↓wp_not, ↓wp_cmp, ↓wp_cmz, ↓wp_isn, ↓wp_nsn, ↓wp_a0, ↓wp_a1, ↓wp_cv, ↓wp_cs, ↓wp_dr, ↓wp_sk, ↓wp_brk, ↓wp_cnt, ↓wp_rV, ↓wp_seq, ↓wp_iff, ↓wp_sI, ↓wp_sL, ↓wp_sN, ↓wp_inc, ↓wp_do, ↓wp_rI, ↓wp_rL, ↓wp_rN, ↓wp_rZ, ↓wp_pf, ↓wp_pz, ↓wp_pd, ↓wp_po, ↓wp_pl, ↓wp_pao, ↓wp_tsw, ↓wp_lsw, ↓wp_fn, ↓wq_ld, ↓wq_ldl, ↓wq_lda, ↓wq_c, ↓wq_gr, ↓wq_gq, ↓wq_nn, ↓wq_asI, ↓wq_asL, ↓wq_asN, ↓wq_pa, hO_0, hR_0_0, hR_0_1, hR_0_2, hR_0_3, hR_0_4, hR_0_5, hR_0_6, hR_0_7, hR_0_8, hR_0_9, hR_0_10, hR_0_11, hF_0_12, hO_1, hR_1_0, hF_1_1, hF_1_2, hF_1_3, hO_3, hR_3_0, hF_3_1, hO_5, hF_5_0, hF_5_1, hR_5_2, hR_5_3, hR_5_4, hR_5_5, hR_5_6, hR_5_7, hF_5_8, hF_5_9, hO_30, hF_30_0, hF_30_1, hF_30_2, hF_30_3, hO_31, hF_31_0, hF_31_1, hR_31_2, hR_31_3, hR_31_4, hO_35, hR_35_0, hF_35_1, hR_35_2, hF_35_3, hR_35_4, hF_35_5, hF_35_6, hR_35_7, hF_35_8, hR_35_9, hR_35_10, hO_42, hO_45, hO_48, hR_48_0, hF_48_1, hF_48_2, hR_48_3, hR_48_4, hO_94, hR_94_0, hR_94_1, hO_97, hF_97_0, hF_97_1, hF_97_2, hF_97_3, hR_97_4, hR_97_5, hR_97_6, hR_97_7, hR_97_8, hR_97_9, hR_97_10, hR_97_11, hF_97_12, hO_156, hF_156_0, hR_156_1, hR_156_2, hR_156_3, hR_156_4, hR_156_5, hR_156_6, hR_156_7, hR_156_8, fd_p_eq, fd_p_ne, fd_p_lt, fd_p_ge, fd_p_gt, fd_p_le, fd_f_iadd, fd_f_isub, fd_f_imul, fd_f_iand, fd_f_ior, fd_f_ixor, fd_f_ishl, fd_f_ishr, fd_f_iushr, fd_f_ladd, fd_f_lsub, fd_f_lmul, fd_f_lcmp, fd_f_idiv, fd_f_irem, fd_f_ldiv, fd_f_lrem, fd_f_ineg, fd_f_i2l, fd_f_l2i, fd_f_i2b, fd_f_i2s, fd_f_i2c, fd_z_idiv, fd_z_irem, fd_z_ldiv, fd_z_lrem, fd_in0, fd_sl, fd_st1, fd_st2, fd_kl, fd_vI, fd_vL, fd_vN, fd_ok1, fd_v_int, xI, xL, xR, xK, xG, yI, yL, yN, -Prod.exists, b, b2]
theorem cst.cgf {f k : Nat} {S : sto} {M M' : fd_M} (h : cst f k S M) (h1 : ∀ i, i < 7 → M'.1 k i = M.1 k i) (h2 : ∀ i, i < f → M'.1 (k + 1) i = M.1 (k + 1) i ∧ M'.1 (k + 2) i = M.1 (k + 2) i) : cst f k S M' := by
  obtain ⟨g0, g1, g2, g3, g4, g5, g6, g7⟩ := h
  refine ⟨by rw [h1 _ (by omega)]; exact g0, by rw [h1 _ (by omega)]; exact g1, by rw [h1 _ (by omega)]; exact g2, by rw [h1 _ (by omega)]; exact g3, by rw [h1 _ (by omega)]; exact g4, by rw [h1 _ (by omega)]; exact g5, by rw [h1 _ (by omega)]; exact g6, fun i hi => ?_⟩
  rw [(h2 i hi).1, (h2 i hi).2]
  exact g7 i hi
theorem neg_pos {n : Nat} (h1 : 1 ≤ n) (h : n < 1000) : (0 : Int32) < nI n := nI_lt (a := 0) (by omega) (by omega)
/-- nothing kept: the marks of the class are gone, the reference's counter went on -/
theorem iv_kept_new {v f v' f' nb : Nat} {M M' : fd_M} (h : iv_kept v f nb M) (hnb : nb < 2000000) (e58 : M'.1 182 58 = M.1 182 58 + 1) (e215 : ∀ i, M'.1 215 i = M.1 215 i) (e216 : ∀ i, M'.1 216 i = M.1 216 i) (e51 : ∀ i, i < 2 → M'.1 51 i = 0) : iv_kept v' f' (nb + 1) M' := by
  obtain ⟨cm, k1, k2, k3⟩ := h
  have e : M'.1 182 58 = nI (cm + 1) := by rw [e58, k2, nI_1]
  refine ⟨cm + 1, by omega, e, fun i hi => ?_⟩
  obtain ⟨q1, ⟨kc, q2, q3⟩, q4, q5⟩ := k3 i hi
  have ne : ¬ M'.1 216 i = M'.1 182 58 := by
    rw [e216, q3, e]
    intro z
    have := (nI_eq (by omega) (by omega)).mp z
    omega
  refine ⟨by rw [e215]; exact q1, ⟨kc, by omega, by rw [e216]; exact q3⟩, by rw [e51 i hi, if_neg (fun z => ne z.2)], fun z => ?_⟩
  rw [e51 i hi] at z
  exact absurd z (by decide)
theorem call_feasts : fd_both m_X11_feasts m_X12_feasts [] := by
  refine fd_both_of fun c M hc hI => ?_
  obtain ⟨v, f, n, R, D, A, B, U, L, H, N, a1, a2, a3, a4, a5, a6, a7, a8, a9, a10⟩ := hI
  obtain ⟨t, b1, b2, b3, b4⟩ := a1
  have hf := a4.1
  have hv := a3.1
  have ev := a3.2.1
  have ev' := a3.2.2.1
  have ef := a4.2.1
  have ef' := a4.2.2.1
  by_cases t0 : t = 0
  · subst t0
    rw [nI_0] at b2 b3
    unfold m_X11_feasts b_X11_feasts
    simp [↓wp_ldn, ↓wp_b1, ↓wp_b2, ↓wp_b2z, ↓wp_gf, ↓wp_gd, ↓wp_ga, ↓wp_gl, ↓wp_al2, ↓wp_pi, ↓wp_ltr, ↓wp_ite, ↓wp_and, ↓wp_or, ↓wp_not, ↓wp_cmp, ↓wp_cmz, ↓wp_isn, ↓wp_nsn, ↓wp_a0, ↓wp_a1, ↓wp_cv, ↓wp_cs, ↓wp_dr, ↓wp_sk, ↓wp_brk, ↓wp_cnt, ↓wp_rV, ↓wp_seq, ↓wp_iff, ↓wp_sI, ↓wp_sL, ↓wp_sN, ↓wp_inc, ↓wp_do, ↓wp_rI, ↓wp_rL, ↓wp_rN, ↓wp_rZ, ↓wp_pf, ↓wp_pz, ↓wp_pd, ↓wp_po, ↓wp_pl, ↓wp_pao, ↓wp_tsw, ↓wp_lsw, ↓wp_fn, ↓wq_ld, ↓wq_ldl, ↓wq_lda, ↓wq_c, ↓wq_gr, ↓wq_gq, ↓wq_nn, ↓wq_asI, ↓wq_asL, ↓wq_asN, ↓wq_pa, hO_0, hR_0_0, hR_0_1, hR_0_2, hR_0_3, hR_0_4, hR_0_5, hR_0_6, hR_0_7, hR_0_8, hR_0_9, hR_0_10, hR_0_11, hF_0_12, hO_1, hR_1_0, hF_1_1, hF_1_2, hF_1_3, hO_3, hR_3_0, hF_3_1, hO_5, hF_5_0, hF_5_1, hR_5_2, hR_5_3, hR_5_4, hR_5_5, hR_5_6, hR_5_7, hF_5_8, hF_5_9, hO_30, hF_30_0, hF_30_1, hF_30_2, hF_30_3, hO_31, hF_31_0, hF_31_1, hR_31_2, hR_31_3, hR_31_4, hO_35, hR_35_0, hF_35_1, hR_35_2, hF_35_3, hR_35_4, hF_35_5, hF_35_6, hR_35_7, hF_35_8, hR_35_9, hR_35_10, hO_42, hO_45, hO_48, hR_48_0, hF_48_1, hF_48_2, hR_48_3, hR_48_4, hO_94, hR_94_0, hR_94_1, hO_97, hF_97_0, hF_97_1, hF_97_2, hF_97_3, hR_97_4, hR_97_5, hR_97_6, hR_97_7, hR_97_8, hR_97_9, hR_97_10, hR_97_11, hF_97_12, hO_156, hF_156_0, hR_156_1, hR_156_2, hR_156_3, hR_156_4, hR_156_5, hR_156_6, hR_156_7, hR_156_8, fd_p_eq, fd_p_ne, fd_p_lt, fd_p_ge, fd_p_gt, fd_p_le, fd_f_iadd, fd_f_isub, fd_f_imul, fd_f_iand, fd_f_ior, fd_f_ixor, fd_f_ishl, fd_f_ishr, fd_f_iushr, fd_f_ladd, fd_f_lsub, fd_f_lmul, fd_f_lcmp, fd_f_idiv, fd_f_irem, fd_f_ldiv, fd_f_lrem, fd_f_ineg, fd_f_i2l, fd_f_l2i, fd_f_i2b, fd_f_i2s, fd_f_i2c, fd_z_idiv, fd_z_irem, fd_z_ldiv, fd_z_lrem, fd_in0, fd_sl, fd_st1, fd_st2, fd_kl, fd_vI, fd_vL, fd_vN, fd_ok1, fd_v_int, xI, xL, xR, xK, xG, yI, yL, yN, -Prod.exists, b2]
    unfold fd_bm m_X12_feasts b_X12_feasts
    simp [↓wp_ldn, ↓wp_b1, ↓wp_b2, ↓wp_b2z, ↓wp_gf, ↓wp_gd, ↓wp_ga, ↓wp_gl, ↓wp_al2, ↓wp_pi, ↓wp_ltr, ↓wp_ite, ↓wp_and, ↓wp_or, ↓wp_not, ↓wp_cmp, ↓wp_cmz, ↓wp_isn, ↓wp_nsn, ↓wp_a0, ↓wp_a1, ↓wp_cv, ↓wp_cs, ↓wp_dr, ↓wp_sk, ↓wp_brk, ↓wp_cnt, ↓wp_rV, ↓wp_seq, ↓wp_iff, ↓wp_sI, ↓wp_sL, ↓wp_sN, ↓wp_inc, ↓wp_do, ↓wp_rI, ↓wp_rL, ↓wp_rN, ↓wp_rZ, ↓wp_pf, ↓wp_pz, ↓wp_pd, ↓wp_po, ↓wp_pl, ↓wp_pao, ↓wp_tsw, ↓wp_lsw, ↓wp_fn, ↓wq_ld, ↓wq_ldl, ↓wq_lda, ↓wq_c, ↓wq_gr, ↓wq_gq, ↓wq_nn, ↓wq_asI, ↓wq_asL, ↓wq_asN, ↓wq_pa, hO_182, hR_182_0, hF_182_1, hR_182_2, hF_182_3, hR_182_4, hF_182_5, hR_182_6, hR_182_7, hR_182_8, hF_182_9, hF_182_10, hF_182_11, hF_182_12, hR_182_13, hF_182_14, hR_182_15, hF_182_16, hF_182_17, hF_182_18, hF_182_19, hF_182_20, hF_182_21, hF_182_22, hR_182_23, hR_182_24, hF_182_25, hF_182_26, hR_182_27, hR_182_28, hR_182_29, hF_182_30, hF_182_31, hR_182_32, hR_182_33, hF_182_34, hR_182_35, hF_182_36, hF_182_37, hF_182_38, hF_182_39, hF_182_40, hR_182_41, hR_182_42, hR_182_43, hR_182_44, hR_182_45, hR_182_46, hF_182_47, hR_182_48, hR_182_49, hR_182_50, hR_182_51, hR_182_52, hF_182_53, hR_182_54, hR_182_55, hR_182_56, hR_182_57, hF_182_58, hR_182_59, hR_182_60, hR_182_61, fd_p_eq, fd_p_ne, fd_p_lt, fd_p_ge, fd_p_gt, fd_p_le, fd_f_iadd, fd_f_isub, fd_f_imul, fd_f_iand, fd_f_ior, fd_f_ixor, fd_f_ishl, fd_f_ishr, fd_f_iushr, fd_f_ladd, fd_f_lsub, fd_f_lmul, fd_f_lcmp, fd_f_idiv, fd_f_irem, fd_f_ldiv, fd_f_lrem, fd_f_ineg, fd_f_i2l, fd_f_l2i, fd_f_i2b, fd_f_i2s, fd_f_i2c, fd_z_idiv, fd_z_irem, fd_z_ldiv, fd_z_lrem, fd_in0, fd_sl, fd_st1, fd_st2, fd_kl, fd_vI, fd_vL, fd_vN, fd_ok1, fd_v_int, xI, xL, xR, xK, xG, yI, yL, yN, -Prod.exists, rd_I, b3, fd_run_of (s_X12_begin _ (show 189 < 500 by decide) _ _)]
    have hs : fd_sm [0, 1] M (fd_uI (fd_uI (fd_uI (fd_uI (fd_uI (fd_uI (fd_uI M 182 17 0) 182 18 (nI 190)) 182 19 0) 182 20 76) 182 21 0) 182 22 (-1)) 182 14 0) := (by repeat' (first | exact fd_sm.rf | refine fd_sm.uI ?_ (by first | decide | (simp [cl, cl_182]; done)) | refine fd_sm.uL ?_ (by first | decide | (simp [cl, cl_182]; done))))
    refine ⟨v, f, n, R, D, A, B, U, L, H, N, ?_, iv_row_cg a2 (hs.eq (by decide)), iv_land_cg a3 (hs.eq (by decide)), iv_fairs_cg a4 (hs.eq (by decide)), iv_sky_cg a5 (hs.eq (by decide)), iv_rule_cg a6 (hs.eq (by decide)), iv_now_cg a7 a4.1 (by omega) (hs.eq (by decide)), iv_past_cg a8 a4.1 (by omega) (hs.eq (by decide)), iv_kept_cg a9 a4.1 (by omega) (hs.eq (by decide)), iv_songs_cg a10 (hs.eq (by decide))⟩
    exact ⟨0, by omega, by simp [rd_I]; exact b2, by simp [rd_I]; rfl, fun i hi => absurd hi (Nat.not_lt_zero i)⟩
  obtain ⟨ch, hch⟩ : ∃ ch : Nat → Int32, ch = fun i => M.1 189 i &&& 255 := ⟨_, rfl⟩
  have hX : ∀ i, i < t → M.1 2 i = ch i ∧ ∃ c, c < 256 ∧ ch i = nI c := fun i hi => by
    obtain ⟨c, c1, c2⟩ := b4 i hi
    have : ch i = nI c := by rw [hch]; exact c1.2.1
    exact ⟨by rw [this, c2], c, c1.1, this⟩
  have hM : ∀ i, i < t → ∃ c, by_ok (M.1 189 i) c ∧ ch i = nI c := fun i hi => by
    obtain ⟨c, c1, c2⟩ := b4 i hi
    exact ⟨c, c1, by rw [hch]; exact c1.2.1⟩
  clear hch
  obtain ⟨l, hl⟩ : ∃ l, l = min t 76 := ⟨_, rfl⟩
  obtain ⟨m, m8, hn, hz⟩ := f_ex (ch := ch) (l := l) (v := v) (f := f) (t := t) hf
  have tn0 : ¬ nI t = 0 := nI_ne0 (by omega) (by omega)
  have rcl : ∀ a j, fr_P f a j → cl a j ∈ [0, 1, 4, 7, 8, 9] := fun a j z => by
    rcases z with ⟨rfl, rfl | rfl⟩ | ⟨rfl, rfl | rfl⟩ | ⟨h | rfl | rfl, -⟩
    · simp [cl]
    · simp [cl]
    · simp [cl]
    · simp [cl]
    · rcases (show a = 32 ∨ a = 33 ∨ a = 34 by omega) with rfl | rfl | rfl <;> simp [cl]
    · simp [cl]
    · simp [cl]
  have ecl : ∀ a j, fe_P a j → cl a j ∈ [0, 1, 4, 7, 8, 9] := fun a j z => by
    rcases z with rfl | ⟨rfl, h⟩
    · simp [cl]
    · show cl_182 j ∈ _
      unfold cl_182
      repeat' split
      all_goals first | decide | omega
  have lcl : ∀ a j, fl_P f a j → cl a j ∈ [0, 1, 4, 7, 8, 9] := fun a j z => by
    rcases z with ⟨h, -⟩ | ⟨rfl, -⟩ | ⟨rfl, rfl | rfl | rfl⟩
    · rcases (show a = 186 ∨ a = 187 ∨ a = 188 by omega) with rfl | rfl | rfl <;> simp [cl]
    · simp [cl]
    · simp [cl, cl_182]
    · simp [cl, cl_182]
    · simp [cl, cl_182]
  unfold m_X11_feasts b_X11_feasts
  simp [↓wp_ldn, ↓wp_b1, ↓wp_b2, ↓wp_b2z, ↓wp_gf, ↓wp_gd, ↓wp_ga, ↓wp_gl, ↓wp_al2, ↓wp_pi, ↓wp_ltr, ↓wp_ite, ↓wp_and, ↓wp_or, ↓wp_not, ↓wp_cmp, ↓wp_cmz, ↓wp_isn, ↓wp_nsn, ↓wp_a0, ↓wp_a1, ↓wp_cv, ↓wp_cs, ↓wp_dr, ↓wp_sk, ↓wp_brk, ↓wp_cnt, ↓wp_rV, ↓wp_seq, ↓wp_iff, ↓wp_sI, ↓wp_sL, ↓wp_sN, ↓wp_inc, ↓wp_do, ↓wp_rI, ↓wp_rL, ↓wp_rN, ↓wp_rZ, ↓wp_pf, ↓wp_pz, ↓wp_pd, ↓wp_po, ↓wp_pl, ↓wp_pao, ↓wp_tsw, ↓wp_lsw, ↓wp_fn, ↓wq_ld, ↓wq_ldl, ↓wq_lda, ↓wq_c, ↓wq_gr, ↓wq_gq, ↓wq_nn, ↓wq_asI, ↓wq_asL, ↓wq_asN, ↓wq_pa, hO_0, hR_0_0, hR_0_1, hR_0_2, hR_0_3, hR_0_4, hR_0_5, hR_0_6, hR_0_7, hR_0_8, hR_0_9, hR_0_10, hR_0_11, hF_0_12, hO_1, hR_1_0, hF_1_1, hF_1_2, hF_1_3, hO_3, hR_3_0, hF_3_1, hO_5, hF_5_0, hF_5_1, hR_5_2, hR_5_3, hR_5_4, hR_5_5, hR_5_6, hR_5_7, hF_5_8, hF_5_9, hO_30, hF_30_0, hF_30_1, hF_30_2, hF_30_3, hO_31, hF_31_0, hF_31_1, hR_31_2, hR_31_3, hR_31_4, hO_35, hR_35_0, hF_35_1, hR_35_2, hF_35_3, hR_35_4, hF_35_5, hF_35_6, hR_35_7, hF_35_8, hR_35_9, hR_35_10, hO_42, hO_45, hO_48, hR_48_0, hF_48_1, hF_48_2, hR_48_3, hR_48_4, hO_94, hR_94_0, hR_94_1, hO_97, hF_97_0, hF_97_1, hF_97_2, hF_97_3, hR_97_4, hR_97_5, hR_97_6, hR_97_7, hR_97_8, hR_97_9, hR_97_10, hR_97_11, hF_97_12, hO_156, hF_156_0, hR_156_1, hR_156_2, hR_156_3, hR_156_4, hR_156_5, hR_156_6, hR_156_7, hR_156_8, fd_p_eq, fd_p_ne, fd_p_lt, fd_p_ge, fd_p_gt, fd_p_le, fd_f_iadd, fd_f_isub, fd_f_imul, fd_f_iand, fd_f_ior, fd_f_ixor, fd_f_ishl, fd_f_ishr, fd_f_iushr, fd_f_ladd, fd_f_lsub, fd_f_lmul, fd_f_lcmp, fd_f_idiv, fd_f_irem, fd_f_ldiv, fd_f_lrem, fd_f_ineg, fd_f_i2l, fd_f_l2i, fd_f_i2b, fd_f_i2s, fd_f_i2c, fd_z_idiv, fd_z_irem, fd_z_ldiv, fd_z_lrem, fd_in0, fd_sl, fd_st1, fd_st2, fd_kl, fd_vI, fd_vL, fd_vN, fd_ok1, fd_v_int, xI, xL, xR, xK, xG, yI, yL, yN, -Prod.exists, b2, tn0]
  rcases hz with ⟨z, hz⟩ | hz
  · -- something can't stand
    have zl := f_bad_le hn hz
    have neg := neg_nI (show z < 1000 by omega)
    have npos : ¬ (0 : Int32) < -1 - nI z := fun q => absurd (Int32.lt_trans q neg) (by decide)
    have npos' := Int32.not_lt.mp npos
    refine s_X1_read (g := false) b2 b1 (by omega) hX hl ev hv ef hn (Or.inl ⟨rfl, hz, rfl⟩) m8 (fun M1 f1 g1 _ => ?_)
    have g1 := g1 rfl
    simp [↓wp_ldn, ↓wp_b1, ↓wp_b2, ↓wp_b2z, ↓wp_gf, ↓wp_gd, ↓wp_ga, ↓wp_gl, ↓wp_al2, ↓wp_pi, ↓wp_ltr, ↓wp_ite, ↓wp_and, ↓wp_or, ↓wp_not, ↓wp_cmp, ↓wp_cmz, ↓wp_isn, ↓wp_nsn, ↓wp_a0, ↓wp_a1, ↓wp_cv, ↓wp_cs, ↓wp_dr, ↓wp_sk, ↓wp_brk, ↓wp_cnt, ↓wp_rV, ↓wp_seq, ↓wp_iff, ↓wp_sI, ↓wp_sL, ↓wp_sN, ↓wp_inc, ↓wp_do, ↓wp_rI, ↓wp_rL, ↓wp_rN, ↓wp_rZ, ↓wp_pf, ↓wp_pz, ↓wp_pd, ↓wp_po, ↓wp_pl, ↓wp_pao, ↓wp_tsw, ↓wp_lsw, ↓wp_fn, ↓wq_ld, ↓wq_ldl, ↓wq_lda, ↓wq_c, ↓wq_gr, ↓wq_gq, ↓wq_nn, ↓wq_asI, ↓wq_asL, ↓wq_asN, ↓wq_pa, hO_0, hR_0_0, hR_0_1, hR_0_2, hR_0_3, hR_0_4, hR_0_5, hR_0_6, hR_0_7, hR_0_8, hR_0_9, hR_0_10, hR_0_11, hF_0_12, hO_1, hR_1_0, hF_1_1, hF_1_2, hF_1_3, hO_3, hR_3_0, hF_3_1, hO_5, hF_5_0, hF_5_1, hR_5_2, hR_5_3, hR_5_4, hR_5_5, hR_5_6, hR_5_7, hF_5_8, hF_5_9, hO_30, hF_30_0, hF_30_1, hF_30_2, hF_30_3, hO_31, hF_31_0, hF_31_1, hR_31_2, hR_31_3, hR_31_4, hO_35, hR_35_0, hF_35_1, hR_35_2, hF_35_3, hR_35_4, hF_35_5, hF_35_6, hR_35_7, hF_35_8, hR_35_9, hR_35_10, hO_42, hO_45, hO_48, hR_48_0, hF_48_1, hF_48_2, hR_48_3, hR_48_4, hO_94, hR_94_0, hR_94_1, hO_97, hF_97_0, hF_97_1, hF_97_2, hF_97_3, hR_97_4, hR_97_5, hR_97_6, hR_97_7, hR_97_8, hR_97_9, hR_97_10, hR_97_11, hF_97_12, hO_156, hF_156_0, hR_156_1, hR_156_2, hR_156_3, hR_156_4, hR_156_5, hR_156_6, hR_156_7, hR_156_8, fd_p_eq, fd_p_ne, fd_p_lt, fd_p_ge, fd_p_gt, fd_p_le, fd_f_iadd, fd_f_isub, fd_f_imul, fd_f_iand, fd_f_ior, fd_f_ixor, fd_f_ishl, fd_f_ishr, fd_f_iushr, fd_f_ladd, fd_f_lsub, fd_f_lmul, fd_f_lcmp, fd_f_idiv, fd_f_irem, fd_f_ldiv, fd_f_lrem, fd_f_ineg, fd_f_i2l, fd_f_l2i, fd_f_i2b, fd_f_i2s, fd_f_i2c, fd_z_idiv, fd_z_irem, fd_z_ldiv, fd_z_lrem, fd_in0, fd_sl, fd_st1, fd_st2, fd_kl, fd_vI, fd_vL, fd_vN, fd_ok1, fd_v_int, xI, xL, xR, xK, xG, yI, yL, yN, -Prod.exists, fd_run_of (s_X7_clear _), npos, npos']
    have s1 : fd_sm [0, 1, 4, 7, 8, 9] M (fd_uI M1 1 1 0) := (f1.sm rcl).tr (by repeat' (first | exact fd_sm.rf | refine fd_sm.uI ?_ (by first | decide | (simp [cl, cl_182]; done)) | refine fd_sm.uL ?_ (by first | decide | (simp [cl, cl_182]; done))))
    have u1 : ∀ a j, 44 < a → (fd_uI M1 1 1 0).1 a j = M.1 a j := fun a j h => by
      rw [rd_I, if_neg (by omega), f1.1 _ _ (by unfold fr_P; omega)]
    refine fe_read (g := false) (by rw [u1 _ _ (by omega)]; exact b3) b1 (by omega) (fun i hi => by rw [u1 _ _ (by omega)]; exact hM i hi) hl (by rw [u1 _ _ (by omega)]; exact ev') hv (by rw [u1 _ _ (by omega)]; exact ef') hn (Or.inl ⟨rfl, hz⟩) m8 (fun _ M2 k1 k2 => ?_) (fun q => by cases q)
    have hs : fd_sm [0, 1, 4, 7, 8, 9] M M2 := s1.tr (k1.sm ecl)
    have u2 : ∀ a j, a ≠ 1 → ¬ fr_P f a j → ¬ fe_P a j → M2.1 a j = M.1 a j := fun a j h1 h2 h3 => by
      rw [k1.1 _ _ h3, rd_I, if_neg h1, f1.1 _ _ h2]
    refine ⟨rfl, ⟨_, rfl⟩, v, f, n, R, D, A, B, U, L, H, N, ?_, iv_row_cg a2 (hs.eq (by decide)), iv_land_cg a3 (hs.eq (by decide)), ?_, iv_sky_cg a5 (hs.eq (by decide)), iv_rule_cg a6 (hs.eq (by decide)), ?_, ?_, ?_, iv_songs_cg a10 (hs.eq (by decide))⟩
    · refine ⟨0, by omega, ?_, k2, fun i hi => absurd hi (Nat.not_lt_zero i)⟩
      rw [k1.1 _ _ (by unfold fe_P; omega), rd_I, if_pos rfl, if_pos rfl]
      rfl
    · refine ⟨hf, by rw [k1.1 _ _ (by unfold fe_P; omega), rd_I, if_neg (by omega)]; exact g1, by rw [u2 _ _ (by omega) (by unfold fr_P; omega) (by unfold fe_P; omega)]; exact ef', fun i hi => ?_⟩
      rw [u2 32 i (by omega) (by unfold fr_P; omega) (by unfold fe_P; omega), u2 33 i (by omega) (by unfold fr_P; omega) (by unfold fe_P; omega), u2 34 i (by omega) (by unfold fr_P; omega) (by unfold fe_P; omega), u2 186 i (by omega) (by unfold fr_P; omega) (by unfold fe_P; omega), u2 187 i (by omega) (by unfold fr_P; omega) (by unfold fe_P; omega), u2 188 i (by omega) (by unfold fr_P; omega) (by unfold fe_P; omega)]
      exact a4.2.2.2 i hi
    · obtain ⟨S, sk, sc, sm⟩ := a7
      exact ⟨S, sk.up (by omega), sc.cgf (fun i _ => u2 _ _ (by omega) (by unfold fr_P; omega) (by unfold fe_P; omega)) (fun i hi => ⟨u2 _ _ (by omega) (by unfold fr_P; omega) (by unfold fe_P; omega), u2 _ _ (by omega) (by unfold fr_P; omega) (by unfold fe_P; omega)⟩), sm.cg hf (fun j _ => u2 _ _ (by omega) (by unfold fr_P; omega) (by unfold fe_P; omega))⟩
    · obtain ⟨fi, np, P, pp, pq⟩ := iv_past_of a8
      exact iv_past_mk (pp.cg hf (by omega) (fun a j h => u2 _ _ (by omega) (by unfold fr_P; omega) (by unfold fe_P; omega))) (pq.cg hf (fun j => u2 _ _ (by omega) (by unfold fr_P; omega) (by unfold fe_P; omega)) (u2 _ _ (by omega) (by unfold fr_P; omega) (by unfold fe_P; omega)))
    · obtain ⟨cm, k1', k2', k3'⟩ := a9
      refine ⟨cm, by omega, by rw [u2 _ _ (by omega) (by unfold fr_P; omega) (by unfold fe_P; omega)]; exact k2', fun i hi => ?_⟩
      obtain ⟨q1, q2, q3, q4⟩ := k3' i hi
      rw [u2 215 _ (by omega) (by unfold fr_P; omega) (by unfold fe_P; omega), u2 216 _ (by omega) (by unfold fr_P; omega) (by unfold fe_P; omega), u2 51 _ (by omega) (by unfold fr_P; omega) (by unfold fe_P; omega), u2 182 58 (by omega) (by unfold fr_P; omega) (by unfold fe_P; omega)]
      exact ⟨q1, q2, q3, fun z => iv_st_cg (q4 z) (by omega) hf (fun j _ => u2 _ _ (by omega) (by unfold fr_P; omega) (by unfold fe_P; omega)) (fun j _ => u2 _ _ (by omega) (by unfold fr_P; omega) (by unfold fe_P; omega)) (fun j _ => u2 _ _ (by omega) (by unfold fr_P; omega) (by unfold fe_P; omega)) (fun j _ => u2 _ _ (by omega) (by unfold fr_P; omega) (by unfold fe_P; omega))⟩
  · -- all is told
    have pos := neg_pos (n := m + 1) (by omega) (by omega)
    have LF : ∀ i, i < m + 1 → f_ok ch l v (f_p ch l i) := fun i hi => by
      by_cases e : i = m
      · rw [e]; exact hz.2.1
      · exact (hn i (by omega)).2.1
    refine s_X1_read (z := 0) (g := true) b2 b1 (by omega) hX hl ev hv ef hn (Or.inr ⟨rfl, hz, rfl⟩) m8 (fun M1 f1 _ g1 => ?_)
    obtain ⟨g1, g2⟩ := g1 rfl
    simp [↓wp_ldn, ↓wp_b1, ↓wp_b2, ↓wp_b2z, ↓wp_gf, ↓wp_gd, ↓wp_ga, ↓wp_gl, ↓wp_al2, ↓wp_pi, ↓wp_ltr, ↓wp_ite, ↓wp_and, ↓wp_or, ↓wp_not, ↓wp_cmp, ↓wp_cmz, ↓wp_isn, ↓wp_nsn, ↓wp_a0, ↓wp_a1, ↓wp_cv, ↓wp_cs, ↓wp_dr, ↓wp_sk, ↓wp_brk, ↓wp_cnt, ↓wp_rV, ↓wp_seq, ↓wp_iff, ↓wp_sI, ↓wp_sL, ↓wp_sN, ↓wp_inc, ↓wp_do, ↓wp_rI, ↓wp_rL, ↓wp_rN, ↓wp_rZ, ↓wp_pf, ↓wp_pz, ↓wp_pd, ↓wp_po, ↓wp_pl, ↓wp_pao, ↓wp_tsw, ↓wp_lsw, ↓wp_fn, ↓wq_ld, ↓wq_ldl, ↓wq_lda, ↓wq_c, ↓wq_gr, ↓wq_gq, ↓wq_nn, ↓wq_asI, ↓wq_asL, ↓wq_asN, ↓wq_pa, hO_0, hR_0_0, hR_0_1, hR_0_2, hR_0_3, hR_0_4, hR_0_5, hR_0_6, hR_0_7, hR_0_8, hR_0_9, hR_0_10, hR_0_11, hF_0_12, hO_1, hR_1_0, hF_1_1, hF_1_2, hF_1_3, hO_3, hR_3_0, hF_3_1, hO_5, hF_5_0, hF_5_1, hR_5_2, hR_5_3, hR_5_4, hR_5_5, hR_5_6, hR_5_7, hF_5_8, hF_5_9, hO_30, hF_30_0, hF_30_1, hF_30_2, hF_30_3, hO_31, hF_31_0, hF_31_1, hR_31_2, hR_31_3, hR_31_4, hO_35, hR_35_0, hF_35_1, hR_35_2, hF_35_3, hR_35_4, hF_35_5, hF_35_6, hR_35_7, hF_35_8, hR_35_9, hR_35_10, hO_42, hO_45, hO_48, hR_48_0, hF_48_1, hF_48_2, hR_48_3, hR_48_4, hO_94, hR_94_0, hR_94_1, hO_97, hF_97_0, hF_97_1, hF_97_2, hF_97_3, hR_97_4, hR_97_5, hR_97_6, hR_97_7, hR_97_8, hR_97_9, hR_97_10, hR_97_11, hF_97_12, hO_156, hF_156_0, hR_156_1, hR_156_2, hR_156_3, hR_156_4, hR_156_5, hR_156_6, hR_156_7, hR_156_8, fd_p_eq, fd_p_ne, fd_p_lt, fd_p_ge, fd_p_gt, fd_p_le, fd_f_iadd, fd_f_isub, fd_f_imul, fd_f_iand, fd_f_ior, fd_f_ixor, fd_f_ishl, fd_f_ishr, fd_f_iushr, fd_f_ladd, fd_f_lsub, fd_f_lmul, fd_f_lcmp, fd_f_idiv, fd_f_irem, fd_f_ldiv, fd_f_lrem, fd_f_ineg, fd_f_i2l, fd_f_l2i, fd_f_i2b, fd_f_i2s, fd_f_i2c, fd_z_idiv, fd_z_irem, fd_z_ldiv, fd_z_lrem, fd_in0, fd_sl, fd_st1, fd_st2, fd_kl, fd_vI, fd_vL, fd_vN, fd_ok1, fd_v_int, xI, xL, xR, xK, xG, yI, yL, yN, -Prod.exists, fd_run_of (s_X7_clear _), pos, fd_run_of (s_X5_forgetAll _)]
    generalize hM2 : fd_uI (fd_uI (fd_uI (fd_uI M1 1 1 0) 48 2 0) 51 0 0) 51 1 0 = M2
    have s2 : fd_sm [0, 1, 4, 7, 8, 9] M M2 := by
      rw [← hM2]
      exact (f1.sm rcl).tr (by repeat' (first | exact fd_sm.rf | refine fd_sm.uI ?_ (by first | decide | (simp [cl, cl_182]; done)) | refine fd_sm.uL ?_ (by first | decide | (simp [cl, cl_182]; done))))
    have u2 : ∀ a j, 51 < a → M2.1 a j = M.1 a j := fun a j h => by
      rw [← hM2]
      simp [rd_I, show ¬ a = 51 by omega, show ¬ a = 48 by omega, show ¬ a = 1 by omega]
      exact f1.1 _ _ (by unfold fr_P; omega)
    have w2 : ∀ a j, a ≠ 1 → a ≠ 48 → a ≠ 51 → M2.1 a j = M1.1 a j := fun a j h1 h2 h3 => by
      rw [← hM2]
      simp [rd_I, h1, h2, h3]
    have z11 : M2.1 1 1 = 0 := by rw [← hM2]; simp [rd_I]
    have z48 : M2.1 48 2 = 0 := by rw [← hM2]; simp [rd_I]
    have z481 : M2.1 48 1 = M.1 48 1 := by rw [← hM2]; simp [rd_I]; exact f1.1 _ _ (by unfold fr_P; omega)
    have z51 : ∀ i, i < 2 → M2.1 51 i = 0 := fun i hi => by
      rw [← hM2]
      rcases (show i = 0 ∨ i = 1 by omega) with rfl | rfl <;> simp [rd_I]
    clear hM2
    obtain ⟨cm, q1, q2, q3⟩ := id a9
    refine fe_read (z := 0) (g := true) (by rw [u2 _ _ (by omega)]; exact b3) b1 (by omega) (fun i hi => by rw [u2 _ _ (by omega)]; exact hM i hi) hl (by rw [u2 _ _ (by omega)]; exact ev') hv (by rw [u2 _ _ (by omega)]; exact ef') hn (Or.inr ⟨rfl, hz⟩) m8 (fun q => by cases q) (fun _ M3 c3 k1 k2 k3 => ?_)
    have u3 : ∀ a j, ¬ fe_P a j → M3.1 a j = M2.1 a j := fun a j h => k1.1 _ _ h
    refine fe_lay (Q := fun r2 Mm => r2 = .int (nI (m + 1)) ∧ (∃ v, Value.int (nI (m + 1)) = .int v) ∧ Inv (c + 1) Mm) (cm := cm) (by rw [u3 _ _ (by unfold fe_P; omega), u2 _ _ (by omega)]; exact ef') (by have := hz.1; omega) k3 (by rw [u3 _ _ (by unfold fe_P; omega), u2 _ _ (by omega)]; exact q2) (fun M4 f4 r1 r2 r3 r4 => ?_)
    have hs : fd_sm [0, 1, 4, 7, 8, 9] M M4 := s2.tr ((k1.sm ecl).tr (f4.sm lcl))
    have u4 : ∀ a j, ¬ fl_P f a j → ¬ fe_P a j → M4.1 a j = M2.1 a j := fun a j h h2 => by rw [f4.1 _ _ h, u3 _ _ h2]
    have hF : f + (m + 1) ≤ 8 := by have := hz.1; omega
    have hch2 : ∀ i, i < l → ∃ c, c < 256 ∧ ch i = nI c := fun i hi => (hX i (by omega)).2
    refine ⟨rfl, ⟨_, rfl⟩, v, f + (m + 1), n, R, D, fun i => if i < f then A i else lv ch (f_p ch l (i - f)), fun i => if i < f then B i else f_B ch l (f_p ch l (i - f)), fun i => if i < f then U i else f_U ch l (f_p ch l (i - f)), L, H, N, ?_, iv_row_cg a2 (hs.eq (by decide)), iv_land_cg a3 (hs.eq (by decide)), ?_, iv_sky_cg a5 (hs.eq (by decide)), iv_rule_cg a6 (hs.eq (by decide)), ?_, ?_, ?_, iv_songs_cg a10 (hs.eq (by decide))⟩
    · refine ⟨0, by omega, ?_, ?_, fun i hi => absurd hi (Nat.not_lt_zero i)⟩
      · rw [u4 _ _ (by unfold fl_P; omega) (by unfold fe_P; omega)]; exact z11
      · rw [f4.1 _ _ (by unfold fl_P; omega)]; exact k2
    · refine ⟨hF, ?_, r1, fun i hi => ?_⟩
      · rw [u4 _ _ (by unfold fl_P; omega) (by unfold fe_P; omega), w2 _ _ (by omega) (by omega) (by omega), g1]
        rfl
      · by_cases e : i < f
        · simp only [if_pos e]
          rw [u4 32 i (by unfold fl_P; omega) (by unfold fe_P; omega), u4 33 i (by unfold fl_P; omega) (by unfold fe_P; omega), u4 34 i (by unfold fl_P; omega) (by unfold fe_P; omega), u4 186 i (by unfold fl_P; omega) (by unfold fe_P; omega), u4 187 i (by unfold fl_P; omega) (by unfold fe_P; omega), u4 188 i (by unfold fl_P; omega) (by unfold fe_P; omega), w2 32 i (by omega) (by omega) (by omega), w2 33 i (by omega) (by omega) (by omega), w2 34 i (by omega) (by omega) (by omega), u2 186 i (by omega), u2 187 i (by omega), u2 188 i (by omega), f1.1 32 i (by unfold fr_P; omega), f1.1 33 i (by unfold fr_P; omega), f1.1 34 i (by unfold fr_P; omega)]
          exact a4.2.2.2 i e
        · simp only [if_neg e]
          obtain ⟨k, rfl⟩ : ∃ k, i = f + k := ⟨i - f, by omega⟩
          rw [show f + k - f = k by omega]
          have ok := LF k (by omega)
          obtain ⟨y1, y2, y3, y4, y5⟩ := g2 k (by omega)
          obtain ⟨x1, x2, x3, x4, x5⟩ := r4 k (by omega)
          have lb := lv_f (by omega) ok.1
          have db := dv_f ok.2.2.2.2.2
          have nb := (nu_f hch2 (f_2 ch l (f_p ch l k) + 1)).2
          rw [u4 32 _ (by unfold fl_P; omega) (by unfold fe_P; omega), u4 33 _ (by unfold fl_P; omega) (by unfold fe_P; omega), u4 34 _ (by unfold fl_P; omega) (by unfold fe_P; omega), w2 32 _ (by omega) (by omega) (by omega), w2 33 _ (by omega) (by omega) (by omega), w2 34 _ (by omega) (by omega) (by omega)]
          exact ⟨lb.2.1, nb, db.2.1, db.2.2, y1, x1, y2, x2, y3, x3⟩
    · obtain ⟨S, sk, sc, sm⟩ := a7
      obtain ⟨o1, o2, o3, o4, o5, o6⟩ := sk
      have pw : 2 ^ f ≤ 2 ^ (f + (m + 1)) := Nat.pow_le_pow_right (by decide) (by omega)
      refine ⟨sto.mk S.n S.a S.s S.pl S.w S.T S.C (fun i => if i < f then S.X i else f_X ch l (f_p ch l (i - f))) (fun i => if i < f then S.Y i else f_Y ch l (f_p ch l (i - f))), ⟨Nat.le_trans o1 (by omega), o2, o3, Nat.lt_of_lt_of_le o4 pw, o5, fun i hi => ?_⟩, ?_, ?_⟩
      · show (if i < f then S.X i else _) ≤ (if i < f then S.Y i else _) ∧ (if i < f then S.Y i else _) ≤ 99
        by_cases e : i < f
        · simp only [if_pos e]
          exact o6 i e
        · simp only [if_neg e]
          have ok := LF (i - f) (by omega)
          exact ⟨ok.2.1.2.2.2, (nu_f hch2 _).2⟩
      · obtain ⟨h0, h1, h2, h3, h4, h5, h6, h7⟩ := sc
        have x42 : ∀ j, M4.1 42 j = M.1 42 j := fun j => by
          rw [u4 _ _ (by unfold fl_P; omega) (by unfold fe_P; omega), w2 _ _ (by omega) (by omega) (by omega), f1.1 _ _ (by unfold fr_P; omega)]
        refine ⟨by rw [x42]; exact h0, by rw [x42]; exact h1, by rw [x42]; exact h2, by rw [x42]; exact h3, by rw [x42]; exact h4, by rw [x42]; exact h5, by rw [x42]; exact h6, fun i hi => ?_⟩
        show M4.1 43 i = nI (if i < f then S.X i else _) ∧ M4.1 44 i = nI (if i < f then S.Y i else _)
        rw [u4 43 i (by unfold fl_P; omega) (by unfold fe_P; omega), u4 44 i (by unfold fl_P; omega) (by unfold fe_P; omega), w2 43 i (by omega) (by omega) (by omega), w2 44 i (by omega) (by omega) (by omega)]
        by_cases e : i < f
        · simp only [if_pos e]
          rw [f1.1 43 i (by unfold fr_P; omega), f1.1 44 i (by unfold fr_P; omega)]
          exact h7 i e
        · simp only [if_neg e]
          obtain ⟨y1, y2, y3, y4, y5⟩ := g2 (i - f) (by omega)
          rw [show f + (i - f) = i by omega] at y4 y5
          exact ⟨y4, y5⟩
      · obtain ⟨h0, h1, h2, h3, h4, h5, h6, h7⟩ := sm
        have x183 : ∀ j, j < 7 → M4.1 183 (0 + j) = M.1 183 (0 + j) := fun j hj => by
          rw [u4 _ _ (by unfold fl_P; omega) (by unfold fe_P; omega), u2 _ _ (by omega)]
        refine ⟨by rw [x183 _ (by omega)]; exact h0, by rw [x183 _ (by omega)]; exact h1, by rw [x183 _ (by omega)]; exact h2, by rw [x183 _ (by omega)]; exact h3, by rw [x183 _ (by omega)]; exact h4, by rw [x183 _ (by omega)]; exact h5, by rw [x183 _ (by omega)]; exact h6, fun i hi => ?_⟩
        show M4.1 183 (0 + (7 + i)) = nI (if i < f then S.X i else _) ∧ M4.1 183 (0 + (15 + i)) = nI (if i < f then S.Y i else _)
        by_cases e : i < f
        · simp only [if_pos e]
          rw [u4 183 (0 + (7 + i)) (by unfold fl_P; omega) (by unfold fe_P; omega), u4 183 (0 + (15 + i)) (by unfold fl_P; omega) (by unfold fe_P; omega), u2 _ _ (by omega), u2 _ _ (by omega)]
          exact h7 i e
        · simp only [if_neg e]
          obtain ⟨y1, y2, y3, y4, y5⟩ := r4 (i - f) (by omega)
          rw [show f + (i - f) = i by omega] at y4 y5
          rw [Nat.zero_add, Nat.zero_add]
          exact ⟨y4, y5⟩
    · obtain ⟨fi, np, p1, p2, p3, p4, p5, p6⟩ := a8
      refine ⟨fi, 0, p1, by omega, ?_, ?_, r2, fun i hi => absurd hi (Nat.not_lt_zero i)⟩
      · rw [u4 _ _ (by unfold fl_P; omega) (by unfold fe_P; omega), z481]; exact p3
      · rw [u4 _ _ (by unfold fl_P; omega) (by unfold fe_P; omega)]; exact z48
    · have kn := iv_kept_new (v' := v) (f' := f + (m + 1)) (M' := M4) a9 (by omega) (by rw [r3, q2, nI_1]) (fun i => by rw [u4 _ _ (by unfold fl_P; omega) (by unfold fe_P; omega), u2 _ _ (by omega)]) (fun i => by rw [u4 _ _ (by unfold fl_P; omega) (by unfold fe_P; omega), u2 _ _ (by omega)]) (fun i hi => by rw [u4 _ _ (by unfold fl_P; omega) (by unfold fe_P; omega)]; exact z51 i hi)
      obtain ⟨cm', w1, w2', w3⟩ := kn
      refine ⟨cm', by omega, w2', fun i hi => ?_⟩
      obtain ⟨e1, e2, e3, e4⟩ := w3 i hi
      exact ⟨e1, e2, e3, fun z => by
        have z0 : M4.1 51 i = 0 := by rw [u4 _ _ (by unfold fl_P; omega) (by unfold fe_P; omega)]; exact z51 i hi
        rw [z0] at z
        exact absurd z (by decide)⟩
