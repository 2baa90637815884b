-- FILE 96g.hills
/-! ===== the call hills ===== -/
theorem call_hills : fd_both m_X11_hills m_X12_hills [] := by
  refine fd_both_of fun c M hc hI => ?_
  obtain ⟨v, f, n, R, D, A, B, U, L, H, N, a1, a2, a3, a4, a5, a6, a7, a8, a9, a10⟩ := hI
  obtain ⟨t, b1, b2, b3, b4⟩ := a1
  have hf := a4.1
  have hv := a3.1
  have ev := a3.2.1
  have ev' := a3.2.2.1
  have efo := a3.2.2.2.1
  obtain ⟨r, o, q, x, r24, er, er', ro, rd⟩ := a3.2.2.2.2.1
  have old : h_old v r o q x := fun k hk => by
    obtain ⟨k1, k2, k3, k4, k5, -⟩ := ro k hk
    exact ⟨k1, k2, k3, k4, k5⟩
  have rok : ∀ k, k < r → M.1 7 k = nI (o k) ∧ M.1 8 k = nI (q k) ∧ M.1 9 k = nI (x k) := fun k hk => by
    obtain ⟨k1, k2, k3, k4, k5, k6⟩ := ro k hk
    exact k6
  by_cases t0 : t = 0
  · subst t0
    rw [nI_0] at b2 b3
    unfold m_X11_hills b_X11_hills
    simp [↓wp_ldn, ↓wp_b1, ↓wp_b2, ↓wp_b2z, ↓wp_gf, ↓wp_gd, ↓wp_ga, ↓wp_gl, ↓wp_al2, ↓wp_pi, ↓wp_ltr, ↓wp_ite, ↓wp_and, ↓wp_or, ↓wp_not, ↓wp_cmp, ↓wp_cmz, ↓wp_isn, ↓wp_nsn, ↓wp_a0, ↓wp_a1, ↓wp_cv, ↓wp_cs, ↓wp_dr, ↓wp_sk, ↓wp_brk, ↓wp_cnt, ↓wp_rV, ↓wp_seq, ↓wp_iff, ↓wp_sI, ↓wp_sL, ↓wp_sN, ↓wp_inc, ↓wp_do, ↓wp_rI, ↓wp_rL, ↓wp_rN, ↓wp_rZ, ↓wp_pf, ↓wp_pz, ↓wp_pd, ↓wp_po, ↓wp_pl, ↓wp_pao, ↓wp_tsw, ↓wp_lsw, ↓wp_fn, ↓wq_ld, ↓wq_ldl, ↓wq_lda, ↓wq_c, ↓wq_gr, ↓wq_gq, ↓wq_nn, ↓wq_asI, ↓wq_asL, ↓wq_asN, ↓wq_pa, hO_0, hR_0_0, hR_0_1, hR_0_2, hR_0_3, hR_0_4, hR_0_5, hR_0_6, hR_0_7, hR_0_8, hR_0_9, hR_0_10, hR_0_11, hF_0_12, hO_1, hR_1_0, hF_1_1, hF_1_2, hF_1_3, hO_3, hR_3_0, hF_3_1, hO_5, hF_5_0, hF_5_1, hR_5_2, hR_5_3, hR_5_4, hR_5_5, hR_5_6, hR_5_7, hF_5_8, hF_5_9, hO_30, hF_30_0, hF_30_1, hF_30_2, hF_30_3, hO_31, hF_31_0, hF_31_1, hR_31_2, hR_31_3, hR_31_4, hO_35, hR_35_0, hF_35_1, hR_35_2, hF_35_3, hR_35_4, hF_35_5, hF_35_6, hR_35_7, hF_35_8, hR_35_9, hR_35_10, hO_42, hO_45, hO_48, hR_48_0, hF_48_1, hF_48_2, hR_48_3, hR_48_4, hO_94, hR_94_0, hR_94_1, hO_97, hF_97_0, hF_97_1, hF_97_2, hF_97_3, hR_97_4, hR_97_5, hR_97_6, hR_97_7, hR_97_8, hR_97_9, hR_97_10, hR_97_11, hF_97_12, hO_156, hF_156_0, hR_156_1, hR_156_2, hR_156_3, hR_156_4, hR_156_5, hR_156_6, hR_156_7, hR_156_8, fd_p_eq, fd_p_ne, fd_p_lt, fd_p_ge, fd_p_gt, fd_p_le, fd_f_iadd, fd_f_isub, fd_f_imul, fd_f_iand, fd_f_ior, fd_f_ixor, fd_f_ishl, fd_f_ishr, fd_f_iushr, fd_f_ladd, fd_f_lsub, fd_f_lmul, fd_f_lcmp, fd_f_idiv, fd_f_irem, fd_f_ldiv, fd_f_lrem, fd_f_ineg, fd_f_i2l, fd_f_l2i, fd_f_i2b, fd_f_i2s, fd_f_i2c, fd_z_idiv, fd_z_irem, fd_z_ldiv, fd_z_lrem, fd_in0, fd_sl, fd_st1, fd_st2, fd_kl, fd_vI, fd_vL, fd_vN, fd_ok1, fd_v_int, xI, xL, xR, xK, xG, yI, yL, yN, -Prod.exists, b2]
    unfold fd_bm m_X12_hills b_X12_hills
    simp [↓wp_ldn, ↓wp_b1, ↓wp_b2, ↓wp_b2z, ↓wp_gf, ↓wp_gd, ↓wp_ga, ↓wp_gl, ↓wp_al2, ↓wp_pi, ↓wp_ltr, ↓wp_ite, ↓wp_and, ↓wp_or, ↓wp_not, ↓wp_cmp, ↓wp_cmz, ↓wp_isn, ↓wp_nsn, ↓wp_a0, ↓wp_a1, ↓wp_cv, ↓wp_cs, ↓wp_dr, ↓wp_sk, ↓wp_brk, ↓wp_cnt, ↓wp_rV, ↓wp_seq, ↓wp_iff, ↓wp_sI, ↓wp_sL, ↓wp_sN, ↓wp_inc, ↓wp_do, ↓wp_rI, ↓wp_rL, ↓wp_rN, ↓wp_rZ, ↓wp_pf, ↓wp_pz, ↓wp_pd, ↓wp_po, ↓wp_pl, ↓wp_pao, ↓wp_tsw, ↓wp_lsw, ↓wp_fn, ↓wq_ld, ↓wq_ldl, ↓wq_lda, ↓wq_c, ↓wq_gr, ↓wq_gq, ↓wq_nn, ↓wq_asI, ↓wq_asL, ↓wq_asN, ↓wq_pa, hO_182, hR_182_0, hF_182_1, hR_182_2, hF_182_3, hR_182_4, hF_182_5, hR_182_6, hR_182_7, hR_182_8, hF_182_9, hF_182_10, hF_182_11, hF_182_12, hR_182_13, hF_182_14, hR_182_15, hF_182_16, hF_182_17, hF_182_18, hF_182_19, hF_182_20, hF_182_21, hF_182_22, hR_182_23, hR_182_24, hF_182_25, hF_182_26, hR_182_27, hR_182_28, hR_182_29, hF_182_30, hF_182_31, hR_182_32, hR_182_33, hF_182_34, hR_182_35, hF_182_36, hF_182_37, hF_182_38, hF_182_39, hF_182_40, hR_182_41, hR_182_42, hR_182_43, hR_182_44, hR_182_45, hR_182_46, hF_182_47, hR_182_48, hR_182_49, hR_182_50, hR_182_51, hR_182_52, hF_182_53, hR_182_54, hR_182_55, hR_182_56, hR_182_57, hF_182_58, hR_182_59, hR_182_60, hR_182_61, fd_p_eq, fd_p_ne, fd_p_lt, fd_p_ge, fd_p_gt, fd_p_le, fd_f_iadd, fd_f_isub, fd_f_imul, fd_f_iand, fd_f_ior, fd_f_ixor, fd_f_ishl, fd_f_ishr, fd_f_iushr, fd_f_ladd, fd_f_lsub, fd_f_lmul, fd_f_lcmp, fd_f_idiv, fd_f_irem, fd_f_ldiv, fd_f_lrem, fd_f_ineg, fd_f_i2l, fd_f_l2i, fd_f_i2b, fd_f_i2s, fd_f_i2c, fd_z_idiv, fd_z_irem, fd_z_ldiv, fd_z_lrem, fd_in0, fd_sl, fd_st1, fd_st2, fd_kl, fd_vI, fd_vL, fd_vN, fd_ok1, fd_v_int, xI, xL, xR, xK, xG, yI, yL, yN, -Prod.exists, rd_I, b3, fd_run_of (s_X12_begin _ (show 189 < 500 by decide) _ _)]
    have hs : fd_sm [0, 1] M (fd_uI (fd_uI (fd_uI (fd_uI (fd_uI (fd_uI (fd_uI M 182 17 0) 182 18 (nI 190)) 182 19 0) 182 20 76) 182 21 0) 182 22 (-1)) 182 14 0) := (by repeat' (first | exact fd_sm.rf | refine fd_sm.uI ?_ (by first | decide | (simp [cl, cl_182]; done)) | refine fd_sm.uL ?_ (by first | decide | (simp [cl, cl_182]; done))))
    refine ⟨v, f, n, R, D, A, B, U, L, H, N, ?_, iv_row_cg a2 (hs.eq (by decide)), iv_land_cg a3 (hs.eq (by decide)), iv_fairs_cg a4 (hs.eq (by decide)), iv_sky_cg a5 (hs.eq (by decide)), iv_rule_cg a6 (hs.eq (by decide)), iv_now_cg a7 a4.1 (by omega) (hs.eq (by decide)), iv_past_cg a8 a4.1 (by omega) (hs.eq (by decide)), iv_kept_cg a9 a4.1 (by omega) (hs.eq (by decide)), iv_songs_cg a10 (hs.eq (by decide))⟩
    exact ⟨0, by omega, by simp [rd_I]; exact b2, by simp [rd_I]; rfl, fun i hi => absurd hi (Nat.not_lt_zero i)⟩
  obtain ⟨ch, hch⟩ : ∃ ch : Nat → Int32, ch = fun i => M.1 189 i &&& 255 := ⟨_, rfl⟩
  have hX : ∀ i, i < t → M.1 2 i = ch i ∧ ∃ c, c < 256 ∧ ch i = nI c := fun i hi => by
    obtain ⟨c, c1, c2⟩ := b4 i hi
    have : ch i = nI c := by rw [hch]; exact c1.2.1
    exact ⟨by rw [this, c2], c, c1.1, this⟩
  have hM : ∀ i, i < t → ∃ c, by_ok (M.1 189 i) c ∧ ch i = nI c := fun i hi => by
    obtain ⟨c, c1, c2⟩ := b4 i hi
    exact ⟨c, c1, by rw [hch]; exact c1.2.1⟩
  clear hch
  obtain ⟨l, hl⟩ : ∃ l, l = min t 76 := ⟨_, rfl⟩
  have hch2 : ∀ i, i < l → ∃ c, c < 256 ∧ ch i = nI c := fun i hi => (hX i (by omega)).2
  obtain ⟨m, m25, hn, hz⟩ := h_ex (t := t) hch2 hv r24 (by omega)
  have tn0 : ¬ nI t = 0 := nI_ne0 (by omega) (by omega)
  have rcl : ∀ a j, hxr_P v r a j → cl a j ∈ [0, 1, 3, 8, 9] := fun a j z => by
    rcases z with (⟨rfl, rfl⟩ | ⟨rfl, rfl | rfl⟩ | ⟨rfl, -⟩ | ⟨h, -⟩) | ⟨rfl, rfl⟩
    · simp [cl]
    · simp [cl]
    · simp [cl]
    · simp [cl]
    · rcases (show a = 7 ∨ a = 8 ∨ a = 9 by omega) with rfl | rfl | rfl <;> simp [cl]
    · simp [cl]
  have ecl : ∀ a j, hi_P a j → cl a j ∈ [0, 1, 3, 8, 9] := fun a j z => by
    have z' : (a = 182 ∧ ((14 ≤ j ∧ j ≤ 26) ∧ j ≠ 16)) ∨ a = 191 ∨ a = 192 := by unfold hi_P hm_P at z; omega
    rcases z' with ⟨rfl, h⟩ | rfl | rfl
    · show cl_182 j ∈ _
      unfold cl_182
      repeat' split
      all_goals first | decide | omega
    · simp [cl]
    · simp [cl]
  have scl : ∀ a j, hs_P a j → cl a j ∈ [0, 1, 3, 8, 9] := fun a j z => by
    rcases z with ⟨rfl, rfl | rfl⟩ | h | h
    · simp [cl]
    · simp [cl]
    · rw [show a = (a - 11) + 11 by omega, (cl_ways (a := a - 11) (b := j) (by omega)).1]; simp
    · rw [show a = (a - 21) + 21 by omega, (cl_ways (a := a - 21) (b := j) (by omega)).2]; simp
  have lcl : ∀ a j, hl_P v a j → cl a j ∈ [0, 1, 3, 8, 9] := fun a j z => by
    rcases z with ⟨rfl, -⟩ | rfl | rfl | ⟨rfl, rfl | rfl | rfl | rfl⟩
    · simp [cl]
    · simp [cl]
    · simp [cl]
    · simp [cl, cl_182]
    · simp [cl, cl_182]
    · simp [cl, cl_182]
    · simp [cl, cl_182]
  unfold m_X11_hills b_X11_hills
  simp [↓wp_ldn, ↓wp_b1, ↓wp_b2, ↓wp_b2z, ↓wp_gf, ↓wp_gd, ↓wp_ga, ↓wp_gl, ↓wp_al2, ↓wp_pi, ↓wp_ltr, ↓wp_ite, ↓wp_and, ↓wp_or, ↓wp_not, ↓wp_cmp, ↓wp_cmz, ↓wp_isn, ↓wp_nsn, ↓wp_a0, ↓wp_a1, ↓wp_cv, ↓wp_cs, ↓wp_dr, ↓wp_sk, ↓wp_brk, ↓wp_cnt, ↓wp_rV, ↓wp_seq, ↓wp_iff, ↓wp_sI, ↓wp_sL, ↓wp_sN, ↓wp_inc, ↓wp_do, ↓wp_rI, ↓wp_rL, ↓wp_rN, ↓wp_rZ, ↓wp_pf, ↓wp_pz, ↓wp_pd, ↓wp_po, ↓wp_pl, ↓wp_pao, ↓wp_tsw, ↓wp_lsw, ↓wp_fn, ↓wq_ld, ↓wq_ldl, ↓wq_lda, ↓wq_c, ↓wq_gr, ↓wq_gq, ↓wq_nn, ↓wq_asI, ↓wq_asL, ↓wq_asN, ↓wq_pa, hO_0, hR_0_0, hR_0_1, hR_0_2, hR_0_3, hR_0_4, hR_0_5, hR_0_6, hR_0_7, hR_0_8, hR_0_9, hR_0_10, hR_0_11, hF_0_12, hO_1, hR_1_0, hF_1_1, hF_1_2, hF_1_3, hO_3, hR_3_0, hF_3_1, hO_5, hF_5_0, hF_5_1, hR_5_2, hR_5_3, hR_5_4, hR_5_5, hR_5_6, hR_5_7, hF_5_8, hF_5_9, hO_30, hF_30_0, hF_30_1, hF_30_2, hF_30_3, hO_31, hF_31_0, hF_31_1, hR_31_2, hR_31_3, hR_31_4, hO_35, hR_35_0, hF_35_1, hR_35_2, hF_35_3, hR_35_4, hF_35_5, hF_35_6, hR_35_7, hF_35_8, hR_35_9, hR_35_10, hO_42, hO_45, hO_48, hR_48_0, hF_48_1, hF_48_2, hR_48_3, hR_48_4, hO_94, hR_94_0, hR_94_1, hO_97, hF_97_0, hF_97_1, hF_97_2, hF_97_3, hR_97_4, hR_97_5, hR_97_6, hR_97_7, hR_97_8, hR_97_9, hR_97_10, hR_97_11, hF_97_12, hO_156, hF_156_0, hR_156_1, hR_156_2, hR_156_3, hR_156_4, hR_156_5, hR_156_6, hR_156_7, hR_156_8, fd_p_eq, fd_p_ne, fd_p_lt, fd_p_ge, fd_p_gt, fd_p_le, fd_f_iadd, fd_f_isub, fd_f_imul, fd_f_iand, fd_f_ior, fd_f_ixor, fd_f_ishl, fd_f_ishr, fd_f_iushr, fd_f_ladd, fd_f_lsub, fd_f_lmul, fd_f_lcmp, fd_f_idiv, fd_f_irem, fd_f_ldiv, fd_f_lrem, fd_f_ineg, fd_f_i2l, fd_f_l2i, fd_f_i2b, fd_f_i2s, fd_f_i2c, fd_z_idiv, fd_z_irem, fd_z_ldiv, fd_z_lrem, fd_in0, fd_sl, fd_st1, fd_st2, fd_kl, fd_vI, fd_vL, fd_vN, fd_ok1, fd_v_int, xI, xL, xR, xK, xG, yI, yL, yN, -Prod.exists, b2, tn0]
  rcases hz with ⟨z, hz⟩ | hz
  · -- something can't stand
    have zl := h_bad_le hch2 hv r24 hn hz
    have neg := neg_nI (show z < 1000 by omega)
    have npos : ¬ (0 : Int32) < -1 - nI z := fun q => absurd (Int32.lt_trans q neg) (by decide)
    have npos' := Int32.not_lt.mp npos
    refine s_X3_read (g := false) b2 b1 (by omega) hX hl ev hv er r24 hn (Or.inl ⟨rfl, hz, rfl⟩) m25 (fun _ M1 f1 => ?_) (fun e => by cases e)
    simp [↓wp_ldn, ↓wp_b1, ↓wp_b2, ↓wp_b2z, ↓wp_gf, ↓wp_gd, ↓wp_ga, ↓wp_gl, ↓wp_al2, ↓wp_pi, ↓wp_ltr, ↓wp_ite, ↓wp_and, ↓wp_or, ↓wp_not, ↓wp_cmp, ↓wp_cmz, ↓wp_isn, ↓wp_nsn, ↓wp_a0, ↓wp_a1, ↓wp_cv, ↓wp_cs, ↓wp_dr, ↓wp_sk, ↓wp_brk, ↓wp_cnt, ↓wp_rV, ↓wp_seq, ↓wp_iff, ↓wp_sI, ↓wp_sL, ↓wp_sN, ↓wp_inc, ↓wp_do, ↓wp_rI, ↓wp_rL, ↓wp_rN, ↓wp_rZ, ↓wp_pf, ↓wp_pz, ↓wp_pd, ↓wp_po, ↓wp_pl, ↓wp_pao, ↓wp_tsw, ↓wp_lsw, ↓wp_fn, ↓wq_ld, ↓wq_ldl, ↓wq_lda, ↓wq_c, ↓wq_gr, ↓wq_gq, ↓wq_nn, ↓wq_asI, ↓wq_asL, ↓wq_asN, ↓wq_pa, hO_0, hR_0_0, hR_0_1, hR_0_2, hR_0_3, hR_0_4, hR_0_5, hR_0_6, hR_0_7, hR_0_8, hR_0_9, hR_0_10, hR_0_11, hF_0_12, hO_1, hR_1_0, hF_1_1, hF_1_2, hF_1_3, hO_3, hR_3_0, hF_3_1, hO_5, hF_5_0, hF_5_1, hR_5_2, hR_5_3, hR_5_4, hR_5_5, hR_5_6, hR_5_7, hF_5_8, hF_5_9, hO_30, hF_30_0, hF_30_1, hF_30_2, hF_30_3, hO_31, hF_31_0, hF_31_1, hR_31_2, hR_31_3, hR_31_4, hO_35, hR_35_0, hF_35_1, hR_35_2, hF_35_3, hR_35_4, hF_35_5, hF_35_6, hR_35_7, hF_35_8, hR_35_9, hR_35_10, hO_42, hO_45, hO_48, hR_48_0, hF_48_1, hF_48_2, hR_48_3, hR_48_4, hO_94, hR_94_0, hR_94_1, hO_97, hF_97_0, hF_97_1, hF_97_2, hF_97_3, hR_97_4, hR_97_5, hR_97_6, hR_97_7, hR_97_8, hR_97_9, hR_97_10, hR_97_11, hF_97_12, hO_156, hF_156_0, hR_156_1, hR_156_2, hR_156_3, hR_156_4, hR_156_5, hR_156_6, hR_156_7, hR_156_8, fd_p_eq, fd_p_ne, fd_p_lt, fd_p_ge, fd_p_gt, fd_p_le, fd_f_iadd, fd_f_isub, fd_f_imul, fd_f_iand, fd_f_ior, fd_f_ixor, fd_f_ishl, fd_f_ishr, fd_f_iushr, fd_f_ladd, fd_f_lsub, fd_f_lmul, fd_f_lcmp, fd_f_idiv, fd_f_irem, fd_f_ldiv, fd_f_lrem, fd_f_ineg, fd_f_i2l, fd_f_l2i, fd_f_i2b, fd_f_i2s, fd_f_i2c, fd_z_idiv, fd_z_irem, fd_z_ldiv, fd_z_lrem, fd_in0, fd_sl, fd_st1, fd_st2, fd_kl, fd_vI, fd_vL, fd_vN, fd_ok1, fd_v_int, xI, xL, xR, xK, xG, yI, yL, yN, -Prod.exists, fd_run_of (s_X7_clear _), npos, npos']
    have s1 : fd_sm [0, 1, 3, 8, 9] M (fd_uI M1 1 1 0) := (f1.sm rcl).tr (by repeat' (first | exact fd_sm.rf | refine fd_sm.uI ?_ (by first | decide | (simp [cl, cl_182]; done)) | refine fd_sm.uL ?_ (by first | decide | (simp [cl, cl_182]; done))))
    have u1 : ∀ a j, 44 < a → (fd_uI M1 1 1 0).1 a j = M.1 a j := fun a j h => by
      rw [rd_I, if_neg (by omega), f1.1 _ _ (by unfold hxr_P hx_P; omega)]
    refine hi_read (g := false) (by rw [u1 _ _ (by omega)]; exact b3) b1 (by omega) (fun i hi => by rw [u1 _ _ (by omega)]; exact hM i hi) hl (by rw [u1 _ _ (by omega)]; exact ev') hv (by rw [u1 _ _ (by omega)]; exact er') r24 hn (Or.inl ⟨rfl, hz⟩) m25 (fun _ M2 k1 k2 => ?_) (fun q => by cases q)
    have hs : fd_sm [0, 1, 3, 8, 9] M M2 := s1.tr (k1.sm ecl)
    have u2 : ∀ a j, a ≠ 1 → ¬ hxr_P v r a j → ¬ hi_P a j → M2.1 a j = M.1 a j := fun a j h1 h2 h3 => by
      rw [k1.1 _ _ h3, rd_I, if_neg h1, f1.1 _ _ h2]
    refine ⟨rfl, ⟨_, rfl⟩, v, f, n, R, D, A, B, U, L, H, N, ?_, iv_row_cg a2 (hs.eq (by decide)), ?_, iv_fairs_cg a4 (hs.eq (by decide)), iv_sky_cg a5 (hs.eq (by decide)), iv_rule_cg a6 (hs.eq (by decide)), iv_now_cg a7 a4.1 (by omega) (hs.eq (by decide)), ?_, ?_, iv_songs_cg a10 (hs.eq (by decide))⟩
    · refine ⟨0, by omega, ?_, k2, fun i hi => absurd hi (Nat.not_lt_zero i)⟩
      rw [k1.1 _ _ (by unfold hi_P hm_P; omega), rd_I, if_pos rfl, if_pos rfl]
      rfl
    · obtain ⟨g1, g2, g3, g4, -, g6, g7⟩ := a3
      refine ⟨g1, by rw [u2 _ _ (by omega) (by unfold hxr_P hx_P; omega) (by unfold hi_P hm_P; omega)]; exact g2, by rw [u2 _ _ (by omega) (by unfold hxr_P hx_P; omega) (by unfold hi_P hm_P; omega)]; exact g3, fun i hi => ?_, ⟨r, o, q, x, r24, by rw [u2 _ _ (by omega) (by unfold hxr_P hx_P; omega) (by unfold hi_P hm_P; omega)]; exact er, by rw [u2 _ _ (by omega) (by unfold hxr_P hx_P; omega) (by unfold hi_P hm_P; omega)]; exact er', fun k hk => ?_, fun a b ha hb => ?_⟩, g6, fun a b ha hb => ?_⟩
      · rw [u2 6 i (by omega) (by unfold hxr_P hx_P; omega) (by unfold hi_P hm_P; omega), u2 184 i (by omega) (by unfold hxr_P hx_P; omega) (by unfold hi_P hm_P; omega)]
        exact g4 i hi
      · rw [u2 7 k (by omega) (by unfold hxr_P hx_P; omega) (by unfold hi_P hm_P; omega), u2 8 k (by omega) (by unfold hxr_P hx_P; omega) (by unfold hi_P hm_P; omega), u2 9 k (by omega) (by unfold hxr_P hx_P; omega) (by unfold hi_P hm_P; omega)]
        exact ro k hk
      · rw [u2 _ _ (by omega) (by unfold hxr_P hx_P; omega) (by unfold hi_P hm_P; omega)]
        exact rd a b ha hb
      · rw [u2 (a + 11) _ (by omega) (by unfold hxr_P hx_P; omega) (by unfold hi_P hm_P; omega), u2 185 _ (by omega) (by unfold hxr_P hx_P; omega) (by unfold hi_P hm_P; omega), u2 (a + 21) _ (by omega) (by unfold hxr_P hx_P; omega) (by unfold hi_P hm_P; omega), u2 193 _ (by omega) (by unfold hxr_P hx_P; omega) (by unfold hi_P hm_P; omega)]
        exact g7 a b ha hb
    · obtain ⟨fi, np, P, pp, pq⟩ := iv_past_of a8
      exact iv_past_mk (pp.cg hf (by omega) (fun a j h => u2 _ _ (by omega) (by unfold hxr_P hx_P; omega) (by unfold hi_P hm_P; omega))) (pq.cg hf (fun j => u2 _ _ (by omega) (by unfold hxr_P hx_P; omega) (by unfold hi_P hm_P; omega)) (u2 _ _ (by omega) (by unfold hxr_P hx_P; omega) (by unfold hi_P hm_P; omega)))
    · obtain ⟨cm, k1', k2', k3'⟩ := a9
      refine ⟨cm, by omega, by rw [u2 _ _ (by omega) (by unfold hxr_P hx_P; omega) (by unfold hi_P hm_P; omega)]; exact k2', fun i hi => ?_⟩
      obtain ⟨q1, q2, q3, q4⟩ := k3' i hi
      rw [u2 215 _ (by omega) (by unfold hxr_P hx_P; omega) (by unfold hi_P hm_P; omega), u2 216 _ (by omega) (by unfold hxr_P hx_P; omega) (by unfold hi_P hm_P; omega), u2 51 _ (by omega) (by unfold hxr_P hx_P; omega) (by unfold hi_P hm_P; omega), u2 182 58 (by omega) (by unfold hxr_P hx_P; omega) (by unfold hi_P hm_P; omega)]
      exact ⟨q1, q2, q3, fun z => iv_st_cg (q4 z) (by omega) hf (fun j _ => u2 _ _ (by omega) (by unfold hxr_P hx_P; omega) (by unfold hi_P hm_P; omega)) (fun j _ => u2 _ _ (by omega) (by unfold hxr_P hx_P; omega) (by unfold hi_P hm_P; omega)) (fun j _ => u2 _ _ (by omega) (by unfold hxr_P hx_P; omega) (by unfold hi_P hm_P; omega)) (fun j _ => u2 _ _ (by omega) (by unfold hxr_P hx_P; omega) (by unfold hi_P hm_P; omega))⟩
  · -- all is told
    have pos := neg_pos (n := m + 1) (by omega) (by omega)
    obtain ⟨iv0, -, -, vr0⟩ := h_pl hch2 hv r24 m hn
    obtain ⟨inv, -, -, vr⟩ := h_stp hch2 iv0 hz.1
    have es : h_nx ch l (h_s ch l m) = h_s ch l (m + 1) := rfl
    rw [es] at inv vr
    rw [vr0] at vr
    have hrd := h_rd old inv
    obtain ⟨s, hs0⟩ : ∃ s, s = h_s ch l (m + 1) := ⟨_, rfl⟩
    rw [← hs0] at inv vr hrd
    obtain ⟨p1, p2, p3, p4⟩ := iv_rd_props hrd (r + s.r) (Nat.le_refl _)
    obtain ⟨G, hG⟩ : ∃ G : Nat → Nat → Nat, G = iv_rd (h_j o r s.O) (h_j q r s.T) (h_j x r s.X) (r + s.r) := ⟨_, rfl⟩
    rw [← hG] at p1 p2 p3 p4
    refine s_X3_read (z := 0) (g := true) b2 b1 (by omega) hX hl ev hv er r24 hn (Or.inr ⟨rfl, hz, rfl⟩) m25 (fun e => by cases e) (fun _ M0 f0 hx0 => ?_)
    rw [← hs0] at hx0
    refine s_X3_settle old inv (fun k hk => ?_) hx0 _ (fun M1 f1 g1 g2 g3 g4 => ?_)
    · rw [f0.1 _ _ (by unfold hxr_P hx_P; omega), f0.1 _ _ (by unfold hxr_P hx_P; omega), f0.1 _ _ (by unfold hxr_P hx_P; omega)]
      exact rok k hk
    rw [← hG] at g3 g4
    simp [↓wp_ldn, ↓wp_b1, ↓wp_b2, ↓wp_b2z, ↓wp_gf, ↓wp_gd, ↓wp_ga, ↓wp_gl, ↓wp_al2, ↓wp_pi, ↓wp_ltr, ↓wp_ite, ↓wp_and, ↓wp_or, ↓wp_not, ↓wp_cmp, ↓wp_cmz, ↓wp_isn, ↓wp_nsn, ↓wp_a0, ↓wp_a1, ↓wp_cv, ↓wp_cs, ↓wp_dr, ↓wp_sk, ↓wp_brk, ↓wp_cnt, ↓wp_rV, ↓wp_seq, ↓wp_iff, ↓wp_sI, ↓wp_sL, ↓wp_sN, ↓wp_inc, ↓wp_do, ↓wp_rI, ↓wp_rL, ↓wp_rN, ↓wp_rZ, ↓wp_pf, ↓wp_pz, ↓wp_pd, ↓wp_po, ↓wp_pl, ↓wp_pao, ↓wp_tsw, ↓wp_lsw, ↓wp_fn, ↓wq_ld, ↓wq_ldl, ↓wq_lda, ↓wq_c, ↓wq_gr, ↓wq_gq, ↓wq_nn, ↓wq_asI, ↓wq_asL, ↓wq_asN, ↓wq_pa, hO_0, hR_0_0, hR_0_1, hR_0_2, hR_0_3, hR_0_4, hR_0_5, hR_0_6, hR_0_7, hR_0_8, hR_0_9, hR_0_10, hR_0_11, hF_0_12, hO_1, hR_1_0, hF_1_1, hF_1_2, hF_1_3, hO_3, hR_3_0, hF_3_1, hO_5, hF_5_0, hF_5_1, hR_5_2, hR_5_3, hR_5_4, hR_5_5, hR_5_6, hR_5_7, hF_5_8, hF_5_9, hO_30, hF_30_0, hF_30_1, hF_30_2, hF_30_3, hO_31, hF_31_0, hF_31_1, hR_31_2, hR_31_3, hR_31_4, hO_35, hR_35_0, hF_35_1, hR_35_2, hF_35_3, hR_35_4, hF_35_5, hF_35_6, hR_35_7, hF_35_8, hR_35_9, hR_35_10, hO_42, hO_45, hO_48, hR_48_0, hF_48_1, hF_48_2, hR_48_3, hR_48_4, hO_94, hR_94_0, hR_94_1, hO_97, hF_97_0, hF_97_1, hF_97_2, hF_97_3, hR_97_4, hR_97_5, hR_97_6, hR_97_7, hR_97_8, hR_97_9, hR_97_10, hR_97_11, hF_97_12, hO_156, hF_156_0, hR_156_1, hR_156_2, hR_156_3, hR_156_4, hR_156_5, hR_156_6, hR_156_7, hR_156_8, fd_p_eq, fd_p_ne, fd_p_lt, fd_p_ge, fd_p_gt, fd_p_le, fd_f_iadd, fd_f_isub, fd_f_imul, fd_f_iand, fd_f_ior, fd_f_ixor, fd_f_ishl, fd_f_ishr, fd_f_iushr, fd_f_ladd, fd_f_lsub, fd_f_lmul, fd_f_lcmp, fd_f_idiv, fd_f_irem, fd_f_ldiv, fd_f_lrem, fd_f_ineg, fd_f_i2l, fd_f_l2i, fd_f_i2b, fd_f_i2s, fd_f_i2c, fd_z_idiv, fd_z_irem, fd_z_ldiv, fd_z_lrem, fd_in0, fd_sl, fd_st1, fd_st2, fd_kl, fd_vI, fd_vL, fd_vN, fd_ok1, fd_v_int, xI, xL, xR, xK, xG, yI, yL, yN, -Prod.exists, fd_run_of (s_X7_clear _), pos, fd_run_of (s_X5_forgetAll _)]
    generalize hM2 : fd_uI (fd_uI (fd_uI (fd_uI M1 1 1 0) 48 2 0) 51 0 0) 51 1 0 = M2
    have s2 : fd_sm [0, 1, 3, 8, 9] M M2 := by
      rw [← hM2]
      exact ((f0.sm rcl).tr (f1.sm scl)).tr (by repeat' (first | exact fd_sm.rf | refine fd_sm.uI ?_ (by first | decide | (simp [cl, cl_182]; done)) | refine fd_sm.uL ?_ (by first | decide | (simp [cl, cl_182]; done))))
    have w2 : ∀ a j, a ≠ 1 → a ≠ 48 → a ≠ 51 → M2.1 a j = M1.1 a j := fun a j h1 h2 h3 => by
      rw [← hM2]
      simp [rd_I, h1, h2, h3]
    have u2 : ∀ a j, 29 < a → a ≠ 48 → a ≠ 51 → M2.1 a j = M.1 a j := fun a j h h2 h3 => by
      rw [w2 _ _ (by omega) h2 h3, f1.1 _ _ (by unfold hs_P; omega), f0.1 _ _ (by unfold hxr_P hx_P; omega)]
    have z11 : M2.1 1 1 = 0 := by rw [← hM2]; simp [rd_I]
    have z48 : M2.1 48 2 = 0 := by rw [← hM2]; simp [rd_I]
    have z481 : M2.1 48 1 = M.1 48 1 := by
      rw [← hM2]; simp [rd_I]
      rw [f1.1 _ _ (by unfold hs_P; omega), f0.1 _ _ (by unfold hxr_P hx_P; omega)]
    have z51 : ∀ i, i < 2 → M2.1 51 i = 0 := fun i hi => by
      rw [← hM2]
      rcases (show i = 0 ∨ i = 1 by omega) with rfl | rfl <;> simp [rd_I]
    clear hM2
    obtain ⟨cm, q1, q2, q3⟩ := id a9
    refine hi_read (z := 0) (g := true) (by rw [u2 _ _ (by omega) (by omega) (by omega)]; exact b3) b1 (by omega) (fun i hi => by rw [u2 _ _ (by omega) (by omega) (by omega)]; exact hM i hi) hl (by rw [u2 _ _ (by omega) (by omega) (by omega)]; exact ev') hv (by rw [u2 _ _ (by omega) (by omega) (by omega)]; exact er') r24 hn (Or.inr ⟨rfl, hz⟩) m25 (fun q => by cases q) (fun _ M3 c2 c3 c4 c5 k1 k2 k3 => ?_)
    rw [← hs0] at k3
    have u3 : ∀ a j, ¬ hi_P a j → M3.1 a j = M2.1 a j := fun a j h => k1.1 _ _ h
    refine hi_lay (Q := fun r2 Mm => r2 = .int (nI (m + 1)) ∧ (∃ v, Value.int (nI (m + 1)) = .int v) ∧ Inv (c + 1) Mm) (cm := cm) old inv k3 (by rw [u3 _ _ (by unfold hi_P hm_P; omega), u2 _ _ (by omega) (by omega) (by omega)]; exact ev') (by rw [u3 _ _ (by unfold hi_P hm_P; omega), u2 _ _ (by omega) (by omega) (by omega)]; exact er') (fun a b ha hb => by rw [u3 _ _ (by unfold hi_P hm_P; omega), u2 _ _ (by omega) (by omega) (by omega)]; exact rd a b ha hb) (by rw [u3 _ _ (by unfold hi_P hm_P; omega), u2 _ _ (by omega) (by omega) (by omega)]; exact q2) (fun M4 f4 r1 r2 r3 r4 r5 r6 r7 => ?_)
    rw [← hG] at r6 r7
    have hs : fd_sm [0, 1, 3, 8, 9] M M4 := s2.tr ((k1.sm ecl).tr (f4.sm lcl))
    have u4 : ∀ a j, ¬ hl_P v a j → ¬ hi_P a j → M4.1 a j = M2.1 a j := fun a j h h2 => by rw [f4.1 _ _ h, u3 _ _ h2]
    have iv1 := inv.1
    have iv2 := inv.2.1
    have G1 : ∀ a b, a < v + s.v → b < v + s.v → G a b ≤ 1000000 := fun a b _ _ => (p1 a b).1
    have met : iv_met (v + s.v) G (fw G (v + s.v)) := fw_met (fun a b _ _ => p1 a b) (fun a _ => p2 a) (fun a b _ _ e => p3 a b e)
    refine ⟨by rw [vr], ⟨_, rfl⟩, v + s.v, f, n, G, fw G (v + s.v), A, B, U, L, H, N, ?_, iv_row_cg a2 (hs.eq (by decide)), ?_, ?_, iv_sky_cg a5 (hs.eq (by decide)), iv_rule_cg a6 (hs.eq (by decide)), ?_, ?_, ?_, ?_⟩
    · refine ⟨0, by omega, ?_, ?_, fun i hi => absurd hi (Nat.not_lt_zero i)⟩
      · rw [u4 _ _ (by unfold hl_P; omega) (by unfold hi_P hm_P; omega)]; exact z11
      · rw [f4.1 _ _ (by unfold hl_P; omega)]; exact k2
    · refine ⟨iv1, ?_, r1, fun i hi => ?_, ⟨r + s.r, h_j o r s.O, h_j q r s.T, h_j x r s.X, iv2, ?_, r2, fun k hk => ?_, fun a b ha hb => by rw [r6 a b ha hb, hG]⟩, met, fun a b ha hb => ⟨?_, ?_, ?_, ?_⟩⟩
      · rw [u4 _ _ (by unfold hl_P; omega) (by unfold hi_P hm_P; omega), w2 _ _ (by omega) (by omega) (by omega)]; exact g1
      · rw [u4 6 _ (by unfold hl_P; omega) (by unfold hi_P hm_P; omega), w2 6 _ (by omega) (by omega) (by omega), f1.1 6 _ (by unfold hs_P; omega)]
        by_cases e : i < v
        · rw [f0.1 6 _ (by unfold hxr_P hx_P; omega), u4 184 _ (by unfold hl_P; omega) (by unfold hi_P hm_P; omega), u2 _ _ (by omega) (by omega) (by omega)]
          exact efo i e
        · obtain ⟨j, rfl⟩ : ∃ j, i = v + j := ⟨i - v, by omega⟩
          rw [r5 j (by omega)]
          exact hx0.2.2.1 j (by omega)
      · rw [u4 _ _ (by unfold hl_P; omega) (by unfold hi_P hm_P; omega), w2 _ _ (by omega) (by omega) (by omega)]; exact g2
      · obtain ⟨y1, y2, y3, y4, y5⟩ := hrd k hk
        refine ⟨y1, y2, y3, y4, y5, ?_⟩
        rw [u4 7 _ (by unfold hl_P; omega) (by unfold hi_P hm_P; omega), w2 7 _ (by omega) (by omega) (by omega), f1.1 7 _ (by unfold hs_P; omega), u4 8 _ (by unfold hl_P; omega) (by unfold hi_P hm_P; omega), w2 8 _ (by omega) (by omega) (by omega), f1.1 8 _ (by unfold hs_P; omega), u4 9 _ (by unfold hl_P; omega) (by unfold hi_P hm_P; omega), w2 9 _ (by omega) (by omega) (by omega), f1.1 9 _ (by unfold hs_P; omega)]
        by_cases e : k < r
        · rw [h_j1 e, h_j1 e, h_j1 e, f0.1 7 _ (by unfold hxr_P hx_P; omega), f0.1 8 _ (by unfold hxr_P hx_P; omega), f0.1 9 _ (by unfold hxr_P hx_P; omega)]
          exact rok k e
        · obtain ⟨j, rfl⟩ : ∃ j, k = r + j := ⟨k - r, by omega⟩
          rw [h_j2, h_j2, h_j2]
          exact hx0.2.2.2 j (by omega)
      · rw [u4 _ _ (by unfold hl_P; omega) (by unfold hi_P hm_P; omega), w2 _ _ (by omega) (by omega) (by omega)]
        exact g3 a b (by omega) (by omega)
      · exact r6 a b (by omega) (by omega)
      · rw [u4 _ _ (by unfold hl_P; omega) (by unfold hi_P hm_P; omega), w2 _ _ (by omega) (by omega) (by omega), g4 a b (by omega) (by omega)]
        rw [fw_apart (R := G) (v := v + s.v) (n := 9) (fun a b h1 h2 h3 => by rw [p4 a b (by omega) (Or.inr h2)]; exact Nat.le_refl _) G1 iv1 ha hb 9 iv1 (Nat.le_refl 9)]
      · exact r7 a b ha hb
    · obtain ⟨h1, h2, h3, h4⟩ := iv_fairs_cg a4 (hs.eq (by decide))
      exact ⟨h1, h2, h3, fun i hi => ⟨by have := (h4 i hi).1; omega, (h4 i hi).2⟩⟩
    · obtain ⟨S, ⟨o1, o2, o3⟩, sc, sm⟩ := iv_now_cg (nb' := 2000 * (c + 1)) a7 hf (by omega) (hs.eq (by decide))
      exact ⟨S, ⟨o1, by omega, o3⟩, sc, sm⟩
    · obtain ⟨fi, np, p1, p2, p3, p4, p5, p6⟩ := a8
      refine ⟨fi, 0, p1, by omega, ?_, ?_, r3, fun i hi => absurd hi (Nat.not_lt_zero i)⟩
      · rw [u4 _ _ (by unfold hl_P; omega) (by unfold hi_P hm_P; omega), z481]; exact p3
      · rw [u4 _ _ (by unfold hl_P; omega) (by unfold hi_P hm_P; omega)]; exact z48
    · have kn := iv_kept_new (v' := v + s.v) (f' := f) (M' := M4) a9 (by omega) (by rw [r4, q2, nI_1]) (fun i => by rw [u4 _ _ (by unfold hl_P; omega) (by unfold hi_P hm_P; omega), u2 _ _ (by omega) (by omega) (by omega)]) (fun i => by rw [u4 _ _ (by unfold hl_P; omega) (by unfold hi_P hm_P; omega), u2 _ _ (by omega) (by omega) (by omega)]) (fun i hi => by rw [u4 _ _ (by unfold hl_P; omega) (by unfold hi_P hm_P; omega)]; exact z51 i hi)
      obtain ⟨cm', w1, w2', w3⟩ := kn
      refine ⟨cm', by omega, w2', fun i hi => ?_⟩
      obtain ⟨e1, e2, e3, e4⟩ := w3 i hi
      exact ⟨e1, e2, e3, fun z => by
        have z0 : M4.1 51 i = 0 := by rw [u4 _ _ (by unfold hl_P; omega) (by unfold hi_P hm_P; omega)]; exact z51 i hi
        rw [z0] at z
        exact absurd z (by decide)⟩
    · obtain ⟨h1, h2, h3, h4⟩ := iv_songs_cg a10 (hs.eq (by decide))
      exact ⟨h1, h2, h3, fun i hi => ⟨(h4 i hi).1, (h4 i hi).2.1, by have := (h4 i hi).2.2.1; omega, (h4 i hi).2.2.2⟩⟩
