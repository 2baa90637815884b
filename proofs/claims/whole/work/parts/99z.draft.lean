-- FILE 95s.seasoncall
theorem s_X0_read0 {M : fd_M} (ht : M.1 1 1 = nI 0) {Q : Value → fd_M → Prop} (hQ : ∀ M2, fP (fun a j => (a = 1 ∧ (j = 2 ∨ j = 3)) ∨ a = 95 ∨ a = 96) M M2 → Q (.int 0) M2) : fd_run m_X0_read [.ref 94, .ref 1] M Q := by
  have hb := s_X7_begin ht (by omega) (m := 60) (by omega)
  rw [show nI 60 = (60 : Int32) from rfl] at hb
  have f1 : fP (fun a j => (a = 1 ∧ (j = 2 ∨ j = 3)) ∨ a = 95 ∨ a = 96) M (fd_uI (fd_uI M 1 2 0) 1 3 (nI (min 0 60))) := fP.uI (fP.uI fP.rf (by omega)) (by omega)
  have wa := s_X7_isWhole (M := fd_uI (fd_uI M 1 2 0) 1 3 (nI (min 0 60))) (t := 0) (p := 0) (by simp [rd_I]; exact ht) (by simp [rd_I]; rfl) (by omega) (by omega)
  rw [if_pos rfl] at wa
  unfold m_X0_read b_X0_read
  simp [↓wp_ldn, ↓wp_b1, ↓wp_b2, ↓wp_b2z, ↓wp_gf, ↓wp_gd, ↓wp_ga, ↓wp_gl, ↓wp_al2, ↓wp_pi, ↓wp_ltr, ↓wp_ite, ↓wp_and, ↓wp_or, ↓wp_not, ↓wp_cmp, ↓wp_cmz, ↓wp_isn, ↓wp_nsn, ↓wp_a0, ↓wp_a1, ↓wp_cv, ↓wp_cs, ↓wp_dr, ↓wp_sk, ↓wp_brk, ↓wp_cnt, ↓wp_rV, ↓wp_seq, ↓wp_iff, ↓wp_sI, ↓wp_sL, ↓wp_sN, ↓wp_inc, ↓wp_do, ↓wp_rI, ↓wp_rL, ↓wp_rN, ↓wp_rZ, ↓wp_pf, ↓wp_pz, ↓wp_pd, ↓wp_po, ↓wp_pl, ↓wp_pao, ↓wp_tsw, ↓wp_lsw, ↓wp_fn, ↓wq_ld, ↓wq_ldl, ↓wq_lda, ↓wq_c, ↓wq_gr, ↓wq_gq, ↓wq_nn, ↓wq_asI, ↓wq_asL, ↓wq_asN, ↓wq_pa, hO_0, hR_0_0, hR_0_1, hR_0_2, hR_0_3, hR_0_4, hR_0_5, hR_0_6, hR_0_7, hR_0_8, hR_0_9, hR_0_10, hR_0_11, hF_0_12, hO_1, hR_1_0, hF_1_1, hF_1_2, hF_1_3, hO_3, hR_3_0, hF_3_1, hO_5, hF_5_0, hF_5_1, hR_5_2, hR_5_3, hR_5_4, hR_5_5, hR_5_6, hR_5_7, hF_5_8, hF_5_9, hO_30, hF_30_0, hF_30_1, hF_30_2, hF_30_3, hO_31, hF_31_0, hF_31_1, hR_31_2, hR_31_3, hR_31_4, hO_35, hR_35_0, hF_35_1, hR_35_2, hF_35_3, hR_35_4, hF_35_5, hF_35_6, hR_35_7, hF_35_8, hR_35_9, hR_35_10, hO_42, hO_45, hO_48, hR_48_0, hF_48_1, hF_48_2, hR_48_3, hR_48_4, hO_94, hR_94_0, hR_94_1, hO_97, hF_97_0, hF_97_1, hF_97_2, hF_97_3, hR_97_4, hR_97_5, hR_97_6, hR_97_7, hR_97_8, hR_97_9, hR_97_10, hR_97_11, hF_97_12, hO_156, hF_156_0, hR_156_1, hR_156_2, hR_156_3, hR_156_4, hR_156_5, hR_156_6, hR_156_7, hR_156_8, fd_p_eq, fd_p_ne, fd_p_lt, fd_p_ge, fd_p_gt, fd_p_le, fd_f_iadd, fd_f_isub, fd_f_imul, fd_f_iand, fd_f_ior, fd_f_ixor, fd_f_ishl, fd_f_ishr, fd_f_iushr, fd_f_ladd, fd_f_lsub, fd_f_lmul, fd_f_lcmp, fd_f_idiv, fd_f_irem, fd_f_ldiv, fd_f_lrem, fd_f_ineg, fd_f_i2l, fd_f_l2i, fd_f_i2b, fd_f_i2s, fd_f_i2c, fd_z_idiv, fd_z_irem, fd_z_ldiv, fd_z_lrem, fd_in0, fd_sl, fd_st1, fd_st2, fd_kl, fd_vI, fd_vL, fd_vN, fd_ok1, fd_v_int, xI, xL, xR, xK, xG, yI, yL, yN, -Prod.exists, fd_run_of hb]
  simp at wa
  simp [↓wp_ldn, ↓wp_b1, ↓wp_b2, ↓wp_b2z, ↓wp_gf, ↓wp_gd, ↓wp_ga, ↓wp_gl, ↓wp_al2, ↓wp_pi, ↓wp_ltr, ↓wp_ite, ↓wp_and, ↓wp_or, ↓wp_not, ↓wp_cmp, ↓wp_cmz, ↓wp_isn, ↓wp_nsn, ↓wp_a0, ↓wp_a1, ↓wp_cv, ↓wp_cs, ↓wp_dr, ↓wp_sk, ↓wp_brk, ↓wp_cnt, ↓wp_rV, ↓wp_seq, ↓wp_iff, ↓wp_sI, ↓wp_sL, ↓wp_sN, ↓wp_inc, ↓wp_do, ↓wp_rI, ↓wp_rL, ↓wp_rN, ↓wp_rZ, ↓wp_pf, ↓wp_pz, ↓wp_pd, ↓wp_po, ↓wp_pl, ↓wp_pao, ↓wp_tsw, ↓wp_lsw, ↓wp_fn, ↓wq_ld, ↓wq_ldl, ↓wq_lda, ↓wq_c, ↓wq_gr, ↓wq_gq, ↓wq_nn, ↓wq_asI, ↓wq_asL, ↓wq_asN, ↓wq_pa, hO_0, hR_0_0, hR_0_1, hR_0_2, hR_0_3, hR_0_4, hR_0_5, hR_0_6, hR_0_7, hR_0_8, hR_0_9, hR_0_10, hR_0_11, hF_0_12, hO_1, hR_1_0, hF_1_1, hF_1_2, hF_1_3, hO_3, hR_3_0, hF_3_1, hO_5, hF_5_0, hF_5_1, hR_5_2, hR_5_3, hR_5_4, hR_5_5, hR_5_6, hR_5_7, hF_5_8, hF_5_9, hO_30, hF_30_0, hF_30_1, hF_30_2, hF_30_3, hO_31, hF_31_0, hF_31_1, hR_31_2, hR_31_3, hR_31_4, hO_35, hR_35_0, hF_35_1, hR_35_2, hF_35_3, hR_35_4, hF_35_5, hF_35_6, hR_35_7, hF_35_8, hR_35_9, hR_35_10, hO_42, hO_45, hO_48, hR_48_0, hF_48_1, hF_48_2, hR_48_3, hR_48_4, hO_94, hR_94_0, hR_94_1, hO_97, hF_97_0, hF_97_1, hF_97_2, hF_97_3, hR_97_4, hR_97_5, hR_97_6, hR_97_7, hR_97_8, hR_97_9, hR_97_10, hR_97_11, hF_97_12, hO_156, hF_156_0, hR_156_1, hR_156_2, hR_156_3, hR_156_4, hR_156_5, hR_156_6, hR_156_7, hR_156_8, fd_p_eq, fd_p_ne, fd_p_lt, fd_p_ge, fd_p_gt, fd_p_le, fd_f_iadd, fd_f_isub, fd_f_imul, fd_f_iand, fd_f_ior, fd_f_ixor, fd_f_ishl, fd_f_ishr, fd_f_iushr, fd_f_ladd, fd_f_lsub, fd_f_lmul, fd_f_lcmp, fd_f_idiv, fd_f_irem, fd_f_ldiv, fd_f_lrem, fd_f_ineg, fd_f_i2l, fd_f_l2i, fd_f_i2b, fd_f_i2s, fd_f_i2c, fd_z_idiv, fd_z_irem, fd_z_ldiv, fd_z_lrem, fd_in0, fd_sl, fd_st1, fd_st2, fd_kl, fd_vI, fd_vL, fd_vN, fd_ok1, fd_v_int, xI, xL, xR, xK, xG, yI, yL, yN, -Prod.exists, fd_run_of wa]
  simp at f1
  exact hQ _ f1
theorem sn_read0 {M : fd_M} (ht : M.1 182 14 = nI 0) {Q : Value → fd_M → Prop} (hG : ∀ (M2 : fd_M) (c3 : Value), fP sn_P M M2 → M2.1 182 14 = 0 → M2.1 182 22 = -1 → fd_wp sn_m ([.ref 182, .int (nI 0), .int 0, c3], M2) (fun z v s => z = 1 ∧ Q v s.2)) : fd_run m_X12_season [.ref 182] M Q := by
  rw [nI_0] at ht
  unfold m_X12_season
  rw [sn_m_eq]
  simp [↓wp_ldn, ↓wp_b1, ↓wp_b2, ↓wp_b2z, ↓wp_gf, ↓wp_gd, ↓wp_ga, ↓wp_gl, ↓wp_al2, ↓wp_pi, ↓wp_ltr, ↓wp_ite, ↓wp_and, ↓wp_or, ↓wp_not, ↓wp_cmp, ↓wp_cmz, ↓wp_isn, ↓wp_nsn, ↓wp_a0, ↓wp_a1, ↓wp_cv, ↓wp_cs, ↓wp_dr, ↓wp_sk, ↓wp_brk, ↓wp_cnt, ↓wp_rV, ↓wp_seq, ↓wp_iff, ↓wp_sI, ↓wp_sL, ↓wp_sN, ↓wp_inc, ↓wp_do, ↓wp_rI, ↓wp_rL, ↓wp_rN, ↓wp_rZ, ↓wp_pf, ↓wp_pz, ↓wp_pd, ↓wp_po, ↓wp_pl, ↓wp_pao, ↓wp_tsw, ↓wp_lsw, ↓wp_fn, ↓wq_ld, ↓wq_ldl, ↓wq_lda, ↓wq_c, ↓wq_gr, ↓wq_gq, ↓wq_nn, ↓wq_asI, ↓wq_asL, ↓wq_asN, ↓wq_pa, hO_182, hR_182_0, hF_182_1, hR_182_2, hF_182_3, hR_182_4, hF_182_5, hR_182_6, hR_182_7, hR_182_8, hF_182_9, hF_182_10, hF_182_11, hF_182_12, hR_182_13, hF_182_14, hR_182_15, hF_182_16, hF_182_17, hF_182_18, hF_182_19, hF_182_20, hF_182_21, hF_182_22, hR_182_23, hR_182_24, hF_182_25, hF_182_26, hR_182_27, hR_182_28, hR_182_29, hF_182_30, hF_182_31, hR_182_32, hR_182_33, hF_182_34, hR_182_35, hF_182_36, hF_182_37, hF_182_38, hF_182_39, hF_182_40, hR_182_41, hR_182_42, hR_182_43, hR_182_44, hR_182_45, hR_182_46, hF_182_47, hR_182_48, hR_182_49, hR_182_50, hR_182_51, hR_182_52, hF_182_53, hR_182_54, hR_182_55, hR_182_56, hR_182_57, hF_182_58, hR_182_59, hR_182_60, hR_182_61, fd_p_eq, fd_p_ne, fd_p_lt, fd_p_ge, fd_p_gt, fd_p_le, fd_f_iadd, fd_f_isub, fd_f_imul, fd_f_iand, fd_f_ior, fd_f_ixor, fd_f_ishl, fd_f_ishr, fd_f_iushr, fd_f_ladd, fd_f_lsub, fd_f_lmul, fd_f_lcmp, fd_f_idiv, fd_f_irem, fd_f_ldiv, fd_f_lrem, fd_f_ineg, fd_f_i2l, fd_f_l2i, fd_f_i2b, fd_f_i2s, fd_f_i2c, fd_z_idiv, fd_z_irem, fd_z_ldiv, fd_z_lrem, fd_in0, fd_sl, fd_st1, fd_st2, fd_kl, fd_vI, fd_vL, fd_vN, fd_ok1, fd_v_int, xI, xL, xR, xK, xG, yI, yL, yN, -Prod.exists, rd_I, ht, fd_run_of (s_X12_begin _ (show 189 < 500 by decide) _ _)]
  generalize hM1 : fd_uI (fd_uI (fd_uI (fd_uI (fd_uI (fd_uI (fd_uI M 182 17 0) 182 18 (nI 190)) 182 19 0) 182 20 60) 182 21 0) 182 22 (-1)) 182 14 0 = M1
  have f1 : fP sn_P M M1 := by
    rw [← hM1]
    repeat' (first | exact fP.rf | refine fP.uI ?_ (by unfold sn_P; omega))
  have p1 : M1.1 182 21 = 0 := by rw [← hM1]; simp [rd_I]
  have l1 : M1.1 182 19 = 0 := by rw [← hM1]; simp [rd_I]
  have w1 : M1.1 182 22 = -1 := by rw [← hM1]; simp [rd_I]
  have e14 : M1.1 182 14 = 0 := by rw [← hM1]; simp [rd_I]
  clear hM1
  obtain ⟨c3, hc3⟩ : ∃ c3 : Value, c3 = fd_jk := ⟨_, rfl⟩
  have g := hG M1 fd_jk f1 e14 w1
  refine wp_for 0 (fun _ σ => ∃ c3, σ = ([.ref 182, .int (nI 0), .int 0, c3], M1)) (fd_fu_lt (by omega)) (Nat.le_refl 0) ⟨_, rfl⟩ (fun k σ hk _ => absurd hk (Nat.not_lt_zero k)) (fun σ hs => ?_)
  obtain ⟨c3, rfl⟩ := hs
  have g := hG M1 c3 f1 e14 w1
  simp [↓wp_ldn, ↓wp_b1, ↓wp_b2, ↓wp_b2z, ↓wp_gf, ↓wp_gd, ↓wp_ga, ↓wp_gl, ↓wp_al2, ↓wp_pi, ↓wp_ltr, ↓wp_ite, ↓wp_and, ↓wp_or, ↓wp_not, ↓wp_cmp, ↓wp_cmz, ↓wp_isn, ↓wp_nsn, ↓wp_a0, ↓wp_a1, ↓wp_cv, ↓wp_cs, ↓wp_dr, ↓wp_sk, ↓wp_brk, ↓wp_cnt, ↓wp_rV, ↓wp_seq, ↓wp_iff, ↓wp_sI, ↓wp_sL, ↓wp_sN, ↓wp_inc, ↓wp_do, ↓wp_rI, ↓wp_rL, ↓wp_rN, ↓wp_rZ, ↓wp_pf, ↓wp_pz, ↓wp_pd, ↓wp_po, ↓wp_pl, ↓wp_pao, ↓wp_tsw, ↓wp_lsw, ↓wp_fn, ↓wq_ld, ↓wq_ldl, ↓wq_lda, ↓wq_c, ↓wq_gr, ↓wq_gq, ↓wq_nn, ↓wq_asI, ↓wq_asL, ↓wq_asN, ↓wq_pa, hO_182, hR_182_0, hF_182_1, hR_182_2, hF_182_3, hR_182_4, hF_182_5, hR_182_6, hR_182_7, hR_182_8, hF_182_9, hF_182_10, hF_182_11, hF_182_12, hR_182_13, hF_182_14, hR_182_15, hF_182_16, hF_182_17, hF_182_18, hF_182_19, hF_182_20, hF_182_21, hF_182_22, hR_182_23, hR_182_24, hF_182_25, hF_182_26, hR_182_27, hR_182_28, hR_182_29, hF_182_30, hF_182_31, hR_182_32, hR_182_33, hF_182_34, hR_182_35, hF_182_36, hF_182_37, hF_182_38, hF_182_39, hF_182_40, hR_182_41, hR_182_42, hR_182_43, hR_182_44, hR_182_45, hR_182_46, hF_182_47, hR_182_48, hR_182_49, hR_182_50, hR_182_51, hR_182_52, hF_182_53, hR_182_54, hR_182_55, hR_182_56, hR_182_57, hF_182_58, hR_182_59, hR_182_60, hR_182_61, fd_p_eq, fd_p_ne, fd_p_lt, fd_p_ge, fd_p_gt, fd_p_le, fd_f_iadd, fd_f_isub, fd_f_imul, fd_f_iand, fd_f_ior, fd_f_ixor, fd_f_ishl, fd_f_ishr, fd_f_iushr, fd_f_ladd, fd_f_lsub, fd_f_lmul, fd_f_lcmp, fd_f_idiv, fd_f_irem, fd_f_ldiv, fd_f_lrem, fd_f_ineg, fd_f_i2l, fd_f_l2i, fd_f_i2b, fd_f_i2s, fd_f_i2c, fd_z_idiv, fd_z_irem, fd_z_ldiv, fd_z_lrem, fd_in0, fd_sl, fd_st1, fd_st2, fd_kl, fd_vI, fd_vL, fd_vN, fd_ok1, fd_v_int, xI, xL, xR, xK, xG, yI, yL, yN, -Prod.exists, p1, l1]
  exact g
theorem neg_nI {q : Nat} (h : q < 1000) : (-1 - nI q : Int32) < 0 := by
  have : ∀ q, q < 1000 → (-1 - nI q : Int32) < 0 := by decide +kernel
  exact this q h
theorem call_season : fd_both m_X11_season m_X12_season [] := by
  refine fd_both_of fun c M hc hI => ?_
  obtain ⟨v, f, n, R, D, A, B, U, L, H, N, a1, a2, a3, a4, a5, a6, a7, a8, a9, a10⟩ := hI
  obtain ⟨w, rfl, rfl, rfl, rfl, rfl, rfl, rfl, hw⟩ := wd_of a3 a4 a5 a6
  obtain ⟨S, sk, sc, sm⟩ := a7
  obtain ⟨fi, np, P, pp, pq⟩ := iv_past_of a8
  obtain ⟨t, b1, b2, b3, b4⟩ := a1
  have hf := hw.2.1.1
  obtain ⟨ch, hch⟩ : ∃ ch : Nat → Int32, ch = fun i => M.1 189 i &&& 255 := ⟨_, rfl⟩
  have hX : ∀ i, i < t → M.1 2 i = ch i ∧ ∃ c, c < 256 ∧ ch i = nI c := fun i hi => by
    obtain ⟨c, c1, c2⟩ := b4 i hi
    have : ch i = nI c := by rw [hch]; exact c1.2.1
    exact ⟨by rw [this, c2], c, c1.1, this⟩
  have hM : ∀ i, i < t → ∃ c, by_ok (M.1 189 i) c ∧ ch i = nI c := fun i hi => by
    obtain ⟨c, c1, c2⟩ := b4 i hi
    exact ⟨c, c1, by rw [hch]; exact c1.2.1⟩
  obtain ⟨RP, hRP⟩ : ∃ RP : Nat → Nat → Prop, RP = fun a j => (a = 1 ∧ (j = 2 ∨ j = 3)) ∨ a = 95 ∨ a = 96 := ⟨_, rfl⟩
  have rcl : ∀ a j, RP a j → cl a j ∈ [0, 1, 2, 7, 8] := fun a j z => by
    rw [hRP] at z
    rcases z with ⟨rfl, rfl | rfl⟩ | rfl | rfl <;> simp [cl]
  have clr : ∀ {M1}, fP RP M M1 → fd_sm [0, 1, 2, 7, 8] M (fd_uI M1 1 1 0) := fun g => (g.sm rcl).tr (by repeat' (first | exact fd_sm.rf | refine fd_sm.uI ?_ (by first | decide | (simp [cl, cl_182]; done)) | refine fd_sm.uL ?_ (by first | decide | (simp [cl, cl_182]; done))))
  unfold m_X11_season
  rw [sn_x_eq]
  -- read as m acts
  have fin : ∀ (m : Nat) (K : Nat → Int32) (J : Nat → Nat), m ≤ 31 → (∀ i, i < m → a_kn (K i) (J i)) → (∀ Q : Value → fd_M → Prop, (∀ M2, fP RP M M2 → (∀ i, i < m → M2.1 95 i = K i ∧ M2.1 96 i = nI (J i)) → Q (.int (nI m)) M2) → fd_run m_X0_read [.ref 94, .ref 1] M Q) → (∀ (M1 : fd_M), M1.1 182 14 = M.1 182 14 → (∀ i, M1.1 189 i = M.1 189 i) → ∀ Q : Value → fd_M → Prop, (∀ (M2 : fd_M) (c3 : Value), fP sn_P M1 M2 → M2.1 182 14 = 0 → M2.1 182 22 = -1 → (∀ i, i < m → M2.1 199 (2 * i) = K i ∧ (K i ≠ 109 → M2.1 199 (2 * i + 1) = nI (J i))) → fd_wp sn_m ([.ref 182, .int (nI m), .int 0, c3], M2) (fun z v s => z = 1 ∧ Q v s.2)) → fd_run m_X12_season [.ref 182] M1 Q) → fd_run (fd_fn 7 (fd_seq (fd_sI 1 (fd_as fd_vI (fd_cv 0 1 m_X0_read (fd_a1 .ref (fd_a1 .ref fd_a0 (fd_gr 11 9 (fd_lda 0))) (fd_gr 11 0 (fd_lda 0)))))) (fd_seq (fd_do (fd_cv 7 0 m_X7_clear (fd_a1 .ref fd_a0 (fd_gr 11 0 (fd_lda 0))))) (fd_seq (fd_iff (fd_cmz fd_p_lt (fd_ld 1)) (fd_rI (fd_ld 1)) fd_sk) sn_x)))) [.ref 0] M (fd_bm m_X12_season [] c) := by
    intro m K J hm hk hx hr
    obtain ⟨d, d1, d2, d3⟩ := lead (fun i => a_can w (q_st w S K J i) (K i) (J i)) m
    have bm : ¬ nI m < 0 := nI_pos (by omega)
    have bm' := Int32.not_lt.mp bm
    simp [↓wp_ldn, ↓wp_b1, ↓wp_b2, ↓wp_b2z, ↓wp_gf, ↓wp_gd, ↓wp_ga, ↓wp_gl, ↓wp_al2, ↓wp_pi, ↓wp_ltr, ↓wp_ite, ↓wp_and, ↓wp_or, ↓wp_not, ↓wp_cmp, ↓wp_cmz, ↓wp_isn, ↓wp_nsn, ↓wp_a0, ↓wp_a1, ↓wp_cv, ↓wp_cs, ↓wp_dr, ↓wp_sk, ↓wp_brk, ↓wp_cnt, ↓wp_rV, ↓wp_seq, ↓wp_iff, ↓wp_sI, ↓wp_sL, ↓wp_sN, ↓wp_inc, ↓wp_do, ↓wp_rI, ↓wp_rL, ↓wp_rN, ↓wp_rZ, ↓wp_pf, ↓wp_pz, ↓wp_pd, ↓wp_po, ↓wp_pl, ↓wp_pao, ↓wp_tsw, ↓wp_lsw, ↓wp_fn, ↓wq_ld, ↓wq_ldl, ↓wq_lda, ↓wq_c, ↓wq_gr, ↓wq_gq, ↓wq_nn, ↓wq_asI, ↓wq_asL, ↓wq_asN, ↓wq_pa, hO_0, hR_0_0, hR_0_1, hR_0_2, hR_0_3, hR_0_4, hR_0_5, hR_0_6, hR_0_7, hR_0_8, hR_0_9, hR_0_10, hR_0_11, hF_0_12, hO_1, hR_1_0, hF_1_1, hF_1_2, hF_1_3, hO_3, hR_3_0, hF_3_1, hO_5, hF_5_0, hF_5_1, hR_5_2, hR_5_3, hR_5_4, hR_5_5, hR_5_6, hR_5_7, hF_5_8, hF_5_9, hO_30, hF_30_0, hF_30_1, hF_30_2, hF_30_3, hO_31, hF_31_0, hF_31_1, hR_31_2, hR_31_3, hR_31_4, hO_35, hR_35_0, hF_35_1, hR_35_2, hF_35_3, hR_35_4, hF_35_5, hF_35_6, hR_35_7, hF_35_8, hR_35_9, hR_35_10, hO_42, hO_45, hO_48, hR_48_0, hF_48_1, hF_48_2, hR_48_3, hR_48_4, hO_94, hR_94_0, hR_94_1, hO_97, hF_97_0, hF_97_1, hF_97_2, hF_97_3, hR_97_4, hR_97_5, hR_97_6, hR_97_7, hR_97_8, hR_97_9, hR_97_10, hR_97_11, hF_97_12, hO_156, hF_156_0, hR_156_1, hR_156_2, hR_156_3, hR_156_4, hR_156_5, hR_156_6, hR_156_7, hR_156_8, fd_p_eq, fd_p_ne, fd_p_lt, fd_p_ge, fd_p_gt, fd_p_le, fd_f_iadd, fd_f_isub, fd_f_imul, fd_f_iand, fd_f_ior, fd_f_ixor, fd_f_ishl, fd_f_ishr, fd_f_iushr, fd_f_ladd, fd_f_lsub, fd_f_lmul, fd_f_lcmp, fd_f_idiv, fd_f_irem, fd_f_ldiv, fd_f_lrem, fd_f_ineg, fd_f_i2l, fd_f_l2i, fd_f_i2b, fd_f_i2s, fd_f_i2c, fd_z_idiv, fd_z_irem, fd_z_ldiv, fd_z_lrem, fd_in0, fd_sl, fd_st1, fd_st2, fd_kl, fd_vI, fd_vL, fd_vN, fd_ok1, fd_v_int, xI, xL, xR, xK, xG, yI, yL, yN, -Prod.exists]
    refine hx _ (fun M1 f1 k1 => ?_)
    simp [↓wp_ldn, ↓wp_b1, ↓wp_b2, ↓wp_b2z, ↓wp_gf, ↓wp_gd, ↓wp_ga, ↓wp_gl, ↓wp_al2, ↓wp_pi, ↓wp_ltr, ↓wp_ite, ↓wp_and, ↓wp_or, ↓wp_not, ↓wp_cmp, ↓wp_cmz, ↓wp_isn, ↓wp_nsn, ↓wp_a0, ↓wp_a1, ↓wp_cv, ↓wp_cs, ↓wp_dr, ↓wp_sk, ↓wp_brk, ↓wp_cnt, ↓wp_rV, ↓wp_seq, ↓wp_iff, ↓wp_sI, ↓wp_sL, ↓wp_sN, ↓wp_inc, ↓wp_do, ↓wp_rI, ↓wp_rL, ↓wp_rN, ↓wp_rZ, ↓wp_pf, ↓wp_pz, ↓wp_pd, ↓wp_po, ↓wp_pl, ↓wp_pao, ↓wp_tsw, ↓wp_lsw, ↓wp_fn, ↓wq_ld, ↓wq_ldl, ↓wq_lda, ↓wq_c, ↓wq_gr, ↓wq_gq, ↓wq_nn, ↓wq_asI, ↓wq_asL, ↓wq_asN, ↓wq_pa, hO_0, hR_0_0, hR_0_1, hR_0_2, hR_0_3, hR_0_4, hR_0_5, hR_0_6, hR_0_7, hR_0_8, hR_0_9, hR_0_10, hR_0_11, hF_0_12, hO_1, hR_1_0, hF_1_1, hF_1_2, hF_1_3, hO_3, hR_3_0, hF_3_1, hO_5, hF_5_0, hF_5_1, hR_5_2, hR_5_3, hR_5_4, hR_5_5, hR_5_6, hR_5_7, hF_5_8, hF_5_9, hO_30, hF_30_0, hF_30_1, hF_30_2, hF_30_3, hO_31, hF_31_0, hF_31_1, hR_31_2, hR_31_3, hR_31_4, hO_35, hR_35_0, hF_35_1, hR_35_2, hF_35_3, hR_35_4, hF_35_5, hF_35_6, hR_35_7, hF_35_8, hR_35_9, hR_35_10, hO_42, hO_45, hO_48, hR_48_0, hF_48_1, hF_48_2, hR_48_3, hR_48_4, hO_94, hR_94_0, hR_94_1, hO_97, hF_97_0, hF_97_1, hF_97_2, hF_97_3, hR_97_4, hR_97_5, hR_97_6, hR_97_7, hR_97_8, hR_97_9, hR_97_10, hR_97_11, hF_97_12, hO_156, hF_156_0, hR_156_1, hR_156_2, hR_156_3, hR_156_4, hR_156_5, hR_156_6, hR_156_7, hR_156_8, fd_p_eq, fd_p_ne, fd_p_lt, fd_p_ge, fd_p_gt, fd_p_le, fd_f_iadd, fd_f_isub, fd_f_imul, fd_f_iand, fd_f_ior, fd_f_ixor, fd_f_ishl, fd_f_ishr, fd_f_iushr, fd_f_ladd, fd_f_lsub, fd_f_lmul, fd_f_lcmp, fd_f_idiv, fd_f_irem, fd_f_ldiv, fd_f_lrem, fd_f_ineg, fd_f_i2l, fd_f_l2i, fd_f_i2b, fd_f_i2s, fd_f_i2c, fd_z_idiv, fd_z_irem, fd_z_ldiv, fd_z_lrem, fd_in0, fd_sl, fd_st1, fd_st2, fd_kl, fd_vI, fd_vL, fd_vN, fd_ok1, fd_v_int, xI, xL, xR, xK, xG, yI, yL, yN, -Prod.exists, fd_run_of (s_X7_clear _), bm, bm']
    have s1 := clr f1
    have w1 := hw.cg s1 (by decide) (by decide) (by decide) (by decide)
    have u1 : ∀ a j, a ≠ 1 → a ≠ 95 → a ≠ 96 → (fd_uI M1 1 1 0).1 a j = M.1 a j := fun a j h1 h2 h3 => by
      rw [rd_I, if_neg h1, f1.1 _ _ (by rw [hRP]; omega)]
    refine sn_x_wp w1 sk (by omega) (sc.cg hf (fun j _ => u1 _ _ (by omega) (by omega) (by omega)) (fun j _ => u1 _ _ (by omega) (by omega) (by omega)) (fun j _ => u1 _ _ (by omega) (by omega) (by omega))) (pp.cg hf (Nat.le_refl _) (fun a j h => u1 _ _ (by omega) (by omega) (by omega))) hm (fun i hi => ⟨by rw [rd_I, if_neg (by omega)]; exact (k1 i hi).1, by rw [rd_I, if_neg (by omega)]; exact (k1 i hi).2, hk i hi⟩) d1 d2 d3 (fun M2 fi' g1 g2 g3 g4 g5 g6 g7 => ?_)
    have s2 : fd_sm [0, 1, 2, 7, 8] M M2 := s1.tr (g7.sm (fun k j h => by
      rcases h with h | rfl
      · exact sx_cl k j h
      · simp [cl]))
    have u2 : ∀ a j, (96 < a ∨ (4 < a ∧ a < 40)) → M2.1 a j = M.1 a j := fun a j h => by
      rw [g7.1 _ _ (by unfold sx_P pS pN pR5; omega)]
      exact u1 a j (by omega) (by omega) (by omega)
    refine hr M2 (u2 _ _ (by omega)) (fun i => u2 _ _ (by omega)) _ (fun M3 c3 h1 h2 h3 h4 => ?_)
    have s3 : fd_sm [0, 1, 2, 7, 8] M M3 := s2.tr (h1.sm snP_cl)
    have w3 := hw.cg s3 (by decide) (by decide) (by decide) (by decide)
    have u3 : ∀ a j, a ≠ 199 → (a ≠ 182 ∨ j = 34) → M3.1 a j = M2.1 a j := fun a j z1 z2 => h1.1 _ _ (by unfold sn_P; omega)
    refine sn_m_wp (Q := fun r2 Mm => r2 = .int (nI d) ∧ (∃ v, Value.int (nI d) = .int v) ∧ Inv (c + 1) Mm) w3 sk (by omega) (sm.cg hf (fun j _ => by rw [u3 _ _ (by omega) (by omega), u2 _ _ (by omega)])) (pq.cg hf (fun j => by rw [u3 _ _ (by omega) (by omega), u2 _ _ (by omega)]) (by rw [u3 _ _ (by omega) (by omega), u2 _ _ (by omega)])) pp.2.1 hm h3 (fun i hi => ⟨(h4 i hi).1, (h4 i hi).2, hk i hi⟩) d1 d2 d3 (fun M4 e1 e2 e3 e4 e5 e6 e7 => ?_)
    have hs : fd_sm [0, 1, 2, 7, 8] M M4 := s3.tr (e7.sm (fun k j h => by
      rcases h with h | rfl
      · exact sm_cl k j h
      · simp [cl]))
    have u4 : ∀ a j, a < 182 → M4.1 a j = M2.1 a j := fun a j h => by
      rw [e7.1 _ _ (by unfold sm_P pT pM; omega)]
      exact u3 _ _ (by omega) (by omega)
    have l4 : ∀ j, M4.2 4 j = M2.2 4 j := fun j => by
      rw [e7.2 _ _ (by omega), h1.2]
    have r4 : M4.1 182 14 = 0 := by
      rw [e7.1 _ _ (by unfold sm_P pT pM; omega)]
      exact h2
    refine ⟨rfl, ⟨_, rfl⟩, w.v, w.f, n, w.R, w.D, w.A, w.B, w.U, L, H, N, ?_, ?_, iv_land_cg a3 (hs.eq (by decide)), iv_fairs_cg a4 (hs.eq (by decide)), iv_sky_cg a5 (hs.eq (by decide)), iv_rule_cg a6 (hs.eq (by decide)), ?_, ?_, iv_kept_cg a9 a4.1 (by omega) (hs.eq (by decide)), iv_songs_cg a10 (hs.eq (by decide))⟩
    · refine ⟨0, by omega, ?_, r4, fun i hi => absurd hi (Nat.not_lt_zero i)⟩
      rw [u4 _ _ (by omega), g7.1 _ _ (by unfold sx_P pS pN pR5; omega), rd_I, if_pos rfl, if_pos rfl]
      rfl
    · refine ⟨3, by omega, by rw [u4 _ _ (by omega), g3]; rfl, by rw [e3]; rfl, fun i hi => ?_⟩
      rw [l4]
      match i, hi with
      | 0, _ => rw [g4, e4]
      | 1, _ => rw [g5, e5]
      | 2, _ => rw [g6, e6]
    · exact ⟨q_st w S K J d, (q_ok hw sk (fun i hi => hk i (by omega)) d2 d (Nat.le_refl _)).up (by omega), g1.cg hf (fun j _ => u4 _ _ (by omega)) (fun j _ => u4 _ _ (by omega)) (fun j _ => u4 _ _ (by omega)), e1⟩
    · exact iv_past_mk (g2.cg hf (by omega) (fun a j h => u4 _ _ (by omega))) e2
  by_cases t0 : t = 0
  · subst t0
    refine fin 0 (fun _ => 0) (fun _ => 0) (by omega) (fun i hi => absurd hi (Nat.not_lt_zero i)) (fun Q hQ => s_X0_read0 b2 (fun M2 g => hQ M2 (by rw [hRP]; exact g) (fun i hi => absurd hi (Nat.not_lt_zero i)))) (fun M1 g1 g2 Q hQ => sn_read0 (by rw [g1]; exact b3) (fun M2 c3 k1 k2 k3 => hQ M2 c3 k1 k2 k3 (fun i hi => absurd hi (Nat.not_lt_zero i))))
  obtain ⟨l, hl⟩ : ∃ l, l = min t 60 := ⟨_, rfl⟩
  obtain ⟨n', n1, n2, n3⟩ := ac_ex (ch := ch) (l := l) (by omega)
  have hcl : ∀ i, i < l → ∃ c, c < 256 ∧ ch i = nI c := fun i hi => (hX i (by omega)).2
  have hMr : ∀ {M1 : fd_M}, (∀ i, M1.1 189 i = M.1 189 i) → ∀ i, i < t → ∃ c, by_ok (M1.1 189 i) c ∧ ch i = nI c := fun g i hi => by rw [g]; exact hM i hi
  by_cases good : ac_ok ch l (ac_p ch l n') ∧ ac_e ch l (ac_p ch l n') = t
  · have v1 : ¬ ac_ok ch l (ac_p ch l n') → nI (n' + 1) = -1 - nI (ac_f ch l (ac_p ch l n')) := fun q => absurd good.1 q
    have v2 : ac_ok ch l (ac_p ch l n') → nI (n' + 1) = if ac_e ch l (ac_p ch l n') = t then nI (n' + 1) else -1 - nI (ac_e ch l (ac_p ch l n')) := fun _ => by rw [if_pos good.2]
    refine fin (n' + 1) (fun i => ch (ac_p ch l i)) (fun i => ac_n ch l (ac_p ch l i)) (by omega) (fun i hi => ac_s2 hcl ?_) (fun Q hQ => s_X0_read b2 b1 (by omega) hX hl n2 n3 v1 v2 (fun M2 g1 g2 => hQ M2 (by rw [hRP]; exact g1) (g2 good.1))) (fun M1 g1 g2 Q hQ => sn_read (by rw [g1]; exact b3) b1 (by omega) (hMr g2) hl n2 n3 v1 v2 (fun q => absurd good.2 (q good.1)) (fun _ _ M2 c3 k1 k2 k3 k4 => hQ M2 c3 k1 k2 k3 k4))
    by_cases e : i = n'
    · rw [e]; exact good.1
    · exact (n2 i (by omega)).1
  · obtain ⟨q, q1, v1, v2⟩ : ∃ q, q < 1000 ∧ (¬ ac_ok ch l (ac_p ch l n') → -1 - nI q = -1 - nI (ac_f ch l (ac_p ch l n'))) ∧ (ac_ok ch l (ac_p ch l n') → -1 - nI q = if ac_e ch l (ac_p ch l n') = t then nI (n' + 1) else -1 - nI (ac_e ch l (ac_p ch l n'))) := by
      have := ac_pl n' n2
      by_cases ok : ac_ok ch l (ac_p ch l n')
      · have := ac_s1 ok
        exact ⟨ac_e ch l (ac_p ch l n'), by omega, fun z => absurd ok z, fun _ => by rw [if_neg (fun z => good ⟨ok, z⟩)]⟩
      · refine ⟨ac_f ch l (ac_p ch l n'), ?_, fun _ => rfl, fun z => absurd z ok⟩
        unfold ac_f
        split <;> omega
    have neg := neg_nI q1
    simp [↓wp_ldn, ↓wp_b1, ↓wp_b2, ↓wp_b2z, ↓wp_gf, ↓wp_gd, ↓wp_ga, ↓wp_gl, ↓wp_al2, ↓wp_pi, ↓wp_ltr, ↓wp_ite, ↓wp_and, ↓wp_or, ↓wp_not, ↓wp_cmp, ↓wp_cmz, ↓wp_isn, ↓wp_nsn, ↓wp_a0, ↓wp_a1, ↓wp_cv, ↓wp_cs, ↓wp_dr, ↓wp_sk, ↓wp_brk, ↓wp_cnt, ↓wp_rV, ↓wp_seq, ↓wp_iff, ↓wp_sI, ↓wp_sL, ↓wp_sN, ↓wp_inc, ↓wp_do, ↓wp_rI, ↓wp_rL, ↓wp_rN, ↓wp_rZ, ↓wp_pf, ↓wp_pz, ↓wp_pd, ↓wp_po, ↓wp_pl, ↓wp_pao, ↓wp_tsw, ↓wp_lsw, ↓wp_fn, ↓wq_ld, ↓wq_ldl, ↓wq_lda, ↓wq_c, ↓wq_gr, ↓wq_gq, ↓wq_nn, ↓wq_asI, ↓wq_asL, ↓wq_asN, ↓wq_pa, hO_0, hR_0_0, hR_0_1, hR_0_2, hR_0_3, hR_0_4, hR_0_5, hR_0_6, hR_0_7, hR_0_8, hR_0_9, hR_0_10, hR_0_11, hF_0_12, hO_1, hR_1_0, hF_1_1, hF_1_2, hF_1_3, hO_3, hR_3_0, hF_3_1, hO_5, hF_5_0, hF_5_1, hR_5_2, hR_5_3, hR_5_4, hR_5_5, hR_5_6, hR_5_7, hF_5_8, hF_5_9, hO_30, hF_30_0, hF_30_1, hF_30_2, hF_30_3, hO_31, hF_31_0, hF_31_1, hR_31_2, hR_31_3, hR_31_4, hO_35, hR_35_0, hF_35_1, hR_35_2, hF_35_3, hR_35_4, hF_35_5, hF_35_6, hR_35_7, hF_35_8, hR_35_9, hR_35_10, hO_42, hO_45, hO_48, hR_48_0, hF_48_1, hF_48_2, hR_48_3, hR_48_4, hO_94, hR_94_0, hR_94_1, hO_97, hF_97_0, hF_97_1, hF_97_2, hF_97_3, hR_97_4, hR_97_5, hR_97_6, hR_97_7, hR_97_8, hR_97_9, hR_97_10, hR_97_11, hF_97_12, hO_156, hF_156_0, hR_156_1, hR_156_2, hR_156_3, hR_156_4, hR_156_5, hR_156_6, hR_156_7, hR_156_8, fd_p_eq, fd_p_ne, fd_p_lt, fd_p_ge, fd_p_gt, fd_p_le, fd_f_iadd, fd_f_isub, fd_f_imul, fd_f_iand, fd_f_ior, fd_f_ixor, fd_f_ishl, fd_f_ishr, fd_f_iushr, fd_f_ladd, fd_f_lsub, fd_f_lmul, fd_f_lcmp, fd_f_idiv, fd_f_irem, fd_f_ldiv, fd_f_lrem, fd_f_ineg, fd_f_i2l, fd_f_l2i, fd_f_i2b, fd_f_i2s, fd_f_i2c, fd_z_idiv, fd_z_irem, fd_z_ldiv, fd_z_lrem, fd_in0, fd_sl, fd_st1, fd_st2, fd_kl, fd_vI, fd_vL, fd_vN, fd_ok1, fd_v_int, xI, xL, xR, xK, xG, yI, yL, yN, -Prod.exists]
    refine s_X0_read b2 b1 (by omega) hX hl n2 n3 v1 v2 (fun M1 g1 _ => ?_)
    have f1 : fP RP M M1 := by rw [hRP]; exact g1
    simp [↓wp_ldn, ↓wp_b1, ↓wp_b2, ↓wp_b2z, ↓wp_gf, ↓wp_gd, ↓wp_ga, ↓wp_gl, ↓wp_al2, ↓wp_pi, ↓wp_ltr, ↓wp_ite, ↓wp_and, ↓wp_or, ↓wp_not, ↓wp_cmp, ↓wp_cmz, ↓wp_isn, ↓wp_nsn, ↓wp_a0, ↓wp_a1, ↓wp_cv, ↓wp_cs, ↓wp_dr, ↓wp_sk, ↓wp_brk, ↓wp_cnt, ↓wp_rV, ↓wp_seq, ↓wp_iff, ↓wp_sI, ↓wp_sL, ↓wp_sN, ↓wp_inc, ↓wp_do, ↓wp_rI, ↓wp_rL, ↓wp_rN, ↓wp_rZ, ↓wp_pf, ↓wp_pz, ↓wp_pd, ↓wp_po, ↓wp_pl, ↓wp_pao, ↓wp_tsw, ↓wp_lsw, ↓wp_fn, ↓wq_ld, ↓wq_ldl, ↓wq_lda, ↓wq_c, ↓wq_gr, ↓wq_gq, ↓wq_nn, ↓wq_asI, ↓wq_asL, ↓wq_asN, ↓wq_pa, hO_0, hR_0_0, hR_0_1, hR_0_2, hR_0_3, hR_0_4, hR_0_5, hR_0_6, hR_0_7, hR_0_8, hR_0_9, hR_0_10, hR_0_11, hF_0_12, hO_1, hR_1_0, hF_1_1, hF_1_2, hF_1_3, hO_3, hR_3_0, hF_3_1, hO_5, hF_5_0, hF_5_1, hR_5_2, hR_5_3, hR_5_4, hR_5_5, hR_5_6, hR_5_7, hF_5_8, hF_5_9, hO_30, hF_30_0, hF_30_1, hF_30_2, hF_30_3, hO_31, hF_31_0, hF_31_1, hR_31_2, hR_31_3, hR_31_4, hO_35, hR_35_0, hF_35_1, hR_35_2, hF_35_3, hR_35_4, hF_35_5, hF_35_6, hR_35_7, hF_35_8, hR_35_9, hR_35_10, hO_42, hO_45, hO_48, hR_48_0, hF_48_1, hF_48_2, hR_48_3, hR_48_4, hO_94, hR_94_0, hR_94_1, hO_97, hF_97_0, hF_97_1, hF_97_2, hF_97_3, hR_97_4, hR_97_5, hR_97_6, hR_97_7, hR_97_8, hR_97_9, hR_97_10, hR_97_11, hF_97_12, hO_156, hF_156_0, hR_156_1, hR_156_2, hR_156_3, hR_156_4, hR_156_5, hR_156_6, hR_156_7, hR_156_8, fd_p_eq, fd_p_ne, fd_p_lt, fd_p_ge, fd_p_gt, fd_p_le, fd_f_iadd, fd_f_isub, fd_f_imul, fd_f_iand, fd_f_ior, fd_f_ixor, fd_f_ishl, fd_f_ishr, fd_f_iushr, fd_f_ladd, fd_f_lsub, fd_f_lmul, fd_f_lcmp, fd_f_idiv, fd_f_irem, fd_f_ldiv, fd_f_lrem, fd_f_ineg, fd_f_i2l, fd_f_l2i, fd_f_i2b, fd_f_i2s, fd_f_i2c, fd_z_idiv, fd_z_irem, fd_z_ldiv, fd_z_lrem, fd_in0, fd_sl, fd_st1, fd_st2, fd_kl, fd_vI, fd_vL, fd_vN, fd_ok1, fd_v_int, xI, xL, xR, xK, xG, yI, yL, yN, -Prod.exists, fd_run_of (s_X7_clear _), neg]
    have s1 := clr f1
    have u1 : ∀ a j, a ≠ 1 → a ≠ 95 → a ≠ 96 → (fd_uI M1 1 1 0).1 a j = M.1 a j := fun a j h1 h2 h3 => by
      rw [rd_I, if_neg h1, f1.1 _ _ (by rw [hRP]; omega)]
    refine sn_read (by rw [u1 _ _ (by omega) (by omega) (by omega)]; exact b3) b1 (by omega) (hMr (fun i => u1 _ _ (by omega) (by omega) (by omega))) hl n2 n3 v1 v2 (fun _ M2 k1 k2 => ?_) (fun z1 z2 => absurd ⟨z1, z2⟩ good)
    have hs : fd_sm [0, 1, 2, 7, 8] M M2 := s1.tr (k1.sm snP_cl)
    have u2 : ∀ a j, a ≠ 1 → a ≠ 95 → a ≠ 96 → a ≠ 182 → a ≠ 199 → M2.1 a j = M.1 a j := fun a j h1 h2 h3 h4 h5 => by
      rw [k1.1 _ _ (by unfold sn_P; omega)]
      exact u1 a j h1 h2 h3
    have i16 : M2.1 182 16 = M.1 182 16 := by
      rw [k1.1 _ _ (by unfold sn_P; omega)]
      exact u1 _ _ (by omega) (by omega) (by omega)
    have i34 : M2.1 182 34 = M.1 182 34 := by
      rw [k1.1 _ _ (by unfold sn_P; omega)]
      exact u1 _ _ (by omega) (by omega) (by omega)
    have i2 : M2.2 = M.2 := k1.2.trans f1.2
    refine ⟨rfl, ⟨_, rfl⟩, w.v, w.f, n, w.R, w.D, w.A, w.B, w.U, L, H, N, ?_, ?_, iv_land_cg a3 (hs.eq (by decide)), iv_fairs_cg a4 (hs.eq (by decide)), iv_sky_cg a5 (hs.eq (by decide)), iv_rule_cg a6 (hs.eq (by decide)), ?_, ?_, iv_kept_cg a9 a4.1 (by omega) (hs.eq (by decide)), iv_songs_cg a10 (hs.eq (by decide))⟩
    · refine ⟨0, by omega, ?_, k2, fun i hi => absurd hi (Nat.not_lt_zero i)⟩
      rw [k1.1 _ _ (by unfold sn_P; omega), rd_I, if_pos rfl, if_pos rfl]
      rfl
    · obtain ⟨x, x1, x2, x3, x4⟩ := a2
      exact ⟨x, x1, by rw [u2 _ _ (by omega) (by omega) (by omega) (by omega) (by omega)]; exact x2, by rw [i16]; exact x3, fun i hi => by rw [i2]; exact x4 i hi⟩
    · exact ⟨S, sk.up (by omega), sc.cg hf (fun j _ => u2 _ _ (by omega) (by omega) (by omega) (by omega) (by omega)) (fun j _ => u2 _ _ (by omega) (by omega) (by omega) (by omega) (by omega)) (fun j _ => u2 _ _ (by omega) (by omega) (by omega) (by omega) (by omega)), sm.cg hf (fun j _ => u2 _ _ (by omega) (by omega) (by omega) (by omega) (by omega))⟩
    · exact iv_past_mk (pp.cg hf (by omega) (fun a j h => u2 _ _ (by omega) (by omega) (by omega) (by omega) (by omega))) (pq.cg hf (fun j => u2 _ _ (by omega) (by omega) (by omega) (by omega) (by omega)) i34)
