/-! ===== THE RULE at the class: a thing, and all of it ===== -/
section CT
variable {t l p : Nat} {ch : Nat → Int32} {M : fd_M}
theorem s_X2_takeThing (hl : l ≤ 40) {D W : List Int32} {d : Nat} {cm : Nat → Bool} (h : sm t l ch (D, W, d, cm, true, p) M) (hp : p < l) : fd_run m_X2_takeThing [.ref 35, .ref 1] M (sa t l ch p (sy_step ch l (D, W, d, cm, true, p)) M) := by
  obtain ⟨c1, c2, c3, c4, c5, c6, c7, c8, c9, c10⟩ := h
  have el := s_X7_look c1 c2 (by omega)
  rw [if_pos hp] at el
  have h1 : ∀ q : Nat, dw D W (fd_uI M 1 2 (nI q)) := fun q => c4.cg (P := fun k j => k = 1) (fP.rf.uI rfl) (by omega) (by omega) (fun i => by omega) (fun i => by omega)
  unfold m_X2_takeThing b_X2_takeThing
  rw [sy_step_t]
  by_cases k45 : ch p = 45
  · rw [if_pos k45]
    have hh := s_X2_hold (h1 (p + 1)).2.2.1 (by omega) 256
    simp [↓wp_ldn, ↓wp_b1, ↓wp_b2, ↓wp_b2z, ↓wp_gf, ↓wp_gd, ↓wp_ga, ↓wp_gl, ↓wp_al2, ↓wp_pi, ↓wp_ltr, ↓wp_ite, ↓wp_and, ↓wp_or, ↓wp_not, ↓wp_cmp, ↓wp_cmz, ↓wp_isn, ↓wp_nsn, ↓wp_a0, ↓wp_a1, ↓wp_cv, ↓wp_cs, ↓wp_dr, ↓wp_sk, ↓wp_brk, ↓wp_cnt, ↓wp_rV, ↓wp_seq, ↓wp_iff, ↓wp_sI, ↓wp_sL, ↓wp_sN, ↓wp_inc, ↓wp_do, ↓wp_rI, ↓wp_rL, ↓wp_rN, ↓wp_rZ, ↓wp_pf, ↓wp_pz, ↓wp_pd, ↓wp_po, ↓wp_pl, ↓wp_pao, ↓wp_tsw, ↓wp_lsw, ↓wp_fn, ↓wq_ld, ↓wq_ldl, ↓wq_lda, ↓wq_c, ↓wq_gr, ↓wq_gq, ↓wq_nn, ↓wq_asI, ↓wq_asL, ↓wq_asN, ↓wq_pa, hO_0, hR_0_0, hR_0_1, hR_0_2, hR_0_3, hR_0_4, hR_0_5, hR_0_6, hR_0_7, hR_0_8, hR_0_9, hR_0_10, hR_0_11, hF_0_12, hO_1, hR_1_0, hF_1_1, hF_1_2, hF_1_3, hO_3, hR_3_0, hF_3_1, hO_5, hF_5_0, hF_5_1, hR_5_2, hR_5_3, hR_5_4, hR_5_5, hR_5_6, hR_5_7, hF_5_8, hF_5_9, hO_30, hF_30_0, hF_30_1, hF_30_2, hF_30_3, hO_31, hF_31_0, hF_31_1, hR_31_2, hR_31_3, hR_31_4, hO_35, hR_35_0, hF_35_1, hR_35_2, hF_35_3, hR_35_4, hF_35_5, hF_35_6, hR_35_7, hF_35_8, hR_35_9, hR_35_10, hO_42, hO_45, hO_48, hR_48_0, hF_48_1, hF_48_2, hR_48_3, hR_48_4, hO_94, hR_94_0, hR_94_1, hO_97, hF_97_0, hF_97_1, hF_97_2, hF_97_3, hR_97_4, hR_97_5, hR_97_6, hR_97_7, hR_97_8, hR_97_9, hR_97_10, hR_97_11, hF_97_12, hO_156, hF_156_0, hR_156_1, hR_156_2, hR_156_3, hR_156_4, hR_156_5, hR_156_6, hR_156_7, hR_156_8, fd_p_eq, fd_p_ne, fd_p_lt, fd_p_ge, fd_p_gt, fd_p_le, fd_f_iadd, fd_f_isub, fd_f_imul, fd_f_iand, fd_f_ior, fd_f_ixor, fd_f_ishl, fd_f_ishr, fd_f_iushr, fd_f_ladd, fd_f_lsub, fd_f_lmul, fd_f_lcmp, fd_f_idiv, fd_f_irem, fd_f_ldiv, fd_f_lrem, fd_f_ineg, fd_f_i2l, fd_f_l2i, fd_f_i2b, fd_f_i2s, fd_f_i2c, fd_z_idiv, fd_z_irem, fd_z_ldiv, fd_z_lrem, fd_in0, fd_sl, fd_st1, fd_st2, fd_kl, fd_vI, fd_vL, fd_vN, fd_ok1, fd_v_int, xI, xL, xR, xK, xG, yI, yL, yN, -Prod.exists, fd_run_of (s_X7_take_t c1 c2 hp k45), fd_run_of hh]
    refine ⟨((fP.rf.uI (by unfold pU; omega)).uI (by unfold pU; omega)).uI (by unfold pU; omega), rfl, ?_, by simp [rd_I], by omega, (h1 (p + 1)).hold 256, by simp [rd_I, c5], c6, fun k hk => by simp [rd_I]; exact c7 k hk, by simp [rd_I, c8], by simp; omega, by rw [List.count_cons_of_ne (by decide)]; exact c10⟩
    exact c1.cg (P := fun k j => (k = 1 ∧ j = 2) ∨ k = 38 ∨ k = 35) (((fP.rf.uI (by omega)).uI (by omega)).uI (by omega)) (by omega) (by omega) (fun i => by omega)
  rw [if_neg k45]
  have f45 := s_X7_take_f c1 c2 (by omega) (c := 45) (by decide) (fun z => k45 z.2)
  have b0 : (0 : Int32) ≤ nI d := nI_pos' (by omega)
  by_cases k40 : ch p = 40 ∧ d < 4
  · rw [if_pos k40]
    have b1 : nI d < 4 := nI_lt (b := 4) k40.2 (by decide)
    have hh := s_X2_hold (h1 (p + 1)).2.2.1 (by omega) 40
    simp [↓wp_ldn, ↓wp_b1, ↓wp_b2, ↓wp_b2z, ↓wp_gf, ↓wp_gd, ↓wp_ga, ↓wp_gl, ↓wp_al2, ↓wp_pi, ↓wp_ltr, ↓wp_ite, ↓wp_and, ↓wp_or, ↓wp_not, ↓wp_cmp, ↓wp_cmz, ↓wp_isn, ↓wp_nsn, ↓wp_a0, ↓wp_a1, ↓wp_cv, ↓wp_cs, ↓wp_dr, ↓wp_sk, ↓wp_brk, ↓wp_cnt, ↓wp_rV, ↓wp_seq, ↓wp_iff, ↓wp_sI, ↓wp_sL, ↓wp_sN, ↓wp_inc, ↓wp_do, ↓wp_rI, ↓wp_rL, ↓wp_rN, ↓wp_rZ, ↓wp_pf, ↓wp_pz, ↓wp_pd, ↓wp_po, ↓wp_pl, ↓wp_pao, ↓wp_tsw, ↓wp_lsw, ↓wp_fn, ↓wq_ld, ↓wq_ldl, ↓wq_lda, ↓wq_c, ↓wq_gr, ↓wq_gq, ↓wq_nn, ↓wq_asI, ↓wq_asL, ↓wq_asN, ↓wq_pa, hO_0, hR_0_0, hR_0_1, hR_0_2, hR_0_3, hR_0_4, hR_0_5, hR_0_6, hR_0_7, hR_0_8, hR_0_9, hR_0_10, hR_0_11, hF_0_12, hO_1, hR_1_0, hF_1_1, hF_1_2, hF_1_3, hO_3, hR_3_0, hF_3_1, hO_5, hF_5_0, hF_5_1, hR_5_2, hR_5_3, hR_5_4, hR_5_5, hR_5_6, hR_5_7, hF_5_8, hF_5_9, hO_30, hF_30_0, hF_30_1, hF_30_2, hF_30_3, hO_31, hF_31_0, hF_31_1, hR_31_2, hR_31_3, hR_31_4, hO_35, hR_35_0, hF_35_1, hR_35_2, hF_35_3, hR_35_4, hF_35_5, hF_35_6, hR_35_7, hF_35_8, hR_35_9, hR_35_10, hO_42, hO_45, hO_48, hR_48_0, hF_48_1, hF_48_2, hR_48_3, hR_48_4, hO_94, hR_94_0, hR_94_1, hO_97, hF_97_0, hF_97_1, hF_97_2, hF_97_3, hR_97_4, hR_97_5, hR_97_6, hR_97_7, hR_97_8, hR_97_9, hR_97_10, hR_97_11, hF_97_12, hO_156, hF_156_0, hR_156_1, hR_156_2, hR_156_3, hR_156_4, hR_156_5, hR_156_6, hR_156_7, hR_156_8, fd_p_eq, fd_p_ne, fd_p_lt, fd_p_ge, fd_p_gt, fd_p_le, fd_f_iadd, fd_f_isub, fd_f_imul, fd_f_iand, fd_f_ior, fd_f_ixor, fd_f_ishl, fd_f_ishr, fd_f_iushr, fd_f_ladd, fd_f_lsub, fd_f_lmul, fd_f_lcmp, fd_f_idiv, fd_f_irem, fd_f_ldiv, fd_f_lrem, fd_f_ineg, fd_f_i2l, fd_f_l2i, fd_f_i2b, fd_f_i2s, fd_f_i2c, fd_z_idiv, fd_z_irem, fd_z_ldiv, fd_z_lrem, fd_in0, fd_sl, fd_st1, fd_st2, fd_kl, fd_vI, fd_vL, fd_vN, fd_ok1, fd_v_int, xI, xL, xR, xK, xG, yI, yL, yN, -Prod.exists, fd_run_of f45, c5, b0, b1, fd_run_of (s_X7_take_t c1 c2 hp k40.1), fd_run_of hh, rd_I, nI_1, hA_39 (show d + 1 < 5 by omega), nI_clamp (show d + 1 < 2 ^ 31 by omega), fd_v_bool]
    refine ⟨((((fP.rf.uI (by unfold pU; omega)).uI (by unfold pU; omega)).uI (by unfold pU; omega)).uI (by unfold pU; omega)).uI (by unfold pU; omega), rfl, ?_, by simp [rd_I], by omega, ?_, by simp [rd_I], by omega, fun k hk => ?_, by simp [rd_I, c8], by simp; omega, by rw [List.count_cons_self, c10]⟩
    · exact c1.cg (P := fun k j => (k = 1 ∧ j = 2) ∨ k = 38 ∨ k = 35 ∨ k = 39) (((((fP.rf.uI (by omega)).uI (by omega)).uI (by omega)).uI (by omega)).uI (by omega)) (by omega) (by omega) (fun i => by omega)
    · exact ((h1 (p + 1)).hold 40).cg (P := fun k j => (k = 35 ∧ j = 6) ∨ k = 39) ((fP.rf.uI (by omega)).uI (by omega)) (by omega) (by omega) (fun i => by omega) (fun i => by omega)
    · unfold sy_up
      simp [rd_I]
      by_cases q : k = d + 1
      · simp [q]
      · simp [q]; rw [c7 k (by omega)]
  rw [if_neg k40]
  -- behind both: a number or a letter
  have fin : ∀ (x : Int32) (q : Nat), p < q → q ≤ l → ∃ M3, m_X2_write [.ref 35, .int x] (fd_uI M 1 2 (nI q)) = some (fd_jk, M3) ∧ sa t l ch p (some (D ++ [x], W, d, cm, false, q)) M (.int 1) (fd_uI M3 35 8 0) := fun x q hq1 hq2 => by
    refine ⟨_, s_X2_write (h1 q).1 (by omega) x, ((((fP.rf.uI (by unfold pU; omega)).uI (by unfold pU; omega)).uI (by unfold pU; omega)).uI (by unfold pU; omega)), rfl, ?_, by simp [rd_I], hq2, ?_, by simp [rd_I, c5], c6, fun k hk => by simp [rd_I]; exact c7 k hk, by simp [rd_I], by simp; omega, c10⟩
    · exact c1.cg (P := fun k j => (k = 1 ∧ j = 2) ∨ k = 37 ∨ k = 35) ((((fP.rf.uI (by omega)).uI (by omega)).uI (by omega)).uI (by omega)) (by omega) (by omega) (fun i => by omega)
    · exact ((h1 q).write x).cg (P := fun k j => k = 35 ∧ j = 8) (fP.rf.uI (by omega)) (by omega) (by omega) (fun i => by omega) (fun i => by omega)
  have fno : fd_run m_X7_takeNumber [.ref 1, .int 3] M (fun v M' => if ru_dig (ch p) = true then (∃ m, m < 1000 ∧ v = .int (nI m) ∧ (ru_num ch l 3 p 0).1 = nI m) ∧ M' = fd_uI M 1 2 (nI (ru_num ch l 3 p 0).2) ∧ p < (ru_num ch l 3 p 0).2 ∧ (ru_num ch l 3 p 0).2 ≤ l else v = .int (-1) ∧ M' = M) := by
    by_cases kd : ru_dig (ch p) = true
    · have e := s_X7_takeNumber_t c1 c2 ⟨hp, kd⟩ (d := 3) (by omega)
      obtain ⟨m, m1, m2⟩ := ru_num_b (fun i hi => (c1.2.2.2.2 i hi).2) 3 p 0 (by omega)
      rw [nI_0] at m1
      refine ⟨_, _, e, ?_⟩
      dsimp only
      rw [if_pos kd]
      refine ⟨⟨m, by omega, by rw [m1], m1⟩, rfl, ?_, ru_num_le ch l 3 p 0 (by omega)⟩
      have : ru_num ch l 3 p 0 = ru_num ch l 2 (p + 1) (10 * 0 + (ch p - 48)) := by
        show (if p < l ∧ ru_dig (ch p) = true then ru_num ch l 2 (p + 1) (10 * 0 + (ch p - 48)) else (0, p)) = _
        rw [if_pos ⟨hp, kd⟩]
      rw [this]
      have := ru_num_gt ch l 2 (p + 1) (10 * 0 + (ch p - 48))
      omega
    · refine ⟨_, _, s_X7_takeNumber_f c1 c2 (by omega) (fun z => kd z.2) 3, ?_⟩
      dsimp only
      rw [if_neg kd]
      exact ⟨rfl, rfl⟩
  have hT : fd_run m_X7_take [.ref 1, .int 40] M (fun v M' => d < 4 → v = .int 0 ∧ M' = M) := by
    by_cases q : ch p = 40
    · exact ⟨_, _, s_X7_take_t c1 c2 hp q, fun z => absurd ⟨q, z⟩ k40⟩
    · exact ⟨_, _, s_X7_take_f c1 c2 (by omega) (c := 40) (by decide) (fun z => q z.2), fun _ => ⟨rfl, rfl⟩⟩
  have rest : ∀ Q : Value → fd_M → Prop, (∀ v M', sa t l ch p (if ru_dig (ch p) = true then some (D ++ [(ru_num ch l 3 p 0).1], W, d, cm, false, (ru_num ch l 3 p 0).2) else if ru_let (ch p) ≠ -1 then some (D ++ [1000 + ru_let (ch p)], W, d, cm, false, p + 1) else none) M v M' → Q v M') → fd_wp (fd_seq (fd_sI 2 (fd_as fd_vI (fd_cv 7 1 m_X7_takeNumber (fd_a1 .int (fd_a1 .ref fd_a0 (fd_lda 1)) (fd_c (3 : Int32)))))) (fd_seq (fd_iff (fd_cmz fd_p_lt (fd_ld 2)) (fd_seq (fd_sI 3 (fd_as fd_vI (fd_cv 2 1 m_X2_letterAt (fd_a1 .int (fd_a1 .ref fd_a0 (fd_lda 0)) (fd_as fd_vI (fd_cv 7 0 m_X7_look (fd_a1 .ref fd_a0 (fd_lda 1)))))))) (fd_seq (fd_iff (fd_or (fd_cmz fd_p_lt (fd_ld 3)) (fd_not (fd_cmz fd_p_ne (fd_as fd_vI (fd_cv 7 1 m_X7_take (fd_a1 .int (fd_a1 .ref fd_a0 (fd_lda 1)) (fd_as fd_vI (fd_cv 7 0 m_X7_look (fd_a1 .ref fd_a0 (fd_lda 1)))))))))) (fd_rZ (fd_c (0 : Int32))) fd_sk) (fd_sI 2 (fd_b2 fd_f_iadd (fd_c (1000 : Int32)) (fd_ld 3))))) fd_sk) (fd_seq (fd_do (fd_cv 2 1 m_X2_write (fd_a1 .int (fd_a1 .ref fd_a0 (fd_lda 0)) (fd_ld 2)))) (fd_seq (fd_pz 2 8 (fd_lda 0) (fd_c (0 : Int32))) (fd_rZ (fd_c (1 : Int32))))))) ([.ref 35, .ref 1, fd_jk, fd_jk], M) (fun z v s => z = 1 ∧ Q v s.2) := by
    intro Q hQ
    simp [↓wp_ldn, ↓wp_b1, ↓wp_b2, ↓wp_b2z, ↓wp_gf, ↓wp_gd, ↓wp_ga, ↓wp_gl, ↓wp_al2, ↓wp_pi, ↓wp_ltr, ↓wp_ite, ↓wp_and, ↓wp_or, ↓wp_not, ↓wp_cmp, ↓wp_cmz, ↓wp_isn, ↓wp_nsn, ↓wp_a0, ↓wp_a1, ↓wp_cv, ↓wp_cs, ↓wp_dr, ↓wp_sk, ↓wp_brk, ↓wp_cnt, ↓wp_rV, ↓wp_seq, ↓wp_iff, ↓wp_sI, ↓wp_sL, ↓wp_sN, ↓wp_inc, ↓wp_do, ↓wp_rI, ↓wp_rL, ↓wp_rN, ↓wp_rZ, ↓wp_pf, ↓wp_pz, ↓wp_pd, ↓wp_po, ↓wp_pl, ↓wp_pao, ↓wp_tsw, ↓wp_lsw, ↓wp_fn, ↓wq_ld, ↓wq_ldl, ↓wq_lda, ↓wq_c, ↓wq_gr, ↓wq_gq, ↓wq_nn, ↓wq_asI, ↓wq_asL, ↓wq_asN, ↓wq_pa, hO_0, hR_0_0, hR_0_1, hR_0_2, hR_0_3, hR_0_4, hR_0_5, hR_0_6, hR_0_7, hR_0_8, hR_0_9, hR_0_10, hR_0_11, hF_0_12, hO_1, hR_1_0, hF_1_1, hF_1_2, hF_1_3, hO_3, hR_3_0, hF_3_1, hO_5, hF_5_0, hF_5_1, hR_5_2, hR_5_3, hR_5_4, hR_5_5, hR_5_6, hR_5_7, hF_5_8, hF_5_9, hO_30, hF_30_0, hF_30_1, hF_30_2, hF_30_3, hO_31, hF_31_0, hF_31_1, hR_31_2, hR_31_3, hR_31_4, hO_35, hR_35_0, hF_35_1, hR_35_2, hF_35_3, hR_35_4, hF_35_5, hF_35_6, hR_35_7, hF_35_8, hR_35_9, hR_35_10, hO_42, hO_45, hO_48, hR_48_0, hF_48_1, hF_48_2, hR_48_3, hR_48_4, hO_94, hR_94_0, hR_94_1, hO_97, hF_97_0, hF_97_1, hF_97_2, hF_97_3, hR_97_4, hR_97_5, hR_97_6, hR_97_7, hR_97_8, hR_97_9, hR_97_10, hR_97_11, hF_97_12, hO_156, hF_156_0, hR_156_1, hR_156_2, hR_156_3, hR_156_4, hR_156_5, hR_156_6, hR_156_7, hR_156_8, fd_p_eq, fd_p_ne, fd_p_lt, fd_p_ge, fd_p_gt, fd_p_le, fd_f_iadd, fd_f_isub, fd_f_imul, fd_f_iand, fd_f_ior, fd_f_ixor, fd_f_ishl, fd_f_ishr, fd_f_iushr, fd_f_ladd, fd_f_lsub, fd_f_lmul, fd_f_lcmp, fd_f_idiv, fd_f_irem, fd_f_ldiv, fd_f_lrem, fd_f_ineg, fd_f_i2l, fd_f_l2i, fd_f_i2b, fd_f_i2s, fd_f_i2c, fd_z_idiv, fd_z_irem, fd_z_ldiv, fd_z_lrem, fd_in0, fd_sl, fd_st1, fd_st2, fd_kl, fd_vI, fd_vL, fd_vN, fd_ok1, fd_v_int, xI, xL, xR, xK, xG, yI, yL, yN, -Prod.exists]
    refine fd_run_mono fno (fun v M' hv => ?_)
    by_cases kd : ru_dig (ch p) = true
    · rw [if_pos kd] at hv hQ
      obtain ⟨⟨m, m1, rfl, m2⟩, rfl, m4, m5⟩ := hv
      obtain ⟨M3, w1, w2⟩ := fin (ru_num ch l 3 p 0).1 _ m4 m5
      have b : ¬ nI m < 0 := nI_pos (by omega)
      have b2 : (0 : Int32) ≤ nI m := nI_pos' (by omega)
      rw [m2] at w1 w2 hQ
      simp [↓wp_ldn, ↓wp_b1, ↓wp_b2, ↓wp_b2z, ↓wp_gf, ↓wp_gd, ↓wp_ga, ↓wp_gl, ↓wp_al2, ↓wp_pi, ↓wp_ltr, ↓wp_ite, ↓wp_and, ↓wp_or, ↓wp_not, ↓wp_cmp, ↓wp_cmz, ↓wp_isn, ↓wp_nsn, ↓wp_a0, ↓wp_a1, ↓wp_cv, ↓wp_cs, ↓wp_dr, ↓wp_sk, ↓wp_brk, ↓wp_cnt, ↓wp_rV, ↓wp_seq, ↓wp_iff, ↓wp_sI, ↓wp_sL, ↓wp_sN, ↓wp_inc, ↓wp_do, ↓wp_rI, ↓wp_rL, ↓wp_rN, ↓wp_rZ, ↓wp_pf, ↓wp_pz, ↓wp_pd, ↓wp_po, ↓wp_pl, ↓wp_pao, ↓wp_tsw, ↓wp_lsw, ↓wp_fn, ↓wq_ld, ↓wq_ldl, ↓wq_lda, ↓wq_c, ↓wq_gr, ↓wq_gq, ↓wq_nn, ↓wq_asI, ↓wq_asL, ↓wq_asN, ↓wq_pa, hO_0, hR_0_0, hR_0_1, hR_0_2, hR_0_3, hR_0_4, hR_0_5, hR_0_6, hR_0_7, hR_0_8, hR_0_9, hR_0_10, hR_0_11, hF_0_12, hO_1, hR_1_0, hF_1_1, hF_1_2, hF_1_3, hO_3, hR_3_0, hF_3_1, hO_5, hF_5_0, hF_5_1, hR_5_2, hR_5_3, hR_5_4, hR_5_5, hR_5_6, hR_5_7, hF_5_8, hF_5_9, hO_30, hF_30_0, hF_30_1, hF_30_2, hF_30_3, hO_31, hF_31_0, hF_31_1, hR_31_2, hR_31_3, hR_31_4, hO_35, hR_35_0, hF_35_1, hR_35_2, hF_35_3, hR_35_4, hF_35_5, hF_35_6, hR_35_7, hF_35_8, hR_35_9, hR_35_10, hO_42, hO_45, hO_48, hR_48_0, hF_48_1, hF_48_2, hR_48_3, hR_48_4, hO_94, hR_94_0, hR_94_1, hO_97, hF_97_0, hF_97_1, hF_97_2, hF_97_3, hR_97_4, hR_97_5, hR_97_6, hR_97_7, hR_97_8, hR_97_9, hR_97_10, hR_97_11, hF_97_12, hO_156, hF_156_0, hR_156_1, hR_156_2, hR_156_3, hR_156_4, hR_156_5, hR_156_6, hR_156_7, hR_156_8, fd_p_eq, fd_p_ne, fd_p_lt, fd_p_ge, fd_p_gt, fd_p_le, fd_f_iadd, fd_f_isub, fd_f_imul, fd_f_iand, fd_f_ior, fd_f_ixor, fd_f_ishl, fd_f_ishr, fd_f_iushr, fd_f_ladd, fd_f_lsub, fd_f_lmul, fd_f_lcmp, fd_f_idiv, fd_f_irem, fd_f_ldiv, fd_f_lrem, fd_f_ineg, fd_f_i2l, fd_f_l2i, fd_f_i2b, fd_f_i2s, fd_f_i2c, fd_z_idiv, fd_z_irem, fd_z_ldiv, fd_z_lrem, fd_in0, fd_sl, fd_st1, fd_st2, fd_kl, fd_vI, fd_vL, fd_vN, fd_ok1, fd_v_int, xI, xL, xR, xK, xG, yI, yL, yN, -Prod.exists, b, b2, fd_run_of w1]
      exact hQ _ _ w2
    · rw [if_neg kd] at hv hQ
      obtain ⟨rfl, rfl⟩ := hv
      have b : (-1 : Int32) < 0 := by decide
      by_cases kl : ru_let (ch p) = -1
      · rw [if_neg (fun z => z kl)] at hQ
        simp [↓wp_ldn, ↓wp_b1, ↓wp_b2, ↓wp_b2z, ↓wp_gf, ↓wp_gd, ↓wp_ga, ↓wp_gl, ↓wp_al2, ↓wp_pi, ↓wp_ltr, ↓wp_ite, ↓wp_and, ↓wp_or, ↓wp_not, ↓wp_cmp, ↓wp_cmz, ↓wp_isn, ↓wp_nsn, ↓wp_a0, ↓wp_a1, ↓wp_cv, ↓wp_cs, ↓wp_dr, ↓wp_sk, ↓wp_brk, ↓wp_cnt, ↓wp_rV, ↓wp_seq, ↓wp_iff, ↓wp_sI, ↓wp_sL, ↓wp_sN, ↓wp_inc, ↓wp_do, ↓wp_rI, ↓wp_rL, ↓wp_rN, ↓wp_rZ, ↓wp_pf, ↓wp_pz, ↓wp_pd, ↓wp_po, ↓wp_pl, ↓wp_pao, ↓wp_tsw, ↓wp_lsw, ↓wp_fn, ↓wq_ld, ↓wq_ldl, ↓wq_lda, ↓wq_c, ↓wq_gr, ↓wq_gq, ↓wq_nn, ↓wq_asI, ↓wq_asL, ↓wq_asN, ↓wq_pa, hO_0, hR_0_0, hR_0_1, hR_0_2, hR_0_3, hR_0_4, hR_0_5, hR_0_6, hR_0_7, hR_0_8, hR_0_9, hR_0_10, hR_0_11, hF_0_12, hO_1, hR_1_0, hF_1_1, hF_1_2, hF_1_3, hO_3, hR_3_0, hF_3_1, hO_5, hF_5_0, hF_5_1, hR_5_2, hR_5_3, hR_5_4, hR_5_5, hR_5_6, hR_5_7, hF_5_8, hF_5_9, hO_30, hF_30_0, hF_30_1, hF_30_2, hF_30_3, hO_31, hF_31_0, hF_31_1, hR_31_2, hR_31_3, hR_31_4, hO_35, hR_35_0, hF_35_1, hR_35_2, hF_35_3, hR_35_4, hF_35_5, hF_35_6, hR_35_7, hF_35_8, hR_35_9, hR_35_10, hO_42, hO_45, hO_48, hR_48_0, hF_48_1, hF_48_2, hR_48_3, hR_48_4, hO_94, hR_94_0, hR_94_1, hO_97, hF_97_0, hF_97_1, hF_97_2, hF_97_3, hR_97_4, hR_97_5, hR_97_6, hR_97_7, hR_97_8, hR_97_9, hR_97_10, hR_97_11, hF_97_12, hO_156, hF_156_0, hR_156_1, hR_156_2, hR_156_3, hR_156_4, hR_156_5, hR_156_6, hR_156_7, hR_156_8, fd_p_eq, fd_p_ne, fd_p_lt, fd_p_ge, fd_p_gt, fd_p_le, fd_f_iadd, fd_f_isub, fd_f_imul, fd_f_iand, fd_f_ior, fd_f_ixor, fd_f_ishl, fd_f_ishr, fd_f_iushr, fd_f_ladd, fd_f_lsub, fd_f_lmul, fd_f_lcmp, fd_f_idiv, fd_f_irem, fd_f_ldiv, fd_f_lrem, fd_f_ineg, fd_f_i2l, fd_f_l2i, fd_f_i2b, fd_f_i2s, fd_f_i2c, fd_z_idiv, fd_z_irem, fd_z_ldiv, fd_z_lrem, fd_in0, fd_sl, fd_st1, fd_st2, fd_kl, fd_vI, fd_vL, fd_vN, fd_ok1, fd_v_int, xI, xL, xR, xK, xG, yI, yL, yN, -Prod.exists, b, fd_run_of el, fd_run_of (s_X2_letterAt _ _), kl]
        exact hQ _ _ ⟨fP.rf, rfl, c2⟩
      · rw [if_pos kl] at hQ
        obtain ⟨k, k1, k2⟩ := ru_let_of kl
        obtain ⟨M3, w1, w2⟩ := fin (1000 + ru_let (ch p)) (p + 1) (by omega) (by omega)
        have b3 : ¬ nI k < 0 := nI_pos (by omega)
        rw [k2] at w1 w2 hQ
        simp [↓wp_ldn, ↓wp_b1, ↓wp_b2, ↓wp_b2z, ↓wp_gf, ↓wp_gd, ↓wp_ga, ↓wp_gl, ↓wp_al2, ↓wp_pi, ↓wp_ltr, ↓wp_ite, ↓wp_and, ↓wp_or, ↓wp_not, ↓wp_cmp, ↓wp_cmz, ↓wp_isn, ↓wp_nsn, ↓wp_a0, ↓wp_a1, ↓wp_cv, ↓wp_cs, ↓wp_dr, ↓wp_sk, ↓wp_brk, ↓wp_cnt, ↓wp_rV, ↓wp_seq, ↓wp_iff, ↓wp_sI, ↓wp_sL, ↓wp_sN, ↓wp_inc, ↓wp_do, ↓wp_rI, ↓wp_rL, ↓wp_rN, ↓wp_rZ, ↓wp_pf, ↓wp_pz, ↓wp_pd, ↓wp_po, ↓wp_pl, ↓wp_pao, ↓wp_tsw, ↓wp_lsw, ↓wp_fn, ↓wq_ld, ↓wq_ldl, ↓wq_lda, ↓wq_c, ↓wq_gr, ↓wq_gq, ↓wq_nn, ↓wq_asI, ↓wq_asL, ↓wq_asN, ↓wq_pa, hO_0, hR_0_0, hR_0_1, hR_0_2, hR_0_3, hR_0_4, hR_0_5, hR_0_6, hR_0_7, hR_0_8, hR_0_9, hR_0_10, hR_0_11, hF_0_12, hO_1, hR_1_0, hF_1_1, hF_1_2, hF_1_3, hO_3, hR_3_0, hF_3_1, hO_5, hF_5_0, hF_5_1, hR_5_2, hR_5_3, hR_5_4, hR_5_5, hR_5_6, hR_5_7, hF_5_8, hF_5_9, hO_30, hF_30_0, hF_30_1, hF_30_2, hF_30_3, hO_31, hF_31_0, hF_31_1, hR_31_2, hR_31_3, hR_31_4, hO_35, hR_35_0, hF_35_1, hR_35_2, hF_35_3, hR_35_4, hF_35_5, hF_35_6, hR_35_7, hF_35_8, hR_35_9, hR_35_10, hO_42, hO_45, hO_48, hR_48_0, hF_48_1, hF_48_2, hR_48_3, hR_48_4, hO_94, hR_94_0, hR_94_1, hO_97, hF_97_0, hF_97_1, hF_97_2, hF_97_3, hR_97_4, hR_97_5, hR_97_6, hR_97_7, hR_97_8, hR_97_9, hR_97_10, hR_97_11, hF_97_12, hO_156, hF_156_0, hR_156_1, hR_156_2, hR_156_3, hR_156_4, hR_156_5, hR_156_6, hR_156_7, hR_156_8, fd_p_eq, fd_p_ne, fd_p_lt, fd_p_ge, fd_p_gt, fd_p_le, fd_f_iadd, fd_f_isub, fd_f_imul, fd_f_iand, fd_f_ior, fd_f_ixor, fd_f_ishl, fd_f_ishr, fd_f_iushr, fd_f_ladd, fd_f_lsub, fd_f_lmul, fd_f_lcmp, fd_f_idiv, fd_f_irem, fd_f_ldiv, fd_f_lrem, fd_f_ineg, fd_f_i2l, fd_f_l2i, fd_f_i2b, fd_f_i2s, fd_f_i2c, fd_z_idiv, fd_z_irem, fd_z_ldiv, fd_z_lrem, fd_in0, fd_sl, fd_st1, fd_st2, fd_kl, fd_vI, fd_vL, fd_vN, fd_ok1, fd_v_int, xI, xL, xR, xK, xG, yI, yL, yN, -Prod.exists, b, fd_run_of el, fd_run_of (s_X2_letterAt _ _), k2, b3, fd_run_of (s_X7_take_t c1 c2 hp rfl), fd_run_of w1]
        exact hQ _ _ w2
  by_cases d4 : d < 4
  · have b1 : nI d < 4 := nI_lt (b := 4) d4 (by decide)
    obtain ⟨v, M', q1, q2⟩ := hT
    obtain ⟨rfl, rfl⟩ := q2 d4
    have r := rest _ (fun v M' h => h)
    simp [↓wp_ldn, ↓wp_b1, ↓wp_b2, ↓wp_b2z, ↓wp_gf, ↓wp_gd, ↓wp_ga, ↓wp_gl, ↓wp_al2, ↓wp_pi, ↓wp_ltr, ↓wp_ite, ↓wp_and, ↓wp_or, ↓wp_not, ↓wp_cmp, ↓wp_cmz, ↓wp_isn, ↓wp_nsn, ↓wp_a0, ↓wp_a1, ↓wp_cv, ↓wp_cs, ↓wp_dr, ↓wp_sk, ↓wp_brk, ↓wp_cnt, ↓wp_rV, ↓wp_seq, ↓wp_iff, ↓wp_sI, ↓wp_sL, ↓wp_sN, ↓wp_inc, ↓wp_do, ↓wp_rI, ↓wp_rL, ↓wp_rN, ↓wp_rZ, ↓wp_pf, ↓wp_pz, ↓wp_pd, ↓wp_po, ↓wp_pl, ↓wp_pao, ↓wp_tsw, ↓wp_lsw, ↓wp_fn, ↓wq_ld, ↓wq_ldl, ↓wq_lda, ↓wq_c, ↓wq_gr, ↓wq_gq, ↓wq_nn, ↓wq_asI, ↓wq_asL, ↓wq_asN, ↓wq_pa, hO_0, hR_0_0, hR_0_1, hR_0_2, hR_0_3, hR_0_4, hR_0_5, hR_0_6, hR_0_7, hR_0_8, hR_0_9, hR_0_10, hR_0_11, hF_0_12, hO_1, hR_1_0, hF_1_1, hF_1_2, hF_1_3, hO_3, hR_3_0, hF_3_1, hO_5, hF_5_0, hF_5_1, hR_5_2, hR_5_3, hR_5_4, hR_5_5, hR_5_6, hR_5_7, hF_5_8, hF_5_9, hO_30, hF_30_0, hF_30_1, hF_30_2, hF_30_3, hO_31, hF_31_0, hF_31_1, hR_31_2, hR_31_3, hR_31_4, hO_35, hR_35_0, hF_35_1, hR_35_2, hF_35_3, hR_35_4, hF_35_5, hF_35_6, hR_35_7, hF_35_8, hR_35_9, hR_35_10, hO_42, hO_45, hO_48, hR_48_0, hF_48_1, hF_48_2, hR_48_3, hR_48_4, hO_94, hR_94_0, hR_94_1, hO_97, hF_97_0, hF_97_1, hF_97_2, hF_97_3, hR_97_4, hR_97_5, hR_97_6, hR_97_7, hR_97_8, hR_97_9, hR_97_10, hR_97_11, hF_97_12, hO_156, hF_156_0, hR_156_1, hR_156_2, hR_156_3, hR_156_4, hR_156_5, hR_156_6, hR_156_7, hR_156_8, fd_p_eq, fd_p_ne, fd_p_lt, fd_p_ge, fd_p_gt, fd_p_le, fd_f_iadd, fd_f_isub, fd_f_imul, fd_f_iand, fd_f_ior, fd_f_ixor, fd_f_ishl, fd_f_ishr, fd_f_iushr, fd_f_ladd, fd_f_lsub, fd_f_lmul, fd_f_lcmp, fd_f_idiv, fd_f_irem, fd_f_ldiv, fd_f_lrem, fd_f_ineg, fd_f_i2l, fd_f_l2i, fd_f_i2b, fd_f_i2s, fd_f_i2c, fd_z_idiv, fd_z_irem, fd_z_ldiv, fd_z_lrem, fd_in0, fd_sl, fd_st1, fd_st2, fd_kl, fd_vI, fd_vL, fd_vN, fd_ok1, fd_v_int, xI, xL, xR, xK, xG, yI, yL, yN, -Prod.exists] at r
    simp [↓wp_ldn, ↓wp_b1, ↓wp_b2, ↓wp_b2z, ↓wp_gf, ↓wp_gd, ↓wp_ga, ↓wp_gl, ↓wp_al2, ↓wp_pi, ↓wp_ltr, ↓wp_ite, ↓wp_and, ↓wp_or, ↓wp_not, ↓wp_cmp, ↓wp_cmz, ↓wp_isn, ↓wp_nsn, ↓wp_a0, ↓wp_a1, ↓wp_cv, ↓wp_cs, ↓wp_dr, ↓wp_sk, ↓wp_brk, ↓wp_cnt, ↓wp_rV, ↓wp_seq, ↓wp_iff, ↓wp_sI, ↓wp_sL, ↓wp_sN, ↓wp_inc, ↓wp_do, ↓wp_rI, ↓wp_rL, ↓wp_rN, ↓wp_rZ, ↓wp_pf, ↓wp_pz, ↓wp_pd, ↓wp_po, ↓wp_pl, ↓wp_pao, ↓wp_tsw, ↓wp_lsw, ↓wp_fn, ↓wq_ld, ↓wq_ldl, ↓wq_lda, ↓wq_c, ↓wq_gr, ↓wq_gq, ↓wq_nn, ↓wq_asI, ↓wq_asL, ↓wq_asN, ↓wq_pa, hO_0, hR_0_0, hR_0_1, hR_0_2, hR_0_3, hR_0_4, hR_0_5, hR_0_6, hR_0_7, hR_0_8, hR_0_9, hR_0_10, hR_0_11, hF_0_12, hO_1, hR_1_0, hF_1_1, hF_1_2, hF_1_3, hO_3, hR_3_0, hF_3_1, hO_5, hF_5_0, hF_5_1, hR_5_2, hR_5_3, hR_5_4, hR_5_5, hR_5_6, hR_5_7, hF_5_8, hF_5_9, hO_30, hF_30_0, hF_30_1, hF_30_2, hF_30_3, hO_31, hF_31_0, hF_31_1, hR_31_2, hR_31_3, hR_31_4, hO_35, hR_35_0, hF_35_1, hR_35_2, hF_35_3, hR_35_4, hF_35_5, hF_35_6, hR_35_7, hF_35_8, hR_35_9, hR_35_10, hO_42, hO_45, hO_48, hR_48_0, hF_48_1, hF_48_2, hR_48_3, hR_48_4, hO_94, hR_94_0, hR_94_1, hO_97, hF_97_0, hF_97_1, hF_97_2, hF_97_3, hR_97_4, hR_97_5, hR_97_6, hR_97_7, hR_97_8, hR_97_9, hR_97_10, hR_97_11, hF_97_12, hO_156, hF_156_0, hR_156_1, hR_156_2, hR_156_3, hR_156_4, hR_156_5, hR_156_6, hR_156_7, hR_156_8, fd_p_eq, fd_p_ne, fd_p_lt, fd_p_ge, fd_p_gt, fd_p_le, fd_f_iadd, fd_f_isub, fd_f_imul, fd_f_iand, fd_f_ior, fd_f_ixor, fd_f_ishl, fd_f_ishr, fd_f_iushr, fd_f_ladd, fd_f_lsub, fd_f_lmul, fd_f_lcmp, fd_f_idiv, fd_f_irem, fd_f_ldiv, fd_f_lrem, fd_f_ineg, fd_f_i2l, fd_f_l2i, fd_f_i2b, fd_f_i2s, fd_f_i2c, fd_z_idiv, fd_z_irem, fd_z_ldiv, fd_z_lrem, fd_in0, fd_sl, fd_st1, fd_st2, fd_kl, fd_vI, fd_vL, fd_vN, fd_ok1, fd_v_int, xI, xL, xR, xK, xG, yI, yL, yN, -Prod.exists, fd_run_of f45, c5, b0, b1, fd_run_of q1]
    exact r
  · have b1 : ¬ nI d < 4 := nI_nlt (b := 4) (by omega) (by omega)
    have b2 : (4 : Int32) ≤ nI d := Int32.not_lt.mp b1
    have r := rest _ (fun v M' h => h)
    simp [↓wp_ldn, ↓wp_b1, ↓wp_b2, ↓wp_b2z, ↓wp_gf, ↓wp_gd, ↓wp_ga, ↓wp_gl, ↓wp_al2, ↓wp_pi, ↓wp_ltr, ↓wp_ite, ↓wp_and, ↓wp_or, ↓wp_not, ↓wp_cmp, ↓wp_cmz, ↓wp_isn, ↓wp_nsn, ↓wp_a0, ↓wp_a1, ↓wp_cv, ↓wp_cs, ↓wp_dr, ↓wp_sk, ↓wp_brk, ↓wp_cnt, ↓wp_rV, ↓wp_seq, ↓wp_iff, ↓wp_sI, ↓wp_sL, ↓wp_sN, ↓wp_inc, ↓wp_do, ↓wp_rI, ↓wp_rL, ↓wp_rN, ↓wp_rZ, ↓wp_pf, ↓wp_pz, ↓wp_pd, ↓wp_po, ↓wp_pl, ↓wp_pao, ↓wp_tsw, ↓wp_lsw, ↓wp_fn, ↓wq_ld, ↓wq_ldl, ↓wq_lda, ↓wq_c, ↓wq_gr, ↓wq_gq, ↓wq_nn, ↓wq_asI, ↓wq_asL, ↓wq_asN, ↓wq_pa, hO_0, hR_0_0, hR_0_1, hR_0_2, hR_0_3, hR_0_4, hR_0_5, hR_0_6, hR_0_7, hR_0_8, hR_0_9, hR_0_10, hR_0_11, hF_0_12, hO_1, hR_1_0, hF_1_1, hF_1_2, hF_1_3, hO_3, hR_3_0, hF_3_1, hO_5, hF_5_0, hF_5_1, hR_5_2, hR_5_3, hR_5_4, hR_5_5, hR_5_6, hR_5_7, hF_5_8, hF_5_9, hO_30, hF_30_0, hF_30_1, hF_30_2, hF_30_3, hO_31, hF_31_0, hF_31_1, hR_31_2, hR_31_3, hR_31_4, hO_35, hR_35_0, hF_35_1, hR_35_2, hF_35_3, hR_35_4, hF_35_5, hF_35_6, hR_35_7, hF_35_8, hR_35_9, hR_35_10, hO_42, hO_45, hO_48, hR_48_0, hF_48_1, hF_48_2, hR_48_3, hR_48_4, hO_94, hR_94_0, hR_94_1, hO_97, hF_97_0, hF_97_1, hF_97_2, hF_97_3, hR_97_4, hR_97_5, hR_97_6, hR_97_7, hR_97_8, hR_97_9, hR_97_10, hR_97_11, hF_97_12, hO_156, hF_156_0, hR_156_1, hR_156_2, hR_156_3, hR_156_4, hR_156_5, hR_156_6, hR_156_7, hR_156_8, fd_p_eq, fd_p_ne, fd_p_lt, fd_p_ge, fd_p_gt, fd_p_le, fd_f_iadd, fd_f_isub, fd_f_imul, fd_f_iand, fd_f_ior, fd_f_ixor, fd_f_ishl, fd_f_ishr, fd_f_iushr, fd_f_ladd, fd_f_lsub, fd_f_lmul, fd_f_lcmp, fd_f_idiv, fd_f_irem, fd_f_ldiv, fd_f_lrem, fd_f_ineg, fd_f_i2l, fd_f_l2i, fd_f_i2b, fd_f_i2s, fd_f_i2c, fd_z_idiv, fd_z_irem, fd_z_ldiv, fd_z_lrem, fd_in0, fd_sl, fd_st1, fd_st2, fd_kl, fd_vI, fd_vL, fd_vN, fd_ok1, fd_v_int, xI, xL, xR, xK, xG, yI, yL, yN, -Prod.exists] at r
    simp [↓wp_ldn, ↓wp_b1, ↓wp_b2, ↓wp_b2z, ↓wp_gf, ↓wp_gd, ↓wp_ga, ↓wp_gl, ↓wp_al2, ↓wp_pi, ↓wp_ltr, ↓wp_ite, ↓wp_and, ↓wp_or, ↓wp_not, ↓wp_cmp, ↓wp_cmz, ↓wp_isn, ↓wp_nsn, ↓wp_a0, ↓wp_a1, ↓wp_cv, ↓wp_cs, ↓wp_dr, ↓wp_sk, ↓wp_brk, ↓wp_cnt, ↓wp_rV, ↓wp_seq, ↓wp_iff, ↓wp_sI, ↓wp_sL, ↓wp_sN, ↓wp_inc, ↓wp_do, ↓wp_rI, ↓wp_rL, ↓wp_rN, ↓wp_rZ, ↓wp_pf, ↓wp_pz, ↓wp_pd, ↓wp_po, ↓wp_pl, ↓wp_pao, ↓wp_tsw, ↓wp_lsw, ↓wp_fn, ↓wq_ld, ↓wq_ldl, ↓wq_lda, ↓wq_c, ↓wq_gr, ↓wq_gq, ↓wq_nn, ↓wq_asI, ↓wq_asL, ↓wq_asN, ↓wq_pa, hO_0, hR_0_0, hR_0_1, hR_0_2, hR_0_3, hR_0_4, hR_0_5, hR_0_6, hR_0_7, hR_0_8, hR_0_9, hR_0_10, hR_0_11, hF_0_12, hO_1, hR_1_0, hF_1_1, hF_1_2, hF_1_3, hO_3, hR_3_0, hF_3_1, hO_5, hF_5_0, hF_5_1, hR_5_2, hR_5_3, hR_5_4, hR_5_5, hR_5_6, hR_5_7, hF_5_8, hF_5_9, hO_30, hF_30_0, hF_30_1, hF_30_2, hF_30_3, hO_31, hF_31_0, hF_31_1, hR_31_2, hR_31_3, hR_31_4, hO_35, hR_35_0, hF_35_1, hR_35_2, hF_35_3, hR_35_4, hF_35_5, hF_35_6, hR_35_7, hF_35_8, hR_35_9, hR_35_10, hO_42, hO_45, hO_48, hR_48_0, hF_48_1, hF_48_2, hR_48_3, hR_48_4, hO_94, hR_94_0, hR_94_1, hO_97, hF_97_0, hF_97_1, hF_97_2, hF_97_3, hR_97_4, hR_97_5, hR_97_6, hR_97_7, hR_97_8, hR_97_9, hR_97_10, hR_97_11, hF_97_12, hO_156, hF_156_0, hR_156_1, hR_156_2, hR_156_3, hR_156_4, hR_156_5, hR_156_6, hR_156_7, hR_156_8, fd_p_eq, fd_p_ne, fd_p_lt, fd_p_ge, fd_p_gt, fd_p_le, fd_f_iadd, fd_f_isub, fd_f_imul, fd_f_iand, fd_f_ior, fd_f_ixor, fd_f_ishl, fd_f_ishr, fd_f_iushr, fd_f_ladd, fd_f_lsub, fd_f_lmul, fd_f_lcmp, fd_f_idiv, fd_f_irem, fd_f_ldiv, fd_f_lrem, fd_f_ineg, fd_f_i2l, fd_f_l2i, fd_f_i2b, fd_f_i2s, fd_f_i2c, fd_z_idiv, fd_z_irem, fd_z_ldiv, fd_z_lrem, fd_in0, fd_sl, fd_st1, fd_st2, fd_kl, fd_vI, fd_vL, fd_vN, fd_ok1, fd_v_int, xI, xL, xR, xK, xG, yI, yL, yN, -Prod.exists, fd_run_of f45, c5, b0, b1, b2]
    exact r
theorem sy_step_lt {S S' : sy_S} (h : sy_step ch l S = some S') (hp : S.2.2.2.2.2 < l) : S.2.2.2.2.2 < S'.2.2.2.2.2 := by
  obtain ⟨D, W, d, cm, w, p⟩ := S
  cases w with
  | true =>
    rw [sy_step_t] at h
    dsimp only at hp ⊢
    split at h
    · cases h; exact Nat.lt_succ_self p
    split at h
    · cases h; exact Nat.lt_succ_self p
    split at h
    · rename_i k
      cases h
      have : ru_num ch l 3 p 0 = ru_num ch l 2 (p + 1) (10 * 0 + (ch p - 48)) := by
        show (if p < l ∧ ru_dig (ch p) = true then ru_num ch l 2 (p + 1) (10 * 0 + (ch p - 48)) else (0, p)) = _
        rw [if_pos ⟨hp, k⟩]
      rw [this]
      exact ru_num_gt ch l 2 (p + 1) (10 * 0 + (ch p - 48))
    split at h
    · cases h; exact Nat.lt_succ_self p
    · cases h
  | false =>
    rw [sy_step_f] at h
    dsimp only at hp ⊢
    split at h
    · split at h
      · cases h
      · cases h; exact Nat.lt_succ_self p
    split at h
    · cases h
    · cases h; exact Nat.lt_succ_self p
end CT
