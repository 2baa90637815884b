/-! ===== a line of hills at the reference ===== -/
def hm_P (a j : Nat) : Prop := (a = 182 ∧ (j = 21 ∨ j = 22 ∨ j = 25 ∨ j = 26)) ∨ a = 191 ∨ a = 192
section HM
variable {ch : Nat → Int32} {l p v0 r0 nv nr len top : Nat} {M : fd_M}
theorem mt_d10 (c : dg ch l p) (M : fd_M) (P : Value → fd_M → Prop) (h : rp 189 len top l ch M) (hp : M.1 182 21 = nI p) (hw : M.1 182 22 = -1) : fd_run m_X12_oneOf [.ref 182, .int 48, .int 10, .int (-1)] M P ↔ P (.int (nI (dv ch p))) (fd_uI M 182 21 (nI (p + 1))) := by
  obtain ⟨x, x1, x2⟩ := h.dig c.1
  have c2 := c.2
  rw [x2] at c2
  have hx := (ru_dig_i x1).mp c2
  have := s_X12_oneOf_t h hp c.1 hw (fi := 48) (ma := 10) (but := -1) x2 (by omega) (by omega) (by omega) (nI_m1 (by omega))
  rw [show nI 48 = (48 : Int32) from rfl, show nI 10 = (10 : Int32) from rfl] at this
  rw [dv_d (ch := ch) (p := p) (d := x - 48) (by rw [x2, show 48 + (x - 48) = x by omega]) (by omega)]
  exact fd_run_of this
theorem mt_d10f (hp2 : p < 1000) (c : ¬ dg ch l p) (M : fd_M) (P : Value → fd_M → Prop) (h : rp 189 len top l ch M) (hp : M.1 182 21 = nI p) (hw : M.1 182 22 = -1) : fd_run m_X12_oneOf [.ref 182, .int 48, .int 10, .int (-1)] M P ↔ P (.int 0) (fd_uI M 182 22 (nI p)) := by
  have := s_X12_oneOf_f h hp hp2 hw (fi := 48) (ma := 10) (but := -1) (by omega) (by omega) (fun ⟨q1, x, q2, q3, q4, _⟩ => c ⟨q1, by rw [q2]; exact (ru_dig_i (by omega)).mpr ⟨q3, by omega⟩⟩)
  rw [show nI 48 = (48 : Int32) from rfl, show nI 10 = (10 : Int32) from rfl] at this
  exact fd_run_of this
theorem s_X12_readLine_v (h : rp 189 len top l ch M) (hp : M.1 182 21 = nI p) (hw : M.1 182 22 = -1) (hv : M.1 182 1 = nI v0) (hnv : M.1 182 25 = nI nv) (c : hV ch l (v0 + nv) p) : m_X12_readLine [.ref 182] M = some (fd_jk, fd_uI (fd_uI (fd_uI (fd_uI M 182 21 (nI (p + 1))) 182 21 (nI (p + 1 + 1))) 191 nv (nI (dv ch (p + 1)))) 182 25 (nI (nv + 1))) := by
  apply fd_of_run
  obtain ⟨c1, c2, c3⟩ := c
  have eh := s_X12_here h hp (by have := c2.1; have := h.l80; omega)
  rw [if_pos c2.1, c2.2] at eh
  have b1 : nI (v0 + nv) < 9 := nI_lt (b := 9) c1 (by decide)
  have o1 := mt_d10 (len := len) (top := top) c3
  unfold m_X12_readLine b_X12_readLine
  simp [↓wp_ldn, ↓wp_b1, ↓wp_b2, ↓wp_b2z, ↓wp_gf, ↓wp_gd, ↓wp_ga, ↓wp_gl, ↓wp_al2, ↓wp_pi, ↓wp_ltr, ↓wp_ite, ↓wp_and, ↓wp_or, ↓wp_not, ↓wp_cmp, ↓wp_cmz, ↓wp_isn, ↓wp_nsn, ↓wp_a0, ↓wp_a1, ↓wp_cv, ↓wp_cs, ↓wp_dr, ↓wp_sk, ↓wp_brk, ↓wp_cnt, ↓wp_rV, ↓wp_seq, ↓wp_iff, ↓wp_sI, ↓wp_sL, ↓wp_sN, ↓wp_inc, ↓wp_do, ↓wp_rI, ↓wp_rL, ↓wp_rN, ↓wp_rZ, ↓wp_pf, ↓wp_pz, ↓wp_pd, ↓wp_po, ↓wp_pl, ↓wp_pao, ↓wp_tsw, ↓wp_lsw, ↓wp_fn, ↓wq_ld, ↓wq_ldl, ↓wq_lda, ↓wq_c, ↓wq_gr, ↓wq_gq, ↓wq_nn, ↓wq_asI, ↓wq_asL, ↓wq_asN, ↓wq_pa, hO_182, hR_182_0, hF_182_1, hR_182_2, hF_182_3, hR_182_4, hF_182_5, hR_182_6, hR_182_7, hR_182_8, hF_182_9, hF_182_10, hF_182_11, hF_182_12, hR_182_13, hF_182_14, hR_182_15, hF_182_16, hF_182_17, hF_182_18, hF_182_19, hF_182_20, hF_182_21, hF_182_22, hR_182_23, hR_182_24, hF_182_25, hF_182_26, hR_182_27, hR_182_28, hR_182_29, hF_182_30, hF_182_31, hR_182_32, hR_182_33, hF_182_34, hR_182_35, hF_182_36, hF_182_37, hF_182_38, hF_182_39, hF_182_40, hR_182_41, hR_182_42, hR_182_43, hR_182_44, hR_182_45, hR_182_46, hF_182_47, hR_182_48, hR_182_49, hR_182_50, hR_182_51, hR_182_52, hF_182_53, hR_182_54, hR_182_55, hR_182_56, hR_182_57, hF_182_58, hR_182_59, hR_182_60, hR_182_61, fd_p_eq, fd_p_ne, fd_p_lt, fd_p_ge, fd_p_gt, fd_p_le, fd_f_iadd, fd_f_isub, fd_f_imul, fd_f_iand, fd_f_ior, fd_f_ixor, fd_f_ishl, fd_f_ishr, fd_f_iushr, fd_f_ladd, fd_f_lsub, fd_f_lmul, fd_f_lcmp, fd_f_idiv, fd_f_irem, fd_f_ldiv, fd_f_lrem, fd_f_ineg, fd_f_i2l, fd_f_l2i, fd_f_i2b, fd_f_i2s, fd_f_i2c, fd_z_idiv, fd_z_irem, fd_z_ldiv, fd_z_lrem, fd_in0, fd_sl, fd_st1, fd_st2, fd_kl, fd_vI, fd_vL, fd_vN, fd_ok1, fd_v_int, xI, xL, xR, xK, xG, yI, yL, yN, -Prod.exists, fd_run_of eh, hv, hnv, nI_add, b1, rd_I, hp, nI_1, hA_191 (show nv < 9 by omega), nI_clamp (show nv < 2 ^ 31 by omega), o1, h, hw, rp_21]
theorem s_X12_readLine_r (h : rp 189 len top l ch M) (hp : M.1 182 21 = nI p) (hw : M.1 182 22 = -1) (hv : M.1 182 1 = nI v0) (hnv : M.1 182 25 = nI nv) (hr : M.1 182 3 = nI r0) (hnr : M.1 182 26 = nI nr) (v9 : v0 + nv ≤ 9) (c : hR ch l (v0 + nv) (r0 + nr) p) {Q : Value → fd_M → Prop} (hQ : ∀ M2, fP (fun a j => (a = 182 ∧ (j = 21 ∨ j = 26)) ∨ (a = 192 ∧ 3 * nr ≤ j ∧ j ≤ 3 * nr + 2)) M M2 → M2.1 182 21 = nI (ne ch l (p + 3)) → M2.1 182 26 = nI (nr + 1) → M2.1 192 (3 * nr) = nI (lv ch (p + 1)) → M2.1 192 (3 * nr + 1) = nI (lv ch (p + 2)) → M2.1 192 (3 * nr + 2) = nI (nu ch l (p + 3)) → Q fd_jk M2) : fd_run m_X12_readLine [.ref 182] M Q := by
  obtain ⟨c1, c2, c3, c4, c5, c6⟩ := c
  have eh := s_X12_here h hp (by have := c2.1; have := h.l80; omega)
  rw [if_pos c2.1, c2.2] at eh
  have z : ¬ (114 : Int32) = 118 := by decide
  have b1 : nI (r0 + nr) < 24 := nI_lt (b := 24) c1 (by decide)
  have e3 : (3 : Int32) * nI nr = nI (3 * nr) := nI_mul 3 nr
  have o1 := mt_let (len := len) (top := top) (show v0 + nv ≤ 31 by omega) c3
  have o2 := mt_let (len := len) (top := top) (show v0 + nv ≤ 31 by omega) c4
  have o3 := mt_nm (len := len) (top := top) c5 c6
  rw [show nI 1 = (1 : Int32) from rfl] at o3
  have a1 : nI (3 * nr) + 1 = nI (3 * nr + 1) := nI_1 _
  have a2 : nI (3 * nr) + 2 = nI (3 * nr + 2) := nI_add _ 2
  have p2 : p + 1 + 1 = p + 2 := by omega
  have p3 : p + 2 + 1 = p + 3 := by omega
  unfold m_X12_readLine b_X12_readLine
  simp [↓wp_ldn, ↓wp_b1, ↓wp_b2, ↓wp_b2z, ↓wp_gf, ↓wp_gd, ↓wp_ga, ↓wp_gl, ↓wp_al2, ↓wp_pi, ↓wp_ltr, ↓wp_ite, ↓wp_and, ↓wp_or, ↓wp_not, ↓wp_cmp, ↓wp_cmz, ↓wp_isn, ↓wp_nsn, ↓wp_a0, ↓wp_a1, ↓wp_cv, ↓wp_cs, ↓wp_dr, ↓wp_sk, ↓wp_brk, ↓wp_cnt, ↓wp_rV, ↓wp_seq, ↓wp_iff, ↓wp_sI, ↓wp_sL, ↓wp_sN, ↓wp_inc, ↓wp_do, ↓wp_rI, ↓wp_rL, ↓wp_rN, ↓wp_rZ, ↓wp_pf, ↓wp_pz, ↓wp_pd, ↓wp_po, ↓wp_pl, ↓wp_pao, ↓wp_tsw, ↓wp_lsw, ↓wp_fn, ↓wq_ld, ↓wq_ldl, ↓wq_lda, ↓wq_c, ↓wq_gr, ↓wq_gq, ↓wq_nn, ↓wq_asI, ↓wq_asL, ↓wq_asN, ↓wq_pa, hO_182, hR_182_0, hF_182_1, hR_182_2, hF_182_3, hR_182_4, hF_182_5, hR_182_6, hR_182_7, hR_182_8, hF_182_9, hF_182_10, hF_182_11, hF_182_12, hR_182_13, hF_182_14, hR_182_15, hF_182_16, hF_182_17, hF_182_18, hF_182_19, hF_182_20, hF_182_21, hF_182_22, hR_182_23, hR_182_24, hF_182_25, hF_182_26, hR_182_27, hR_182_28, hR_182_29, hF_182_30, hF_182_31, hR_182_32, hR_182_33, hF_182_34, hR_182_35, hF_182_36, hF_182_37, hF_182_38, hF_182_39, hF_182_40, hR_182_41, hR_182_42, hR_182_43, hR_182_44, hR_182_45, hR_182_46, hF_182_47, hR_182_48, hR_182_49, hR_182_50, hR_182_51, hR_182_52, hF_182_53, hR_182_54, hR_182_55, hR_182_56, hR_182_57, hF_182_58, hR_182_59, hR_182_60, hR_182_61, fd_p_eq, fd_p_ne, fd_p_lt, fd_p_ge, fd_p_gt, fd_p_le, fd_f_iadd, fd_f_isub, fd_f_imul, fd_f_iand, fd_f_ior, fd_f_ixor, fd_f_ishl, fd_f_ishr, fd_f_iushr, fd_f_ladd, fd_f_lsub, fd_f_lmul, fd_f_lcmp, fd_f_idiv, fd_f_irem, fd_f_ldiv, fd_f_lrem, fd_f_ineg, fd_f_i2l, fd_f_l2i, fd_f_i2b, fd_f_i2s, fd_f_i2c, fd_z_idiv, fd_z_irem, fd_z_ldiv, fd_z_lrem, fd_in0, fd_sl, fd_st1, fd_st2, fd_kl, fd_vI, fd_vL, fd_vN, fd_ok1, fd_v_int, xI, xL, xR, xK, xG, yI, yL, yN, -Prod.exists, fd_run_of eh, z, hv, hnv, hr, hnr, nI_add, b1, e3, a1, a2, rd_I, hp, nI_1, hA_192 (show 3 * nr < 72 by omega), hA_192 (show 3 * nr + 1 < 72 by omega), hA_192 (show 3 * nr + 2 < 72 by omega), nI_clamp (show 3 * nr < 2 ^ 31 by omega), nI_clamp (show 3 * nr + 1 < 2 ^ 31 by omega), nI_clamp (show 3 * nr + 2 < 2 ^ 31 by omega), o1, o2, o3, h, hw, rp_21, rp_192]
  refine hQ _ ?_ ?_ ?_ ?_ ?_ ?_
  · repeat' (first | exact fP.rf | refine fP.uI ?_ (by omega))
  · simp [rd_I]
  · simp [rd_I]
  · simp [rd_I]
  · simp [rd_I]
  · simp [rd_I]
theorem s_X12_readLine_f {z : Nat} (h : rp 189 len top l ch M) (hp : M.1 182 21 = nI p) (hpl : p ≤ l) (hw : M.1 182 22 = -1) (hv : M.1 182 1 = nI v0) (hnv : M.1 182 25 = nI nv) (hr : M.1 182 3 = nI r0) (hnr : M.1 182 26 = nI nr) (v9 : v0 + nv ≤ 9) (r24 : r0 + nr ≤ 24) (c : h_no ch l (v0 + nv) (r0 + nr) p z) {Q : Value → fd_M → Prop} (hQ : ∀ (M2 : fd_M) (q : Nat), fP hm_P M M2 → M2.1 182 21 = nI q → q < 1000 → M2.1 182 22 = nI z → Q fd_jk M2) : fd_run m_X12_readLine [.ref 182] M Q := by
  have hl := h.l80
  have zl := h_no_le hpl c
  have nzz : ¬ nI z = -1 := nI_m1 (by omega)
  have eh := s_X12_here h hp (by omega)
  have e3 : (3 : Int32) * nI nr = nI (3 * nr) := nI_mul 3 nr
  have a1 : nI (3 * nr) + 1 = nI (3 * nr + 1) := nI_1 _
  have a2 : nI (3 * nr) + 2 = nI (3 * nr + 2) := nI_add _ 2
  unfold m_X12_readLine b_X12_readLine
  rcases c with ⟨c1, c2, rfl⟩ | ⟨c1, c2, c3, rfl⟩ | ⟨c1, c2, c⟩
  · obtain ⟨y, hy⟩ : ∃ y, y = (if z < l then ch z else -1 : Int32) := ⟨_, rfl⟩
    rw [← hy] at eh
    have y1 : ¬ (y = 118 ∧ nI (v0 + nv) < 9) := fun e => by
      rw [hy] at e
      by_cases q : z < l
      · rw [if_pos q] at e
        exact c1 ⟨(nI_ltI (b := 9) (by omega) (by omega)).mp e.2, q, e.1⟩
      · rw [if_neg q] at e; exact absurd e.1 (by decide)
    have y2 : ¬ (y = 114 ∧ nI (r0 + nr) < 24) := fun e => by
      rw [hy] at e
      by_cases q : z < l
      · rw [if_pos q] at e
        exact c2 ⟨(nI_ltI (b := 24) (by omega) (by omega)).mp e.2, q, e.1⟩
      · rw [if_neg q] at e; exact absurd e.1 (by decide)
    have fin : Q fd_jk (fd_uI M 182 22 (nI z)) := hQ _ z (fP.uI fP.rf (by unfold hm_P; omega)) (by simp [rd_I]; exact hp) (by omega) (by simp [rd_I])
    by_cases a : y = 118
    · have b1 : ¬ nI (v0 + nv) < 9 := fun q => y1 ⟨a, q⟩
      subst a
      have z2 : ¬ (118 : Int32) = 114 := by decide
      simp [↓wp_ldn, ↓wp_b1, ↓wp_b2, ↓wp_b2z, ↓wp_gf, ↓wp_gd, ↓wp_ga, ↓wp_gl, ↓wp_al2, ↓wp_pi, ↓wp_ltr, ↓wp_ite, ↓wp_and, ↓wp_or, ↓wp_not, ↓wp_cmp, ↓wp_cmz, ↓wp_isn, ↓wp_nsn, ↓wp_a0, ↓wp_a1, ↓wp_cv, ↓wp_cs, ↓wp_dr, ↓wp_sk, ↓wp_brk, ↓wp_cnt, ↓wp_rV, ↓wp_seq, ↓wp_iff, ↓wp_sI, ↓wp_sL, ↓wp_sN, ↓wp_inc, ↓wp_do, ↓wp_rI, ↓wp_rL, ↓wp_rN, ↓wp_rZ, ↓wp_pf, ↓wp_pz, ↓wp_pd, ↓wp_po, ↓wp_pl, ↓wp_pao, ↓wp_tsw, ↓wp_lsw, ↓wp_fn, ↓wq_ld, ↓wq_ldl, ↓wq_lda, ↓wq_c, ↓wq_gr, ↓wq_gq, ↓wq_nn, ↓wq_asI, ↓wq_asL, ↓wq_asN, ↓wq_pa, hO_182, hR_182_0, hF_182_1, hR_182_2, hF_182_3, hR_182_4, hF_182_5, hR_182_6, hR_182_7, hR_182_8, hF_182_9, hF_182_10, hF_182_11, hF_182_12, hR_182_13, hF_182_14, hR_182_15, hF_182_16, hF_182_17, hF_182_18, hF_182_19, hF_182_20, hF_182_21, hF_182_22, hR_182_23, hR_182_24, hF_182_25, hF_182_26, hR_182_27, hR_182_28, hR_182_29, hF_182_30, hF_182_31, hR_182_32, hR_182_33, hF_182_34, hR_182_35, hF_182_36, hF_182_37, hF_182_38, hF_182_39, hF_182_40, hR_182_41, hR_182_42, hR_182_43, hR_182_44, hR_182_45, hR_182_46, hF_182_47, hR_182_48, hR_182_49, hR_182_50, hR_182_51, hR_182_52, hF_182_53, hR_182_54, hR_182_55, hR_182_56, hR_182_57, hF_182_58, hR_182_59, hR_182_60, hR_182_61, fd_p_eq, fd_p_ne, fd_p_lt, fd_p_ge, fd_p_gt, fd_p_le, fd_f_iadd, fd_f_isub, fd_f_imul, fd_f_iand, fd_f_ior, fd_f_ixor, fd_f_ishl, fd_f_ishr, fd_f_iushr, fd_f_ladd, fd_f_lsub, fd_f_lmul, fd_f_lcmp, fd_f_idiv, fd_f_irem, fd_f_ldiv, fd_f_lrem, fd_f_ineg, fd_f_i2l, fd_f_l2i, fd_f_i2b, fd_f_i2s, fd_f_i2c, fd_z_idiv, fd_z_irem, fd_z_ldiv, fd_z_lrem, fd_in0, fd_sl, fd_st1, fd_st2, fd_kl, fd_vI, fd_vL, fd_vN, fd_ok1, fd_v_int, xI, xL, xR, xK, xG, yI, yL, yN, -Prod.exists, fd_run_of eh, hv, hnv, nI_add, b1, Int32.not_lt.mp b1, hp, fd_run_of (s_X12_fault hw _)]
      exact fin
    · by_cases b : y = 114
      · have b1 : ¬ nI (r0 + nr) < 24 := fun q => y2 ⟨b, q⟩
        subst b
        simp [↓wp_ldn, ↓wp_b1, ↓wp_b2, ↓wp_b2z, ↓wp_gf, ↓wp_gd, ↓wp_ga, ↓wp_gl, ↓wp_al2, ↓wp_pi, ↓wp_ltr, ↓wp_ite, ↓wp_and, ↓wp_or, ↓wp_not, ↓wp_cmp, ↓wp_cmz, ↓wp_isn, ↓wp_nsn, ↓wp_a0, ↓wp_a1, ↓wp_cv, ↓wp_cs, ↓wp_dr, ↓wp_sk, ↓wp_brk, ↓wp_cnt, ↓wp_rV, ↓wp_seq, ↓wp_iff, ↓wp_sI, ↓wp_sL, ↓wp_sN, ↓wp_inc, ↓wp_do, ↓wp_rI, ↓wp_rL, ↓wp_rN, ↓wp_rZ, ↓wp_pf, ↓wp_pz, ↓wp_pd, ↓wp_po, ↓wp_pl, ↓wp_pao, ↓wp_tsw, ↓wp_lsw, ↓wp_fn, ↓wq_ld, ↓wq_ldl, ↓wq_lda, ↓wq_c, ↓wq_gr, ↓wq_gq, ↓wq_nn, ↓wq_asI, ↓wq_asL, ↓wq_asN, ↓wq_pa, hO_182, hR_182_0, hF_182_1, hR_182_2, hF_182_3, hR_182_4, hF_182_5, hR_182_6, hR_182_7, hR_182_8, hF_182_9, hF_182_10, hF_182_11, hF_182_12, hR_182_13, hF_182_14, hR_182_15, hF_182_16, hF_182_17, hF_182_18, hF_182_19, hF_182_20, hF_182_21, hF_182_22, hR_182_23, hR_182_24, hF_182_25, hF_182_26, hR_182_27, hR_182_28, hR_182_29, hF_182_30, hF_182_31, hR_182_32, hR_182_33, hF_182_34, hR_182_35, hF_182_36, hF_182_37, hF_182_38, hF_182_39, hF_182_40, hR_182_41, hR_182_42, hR_182_43, hR_182_44, hR_182_45, hR_182_46, hF_182_47, hR_182_48, hR_182_49, hR_182_50, hR_182_51, hR_182_52, hF_182_53, hR_182_54, hR_182_55, hR_182_56, hR_182_57, hF_182_58, hR_182_59, hR_182_60, hR_182_61, fd_p_eq, fd_p_ne, fd_p_lt, fd_p_ge, fd_p_gt, fd_p_le, fd_f_iadd, fd_f_isub, fd_f_imul, fd_f_iand, fd_f_ior, fd_f_ixor, fd_f_ishl, fd_f_ishr, fd_f_iushr, fd_f_ladd, fd_f_lsub, fd_f_lmul, fd_f_lcmp, fd_f_idiv, fd_f_irem, fd_f_ldiv, fd_f_lrem, fd_f_ineg, fd_f_i2l, fd_f_l2i, fd_f_i2b, fd_f_i2s, fd_f_i2c, fd_z_idiv, fd_z_irem, fd_z_ldiv, fd_z_lrem, fd_in0, fd_sl, fd_st1, fd_st2, fd_kl, fd_vI, fd_vL, fd_vN, fd_ok1, fd_v_int, xI, xL, xR, xK, xG, yI, yL, yN, -Prod.exists, fd_run_of eh, a, hr, hnr, nI_add, b1, Int32.not_lt.mp b1, hp, fd_run_of (s_X12_fault hw _)]
        exact fin
      · simp [↓wp_ldn, ↓wp_b1, ↓wp_b2, ↓wp_b2z, ↓wp_gf, ↓wp_gd, ↓wp_ga, ↓wp_gl, ↓wp_al2, ↓wp_pi, ↓wp_ltr, ↓wp_ite, ↓wp_and, ↓wp_or, ↓wp_not, ↓wp_cmp, ↓wp_cmz, ↓wp_isn, ↓wp_nsn, ↓wp_a0, ↓wp_a1, ↓wp_cv, ↓wp_cs, ↓wp_dr, ↓wp_sk, ↓wp_brk, ↓wp_cnt, ↓wp_rV, ↓wp_seq, ↓wp_iff, ↓wp_sI, ↓wp_sL, ↓wp_sN, ↓wp_inc, ↓wp_do, ↓wp_rI, ↓wp_rL, ↓wp_rN, ↓wp_rZ, ↓wp_pf, ↓wp_pz, ↓wp_pd, ↓wp_po, ↓wp_pl, ↓wp_pao, ↓wp_tsw, ↓wp_lsw, ↓wp_fn, ↓wq_ld, ↓wq_ldl, ↓wq_lda, ↓wq_c, ↓wq_gr, ↓wq_gq, ↓wq_nn, ↓wq_asI, ↓wq_asL, ↓wq_asN, ↓wq_pa, hO_182, hR_182_0, hF_182_1, hR_182_2, hF_182_3, hR_182_4, hF_182_5, hR_182_6, hR_182_7, hR_182_8, hF_182_9, hF_182_10, hF_182_11, hF_182_12, hR_182_13, hF_182_14, hR_182_15, hF_182_16, hF_182_17, hF_182_18, hF_182_19, hF_182_20, hF_182_21, hF_182_22, hR_182_23, hR_182_24, hF_182_25, hF_182_26, hR_182_27, hR_182_28, hR_182_29, hF_182_30, hF_182_31, hR_182_32, hR_182_33, hF_182_34, hR_182_35, hF_182_36, hF_182_37, hF_182_38, hF_182_39, hF_182_40, hR_182_41, hR_182_42, hR_182_43, hR_182_44, hR_182_45, hR_182_46, hF_182_47, hR_182_48, hR_182_49, hR_182_50, hR_182_51, hR_182_52, hF_182_53, hR_182_54, hR_182_55, hR_182_56, hR_182_57, hF_182_58, hR_182_59, hR_182_60, hR_182_61, fd_p_eq, fd_p_ne, fd_p_lt, fd_p_ge, fd_p_gt, fd_p_le, fd_f_iadd, fd_f_isub, fd_f_imul, fd_f_iand, fd_f_ior, fd_f_ixor, fd_f_ishl, fd_f_ishr, fd_f_iushr, fd_f_ladd, fd_f_lsub, fd_f_lmul, fd_f_lcmp, fd_f_idiv, fd_f_irem, fd_f_ldiv, fd_f_lrem, fd_f_ineg, fd_f_i2l, fd_f_l2i, fd_f_i2b, fd_f_i2s, fd_f_i2c, fd_z_idiv, fd_z_irem, fd_z_ldiv, fd_z_lrem, fd_in0, fd_sl, fd_st1, fd_st2, fd_kl, fd_vI, fd_vL, fd_vN, fd_ok1, fd_v_int, xI, xL, xR, xK, xG, yI, yL, yN, -Prod.exists, fd_run_of eh, a, b, hp, fd_run_of (s_X12_fault hw _)]
        exact fin
  · rw [if_pos c2.1, c2.2] at eh
    have b1 : nI (v0 + nv) < 9 := nI_lt (b := 9) c1 (by decide)
    have o1 := mt_d10f (len := len) (top := top) (show p + 1 < 1000 by omega) c3
    simp [↓wp_ldn, ↓wp_b1, ↓wp_b2, ↓wp_b2z, ↓wp_gf, ↓wp_gd, ↓wp_ga, ↓wp_gl, ↓wp_al2, ↓wp_pi, ↓wp_ltr, ↓wp_ite, ↓wp_and, ↓wp_or, ↓wp_not, ↓wp_cmp, ↓wp_cmz, ↓wp_isn, ↓wp_nsn, ↓wp_a0, ↓wp_a1, ↓wp_cv, ↓wp_cs, ↓wp_dr, ↓wp_sk, ↓wp_brk, ↓wp_cnt, ↓wp_rV, ↓wp_seq, ↓wp_iff, ↓wp_sI, ↓wp_sL, ↓wp_sN, ↓wp_inc, ↓wp_do, ↓wp_rI, ↓wp_rL, ↓wp_rN, ↓wp_rZ, ↓wp_pf, ↓wp_pz, ↓wp_pd, ↓wp_po, ↓wp_pl, ↓wp_pao, ↓wp_tsw, ↓wp_lsw, ↓wp_fn, ↓wq_ld, ↓wq_ldl, ↓wq_lda, ↓wq_c, ↓wq_gr, ↓wq_gq, ↓wq_nn, ↓wq_asI, ↓wq_asL, ↓wq_asN, ↓wq_pa, hO_182, hR_182_0, hF_182_1, hR_182_2, hF_182_3, hR_182_4, hF_182_5, hR_182_6, hR_182_7, hR_182_8, hF_182_9, hF_182_10, hF_182_11, hF_182_12, hR_182_13, hF_182_14, hR_182_15, hF_182_16, hF_182_17, hF_182_18, hF_182_19, hF_182_20, hF_182_21, hF_182_22, hR_182_23, hR_182_24, hF_182_25, hF_182_26, hR_182_27, hR_182_28, hR_182_29, hF_182_30, hF_182_31, hR_182_32, hR_182_33, hF_182_34, hR_182_35, hF_182_36, hF_182_37, hF_182_38, hF_182_39, hF_182_40, hR_182_41, hR_182_42, hR_182_43, hR_182_44, hR_182_45, hR_182_46, hF_182_47, hR_182_48, hR_182_49, hR_182_50, hR_182_51, hR_182_52, hF_182_53, hR_182_54, hR_182_55, hR_182_56, hR_182_57, hF_182_58, hR_182_59, hR_182_60, hR_182_61, fd_p_eq, fd_p_ne, fd_p_lt, fd_p_ge, fd_p_gt, fd_p_le, fd_f_iadd, fd_f_isub, fd_f_imul, fd_f_iand, fd_f_ior, fd_f_ixor, fd_f_ishl, fd_f_ishr, fd_f_iushr, fd_f_ladd, fd_f_lsub, fd_f_lmul, fd_f_lcmp, fd_f_idiv, fd_f_irem, fd_f_ldiv, fd_f_lrem, fd_f_ineg, fd_f_i2l, fd_f_l2i, fd_f_i2b, fd_f_i2s, fd_f_i2c, fd_z_idiv, fd_z_irem, fd_z_ldiv, fd_z_lrem, fd_in0, fd_sl, fd_st1, fd_st2, fd_kl, fd_vI, fd_vL, fd_vN, fd_ok1, fd_v_int, xI, xL, xR, xK, xG, yI, yL, yN, -Prod.exists, fd_run_of eh, hv, hnv, nI_add, b1, rd_I, hp, nI_1, hA_191 (show nv < 9 by omega), nI_clamp (show nv < 2 ^ 31 by omega), o1, h, hw, rp_21]
    refine hQ _ (p + 1) ?_ ?_ ?_ ?_
    · repeat' (first | exact fP.rf | refine fP.uI ?_ (by unfold hm_P; omega))
    · simp [rd_I]
    · omega
    · simp [rd_I]
  · rw [if_pos c2.1, c2.2] at eh
    have z1 : ¬ (114 : Int32) = 118 := by decide
    have b1 : nI (r0 + nr) < 24 := nI_lt (b := 24) c1 (by decide)
    have A0 := hA_192 (show 3 * nr < 72 by omega)
    have A1 := hA_192 (show 3 * nr + 1 < 72 by omega)
    have A2 := hA_192 (show 3 * nr + 2 < 72 by omega)
    have t0 := nI_clamp (show 3 * nr < 2 ^ 31 by omega)
    have t1 := nI_clamp (show 3 * nr + 1 < 2 ^ 31 by omega)
    have t2 := nI_clamp (show 3 * nr + 2 < 2 ^ 31 by omega)
    rcases c with ⟨c3, rfl⟩ | ⟨c3, c4, rfl⟩ | ⟨c3, c4, c5, rfl⟩ | ⟨c3, c4, c5, c6, rfl⟩
    · have o1 := mt_letf (len := len) (top := top) (show p + 1 < 1000 by omega) (show v0 + nv ≤ 31 by omega) c3
      simp [↓wp_ldn, ↓wp_b1, ↓wp_b2, ↓wp_b2z, ↓wp_gf, ↓wp_gd, ↓wp_ga, ↓wp_gl, ↓wp_al2, ↓wp_pi, ↓wp_ltr, ↓wp_ite, ↓wp_and, ↓wp_or, ↓wp_not, ↓wp_cmp, ↓wp_cmz, ↓wp_isn, ↓wp_nsn, ↓wp_a0, ↓wp_a1, ↓wp_cv, ↓wp_cs, ↓wp_dr, ↓wp_sk, ↓wp_brk, ↓wp_cnt, ↓wp_rV, ↓wp_seq, ↓wp_iff, ↓wp_sI, ↓wp_sL, ↓wp_sN, ↓wp_inc, ↓wp_do, ↓wp_rI, ↓wp_rL, ↓wp_rN, ↓wp_rZ, ↓wp_pf, ↓wp_pz, ↓wp_pd, ↓wp_po, ↓wp_pl, ↓wp_pao, ↓wp_tsw, ↓wp_lsw, ↓wp_fn, ↓wq_ld, ↓wq_ldl, ↓wq_lda, ↓wq_c, ↓wq_gr, ↓wq_gq, ↓wq_nn, ↓wq_asI, ↓wq_asL, ↓wq_asN, ↓wq_pa, hO_182, hR_182_0, hF_182_1, hR_182_2, hF_182_3, hR_182_4, hF_182_5, hR_182_6, hR_182_7, hR_182_8, hF_182_9, hF_182_10, hF_182_11, hF_182_12, hR_182_13, hF_182_14, hR_182_15, hF_182_16, hF_182_17, hF_182_18, hF_182_19, hF_182_20, hF_182_21, hF_182_22, hR_182_23, hR_182_24, hF_182_25, hF_182_26, hR_182_27, hR_182_28, hR_182_29, hF_182_30, hF_182_31, hR_182_32, hR_182_33, hF_182_34, hR_182_35, hF_182_36, hF_182_37, hF_182_38, hF_182_39, hF_182_40, hR_182_41, hR_182_42, hR_182_43, hR_182_44, hR_182_45, hR_182_46, hF_182_47, hR_182_48, hR_182_49, hR_182_50, hR_182_51, hR_182_52, hF_182_53, hR_182_54, hR_182_55, hR_182_56, hR_182_57, hF_182_58, hR_182_59, hR_182_60, hR_182_61, fd_p_eq, fd_p_ne, fd_p_lt, fd_p_ge, fd_p_gt, fd_p_le, fd_f_iadd, fd_f_isub, fd_f_imul, fd_f_iand, fd_f_ior, fd_f_ixor, fd_f_ishl, fd_f_ishr, fd_f_iushr, fd_f_ladd, fd_f_lsub, fd_f_lmul, fd_f_lcmp, fd_f_idiv, fd_f_irem, fd_f_ldiv, fd_f_lrem, fd_f_ineg, fd_f_i2l, fd_f_l2i, fd_f_i2b, fd_f_i2s, fd_f_i2c, fd_z_idiv, fd_z_irem, fd_z_ldiv, fd_z_lrem, fd_in0, fd_sl, fd_st1, fd_st2, fd_kl, fd_vI, fd_vL, fd_vN, fd_ok1, fd_v_int, xI, xL, xR, xK, xG, yI, yL, yN, -Prod.exists, fd_run_of eh, z1, hv, hnv, hr, hnr, nI_add, b1, e3, a1, a2, rd_I, hp, nI_1, A0, A1, A2, t0, t1, t2, o1, h, hw, rp_21, rp_22, rp_192, nzz, mt_one_x, mt_nm_x]
      refine hQ _ (p + 1) ?_ ?_ ?_ ?_
      · repeat' (first | exact fP.rf | refine fP.uI ?_ (by unfold hm_P; omega))
      · simp [rd_I]
      · omega
      · simp [rd_I]
    · have o1 := mt_let (len := len) (top := top) (show v0 + nv ≤ 31 by omega) c3
      have o2 := mt_letf (len := len) (top := top) (show p + 2 < 1000 by omega) (show v0 + nv ≤ 31 by omega) c4
      simp [↓wp_ldn, ↓wp_b1, ↓wp_b2, ↓wp_b2z, ↓wp_gf, ↓wp_gd, ↓wp_ga, ↓wp_gl, ↓wp_al2, ↓wp_pi, ↓wp_ltr, ↓wp_ite, ↓wp_and, ↓wp_or, ↓wp_not, ↓wp_cmp, ↓wp_cmz, ↓wp_isn, ↓wp_nsn, ↓wp_a0, ↓wp_a1, ↓wp_cv, ↓wp_cs, ↓wp_dr, ↓wp_sk, ↓wp_brk, ↓wp_cnt, ↓wp_rV, ↓wp_seq, ↓wp_iff, ↓wp_sI, ↓wp_sL, ↓wp_sN, ↓wp_inc, ↓wp_do, ↓wp_rI, ↓wp_rL, ↓wp_rN, ↓wp_rZ, ↓wp_pf, ↓wp_pz, ↓wp_pd, ↓wp_po, ↓wp_pl, ↓wp_pao, ↓wp_tsw, ↓wp_lsw, ↓wp_fn, ↓wq_ld, ↓wq_ldl, ↓wq_lda, ↓wq_c, ↓wq_gr, ↓wq_gq, ↓wq_nn, ↓wq_asI, ↓wq_asL, ↓wq_asN, ↓wq_pa, hO_182, hR_182_0, hF_182_1, hR_182_2, hF_182_3, hR_182_4, hF_182_5, hR_182_6, hR_182_7, hR_182_8, hF_182_9, hF_182_10, hF_182_11, hF_182_12, hR_182_13, hF_182_14, hR_182_15, hF_182_16, hF_182_17, hF_182_18, hF_182_19, hF_182_20, hF_182_21, hF_182_22, hR_182_23, hR_182_24, hF_182_25, hF_182_26, hR_182_27, hR_182_28, hR_182_29, hF_182_30, hF_182_31, hR_182_32, hR_182_33, hF_182_34, hR_182_35, hF_182_36, hF_182_37, hF_182_38, hF_182_39, hF_182_40, hR_182_41, hR_182_42, hR_182_43, hR_182_44, hR_182_45, hR_182_46, hF_182_47, hR_182_48, hR_182_49, hR_182_50, hR_182_51, hR_182_52, hF_182_53, hR_182_54, hR_182_55, hR_182_56, hR_182_57, hF_182_58, hR_182_59, hR_182_60, hR_182_61, fd_p_eq, fd_p_ne, fd_p_lt, fd_p_ge, fd_p_gt, fd_p_le, fd_f_iadd, fd_f_isub, fd_f_imul, fd_f_iand, fd_f_ior, fd_f_ixor, fd_f_ishl, fd_f_ishr, fd_f_iushr, fd_f_ladd, fd_f_lsub, fd_f_lmul, fd_f_lcmp, fd_f_idiv, fd_f_irem, fd_f_ldiv, fd_f_lrem, fd_f_ineg, fd_f_i2l, fd_f_l2i, fd_f_i2b, fd_f_i2s, fd_f_i2c, fd_z_idiv, fd_z_irem, fd_z_ldiv, fd_z_lrem, fd_in0, fd_sl, fd_st1, fd_st2, fd_kl, fd_vI, fd_vL, fd_vN, fd_ok1, fd_v_int, xI, xL, xR, xK, xG, yI, yL, yN, -Prod.exists, fd_run_of eh, z1, hv, hnv, hr, hnr, nI_add, b1, e3, a1, a2, rd_I, hp, nI_1, A0, A1, A2, t0, t1, t2, o1, o2, h, hw, rp_21, rp_22, rp_192, nzz, mt_one_x, mt_nm_x]
      refine hQ _ (p + 2) ?_ ?_ ?_ ?_
      · repeat' (first | exact fP.rf | refine fP.uI ?_ (by unfold hm_P; omega))
      · simp [rd_I]
      · omega
      · simp [rd_I]
    · have o1 := mt_let (len := len) (top := top) (show v0 + nv ≤ 31 by omega) c3
      have o2 := mt_let (len := len) (top := top) (show v0 + nv ≤ 31 by omega) c4
      have o3 := mt_nmf (len := len) (top := top) (show p + 3 < 1000 by omega) c5 1
      simp [↓wp_ldn, ↓wp_b1, ↓wp_b2, ↓wp_b2z, ↓wp_gf, ↓wp_gd, ↓wp_ga, ↓wp_gl, ↓wp_al2, ↓wp_pi, ↓wp_ltr, ↓wp_ite, ↓wp_and, ↓wp_or, ↓wp_not, ↓wp_cmp, ↓wp_cmz, ↓wp_isn, ↓wp_nsn, ↓wp_a0, ↓wp_a1, ↓wp_cv, ↓wp_cs, ↓wp_dr, ↓wp_sk, ↓wp_brk, ↓wp_cnt, ↓wp_rV, ↓wp_seq, ↓wp_iff, ↓wp_sI, ↓wp_sL, ↓wp_sN, ↓wp_inc, ↓wp_do, ↓wp_rI, ↓wp_rL, ↓wp_rN, ↓wp_rZ, ↓wp_pf, ↓wp_pz, ↓wp_pd, ↓wp_po, ↓wp_pl, ↓wp_pao, ↓wp_tsw, ↓wp_lsw, ↓wp_fn, ↓wq_ld, ↓wq_ldl, ↓wq_lda, ↓wq_c, ↓wq_gr, ↓wq_gq, ↓wq_nn, ↓wq_asI, ↓wq_asL, ↓wq_asN, ↓wq_pa, hO_182, hR_182_0, hF_182_1, hR_182_2, hF_182_3, hR_182_4, hF_182_5, hR_182_6, hR_182_7, hR_182_8, hF_182_9, hF_182_10, hF_182_11, hF_182_12, hR_182_13, hF_182_14, hR_182_15, hF_182_16, hF_182_17, hF_182_18, hF_182_19, hF_182_20, hF_182_21, hF_182_22, hR_182_23, hR_182_24, hF_182_25, hF_182_26, hR_182_27, hR_182_28, hR_182_29, hF_182_30, hF_182_31, hR_182_32, hR_182_33, hF_182_34, hR_182_35, hF_182_36, hF_182_37, hF_182_38, hF_182_39, hF_182_40, hR_182_41, hR_182_42, hR_182_43, hR_182_44, hR_182_45, hR_182_46, hF_182_47, hR_182_48, hR_182_49, hR_182_50, hR_182_51, hR_182_52, hF_182_53, hR_182_54, hR_182_55, hR_182_56, hR_182_57, hF_182_58, hR_182_59, hR_182_60, hR_182_61, fd_p_eq, fd_p_ne, fd_p_lt, fd_p_ge, fd_p_gt, fd_p_le, fd_f_iadd, fd_f_isub, fd_f_imul, fd_f_iand, fd_f_ior, fd_f_ixor, fd_f_ishl, fd_f_ishr, fd_f_iushr, fd_f_ladd, fd_f_lsub, fd_f_lmul, fd_f_lcmp, fd_f_idiv, fd_f_irem, fd_f_ldiv, fd_f_lrem, fd_f_ineg, fd_f_i2l, fd_f_l2i, fd_f_i2b, fd_f_i2s, fd_f_i2c, fd_z_idiv, fd_z_irem, fd_z_ldiv, fd_z_lrem, fd_in0, fd_sl, fd_st1, fd_st2, fd_kl, fd_vI, fd_vL, fd_vN, fd_ok1, fd_v_int, xI, xL, xR, xK, xG, yI, yL, yN, -Prod.exists, fd_run_of eh, z1, hv, hnv, hr, hnr, nI_add, b1, e3, a1, a2, rd_I, hp, nI_1, A0, A1, A2, t0, t1, t2, o1, o2, o3, h, hw, rp_21, rp_22, rp_192, nzz, mt_one_x, mt_nm_x]
      refine hQ _ (p + 3) ?_ ?_ ?_ ?_
      · repeat' (first | exact fP.rf | refine fP.uI ?_ (by unfold hm_P; omega))
      · simp [rd_I]
      · omega
      · simp [rd_I]
    · have o1 := mt_let (len := len) (top := top) (show v0 + nv ≤ 31 by omega) c3
      have o2 := mt_let (len := len) (top := top) (show v0 + nv ≤ 31 by omega) c4
      have o3 := mt_nml (len := len) (top := top) (x := 1) c5 (by omega) (by omega)
      rw [show nI 1 = (1 : Int32) from rfl] at o3
      have en := ne_f c5
      simp [↓wp_ldn, ↓wp_b1, ↓wp_b2, ↓wp_b2z, ↓wp_gf, ↓wp_gd, ↓wp_ga, ↓wp_gl, ↓wp_al2, ↓wp_pi, ↓wp_ltr, ↓wp_ite, ↓wp_and, ↓wp_or, ↓wp_not, ↓wp_cmp, ↓wp_cmz, ↓wp_isn, ↓wp_nsn, ↓wp_a0, ↓wp_a1, ↓wp_cv, ↓wp_cs, ↓wp_dr, ↓wp_sk, ↓wp_brk, ↓wp_cnt, ↓wp_rV, ↓wp_seq, ↓wp_iff, ↓wp_sI, ↓wp_sL, ↓wp_sN, ↓wp_inc, ↓wp_do, ↓wp_rI, ↓wp_rL, ↓wp_rN, ↓wp_rZ, ↓wp_pf, ↓wp_pz, ↓wp_pd, ↓wp_po, ↓wp_pl, ↓wp_pao, ↓wp_tsw, ↓wp_lsw, ↓wp_fn, ↓wq_ld, ↓wq_ldl, ↓wq_lda, ↓wq_c, ↓wq_gr, ↓wq_gq, ↓wq_nn, ↓wq_asI, ↓wq_asL, ↓wq_asN, ↓wq_pa, hO_182, hR_182_0, hF_182_1, hR_182_2, hF_182_3, hR_182_4, hF_182_5, hR_182_6, hR_182_7, hR_182_8, hF_182_9, hF_182_10, hF_182_11, hF_182_12, hR_182_13, hF_182_14, hR_182_15, hF_182_16, hF_182_17, hF_182_18, hF_182_19, hF_182_20, hF_182_21, hF_182_22, hR_182_23, hR_182_24, hF_182_25, hF_182_26, hR_182_27, hR_182_28, hR_182_29, hF_182_30, hF_182_31, hR_182_32, hR_182_33, hF_182_34, hR_182_35, hF_182_36, hF_182_37, hF_182_38, hF_182_39, hF_182_40, hR_182_41, hR_182_42, hR_182_43, hR_182_44, hR_182_45, hR_182_46, hF_182_47, hR_182_48, hR_182_49, hR_182_50, hR_182_51, hR_182_52, hF_182_53, hR_182_54, hR_182_55, hR_182_56, hR_182_57, hF_182_58, hR_182_59, hR_182_60, hR_182_61, fd_p_eq, fd_p_ne, fd_p_lt, fd_p_ge, fd_p_gt, fd_p_le, fd_f_iadd, fd_f_isub, fd_f_imul, fd_f_iand, fd_f_ior, fd_f_ixor, fd_f_ishl, fd_f_ishr, fd_f_iushr, fd_f_ladd, fd_f_lsub, fd_f_lmul, fd_f_lcmp, fd_f_idiv, fd_f_irem, fd_f_ldiv, fd_f_lrem, fd_f_ineg, fd_f_i2l, fd_f_l2i, fd_f_i2b, fd_f_i2s, fd_f_i2c, fd_z_idiv, fd_z_irem, fd_z_ldiv, fd_z_lrem, fd_in0, fd_sl, fd_st1, fd_st2, fd_kl, fd_vI, fd_vL, fd_vN, fd_ok1, fd_v_int, xI, xL, xR, xK, xG, yI, yL, yN, -Prod.exists, fd_run_of eh, z1, hv, hnv, hr, hnr, nI_add, b1, e3, a1, a2, rd_I, hp, nI_1, A0, A1, A2, t0, t1, t2, o1, o2, o3, h, hw, rp_21, rp_22, rp_192, nzz, mt_one_x, mt_nm_x]
      refine hQ _ (ne ch l (p + 3)) ?_ ?_ ?_ ?_
      · repeat' (first | exact fP.rf | refine fP.uI ?_ (by unfold hm_P; omega))
      · simp [rd_I]
      · omega
      · simp [rd_I]
end HM
