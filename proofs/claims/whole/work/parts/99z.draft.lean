-- FILE 96f.hlay
/-! ===== hills: what was told is laid ===== -/
def h_j (o : Nat → Nat) (r0 : Nat) (O : Nat → Nat) : Nat → Nat := fun i => if i < r0 then o i else O (i - r0)
theorem h_j1 {o : Nat → Nat} {r0 : Nat} {O : Nat → Nat} {i : Nat} (h : i < r0) : h_j o r0 O i = o i := by unfold h_j; rw [if_pos h]
theorem h_j2 {o : Nat → Nat} {r0 : Nat} {O : Nat → Nat} (i : Nat) : h_j o r0 O (r0 + i) = O i := by unfold h_j; rw [if_neg (by omega), show r0 + i - r0 = i by omega]
theorem iv_rd_cong {o t x o' t' x' : Nat → Nat} : ∀ k, (∀ i, i < k → o i = o' i ∧ t i = t' i ∧ x i = x' i) → ∀ a b, iv_rd o t x k a b = iv_rd o' t' x' k a b
  | 0, _, a, b => rfl
  | k + 1, h, a, b => by
    obtain ⟨h1, h2, h3⟩ := h k (by omega)
    have ih := iv_rd_cong k (fun i hi => h i (by omega))
    rw [iv_rd_s, iv_rd_s, h1, h2, h3, ih, ih a b]
section HY
variable {v0 r0 : Nat} {o t x : Nat → Nat} {s : hst} {M : fd_M}
def h_old (v0 r0 : Nat) (o t x : Nat → Nat) : Prop := ∀ k, k < r0 → o k < v0 ∧ t k < v0 ∧ o k ≠ t k ∧ 1 ≤ x k ∧ x k ≤ 99
theorem h_rd (h : h_old v0 r0 o t x) (i : h_inv v0 r0 s) : h_old (v0 + s.v) (r0 + s.r) (h_j o r0 s.O) (h_j t r0 s.T) (h_j x r0 s.X) := fun k hk => by
  by_cases e : k < r0
  · rw [h_j1 e, h_j1 e, h_j1 e]
    obtain ⟨a, b, c⟩ := h k e
    exact ⟨by omega, by omega, c⟩
  · obtain ⟨j, rfl⟩ : ∃ j, k = r0 + j := ⟨k - r0, by omega⟩
    rw [h_j2, h_j2, h_j2]
    exact i.2.2 j (by omega)
def hs_P (a j : Nat) : Prop := (a = 5 ∧ (j = 0 ∨ j = 1)) ∨ (11 ≤ a ∧ a ≤ 19) ∨ (21 ≤ a ∧ a ≤ 29)
theorem s_X3_settle (h : h_old v0 r0 o t x) (i : h_inv v0 r0 s) (hk : ∀ k, k < r0 → M.1 7 k = nI (o k) ∧ M.1 8 k = nI (t k) ∧ M.1 9 k = nI (x k)) (hM : hx v0 r0 s M) (n : Int32) {Q : fd_M → Prop} (hQ : ∀ M2, fP hs_P M M2 → M2.1 5 0 = nI (v0 + s.v) → M2.1 5 1 = nI (r0 + s.r) → (∀ a b, a < 9 → b < 9 → M2.1 (a + 11) b = nI (iv_rd (h_j o r0 s.O) (h_j t r0 s.T) (h_j x r0 s.X) (r0 + s.r) a b)) → (∀ a b, a < 9 → b < 9 → M2.1 (a + 21) b = nI (fw (iv_rd (h_j o r0 s.O) (h_j t r0 s.T) (h_j x r0 s.X) (r0 + s.r)) 9 a b)) → Q M2) : fd_run m_X3_settle [.ref 5, .int n] M (fun v M2 => v = .int n ∧ Q M2) := by
  obtain ⟨x1, x2, x3, x4⟩ := hM
  have hr := h_rd h i
  obtain ⟨i1, i2, i3⟩ := i
  obtain ⟨p1, p2, p3, p4⟩ := iv_rd_props hr (r0 + s.r) (Nat.le_refl _)
  unfold m_X3_settle b_X3_settle
  simp [↓wp_ldn, ↓wp_b1, ↓wp_b2, ↓wp_b2z, ↓wp_gf, ↓wp_gd, ↓wp_ga, ↓wp_gl, ↓wp_al2, ↓wp_pi, ↓wp_ltr, ↓wp_ite, ↓wp_and, ↓wp_or, ↓wp_not, ↓wp_cmp, ↓wp_cmz, ↓wp_isn, ↓wp_nsn, ↓wp_a0, ↓wp_a1, ↓wp_cv, ↓wp_cs, ↓wp_dr, ↓wp_sk, ↓wp_brk, ↓wp_cnt, ↓wp_rV, ↓wp_seq, ↓wp_iff, ↓wp_sI, ↓wp_sL, ↓wp_sN, ↓wp_inc, ↓wp_do, ↓wp_rI, ↓wp_rL, ↓wp_rN, ↓wp_rZ, ↓wp_pf, ↓wp_pz, ↓wp_pd, ↓wp_po, ↓wp_pl, ↓wp_pao, ↓wp_tsw, ↓wp_lsw, ↓wp_fn, ↓wq_ld, ↓wq_ldl, ↓wq_lda, ↓wq_c, ↓wq_gr, ↓wq_gq, ↓wq_nn, ↓wq_asI, ↓wq_asL, ↓wq_asN, ↓wq_pa, hO_0, hR_0_0, hR_0_1, hR_0_2, hR_0_3, hR_0_4, hR_0_5, hR_0_6, hR_0_7, hR_0_8, hR_0_9, hR_0_10, hR_0_11, hF_0_12, hO_1, hR_1_0, hF_1_1, hF_1_2, hF_1_3, hO_3, hR_3_0, hF_3_1, hO_5, hF_5_0, hF_5_1, hR_5_2, hR_5_3, hR_5_4, hR_5_5, hR_5_6, hR_5_7, hF_5_8, hF_5_9, hO_30, hF_30_0, hF_30_1, hF_30_2, hF_30_3, hO_31, hF_31_0, hF_31_1, hR_31_2, hR_31_3, hR_31_4, hO_35, hR_35_0, hF_35_1, hR_35_2, hF_35_3, hR_35_4, hF_35_5, hF_35_6, hR_35_7, hF_35_8, hR_35_9, hR_35_10, hO_42, hO_45, hO_48, hR_48_0, hF_48_1, hF_48_2, hR_48_3, hR_48_4, hO_94, hR_94_0, hR_94_1, hO_97, hF_97_0, hF_97_1, hF_97_2, hF_97_3, hR_97_4, hR_97_5, hR_97_6, hR_97_7, hR_97_8, hR_97_9, hR_97_10, hR_97_11, hF_97_12, hO_156, hF_156_0, hR_156_1, hR_156_2, hR_156_3, hR_156_4, hR_156_5, hR_156_6, hR_156_7, hR_156_8, fd_p_eq, fd_p_ne, fd_p_lt, fd_p_ge, fd_p_gt, fd_p_le, fd_f_iadd, fd_f_isub, fd_f_imul, fd_f_iand, fd_f_ior, fd_f_ixor, fd_f_ishl, fd_f_ishr, fd_f_iushr, fd_f_ladd, fd_f_lsub, fd_f_lmul, fd_f_lcmp, fd_f_idiv, fd_f_irem, fd_f_ldiv, fd_f_lrem, fd_f_ineg, fd_f_i2l, fd_f_l2i, fd_f_i2b, fd_f_i2s, fd_f_i2c, fd_z_idiv, fd_z_irem, fd_z_ldiv, fd_z_lrem, fd_in0, fd_sl, fd_st1, fd_st2, fd_kl, fd_vI, fd_vL, fd_vN, fd_ok1, fd_v_int, xI, xL, xR, xK, xG, yI, yL, yN, -Prod.exists, x1, x2, rd_I]
  refine s_X3_layRoads (v := v0 + s.v) (r := r0 + s.r) (o := h_j o r0 s.O) (t := h_j t r0 s.T) (x := h_j x r0 s.X) (by simp [rd_I]) i1 (by simp [rd_I]) i2 (fun k hk2 => ?_) (fun M2 f2 h2 => ?_)
  · obtain ⟨q1, q2, q3, q4, q5⟩ := hr k hk2
    refine ⟨q1, q2, q3, q4, q5, ?_⟩
    simp [rd_I]
    by_cases e : k < r0
    · rw [h_j1 e, h_j1 e, h_j1 e]
      exact hk k e
    · obtain ⟨j, rfl⟩ : ∃ j, k = r0 + j := ⟨k - r0, by omega⟩
      rw [h_j2, h_j2, h_j2]
      exact x4 j (by omega)
  · try simp [↓wp_ldn, ↓wp_b1, ↓wp_b2, ↓wp_b2z, ↓wp_gf, ↓wp_gd, ↓wp_ga, ↓wp_gl, ↓wp_al2, ↓wp_pi, ↓wp_ltr, ↓wp_ite, ↓wp_and, ↓wp_or, ↓wp_not, ↓wp_cmp, ↓wp_cmz, ↓wp_isn, ↓wp_nsn, ↓wp_a0, ↓wp_a1, ↓wp_cv, ↓wp_cs, ↓wp_dr, ↓wp_sk, ↓wp_brk, ↓wp_cnt, ↓wp_rV, ↓wp_seq, ↓wp_iff, ↓wp_sI, ↓wp_sL, ↓wp_sN, ↓wp_inc, ↓wp_do, ↓wp_rI, ↓wp_rL, ↓wp_rN, ↓wp_rZ, ↓wp_pf, ↓wp_pz, ↓wp_pd, ↓wp_po, ↓wp_pl, ↓wp_pao, ↓wp_tsw, ↓wp_lsw, ↓wp_fn, ↓wq_ld, ↓wq_ldl, ↓wq_lda, ↓wq_c, ↓wq_gr, ↓wq_gq, ↓wq_nn, ↓wq_asI, ↓wq_asL, ↓wq_asN, ↓wq_pa, hO_0, hR_0_0, hR_0_1, hR_0_2, hR_0_3, hR_0_4, hR_0_5, hR_0_6, hR_0_7, hR_0_8, hR_0_9, hR_0_10, hR_0_11, hF_0_12, hO_1, hR_1_0, hF_1_1, hF_1_2, hF_1_3, hO_3, hR_3_0, hF_3_1, hO_5, hF_5_0, hF_5_1, hR_5_2, hR_5_3, hR_5_4, hR_5_5, hR_5_6, hR_5_7, hF_5_8, hF_5_9, hO_30, hF_30_0, hF_30_1, hF_30_2, hF_30_3, hO_31, hF_31_0, hF_31_1, hR_31_2, hR_31_3, hR_31_4, hO_35, hR_35_0, hF_35_1, hR_35_2, hF_35_3, hR_35_4, hF_35_5, hF_35_6, hR_35_7, hF_35_8, hR_35_9, hR_35_10, hO_42, hO_45, hO_48, hR_48_0, hF_48_1, hF_48_2, hR_48_3, hR_48_4, hO_94, hR_94_0, hR_94_1, hO_97, hF_97_0, hF_97_1, hF_97_2, hF_97_3, hR_97_4, hR_97_5, hR_97_6, hR_97_7, hR_97_8, hR_97_9, hR_97_10, hR_97_11, hF_97_12, hO_156, hF_156_0, hR_156_1, hR_156_2, hR_156_3, hR_156_4, hR_156_5, hR_156_6, hR_156_7, hR_156_8, fd_p_eq, fd_p_ne, fd_p_lt, fd_p_ge, fd_p_gt, fd_p_le, fd_f_iadd, fd_f_isub, fd_f_imul, fd_f_iand, fd_f_ior, fd_f_ixor, fd_f_ishl, fd_f_ishr, fd_f_iushr, fd_f_ladd, fd_f_lsub, fd_f_lmul, fd_f_lcmp, fd_f_idiv, fd_f_irem, fd_f_ldiv, fd_f_lrem, fd_f_ineg, fd_f_i2l, fd_f_l2i, fd_f_i2b, fd_f_i2s, fd_f_i2c, fd_z_idiv, fd_z_irem, fd_z_ldiv, fd_z_lrem, fd_in0, fd_sl, fd_st1, fd_st2, fd_kl, fd_vI, fd_vL, fd_vN, fd_ok1, fd_v_int, xI, xL, xR, xK, xG, yI, yL, yN, -Prod.exists]
    refine s_X3_findWays p2 (fun a b => (p1 a b).1) h2 (fun M3 f3 h3 => ?_)
    try simp [↓wp_ldn, ↓wp_b1, ↓wp_b2, ↓wp_b2z, ↓wp_gf, ↓wp_gd, ↓wp_ga, ↓wp_gl, ↓wp_al2, ↓wp_pi, ↓wp_ltr, ↓wp_ite, ↓wp_and, ↓wp_or, ↓wp_not, ↓wp_cmp, ↓wp_cmz, ↓wp_isn, ↓wp_nsn, ↓wp_a0, ↓wp_a1, ↓wp_cv, ↓wp_cs, ↓wp_dr, ↓wp_sk, ↓wp_brk, ↓wp_cnt, ↓wp_rV, ↓wp_seq, ↓wp_iff, ↓wp_sI, ↓wp_sL, ↓wp_sN, ↓wp_inc, ↓wp_do, ↓wp_rI, ↓wp_rL, ↓wp_rN, ↓wp_rZ, ↓wp_pf, ↓wp_pz, ↓wp_pd, ↓wp_po, ↓wp_pl, ↓wp_pao, ↓wp_tsw, ↓wp_lsw, ↓wp_fn, ↓wq_ld, ↓wq_ldl, ↓wq_lda, ↓wq_c, ↓wq_gr, ↓wq_gq, ↓wq_nn, ↓wq_asI, ↓wq_asL, ↓wq_asN, ↓wq_pa, hO_0, hR_0_0, hR_0_1, hR_0_2, hR_0_3, hR_0_4, hR_0_5, hR_0_6, hR_0_7, hR_0_8, hR_0_9, hR_0_10, hR_0_11, hF_0_12, hO_1, hR_1_0, hF_1_1, hF_1_2, hF_1_3, hO_3, hR_3_0, hF_3_1, hO_5, hF_5_0, hF_5_1, hR_5_2, hR_5_3, hR_5_4, hR_5_5, hR_5_6, hR_5_7, hF_5_8, hF_5_9, hO_30, hF_30_0, hF_30_1, hF_30_2, hF_30_3, hO_31, hF_31_0, hF_31_1, hR_31_2, hR_31_3, hR_31_4, hO_35, hR_35_0, hF_35_1, hR_35_2, hF_35_3, hR_35_4, hF_35_5, hF_35_6, hR_35_7, hF_35_8, hR_35_9, hR_35_10, hO_42, hO_45, hO_48, hR_48_0, hF_48_1, hF_48_2, hR_48_3, hR_48_4, hO_94, hR_94_0, hR_94_1, hO_97, hF_97_0, hF_97_1, hF_97_2, hF_97_3, hR_97_4, hR_97_5, hR_97_6, hR_97_7, hR_97_8, hR_97_9, hR_97_10, hR_97_11, hF_97_12, hO_156, hF_156_0, hR_156_1, hR_156_2, hR_156_3, hR_156_4, hR_156_5, hR_156_6, hR_156_7, hR_156_8, fd_p_eq, fd_p_ne, fd_p_lt, fd_p_ge, fd_p_gt, fd_p_le, fd_f_iadd, fd_f_isub, fd_f_imul, fd_f_iand, fd_f_ior, fd_f_ixor, fd_f_ishl, fd_f_ishr, fd_f_iushr, fd_f_ladd, fd_f_lsub, fd_f_lmul, fd_f_lcmp, fd_f_idiv, fd_f_irem, fd_f_ldiv, fd_f_lrem, fd_f_ineg, fd_f_i2l, fd_f_l2i, fd_f_i2b, fd_f_i2s, fd_f_i2c, fd_z_idiv, fd_z_irem, fd_z_ldiv, fd_z_lrem, fd_in0, fd_sl, fd_st1, fd_st2, fd_kl, fd_vI, fd_vL, fd_vN, fd_ok1, fd_v_int, xI, xL, xR, xK, xG, yI, yL, yN, -Prod.exists]
    have u : ∀ a j, a < 11 → M3.1 a j = M2.1 a j := fun a j z => f3.1 _ _ (by omega)
    have f : fP hs_P M M3 := (fP.uI (fP.uI fP.rf (show hs_P 5 0 by unfold hs_P; omega)) (show hs_P 5 1 by unfold hs_P; omega)).tr ((f2.up (fun a j z => by unfold hs_P; omega)).tr (f3.up (fun a j z => by unfold hs_P; omega)))
    refine hQ M3 f ?_ ?_ (fun a b ha hb => ?_) h3
    · rw [u _ _ (by omega), f2.1 _ _ (by omega)]; simp [rd_I]
    · rw [u _ _ (by omega), f2.1 _ _ (by omega)]; simp [rd_I]
    · rw [f3.1 _ _ (by omega)]; exact h2 a b ha hb
def hl_P (v0 a j : Nat) : Prop := (a = 184 ∧ v0 ≤ j) ∨ a = 185 ∨ a = 193 ∨ (a = 182 ∧ (j = 1 ∨ j = 3 ∨ j = 34 ∨ j = 58))
theorem hi_lay {cm : Nat} (h : h_old v0 r0 o t x) (i : h_inv v0 r0 s) (hM : hm s M) (hv : M.1 182 1 = nI v0) (hr0 : M.1 182 3 = nI r0) (hd : ∀ a b, a < 9 → b < 9 → M.1 185 (9 * a + b) = nI (iv_rd o t x r0 a b)) (h58 : M.1 182 58 = nI cm) {c2 c3 c4 c5 : Value} {Q : Value → fd_M → Prop} (hQ : ∀ M2, fP (hl_P v0) M M2 → M2.1 182 1 = nI (v0 + s.v) → M2.1 182 3 = nI (r0 + s.r) → M2.1 182 34 = 0 → M2.1 182 58 = nI (cm + 1) → (∀ j, j < s.v → M2.1 184 (v0 + j) = nI (s.F j)) → (∀ a b, a < 9 → b < 9 → M2.1 185 (9 * a + b) = nI (iv_rd (h_j o r0 s.O) (h_j t r0 s.T) (h_j x r0 s.X) (r0 + s.r) a b)) → (∀ a b, a < v0 + s.v → b < v0 + s.v → M2.1 193 (9 * a + b) = nI (fw (iv_rd (h_j o r0 s.O) (h_j t r0 s.T) (h_j x r0 s.X) (r0 + s.r)) (v0 + s.v) a b)) → Q (.int (nI (s.v + s.r))) M2) : fd_wp hi_m ([.ref 182, .int 0, c2, c3, c4, c5], M) (fun z v s => z = 1 ∧ Q v s.2) := by
  obtain ⟨x1, x2, x3, x4⟩ := hM
  have hr := h_rd h i
  obtain ⟨i1, i2, i3⟩ := i
  obtain ⟨R, hR⟩ : ∃ R : Nat → Nat → Nat → Nat, R = iv_rd (h_j o r0 s.O) (h_j t r0 s.T) (h_j x r0 s.X) := ⟨_, rfl⟩
  have pr := iv_rd_props hr
  have e0 : ∀ a b, iv_rd o t x r0 a b = R r0 a b := fun a b => by
    rw [hR]
    exact iv_rd_cong r0 (fun i hi => ⟨(h_j1 hi).symm, (h_j1 hi).symm, (h_j1 hi).symm⟩) a b
  rw [← hR] at pr hQ
  have nm : ∀ a b : Nat, (9 : Int32) * nI a + nI b = nI (9 * a + b) := fun a b => by rw [show (9 : Int32) = nI 9 from rfl, nI_mul, nI_add]
  unfold hi_m
  simp [↓wp_ldn, ↓wp_b1, ↓wp_b2, ↓wp_b2z, ↓wp_gf, ↓wp_gd, ↓wp_ga, ↓wp_gl, ↓wp_al2, ↓wp_pi, ↓wp_ltr, ↓wp_ite, ↓wp_and, ↓wp_or, ↓wp_not, ↓wp_cmp, ↓wp_cmz, ↓wp_isn, ↓wp_nsn, ↓wp_a0, ↓wp_a1, ↓wp_cv, ↓wp_cs, ↓wp_dr, ↓wp_sk, ↓wp_brk, ↓wp_cnt, ↓wp_rV, ↓wp_seq, ↓wp_iff, ↓wp_sI, ↓wp_sL, ↓wp_sN, ↓wp_inc, ↓wp_do, ↓wp_rI, ↓wp_rL, ↓wp_rN, ↓wp_rZ, ↓wp_pf, ↓wp_pz, ↓wp_pd, ↓wp_po, ↓wp_pl, ↓wp_pao, ↓wp_tsw, ↓wp_lsw, ↓wp_fn, ↓wq_ld, ↓wq_ldl, ↓wq_lda, ↓wq_c, ↓wq_gr, ↓wq_gq, ↓wq_nn, ↓wq_asI, ↓wq_asL, ↓wq_asN, ↓wq_pa, hO_182, hR_182_0, hF_182_1, hR_182_2, hF_182_3, hR_182_4, hF_182_5, hR_182_6, hR_182_7, hR_182_8, hF_182_9, hF_182_10, hF_182_11, hF_182_12, hR_182_13, hF_182_14, hR_182_15, hF_182_16, hF_182_17, hF_182_18, hF_182_19, hF_182_20, hF_182_21, hF_182_22, hR_182_23, hR_182_24, hF_182_25, hF_182_26, hR_182_27, hR_182_28, hR_182_29, hF_182_30, hF_182_31, hR_182_32, hR_182_33, hF_182_34, hR_182_35, hF_182_36, hF_182_37, hF_182_38, hF_182_39, hF_182_40, hR_182_41, hR_182_42, hR_182_43, hR_182_44, hR_182_45, hR_182_46, hF_182_47, hR_182_48, hR_182_49, hR_182_50, hR_182_51, hR_182_52, hF_182_53, hR_182_54, hR_182_55, hR_182_56, hR_182_57, hF_182_58, hR_182_59, hR_182_60, hR_182_61, fd_p_eq, fd_p_ne, fd_p_lt, fd_p_ge, fd_p_gt, fd_p_le, fd_f_iadd, fd_f_isub, fd_f_imul, fd_f_iand, fd_f_ior, fd_f_ixor, fd_f_ishl, fd_f_ishr, fd_f_iushr, fd_f_ladd, fd_f_lsub, fd_f_lmul, fd_f_lcmp, fd_f_idiv, fd_f_irem, fd_f_ldiv, fd_f_lrem, fd_f_ineg, fd_f_i2l, fd_f_l2i, fd_f_i2b, fd_f_i2s, fd_f_i2c, fd_z_idiv, fd_z_irem, fd_z_ldiv, fd_z_lrem, fd_in0, fd_sl, fd_st1, fd_st2, fd_kl, fd_vI, fd_vL, fd_vN, fd_ok1, fd_v_int, xI, xL, xR, xK, xG, yI, yL, yN, -Prod.exists]
  obtain ⟨J, hJ⟩ : ∃ J : Nat → fd_S → Prop, J = fun k σ => ∃ M1 : fd_M, σ = ([.ref 182, .int 0, .int (nI k), c3, c4, c5], M1) ∧ fP (fun a j => (a = 184 ∧ v0 ≤ j) ∨ (a = 182 ∧ j = 1)) M M1 ∧ M1.1 182 1 = nI (v0 + k) ∧ ∀ j, j < k → M1.1 184 (v0 + j) = nI (s.F j) := ⟨_, rfl⟩
  refine wp_for s.v J (fd_fu_lt (by omega)) (Nat.zero_le _) (by rw [hJ]; exact ⟨M, rfl, fP.rf, hv, fun j hj => absurd hj (Nat.not_lt_zero j)⟩) (fun k σ hk hs => ?_) (fun σ hs => ?_)
  · rw [hJ] at hs
    obtain ⟨M1, rfl, f1, v1, h1⟩ := hs
    have c1 : nI k < nI s.v := nI_lt hk (by omega)
    have e25 : M1.1 182 25 = nI s.v := by rw [f1.1 _ _ (by omega)]; exact x1
    have e191 : M1.1 191 k = nI (s.F k) := by rw [f1.1 _ _ (by omega)]; exact x3 k hk
    simp [↓wp_ldn, ↓wp_b1, ↓wp_b2, ↓wp_b2z, ↓wp_gf, ↓wp_gd, ↓wp_ga, ↓wp_gl, ↓wp_al2, ↓wp_pi, ↓wp_ltr, ↓wp_ite, ↓wp_and, ↓wp_or, ↓wp_not, ↓wp_cmp, ↓wp_cmz, ↓wp_isn, ↓wp_nsn, ↓wp_a0, ↓wp_a1, ↓wp_cv, ↓wp_cs, ↓wp_dr, ↓wp_sk, ↓wp_brk, ↓wp_cnt, ↓wp_rV, ↓wp_seq, ↓wp_iff, ↓wp_sI, ↓wp_sL, ↓wp_sN, ↓wp_inc, ↓wp_do, ↓wp_rI, ↓wp_rL, ↓wp_rN, ↓wp_rZ, ↓wp_pf, ↓wp_pz, ↓wp_pd, ↓wp_po, ↓wp_pl, ↓wp_pao, ↓wp_tsw, ↓wp_lsw, ↓wp_fn, ↓wq_ld, ↓wq_ldl, ↓wq_lda, ↓wq_c, ↓wq_gr, ↓wq_gq, ↓wq_nn, ↓wq_asI, ↓wq_asL, ↓wq_asN, ↓wq_pa, hO_182, hR_182_0, hF_182_1, hR_182_2, hF_182_3, hR_182_4, hF_182_5, hR_182_6, hR_182_7, hR_182_8, hF_182_9, hF_182_10, hF_182_11, hF_182_12, hR_182_13, hF_182_14, hR_182_15, hF_182_16, hF_182_17, hF_182_18, hF_182_19, hF_182_20, hF_182_21, hF_182_22, hR_182_23, hR_182_24, hF_182_25, hF_182_26, hR_182_27, hR_182_28, hR_182_29, hF_182_30, hF_182_31, hR_182_32, hR_182_33, hF_182_34, hR_182_35, hF_182_36, hF_182_37, hF_182_38, hF_182_39, hF_182_40, hR_182_41, hR_182_42, hR_182_43, hR_182_44, hR_182_45, hR_182_46, hF_182_47, hR_182_48, hR_182_49, hR_182_50, hR_182_51, hR_182_52, hF_182_53, hR_182_54, hR_182_55, hR_182_56, hR_182_57, hF_182_58, hR_182_59, hR_182_60, hR_182_61, fd_p_eq, fd_p_ne, fd_p_lt, fd_p_ge, fd_p_gt, fd_p_le, fd_f_iadd, fd_f_isub, fd_f_imul, fd_f_iand, fd_f_ior, fd_f_ixor, fd_f_ishl, fd_f_ishr, fd_f_iushr, fd_f_ladd, fd_f_lsub, fd_f_lmul, fd_f_lcmp, fd_f_idiv, fd_f_irem, fd_f_ldiv, fd_f_lrem, fd_f_ineg, fd_f_i2l, fd_f_l2i, fd_f_i2b, fd_f_i2s, fd_f_i2c, fd_z_idiv, fd_z_irem, fd_z_ldiv, fd_z_lrem, fd_in0, fd_sl, fd_st1, fd_st2, fd_kl, fd_vI, fd_vL, fd_vN, fd_ok1, fd_v_int, xI, xL, xR, xK, xG, yI, yL, yN, -Prod.exists, e25, c1, hA_191 (show k < 9 by omega), hA_184 (show v0 + k < 9 by omega), nI_clamp (show k < 2 ^ 31 by omega), nI_clamp (show v0 + k < 2 ^ 31 by omega), v1, e191, rd_I, nI_1]
    rw [hJ]
    refine ⟨_, rfl, fP.uI (fP.uI f1 (by omega)) (by omega), by simp [rd_I]; rfl, fun j hj => ?_⟩
    by_cases e : j = k
    · simp [rd_I, e]
    · simp [rd_I, e]; exact h1 j (by omega)
  · rw [hJ] at hs
    obtain ⟨M1, rfl, f1, v1, h1⟩ := hs
    have e25 : M1.1 182 25 = nI s.v := by rw [f1.1 _ _ (by omega)]; exact x1
    simp [↓wp_ldn, ↓wp_b1, ↓wp_b2, ↓wp_b2z, ↓wp_gf, ↓wp_gd, ↓wp_ga, ↓wp_gl, ↓wp_al2, ↓wp_pi, ↓wp_ltr, ↓wp_ite, ↓wp_and, ↓wp_or, ↓wp_not, ↓wp_cmp, ↓wp_cmz, ↓wp_isn, ↓wp_nsn, ↓wp_a0, ↓wp_a1, ↓wp_cv, ↓wp_cs, ↓wp_dr, ↓wp_sk, ↓wp_brk, ↓wp_cnt, ↓wp_rV, ↓wp_seq, ↓wp_iff, ↓wp_sI, ↓wp_sL, ↓wp_sN, ↓wp_inc, ↓wp_do, ↓wp_rI, ↓wp_rL, ↓wp_rN, ↓wp_rZ, ↓wp_pf, ↓wp_pz, ↓wp_pd, ↓wp_po, ↓wp_pl, ↓wp_pao, ↓wp_tsw, ↓wp_lsw, ↓wp_fn, ↓wq_ld, ↓wq_ldl, ↓wq_lda, ↓wq_c, ↓wq_gr, ↓wq_gq, ↓wq_nn, ↓wq_asI, ↓wq_asL, ↓wq_asN, ↓wq_pa, hO_182, hR_182_0, hF_182_1, hR_182_2, hF_182_3, hR_182_4, hF_182_5, hR_182_6, hR_182_7, hR_182_8, hF_182_9, hF_182_10, hF_182_11, hF_182_12, hR_182_13, hF_182_14, hR_182_15, hF_182_16, hF_182_17, hF_182_18, hF_182_19, hF_182_20, hF_182_21, hF_182_22, hR_182_23, hR_182_24, hF_182_25, hF_182_26, hR_182_27, hR_182_28, hR_182_29, hF_182_30, hF_182_31, hR_182_32, hR_182_33, hF_182_34, hR_182_35, hF_182_36, hF_182_37, hF_182_38, hF_182_39, hF_182_40, hR_182_41, hR_182_42, hR_182_43, hR_182_44, hR_182_45, hR_182_46, hF_182_47, hR_182_48, hR_182_49, hR_182_50, hR_182_51, hR_182_52, hF_182_53, hR_182_54, hR_182_55, hR_182_56, hR_182_57, hF_182_58, hR_182_59, hR_182_60, hR_182_61, fd_p_eq, fd_p_ne, fd_p_lt, fd_p_ge, fd_p_gt, fd_p_le, fd_f_iadd, fd_f_isub, fd_f_imul, fd_f_iand, fd_f_ior, fd_f_ixor, fd_f_ishl, fd_f_ishr, fd_f_iushr, fd_f_ladd, fd_f_lsub, fd_f_lmul, fd_f_lcmp, fd_f_idiv, fd_f_irem, fd_f_ldiv, fd_f_lrem, fd_f_ineg, fd_f_i2l, fd_f_l2i, fd_f_i2b, fd_f_i2s, fd_f_i2c, fd_z_idiv, fd_z_irem, fd_z_ldiv, fd_z_lrem, fd_in0, fd_sl, fd_st1, fd_st2, fd_kl, fd_vI, fd_vL, fd_vN, fd_ok1, fd_v_int, xI, xL, xR, xK, xG, yI, yL, yN, -Prod.exists, e25, lt_self]
    obtain ⟨J2, hJ2⟩ : ∃ J2 : Nat → fd_S → Prop, J2 = fun k σ => ∃ (M2 : fd_M) (c3 c4 c5 : Value), σ = ([.ref 182, .int 0, .int (nI k), c3, c4, c5], M2) ∧ fP (fun a j => a = 185 ∨ (a = 182 ∧ j = 3)) M1 M2 ∧ M2.1 182 3 = nI (r0 + k) ∧ ∀ a b, a < 9 → b < 9 → M2.1 185 (9 * a + b) = nI (R (r0 + k) a b) := ⟨_, rfl⟩
    refine wp_for s.r J2 (fd_fu_lt (by omega)) (Nat.zero_le _) (by rw [hJ2]; exact ⟨M1, _, _, _, rfl, fP.rf, by rw [f1.1 _ _ (by omega)]; exact hr0, fun a b ha hb => by rw [f1.1 _ _ (by omega), hd a b ha hb, e0]; rfl⟩) (fun k σ hk hs => ?_) (fun σ hs => ?_)
    · rw [hJ2] at hs
      obtain ⟨M2, c3, c4, c5, rfl, f2, v2, h2⟩ := hs
      have c1 : nI k < nI s.r := nI_lt hk (by omega)
      have u : ∀ a j, a = 192 ∨ (a = 182 ∧ (j = 25 ∨ j = 26)) → M2.1 a j = M.1 a j := fun a j h => by rw [f2.1 _ _ (by omega), f1.1 _ _ (by omega)]
      have e26 : M2.1 182 26 = nI s.r := by rw [u _ _ (by omega)]; exact x2
      obtain ⟨y1, y2, y3⟩ := x4 k hk
      rw [← u _ _ (by omega)] at y1 y2 y3
      obtain ⟨z1, z2, z3, z4, z5⟩ := i3 k hk
      have m3 : (3 : Int32) * nI k = nI (3 * k) := nI_mul 3 k
      have a1 : nI (3 * k) + 1 = nI (3 * k + 1) := nI_1 _
      have a2 : nI (3 * k) + 2 = nI (3 * k + 2) := nI_add _ 2
      have hh := h2 (s.O k) (s.T k) (by omega) (by omega)
      have lq := ((pr (r0 + k) (by omega)).1 (s.O k) (s.T k)).1
      have mn := nI_fmin (show R (r0 + k) (s.O k) (s.T k) < 2147483648 by omega) (show s.X k < 2147483648 by omega)
      simp [↓wp_ldn, ↓wp_b1, ↓wp_b2, ↓wp_b2z, ↓wp_gf, ↓wp_gd, ↓wp_ga, ↓wp_gl, ↓wp_al2, ↓wp_pi, ↓wp_ltr, ↓wp_ite, ↓wp_and, ↓wp_or, ↓wp_not, ↓wp_cmp, ↓wp_cmz, ↓wp_isn, ↓wp_nsn, ↓wp_a0, ↓wp_a1, ↓wp_cv, ↓wp_cs, ↓wp_dr, ↓wp_sk, ↓wp_brk, ↓wp_cnt, ↓wp_rV, ↓wp_seq, ↓wp_iff, ↓wp_sI, ↓wp_sL, ↓wp_sN, ↓wp_inc, ↓wp_do, ↓wp_rI, ↓wp_rL, ↓wp_rN, ↓wp_rZ, ↓wp_pf, ↓wp_pz, ↓wp_pd, ↓wp_po, ↓wp_pl, ↓wp_pao, ↓wp_tsw, ↓wp_lsw, ↓wp_fn, ↓wq_ld, ↓wq_ldl, ↓wq_lda, ↓wq_c, ↓wq_gr, ↓wq_gq, ↓wq_nn, ↓wq_asI, ↓wq_asL, ↓wq_asN, ↓wq_pa, hO_182, hR_182_0, hF_182_1, hR_182_2, hF_182_3, hR_182_4, hF_182_5, hR_182_6, hR_182_7, hR_182_8, hF_182_9, hF_182_10, hF_182_11, hF_182_12, hR_182_13, hF_182_14, hR_182_15, hF_182_16, hF_182_17, hF_182_18, hF_182_19, hF_182_20, hF_182_21, hF_182_22, hR_182_23, hR_182_24, hF_182_25, hF_182_26, hR_182_27, hR_182_28, hR_182_29, hF_182_30, hF_182_31, hR_182_32, hR_182_33, hF_182_34, hR_182_35, hF_182_36, hF_182_37, hF_182_38, hF_182_39, hF_182_40, hR_182_41, hR_182_42, hR_182_43, hR_182_44, hR_182_45, hR_182_46, hF_182_47, hR_182_48, hR_182_49, hR_182_50, hR_182_51, hR_182_52, hF_182_53, hR_182_54, hR_182_55, hR_182_56, hR_182_57, hF_182_58, hR_182_59, hR_182_60, hR_182_61, fd_p_eq, fd_p_ne, fd_p_lt, fd_p_ge, fd_p_gt, fd_p_le, fd_f_iadd, fd_f_isub, fd_f_imul, fd_f_iand, fd_f_ior, fd_f_ixor, fd_f_ishl, fd_f_ishr, fd_f_iushr, fd_f_ladd, fd_f_lsub, fd_f_lmul, fd_f_lcmp, fd_f_idiv, fd_f_irem, fd_f_ldiv, fd_f_lrem, fd_f_ineg, fd_f_i2l, fd_f_l2i, fd_f_i2b, fd_f_i2s, fd_f_i2c, fd_z_idiv, fd_z_irem, fd_z_ldiv, fd_z_lrem, fd_in0, fd_sl, fd_st1, fd_st2, fd_kl, fd_vI, fd_vL, fd_vN, fd_ok1, fd_v_int, xI, xL, xR, xK, xG, yI, yL, yN, -Prod.exists, e26, c1, m3, a1, a2, hA_192 (show 3 * k < 72 by omega), hA_192 (show 3 * k + 1 < 72 by omega), hA_192 (show 3 * k + 2 < 72 by omega), nI_clamp (show 3 * k < 2 ^ 31 by omega), nI_clamp (show 3 * k + 1 < 2 ^ 31 by omega), nI_clamp (show 3 * k + 2 < 2 ^ 31 by omega), y1, y2, y3, nm, hA_185 (show 9 * s.O k + s.T k < 81 by omega), hA_185 (show 9 * s.T k + s.O k < 81 by omega), nI_clamp (show 9 * s.O k + s.T k < 2 ^ 31 by omega), nI_clamp (show 9 * s.T k + s.O k < 2 ^ 31 by omega), hh, mn, rd_I, v2, nI_1]
      rw [hJ2]
      refine ⟨_, _, _, _, rfl, fP.uI (fP.uI (fP.uI f2 (by omega)) (by omega)) (by omega), by simp [rd_I]; rfl, fun a b ha hb => ?_⟩
      have ex : R (r0 + (k + 1)) a b = if (a = s.O k ∧ b = s.T k) ∨ (a = s.T k ∧ b = s.O k) then min (R (r0 + k) (s.O k) (s.T k)) (s.X k) else R (r0 + k) a b := by
        rw [hR, show r0 + (k + 1) = r0 + k + 1 by omega, iv_rd_s, h_j2, h_j2, h_j2]
      rw [ex, rd_ne (by omega)]
      by_cases c : (a = s.O k ∧ b = s.T k) ∨ (a = s.T k ∧ b = s.O k)
      · rw [if_pos c]
        rcases c with ⟨rfl, rfl⟩ | ⟨rfl, rfl⟩
        · rw [rd_ne (by omega), rd_I, if_pos rfl, if_pos rfl]
        · rw [rd_I, if_pos rfl, if_pos rfl]
      · rw [if_neg c, rd_ne (by omega), rd_ne (by omega)]
        exact h2 a b ha hb
    · rw [hJ2] at hs
      obtain ⟨M2, c3, c4, c5, rfl, f2, v2, h2⟩ := hs
      have e26 : M2.1 182 26 = nI s.r := by rw [f2.1 _ _ (by omega), f1.1 _ _ (by omega)]; exact x2
      have e1 : M2.1 182 1 = nI (v0 + s.v) := by rw [f2.1 _ _ (by omega)]; exact v1
      obtain ⟨p1, p2, p3, p4⟩ := pr (r0 + s.r) (Nat.le_refl _)
      simp [↓wp_ldn, ↓wp_b1, ↓wp_b2, ↓wp_b2z, ↓wp_gf, ↓wp_gd, ↓wp_ga, ↓wp_gl, ↓wp_al2, ↓wp_pi, ↓wp_ltr, ↓wp_ite, ↓wp_and, ↓wp_or, ↓wp_not, ↓wp_cmp, ↓wp_cmz, ↓wp_isn, ↓wp_nsn, ↓wp_a0, ↓wp_a1, ↓wp_cv, ↓wp_cs, ↓wp_dr, ↓wp_sk, ↓wp_brk, ↓wp_cnt, ↓wp_rV, ↓wp_seq, ↓wp_iff, ↓wp_sI, ↓wp_sL, ↓wp_sN, ↓wp_inc, ↓wp_do, ↓wp_rI, ↓wp_rL, ↓wp_rN, ↓wp_rZ, ↓wp_pf, ↓wp_pz, ↓wp_pd, ↓wp_po, ↓wp_pl, ↓wp_pao, ↓wp_tsw, ↓wp_lsw, ↓wp_fn, ↓wq_ld, ↓wq_ldl, ↓wq_lda, ↓wq_c, ↓wq_gr, ↓wq_gq, ↓wq_nn, ↓wq_asI, ↓wq_asL, ↓wq_asN, ↓wq_pa, hO_182, hR_182_0, hF_182_1, hR_182_2, hF_182_3, hR_182_4, hF_182_5, hR_182_6, hR_182_7, hR_182_8, hF_182_9, hF_182_10, hF_182_11, hF_182_12, hR_182_13, hF_182_14, hR_182_15, hF_182_16, hF_182_17, hF_182_18, hF_182_19, hF_182_20, hF_182_21, hF_182_22, hR_182_23, hR_182_24, hF_182_25, hF_182_26, hR_182_27, hR_182_28, hR_182_29, hF_182_30, hF_182_31, hR_182_32, hR_182_33, hF_182_34, hR_182_35, hF_182_36, hF_182_37, hF_182_38, hF_182_39, hF_182_40, hR_182_41, hR_182_42, hR_182_43, hR_182_44, hR_182_45, hR_182_46, hF_182_47, hR_182_48, hR_182_49, hR_182_50, hR_182_51, hR_182_52, hF_182_53, hR_182_54, hR_182_55, hR_182_56, hR_182_57, hF_182_58, hR_182_59, hR_182_60, hR_182_61, fd_p_eq, fd_p_ne, fd_p_lt, fd_p_ge, fd_p_gt, fd_p_le, fd_f_iadd, fd_f_isub, fd_f_imul, fd_f_iand, fd_f_ior, fd_f_ixor, fd_f_ishl, fd_f_ishr, fd_f_iushr, fd_f_ladd, fd_f_lsub, fd_f_lmul, fd_f_lcmp, fd_f_idiv, fd_f_irem, fd_f_ldiv, fd_f_lrem, fd_f_ineg, fd_f_i2l, fd_f_l2i, fd_f_i2b, fd_f_i2s, fd_f_i2c, fd_z_idiv, fd_z_irem, fd_z_ldiv, fd_z_lrem, fd_in0, fd_sl, fd_st1, fd_st2, fd_kl, fd_vI, fd_vL, fd_vN, fd_ok1, fd_v_int, xI, xL, xR, xK, xG, yI, yL, yN, -Prod.exists, e26, lt_self]
      refine s_X12_layWays p2 (fun a b => (p1 a b).1) e1 i1 h2 (fun M3 f3 h3 => ?_)
      have u : ∀ a j, a ≠ 193 → M3.1 a j = M2.1 a j := fun a j z => f3.1 _ _ z
      have e58 : M3.1 182 58 = nI cm := by rw [u _ _ (by omega), f2.1 _ _ (by omega), f1.1 _ _ (by omega)]; exact h58
      have e25' : M3.1 182 25 = nI s.v := by rw [u _ _ (by omega), f2.1 _ _ (by omega)]; exact e25
      have e26' : M3.1 182 26 = nI s.r := by rw [u _ _ (by omega)]; exact e26
      simp [↓wp_ldn, ↓wp_b1, ↓wp_b2, ↓wp_b2z, ↓wp_gf, ↓wp_gd, ↓wp_ga, ↓wp_gl, ↓wp_al2, ↓wp_pi, ↓wp_ltr, ↓wp_ite, ↓wp_and, ↓wp_or, ↓wp_not, ↓wp_cmp, ↓wp_cmz, ↓wp_isn, ↓wp_nsn, ↓wp_a0, ↓wp_a1, ↓wp_cv, ↓wp_cs, ↓wp_dr, ↓wp_sk, ↓wp_brk, ↓wp_cnt, ↓wp_rV, ↓wp_seq, ↓wp_iff, ↓wp_sI, ↓wp_sL, ↓wp_sN, ↓wp_inc, ↓wp_do, ↓wp_rI, ↓wp_rL, ↓wp_rN, ↓wp_rZ, ↓wp_pf, ↓wp_pz, ↓wp_pd, ↓wp_po, ↓wp_pl, ↓wp_pao, ↓wp_tsw, ↓wp_lsw, ↓wp_fn, ↓wq_ld, ↓wq_ldl, ↓wq_lda, ↓wq_c, ↓wq_gr, ↓wq_gq, ↓wq_nn, ↓wq_asI, ↓wq_asL, ↓wq_asN, ↓wq_pa, hO_182, hR_182_0, hF_182_1, hR_182_2, hF_182_3, hR_182_4, hF_182_5, hR_182_6, hR_182_7, hR_182_8, hF_182_9, hF_182_10, hF_182_11, hF_182_12, hR_182_13, hF_182_14, hR_182_15, hF_182_16, hF_182_17, hF_182_18, hF_182_19, hF_182_20, hF_182_21, hF_182_22, hR_182_23, hR_182_24, hF_182_25, hF_182_26, hR_182_27, hR_182_28, hR_182_29, hF_182_30, hF_182_31, hR_182_32, hR_182_33, hF_182_34, hR_182_35, hF_182_36, hF_182_37, hF_182_38, hF_182_39, hF_182_40, hR_182_41, hR_182_42, hR_182_43, hR_182_44, hR_182_45, hR_182_46, hF_182_47, hR_182_48, hR_182_49, hR_182_50, hR_182_51, hR_182_52, hF_182_53, hR_182_54, hR_182_55, hR_182_56, hR_182_57, hF_182_58, hR_182_59, hR_182_60, hR_182_61, fd_p_eq, fd_p_ne, fd_p_lt, fd_p_ge, fd_p_gt, fd_p_le, fd_f_iadd, fd_f_isub, fd_f_imul, fd_f_iand, fd_f_ior, fd_f_ixor, fd_f_ishl, fd_f_ishr, fd_f_iushr, fd_f_ladd, fd_f_lsub, fd_f_lmul, fd_f_lcmp, fd_f_idiv, fd_f_irem, fd_f_ldiv, fd_f_lrem, fd_f_ineg, fd_f_i2l, fd_f_l2i, fd_f_i2b, fd_f_i2s, fd_f_i2c, fd_z_idiv, fd_z_irem, fd_z_ldiv, fd_z_lrem, fd_in0, fd_sl, fd_st1, fd_st2, fd_kl, fd_vI, fd_vL, fd_vN, fd_ok1, fd_v_int, xI, xL, xR, xK, xG, yI, yL, yN, -Prod.exists, rd_I, e58, e25', e26', nI_1, nI_add]
      refine hQ _ ?_ ?_ ?_ ?_ ?_ (fun j hj => ?_) (fun a b ha hb => ?_) (fun a b ha hb => ?_)
      · exact fP.uI (fP.uI ((f1.up (fun a j z => by unfold hl_P; omega)).tr ((f2.up (fun a j z => by unfold hl_P; omega)).tr (f3.up (fun a j z => by unfold hl_P; omega)))) (by unfold hl_P; omega)) (by unfold hl_P; omega)
      · simp [rd_I]; rw [u _ _ (by omega)]; exact e1
      · simp [rd_I]; rw [u _ _ (by omega)]; exact v2
      · simp [rd_I]
      · simp [rd_I]
      · simp [rd_I]; rw [u _ _ (by omega), f2.1 _ _ (by omega)]; exact h1 j hj
      · simp [rd_I]; rw [u _ _ (by omega)]; exact h2 a b ha hb
      · simp [rd_I]; exact h3 a b ha hb
end HY
