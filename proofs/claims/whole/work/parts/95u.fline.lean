/-! ===== a line of feasts ===== -/
def f_1 (ch : Nat → Int32) (l p : Nat) : Nat := ne ch l (p + 1)
def f_2 (ch : Nat → Int32) (l p : Nat) : Nat := ne ch l (f_1 ch l p + 1)
def f_3 (ch : Nat → Int32) (l p : Nat) : Nat := ne ch l (f_2 ch l p + 1)
def f_X (ch : Nat → Int32) (l p : Nat) : Nat := nu ch l (p + 1)
def f_Y (ch : Nat → Int32) (l p : Nat) : Nat := nu ch l (f_1 ch l p + 1)
def f_B (ch : Nat → Int32) (l p : Nat) : Nat := nu ch l (f_2 ch l p + 1)
def f_U (ch : Nat → Int32) (l p : Nat) : Nat := dv ch (f_3 ch l p + 1)
/-- from and to, told from q on -/
def s_ok (ch : Nat → Int32) (l q : Nat) : Prop := dg ch l q ∧ tsg ch l (ne ch l q) 45 ∧ dg ch l (ne ch l q + 1) ∧ nu ch l q ≤ nu ch l (ne ch l q + 1)
def s_no (ch : Nat → Int32) (l q z : Nat) : Prop := (¬ dg ch l q ∧ z = q) ∨ (dg ch l q ∧ ¬ tsg ch l (ne ch l q) 45 ∧ z = ne ch l q) ∨ (dg ch l q ∧ tsg ch l (ne ch l q) 45 ∧ ¬ dg ch l (ne ch l q + 1) ∧ z = ne ch l q + 1) ∨ (dg ch l q ∧ tsg ch l (ne ch l q) 45 ∧ dg ch l (ne ch l q + 1) ∧ nu ch l (ne ch l q + 1) < nu ch l q ∧ z = ne ch l (ne ch l q + 1) - 1)
def f_ok (ch : Nat → Int32) (l v p : Nat) : Prop := tl ch l p v (-1) ∧ s_ok ch l (p + 1) ∧ tsg ch l (f_2 ch l p) 36 ∧ dg ch l (f_2 ch l p + 1) ∧ tsg ch l (f_3 ch l p) 42 ∧ td ch l (f_3 ch l p + 1)
def f_no (ch : Nat → Int32) (l v p z : Nat) : Prop := (¬ tl ch l p v (-1) ∧ z = p) ∨ (tl ch l p v (-1) ∧ s_no ch l (p + 1) z) ∨ (tl ch l p v (-1) ∧ s_ok ch l (p + 1) ∧ ¬ tsg ch l (f_2 ch l p) 36 ∧ z = f_2 ch l p) ∨ (tl ch l p v (-1) ∧ s_ok ch l (p + 1) ∧ tsg ch l (f_2 ch l p) 36 ∧ ¬ dg ch l (f_2 ch l p + 1) ∧ z = f_2 ch l p + 1) ∨ (tl ch l p v (-1) ∧ s_ok ch l (p + 1) ∧ tsg ch l (f_2 ch l p) 36 ∧ dg ch l (f_2 ch l p + 1) ∧ ¬ tsg ch l (f_3 ch l p) 42 ∧ z = f_3 ch l p) ∨ (tl ch l p v (-1) ∧ s_ok ch l (p + 1) ∧ tsg ch l (f_2 ch l p) 36 ∧ dg ch l (f_2 ch l p + 1) ∧ tsg ch l (f_3 ch l p) 42 ∧ ¬ td ch l (f_3 ch l p + 1) ∧ z = f_3 ch l p + 1)
section FL
variable {ch : Nat → Int32} {l p v : Nat}
theorem s_tot (q : Nat) : s_ok ch l q ∨ ∃ z, s_no ch l q z := by
  unfold s_ok s_no
  by_cases c1 : dg ch l q
  · by_cases c2 : tsg ch l (ne ch l q) 45
    · by_cases c3 : dg ch l (ne ch l q + 1)
      · by_cases c4 : nu ch l q ≤ nu ch l (ne ch l q + 1)
        · exact Or.inl ⟨c1, c2, c3, c4⟩
        · exact Or.inr ⟨_, Or.inr (Or.inr (Or.inr ⟨c1, c2, c3, by omega, rfl⟩))⟩
      · exact Or.inr ⟨_, Or.inr (Or.inr (Or.inl ⟨c1, c2, c3, rfl⟩))⟩
    · exact Or.inr ⟨_, Or.inr (Or.inl ⟨c1, c2, rfl⟩)⟩
  · exact Or.inr ⟨_, Or.inl ⟨c1, rfl⟩⟩
theorem f_tot (p : Nat) : f_ok ch l v p ∨ ∃ z, f_no ch l v p z := by
  unfold f_ok f_no
  by_cases c1 : tl ch l p v (-1)
  · rcases s_tot (ch := ch) (l := l) (p + 1) with c2 | ⟨z, c2⟩
    · by_cases c3 : tsg ch l (f_2 ch l p) 36
      · by_cases c4 : dg ch l (f_2 ch l p + 1)
        · by_cases c5 : tsg ch l (f_3 ch l p) 42
          · by_cases c6 : td ch l (f_3 ch l p + 1)
            · exact Or.inl ⟨c1, c2, c3, c4, c5, c6⟩
            · exact Or.inr ⟨_, Or.inr (Or.inr (Or.inr (Or.inr (Or.inr ⟨c1, c2, c3, c4, c5, c6, rfl⟩))))⟩
          · exact Or.inr ⟨_, Or.inr (Or.inr (Or.inr (Or.inr (Or.inl ⟨c1, c2, c3, c4, c5, rfl⟩))))⟩
        · exact Or.inr ⟨_, Or.inr (Or.inr (Or.inr (Or.inl ⟨c1, c2, c3, c4, rfl⟩)))⟩
      · exact Or.inr ⟨_, Or.inr (Or.inr (Or.inl ⟨c1, c2, c3, rfl⟩))⟩
    · exact Or.inr ⟨z, Or.inr (Or.inl ⟨c1, c2⟩)⟩
  · exact Or.inr ⟨_, Or.inl ⟨c1, rfl⟩⟩
theorem s_no_le {q z : Nat} (hq : q ≤ l) (h : s_no ch l q z) : z ≤ l := by
  rcases h with ⟨c1, rfl⟩ | ⟨c1, c2, rfl⟩ | ⟨c1, c2, c3, rfl⟩ | ⟨c1, c2, c3, c4, rfl⟩
  · exact hq
  · exact (ne_f c1).2
  · exact c2.1
  · have := (ne_f c3).2; omega
theorem s_ok_le {q : Nat} (h : s_ok ch l q) : q < ne ch l q ∧ ne ch l q < l ∧ ne ch l q + 1 < ne ch l (ne ch l q + 1) ∧ ne ch l (ne ch l q + 1) ≤ l := ⟨(ne_f h.1).1, h.2.1.1, (ne_f h.2.2.1).1, (ne_f h.2.2.1).2⟩
theorem f_2_le (h : s_ok ch l (p + 1)) : p + 3 < f_2 ch l p ∧ f_2 ch l p ≤ l := by
  have := s_ok_le h
  unfold f_2 f_1
  omega
theorem f_3_le (h : dg ch l (f_2 ch l p + 1)) : f_2 ch l p + 1 < f_3 ch l p ∧ f_3 ch l p ≤ l := ne_f h
theorem f_ok_le (h : f_ok ch l v p) : p + 7 < f_3 ch l p + 2 ∧ f_3 ch l p + 2 ≤ l := by
  obtain ⟨h1, h2, h3, h4, h5, h6⟩ := h
  have := f_2_le h2
  have := f_3_le h4
  have := h6.1
  omega
theorem f_no_le {z : Nat} (hp : p ≤ l) (h : f_no ch l v p z) : z ≤ l := by
  rcases h with ⟨h1, rfl⟩ | ⟨h1, h2⟩ | ⟨h1, h2, h3, rfl⟩ | ⟨h1, h2, h3, h4, rfl⟩ | ⟨h1, h2, h3, h4, h5, rfl⟩ | ⟨h1, h2, h3, h4, h5, h6, rfl⟩
  · exact hp
  · exact s_no_le (by have := h1.1; omega) h2
  · exact (f_2_le h2).2
  · exact h3.1
  · exact (f_3_le h4).2
  · exact h5.1
variable {t k : Nat} {M : fd_M}
theorem s_X1_readSpan_t {q : Nat} (h : cp t l ch M) (hp : M.1 1 2 = nI q) (hk : M.1 31 1 = nI k) (k8 : k < 8) (c : s_ok ch l q) : m_X1_readSpan [.ref 31, .ref 1, .ref 42] M = some (.int 1, fd_uI (fd_uI (fd_uI M 1 2 (nI (ne ch l (ne ch l q + 1)))) 43 k (nI (nu ch l q))) 44 k (nI (nu ch l (ne ch l q + 1)))) := by
  apply fd_of_run
  obtain ⟨c1, c2, c3, c4⟩ := c
  have n1 := xt_num h hp c1
  have g1 := xt_sg (h.at (nI (ne ch l q))) (by rw [rd_I, if_pos rfl, if_pos rfl]) c2
  rw [uI_uI] at g1
  have n2 := xt_num (h.at (nI (ne ch l q + 1))) (by rw [rd_I, if_pos rfl, if_pos rfl]) c3
  rw [uI_uI] at n2
  have v1 := (nu_f h.chs q).2
  have v2 := (nu_f h.chs (ne ch l q + 1)).2
  have b1 : ¬ nI (nu ch l q) < 0 := nI_pos (by omega)
  have b2 : ¬ nI (nu ch l (ne ch l q + 1)) < 0 := nI_pos (by omega)
  have b3 : ¬ nI (nu ch l (ne ch l q + 1)) < nI (nu ch l q) := nI_nlt c4 (by omega)
  have b4 : (0 : Int32) ≤ nI k := nI_pos' (by omega)
  have b5 : nI k < 8 := nI_lt (b := 8) k8 (by decide)
  unfold m_X1_readSpan b_X1_readSpan
  simp [↓wp_ldn, ↓wp_b1, ↓wp_b2, ↓wp_b2z, ↓wp_gf, ↓wp_gd, ↓wp_ga, ↓wp_gl, ↓wp_al2, ↓wp_pi, ↓wp_ltr, ↓wp_ite, ↓wp_and, ↓wp_or, ↓wp_not, ↓wp_cmp, ↓wp_cmz, ↓wp_isn, ↓wp_nsn, ↓wp_a0, ↓wp_a1, ↓wp_cv, ↓wp_cs, ↓wp_dr, ↓wp_sk, ↓wp_brk, ↓wp_cnt, ↓wp_rV, ↓wp_seq, ↓wp_iff, ↓wp_sI, ↓wp_sL, ↓wp_sN, ↓wp_inc, ↓wp_do, ↓wp_rI, ↓wp_rL, ↓wp_rN, ↓wp_rZ, ↓wp_pf, ↓wp_pz, ↓wp_pd, ↓wp_po, ↓wp_pl, ↓wp_pao, ↓wp_tsw, ↓wp_lsw, ↓wp_fn, ↓wq_ld, ↓wq_ldl, ↓wq_lda, ↓wq_c, ↓wq_gr, ↓wq_gq, ↓wq_nn, ↓wq_asI, ↓wq_asL, ↓wq_asN, ↓wq_pa, hO_0, hR_0_0, hR_0_1, hR_0_2, hR_0_3, hR_0_4, hR_0_5, hR_0_6, hR_0_7, hR_0_8, hR_0_9, hR_0_10, hR_0_11, hF_0_12, hO_1, hR_1_0, hF_1_1, hF_1_2, hF_1_3, hO_3, hR_3_0, hF_3_1, hO_5, hF_5_0, hF_5_1, hR_5_2, hR_5_3, hR_5_4, hR_5_5, hR_5_6, hR_5_7, hF_5_8, hF_5_9, hO_30, hF_30_0, hF_30_1, hF_30_2, hF_30_3, hO_31, hF_31_0, hF_31_1, hR_31_2, hR_31_3, hR_31_4, hO_35, hR_35_0, hF_35_1, hR_35_2, hF_35_3, hR_35_4, hF_35_5, hF_35_6, hR_35_7, hF_35_8, hR_35_9, hR_35_10, hO_42, hO_45, hO_48, hR_48_0, hF_48_1, hF_48_2, hR_48_3, hR_48_4, hO_94, hR_94_0, hR_94_1, hO_97, hF_97_0, hF_97_1, hF_97_2, hF_97_3, hR_97_4, hR_97_5, hR_97_6, hR_97_7, hR_97_8, hR_97_9, hR_97_10, hR_97_11, hF_97_12, hO_156, hF_156_0, hR_156_1, hR_156_2, hR_156_3, hR_156_4, hR_156_5, hR_156_6, hR_156_7, hR_156_8, fd_p_eq, fd_p_ne, fd_p_lt, fd_p_ge, fd_p_gt, fd_p_le, fd_f_iadd, fd_f_isub, fd_f_imul, fd_f_iand, fd_f_ior, fd_f_ixor, fd_f_ishl, fd_f_ishr, fd_f_iushr, fd_f_ladd, fd_f_lsub, fd_f_lmul, fd_f_lcmp, fd_f_idiv, fd_f_irem, fd_f_ldiv, fd_f_lrem, fd_f_ineg, fd_f_i2l, fd_f_l2i, fd_f_i2b, fd_f_i2s, fd_f_i2c, fd_z_idiv, fd_z_irem, fd_z_ldiv, fd_z_lrem, fd_in0, fd_sl, fd_st1, fd_st2, fd_kl, fd_vI, fd_vL, fd_vN, fd_ok1, fd_v_int, xI, xL, xR, xK, xG, yI, yL, yN, -Prod.exists, fd_run_of n1, b1, Int32.not_lt.mp b1, fd_run_of g1, fd_run_of n2, b2, Int32.not_lt.mp b2, b3, Int32.not_lt.mp b3, m_X10_tellSpan, b_X10_tellSpan, rd_I, hk, b4, b5, show fd_rfc (fd_isF 42 10 8) = some 43 from rfl, show fd_rfc (fd_isF 42 10 9) = some 44 from rfl, hA_43 k8, hA_44 k8, nI_clamp (show k < 2 ^ 31 by omega)]
theorem s_X1_readSpan_f {q z : Nat} (h : cp t l ch M) (hp : M.1 1 2 = nI q) (hq : q ≤ l) (c : s_no ch l q z) : m_X1_readSpan [.ref 31, .ref 1, .ref 42] M = some (.int 0, fd_uI M 1 2 (nI z)) := by
  apply fd_of_run
  have hl := h.l80
  have zl := s_no_le hq c
  have z1 : (-1 : Int32) < 0 := by decide
  unfold m_X1_readSpan b_X1_readSpan
  rcases c with ⟨c1, rfl⟩ | ⟨c1, c2, rfl⟩ | ⟨c1, c2, c3, rfl⟩ | ⟨c1, c2, c3, c4, rfl⟩
  · rw [uI_self hp]
    simp [↓wp_ldn, ↓wp_b1, ↓wp_b2, ↓wp_b2z, ↓wp_gf, ↓wp_gd, ↓wp_ga, ↓wp_gl, ↓wp_al2, ↓wp_pi, ↓wp_ltr, ↓wp_ite, ↓wp_and, ↓wp_or, ↓wp_not, ↓wp_cmp, ↓wp_cmz, ↓wp_isn, ↓wp_nsn, ↓wp_a0, ↓wp_a1, ↓wp_cv, ↓wp_cs, ↓wp_dr, ↓wp_sk, ↓wp_brk, ↓wp_cnt, ↓wp_rV, ↓wp_seq, ↓wp_iff, ↓wp_sI, ↓wp_sL, ↓wp_sN, ↓wp_inc, ↓wp_do, ↓wp_rI, ↓wp_rL, ↓wp_rN, ↓wp_rZ, ↓wp_pf, ↓wp_pz, ↓wp_pd, ↓wp_po, ↓wp_pl, ↓wp_pao, ↓wp_tsw, ↓wp_lsw, ↓wp_fn, ↓wq_ld, ↓wq_ldl, ↓wq_lda, ↓wq_c, ↓wq_gr, ↓wq_gq, ↓wq_nn, ↓wq_asI, ↓wq_asL, ↓wq_asN, ↓wq_pa, hO_0, hR_0_0, hR_0_1, hR_0_2, hR_0_3, hR_0_4, hR_0_5, hR_0_6, hR_0_7, hR_0_8, hR_0_9, hR_0_10, hR_0_11, hF_0_12, hO_1, hR_1_0, hF_1_1, hF_1_2, hF_1_3, hO_3, hR_3_0, hF_3_1, hO_5, hF_5_0, hF_5_1, hR_5_2, hR_5_3, hR_5_4, hR_5_5, hR_5_6, hR_5_7, hF_5_8, hF_5_9, hO_30, hF_30_0, hF_30_1, hF_30_2, hF_30_3, hO_31, hF_31_0, hF_31_1, hR_31_2, hR_31_3, hR_31_4, hO_35, hR_35_0, hF_35_1, hR_35_2, hF_35_3, hR_35_4, hF_35_5, hF_35_6, hR_35_7, hF_35_8, hR_35_9, hR_35_10, hO_42, hO_45, hO_48, hR_48_0, hF_48_1, hF_48_2, hR_48_3, hR_48_4, hO_94, hR_94_0, hR_94_1, hO_97, hF_97_0, hF_97_1, hF_97_2, hF_97_3, hR_97_4, hR_97_5, hR_97_6, hR_97_7, hR_97_8, hR_97_9, hR_97_10, hR_97_11, hF_97_12, hO_156, hF_156_0, hR_156_1, hR_156_2, hR_156_3, hR_156_4, hR_156_5, hR_156_6, hR_156_7, hR_156_8, fd_p_eq, fd_p_ne, fd_p_lt, fd_p_ge, fd_p_gt, fd_p_le, fd_f_iadd, fd_f_isub, fd_f_imul, fd_f_iand, fd_f_ior, fd_f_ixor, fd_f_ishl, fd_f_ishr, fd_f_iushr, fd_f_ladd, fd_f_lsub, fd_f_lmul, fd_f_lcmp, fd_f_idiv, fd_f_irem, fd_f_ldiv, fd_f_lrem, fd_f_ineg, fd_f_i2l, fd_f_l2i, fd_f_i2b, fd_f_i2s, fd_f_i2c, fd_z_idiv, fd_z_irem, fd_z_ldiv, fd_z_lrem, fd_in0, fd_sl, fd_st1, fd_st2, fd_kl, fd_vI, fd_vL, fd_vN, fd_ok1, fd_v_int, xI, xL, xR, xK, xG, yI, yL, yN, -Prod.exists, fd_run_of (xt_numf h hp (by omega) c1 2), z1]
  all_goals have n1 := xt_num h hp c1
  all_goals have e1 := ne_f c1
  all_goals have v1 := (nu_f h.chs q).2
  all_goals have b1 : ¬ nI (nu ch l q) < 0 := nI_pos (by omega)
  · have g1 := xt_sgf (h.at (nI (ne ch l q))) (by rw [rd_I, if_pos rfl, if_pos rfl]) (by omega) (by decide) c2
    simp [↓wp_ldn, ↓wp_b1, ↓wp_b2, ↓wp_b2z, ↓wp_gf, ↓wp_gd, ↓wp_ga, ↓wp_gl, ↓wp_al2, ↓wp_pi, ↓wp_ltr, ↓wp_ite, ↓wp_and, ↓wp_or, ↓wp_not, ↓wp_cmp, ↓wp_cmz, ↓wp_isn, ↓wp_nsn, ↓wp_a0, ↓wp_a1, ↓wp_cv, ↓wp_cs, ↓wp_dr, ↓wp_sk, ↓wp_brk, ↓wp_cnt, ↓wp_rV, ↓wp_seq, ↓wp_iff, ↓wp_sI, ↓wp_sL, ↓wp_sN, ↓wp_inc, ↓wp_do, ↓wp_rI, ↓wp_rL, ↓wp_rN, ↓wp_rZ, ↓wp_pf, ↓wp_pz, ↓wp_pd, ↓wp_po, ↓wp_pl, ↓wp_pao, ↓wp_tsw, ↓wp_lsw, ↓wp_fn, ↓wq_ld, ↓wq_ldl, ↓wq_lda, ↓wq_c, ↓wq_gr, ↓wq_gq, ↓wq_nn, ↓wq_asI, ↓wq_asL, ↓wq_asN, ↓wq_pa, hO_0, hR_0_0, hR_0_1, hR_0_2, hR_0_3, hR_0_4, hR_0_5, hR_0_6, hR_0_7, hR_0_8, hR_0_9, hR_0_10, hR_0_11, hF_0_12, hO_1, hR_1_0, hF_1_1, hF_1_2, hF_1_3, hO_3, hR_3_0, hF_3_1, hO_5, hF_5_0, hF_5_1, hR_5_2, hR_5_3, hR_5_4, hR_5_5, hR_5_6, hR_5_7, hF_5_8, hF_5_9, hO_30, hF_30_0, hF_30_1, hF_30_2, hF_30_3, hO_31, hF_31_0, hF_31_1, hR_31_2, hR_31_3, hR_31_4, hO_35, hR_35_0, hF_35_1, hR_35_2, hF_35_3, hR_35_4, hF_35_5, hF_35_6, hR_35_7, hF_35_8, hR_35_9, hR_35_10, hO_42, hO_45, hO_48, hR_48_0, hF_48_1, hF_48_2, hR_48_3, hR_48_4, hO_94, hR_94_0, hR_94_1, hO_97, hF_97_0, hF_97_1, hF_97_2, hF_97_3, hR_97_4, hR_97_5, hR_97_6, hR_97_7, hR_97_8, hR_97_9, hR_97_10, hR_97_11, hF_97_12, hO_156, hF_156_0, hR_156_1, hR_156_2, hR_156_3, hR_156_4, hR_156_5, hR_156_6, hR_156_7, hR_156_8, fd_p_eq, fd_p_ne, fd_p_lt, fd_p_ge, fd_p_gt, fd_p_le, fd_f_iadd, fd_f_isub, fd_f_imul, fd_f_iand, fd_f_ior, fd_f_ixor, fd_f_ishl, fd_f_ishr, fd_f_iushr, fd_f_ladd, fd_f_lsub, fd_f_lmul, fd_f_lcmp, fd_f_idiv, fd_f_irem, fd_f_ldiv, fd_f_lrem, fd_f_ineg, fd_f_i2l, fd_f_l2i, fd_f_i2b, fd_f_i2s, fd_f_i2c, fd_z_idiv, fd_z_irem, fd_z_ldiv, fd_z_lrem, fd_in0, fd_sl, fd_st1, fd_st2, fd_kl, fd_vI, fd_vL, fd_vN, fd_ok1, fd_v_int, xI, xL, xR, xK, xG, yI, yL, yN, -Prod.exists, fd_run_of n1, b1, Int32.not_lt.mp b1, fd_run_of g1]
  all_goals have g1 := xt_sg (h.at (nI (ne ch l q))) (by rw [rd_I, if_pos rfl, if_pos rfl]) c2
  all_goals rw [uI_uI] at g1
  · have n2 := xt_numf (h.at (nI (ne ch l q + 1))) (by rw [rd_I, if_pos rfl, if_pos rfl]) (by omega) c3 2
    simp [↓wp_ldn, ↓wp_b1, ↓wp_b2, ↓wp_b2z, ↓wp_gf, ↓wp_gd, ↓wp_ga, ↓wp_gl, ↓wp_al2, ↓wp_pi, ↓wp_ltr, ↓wp_ite, ↓wp_and, ↓wp_or, ↓wp_not, ↓wp_cmp, ↓wp_cmz, ↓wp_isn, ↓wp_nsn, ↓wp_a0, ↓wp_a1, ↓wp_cv, ↓wp_cs, ↓wp_dr, ↓wp_sk, ↓wp_brk, ↓wp_cnt, ↓wp_rV, ↓wp_seq, ↓wp_iff, ↓wp_sI, ↓wp_sL, ↓wp_sN, ↓wp_inc, ↓wp_do, ↓wp_rI, ↓wp_rL, ↓wp_rN, ↓wp_rZ, ↓wp_pf, ↓wp_pz, ↓wp_pd, ↓wp_po, ↓wp_pl, ↓wp_pao, ↓wp_tsw, ↓wp_lsw, ↓wp_fn, ↓wq_ld, ↓wq_ldl, ↓wq_lda, ↓wq_c, ↓wq_gr, ↓wq_gq, ↓wq_nn, ↓wq_asI, ↓wq_asL, ↓wq_asN, ↓wq_pa, hO_0, hR_0_0, hR_0_1, hR_0_2, hR_0_3, hR_0_4, hR_0_5, hR_0_6, hR_0_7, hR_0_8, hR_0_9, hR_0_10, hR_0_11, hF_0_12, hO_1, hR_1_0, hF_1_1, hF_1_2, hF_1_3, hO_3, hR_3_0, hF_3_1, hO_5, hF_5_0, hF_5_1, hR_5_2, hR_5_3, hR_5_4, hR_5_5, hR_5_6, hR_5_7, hF_5_8, hF_5_9, hO_30, hF_30_0, hF_30_1, hF_30_2, hF_30_3, hO_31, hF_31_0, hF_31_1, hR_31_2, hR_31_3, hR_31_4, hO_35, hR_35_0, hF_35_1, hR_35_2, hF_35_3, hR_35_4, hF_35_5, hF_35_6, hR_35_7, hF_35_8, hR_35_9, hR_35_10, hO_42, hO_45, hO_48, hR_48_0, hF_48_1, hF_48_2, hR_48_3, hR_48_4, hO_94, hR_94_0, hR_94_1, hO_97, hF_97_0, hF_97_1, hF_97_2, hF_97_3, hR_97_4, hR_97_5, hR_97_6, hR_97_7, hR_97_8, hR_97_9, hR_97_10, hR_97_11, hF_97_12, hO_156, hF_156_0, hR_156_1, hR_156_2, hR_156_3, hR_156_4, hR_156_5, hR_156_6, hR_156_7, hR_156_8, fd_p_eq, fd_p_ne, fd_p_lt, fd_p_ge, fd_p_gt, fd_p_le, fd_f_iadd, fd_f_isub, fd_f_imul, fd_f_iand, fd_f_ior, fd_f_ixor, fd_f_ishl, fd_f_ishr, fd_f_iushr, fd_f_ladd, fd_f_lsub, fd_f_lmul, fd_f_lcmp, fd_f_idiv, fd_f_irem, fd_f_ldiv, fd_f_lrem, fd_f_ineg, fd_f_i2l, fd_f_l2i, fd_f_i2b, fd_f_i2s, fd_f_i2c, fd_z_idiv, fd_z_irem, fd_z_ldiv, fd_z_lrem, fd_in0, fd_sl, fd_st1, fd_st2, fd_kl, fd_vI, fd_vL, fd_vN, fd_ok1, fd_v_int, xI, xL, xR, xK, xG, yI, yL, yN, -Prod.exists, fd_run_of n1, b1, Int32.not_lt.mp b1, fd_run_of g1, fd_run_of n2, z1]
  · have n2 := xt_num (h.at (nI (ne ch l q + 1))) (by rw [rd_I, if_pos rfl, if_pos rfl]) c3
    rw [uI_uI] at n2
    have e2 := ne_f c3
    have v2 := (nu_f h.chs (ne ch l q + 1)).2
    have b2 : ¬ nI (nu ch l (ne ch l q + 1)) < 0 := nI_pos (by omega)
    have b3 : nI (nu ch l (ne ch l q + 1)) < nI (nu ch l q) := nI_lt c4 (by omega)
    have gb := s_X7_giveBack (M := fd_uI M 1 2 (nI (ne ch l (ne ch l q + 1)))) (p := ne ch l (ne ch l q + 1) - 1) (by rw [rd_I, if_pos rfl, if_pos rfl, show ne ch l (ne ch l q + 1) - 1 + 1 = ne ch l (ne ch l q + 1) by omega]) (by omega)
    rw [uI_uI] at gb
    simp [↓wp_ldn, ↓wp_b1, ↓wp_b2, ↓wp_b2z, ↓wp_gf, ↓wp_gd, ↓wp_ga, ↓wp_gl, ↓wp_al2, ↓wp_pi, ↓wp_ltr, ↓wp_ite, ↓wp_and, ↓wp_or, ↓wp_not, ↓wp_cmp, ↓wp_cmz, ↓wp_isn, ↓wp_nsn, ↓wp_a0, ↓wp_a1, ↓wp_cv, ↓wp_cs, ↓wp_dr, ↓wp_sk, ↓wp_brk, ↓wp_cnt, ↓wp_rV, ↓wp_seq, ↓wp_iff, ↓wp_sI, ↓wp_sL, ↓wp_sN, ↓wp_inc, ↓wp_do, ↓wp_rI, ↓wp_rL, ↓wp_rN, ↓wp_rZ, ↓wp_pf, ↓wp_pz, ↓wp_pd, ↓wp_po, ↓wp_pl, ↓wp_pao, ↓wp_tsw, ↓wp_lsw, ↓wp_fn, ↓wq_ld, ↓wq_ldl, ↓wq_lda, ↓wq_c, ↓wq_gr, ↓wq_gq, ↓wq_nn, ↓wq_asI, ↓wq_asL, ↓wq_asN, ↓wq_pa, hO_0, hR_0_0, hR_0_1, hR_0_2, hR_0_3, hR_0_4, hR_0_5, hR_0_6, hR_0_7, hR_0_8, hR_0_9, hR_0_10, hR_0_11, hF_0_12, hO_1, hR_1_0, hF_1_1, hF_1_2, hF_1_3, hO_3, hR_3_0, hF_3_1, hO_5, hF_5_0, hF_5_1, hR_5_2, hR_5_3, hR_5_4, hR_5_5, hR_5_6, hR_5_7, hF_5_8, hF_5_9, hO_30, hF_30_0, hF_30_1, hF_30_2, hF_30_3, hO_31, hF_31_0, hF_31_1, hR_31_2, hR_31_3, hR_31_4, hO_35, hR_35_0, hF_35_1, hR_35_2, hF_35_3, hR_35_4, hF_35_5, hF_35_6, hR_35_7, hF_35_8, hR_35_9, hR_35_10, hO_42, hO_45, hO_48, hR_48_0, hF_48_1, hF_48_2, hR_48_3, hR_48_4, hO_94, hR_94_0, hR_94_1, hO_97, hF_97_0, hF_97_1, hF_97_2, hF_97_3, hR_97_4, hR_97_5, hR_97_6, hR_97_7, hR_97_8, hR_97_9, hR_97_10, hR_97_11, hF_97_12, hO_156, hF_156_0, hR_156_1, hR_156_2, hR_156_3, hR_156_4, hR_156_5, hR_156_6, hR_156_7, hR_156_8, fd_p_eq, fd_p_ne, fd_p_lt, fd_p_ge, fd_p_gt, fd_p_le, fd_f_iadd, fd_f_isub, fd_f_imul, fd_f_iand, fd_f_ior, fd_f_ixor, fd_f_ishl, fd_f_ishr, fd_f_iushr, fd_f_ladd, fd_f_lsub, fd_f_lmul, fd_f_lcmp, fd_f_idiv, fd_f_irem, fd_f_ldiv, fd_f_lrem, fd_f_ineg, fd_f_i2l, fd_f_l2i, fd_f_i2b, fd_f_i2s, fd_f_i2c, fd_z_idiv, fd_z_irem, fd_z_ldiv, fd_z_lrem, fd_in0, fd_sl, fd_st1, fd_st2, fd_kl, fd_vI, fd_vL, fd_vN, fd_ok1, fd_v_int, xI, xL, xR, xK, xG, yI, yL, yN, -Prod.exists, fd_run_of n1, b1, Int32.not_lt.mp b1, fd_run_of g1, fd_run_of n2, b2, Int32.not_lt.mp b2, b3, fd_run_of gb]
def fx_P (k a j : Nat) : Prop := (a = 1 ∧ j = 2) ∨ (a = 31 ∧ j = 1) ∨ (((32 ≤ a ∧ a ≤ 34) ∨ a = 43 ∨ a = 44) ∧ j = k)
theorem s_X1_readLine_t (h : cp t l ch M) (hp : M.1 1 2 = nI p) (hk : M.1 31 1 = nI k) (k8 : k < 8) (hv : M.1 5 0 = nI v) (v9 : v ≤ 9) (c : f_ok ch l v p) {Q : Value → fd_M → Prop} (hQ : ∀ M2, fP (fx_P k) M M2 → M2.1 1 2 = nI (f_3 ch l p + 2) → M2.1 31 1 = nI (k + 1) → M2.1 32 k = nI (lv ch p) → M2.1 33 k = nI (f_B ch l p) → M2.1 34 k = nI (f_U ch l p) → M2.1 43 k = nI (f_X ch l p) → M2.1 44 k = nI (f_Y ch l p) → Q (.int 1) M2) : fd_run m_X1_readLine [.ref 31, .ref 1, .ref 5, .ref 42] M Q := by
  have hl := h.l80
  obtain ⟨c1, c2, c3, c4, c5, c6⟩ := c
  have l1 := xt_let h hp (by omega) c1
  have r1 := lv_f (by omega) c1
  have sp := s_X1_readSpan_t (k := k) (h.at (nI (p + 1))) (by rw [rd_I, if_pos rfl, if_pos rfl]) (by rw [rd_I, if_neg (by decide)]; exact hk) k8 c2
  rw [uI_uI] at sp
  have g2 := f_2_le c2
  have g3 := f_3_le c4
  change m_X1_readSpan _ _ = some (_, fd_uI (fd_uI (fd_uI M 1 2 (nI (f_2 ch l p))) 43 k (nI (f_X ch l p))) 44 k (nI (f_Y ch l p))) at sp
  obtain ⟨M1, hM1⟩ : ∃ M1, M1 = fd_uI (fd_uI (fd_uI M 1 2 (nI (f_2 ch l p))) 43 k (nI (f_X ch l p))) 44 k (nI (f_Y ch l p)) := ⟨_, rfl⟩
  rw [← hM1] at sp
  have f1 : fP (fx_P k) M M1 := by
    rw [hM1]
    exact fP.uI (fP.uI (fP.uI fP.rf (by unfold fx_P; omega)) (by unfold fx_P; omega)) (by unfold fx_P; omega)
  have h1 : cp t l ch M1 := h.cg f1 (by unfold fx_P; omega) (by unfold fx_P; omega) (fun i => by unfold fx_P; omega)
  have p1 : M1.1 1 2 = nI (f_2 ch l p) := by rw [hM1]; simp [rd_I]
  have k1 : M1.1 31 1 = nI k := by rw [hM1]; simp [rd_I]; exact hk
  have x1 : M1.1 43 k = nI (f_X ch l p) := by rw [hM1]; simp [rd_I]
  have y1 : M1.1 44 k = nI (f_Y ch l p) := by rw [hM1]; simp [rd_I]
  clear hM1
  have t2 := xt_sg h1 p1 c3
  have t3 := xt_num (h1.at (nI (f_2 ch l p + 1))) (by rw [rd_I, if_pos rfl, if_pos rfl]) c4
  rw [uI_uI] at t3
  change m_X7_takeNumber _ _ = some (.int (nI (f_B ch l p)), fd_uI M1 1 2 (nI (f_3 ch l p))) at t3
  have t4 := xt_sg (h1.at (nI (f_3 ch l p))) (by rw [rd_I, if_pos rfl, if_pos rfl]) c5
  rw [uI_uI] at t4
  have lk := s_X7_look (h1.at (nI (f_3 ch l p + 1))) (p := f_3 ch l p + 1) (by rw [rd_I, if_pos rfl, if_pos rfl]) (by have := c6.1; omega)
  rw [if_pos c6.1] at lk
  obtain ⟨d1, d2, d3⟩ := dv_f c6
  have dgd : dg ch l (f_3 ch l p + 1) := ⟨c6.1, by rw [d1]; exact (ru_dig_i (by omega)).mpr (by omega)⟩
  obtain ⟨dd, q1, q2, q3⟩ := xt_num1 (h1.at (nI (f_3 ch l p + 1))) (by rw [rd_I, if_pos rfl, if_pos rfl]) dgd
  rw [uI_uI] at q3
  have edd : dd = dv ch (f_3 ch l p + 1) := by
    rw [d1] at q2
    have := (nI_eq (by omega) (by omega)).mp q2
    omega
  subst edd
  have n48 : ¬ nI (48 + dv ch (f_3 ch l p + 1)) = 48 := fun z => by
    have := (nI_eq (b := 48) (by omega) (by omega)).mp z
    omega
  rw [d1] at lk
  have v2 := (nu_f h.chs (f_2 ch l p + 1)).2
  have b0 : ¬ nI k < 0 := nI_pos (by omega)
  have b00 : ¬ 8 ≤ nI k := nI_ge (b := 8) k8 (by decide)
  have b1 : ¬ nI (lv ch p) < 0 := nI_pos (by omega)
  have b2 : ¬ nI (f_B ch l p) < 0 := nI_pos (by unfold f_B; omega)
  have b3 : ¬ nI (dv ch (f_3 ch l p + 1)) < 0 := nI_pos (by omega)
  unfold m_X1_readLine b_X1_readLine
  simp [↓wp_ldn, ↓wp_b1, ↓wp_b2, ↓wp_b2z, ↓wp_gf, ↓wp_gd, ↓wp_ga, ↓wp_gl, ↓wp_al2, ↓wp_pi, ↓wp_ltr, ↓wp_ite, ↓wp_and, ↓wp_or, ↓wp_not, ↓wp_cmp, ↓wp_cmz, ↓wp_isn, ↓wp_nsn, ↓wp_a0, ↓wp_a1, ↓wp_cv, ↓wp_cs, ↓wp_dr, ↓wp_sk, ↓wp_brk, ↓wp_cnt, ↓wp_rV, ↓wp_seq, ↓wp_iff, ↓wp_sI, ↓wp_sL, ↓wp_sN, ↓wp_inc, ↓wp_do, ↓wp_rI, ↓wp_rL, ↓wp_rN, ↓wp_rZ, ↓wp_pf, ↓wp_pz, ↓wp_pd, ↓wp_po, ↓wp_pl, ↓wp_pao, ↓wp_tsw, ↓wp_lsw, ↓wp_fn, ↓wq_ld, ↓wq_ldl, ↓wq_lda, ↓wq_c, ↓wq_gr, ↓wq_gq, ↓wq_nn, ↓wq_asI, ↓wq_asL, ↓wq_asN, ↓wq_pa, hO_0, hR_0_0, hR_0_1, hR_0_2, hR_0_3, hR_0_4, hR_0_5, hR_0_6, hR_0_7, hR_0_8, hR_0_9, hR_0_10, hR_0_11, hF_0_12, hO_1, hR_1_0, hF_1_1, hF_1_2, hF_1_3, hO_3, hR_3_0, hF_3_1, hO_5, hF_5_0, hF_5_1, hR_5_2, hR_5_3, hR_5_4, hR_5_5, hR_5_6, hR_5_7, hF_5_8, hF_5_9, hO_30, hF_30_0, hF_30_1, hF_30_2, hF_30_3, hO_31, hF_31_0, hF_31_1, hR_31_2, hR_31_3, hR_31_4, hO_35, hR_35_0, hF_35_1, hR_35_2, hF_35_3, hR_35_4, hF_35_5, hF_35_6, hR_35_7, hF_35_8, hR_35_9, hR_35_10, hO_42, hO_45, hO_48, hR_48_0, hF_48_1, hF_48_2, hR_48_3, hR_48_4, hO_94, hR_94_0, hR_94_1, hO_97, hF_97_0, hF_97_1, hF_97_2, hF_97_3, hR_97_4, hR_97_5, hR_97_6, hR_97_7, hR_97_8, hR_97_9, hR_97_10, hR_97_11, hF_97_12, hO_156, hF_156_0, hR_156_1, hR_156_2, hR_156_3, hR_156_4, hR_156_5, hR_156_6, hR_156_7, hR_156_8, fd_p_eq, fd_p_ne, fd_p_lt, fd_p_ge, fd_p_gt, fd_p_le, fd_f_iadd, fd_f_isub, fd_f_imul, fd_f_iand, fd_f_ior, fd_f_ixor, fd_f_ishl, fd_f_ishr, fd_f_iushr, fd_f_ladd, fd_f_lsub, fd_f_lmul, fd_f_lcmp, fd_f_idiv, fd_f_irem, fd_f_ldiv, fd_f_lrem, fd_f_ineg, fd_f_i2l, fd_f_l2i, fd_f_i2b, fd_f_i2s, fd_f_i2c, fd_z_idiv, fd_z_irem, fd_z_ldiv, fd_z_lrem, fd_in0, fd_sl, fd_st1, fd_st2, fd_kl, fd_vI, fd_vL, fd_vN, fd_ok1, fd_v_int, xI, xL, xR, xK, xG, yI, yL, yN, -Prod.exists, hk, hv, b0, Int32.not_lt.mp b0, b00, Int32.not_le.mp b00, fd_run_of l1, b1, Int32.not_lt.mp b1, fd_run_of sp, fd_run_of t2, fd_run_of t3, b2, Int32.not_lt.mp b2, fd_run_of t4, fd_run_of lk, n48, fd_run_of q3, b3, Int32.not_lt.mp b3, rd_I, k1, hA_32 k8, hA_33 k8, hA_34 k8, nI_clamp (show k < 2 ^ 31 by omega), nI_1]
  refine hQ _ (fP.uI (fP.uI (fP.uI (fP.uI (fP.uI f1 ?_) ?_) ?_) ?_) ?_) ?_ ?_ ?_ ?_ ?_ ?_ ?_
  all_goals first | (unfold fx_P; omega) | skip
  · simp [rd_I]
  · simp [rd_I]
  · simp [rd_I]
  · simp [rd_I]
  · simp [rd_I]; rfl
  · simp [rd_I]; exact x1
  · simp [rd_I]; exact y1
theorem s_X1_readLine_f {z : Nat} (h : cp t l ch M) (hp : M.1 1 2 = nI p) (hpl : p ≤ l) (hk : M.1 31 1 = nI k) (k8 : k < 8) (hv : M.1 5 0 = nI v) (v9 : v ≤ 9) (c : f_no ch l v p z) {Q : Value → fd_M → Prop} (hQ : ∀ M2, fP (fx_P k) M M2 → M2.1 1 2 = nI z → Q (.int 0) M2) : fd_run m_X1_readLine [.ref 31, .ref 1, .ref 5, .ref 42] M Q := by
  have hl := h.l80
  have z1 : (-1 : Int32) < 0 := by decide
  have b0 : ¬ nI k < 0 := nI_pos (by omega)
  have b00 : ¬ 8 ≤ nI k := nI_ge (b := 8) k8 (by decide)
  have u1 : ∀ x, fP (fx_P k) M (fd_uI M 1 2 x) := fun x => fP.uI fP.rf (by unfold fx_P; omega)
  unfold m_X1_readLine b_X1_readLine
  rcases c with ⟨c1, rfl⟩ | c
  · simp [↓wp_ldn, ↓wp_b1, ↓wp_b2, ↓wp_b2z, ↓wp_gf, ↓wp_gd, ↓wp_ga, ↓wp_gl, ↓wp_al2, ↓wp_pi, ↓wp_ltr, ↓wp_ite, ↓wp_and, ↓wp_or, ↓wp_not, ↓wp_cmp, ↓wp_cmz, ↓wp_isn, ↓wp_nsn, ↓wp_a0, ↓wp_a1, ↓wp_cv, ↓wp_cs, ↓wp_dr, ↓wp_sk, ↓wp_brk, ↓wp_cnt, ↓wp_rV, ↓wp_seq, ↓wp_iff, ↓wp_sI, ↓wp_sL, ↓wp_sN, ↓wp_inc, ↓wp_do, ↓wp_rI, ↓wp_rL, ↓wp_rN, ↓wp_rZ, ↓wp_pf, ↓wp_pz, ↓wp_pd, ↓wp_po, ↓wp_pl, ↓wp_pao, ↓wp_tsw, ↓wp_lsw, ↓wp_fn, ↓wq_ld, ↓wq_ldl, ↓wq_lda, ↓wq_c, ↓wq_gr, ↓wq_gq, ↓wq_nn, ↓wq_asI, ↓wq_asL, ↓wq_asN, ↓wq_pa, hO_0, hR_0_0, hR_0_1, hR_0_2, hR_0_3, hR_0_4, hR_0_5, hR_0_6, hR_0_7, hR_0_8, hR_0_9, hR_0_10, hR_0_11, hF_0_12, hO_1, hR_1_0, hF_1_1, hF_1_2, hF_1_3, hO_3, hR_3_0, hF_3_1, hO_5, hF_5_0, hF_5_1, hR_5_2, hR_5_3, hR_5_4, hR_5_5, hR_5_6, hR_5_7, hF_5_8, hF_5_9, hO_30, hF_30_0, hF_30_1, hF_30_2, hF_30_3, hO_31, hF_31_0, hF_31_1, hR_31_2, hR_31_3, hR_31_4, hO_35, hR_35_0, hF_35_1, hR_35_2, hF_35_3, hR_35_4, hF_35_5, hF_35_6, hR_35_7, hF_35_8, hR_35_9, hR_35_10, hO_42, hO_45, hO_48, hR_48_0, hF_48_1, hF_48_2, hR_48_3, hR_48_4, hO_94, hR_94_0, hR_94_1, hO_97, hF_97_0, hF_97_1, hF_97_2, hF_97_3, hR_97_4, hR_97_5, hR_97_6, hR_97_7, hR_97_8, hR_97_9, hR_97_10, hR_97_11, hF_97_12, hO_156, hF_156_0, hR_156_1, hR_156_2, hR_156_3, hR_156_4, hR_156_5, hR_156_6, hR_156_7, hR_156_8, fd_p_eq, fd_p_ne, fd_p_lt, fd_p_ge, fd_p_gt, fd_p_le, fd_f_iadd, fd_f_isub, fd_f_imul, fd_f_iand, fd_f_ior, fd_f_ixor, fd_f_ishl, fd_f_ishr, fd_f_iushr, fd_f_ladd, fd_f_lsub, fd_f_lmul, fd_f_lcmp, fd_f_idiv, fd_f_irem, fd_f_ldiv, fd_f_lrem, fd_f_ineg, fd_f_i2l, fd_f_l2i, fd_f_i2b, fd_f_i2s, fd_f_i2c, fd_z_idiv, fd_z_irem, fd_z_ldiv, fd_z_lrem, fd_in0, fd_sl, fd_st1, fd_st2, fd_kl, fd_vI, fd_vL, fd_vN, fd_ok1, fd_v_int, xI, xL, xR, xK, xG, yI, yL, yN, -Prod.exists, hk, hv, b0, Int32.not_lt.mp b0, b00, Int32.not_le.mp b00, fd_run_of (xt_letf h hp (by omega) (by omega) c1), z1]
    exact hQ M fP.rf hp
  have c1 : tl ch l p v (-1) := by rcases c with c | c | c | c | c <;> exact c.1
  have l1 := xt_let h hp (by omega) c1
  have r1 := lv_f (by omega) c1
  have b1 : ¬ nI (lv ch p) < 0 := nI_pos (by omega)
  rcases c with ⟨-, c2⟩ | c
  · have sp := s_X1_readSpan_f (h.at (nI (p + 1))) (q := p + 1) (by rw [rd_I, if_pos rfl, if_pos rfl]) (by have := c1.1; omega) c2
    rw [uI_uI] at sp
    simp [↓wp_ldn, ↓wp_b1, ↓wp_b2, ↓wp_b2z, ↓wp_gf, ↓wp_gd, ↓wp_ga, ↓wp_gl, ↓wp_al2, ↓wp_pi, ↓wp_ltr, ↓wp_ite, ↓wp_and, ↓wp_or, ↓wp_not, ↓wp_cmp, ↓wp_cmz, ↓wp_isn, ↓wp_nsn, ↓wp_a0, ↓wp_a1, ↓wp_cv, ↓wp_cs, ↓wp_dr, ↓wp_sk, ↓wp_brk, ↓wp_cnt, ↓wp_rV, ↓wp_seq, ↓wp_iff, ↓wp_sI, ↓wp_sL, ↓wp_sN, ↓wp_inc, ↓wp_do, ↓wp_rI, ↓wp_rL, ↓wp_rN, ↓wp_rZ, ↓wp_pf, ↓wp_pz, ↓wp_pd, ↓wp_po, ↓wp_pl, ↓wp_pao, ↓wp_tsw, ↓wp_lsw, ↓wp_fn, ↓wq_ld, ↓wq_ldl, ↓wq_lda, ↓wq_c, ↓wq_gr, ↓wq_gq, ↓wq_nn, ↓wq_asI, ↓wq_asL, ↓wq_asN, ↓wq_pa, hO_0, hR_0_0, hR_0_1, hR_0_2, hR_0_3, hR_0_4, hR_0_5, hR_0_6, hR_0_7, hR_0_8, hR_0_9, hR_0_10, hR_0_11, hF_0_12, hO_1, hR_1_0, hF_1_1, hF_1_2, hF_1_3, hO_3, hR_3_0, hF_3_1, hO_5, hF_5_0, hF_5_1, hR_5_2, hR_5_3, hR_5_4, hR_5_5, hR_5_6, hR_5_7, hF_5_8, hF_5_9, hO_30, hF_30_0, hF_30_1, hF_30_2, hF_30_3, hO_31, hF_31_0, hF_31_1, hR_31_2, hR_31_3, hR_31_4, hO_35, hR_35_0, hF_35_1, hR_35_2, hF_35_3, hR_35_4, hF_35_5, hF_35_6, hR_35_7, hF_35_8, hR_35_9, hR_35_10, hO_42, hO_45, hO_48, hR_48_0, hF_48_1, hF_48_2, hR_48_3, hR_48_4, hO_94, hR_94_0, hR_94_1, hO_97, hF_97_0, hF_97_1, hF_97_2, hF_97_3, hR_97_4, hR_97_5, hR_97_6, hR_97_7, hR_97_8, hR_97_9, hR_97_10, hR_97_11, hF_97_12, hO_156, hF_156_0, hR_156_1, hR_156_2, hR_156_3, hR_156_4, hR_156_5, hR_156_6, hR_156_7, hR_156_8, fd_p_eq, fd_p_ne, fd_p_lt, fd_p_ge, fd_p_gt, fd_p_le, fd_f_iadd, fd_f_isub, fd_f_imul, fd_f_iand, fd_f_ior, fd_f_ixor, fd_f_ishl, fd_f_ishr, fd_f_iushr, fd_f_ladd, fd_f_lsub, fd_f_lmul, fd_f_lcmp, fd_f_idiv, fd_f_irem, fd_f_ldiv, fd_f_lrem, fd_f_ineg, fd_f_i2l, fd_f_l2i, fd_f_i2b, fd_f_i2s, fd_f_i2c, fd_z_idiv, fd_z_irem, fd_z_ldiv, fd_z_lrem, fd_in0, fd_sl, fd_st1, fd_st2, fd_kl, fd_vI, fd_vL, fd_vN, fd_ok1, fd_v_int, xI, xL, xR, xK, xG, yI, yL, yN, -Prod.exists, hk, hv, b0, Int32.not_lt.mp b0, b00, Int32.not_le.mp b00, fd_run_of l1, b1, Int32.not_lt.mp b1, fd_run_of sp]
    exact hQ _ (u1 _) (by simp [rd_I])
  have c2 : s_ok ch l (p + 1) := by rcases c with c | c | c | c <;> exact c.2.1
  have sp := s_X1_readSpan_t (k := k) (h.at (nI (p + 1))) (by rw [rd_I, if_pos rfl, if_pos rfl]) (by rw [rd_I, if_neg (by decide)]; exact hk) k8 c2
  rw [uI_uI] at sp
  have g2 := f_2_le c2
  change m_X1_readSpan _ _ = some (_, fd_uI (fd_uI (fd_uI M 1 2 (nI (f_2 ch l p))) 43 k (nI (f_X ch l p))) 44 k (nI (f_Y ch l p))) at sp
  obtain ⟨M1, hM1⟩ : ∃ M1, M1 = fd_uI (fd_uI (fd_uI M 1 2 (nI (f_2 ch l p))) 43 k (nI (f_X ch l p))) 44 k (nI (f_Y ch l p)) := ⟨_, rfl⟩
  rw [← hM1] at sp
  have f1 : fP (fx_P k) M M1 := by
    rw [hM1]
    exact fP.uI (fP.uI (fP.uI fP.rf (by unfold fx_P; omega)) (by unfold fx_P; omega)) (by unfold fx_P; omega)
  have h1 : cp t l ch M1 := h.cg f1 (by unfold fx_P; omega) (by unfold fx_P; omega) (fun i => by unfold fx_P; omega)
  have p1 : M1.1 1 2 = nI (f_2 ch l p) := by rw [hM1]; simp [rd_I]
  have k1 : M1.1 31 1 = nI k := by rw [hM1]; simp [rd_I]; exact hk
  clear hM1
  have u2 : ∀ x, fP (fx_P k) M (fd_uI M1 1 2 x) := fun x => fP.uI f1 (by unfold fx_P; omega)
  rcases c with ⟨-, -, c3, rfl⟩ | c
  · have t2 := xt_sgf h1 p1 (by omega) (by decide) c3
    simp [↓wp_ldn, ↓wp_b1, ↓wp_b2, ↓wp_b2z, ↓wp_gf, ↓wp_gd, ↓wp_ga, ↓wp_gl, ↓wp_al2, ↓wp_pi, ↓wp_ltr, ↓wp_ite, ↓wp_and, ↓wp_or, ↓wp_not, ↓wp_cmp, ↓wp_cmz, ↓wp_isn, ↓wp_nsn, ↓wp_a0, ↓wp_a1, ↓wp_cv, ↓wp_cs, ↓wp_dr, ↓wp_sk, ↓wp_brk, ↓wp_cnt, ↓wp_rV, ↓wp_seq, ↓wp_iff, ↓wp_sI, ↓wp_sL, ↓wp_sN, ↓wp_inc, ↓wp_do, ↓wp_rI, ↓wp_rL, ↓wp_rN, ↓wp_rZ, ↓wp_pf, ↓wp_pz, ↓wp_pd, ↓wp_po, ↓wp_pl, ↓wp_pao, ↓wp_tsw, ↓wp_lsw, ↓wp_fn, ↓wq_ld, ↓wq_ldl, ↓wq_lda, ↓wq_c, ↓wq_gr, ↓wq_gq, ↓wq_nn, ↓wq_asI, ↓wq_asL, ↓wq_asN, ↓wq_pa, hO_0, hR_0_0, hR_0_1, hR_0_2, hR_0_3, hR_0_4, hR_0_5, hR_0_6, hR_0_7, hR_0_8, hR_0_9, hR_0_10, hR_0_11, hF_0_12, hO_1, hR_1_0, hF_1_1, hF_1_2, hF_1_3, hO_3, hR_3_0, hF_3_1, hO_5, hF_5_0, hF_5_1, hR_5_2, hR_5_3, hR_5_4, hR_5_5, hR_5_6, hR_5_7, hF_5_8, hF_5_9, hO_30, hF_30_0, hF_30_1, hF_30_2, hF_30_3, hO_31, hF_31_0, hF_31_1, hR_31_2, hR_31_3, hR_31_4, hO_35, hR_35_0, hF_35_1, hR_35_2, hF_35_3, hR_35_4, hF_35_5, hF_35_6, hR_35_7, hF_35_8, hR_35_9, hR_35_10, hO_42, hO_45, hO_48, hR_48_0, hF_48_1, hF_48_2, hR_48_3, hR_48_4, hO_94, hR_94_0, hR_94_1, hO_97, hF_97_0, hF_97_1, hF_97_2, hF_97_3, hR_97_4, hR_97_5, hR_97_6, hR_97_7, hR_97_8, hR_97_9, hR_97_10, hR_97_11, hF_97_12, hO_156, hF_156_0, hR_156_1, hR_156_2, hR_156_3, hR_156_4, hR_156_5, hR_156_6, hR_156_7, hR_156_8, fd_p_eq, fd_p_ne, fd_p_lt, fd_p_ge, fd_p_gt, fd_p_le, fd_f_iadd, fd_f_isub, fd_f_imul, fd_f_iand, fd_f_ior, fd_f_ixor, fd_f_ishl, fd_f_ishr, fd_f_iushr, fd_f_ladd, fd_f_lsub, fd_f_lmul, fd_f_lcmp, fd_f_idiv, fd_f_irem, fd_f_ldiv, fd_f_lrem, fd_f_ineg, fd_f_i2l, fd_f_l2i, fd_f_i2b, fd_f_i2s, fd_f_i2c, fd_z_idiv, fd_z_irem, fd_z_ldiv, fd_z_lrem, fd_in0, fd_sl, fd_st1, fd_st2, fd_kl, fd_vI, fd_vL, fd_vN, fd_ok1, fd_v_int, xI, xL, xR, xK, xG, yI, yL, yN, -Prod.exists, hk, hv, b0, Int32.not_lt.mp b0, b00, Int32.not_le.mp b00, fd_run_of l1, b1, Int32.not_lt.mp b1, fd_run_of sp, fd_run_of t2, z1]
    exact hQ _ f1 p1
  have c3 : tsg ch l (f_2 ch l p) 36 := by rcases c with c | c | c <;> exact c.2.2.1
  have t2 := xt_sg h1 p1 c3
  rcases c with ⟨-, -, -, c4, rfl⟩ | c
  · have t3 := xt_numf (h1.at (nI (f_2 ch l p + 1))) (by rw [rd_I, if_pos rfl, if_pos rfl]) (by omega) c4 2
    simp [↓wp_ldn, ↓wp_b1, ↓wp_b2, ↓wp_b2z, ↓wp_gf, ↓wp_gd, ↓wp_ga, ↓wp_gl, ↓wp_al2, ↓wp_pi, ↓wp_ltr, ↓wp_ite, ↓wp_and, ↓wp_or, ↓wp_not, ↓wp_cmp, ↓wp_cmz, ↓wp_isn, ↓wp_nsn, ↓wp_a0, ↓wp_a1, ↓wp_cv, ↓wp_cs, ↓wp_dr, ↓wp_sk, ↓wp_brk, ↓wp_cnt, ↓wp_rV, ↓wp_seq, ↓wp_iff, ↓wp_sI, ↓wp_sL, ↓wp_sN, ↓wp_inc, ↓wp_do, ↓wp_rI, ↓wp_rL, ↓wp_rN, ↓wp_rZ, ↓wp_pf, ↓wp_pz, ↓wp_pd, ↓wp_po, ↓wp_pl, ↓wp_pao, ↓wp_tsw, ↓wp_lsw, ↓wp_fn, ↓wq_ld, ↓wq_ldl, ↓wq_lda, ↓wq_c, ↓wq_gr, ↓wq_gq, ↓wq_nn, ↓wq_asI, ↓wq_asL, ↓wq_asN, ↓wq_pa, hO_0, hR_0_0, hR_0_1, hR_0_2, hR_0_3, hR_0_4, hR_0_5, hR_0_6, hR_0_7, hR_0_8, hR_0_9, hR_0_10, hR_0_11, hF_0_12, hO_1, hR_1_0, hF_1_1, hF_1_2, hF_1_3, hO_3, hR_3_0, hF_3_1, hO_5, hF_5_0, hF_5_1, hR_5_2, hR_5_3, hR_5_4, hR_5_5, hR_5_6, hR_5_7, hF_5_8, hF_5_9, hO_30, hF_30_0, hF_30_1, hF_30_2, hF_30_3, hO_31, hF_31_0, hF_31_1, hR_31_2, hR_31_3, hR_31_4, hO_35, hR_35_0, hF_35_1, hR_35_2, hF_35_3, hR_35_4, hF_35_5, hF_35_6, hR_35_7, hF_35_8, hR_35_9, hR_35_10, hO_42, hO_45, hO_48, hR_48_0, hF_48_1, hF_48_2, hR_48_3, hR_48_4, hO_94, hR_94_0, hR_94_1, hO_97, hF_97_0, hF_97_1, hF_97_2, hF_97_3, hR_97_4, hR_97_5, hR_97_6, hR_97_7, hR_97_8, hR_97_9, hR_97_10, hR_97_11, hF_97_12, hO_156, hF_156_0, hR_156_1, hR_156_2, hR_156_3, hR_156_4, hR_156_5, hR_156_6, hR_156_7, hR_156_8, fd_p_eq, fd_p_ne, fd_p_lt, fd_p_ge, fd_p_gt, fd_p_le, fd_f_iadd, fd_f_isub, fd_f_imul, fd_f_iand, fd_f_ior, fd_f_ixor, fd_f_ishl, fd_f_ishr, fd_f_iushr, fd_f_ladd, fd_f_lsub, fd_f_lmul, fd_f_lcmp, fd_f_idiv, fd_f_irem, fd_f_ldiv, fd_f_lrem, fd_f_ineg, fd_f_i2l, fd_f_l2i, fd_f_i2b, fd_f_i2s, fd_f_i2c, fd_z_idiv, fd_z_irem, fd_z_ldiv, fd_z_lrem, fd_in0, fd_sl, fd_st1, fd_st2, fd_kl, fd_vI, fd_vL, fd_vN, fd_ok1, fd_v_int, xI, xL, xR, xK, xG, yI, yL, yN, -Prod.exists, hk, hv, b0, Int32.not_lt.mp b0, b00, Int32.not_le.mp b00, fd_run_of l1, b1, Int32.not_lt.mp b1, fd_run_of sp, fd_run_of t2, fd_run_of t3, z1]
    exact hQ _ (u2 _) (by simp [rd_I])
  have c4 : dg ch l (f_2 ch l p + 1) := by rcases c with c | c <;> exact c.2.2.2.1
  have t3 := xt_num (h1.at (nI (f_2 ch l p + 1))) (by rw [rd_I, if_pos rfl, if_pos rfl]) c4
  rw [uI_uI] at t3
  change m_X7_takeNumber _ _ = some (.int (nI (f_B ch l p)), fd_uI M1 1 2 (nI (f_3 ch l p))) at t3
  have g3 := f_3_le c4
  have v2 := (nu_f h.chs (f_2 ch l p + 1)).2
  have b2 : ¬ nI (f_B ch l p) < 0 := nI_pos (by unfold f_B; omega)
  rcases c with ⟨-, -, -, -, c5, rfl⟩ | ⟨-, -, -, -, c5, c6, rfl⟩
  · have t4 := xt_sgf (h1.at (nI (f_3 ch l p))) (by rw [rd_I, if_pos rfl, if_pos rfl]) (by omega) (by decide) c5
    simp [↓wp_ldn, ↓wp_b1, ↓wp_b2, ↓wp_b2z, ↓wp_gf, ↓wp_gd, ↓wp_ga, ↓wp_gl, ↓wp_al2, ↓wp_pi, ↓wp_ltr, ↓wp_ite, ↓wp_and, ↓wp_or, ↓wp_not, ↓wp_cmp, ↓wp_cmz, ↓wp_isn, ↓wp_nsn, ↓wp_a0, ↓wp_a1, ↓wp_cv, ↓wp_cs, ↓wp_dr, ↓wp_sk, ↓wp_brk, ↓wp_cnt, ↓wp_rV, ↓wp_seq, ↓wp_iff, ↓wp_sI, ↓wp_sL, ↓wp_sN, ↓wp_inc, ↓wp_do, ↓wp_rI, ↓wp_rL, ↓wp_rN, ↓wp_rZ, ↓wp_pf, ↓wp_pz, ↓wp_pd, ↓wp_po, ↓wp_pl, ↓wp_pao, ↓wp_tsw, ↓wp_lsw, ↓wp_fn, ↓wq_ld, ↓wq_ldl, ↓wq_lda, ↓wq_c, ↓wq_gr, ↓wq_gq, ↓wq_nn, ↓wq_asI, ↓wq_asL, ↓wq_asN, ↓wq_pa, hO_0, hR_0_0, hR_0_1, hR_0_2, hR_0_3, hR_0_4, hR_0_5, hR_0_6, hR_0_7, hR_0_8, hR_0_9, hR_0_10, hR_0_11, hF_0_12, hO_1, hR_1_0, hF_1_1, hF_1_2, hF_1_3, hO_3, hR_3_0, hF_3_1, hO_5, hF_5_0, hF_5_1, hR_5_2, hR_5_3, hR_5_4, hR_5_5, hR_5_6, hR_5_7, hF_5_8, hF_5_9, hO_30, hF_30_0, hF_30_1, hF_30_2, hF_30_3, hO_31, hF_31_0, hF_31_1, hR_31_2, hR_31_3, hR_31_4, hO_35, hR_35_0, hF_35_1, hR_35_2, hF_35_3, hR_35_4, hF_35_5, hF_35_6, hR_35_7, hF_35_8, hR_35_9, hR_35_10, hO_42, hO_45, hO_48, hR_48_0, hF_48_1, hF_48_2, hR_48_3, hR_48_4, hO_94, hR_94_0, hR_94_1, hO_97, hF_97_0, hF_97_1, hF_97_2, hF_97_3, hR_97_4, hR_97_5, hR_97_6, hR_97_7, hR_97_8, hR_97_9, hR_97_10, hR_97_11, hF_97_12, hO_156, hF_156_0, hR_156_1, hR_156_2, hR_156_3, hR_156_4, hR_156_5, hR_156_6, hR_156_7, hR_156_8, fd_p_eq, fd_p_ne, fd_p_lt, fd_p_ge, fd_p_gt, fd_p_le, fd_f_iadd, fd_f_isub, fd_f_imul, fd_f_iand, fd_f_ior, fd_f_ixor, fd_f_ishl, fd_f_ishr, fd_f_iushr, fd_f_ladd, fd_f_lsub, fd_f_lmul, fd_f_lcmp, fd_f_idiv, fd_f_irem, fd_f_ldiv, fd_f_lrem, fd_f_ineg, fd_f_i2l, fd_f_l2i, fd_f_i2b, fd_f_i2s, fd_f_i2c, fd_z_idiv, fd_z_irem, fd_z_ldiv, fd_z_lrem, fd_in0, fd_sl, fd_st1, fd_st2, fd_kl, fd_vI, fd_vL, fd_vN, fd_ok1, fd_v_int, xI, xL, xR, xK, xG, yI, yL, yN, -Prod.exists, hk, hv, b0, Int32.not_lt.mp b0, b00, Int32.not_le.mp b00, fd_run_of l1, b1, Int32.not_lt.mp b1, fd_run_of sp, fd_run_of t2, fd_run_of t3, b2, Int32.not_lt.mp b2, fd_run_of t4]
    exact hQ _ (u2 _) (by simp [rd_I])
  · have t4 := xt_sg (h1.at (nI (f_3 ch l p))) (by rw [rd_I, if_pos rfl, if_pos rfl]) c5
    rw [uI_uI] at t4
    have lk := s_X7_look (h1.at (nI (f_3 ch l p + 1))) (p := f_3 ch l p + 1) (by rw [rd_I, if_pos rfl, if_pos rfl]) (by have := c5.1; omega)
    by_cases dgd : dg ch l (f_3 ch l p + 1)
    · rw [if_pos dgd.1] at lk
      obtain ⟨x, x1, x2⟩ := h.chs _ dgd.1
      have hx := dgd.2
      rw [x2] at hx
      have hx := (ru_dig_i x1).mp hx
      have e48 : x = 48 := Classical.byContradiction fun z => c6 ⟨dgd.1, x, x2, by omega, by omega⟩
      rw [x2, e48, show nI 48 = (48 : Int32) from rfl] at lk
      simp [↓wp_ldn, ↓wp_b1, ↓wp_b2, ↓wp_b2z, ↓wp_gf, ↓wp_gd, ↓wp_ga, ↓wp_gl, ↓wp_al2, ↓wp_pi, ↓wp_ltr, ↓wp_ite, ↓wp_and, ↓wp_or, ↓wp_not, ↓wp_cmp, ↓wp_cmz, ↓wp_isn, ↓wp_nsn, ↓wp_a0, ↓wp_a1, ↓wp_cv, ↓wp_cs, ↓wp_dr, ↓wp_sk, ↓wp_brk, ↓wp_cnt, ↓wp_rV, ↓wp_seq, ↓wp_iff, ↓wp_sI, ↓wp_sL, ↓wp_sN, ↓wp_inc, ↓wp_do, ↓wp_rI, ↓wp_rL, ↓wp_rN, ↓wp_rZ, ↓wp_pf, ↓wp_pz, ↓wp_pd, ↓wp_po, ↓wp_pl, ↓wp_pao, ↓wp_tsw, ↓wp_lsw, ↓wp_fn, ↓wq_ld, ↓wq_ldl, ↓wq_lda, ↓wq_c, ↓wq_gr, ↓wq_gq, ↓wq_nn, ↓wq_asI, ↓wq_asL, ↓wq_asN, ↓wq_pa, hO_0, hR_0_0, hR_0_1, hR_0_2, hR_0_3, hR_0_4, hR_0_5, hR_0_6, hR_0_7, hR_0_8, hR_0_9, hR_0_10, hR_0_11, hF_0_12, hO_1, hR_1_0, hF_1_1, hF_1_2, hF_1_3, hO_3, hR_3_0, hF_3_1, hO_5, hF_5_0, hF_5_1, hR_5_2, hR_5_3, hR_5_4, hR_5_5, hR_5_6, hR_5_7, hF_5_8, hF_5_9, hO_30, hF_30_0, hF_30_1, hF_30_2, hF_30_3, hO_31, hF_31_0, hF_31_1, hR_31_2, hR_31_3, hR_31_4, hO_35, hR_35_0, hF_35_1, hR_35_2, hF_35_3, hR_35_4, hF_35_5, hF_35_6, hR_35_7, hF_35_8, hR_35_9, hR_35_10, hO_42, hO_45, hO_48, hR_48_0, hF_48_1, hF_48_2, hR_48_3, hR_48_4, hO_94, hR_94_0, hR_94_1, hO_97, hF_97_0, hF_97_1, hF_97_2, hF_97_3, hR_97_4, hR_97_5, hR_97_6, hR_97_7, hR_97_8, hR_97_9, hR_97_10, hR_97_11, hF_97_12, hO_156, hF_156_0, hR_156_1, hR_156_2, hR_156_3, hR_156_4, hR_156_5, hR_156_6, hR_156_7, hR_156_8, fd_p_eq, fd_p_ne, fd_p_lt, fd_p_ge, fd_p_gt, fd_p_le, fd_f_iadd, fd_f_isub, fd_f_imul, fd_f_iand, fd_f_ior, fd_f_ixor, fd_f_ishl, fd_f_ishr, fd_f_iushr, fd_f_ladd, fd_f_lsub, fd_f_lmul, fd_f_lcmp, fd_f_idiv, fd_f_irem, fd_f_ldiv, fd_f_lrem, fd_f_ineg, fd_f_i2l, fd_f_l2i, fd_f_i2b, fd_f_i2s, fd_f_i2c, fd_z_idiv, fd_z_irem, fd_z_ldiv, fd_z_lrem, fd_in0, fd_sl, fd_st1, fd_st2, fd_kl, fd_vI, fd_vL, fd_vN, fd_ok1, fd_v_int, xI, xL, xR, xK, xG, yI, yL, yN, -Prod.exists, hk, hv, b0, Int32.not_lt.mp b0, b00, Int32.not_le.mp b00, fd_run_of l1, b1, Int32.not_lt.mp b1, fd_run_of sp, fd_run_of t2, fd_run_of t3, b2, Int32.not_lt.mp b2, fd_run_of t4, fd_run_of lk, z1]
      exact hQ _ (u2 _) (by simp [rd_I])
    · have q3 := xt_numf (h1.at (nI (f_3 ch l p + 1))) (by rw [rd_I, if_pos rfl, if_pos rfl]) (by have := c5.1; omega) dgd 1
      obtain ⟨y, hy⟩ : ∃ y, y = (if f_3 ch l p + 1 < l then ch (f_3 ch l p + 1) else -1 : Int32) := ⟨_, rfl⟩
      rw [← hy] at lk
      have y48 : ¬ y = 48 := fun e => by
        rw [hy] at e
        by_cases q : f_3 ch l p + 1 < l
        · rw [if_pos q] at e
          exact dgd ⟨q, by rw [e]; rfl⟩
        · rw [if_neg q] at e; exact absurd e (by decide)
      simp [↓wp_ldn, ↓wp_b1, ↓wp_b2, ↓wp_b2z, ↓wp_gf, ↓wp_gd, ↓wp_ga, ↓wp_gl, ↓wp_al2, ↓wp_pi, ↓wp_ltr, ↓wp_ite, ↓wp_and, ↓wp_or, ↓wp_not, ↓wp_cmp, ↓wp_cmz, ↓wp_isn, ↓wp_nsn, ↓wp_a0, ↓wp_a1, ↓wp_cv, ↓wp_cs, ↓wp_dr, ↓wp_sk, ↓wp_brk, ↓wp_cnt, ↓wp_rV, ↓wp_seq, ↓wp_iff, ↓wp_sI, ↓wp_sL, ↓wp_sN, ↓wp_inc, ↓wp_do, ↓wp_rI, ↓wp_rL, ↓wp_rN, ↓wp_rZ, ↓wp_pf, ↓wp_pz, ↓wp_pd, ↓wp_po, ↓wp_pl, ↓wp_pao, ↓wp_tsw, ↓wp_lsw, ↓wp_fn, ↓wq_ld, ↓wq_ldl, ↓wq_lda, ↓wq_c, ↓wq_gr, ↓wq_gq, ↓wq_nn, ↓wq_asI, ↓wq_asL, ↓wq_asN, ↓wq_pa, hO_0, hR_0_0, hR_0_1, hR_0_2, hR_0_3, hR_0_4, hR_0_5, hR_0_6, hR_0_7, hR_0_8, hR_0_9, hR_0_10, hR_0_11, hF_0_12, hO_1, hR_1_0, hF_1_1, hF_1_2, hF_1_3, hO_3, hR_3_0, hF_3_1, hO_5, hF_5_0, hF_5_1, hR_5_2, hR_5_3, hR_5_4, hR_5_5, hR_5_6, hR_5_7, hF_5_8, hF_5_9, hO_30, hF_30_0, hF_30_1, hF_30_2, hF_30_3, hO_31, hF_31_0, hF_31_1, hR_31_2, hR_31_3, hR_31_4, hO_35, hR_35_0, hF_35_1, hR_35_2, hF_35_3, hR_35_4, hF_35_5, hF_35_6, hR_35_7, hF_35_8, hR_35_9, hR_35_10, hO_42, hO_45, hO_48, hR_48_0, hF_48_1, hF_48_2, hR_48_3, hR_48_4, hO_94, hR_94_0, hR_94_1, hO_97, hF_97_0, hF_97_1, hF_97_2, hF_97_3, hR_97_4, hR_97_5, hR_97_6, hR_97_7, hR_97_8, hR_97_9, hR_97_10, hR_97_11, hF_97_12, hO_156, hF_156_0, hR_156_1, hR_156_2, hR_156_3, hR_156_4, hR_156_5, hR_156_6, hR_156_7, hR_156_8, fd_p_eq, fd_p_ne, fd_p_lt, fd_p_ge, fd_p_gt, fd_p_le, fd_f_iadd, fd_f_isub, fd_f_imul, fd_f_iand, fd_f_ior, fd_f_ixor, fd_f_ishl, fd_f_ishr, fd_f_iushr, fd_f_ladd, fd_f_lsub, fd_f_lmul, fd_f_lcmp, fd_f_idiv, fd_f_irem, fd_f_ldiv, fd_f_lrem, fd_f_ineg, fd_f_i2l, fd_f_l2i, fd_f_i2b, fd_f_i2s, fd_f_i2c, fd_z_idiv, fd_z_irem, fd_z_ldiv, fd_z_lrem, fd_in0, fd_sl, fd_st1, fd_st2, fd_kl, fd_vI, fd_vL, fd_vN, fd_ok1, fd_v_int, xI, xL, xR, xK, xG, yI, yL, yN, -Prod.exists, hk, hv, b0, Int32.not_lt.mp b0, b00, Int32.not_le.mp b00, fd_run_of l1, b1, Int32.not_lt.mp b1, fd_run_of sp, fd_run_of t2, fd_run_of t3, b2, Int32.not_lt.mp b2, fd_run_of t4, fd_run_of lk, y48, fd_run_of q3, z1]
      exact hQ _ (u2 _) (by simp [rd_I])
end FL
