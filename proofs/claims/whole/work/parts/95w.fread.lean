/-! ===== the lines of feasts, one after another ===== -/
def f_p (ch : Nat → Int32) (l : Nat) : Nat → Nat
  | 0 => 0
  | k + 1 => f_3 ch l (f_p ch l k) + 2 + 1
def f_g (ch : Nat → Int32) (l v f k : Nat) : Prop := f + k < 8 ∧ f_ok ch l v (f_p ch l k) ∧ tsg ch l (f_3 ch l (f_p ch l k) + 2) 59
/-- how the reading ends behind n good lines: at z something can't stand, or all is told -/
def f_bad (ch : Nat → Int32) (l v f t n z : Nat) : Prop := (f + n = 8 ∧ z = f_p ch l n) ∨ (f + n < 8 ∧ f_no ch l v (f_p ch l n) z) ∨ (f + n < 8 ∧ f_ok ch l v (f_p ch l n) ∧ ¬ tsg ch l (f_3 ch l (f_p ch l n) + 2) 59 ∧ f_3 ch l (f_p ch l n) + 2 ≠ t ∧ z = f_3 ch l (f_p ch l n) + 2)
def f_good (ch : Nat → Int32) (l v f t n : Nat) : Prop := f + n < 8 ∧ f_ok ch l v (f_p ch l n) ∧ ¬ tsg ch l (f_3 ch l (f_p ch l n) + 2) 59 ∧ f_3 ch l (f_p ch l n) + 2 = t
section FR
variable {ch : Nat → Int32} {l v f t n : Nat}
theorem f_pl : ∀ k, (∀ i, i < k → f_g ch l v f i) → f_p ch l k ≤ l
  | 0, _ => Nat.zero_le _
  | k + 1, h => by
    obtain ⟨-, g1, g2⟩ := h k (by omega)
    have := g2.1
    show f_3 ch l (f_p ch l k) + 2 + 1 ≤ l
    omega
theorem f_ex (hf : f ≤ 8) : ∃ n, f + n ≤ 8 ∧ (∀ i, i < n → f_g ch l v f i) ∧ ((∃ z, f_bad ch l v f t n z) ∨ f_good ch l v f t n) := by
  obtain ⟨n, h1, h2, h3⟩ := lead (f_g ch l v f) 9
  have n8 : f + n ≤ 8 := by
    by_cases e : n = 0
    · omega
    · have := (h2 (n - 1) (by omega)).1
      omega
  have h3 := h3 (by omega)
  refine ⟨n, n8, h2, ?_⟩
  by_cases e : f + n = 8
  · exact Or.inl ⟨_, Or.inl ⟨e, rfl⟩⟩
  · rcases f_tot (ch := ch) (l := l) (v := v) (f_p ch l n) with ok | ⟨z, no⟩
    · have ns : ¬ tsg ch l (f_3 ch l (f_p ch l n) + 2) 59 := fun q => h3 ⟨by omega, ok, q⟩
      by_cases et : f_3 ch l (f_p ch l n) + 2 = t
      · exact Or.inr ⟨by omega, ok, ns, et⟩
      · exact Or.inl ⟨_, Or.inr (Or.inr ⟨by omega, ok, ns, et, rfl⟩)⟩
    · exact Or.inl ⟨z, Or.inr (Or.inl ⟨by omega, no⟩)⟩
theorem f_bad_le {z : Nat} (hn : ∀ i, i < n → f_g ch l v f i) (h : f_bad ch l v f t n z) : z ≤ l := by
  have := f_pl n hn
  rcases h with ⟨-, rfl⟩ | ⟨-, h⟩ | ⟨-, h, -, -, rfl⟩
  · exact this
  · exact f_no_le this h
  · exact (f_ok_le h).2
variable {M : fd_M}
def fr_P (f a j : Nat) : Prop := (a = 1 ∧ (j = 2 ∨ j = 3)) ∨ (a = 31 ∧ (j = 1 ∨ j = 0)) ∨ (((32 ≤ a ∧ a ≤ 34) ∨ a = 43 ∨ a = 44) ∧ f ≤ j)
/-- the class knows the first k lines -/
def f_kx (ch : Nat → Int32) (l f k : Nat) (M : fd_M) : Prop := ∀ i, i < k → M.1 32 (f + i) = nI (lv ch (f_p ch l i)) ∧ M.1 33 (f + i) = nI (f_B ch l (f_p ch l i)) ∧ M.1 34 (f + i) = nI (f_U ch l (f_p ch l i)) ∧ M.1 43 (f + i) = nI (f_X ch l (f_p ch l i)) ∧ M.1 44 (f + i) = nI (f_Y ch l (f_p ch l i))
theorem s_X1_readLine_8 (h : M.1 31 1 = nI 8) : m_X1_readLine [.ref 31, .ref 1, .ref 5, .ref 42] M = some (.int 0, M) := by
  apply fd_of_run
  have b1 : ¬ nI 8 < 0 := by decide
  have b2 : (8 : Int32) ≤ nI 8 := by decide
  unfold m_X1_readLine b_X1_readLine
  simp [↓wp_ldn, ↓wp_b1, ↓wp_b2, ↓wp_b2z, ↓wp_gf, ↓wp_gd, ↓wp_ga, ↓wp_gl, ↓wp_al2, ↓wp_pi, ↓wp_ltr, ↓wp_ite, ↓wp_and, ↓wp_or, ↓wp_not, ↓wp_cmp, ↓wp_cmz, ↓wp_isn, ↓wp_nsn, ↓wp_a0, ↓wp_a1, ↓wp_cv, ↓wp_cs, ↓wp_dr, ↓wp_sk, ↓wp_brk, ↓wp_cnt, ↓wp_rV, ↓wp_seq, ↓wp_iff, ↓wp_sI, ↓wp_sL, ↓wp_sN, ↓wp_inc, ↓wp_do, ↓wp_rI, ↓wp_rL, ↓wp_rN, ↓wp_rZ, ↓wp_pf, ↓wp_pz, ↓wp_pd, ↓wp_po, ↓wp_pl, ↓wp_pao, ↓wp_tsw, ↓wp_lsw, ↓wp_fn, ↓wq_ld, ↓wq_ldl, ↓wq_lda, ↓wq_c, ↓wq_gr, ↓wq_gq, ↓wq_nn, ↓wq_asI, ↓wq_asL, ↓wq_asN, ↓wq_pa, hO_0, hR_0_0, hR_0_1, hR_0_2, hR_0_3, hR_0_4, hR_0_5, hR_0_6, hR_0_7, hR_0_8, hR_0_9, hR_0_10, hR_0_11, hF_0_12, hO_1, hR_1_0, hF_1_1, hF_1_2, hF_1_3, hO_3, hR_3_0, hF_3_1, hO_5, hF_5_0, hF_5_1, hR_5_2, hR_5_3, hR_5_4, hR_5_5, hR_5_6, hR_5_7, hF_5_8, hF_5_9, hO_30, hF_30_0, hF_30_1, hF_30_2, hF_30_3, hO_31, hF_31_0, hF_31_1, hR_31_2, hR_31_3, hR_31_4, hO_35, hR_35_0, hF_35_1, hR_35_2, hF_35_3, hR_35_4, hF_35_5, hF_35_6, hR_35_7, hF_35_8, hR_35_9, hR_35_10, hO_42, hO_45, hO_48, hR_48_0, hF_48_1, hF_48_2, hR_48_3, hR_48_4, hO_94, hR_94_0, hR_94_1, hO_97, hF_97_0, hF_97_1, hF_97_2, hF_97_3, hR_97_4, hR_97_5, hR_97_6, hR_97_7, hR_97_8, hR_97_9, hR_97_10, hR_97_11, hF_97_12, hO_156, hF_156_0, hR_156_1, hR_156_2, hR_156_3, hR_156_4, hR_156_5, hR_156_6, hR_156_7, hR_156_8, fd_p_eq, fd_p_ne, fd_p_lt, fd_p_ge, fd_p_gt, fd_p_le, fd_f_iadd, fd_f_isub, fd_f_imul, fd_f_iand, fd_f_ior, fd_f_ixor, fd_f_ishl, fd_f_ishr, fd_f_iushr, fd_f_ladd, fd_f_lsub, fd_f_lmul, fd_f_lcmp, fd_f_idiv, fd_f_irem, fd_f_ldiv, fd_f_lrem, fd_f_ineg, fd_f_i2l, fd_f_l2i, fd_f_i2b, fd_f_i2s, fd_f_i2c, fd_z_idiv, fd_z_irem, fd_z_ldiv, fd_z_lrem, fd_in0, fd_sl, fd_st1, fd_st2, fd_kl, fd_vI, fd_vL, fd_vN, fd_ok1, fd_v_int, xI, xL, xR, xK, xG, yI, yL, yN, -Prod.exists, h, b1, b2]
theorem s_X1_read {z : Nat} {g : Bool} {w : Int32} (ht : M.1 1 1 = nI t) (h80 : t ≤ 80) (t1 : 1 ≤ t) (hX : ∀ i, i < t → M.1 2 i = ch i ∧ ∃ c, c < 256 ∧ ch i = nI c) (hl : l = min t 76) (hv : M.1 5 0 = nI v) (v9 : v ≤ 9) (hf : M.1 31 0 = nI f) (hn : ∀ i, i < n → f_g ch l v f i) (hz : (g = false ∧ f_bad ch l v f t n z ∧ w = -1 - nI z) ∨ (g = true ∧ f_good ch l v f t n ∧ w = nI (n + 1))) (n8 : f + n ≤ 8) {Q : Value → fd_M → Prop} (hQ : ∀ M2, fP (fr_P f) M M2 → (g = false → M2.1 31 0 = nI f) → (g = true → M2.1 31 0 = nI (f + n + 1) ∧ f_kx ch l f (n + 1) M2) → Q (.int w) M2) : fd_run m_X1_read [.ref 31, .ref 1, .ref 5, .ref 42] M Q := by
  have hb := s_X7_begin (M := fd_uI M 31 1 (nI f)) (t := t) (by simp [rd_I]; exact ht) h80 (m := 76) (by omega)
  rw [show nI 76 = (76 : Int32) from rfl] at hb
  unfold m_X1_read b_X1_read
  simp [↓wp_ldn, ↓wp_b1, ↓wp_b2, ↓wp_b2z, ↓wp_gf, ↓wp_gd, ↓wp_ga, ↓wp_gl, ↓wp_al2, ↓wp_pi, ↓wp_ltr, ↓wp_ite, ↓wp_and, ↓wp_or, ↓wp_not, ↓wp_cmp, ↓wp_cmz, ↓wp_isn, ↓wp_nsn, ↓wp_a0, ↓wp_a1, ↓wp_cv, ↓wp_cs, ↓wp_dr, ↓wp_sk, ↓wp_brk, ↓wp_cnt, ↓wp_rV, ↓wp_seq, ↓wp_iff, ↓wp_sI, ↓wp_sL, ↓wp_sN, ↓wp_inc, ↓wp_do, ↓wp_rI, ↓wp_rL, ↓wp_rN, ↓wp_rZ, ↓wp_pf, ↓wp_pz, ↓wp_pd, ↓wp_po, ↓wp_pl, ↓wp_pao, ↓wp_tsw, ↓wp_lsw, ↓wp_fn, ↓wq_ld, ↓wq_ldl, ↓wq_lda, ↓wq_c, ↓wq_gr, ↓wq_gq, ↓wq_nn, ↓wq_asI, ↓wq_asL, ↓wq_asN, ↓wq_pa, hO_0, hR_0_0, hR_0_1, hR_0_2, hR_0_3, hR_0_4, hR_0_5, hR_0_6, hR_0_7, hR_0_8, hR_0_9, hR_0_10, hR_0_11, hF_0_12, hO_1, hR_1_0, hF_1_1, hF_1_2, hF_1_3, hO_3, hR_3_0, hF_3_1, hO_5, hF_5_0, hF_5_1, hR_5_2, hR_5_3, hR_5_4, hR_5_5, hR_5_6, hR_5_7, hF_5_8, hF_5_9, hO_30, hF_30_0, hF_30_1, hF_30_2, hF_30_3, hO_31, hF_31_0, hF_31_1, hR_31_2, hR_31_3, hR_31_4, hO_35, hR_35_0, hF_35_1, hR_35_2, hF_35_3, hR_35_4, hF_35_5, hF_35_6, hR_35_7, hF_35_8, hR_35_9, hR_35_10, hO_42, hO_45, hO_48, hR_48_0, hF_48_1, hF_48_2, hR_48_3, hR_48_4, hO_94, hR_94_0, hR_94_1, hO_97, hF_97_0, hF_97_1, hF_97_2, hF_97_3, hR_97_4, hR_97_5, hR_97_6, hR_97_7, hR_97_8, hR_97_9, hR_97_10, hR_97_11, hF_97_12, hO_156, hF_156_0, hR_156_1, hR_156_2, hR_156_3, hR_156_4, hR_156_5, hR_156_6, hR_156_7, hR_156_8, fd_p_eq, fd_p_ne, fd_p_lt, fd_p_ge, fd_p_gt, fd_p_le, fd_f_iadd, fd_f_isub, fd_f_imul, fd_f_iand, fd_f_ior, fd_f_ixor, fd_f_ishl, fd_f_ishr, fd_f_iushr, fd_f_ladd, fd_f_lsub, fd_f_lmul, fd_f_lcmp, fd_f_idiv, fd_f_irem, fd_f_ldiv, fd_f_lrem, fd_f_ineg, fd_f_i2l, fd_f_l2i, fd_f_i2b, fd_f_i2s, fd_f_i2c, fd_z_idiv, fd_z_irem, fd_z_ldiv, fd_z_lrem, fd_in0, fd_sl, fd_st1, fd_st2, fd_kl, fd_vI, fd_vL, fd_vN, fd_ok1, fd_v_int, xI, xL, xR, xK, xG, yI, yL, yN, -Prod.exists, hf, fd_run_of hb]
  generalize hMa : fd_uI (fd_uI (fd_uI M 31 1 (nI f)) 1 2 0) 1 3 (nI (min t 76)) = Ma
  have fMa : fP (fr_P f) M Ma := by
    rw [← hMa]
    exact fP.uI (fP.uI (fP.uI fP.rf (by unfold fr_P; omega)) (by unfold fr_P; omega)) (by unfold fr_P; omega)
  have cpa : cp t l ch Ma := by
    rw [← hMa]
    exact ⟨by simp [rd_I, ht], by simp [rd_I, hl], by omega, h80, fun i hi => ⟨by simp [rd_I]; exact (hX i (by omega)).1, (hX i (by omega)).2⟩⟩
  have pa : Ma.1 1 2 = nI 0 := by rw [← hMa]; simp [rd_I, nI_0]
  have ka : Ma.1 31 1 = nI f := by rw [← hMa]; simp [rd_I]
  have va : Ma.1 5 0 = nI v := by rw [← hMa]; simp [rd_I]; exact hv
  have fa : Ma.1 31 0 = nI f := by rw [← hMa]; simp [rd_I]; exact hf
  clear hMa
  obtain ⟨P2, hP2⟩ : ∃ P2 : Nat → Nat → Prop, P2 = fun a j => (a = 1 ∧ j = 2) ∨ (a = 31 ∧ j = 1) ∨ (((32 ≤ a ∧ a ≤ 34) ∨ a = 43 ∨ a = 44) ∧ f ≤ j) := ⟨_, rfl⟩
  have fM : ∀ {M2}, fP P2 Ma M2 → fP (fr_P f) M M2 := fun q => fMa.tr (q.up (fun a j z => by rw [hP2] at z; unfold fr_P; omega))
  have cM : ∀ {M2}, fP P2 Ma M2 → cp t l ch M2 := fun q => cpa.cg q (by rw [hP2]; omega) (by rw [hP2]; omega) (fun i => by rw [hP2]; omega)
  obtain ⟨J, hJ⟩ : ∃ J : Nat → fd_S → Prop, J = fun k σ => k ≤ n ∧ ∃ M1 : fd_M, σ = ([.ref 31, .ref 1, .ref 5, .ref 42, .int (nI (k + 1))], M1) ∧ fP P2 Ma M1 ∧ M1.1 1 2 = nI (f_p ch l k) ∧ M1.1 31 1 = nI (f + k) ∧ f_kx ch l f k M1 := ⟨_, rfl⟩
  refine wp_for (n + 1) J (fd_fu_lt (by omega)) (Nat.zero_le _) (by rw [hJ]; exact ⟨Nat.zero_le _, Ma, rfl, fP.rf, pa, ka, fun i hi => absurd hi (Nat.not_lt_zero i)⟩) (fun k σ hk hs => ?_) (fun σ hs => ?_)
  · rw [hJ] at hs
    obtain ⟨-, M1, rfl, f1, p1, k1, r1⟩ := hs
    have c76 : nI (k + 1) ≤ 76 := nI_le (b := 76) (by omega) (by decide)
    have cp1 := cM f1
    have hpk := f_pl k (fun i hi => hn i (by omega))
    have v1 : M1.1 5 0 = nI v := by rw [f1.1 _ _ (by rw [hP2]; omega)]; exact va
    have f01 : ∀ {M2}, fP P2 Ma M2 → M2.1 31 0 = nI f := fun q => by rw [q.1 _ _ (by rw [hP2]; omega)]; exact fa
    have bad : ∀ M2, fP P2 Ma M2 → g = false → Q (.int w) M2 := fun M2 q e => hQ M2 (fM q) (fun _ => f01 q) (fun e2 => by rw [e] at e2; cases e2)
    -- a good line
    have line : f + k < 8 → f_ok ch l v (f_p ch l k) → fd_run m_X1_readLine [.ref 31, .ref 1, .ref 5, .ref 42] M1 (fun v M2 => v = .int 1 ∧ fP P2 Ma M2 ∧ M2.1 1 2 = nI (f_3 ch l (f_p ch l k) + 2) ∧ M2.1 31 1 = nI (f + k + 1) ∧ f_kx ch l f (k + 1) M2) := fun h8 ok => by
      refine s_X1_readLine_t cp1 p1 k1 h8 v1 v9 ok (fun M2 q0 q1 q2 q3 q4 q5 q6 q7 => ⟨rfl, f1.tr (q0.up (fun a j z => by rw [hP2]; unfold fx_P at z; omega)), q1, q2, fun i hi => ?_⟩)
      by_cases e : i = k
      · subst e; exact ⟨q3, q4, q5, q6, q7⟩
      · obtain ⟨y1, y2, y3, y4, y5⟩ := r1 i (by omega)
        rw [q0.1 _ _ (by unfold fx_P; omega), q0.1 _ _ (by unfold fx_P; omega), q0.1 _ _ (by unfold fx_P; omega), q0.1 _ _ (by unfold fx_P; omega), q0.1 _ _ (by unfold fx_P; omega)]
        exact ⟨y1, y2, y3, y4, y5⟩
    simp [↓wp_ldn, ↓wp_b1, ↓wp_b2, ↓wp_b2z, ↓wp_gf, ↓wp_gd, ↓wp_ga, ↓wp_gl, ↓wp_al2, ↓wp_pi, ↓wp_ltr, ↓wp_ite, ↓wp_and, ↓wp_or, ↓wp_not, ↓wp_cmp, ↓wp_cmz, ↓wp_isn, ↓wp_nsn, ↓wp_a0, ↓wp_a1, ↓wp_cv, ↓wp_cs, ↓wp_dr, ↓wp_sk, ↓wp_brk, ↓wp_cnt, ↓wp_rV, ↓wp_seq, ↓wp_iff, ↓wp_sI, ↓wp_sL, ↓wp_sN, ↓wp_inc, ↓wp_do, ↓wp_rI, ↓wp_rL, ↓wp_rN, ↓wp_rZ, ↓wp_pf, ↓wp_pz, ↓wp_pd, ↓wp_po, ↓wp_pl, ↓wp_pao, ↓wp_tsw, ↓wp_lsw, ↓wp_fn, ↓wq_ld, ↓wq_ldl, ↓wq_lda, ↓wq_c, ↓wq_gr, ↓wq_gq, ↓wq_nn, ↓wq_asI, ↓wq_asL, ↓wq_asN, ↓wq_pa, hO_0, hR_0_0, hR_0_1, hR_0_2, hR_0_3, hR_0_4, hR_0_5, hR_0_6, hR_0_7, hR_0_8, hR_0_9, hR_0_10, hR_0_11, hF_0_12, hO_1, hR_1_0, hF_1_1, hF_1_2, hF_1_3, hO_3, hR_3_0, hF_3_1, hO_5, hF_5_0, hF_5_1, hR_5_2, hR_5_3, hR_5_4, hR_5_5, hR_5_6, hR_5_7, hF_5_8, hF_5_9, hO_30, hF_30_0, hF_30_1, hF_30_2, hF_30_3, hO_31, hF_31_0, hF_31_1, hR_31_2, hR_31_3, hR_31_4, hO_35, hR_35_0, hF_35_1, hR_35_2, hF_35_3, hR_35_4, hF_35_5, hF_35_6, hR_35_7, hF_35_8, hR_35_9, hR_35_10, hO_42, hO_45, hO_48, hR_48_0, hF_48_1, hF_48_2, hR_48_3, hR_48_4, hO_94, hR_94_0, hR_94_1, hO_97, hF_97_0, hF_97_1, hF_97_2, hF_97_3, hR_97_4, hR_97_5, hR_97_6, hR_97_7, hR_97_8, hR_97_9, hR_97_10, hR_97_11, hF_97_12, hO_156, hF_156_0, hR_156_1, hR_156_2, hR_156_3, hR_156_4, hR_156_5, hR_156_6, hR_156_7, hR_156_8, fd_p_eq, fd_p_ne, fd_p_lt, fd_p_ge, fd_p_gt, fd_p_le, fd_f_iadd, fd_f_isub, fd_f_imul, fd_f_iand, fd_f_ior, fd_f_ixor, fd_f_ishl, fd_f_ishr, fd_f_iushr, fd_f_ladd, fd_f_lsub, fd_f_lmul, fd_f_lcmp, fd_f_idiv, fd_f_irem, fd_f_ldiv, fd_f_lrem, fd_f_ineg, fd_f_i2l, fd_f_l2i, fd_f_i2b, fd_f_i2s, fd_f_i2c, fd_z_idiv, fd_z_irem, fd_z_ldiv, fd_z_lrem, fd_in0, fd_sl, fd_st1, fd_st2, fd_kl, fd_vI, fd_vL, fd_vN, fd_ok1, fd_v_int, xI, xL, xR, xK, xG, yI, yL, yN, -Prod.exists, c76]
    by_cases kn : k < n
    · obtain ⟨g1, g2, g3⟩ := hn k kn
      refine fd_run_mono (line g1 g2) (fun _ M2 hp => ?_)
      obtain ⟨rfl, q0, q1, q2, q3⟩ := hp
      have tk := xt_sg (cM q0) q1 g3
      simp [↓wp_ldn, ↓wp_b1, ↓wp_b2, ↓wp_b2z, ↓wp_gf, ↓wp_gd, ↓wp_ga, ↓wp_gl, ↓wp_al2, ↓wp_pi, ↓wp_ltr, ↓wp_ite, ↓wp_and, ↓wp_or, ↓wp_not, ↓wp_cmp, ↓wp_cmz, ↓wp_isn, ↓wp_nsn, ↓wp_a0, ↓wp_a1, ↓wp_cv, ↓wp_cs, ↓wp_dr, ↓wp_sk, ↓wp_brk, ↓wp_cnt, ↓wp_rV, ↓wp_seq, ↓wp_iff, ↓wp_sI, ↓wp_sL, ↓wp_sN, ↓wp_inc, ↓wp_do, ↓wp_rI, ↓wp_rL, ↓wp_rN, ↓wp_rZ, ↓wp_pf, ↓wp_pz, ↓wp_pd, ↓wp_po, ↓wp_pl, ↓wp_pao, ↓wp_tsw, ↓wp_lsw, ↓wp_fn, ↓wq_ld, ↓wq_ldl, ↓wq_lda, ↓wq_c, ↓wq_gr, ↓wq_gq, ↓wq_nn, ↓wq_asI, ↓wq_asL, ↓wq_asN, ↓wq_pa, hO_0, hR_0_0, hR_0_1, hR_0_2, hR_0_3, hR_0_4, hR_0_5, hR_0_6, hR_0_7, hR_0_8, hR_0_9, hR_0_10, hR_0_11, hF_0_12, hO_1, hR_1_0, hF_1_1, hF_1_2, hF_1_3, hO_3, hR_3_0, hF_3_1, hO_5, hF_5_0, hF_5_1, hR_5_2, hR_5_3, hR_5_4, hR_5_5, hR_5_6, hR_5_7, hF_5_8, hF_5_9, hO_30, hF_30_0, hF_30_1, hF_30_2, hF_30_3, hO_31, hF_31_0, hF_31_1, hR_31_2, hR_31_3, hR_31_4, hO_35, hR_35_0, hF_35_1, hR_35_2, hF_35_3, hR_35_4, hF_35_5, hF_35_6, hR_35_7, hF_35_8, hR_35_9, hR_35_10, hO_42, hO_45, hO_48, hR_48_0, hF_48_1, hF_48_2, hR_48_3, hR_48_4, hO_94, hR_94_0, hR_94_1, hO_97, hF_97_0, hF_97_1, hF_97_2, hF_97_3, hR_97_4, hR_97_5, hR_97_6, hR_97_7, hR_97_8, hR_97_9, hR_97_10, hR_97_11, hF_97_12, hO_156, hF_156_0, hR_156_1, hR_156_2, hR_156_3, hR_156_4, hR_156_5, hR_156_6, hR_156_7, hR_156_8, fd_p_eq, fd_p_ne, fd_p_lt, fd_p_ge, fd_p_gt, fd_p_le, fd_f_iadd, fd_f_isub, fd_f_imul, fd_f_iand, fd_f_ior, fd_f_ixor, fd_f_ishl, fd_f_ishr, fd_f_iushr, fd_f_ladd, fd_f_lsub, fd_f_lmul, fd_f_lcmp, fd_f_idiv, fd_f_irem, fd_f_ldiv, fd_f_lrem, fd_f_ineg, fd_f_i2l, fd_f_l2i, fd_f_i2b, fd_f_i2s, fd_f_i2c, fd_z_idiv, fd_z_irem, fd_z_ldiv, fd_z_lrem, fd_in0, fd_sl, fd_st1, fd_st2, fd_kl, fd_vI, fd_vL, fd_vN, fd_ok1, fd_v_int, xI, xL, xR, xK, xG, yI, yL, yN, -Prod.exists, fd_run_of tk, nI_1]
      rw [hJ]
      refine ⟨by omega, _, rfl, fP.uI q0 (by rw [hP2]; omega), by simp [rd_I]; rfl, by simp [rd_I]; exact q2, fun i hi => ?_⟩
      simp [rd_I]
      exact q3 i hi
    · have ekn : k = n := by omega
      subst ekn
      rcases hz with ⟨hg, hb, rfl⟩ | ⟨hg, ⟨h8, ok, ns, et⟩, rfl⟩
      · rcases hb with ⟨e8, rfl⟩ | ⟨h8, no⟩ | ⟨h8, ok, ns, et, rfl⟩
        · rw [e8] at k1
          simp [↓wp_ldn, ↓wp_b1, ↓wp_b2, ↓wp_b2z, ↓wp_gf, ↓wp_gd, ↓wp_ga, ↓wp_gl, ↓wp_al2, ↓wp_pi, ↓wp_ltr, ↓wp_ite, ↓wp_and, ↓wp_or, ↓wp_not, ↓wp_cmp, ↓wp_cmz, ↓wp_isn, ↓wp_nsn, ↓wp_a0, ↓wp_a1, ↓wp_cv, ↓wp_cs, ↓wp_dr, ↓wp_sk, ↓wp_brk, ↓wp_cnt, ↓wp_rV, ↓wp_seq, ↓wp_iff, ↓wp_sI, ↓wp_sL, ↓wp_sN, ↓wp_inc, ↓wp_do, ↓wp_rI, ↓wp_rL, ↓wp_rN, ↓wp_rZ, ↓wp_pf, ↓wp_pz, ↓wp_pd, ↓wp_po, ↓wp_pl, ↓wp_pao, ↓wp_tsw, ↓wp_lsw, ↓wp_fn, ↓wq_ld, ↓wq_ldl, ↓wq_lda, ↓wq_c, ↓wq_gr, ↓wq_gq, ↓wq_nn, ↓wq_asI, ↓wq_asL, ↓wq_asN, ↓wq_pa, hO_0, hR_0_0, hR_0_1, hR_0_2, hR_0_3, hR_0_4, hR_0_5, hR_0_6, hR_0_7, hR_0_8, hR_0_9, hR_0_10, hR_0_11, hF_0_12, hO_1, hR_1_0, hF_1_1, hF_1_2, hF_1_3, hO_3, hR_3_0, hF_3_1, hO_5, hF_5_0, hF_5_1, hR_5_2, hR_5_3, hR_5_4, hR_5_5, hR_5_6, hR_5_7, hF_5_8, hF_5_9, hO_30, hF_30_0, hF_30_1, hF_30_2, hF_30_3, hO_31, hF_31_0, hF_31_1, hR_31_2, hR_31_3, hR_31_4, hO_35, hR_35_0, hF_35_1, hR_35_2, hF_35_3, hR_35_4, hF_35_5, hF_35_6, hR_35_7, hF_35_8, hR_35_9, hR_35_10, hO_42, hO_45, hO_48, hR_48_0, hF_48_1, hF_48_2, hR_48_3, hR_48_4, hO_94, hR_94_0, hR_94_1, hO_97, hF_97_0, hF_97_1, hF_97_2, hF_97_3, hR_97_4, hR_97_5, hR_97_6, hR_97_7, hR_97_8, hR_97_9, hR_97_10, hR_97_11, hF_97_12, hO_156, hF_156_0, hR_156_1, hR_156_2, hR_156_3, hR_156_4, hR_156_5, hR_156_6, hR_156_7, hR_156_8, fd_p_eq, fd_p_ne, fd_p_lt, fd_p_ge, fd_p_gt, fd_p_le, fd_f_iadd, fd_f_isub, fd_f_imul, fd_f_iand, fd_f_ior, fd_f_ixor, fd_f_ishl, fd_f_ishr, fd_f_iushr, fd_f_ladd, fd_f_lsub, fd_f_lmul, fd_f_lcmp, fd_f_idiv, fd_f_irem, fd_f_ldiv, fd_f_lrem, fd_f_ineg, fd_f_i2l, fd_f_l2i, fd_f_i2b, fd_f_i2s, fd_f_i2c, fd_z_idiv, fd_z_irem, fd_z_ldiv, fd_z_lrem, fd_in0, fd_sl, fd_st1, fd_st2, fd_kl, fd_vI, fd_vL, fd_vN, fd_ok1, fd_v_int, xI, xL, xR, xK, xG, yI, yL, yN, -Prod.exists, fd_run_of (s_X1_readLine_8 k1), fd_run_of (s_X7_refusal p1)]
          exact bad M1 f1 hg
        · refine s_X1_readLine_f cp1 p1 hpk k1 h8 v1 v9 no (fun M2 q0 q1 => ?_)
          have f2 : fP P2 Ma M2 := f1.tr (q0.up (fun a j z => by rw [hP2]; unfold fx_P at z; omega))
          simp [↓wp_ldn, ↓wp_b1, ↓wp_b2, ↓wp_b2z, ↓wp_gf, ↓wp_gd, ↓wp_ga, ↓wp_gl, ↓wp_al2, ↓wp_pi, ↓wp_ltr, ↓wp_ite, ↓wp_and, ↓wp_or, ↓wp_not, ↓wp_cmp, ↓wp_cmz, ↓wp_isn, ↓wp_nsn, ↓wp_a0, ↓wp_a1, ↓wp_cv, ↓wp_cs, ↓wp_dr, ↓wp_sk, ↓wp_brk, ↓wp_cnt, ↓wp_rV, ↓wp_seq, ↓wp_iff, ↓wp_sI, ↓wp_sL, ↓wp_sN, ↓wp_inc, ↓wp_do, ↓wp_rI, ↓wp_rL, ↓wp_rN, ↓wp_rZ, ↓wp_pf, ↓wp_pz, ↓wp_pd, ↓wp_po, ↓wp_pl, ↓wp_pao, ↓wp_tsw, ↓wp_lsw, ↓wp_fn, ↓wq_ld, ↓wq_ldl, ↓wq_lda, ↓wq_c, ↓wq_gr, ↓wq_gq, ↓wq_nn, ↓wq_asI, ↓wq_asL, ↓wq_asN, ↓wq_pa, hO_0, hR_0_0, hR_0_1, hR_0_2, hR_0_3, hR_0_4, hR_0_5, hR_0_6, hR_0_7, hR_0_8, hR_0_9, hR_0_10, hR_0_11, hF_0_12, hO_1, hR_1_0, hF_1_1, hF_1_2, hF_1_3, hO_3, hR_3_0, hF_3_1, hO_5, hF_5_0, hF_5_1, hR_5_2, hR_5_3, hR_5_4, hR_5_5, hR_5_6, hR_5_7, hF_5_8, hF_5_9, hO_30, hF_30_0, hF_30_1, hF_30_2, hF_30_3, hO_31, hF_31_0, hF_31_1, hR_31_2, hR_31_3, hR_31_4, hO_35, hR_35_0, hF_35_1, hR_35_2, hF_35_3, hR_35_4, hF_35_5, hF_35_6, hR_35_7, hF_35_8, hR_35_9, hR_35_10, hO_42, hO_45, hO_48, hR_48_0, hF_48_1, hF_48_2, hR_48_3, hR_48_4, hO_94, hR_94_0, hR_94_1, hO_97, hF_97_0, hF_97_1, hF_97_2, hF_97_3, hR_97_4, hR_97_5, hR_97_6, hR_97_7, hR_97_8, hR_97_9, hR_97_10, hR_97_11, hF_97_12, hO_156, hF_156_0, hR_156_1, hR_156_2, hR_156_3, hR_156_4, hR_156_5, hR_156_6, hR_156_7, hR_156_8, fd_p_eq, fd_p_ne, fd_p_lt, fd_p_ge, fd_p_gt, fd_p_le, fd_f_iadd, fd_f_isub, fd_f_imul, fd_f_iand, fd_f_ior, fd_f_ixor, fd_f_ishl, fd_f_ishr, fd_f_iushr, fd_f_ladd, fd_f_lsub, fd_f_lmul, fd_f_lcmp, fd_f_idiv, fd_f_irem, fd_f_ldiv, fd_f_lrem, fd_f_ineg, fd_f_i2l, fd_f_l2i, fd_f_i2b, fd_f_i2s, fd_f_i2c, fd_z_idiv, fd_z_irem, fd_z_ldiv, fd_z_lrem, fd_in0, fd_sl, fd_st1, fd_st2, fd_kl, fd_vI, fd_vL, fd_vN, fd_ok1, fd_v_int, xI, xL, xR, xK, xG, yI, yL, yN, -Prod.exists, fd_run_of (s_X7_refusal q1)]
          exact bad M2 f2 hg
        · refine fd_run_mono (line h8 ok) (fun _ M2 hp => ?_)
          obtain ⟨rfl, q0, q1, q2, q3⟩ := hp
          have le := (f_ok_le ok).2
          have tk := xt_sgf (cM q0) q1 (by omega) (by decide) ns
          have wh := s_X7_isWhole (cM q0).1 q1 (by omega) (by omega)
          rw [if_neg et] at wh
          simp [↓wp_ldn, ↓wp_b1, ↓wp_b2, ↓wp_b2z, ↓wp_gf, ↓wp_gd, ↓wp_ga, ↓wp_gl, ↓wp_al2, ↓wp_pi, ↓wp_ltr, ↓wp_ite, ↓wp_and, ↓wp_or, ↓wp_not, ↓wp_cmp, ↓wp_cmz, ↓wp_isn, ↓wp_nsn, ↓wp_a0, ↓wp_a1, ↓wp_cv, ↓wp_cs, ↓wp_dr, ↓wp_sk, ↓wp_brk, ↓wp_cnt, ↓wp_rV, ↓wp_seq, ↓wp_iff, ↓wp_sI, ↓wp_sL, ↓wp_sN, ↓wp_inc, ↓wp_do, ↓wp_rI, ↓wp_rL, ↓wp_rN, ↓wp_rZ, ↓wp_pf, ↓wp_pz, ↓wp_pd, ↓wp_po, ↓wp_pl, ↓wp_pao, ↓wp_tsw, ↓wp_lsw, ↓wp_fn, ↓wq_ld, ↓wq_ldl, ↓wq_lda, ↓wq_c, ↓wq_gr, ↓wq_gq, ↓wq_nn, ↓wq_asI, ↓wq_asL, ↓wq_asN, ↓wq_pa, hO_0, hR_0_0, hR_0_1, hR_0_2, hR_0_3, hR_0_4, hR_0_5, hR_0_6, hR_0_7, hR_0_8, hR_0_9, hR_0_10, hR_0_11, hF_0_12, hO_1, hR_1_0, hF_1_1, hF_1_2, hF_1_3, hO_3, hR_3_0, hF_3_1, hO_5, hF_5_0, hF_5_1, hR_5_2, hR_5_3, hR_5_4, hR_5_5, hR_5_6, hR_5_7, hF_5_8, hF_5_9, hO_30, hF_30_0, hF_30_1, hF_30_2, hF_30_3, hO_31, hF_31_0, hF_31_1, hR_31_2, hR_31_3, hR_31_4, hO_35, hR_35_0, hF_35_1, hR_35_2, hF_35_3, hR_35_4, hF_35_5, hF_35_6, hR_35_7, hF_35_8, hR_35_9, hR_35_10, hO_42, hO_45, hO_48, hR_48_0, hF_48_1, hF_48_2, hR_48_3, hR_48_4, hO_94, hR_94_0, hR_94_1, hO_97, hF_97_0, hF_97_1, hF_97_2, hF_97_3, hR_97_4, hR_97_5, hR_97_6, hR_97_7, hR_97_8, hR_97_9, hR_97_10, hR_97_11, hF_97_12, hO_156, hF_156_0, hR_156_1, hR_156_2, hR_156_3, hR_156_4, hR_156_5, hR_156_6, hR_156_7, hR_156_8, fd_p_eq, fd_p_ne, fd_p_lt, fd_p_ge, fd_p_gt, fd_p_le, fd_f_iadd, fd_f_isub, fd_f_imul, fd_f_iand, fd_f_ior, fd_f_ixor, fd_f_ishl, fd_f_ishr, fd_f_iushr, fd_f_ladd, fd_f_lsub, fd_f_lmul, fd_f_lcmp, fd_f_idiv, fd_f_irem, fd_f_ldiv, fd_f_lrem, fd_f_ineg, fd_f_i2l, fd_f_l2i, fd_f_i2b, fd_f_i2s, fd_f_i2c, fd_z_idiv, fd_z_irem, fd_z_ldiv, fd_z_lrem, fd_in0, fd_sl, fd_st1, fd_st2, fd_kl, fd_vI, fd_vL, fd_vN, fd_ok1, fd_v_int, xI, xL, xR, xK, xG, yI, yL, yN, -Prod.exists, fd_run_of tk, fd_run_of wh, fd_run_of (s_X7_refusal q1)]
          exact bad M2 q0 hg
      · refine fd_run_mono (line h8 ok) (fun _ M2 hp => ?_)
        obtain ⟨rfl, q0, q1, q2, q3⟩ := hp
        have le := (f_ok_le ok).2
        have tk := xt_sgf (cM q0) q1 (by omega) (by decide) ns
        have wh := s_X7_isWhole (cM q0).1 q1 (by omega) (by omega)
        rw [if_pos et] at wh
        simp [↓wp_ldn, ↓wp_b1, ↓wp_b2, ↓wp_b2z, ↓wp_gf, ↓wp_gd, ↓wp_ga, ↓wp_gl, ↓wp_al2, ↓wp_pi, ↓wp_ltr, ↓wp_ite, ↓wp_and, ↓wp_or, ↓wp_not, ↓wp_cmp, ↓wp_cmz, ↓wp_isn, ↓wp_nsn, ↓wp_a0, ↓wp_a1, ↓wp_cv, ↓wp_cs, ↓wp_dr, ↓wp_sk, ↓wp_brk, ↓wp_cnt, ↓wp_rV, ↓wp_seq, ↓wp_iff, ↓wp_sI, ↓wp_sL, ↓wp_sN, ↓wp_inc, ↓wp_do, ↓wp_rI, ↓wp_rL, ↓wp_rN, ↓wp_rZ, ↓wp_pf, ↓wp_pz, ↓wp_pd, ↓wp_po, ↓wp_pl, ↓wp_pao, ↓wp_tsw, ↓wp_lsw, ↓wp_fn, ↓wq_ld, ↓wq_ldl, ↓wq_lda, ↓wq_c, ↓wq_gr, ↓wq_gq, ↓wq_nn, ↓wq_asI, ↓wq_asL, ↓wq_asN, ↓wq_pa, hO_0, hR_0_0, hR_0_1, hR_0_2, hR_0_3, hR_0_4, hR_0_5, hR_0_6, hR_0_7, hR_0_8, hR_0_9, hR_0_10, hR_0_11, hF_0_12, hO_1, hR_1_0, hF_1_1, hF_1_2, hF_1_3, hO_3, hR_3_0, hF_3_1, hO_5, hF_5_0, hF_5_1, hR_5_2, hR_5_3, hR_5_4, hR_5_5, hR_5_6, hR_5_7, hF_5_8, hF_5_9, hO_30, hF_30_0, hF_30_1, hF_30_2, hF_30_3, hO_31, hF_31_0, hF_31_1, hR_31_2, hR_31_3, hR_31_4, hO_35, hR_35_0, hF_35_1, hR_35_2, hF_35_3, hR_35_4, hF_35_5, hF_35_6, hR_35_7, hF_35_8, hR_35_9, hR_35_10, hO_42, hO_45, hO_48, hR_48_0, hF_48_1, hF_48_2, hR_48_3, hR_48_4, hO_94, hR_94_0, hR_94_1, hO_97, hF_97_0, hF_97_1, hF_97_2, hF_97_3, hR_97_4, hR_97_5, hR_97_6, hR_97_7, hR_97_8, hR_97_9, hR_97_10, hR_97_11, hF_97_12, hO_156, hF_156_0, hR_156_1, hR_156_2, hR_156_3, hR_156_4, hR_156_5, hR_156_6, hR_156_7, hR_156_8, fd_p_eq, fd_p_ne, fd_p_lt, fd_p_ge, fd_p_gt, fd_p_le, fd_f_iadd, fd_f_isub, fd_f_imul, fd_f_iand, fd_f_ior, fd_f_ixor, fd_f_ishl, fd_f_ishr, fd_f_iushr, fd_f_ladd, fd_f_lsub, fd_f_lmul, fd_f_lcmp, fd_f_idiv, fd_f_irem, fd_f_ldiv, fd_f_lrem, fd_f_ineg, fd_f_i2l, fd_f_l2i, fd_f_i2b, fd_f_i2s, fd_f_i2c, fd_z_idiv, fd_z_irem, fd_z_ldiv, fd_z_lrem, fd_in0, fd_sl, fd_st1, fd_st2, fd_kl, fd_vI, fd_vL, fd_vN, fd_ok1, fd_v_int, xI, xL, xR, xK, xG, yI, yL, yN, -Prod.exists, fd_run_of tk, fd_run_of wh, m_X1_settle, b_X1_settle, q2]
        refine hQ _ (fP.uI (fM q0) (by unfold fr_P; omega)) (fun e2 => by rw [hg] at e2; cases e2) (fun _ => ⟨by simp [rd_I], fun i hi => ?_⟩)
        simp [rd_I]
        exact q3 i hi
  · rw [hJ] at hs
    exact absurd hs.1 (by omega)
end FR
