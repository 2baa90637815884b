/-! ===== ACTS: what stands at a place ===== -/
def ac_n (ch : Nat → Int32) (l p : Nat) : Nat := if ch p = 103 then (ch (p + 1) - 97).toNatClampNeg else if ch p = 122 then (ru_num ch l 2 (p + 1) 0).1.toNatClampNeg else 0
def ac_e (ch : Nat → Int32) (l p : Nat) : Nat := if ch p = 103 then p + 2 else if ch p = 122 then (ru_num ch l 2 (p + 1) 0).2 else p + 1
def ac_ok (ch : Nat → Int32) (l p : Nat) : Prop := p < l ∧ ((ch p = 103 ∧ p + 1 < l ∧ ∃ c, ch (p + 1) = nI c ∧ 97 ≤ c ∧ c < 106) ∨ (ch p = 122 ∧ p + 1 < l ∧ ru_dig (ch (p + 1)) = true) ∨ ch p = 109)
def ac_f (ch : Nat → Int32) (l p : Nat) : Nat := if p < l ∧ (ch p = 103 ∨ ch p = 122) then p + 1 else p
def ac_p (ch : Nat → Int32) (l : Nat) : Nat → Nat
  | 0 => 0
  | k + 1 => ac_e ch l (ac_p ch l k) + 1
/-- an act and behind it one more -/
def ac_g (ch : Nat → Int32) (l k : Nat) : Prop := ac_ok ch l (ac_p ch l k) ∧ ac_e ch l (ac_p ch l k) < l ∧ ch (ac_e ch l (ac_p ch l k)) = 59
section AC
variable {ch : Nat → Int32} {l p : Nat}
theorem ac_num (hch : ∀ i, i < l → ∃ c, c < 256 ∧ ch i = nI c) (q : Nat) : ∃ m, (ru_num ch l 2 q 0).1 = nI m ∧ m ≤ 99 := by
  obtain ⟨m, h1, h2⟩ := ru_num_b hch 2 q 0 (by decide)
  exact ⟨m, by rw [← h1]; rfl, by omega⟩
theorem ac_s1 (ok : ac_ok ch l p) : p < ac_e ch l p ∧ ac_e ch l p ≤ l := by
  unfold ac_e
  obtain ⟨h1, ⟨h2, h3, -⟩ | ⟨h2, h3, -⟩ | h2⟩ := ok
  · rw [if_pos h2]; omega
  · have z : ¬ (122 : Int32) = 103 := by decide
    rw [h2, if_neg z, if_pos rfl]
    have := ru_num_gt ch l 2 (p + 1) 0
    have := ru_num_le ch l 2 (p + 1) 0 (by omega)
    omega
  · have z : ¬ (109 : Int32) = 103 := by decide
    have z2 : ¬ (109 : Int32) = 122 := by decide
    rw [h2, if_neg z, if_neg z2]
    omega
theorem ac_s2 (hch : ∀ i, i < l → ∃ c, c < 256 ∧ ch i = nI c) (ok : ac_ok ch l p) : (ch p = 103 ∧ ac_n ch l p < 9) ∨ (ch p = 122 ∧ ac_n ch l p ≤ 99) ∨ (ch p = 109 ∧ ac_n ch l p = 0) := by
  unfold ac_n
  obtain ⟨h1, ⟨h2, h3, c, c1, c2, c3⟩ | ⟨h2, h3, -⟩ | h2⟩ := ok
  · rw [if_pos h2, c1, show (97 : Int32) = nI 97 from rfl, nI_sub c2, nI_clamp (by omega)]
    exact Or.inl ⟨h2, by omega⟩
  · have z : ¬ (122 : Int32) = 103 := by decide
    obtain ⟨m, m1, m2⟩ := ac_num hch (p + 1)
    rw [h2, if_neg z, if_pos rfl, m1, nI_clamp (by omega)]
    exact Or.inr (Or.inl ⟨rfl, m2⟩)
  · have z : ¬ (109 : Int32) = 103 := by decide
    have z2 : ¬ (109 : Int32) = 122 := by decide
    rw [h2, if_neg z, if_neg z2]
    exact Or.inr (Or.inr ⟨rfl, rfl⟩)
theorem ac_pl : ∀ k, (∀ i, i < k → ac_g ch l i) → 2 * k ≤ ac_p ch l k ∧ ac_p ch l k ≤ l
  | 0, _ => ⟨Nat.zero_le _, Nat.zero_le _⟩
  | k + 1, h => by
    obtain ⟨h1, h2⟩ := ac_pl k (fun i hi => h i (by omega))
    obtain ⟨g1, g2, -⟩ := h k (by omega)
    have := ac_s1 g1
    show 2 * (k + 1) ≤ ac_e ch l (ac_p ch l k) + 1 ∧ ac_e ch l (ac_p ch l k) + 1 ≤ l
    omega
theorem ac_ex (h60 : l ≤ 60) : ∃ n, n ≤ 30 ∧ (∀ i, i < n → ac_g ch l i) ∧ ¬ ac_g ch l n := by
  obtain ⟨n, h1, h2, h3⟩ := lead (ac_g ch l) 31
  have := ac_pl n h2
  exact ⟨n, by omega, h2, h3 (by omega)⟩
variable {t k : Nat} {M : fd_M}
theorem s_X0_readAct_t (h : cp t l ch M) (hp : M.1 1 2 = nI p) (hk : k < 60) (ok : ac_ok ch l p) : m_X0_readAct [.ref 94, .ref 1, .int (nI k)] M = some (.int 1, fd_uI (fd_uI (fd_uI M 1 2 (nI (ac_e ch l p))) 95 k (ch p)) 96 k (nI (ac_n ch l p))) := by
  apply fd_of_run
  have hl : l ≤ 80 := by have := h.2.2.1; have := h.2.2.2.1; omega
  have lk := s_X7_look h hp (by have := ok.1; omega)
  rw [if_pos ok.1] at lk
  have hch : ∀ i, i < l → ∃ c, c < 256 ∧ ch i = nI c := fun i hi => (h.2.2.2.2 i hi).2
  have hh := h.at (nI (p + 1))
  have hp2 : (fd_uI M 1 2 (nI (p + 1))).1 1 2 = nI (p + 1) := by rw [rd_I, if_pos rfl, if_pos rfl]
  have k1 : ¬ nI k < 0 := nI_pos (by omega)
  have k2 : ¬ 60 ≤ nI k := nI_ge (b := 60) hk (by decide)
  have k1' := Int32.not_lt.mp k1
  have k2' := Int32.not_le.mp k2
  have z0 : ¬ (0 : Int32) < 0 := by decide
  have n2 := s_X7_take_f (c := 103) h hp (by have := ok.1; omega) (by decide)
  have n3 := s_X7_take_f (c := 122) h hp (by have := ok.1; omega) (by decide)
  unfold m_X0_readAct b_X0_readAct ac_n ac_e
  rcases ok with ⟨pl, ⟨c1, c2, c, c3, c4, c5⟩ | ⟨c1, c2, c3⟩ | c1⟩
  · have tk := s_X7_take_t h hp pl c1
    have tl := s_X7_takeLetter_t (m := 9) (c := c) (but := -1) hh hp2 c2 c3 c4 c5 (by omega) (nI_m1 (by omega))
    rw [show nI 9 = (9 : Int32) from rfl] at tl
    have e1 : ch (p + 1) - 97 = nI (c - 97) := by rw [c3]; exact nI_sub c4
    have b1 : ¬ nI (c - 97) < 0 := nI_pos (by omega)
    have b1' := Int32.not_lt.mp b1
    simp [↓wp_ldn, ↓wp_b1, ↓wp_b2, ↓wp_b2z, ↓wp_gf, ↓wp_gd, ↓wp_ga, ↓wp_gl, ↓wp_al2, ↓wp_pi, ↓wp_ltr, ↓wp_ite, ↓wp_and, ↓wp_or, ↓wp_not, ↓wp_cmp, ↓wp_cmz, ↓wp_isn, ↓wp_nsn, ↓wp_a0, ↓wp_a1, ↓wp_cv, ↓wp_cs, ↓wp_dr, ↓wp_sk, ↓wp_brk, ↓wp_cnt, ↓wp_rV, ↓wp_seq, ↓wp_iff, ↓wp_sI, ↓wp_sL, ↓wp_sN, ↓wp_inc, ↓wp_do, ↓wp_rI, ↓wp_rL, ↓wp_rN, ↓wp_rZ, ↓wp_pf, ↓wp_pz, ↓wp_pd, ↓wp_po, ↓wp_pl, ↓wp_pao, ↓wp_tsw, ↓wp_lsw, ↓wp_fn, ↓wq_ld, ↓wq_ldl, ↓wq_lda, ↓wq_c, ↓wq_gr, ↓wq_gq, ↓wq_nn, ↓wq_asI, ↓wq_asL, ↓wq_asN, ↓wq_pa, hO_0, hR_0_0, hR_0_1, hR_0_2, hR_0_3, hR_0_4, hR_0_5, hR_0_6, hR_0_7, hR_0_8, hR_0_9, hR_0_10, hR_0_11, hF_0_12, hO_1, hR_1_0, hF_1_1, hF_1_2, hF_1_3, hO_3, hR_3_0, hF_3_1, hO_5, hF_5_0, hF_5_1, hR_5_2, hR_5_3, hR_5_4, hR_5_5, hR_5_6, hR_5_7, hF_5_8, hF_5_9, hO_30, hF_30_0, hF_30_1, hF_30_2, hF_30_3, hO_31, hF_31_0, hF_31_1, hR_31_2, hR_31_3, hR_31_4, hO_35, hR_35_0, hF_35_1, hR_35_2, hF_35_3, hR_35_4, hF_35_5, hF_35_6, hR_35_7, hF_35_8, hR_35_9, hR_35_10, hO_42, hO_45, hO_48, hR_48_0, hF_48_1, hF_48_2, hR_48_3, hR_48_4, hO_94, hR_94_0, hR_94_1, hO_97, hF_97_0, hF_97_1, hF_97_2, hF_97_3, hR_97_4, hR_97_5, hR_97_6, hR_97_7, hR_97_8, hR_97_9, hR_97_10, hR_97_11, hF_97_12, hO_156, hF_156_0, hR_156_1, hR_156_2, hR_156_3, hR_156_4, hR_156_5, hR_156_6, hR_156_7, hR_156_8, fd_p_eq, fd_p_ne, fd_p_lt, fd_p_ge, fd_p_gt, fd_p_le, fd_f_iadd, fd_f_isub, fd_f_imul, fd_f_iand, fd_f_ior, fd_f_ixor, fd_f_ishl, fd_f_ishr, fd_f_iushr, fd_f_ladd, fd_f_lsub, fd_f_lmul, fd_f_lcmp, fd_f_idiv, fd_f_irem, fd_f_ldiv, fd_f_lrem, fd_f_ineg, fd_f_i2l, fd_f_l2i, fd_f_i2b, fd_f_i2s, fd_f_i2c, fd_z_idiv, fd_z_irem, fd_z_ldiv, fd_z_lrem, fd_in0, fd_sl, fd_st1, fd_st2, fd_kl, fd_vI, fd_vL, fd_vN, fd_ok1, fd_v_int, xI, xL, xR, xK, xG, yI, yL, yN, -Prod.exists, fd_run_of lk, fd_run_of tk, fd_run_of tl, uI_uI, k1, k1', k2, k2', b1, b1', hA_95 hk, hA_96 hk, nI_clamp (show k < 2 ^ 31 by omega), c1, e1, nI_clamp (show c - 97 < 2 ^ 31 by omega)]
  · have z : ¬ (122 : Int32) = 103 := by decide
    have tk := s_X7_take_t h hp pl c1
    have n2 := n2 (fun q => by rw [c1] at q; exact z q.2)
    have tn := s_X7_takeNumber_t hh hp2 ⟨c2, c3⟩ (d := 2) (by omega)
    rw [show nI 2 = (2 : Int32) from rfl] at tn
    obtain ⟨m, m1, m2⟩ := ac_num hch (p + 1)
    rw [m1] at tn
    have b1 : ¬ nI m < 0 := nI_pos (by omega)
    have b1' := Int32.not_lt.mp b1
    simp [↓wp_ldn, ↓wp_b1, ↓wp_b2, ↓wp_b2z, ↓wp_gf, ↓wp_gd, ↓wp_ga, ↓wp_gl, ↓wp_al2, ↓wp_pi, ↓wp_ltr, ↓wp_ite, ↓wp_and, ↓wp_or, ↓wp_not, ↓wp_cmp, ↓wp_cmz, ↓wp_isn, ↓wp_nsn, ↓wp_a0, ↓wp_a1, ↓wp_cv, ↓wp_cs, ↓wp_dr, ↓wp_sk, ↓wp_brk, ↓wp_cnt, ↓wp_rV, ↓wp_seq, ↓wp_iff, ↓wp_sI, ↓wp_sL, ↓wp_sN, ↓wp_inc, ↓wp_do, ↓wp_rI, ↓wp_rL, ↓wp_rN, ↓wp_rZ, ↓wp_pf, ↓wp_pz, ↓wp_pd, ↓wp_po, ↓wp_pl, ↓wp_pao, ↓wp_tsw, ↓wp_lsw, ↓wp_fn, ↓wq_ld, ↓wq_ldl, ↓wq_lda, ↓wq_c, ↓wq_gr, ↓wq_gq, ↓wq_nn, ↓wq_asI, ↓wq_asL, ↓wq_asN, ↓wq_pa, hO_0, hR_0_0, hR_0_1, hR_0_2, hR_0_3, hR_0_4, hR_0_5, hR_0_6, hR_0_7, hR_0_8, hR_0_9, hR_0_10, hR_0_11, hF_0_12, hO_1, hR_1_0, hF_1_1, hF_1_2, hF_1_3, hO_3, hR_3_0, hF_3_1, hO_5, hF_5_0, hF_5_1, hR_5_2, hR_5_3, hR_5_4, hR_5_5, hR_5_6, hR_5_7, hF_5_8, hF_5_9, hO_30, hF_30_0, hF_30_1, hF_30_2, hF_30_3, hO_31, hF_31_0, hF_31_1, hR_31_2, hR_31_3, hR_31_4, hO_35, hR_35_0, hF_35_1, hR_35_2, hF_35_3, hR_35_4, hF_35_5, hF_35_6, hR_35_7, hF_35_8, hR_35_9, hR_35_10, hO_42, hO_45, hO_48, hR_48_0, hF_48_1, hF_48_2, hR_48_3, hR_48_4, hO_94, hR_94_0, hR_94_1, hO_97, hF_97_0, hF_97_1, hF_97_2, hF_97_3, hR_97_4, hR_97_5, hR_97_6, hR_97_7, hR_97_8, hR_97_9, hR_97_10, hR_97_11, hF_97_12, hO_156, hF_156_0, hR_156_1, hR_156_2, hR_156_3, hR_156_4, hR_156_5, hR_156_6, hR_156_7, hR_156_8, fd_p_eq, fd_p_ne, fd_p_lt, fd_p_ge, fd_p_gt, fd_p_le, fd_f_iadd, fd_f_isub, fd_f_imul, fd_f_iand, fd_f_ior, fd_f_ixor, fd_f_ishl, fd_f_ishr, fd_f_iushr, fd_f_ladd, fd_f_lsub, fd_f_lmul, fd_f_lcmp, fd_f_idiv, fd_f_irem, fd_f_ldiv, fd_f_lrem, fd_f_ineg, fd_f_i2l, fd_f_l2i, fd_f_i2b, fd_f_i2s, fd_f_i2c, fd_z_idiv, fd_z_irem, fd_z_ldiv, fd_z_lrem, fd_in0, fd_sl, fd_st1, fd_st2, fd_kl, fd_vI, fd_vL, fd_vN, fd_ok1, fd_v_int, xI, xL, xR, xK, xG, yI, yL, yN, -Prod.exists, fd_run_of lk, fd_run_of n2, fd_run_of tk, fd_run_of tn, uI_uI, k1, k1', k2, k2', b1, b1', hA_95 hk, hA_96 hk, nI_clamp (show k < 2 ^ 31 by omega), c1, m1, nI_clamp (show m < 2 ^ 31 by omega)]
  · have z : ¬ (109 : Int32) = 103 := by decide
    have z2 : ¬ (109 : Int32) = 122 := by decide
    have tk := s_X7_take_t h hp pl c1
    have n2 := n2 (fun q => by rw [c1] at q; exact z q.2)
    have n3 := n3 (fun q => by rw [c1] at q; exact z2 q.2)
    simp [↓wp_ldn, ↓wp_b1, ↓wp_b2, ↓wp_b2z, ↓wp_gf, ↓wp_gd, ↓wp_ga, ↓wp_gl, ↓wp_al2, ↓wp_pi, ↓wp_ltr, ↓wp_ite, ↓wp_and, ↓wp_or, ↓wp_not, ↓wp_cmp, ↓wp_cmz, ↓wp_isn, ↓wp_nsn, ↓wp_a0, ↓wp_a1, ↓wp_cv, ↓wp_cs, ↓wp_dr, ↓wp_sk, ↓wp_brk, ↓wp_cnt, ↓wp_rV, ↓wp_seq, ↓wp_iff, ↓wp_sI, ↓wp_sL, ↓wp_sN, ↓wp_inc, ↓wp_do, ↓wp_rI, ↓wp_rL, ↓wp_rN, ↓wp_rZ, ↓wp_pf, ↓wp_pz, ↓wp_pd, ↓wp_po, ↓wp_pl, ↓wp_pao, ↓wp_tsw, ↓wp_lsw, ↓wp_fn, ↓wq_ld, ↓wq_ldl, ↓wq_lda, ↓wq_c, ↓wq_gr, ↓wq_gq, ↓wq_nn, ↓wq_asI, ↓wq_asL, ↓wq_asN, ↓wq_pa, hO_0, hR_0_0, hR_0_1, hR_0_2, hR_0_3, hR_0_4, hR_0_5, hR_0_6, hR_0_7, hR_0_8, hR_0_9, hR_0_10, hR_0_11, hF_0_12, hO_1, hR_1_0, hF_1_1, hF_1_2, hF_1_3, hO_3, hR_3_0, hF_3_1, hO_5, hF_5_0, hF_5_1, hR_5_2, hR_5_3, hR_5_4, hR_5_5, hR_5_6, hR_5_7, hF_5_8, hF_5_9, hO_30, hF_30_0, hF_30_1, hF_30_2, hF_30_3, hO_31, hF_31_0, hF_31_1, hR_31_2, hR_31_3, hR_31_4, hO_35, hR_35_0, hF_35_1, hR_35_2, hF_35_3, hR_35_4, hF_35_5, hF_35_6, hR_35_7, hF_35_8, hR_35_9, hR_35_10, hO_42, hO_45, hO_48, hR_48_0, hF_48_1, hF_48_2, hR_48_3, hR_48_4, hO_94, hR_94_0, hR_94_1, hO_97, hF_97_0, hF_97_1, hF_97_2, hF_97_3, hR_97_4, hR_97_5, hR_97_6, hR_97_7, hR_97_8, hR_97_9, hR_97_10, hR_97_11, hF_97_12, hO_156, hF_156_0, hR_156_1, hR_156_2, hR_156_3, hR_156_4, hR_156_5, hR_156_6, hR_156_7, hR_156_8, fd_p_eq, fd_p_ne, fd_p_lt, fd_p_ge, fd_p_gt, fd_p_le, fd_f_iadd, fd_f_isub, fd_f_imul, fd_f_iand, fd_f_ior, fd_f_ixor, fd_f_ishl, fd_f_ishr, fd_f_iushr, fd_f_ladd, fd_f_lsub, fd_f_lmul, fd_f_lcmp, fd_f_idiv, fd_f_irem, fd_f_ldiv, fd_f_lrem, fd_f_ineg, fd_f_i2l, fd_f_l2i, fd_f_i2b, fd_f_i2s, fd_f_i2c, fd_z_idiv, fd_z_irem, fd_z_ldiv, fd_z_lrem, fd_in0, fd_sl, fd_st1, fd_st2, fd_kl, fd_vI, fd_vL, fd_vN, fd_ok1, fd_v_int, xI, xL, xR, xK, xG, yI, yL, yN, -Prod.exists, fd_run_of lk, fd_run_of n2, fd_run_of n3, fd_run_of tk, k1, k1', k2, k2', z0, hA_95 hk, hA_96 hk, nI_clamp (show k < 2 ^ 31 by omega), c1, nI_0]
theorem s_X0_readAct_f (h : cp t l ch M) (hp : M.1 1 2 = nI p) (hp2 : p ≤ l) (hk : k < 60) (no : ¬ ac_ok ch l p) : m_X0_readAct [.ref 94, .ref 1, .int (nI k)] M = some (.int 0, fd_uI M 1 2 (nI (ac_f ch l p))) := by
  apply fd_of_run
  have hl : l ≤ 80 := by have := h.2.2.1; have := h.2.2.2.1; omega
  have lk := s_X7_look h hp (by omega)
  have hh := h.at (nI (p + 1))
  have hq2 : (fd_uI M 1 2 (nI (p + 1))).1 1 2 = nI (p + 1) := by rw [rd_I, if_pos rfl, if_pos rfl]
  have zm : (-1 : Int32) < 0 := by decide
  have n2 := s_X7_take_f (c := 103) h hp (by omega) (by decide)
  have n3 := s_X7_take_f (c := 122) h hp (by omega) (by decide)
  have n4 := s_X7_take_f (c := 109) h hp (by omega) (by decide)
  unfold m_X0_readAct b_X0_readAct ac_f
  by_cases c1 : p < l ∧ ch p = 103
  · have tk := s_X7_take_t h hp c1.1 c1.2
    have tl := s_X7_takeLetter_f (m := 9) (but := -1) hh hq2 (by omega) (by omega) (fun ⟨q1, c, q2, q3, q4, _⟩ => no ⟨c1.1, Or.inl ⟨c1.2, q1, c, q2, q3, by omega⟩⟩)
    rw [show nI 9 = (9 : Int32) from rfl] at tl
    rw [if_pos ⟨c1.1, Or.inl c1.2⟩]
    simp [↓wp_ldn, ↓wp_b1, ↓wp_b2, ↓wp_b2z, ↓wp_gf, ↓wp_gd, ↓wp_ga, ↓wp_gl, ↓wp_al2, ↓wp_pi, ↓wp_ltr, ↓wp_ite, ↓wp_and, ↓wp_or, ↓wp_not, ↓wp_cmp, ↓wp_cmz, ↓wp_isn, ↓wp_nsn, ↓wp_a0, ↓wp_a1, ↓wp_cv, ↓wp_cs, ↓wp_dr, ↓wp_sk, ↓wp_brk, ↓wp_cnt, ↓wp_rV, ↓wp_seq, ↓wp_iff, ↓wp_sI, ↓wp_sL, ↓wp_sN, ↓wp_inc, ↓wp_do, ↓wp_rI, ↓wp_rL, ↓wp_rN, ↓wp_rZ, ↓wp_pf, ↓wp_pz, ↓wp_pd, ↓wp_po, ↓wp_pl, ↓wp_pao, ↓wp_tsw, ↓wp_lsw, ↓wp_fn, ↓wq_ld, ↓wq_ldl, ↓wq_lda, ↓wq_c, ↓wq_gr, ↓wq_gq, ↓wq_nn, ↓wq_asI, ↓wq_asL, ↓wq_asN, ↓wq_pa, hO_0, hR_0_0, hR_0_1, hR_0_2, hR_0_3, hR_0_4, hR_0_5, hR_0_6, hR_0_7, hR_0_8, hR_0_9, hR_0_10, hR_0_11, hF_0_12, hO_1, hR_1_0, hF_1_1, hF_1_2, hF_1_3, hO_3, hR_3_0, hF_3_1, hO_5, hF_5_0, hF_5_1, hR_5_2, hR_5_3, hR_5_4, hR_5_5, hR_5_6, hR_5_7, hF_5_8, hF_5_9, hO_30, hF_30_0, hF_30_1, hF_30_2, hF_30_3, hO_31, hF_31_0, hF_31_1, hR_31_2, hR_31_3, hR_31_4, hO_35, hR_35_0, hF_35_1, hR_35_2, hF_35_3, hR_35_4, hF_35_5, hF_35_6, hR_35_7, hF_35_8, hR_35_9, hR_35_10, hO_42, hO_45, hO_48, hR_48_0, hF_48_1, hF_48_2, hR_48_3, hR_48_4, hO_94, hR_94_0, hR_94_1, hO_97, hF_97_0, hF_97_1, hF_97_2, hF_97_3, hR_97_4, hR_97_5, hR_97_6, hR_97_7, hR_97_8, hR_97_9, hR_97_10, hR_97_11, hF_97_12, hO_156, hF_156_0, hR_156_1, hR_156_2, hR_156_3, hR_156_4, hR_156_5, hR_156_6, hR_156_7, hR_156_8, fd_p_eq, fd_p_ne, fd_p_lt, fd_p_ge, fd_p_gt, fd_p_le, fd_f_iadd, fd_f_isub, fd_f_imul, fd_f_iand, fd_f_ior, fd_f_ixor, fd_f_ishl, fd_f_ishr, fd_f_iushr, fd_f_ladd, fd_f_lsub, fd_f_lmul, fd_f_lcmp, fd_f_idiv, fd_f_irem, fd_f_ldiv, fd_f_lrem, fd_f_ineg, fd_f_i2l, fd_f_l2i, fd_f_i2b, fd_f_i2s, fd_f_i2c, fd_z_idiv, fd_z_irem, fd_z_ldiv, fd_z_lrem, fd_in0, fd_sl, fd_st1, fd_st2, fd_kl, fd_vI, fd_vL, fd_vN, fd_ok1, fd_v_int, xI, xL, xR, xK, xG, yI, yL, yN, -Prod.exists, fd_run_of lk, fd_run_of tk, fd_run_of tl, zm]
  · have n2 := n2 c1
    by_cases c2 : p < l ∧ ch p = 122
    · have tk := s_X7_take_t h hp c2.1 c2.2
      have tn := s_X7_takeNumber_f hh hq2 (by omega) (fun q => no ⟨c2.1, Or.inr (Or.inl ⟨c2.2, q.1, q.2⟩)⟩) 2
      rw [if_pos ⟨c2.1, Or.inr c2.2⟩]
      simp [↓wp_ldn, ↓wp_b1, ↓wp_b2, ↓wp_b2z, ↓wp_gf, ↓wp_gd, ↓wp_ga, ↓wp_gl, ↓wp_al2, ↓wp_pi, ↓wp_ltr, ↓wp_ite, ↓wp_and, ↓wp_or, ↓wp_not, ↓wp_cmp, ↓wp_cmz, ↓wp_isn, ↓wp_nsn, ↓wp_a0, ↓wp_a1, ↓wp_cv, ↓wp_cs, ↓wp_dr, ↓wp_sk, ↓wp_brk, ↓wp_cnt, ↓wp_rV, ↓wp_seq, ↓wp_iff, ↓wp_sI, ↓wp_sL, ↓wp_sN, ↓wp_inc, ↓wp_do, ↓wp_rI, ↓wp_rL, ↓wp_rN, ↓wp_rZ, ↓wp_pf, ↓wp_pz, ↓wp_pd, ↓wp_po, ↓wp_pl, ↓wp_pao, ↓wp_tsw, ↓wp_lsw, ↓wp_fn, ↓wq_ld, ↓wq_ldl, ↓wq_lda, ↓wq_c, ↓wq_gr, ↓wq_gq, ↓wq_nn, ↓wq_asI, ↓wq_asL, ↓wq_asN, ↓wq_pa, hO_0, hR_0_0, hR_0_1, hR_0_2, hR_0_3, hR_0_4, hR_0_5, hR_0_6, hR_0_7, hR_0_8, hR_0_9, hR_0_10, hR_0_11, hF_0_12, hO_1, hR_1_0, hF_1_1, hF_1_2, hF_1_3, hO_3, hR_3_0, hF_3_1, hO_5, hF_5_0, hF_5_1, hR_5_2, hR_5_3, hR_5_4, hR_5_5, hR_5_6, hR_5_7, hF_5_8, hF_5_9, hO_30, hF_30_0, hF_30_1, hF_30_2, hF_30_3, hO_31, hF_31_0, hF_31_1, hR_31_2, hR_31_3, hR_31_4, hO_35, hR_35_0, hF_35_1, hR_35_2, hF_35_3, hR_35_4, hF_35_5, hF_35_6, hR_35_7, hF_35_8, hR_35_9, hR_35_10, hO_42, hO_45, hO_48, hR_48_0, hF_48_1, hF_48_2, hR_48_3, hR_48_4, hO_94, hR_94_0, hR_94_1, hO_97, hF_97_0, hF_97_1, hF_97_2, hF_97_3, hR_97_4, hR_97_5, hR_97_6, hR_97_7, hR_97_8, hR_97_9, hR_97_10, hR_97_11, hF_97_12, hO_156, hF_156_0, hR_156_1, hR_156_2, hR_156_3, hR_156_4, hR_156_5, hR_156_6, hR_156_7, hR_156_8, fd_p_eq, fd_p_ne, fd_p_lt, fd_p_ge, fd_p_gt, fd_p_le, fd_f_iadd, fd_f_isub, fd_f_imul, fd_f_iand, fd_f_ior, fd_f_ixor, fd_f_ishl, fd_f_ishr, fd_f_iushr, fd_f_ladd, fd_f_lsub, fd_f_lmul, fd_f_lcmp, fd_f_idiv, fd_f_irem, fd_f_ldiv, fd_f_lrem, fd_f_ineg, fd_f_i2l, fd_f_l2i, fd_f_i2b, fd_f_i2s, fd_f_i2c, fd_z_idiv, fd_z_irem, fd_z_ldiv, fd_z_lrem, fd_in0, fd_sl, fd_st1, fd_st2, fd_kl, fd_vI, fd_vL, fd_vN, fd_ok1, fd_v_int, xI, xL, xR, xK, xG, yI, yL, yN, -Prod.exists, fd_run_of lk, fd_run_of n2, fd_run_of tk, fd_run_of tn, zm]
    · have n3 := n3 c2
      have n4 := n4 (fun q => no ⟨q.1, Or.inr (Or.inr q.2)⟩)
      rw [if_neg (fun q => q.2.elim (fun e => c1 ⟨q.1, e⟩) (fun e => c2 ⟨q.1, e⟩)), uI_self hp]
      simp [↓wp_ldn, ↓wp_b1, ↓wp_b2, ↓wp_b2z, ↓wp_gf, ↓wp_gd, ↓wp_ga, ↓wp_gl, ↓wp_al2, ↓wp_pi, ↓wp_ltr, ↓wp_ite, ↓wp_and, ↓wp_or, ↓wp_not, ↓wp_cmp, ↓wp_cmz, ↓wp_isn, ↓wp_nsn, ↓wp_a0, ↓wp_a1, ↓wp_cv, ↓wp_cs, ↓wp_dr, ↓wp_sk, ↓wp_brk, ↓wp_cnt, ↓wp_rV, ↓wp_seq, ↓wp_iff, ↓wp_sI, ↓wp_sL, ↓wp_sN, ↓wp_inc, ↓wp_do, ↓wp_rI, ↓wp_rL, ↓wp_rN, ↓wp_rZ, ↓wp_pf, ↓wp_pz, ↓wp_pd, ↓wp_po, ↓wp_pl, ↓wp_pao, ↓wp_tsw, ↓wp_lsw, ↓wp_fn, ↓wq_ld, ↓wq_ldl, ↓wq_lda, ↓wq_c, ↓wq_gr, ↓wq_gq, ↓wq_nn, ↓wq_asI, ↓wq_asL, ↓wq_asN, ↓wq_pa, hO_0, hR_0_0, hR_0_1, hR_0_2, hR_0_3, hR_0_4, hR_0_5, hR_0_6, hR_0_7, hR_0_8, hR_0_9, hR_0_10, hR_0_11, hF_0_12, hO_1, hR_1_0, hF_1_1, hF_1_2, hF_1_3, hO_3, hR_3_0, hF_3_1, hO_5, hF_5_0, hF_5_1, hR_5_2, hR_5_3, hR_5_4, hR_5_5, hR_5_6, hR_5_7, hF_5_8, hF_5_9, hO_30, hF_30_0, hF_30_1, hF_30_2, hF_30_3, hO_31, hF_31_0, hF_31_1, hR_31_2, hR_31_3, hR_31_4, hO_35, hR_35_0, hF_35_1, hR_35_2, hF_35_3, hR_35_4, hF_35_5, hF_35_6, hR_35_7, hF_35_8, hR_35_9, hR_35_10, hO_42, hO_45, hO_48, hR_48_0, hF_48_1, hF_48_2, hR_48_3, hR_48_4, hO_94, hR_94_0, hR_94_1, hO_97, hF_97_0, hF_97_1, hF_97_2, hF_97_3, hR_97_4, hR_97_5, hR_97_6, hR_97_7, hR_97_8, hR_97_9, hR_97_10, hR_97_11, hF_97_12, hO_156, hF_156_0, hR_156_1, hR_156_2, hR_156_3, hR_156_4, hR_156_5, hR_156_6, hR_156_7, hR_156_8, fd_p_eq, fd_p_ne, fd_p_lt, fd_p_ge, fd_p_gt, fd_p_le, fd_f_iadd, fd_f_isub, fd_f_imul, fd_f_iand, fd_f_ior, fd_f_ixor, fd_f_ishl, fd_f_ishr, fd_f_iushr, fd_f_ladd, fd_f_lsub, fd_f_lmul, fd_f_lcmp, fd_f_idiv, fd_f_irem, fd_f_ldiv, fd_f_lrem, fd_f_ineg, fd_f_i2l, fd_f_l2i, fd_f_i2b, fd_f_i2s, fd_f_i2c, fd_z_idiv, fd_z_irem, fd_z_ldiv, fd_z_lrem, fd_in0, fd_sl, fd_st1, fd_st2, fd_kl, fd_vI, fd_vL, fd_vN, fd_ok1, fd_v_int, xI, xL, xR, xK, xG, yI, yL, yN, -Prod.exists, fd_run_of lk, fd_run_of n2, fd_run_of n3, fd_run_of n4]
theorem s_X0_read {n : Nat} (ht : M.1 1 1 = nI t) (h80 : t ≤ 80) (t1 : 1 ≤ t) (hX : ∀ i, i < t → M.1 2 i = ch i ∧ ∃ c, c < 256 ∧ ch i = nI c) (hl : l = min t 60) (hn : ∀ i, i < n → ac_g ch l i) (hg : ¬ ac_g ch l n) {v : Int32} (v1 : ¬ ac_ok ch l (ac_p ch l n) → v = -1 - nI (ac_f ch l (ac_p ch l n))) (v2 : ac_ok ch l (ac_p ch l n) → v = if ac_e ch l (ac_p ch l n) = t then nI (n + 1) else -1 - nI (ac_e ch l (ac_p ch l n))) {Q : Value → fd_M → Prop} (hQ : ∀ M2, fP (fun a j => (a = 1 ∧ (j = 2 ∨ j = 3)) ∨ a = 95 ∨ a = 96) M M2 → (ac_ok ch l (ac_p ch l n) → ∀ i, i < n + 1 → M2.1 95 i = ch (ac_p ch l i) ∧ M2.1 96 i = nI (ac_n ch l (ac_p ch l i))) → Q (.int v) M2) : fd_run m_X0_read [.ref 94, .ref 1] M Q := by
  have hpl := ac_pl n hn
  have hb := s_X7_begin ht h80 (m := 60) (by omega)
  rw [show nI 60 = (60 : Int32) from rfl] at hb
  unfold m_X0_read b_X0_read
  simp [↓wp_ldn, ↓wp_b1, ↓wp_b2, ↓wp_b2z, ↓wp_gf, ↓wp_gd, ↓wp_ga, ↓wp_gl, ↓wp_al2, ↓wp_pi, ↓wp_ltr, ↓wp_ite, ↓wp_and, ↓wp_or, ↓wp_not, ↓wp_cmp, ↓wp_cmz, ↓wp_isn, ↓wp_nsn, ↓wp_a0, ↓wp_a1, ↓wp_cv, ↓wp_cs, ↓wp_dr, ↓wp_sk, ↓wp_brk, ↓wp_cnt, ↓wp_rV, ↓wp_seq, ↓wp_iff, ↓wp_sI, ↓wp_sL, ↓wp_sN, ↓wp_inc, ↓wp_do, ↓wp_rI, ↓wp_rL, ↓wp_rN, ↓wp_rZ, ↓wp_pf, ↓wp_pz, ↓wp_pd, ↓wp_po, ↓wp_pl, ↓wp_pao, ↓wp_tsw, ↓wp_lsw, ↓wp_fn, ↓wq_ld, ↓wq_ldl, ↓wq_lda, ↓wq_c, ↓wq_gr, ↓wq_gq, ↓wq_nn, ↓wq_asI, ↓wq_asL, ↓wq_asN, ↓wq_pa, hO_0, hR_0_0, hR_0_1, hR_0_2, hR_0_3, hR_0_4, hR_0_5, hR_0_6, hR_0_7, hR_0_8, hR_0_9, hR_0_10, hR_0_11, hF_0_12, hO_1, hR_1_0, hF_1_1, hF_1_2, hF_1_3, hO_3, hR_3_0, hF_3_1, hO_5, hF_5_0, hF_5_1, hR_5_2, hR_5_3, hR_5_4, hR_5_5, hR_5_6, hR_5_7, hF_5_8, hF_5_9, hO_30, hF_30_0, hF_30_1, hF_30_2, hF_30_3, hO_31, hF_31_0, hF_31_1, hR_31_2, hR_31_3, hR_31_4, hO_35, hR_35_0, hF_35_1, hR_35_2, hF_35_3, hR_35_4, hF_35_5, hF_35_6, hR_35_7, hF_35_8, hR_35_9, hR_35_10, hO_42, hO_45, hO_48, hR_48_0, hF_48_1, hF_48_2, hR_48_3, hR_48_4, hO_94, hR_94_0, hR_94_1, hO_97, hF_97_0, hF_97_1, hF_97_2, hF_97_3, hR_97_4, hR_97_5, hR_97_6, hR_97_7, hR_97_8, hR_97_9, hR_97_10, hR_97_11, hF_97_12, hO_156, hF_156_0, hR_156_1, hR_156_2, hR_156_3, hR_156_4, hR_156_5, hR_156_6, hR_156_7, hR_156_8, fd_p_eq, fd_p_ne, fd_p_lt, fd_p_ge, fd_p_gt, fd_p_le, fd_f_iadd, fd_f_isub, fd_f_imul, fd_f_iand, fd_f_ior, fd_f_ixor, fd_f_ishl, fd_f_ishr, fd_f_iushr, fd_f_ladd, fd_f_lsub, fd_f_lmul, fd_f_lcmp, fd_f_idiv, fd_f_irem, fd_f_ldiv, fd_f_lrem, fd_f_ineg, fd_f_i2l, fd_f_l2i, fd_f_i2b, fd_f_i2s, fd_f_i2c, fd_z_idiv, fd_z_irem, fd_z_ldiv, fd_z_lrem, fd_in0, fd_sl, fd_st1, fd_st2, fd_kl, fd_vI, fd_vL, fd_vN, fd_ok1, fd_v_int, xI, xL, xR, xK, xG, yI, yL, yN, -Prod.exists, fd_run_of hb]
  generalize hMa : fd_uI (fd_uI M 1 2 0) 1 3 (nI (min t 60)) = Ma
  have fMa : fP (fun a j => (a = 1 ∧ (j = 2 ∨ j = 3)) ∨ a = 95 ∨ a = 96) M Ma := by
    rw [← hMa]
    exact fP.uI (fP.uI fP.rf (by omega)) (by omega)
  have cpa : cp t l ch Ma := by
    rw [← hMa]
    exact ⟨by simp [rd_I, ht], by simp [rd_I, hl], by omega, h80, fun i hi => ⟨by simp [rd_I]; exact (hX i (by omega)).1, (hX i (by omega)).2⟩⟩
  have pa : Ma.1 1 2 = nI 0 := by rw [← hMa]; simp [rd_I, nI_0]
  have wa := s_X7_isWhole cpa.1 pa (by omega) (by omega)
  rw [if_neg (by omega)] at wa
  simp [↓wp_ldn, ↓wp_b1, ↓wp_b2, ↓wp_b2z, ↓wp_gf, ↓wp_gd, ↓wp_ga, ↓wp_gl, ↓wp_al2, ↓wp_pi, ↓wp_ltr, ↓wp_ite, ↓wp_and, ↓wp_or, ↓wp_not, ↓wp_cmp, ↓wp_cmz, ↓wp_isn, ↓wp_nsn, ↓wp_a0, ↓wp_a1, ↓wp_cv, ↓wp_cs, ↓wp_dr, ↓wp_sk, ↓wp_brk, ↓wp_cnt, ↓wp_rV, ↓wp_seq, ↓wp_iff, ↓wp_sI, ↓wp_sL, ↓wp_sN, ↓wp_inc, ↓wp_do, ↓wp_rI, ↓wp_rL, ↓wp_rN, ↓wp_rZ, ↓wp_pf, ↓wp_pz, ↓wp_pd, ↓wp_po, ↓wp_pl, ↓wp_pao, ↓wp_tsw, ↓wp_lsw, ↓wp_fn, ↓wq_ld, ↓wq_ldl, ↓wq_lda, ↓wq_c, ↓wq_gr, ↓wq_gq, ↓wq_nn, ↓wq_asI, ↓wq_asL, ↓wq_asN, ↓wq_pa, hO_0, hR_0_0, hR_0_1, hR_0_2, hR_0_3, hR_0_4, hR_0_5, hR_0_6, hR_0_7, hR_0_8, hR_0_9, hR_0_10, hR_0_11, hF_0_12, hO_1, hR_1_0, hF_1_1, hF_1_2, hF_1_3, hO_3, hR_3_0, hF_3_1, hO_5, hF_5_0, hF_5_1, hR_5_2, hR_5_3, hR_5_4, hR_5_5, hR_5_6, hR_5_7, hF_5_8, hF_5_9, hO_30, hF_30_0, hF_30_1, hF_30_2, hF_30_3, hO_31, hF_31_0, hF_31_1, hR_31_2, hR_31_3, hR_31_4, hO_35, hR_35_0, hF_35_1, hR_35_2, hF_35_3, hR_35_4, hF_35_5, hF_35_6, hR_35_7, hF_35_8, hR_35_9, hR_35_10, hO_42, hO_45, hO_48, hR_48_0, hF_48_1, hF_48_2, hR_48_3, hR_48_4, hO_94, hR_94_0, hR_94_1, hO_97, hF_97_0, hF_97_1, hF_97_2, hF_97_3, hR_97_4, hR_97_5, hR_97_6, hR_97_7, hR_97_8, hR_97_9, hR_97_10, hR_97_11, hF_97_12, hO_156, hF_156_0, hR_156_1, hR_156_2, hR_156_3, hR_156_4, hR_156_5, hR_156_6, hR_156_7, hR_156_8, fd_p_eq, fd_p_ne, fd_p_lt, fd_p_ge, fd_p_gt, fd_p_le, fd_f_iadd, fd_f_isub, fd_f_imul, fd_f_iand, fd_f_ior, fd_f_ixor, fd_f_ishl, fd_f_ishr, fd_f_iushr, fd_f_ladd, fd_f_lsub, fd_f_lmul, fd_f_lcmp, fd_f_idiv, fd_f_irem, fd_f_ldiv, fd_f_lrem, fd_f_ineg, fd_f_i2l, fd_f_l2i, fd_f_i2b, fd_f_i2s, fd_f_i2c, fd_z_idiv, fd_z_irem, fd_z_ldiv, fd_z_lrem, fd_in0, fd_sl, fd_st1, fd_st2, fd_kl, fd_vI, fd_vL, fd_vN, fd_ok1, fd_v_int, xI, xL, xR, xK, xG, yI, yL, yN, -Prod.exists, fd_run_of wa]
  obtain ⟨J, hJ⟩ : ∃ J : Nat → fd_S → Prop, J = fun k σ => k ≤ n ∧ ∃ M1 : fd_M, σ = ([.ref 94, .ref 1, .int (nI k)], M1) ∧ fP (fun a j => (a = 1 ∧ j = 2) ∨ a = 95 ∨ a = 96) Ma M1 ∧ M1.1 1 2 = nI (ac_p ch l k) ∧ ∀ i, i < k → M1.1 95 i = ch (ac_p ch l i) ∧ M1.1 96 i = nI (ac_n ch l (ac_p ch l i)) := ⟨_, rfl⟩
  refine wp_for (n + 1) J (fd_fu_lt (by omega)) (Nat.zero_le _) (by rw [hJ]; exact ⟨Nat.zero_le _, Ma, rfl, fP.rf, pa, fun i hi => absurd hi (Nat.not_lt_zero i)⟩) (fun k σ hk hs => ?_) (fun σ hs => ?_)
  · rw [hJ] at hs
    obtain ⟨-, M1, rfl, f1, p1, r1⟩ := hs
    have c60 : nI k < 60 := nI_lt (b := 60) (by omega) (by decide)
    have cp1 : cp t l ch M1 := cpa.cg f1 (by omega) (by omega) (fun i => by omega)
    have hpk := ac_pl k (fun i hi => hn i (by omega))
    have fM : ∀ {M2 : fd_M}, fP (fun a j => (a = 1 ∧ j = 2) ∨ a = 95 ∨ a = 96) Ma M2 → fP (fun a j => (a = 1 ∧ (j = 2 ∨ j = 3)) ∨ a = 95 ∨ a = 96) M M2 := fun g => fMa.tr (g.up (fun a j z => by omega))
    by_cases ok : ac_ok ch l (ac_p ch l k)
    · have ra := s_X0_readAct_t cp1 p1 (show k < 60 by omega) ok
      have es := ac_s1 ok
      obtain ⟨M3, hM3⟩ : ∃ M3, M3 = fd_uI (fd_uI (fd_uI M1 1 2 (nI (ac_e ch l (ac_p ch l k)))) 95 k (ch (ac_p ch l k))) 96 k (nI (ac_n ch l (ac_p ch l k))) := ⟨_, rfl⟩
      rw [← hM3] at ra
      have f3 : fP (fun a j => (a = 1 ∧ j = 2) ∨ a = 95 ∨ a = 96) Ma M3 := by
        rw [hM3]
        exact fP.uI (fP.uI (fP.uI f1 (by omega)) (by omega)) (by omega)
      have p3 : M3.1 1 2 = nI (ac_e ch l (ac_p ch l k)) := by rw [hM3]; simp [rd_I]
      have r3 : ∀ i, i < k + 1 → M3.1 95 i = ch (ac_p ch l i) ∧ M3.1 96 i = nI (ac_n ch l (ac_p ch l i)) := fun i hi => by
        rw [hM3]
        by_cases e : i = k
        · subst e
          simp [rd_I]
        · simp [rd_I, e]
          exact r1 i (by omega)
      have cp3 : cp t l ch M3 := cpa.cg f3 (by omega) (by omega) (fun i => by omega)
      by_cases g : ac_e ch l (ac_p ch l k) < l ∧ ch (ac_e ch l (ac_p ch l k)) = 59
      · have tk := s_X7_take_t cp3 p3 g.1 g.2
        simp [↓wp_ldn, ↓wp_b1, ↓wp_b2, ↓wp_b2z, ↓wp_gf, ↓wp_gd, ↓wp_ga, ↓wp_gl, ↓wp_al2, ↓wp_pi, ↓wp_ltr, ↓wp_ite, ↓wp_and, ↓wp_or, ↓wp_not, ↓wp_cmp, ↓wp_cmz, ↓wp_isn, ↓wp_nsn, ↓wp_a0, ↓wp_a1, ↓wp_cv, ↓wp_cs, ↓wp_dr, ↓wp_sk, ↓wp_brk, ↓wp_cnt, ↓wp_rV, ↓wp_seq, ↓wp_iff, ↓wp_sI, ↓wp_sL, ↓wp_sN, ↓wp_inc, ↓wp_do, ↓wp_rI, ↓wp_rL, ↓wp_rN, ↓wp_rZ, ↓wp_pf, ↓wp_pz, ↓wp_pd, ↓wp_po, ↓wp_pl, ↓wp_pao, ↓wp_tsw, ↓wp_lsw, ↓wp_fn, ↓wq_ld, ↓wq_ldl, ↓wq_lda, ↓wq_c, ↓wq_gr, ↓wq_gq, ↓wq_nn, ↓wq_asI, ↓wq_asL, ↓wq_asN, ↓wq_pa, hO_0, hR_0_0, hR_0_1, hR_0_2, hR_0_3, hR_0_4, hR_0_5, hR_0_6, hR_0_7, hR_0_8, hR_0_9, hR_0_10, hR_0_11, hF_0_12, hO_1, hR_1_0, hF_1_1, hF_1_2, hF_1_3, hO_3, hR_3_0, hF_3_1, hO_5, hF_5_0, hF_5_1, hR_5_2, hR_5_3, hR_5_4, hR_5_5, hR_5_6, hR_5_7, hF_5_8, hF_5_9, hO_30, hF_30_0, hF_30_1, hF_30_2, hF_30_3, hO_31, hF_31_0, hF_31_1, hR_31_2, hR_31_3, hR_31_4, hO_35, hR_35_0, hF_35_1, hR_35_2, hF_35_3, hR_35_4, hF_35_5, hF_35_6, hR_35_7, hF_35_8, hR_35_9, hR_35_10, hO_42, hO_45, hO_48, hR_48_0, hF_48_1, hF_48_2, hR_48_3, hR_48_4, hO_94, hR_94_0, hR_94_1, hO_97, hF_97_0, hF_97_1, hF_97_2, hF_97_3, hR_97_4, hR_97_5, hR_97_6, hR_97_7, hR_97_8, hR_97_9, hR_97_10, hR_97_11, hF_97_12, hO_156, hF_156_0, hR_156_1, hR_156_2, hR_156_3, hR_156_4, hR_156_5, hR_156_6, hR_156_7, hR_156_8, fd_p_eq, fd_p_ne, fd_p_lt, fd_p_ge, fd_p_gt, fd_p_le, fd_f_iadd, fd_f_isub, fd_f_imul, fd_f_iand, fd_f_ior, fd_f_ixor, fd_f_ishl, fd_f_ishr, fd_f_iushr, fd_f_ladd, fd_f_lsub, fd_f_lmul, fd_f_lcmp, fd_f_idiv, fd_f_irem, fd_f_ldiv, fd_f_lrem, fd_f_ineg, fd_f_i2l, fd_f_l2i, fd_f_i2b, fd_f_i2s, fd_f_i2c, fd_z_idiv, fd_z_irem, fd_z_ldiv, fd_z_lrem, fd_in0, fd_sl, fd_st1, fd_st2, fd_kl, fd_vI, fd_vL, fd_vN, fd_ok1, fd_v_int, xI, xL, xR, xK, xG, yI, yL, yN, -Prod.exists, c60, fd_run_of ra, fd_run_of tk, nI_1]
        rw [hJ]
        have kn : k < n := by
          refine Classical.byContradiction fun z => ?_
          rw [show n = k by omega] at hg
          exact hg ⟨ok, g⟩
        refine ⟨by omega, _, rfl, fP.uI f3 (by omega), ?_, fun i hi => ?_⟩
        · simp [rd_I]; rfl
        · simp [rd_I]; exact r3 i hi
      · have kn : k = n := by
          refine Classical.byContradiction fun z => ?_
          exact g (hn k (by omega)).2
        subst kn
        have tk := s_X7_take_f (c := 59) cp3 p3 (by omega) (by decide) g
        have wh := s_X7_isWhole cp3.1 p3 (by omega) (by omega)
        have hv := hQ M3 (fM f3) (fun _ => r3)
        have v2 := v2 ok
        by_cases et : ac_e ch l (ac_p ch l k) = t
        · rw [if_pos et] at wh v2
          rw [v2] at hv
          simp [↓wp_ldn, ↓wp_b1, ↓wp_b2, ↓wp_b2z, ↓wp_gf, ↓wp_gd, ↓wp_ga, ↓wp_gl, ↓wp_al2, ↓wp_pi, ↓wp_ltr, ↓wp_ite, ↓wp_and, ↓wp_or, ↓wp_not, ↓wp_cmp, ↓wp_cmz, ↓wp_isn, ↓wp_nsn, ↓wp_a0, ↓wp_a1, ↓wp_cv, ↓wp_cs, ↓wp_dr, ↓wp_sk, ↓wp_brk, ↓wp_cnt, ↓wp_rV, ↓wp_seq, ↓wp_iff, ↓wp_sI, ↓wp_sL, ↓wp_sN, ↓wp_inc, ↓wp_do, ↓wp_rI, ↓wp_rL, ↓wp_rN, ↓wp_rZ, ↓wp_pf, ↓wp_pz, ↓wp_pd, ↓wp_po, ↓wp_pl, ↓wp_pao, ↓wp_tsw, ↓wp_lsw, ↓wp_fn, ↓wq_ld, ↓wq_ldl, ↓wq_lda, ↓wq_c, ↓wq_gr, ↓wq_gq, ↓wq_nn, ↓wq_asI, ↓wq_asL, ↓wq_asN, ↓wq_pa, hO_0, hR_0_0, hR_0_1, hR_0_2, hR_0_3, hR_0_4, hR_0_5, hR_0_6, hR_0_7, hR_0_8, hR_0_9, hR_0_10, hR_0_11, hF_0_12, hO_1, hR_1_0, hF_1_1, hF_1_2, hF_1_3, hO_3, hR_3_0, hF_3_1, hO_5, hF_5_0, hF_5_1, hR_5_2, hR_5_3, hR_5_4, hR_5_5, hR_5_6, hR_5_7, hF_5_8, hF_5_9, hO_30, hF_30_0, hF_30_1, hF_30_2, hF_30_3, hO_31, hF_31_0, hF_31_1, hR_31_2, hR_31_3, hR_31_4, hO_35, hR_35_0, hF_35_1, hR_35_2, hF_35_3, hR_35_4, hF_35_5, hF_35_6, hR_35_7, hF_35_8, hR_35_9, hR_35_10, hO_42, hO_45, hO_48, hR_48_0, hF_48_1, hF_48_2, hR_48_3, hR_48_4, hO_94, hR_94_0, hR_94_1, hO_97, hF_97_0, hF_97_1, hF_97_2, hF_97_3, hR_97_4, hR_97_5, hR_97_6, hR_97_7, hR_97_8, hR_97_9, hR_97_10, hR_97_11, hF_97_12, hO_156, hF_156_0, hR_156_1, hR_156_2, hR_156_3, hR_156_4, hR_156_5, hR_156_6, hR_156_7, hR_156_8, fd_p_eq, fd_p_ne, fd_p_lt, fd_p_ge, fd_p_gt, fd_p_le, fd_f_iadd, fd_f_isub, fd_f_imul, fd_f_iand, fd_f_ior, fd_f_ixor, fd_f_ishl, fd_f_ishr, fd_f_iushr, fd_f_ladd, fd_f_lsub, fd_f_lmul, fd_f_lcmp, fd_f_idiv, fd_f_irem, fd_f_ldiv, fd_f_lrem, fd_f_ineg, fd_f_i2l, fd_f_l2i, fd_f_i2b, fd_f_i2s, fd_f_i2c, fd_z_idiv, fd_z_irem, fd_z_ldiv, fd_z_lrem, fd_in0, fd_sl, fd_st1, fd_st2, fd_kl, fd_vI, fd_vL, fd_vN, fd_ok1, fd_v_int, xI, xL, xR, xK, xG, yI, yL, yN, -Prod.exists, c60, fd_run_of ra, fd_run_of tk, fd_run_of wh, nI_1]
          exact hv
        · rw [if_neg et] at wh v2
          rw [v2] at hv
          simp [↓wp_ldn, ↓wp_b1, ↓wp_b2, ↓wp_b2z, ↓wp_gf, ↓wp_gd, ↓wp_ga, ↓wp_gl, ↓wp_al2, ↓wp_pi, ↓wp_ltr, ↓wp_ite, ↓wp_and, ↓wp_or, ↓wp_not, ↓wp_cmp, ↓wp_cmz, ↓wp_isn, ↓wp_nsn, ↓wp_a0, ↓wp_a1, ↓wp_cv, ↓wp_cs, ↓wp_dr, ↓wp_sk, ↓wp_brk, ↓wp_cnt, ↓wp_rV, ↓wp_seq, ↓wp_iff, ↓wp_sI, ↓wp_sL, ↓wp_sN, ↓wp_inc, ↓wp_do, ↓wp_rI, ↓wp_rL, ↓wp_rN, ↓wp_rZ, ↓wp_pf, ↓wp_pz, ↓wp_pd, ↓wp_po, ↓wp_pl, ↓wp_pao, ↓wp_tsw, ↓wp_lsw, ↓wp_fn, ↓wq_ld, ↓wq_ldl, ↓wq_lda, ↓wq_c, ↓wq_gr, ↓wq_gq, ↓wq_nn, ↓wq_asI, ↓wq_asL, ↓wq_asN, ↓wq_pa, hO_0, hR_0_0, hR_0_1, hR_0_2, hR_0_3, hR_0_4, hR_0_5, hR_0_6, hR_0_7, hR_0_8, hR_0_9, hR_0_10, hR_0_11, hF_0_12, hO_1, hR_1_0, hF_1_1, hF_1_2, hF_1_3, hO_3, hR_3_0, hF_3_1, hO_5, hF_5_0, hF_5_1, hR_5_2, hR_5_3, hR_5_4, hR_5_5, hR_5_6, hR_5_7, hF_5_8, hF_5_9, hO_30, hF_30_0, hF_30_1, hF_30_2, hF_30_3, hO_31, hF_31_0, hF_31_1, hR_31_2, hR_31_3, hR_31_4, hO_35, hR_35_0, hF_35_1, hR_35_2, hF_35_3, hR_35_4, hF_35_5, hF_35_6, hR_35_7, hF_35_8, hR_35_9, hR_35_10, hO_42, hO_45, hO_48, hR_48_0, hF_48_1, hF_48_2, hR_48_3, hR_48_4, hO_94, hR_94_0, hR_94_1, hO_97, hF_97_0, hF_97_1, hF_97_2, hF_97_3, hR_97_4, hR_97_5, hR_97_6, hR_97_7, hR_97_8, hR_97_9, hR_97_10, hR_97_11, hF_97_12, hO_156, hF_156_0, hR_156_1, hR_156_2, hR_156_3, hR_156_4, hR_156_5, hR_156_6, hR_156_7, hR_156_8, fd_p_eq, fd_p_ne, fd_p_lt, fd_p_ge, fd_p_gt, fd_p_le, fd_f_iadd, fd_f_isub, fd_f_imul, fd_f_iand, fd_f_ior, fd_f_ixor, fd_f_ishl, fd_f_ishr, fd_f_iushr, fd_f_ladd, fd_f_lsub, fd_f_lmul, fd_f_lcmp, fd_f_idiv, fd_f_irem, fd_f_ldiv, fd_f_lrem, fd_f_ineg, fd_f_i2l, fd_f_l2i, fd_f_i2b, fd_f_i2s, fd_f_i2c, fd_z_idiv, fd_z_irem, fd_z_ldiv, fd_z_lrem, fd_in0, fd_sl, fd_st1, fd_st2, fd_kl, fd_vI, fd_vL, fd_vN, fd_ok1, fd_v_int, xI, xL, xR, xK, xG, yI, yL, yN, -Prod.exists, c60, fd_run_of ra, fd_run_of tk, fd_run_of wh, fd_run_of (s_X7_refusal p3)]
          exact hv
    · have kn : k = n := by
        refine Classical.byContradiction fun z => ?_
        exact ok (hn k (by omega)).1
      subst kn
      have ra := s_X0_readAct_f cp1 p1 hpk.2 (show k < 60 by omega) ok
      have p3 : (fd_uI M1 1 2 (nI (ac_f ch l (ac_p ch l k)))).1 1 2 = nI (ac_f ch l (ac_p ch l k)) := by simp [rd_I]
      have hv := hQ _ (fM (fP.uI (x := nI (ac_f ch l (ac_p ch l k))) f1 (show (1 = 1 ∧ 2 = 2) ∨ 1 = 95 ∨ 1 = 96 by omega))) (fun z => absurd z ok)
      rw [v1 ok] at hv
      simp [↓wp_ldn, ↓wp_b1, ↓wp_b2, ↓wp_b2z, ↓wp_gf, ↓wp_gd, ↓wp_ga, ↓wp_gl, ↓wp_al2, ↓wp_pi, ↓wp_ltr, ↓wp_ite, ↓wp_and, ↓wp_or, ↓wp_not, ↓wp_cmp, ↓wp_cmz, ↓wp_isn, ↓wp_nsn, ↓wp_a0, ↓wp_a1, ↓wp_cv, ↓wp_cs, ↓wp_dr, ↓wp_sk, ↓wp_brk, ↓wp_cnt, ↓wp_rV, ↓wp_seq, ↓wp_iff, ↓wp_sI, ↓wp_sL, ↓wp_sN, ↓wp_inc, ↓wp_do, ↓wp_rI, ↓wp_rL, ↓wp_rN, ↓wp_rZ, ↓wp_pf, ↓wp_pz, ↓wp_pd, ↓wp_po, ↓wp_pl, ↓wp_pao, ↓wp_tsw, ↓wp_lsw, ↓wp_fn, ↓wq_ld, ↓wq_ldl, ↓wq_lda, ↓wq_c, ↓wq_gr, ↓wq_gq, ↓wq_nn, ↓wq_asI, ↓wq_asL, ↓wq_asN, ↓wq_pa, hO_0, hR_0_0, hR_0_1, hR_0_2, hR_0_3, hR_0_4, hR_0_5, hR_0_6, hR_0_7, hR_0_8, hR_0_9, hR_0_10, hR_0_11, hF_0_12, hO_1, hR_1_0, hF_1_1, hF_1_2, hF_1_3, hO_3, hR_3_0, hF_3_1, hO_5, hF_5_0, hF_5_1, hR_5_2, hR_5_3, hR_5_4, hR_5_5, hR_5_6, hR_5_7, hF_5_8, hF_5_9, hO_30, hF_30_0, hF_30_1, hF_30_2, hF_30_3, hO_31, hF_31_0, hF_31_1, hR_31_2, hR_31_3, hR_31_4, hO_35, hR_35_0, hF_35_1, hR_35_2, hF_35_3, hR_35_4, hF_35_5, hF_35_6, hR_35_7, hF_35_8, hR_35_9, hR_35_10, hO_42, hO_45, hO_48, hR_48_0, hF_48_1, hF_48_2, hR_48_3, hR_48_4, hO_94, hR_94_0, hR_94_1, hO_97, hF_97_0, hF_97_1, hF_97_2, hF_97_3, hR_97_4, hR_97_5, hR_97_6, hR_97_7, hR_97_8, hR_97_9, hR_97_10, hR_97_11, hF_97_12, hO_156, hF_156_0, hR_156_1, hR_156_2, hR_156_3, hR_156_4, hR_156_5, hR_156_6, hR_156_7, hR_156_8, fd_p_eq, fd_p_ne, fd_p_lt, fd_p_ge, fd_p_gt, fd_p_le, fd_f_iadd, fd_f_isub, fd_f_imul, fd_f_iand, fd_f_ior, fd_f_ixor, fd_f_ishl, fd_f_ishr, fd_f_iushr, fd_f_ladd, fd_f_lsub, fd_f_lmul, fd_f_lcmp, fd_f_idiv, fd_f_irem, fd_f_ldiv, fd_f_lrem, fd_f_ineg, fd_f_i2l, fd_f_l2i, fd_f_i2b, fd_f_i2s, fd_f_i2c, fd_z_idiv, fd_z_irem, fd_z_ldiv, fd_z_lrem, fd_in0, fd_sl, fd_st1, fd_st2, fd_kl, fd_vI, fd_vL, fd_vN, fd_ok1, fd_v_int, xI, xL, xR, xK, xG, yI, yL, yN, -Prod.exists, c60, fd_run_of ra, fd_run_of (s_X7_refusal p3)]
      exact hv
  · rw [hJ] at hs
    exact absurd hs.1 (by omega)
end AC
