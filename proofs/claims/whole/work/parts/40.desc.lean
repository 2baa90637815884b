/-! ===== THE RULE read by descent: the reference ===== -/
theorem uI_uI (M : fd_M) (k j : Nat) (x y : Int32) : fd_uI (fd_uI M k j x) k j y = fd_uI M k j y := by
  have h : (fd_uI (fd_uI M k j x) k j y).1 = (fd_uI M k j y).1 := by
    funext a i
    rw [rd_I, rd_I, rd_I, rd_I]
    by_cases e1 : a = k <;> by_cases e2 : i = j <;> simp [e1, e2]
  exact Prod.ext h rfl
theorem whl_step {c : fd_D Bool} {b u : fd_T} {Q : Nat → Value → fd_S → Prop} {N : Nat} {σ : fd_S} (h : fd_we c σ (fun t s => if t = true then fd_wp b s (fun z v s2 => if z = 0 ∨ z = 3 then fd_wp u s2 (fun z3 v3 s3 => if z3 = 0 then fd_wp (fd_whl c b u N) s3 Q else Q z3 v3 s3) else if z = 2 then Q 0 fd_jk s2 else Q z v s2) else Q 0 fd_jk s)) : fd_wp (fd_whl c b u (N + 1)) σ Q := by
  obtain ⟨t, s, h1, h2⟩ := h
  cases t with
  | false => exact ⟨0, fd_jk, s, by simp [fd_whl, h1], by simpa using h2⟩
  | true =>
    rw [if_pos rfl] at h2
    obtain ⟨z, v, s2, h3, h4⟩ := h2
    by_cases hz : z = 0 ∨ z = 3
    · rw [if_pos hz] at h4
      obtain ⟨z3, v3, s3, h5, h6⟩ := h4
      by_cases h0 : z3 = 0
      · rw [if_pos h0] at h6
        obtain ⟨z4, v4, s4, h9, h10⟩ := h6
        exact ⟨z4, v4, s4, by simp [fd_whl, h1, h3, hz, h5, h0, h9], h10⟩
      · rw [if_neg h0] at h6
        exact ⟨z3, v3, s3, by simp [fd_whl, h1, h3, hz, h5, h0], h6⟩
    · rw [if_neg hz] at h4
      by_cases hz2 : z = 2
      · rw [if_pos hz2] at h4
        exact ⟨0, fd_jk, s2, by simp [fd_whl, h1, h3, hz2], h4⟩
      · rw [if_neg hz2] at h4
        exact ⟨z, v, s2, by simp [fd_whl, h1, h3, hz, hz2], h4⟩
/-- only the place and the fault were written -/
def fr21 (M M' : fd_M) : Prop := (∀ k j, (k ≠ 182 ∨ (j ≠ 21 ∧ j ≠ 22)) → M'.1 k j = M.1 k j) ∧ M'.2 = M.2
theorem fr21.rf {M : fd_M} : fr21 M M := ⟨fun _ _ _ => rfl, rfl⟩
theorem fr21.tr {M M' M'' : fd_M} (h : fr21 M M') (h2 : fr21 M' M'') : fr21 M M'' := ⟨fun k j hk => (h2.1 k j hk).trans (h.1 k j hk), h2.2.trans h.2⟩
theorem fr21.at {M M' : fd_M} {x : Int32} (h : fr21 M M') : fr21 M (fd_uI M' 182 21 x) := ⟨fun k j hk => by
  rw [rd_I]
  split
  next e => subst e; rw [if_neg (by omega)]; exact h.1 182 j hk
  next => exact h.1 k j hk, h.2⟩
theorem fr21.wr {M M' : fd_M} {x : Int32} (h : fr21 M M') : fr21 M (fd_uI M' 182 22 x) := ⟨fun k j hk => by
  rw [rd_I]
  split
  next e => subst e; rw [if_neg (by omega)]; exact h.1 182 j hk
  next => exact h.1 k j hk, h.2⟩
theorem ru_dig_i {c : Nat} (hc : c < 256) : ru_dig (nI c) = true ↔ 48 ≤ c ∧ c ≤ 57 := by
  unfold ru_dig
  have e1 : (48 : Int32) ≤ nI c ↔ 48 ≤ c := nI_leI (a := 48) (by decide) (by omega)
  have e2 : nI c ≤ 57 ↔ c ≤ 57 := nI_leI (b := 57) (by omega) (by decide)
  simp [e1, e2]
theorem ru_num_b {ch : Nat → Int32} {l : Nat} (hch : ∀ i, i < l → ∃ c, c < 256 ∧ ch i = nI c) : ∀ d p m, (m + 1) * 10 ^ d ≤ 1000000 → ∃ m', (ru_num ch l d p (nI m)).1 = nI m' ∧ m' + 1 ≤ (m + 1) * 10 ^ d
  | 0, p, m, _ => ⟨m, rfl, by simp⟩
  | d + 1, p, m, hm => by
    rw [ru_num]
    split
    next hc =>
      obtain ⟨c, h1, h2⟩ := hch p hc.1
      have hc2 := hc.2
      rw [h2] at hc2
      have h3 := (ru_dig_i h1).mp hc2
      have e : 10 * nI m + (ch p - 48) = nI (10 * m + (c - 48)) := by
        rw [h2, show (48 : Int32) = nI 48 from rfl, show (10 : Int32) = nI 10 from rfl, nI_mul, nI_sub h3.1, nI_add]
      rw [e]
      have e2 : (m + 1) * 10 ^ (d + 1) = (m + 1) * 10 * 10 ^ d := by rw [Nat.pow_succ, Nat.mul_assoc, Nat.mul_comm 10 (10 ^ d)]
      have e3 : (10 * m + (c - 48) + 1) * 10 ^ d ≤ (m + 1) * 10 * 10 ^ d := Nat.mul_le_mul_right _ (by omega)
      rw [e2] at hm ⊢
      obtain ⟨m', g1, g2⟩ := ru_num_b hch d (p + 1) (10 * m + (c - 48)) (Nat.le_trans e3 hm)
      exact ⟨m', g1, Nat.le_trans g2 e3⟩
    next => exact ⟨m, rfl, Nat.le_mul_of_pos_right _ (Nat.pow_pos (by omega))⟩
section DE
variable {cell len top l : Nat} {ch : Nat → Int32} {M : fd_M} {p : Nat}
theorem rp.l80 (h : rp cell len top l ch M) : l ≤ 80 := by have := h.2.2.2.1; have := h.2.2.2.2.1; omega
theorem rp.n182 (h : rp cell len top l ch M) (hp : p < l) : cell ≠ 182 := fun q => by
  obtain ⟨b1, -⟩ := h.2.2.2.2.2.2.2 p hp
  subst q
  have : fd_isA 182 1 (nI p) = false := rfl
  rw [this] at b1
  cases b1
theorem rp.fr (h : rp cell len top l ch M) {M' : fd_M} (e : fr21 M M') : rp cell len top l ch M' := by
  by_cases hl : 0 < l
  · exact h.cg (h.n182 hl) e.1
  · obtain ⟨a1, a2, a3, a4, a5, a6, a7, a8⟩ := h
    exact ⟨by rw [e.1 _ _ (Or.inr (by decide))]; exact a1, by rw [e.1 _ _ (Or.inr (by decide))]; exact a2, by rw [e.1 _ _ (Or.inr (by decide))]; exact a3, a4, a5, a6, a7, fun i hi => absurd (Nat.zero_lt_of_lt hi) hl⟩
theorem rp.dig (h : rp cell len top l ch M) (hp : p < l) : ∃ c, c < 256 ∧ ch p = nI c := by
  obtain ⟨-, c, h1, h2⟩ := h.2.2.2.2.2.2.2 p hp
  exact ⟨c, h1.1, h2⟩
theorem s_X12_number_t (h : rp cell len top l ch M) (hp : M.1 182 21 = nI p) (hp2 : p < l) (hw : M.1 182 22 = -1) (hdg : ru_dig (ch p) = true) {d : Nat} (hd1 : 1 ≤ d) (hd : d ≤ 3) : m_X12_number [.ref 182, .int (nI d)] M = some (.int (ru_num ch l d p 0).1, fd_uI M 182 21 (nI (ru_num ch l d p 0).2)) := by
  apply fd_of_run
  have hl := h.l80
  obtain ⟨c, hc1, hc2⟩ := h.dig hp2
  rw [hc2] at hdg
  have hc3 := (ru_dig_i hc1).mp hdg
  have e0 := s_X12_oneOf_t h hp hp2 hw (fi := 48) (ma := 10) (but := -1) hc2 hc3.1 (by omega) (by omega) (nI_m1 (by omega))
  have k48 : nI 48 = 48 := rfl
  have k10 : nI 10 = 10 := rfl
  rw [k48, k10] at e0
  unfold m_X12_number b_X12_number
  simp [↓wp_ldn, ↓wp_b1, ↓wp_b2, ↓wp_b2z, ↓wp_gf, ↓wp_gd, ↓wp_ga, ↓wp_gl, ↓wp_al2, ↓wp_pi, ↓wp_ltr, ↓wp_ite, ↓wp_and, ↓wp_or, ↓wp_not, ↓wp_cmp, ↓wp_cmz, ↓wp_isn, ↓wp_nsn, ↓wp_a0, ↓wp_a1, ↓wp_cv, ↓wp_cs, ↓wp_dr, ↓wp_sk, ↓wp_brk, ↓wp_cnt, ↓wp_rV, ↓wp_seq, ↓wp_iff, ↓wp_sI, ↓wp_sL, ↓wp_sN, ↓wp_inc, ↓wp_do, ↓wp_rI, ↓wp_rL, ↓wp_rN, ↓wp_rZ, ↓wp_pf, ↓wp_pz, ↓wp_pd, ↓wp_po, ↓wp_pl, ↓wp_pao, ↓wp_tsw, ↓wp_lsw, ↓wp_fn, ↓wq_ld, ↓wq_ldl, ↓wq_lda, ↓wq_c, ↓wq_gr, ↓wq_gq, ↓wq_nn, ↓wq_asI, ↓wq_asL, ↓wq_asN, ↓wq_pa, hO_182, hR_182_0, hF_182_1, hR_182_2, hF_182_3, hR_182_4, hF_182_5, hR_182_6, hR_182_7, hR_182_8, hF_182_9, hF_182_10, hF_182_11, hF_182_12, hR_182_13, hF_182_14, hR_182_15, hF_182_16, hF_182_17, hF_182_18, hF_182_19, hF_182_20, hF_182_21, hF_182_22, hR_182_23, hR_182_24, hF_182_25, hF_182_26, hR_182_27, hR_182_28, hR_182_29, hF_182_30, hF_182_31, hR_182_32, hR_182_33, hF_182_34, hR_182_35, hF_182_36, hF_182_37, hF_182_38, hF_182_39, hF_182_40, hR_182_41, hR_182_42, hR_182_43, hR_182_44, hR_182_45, hR_182_46, hF_182_47, hR_182_48, hR_182_49, hR_182_50, hR_182_51, hR_182_52, hF_182_53, hR_182_54, hR_182_55, hR_182_56, hR_182_57, hF_182_58, hR_182_59, hR_182_60, hR_182_61, fd_p_eq, fd_p_ne, fd_p_lt, fd_p_ge, fd_p_gt, fd_p_le, fd_f_iadd, fd_f_isub, fd_f_imul, fd_f_iand, fd_f_ior, fd_f_ixor, fd_f_ishl, fd_f_ishr, fd_f_iushr, fd_f_ladd, fd_f_lsub, fd_f_lmul, fd_f_lcmp, fd_f_idiv, fd_f_irem, fd_f_ldiv, fd_f_lrem, fd_f_ineg, fd_f_i2l, fd_f_l2i, fd_f_i2b, fd_f_i2s, fd_f_i2c, fd_z_idiv, fd_z_irem, fd_z_ldiv, fd_z_lrem, fd_in0, fd_sl, fd_st1, fd_st2, fd_kl, fd_vI, fd_vL, fd_vN, fd_ok1, fd_v_int, xI, xL, xR, xK, xG, yI, yL, yN, -Prod.exists, fd_run_of e0]
  obtain ⟨d', rfl⟩ : ∃ d', d = d' + 1 := ⟨d - 1, by omega⟩
  have hfirst : ru_num ch l d' (p + 1) (nI (c - 48)) = ru_num ch l (d' + 1) p 0 := by
    show _ = if p < l ∧ ru_dig (ch p) = true then ru_num ch l d' (p + 1) (10 * 0 + (ch p - 48)) else (0, p)
    rw [if_pos ⟨hp2, by rw [hc2]; exact hdg⟩, hc2, show (48 : Int32) = nI 48 from rfl, nI_sub hc3.1, show (10 : Int32) * 0 = 0 by decide, Int32.zero_add]
  obtain ⟨J, hJ⟩ : ∃ J : Nat → fd_S → Prop, J = fun m σ => ∃ (j q : Nat) (V : Int32), m + j = d' ∧ σ = ([.ref 182, .int (nI (d' + 1)), .int V, .int (nI (j + 1))], fd_uI M 182 21 (nI q)) ∧ q ≤ l ∧ ru_num ch l m q V = ru_num ch l (d' + 1) p 0 := ⟨_, rfl⟩
  refine wp_whl J (fun m σ hI => ?_) _ d' _ (fd_fu_lt (by omega)) (by rw [hJ]; exact ⟨0, p + 1, nI (c - 48), by omega, rfl, by omega, hfirst⟩)
  · rw [hJ] at hI
    obtain ⟨j, q, V, hj, rfl, hq, hnum⟩ := hI
    have fr : fr21 M (fd_uI M 182 21 (nI q)) := fr21.rf.at
    have h' := h.fr fr
    have hp' : (fd_uI M 182 21 (nI q)).1 182 21 = nI q := by rw [rd_I, if_pos rfl, if_pos rfl]
    have hw' : (fd_uI M 182 21 (nI q)).1 182 22 = -1 := by rw [rd_I, if_pos rfl, if_neg (by decide)]; exact hw
    have eh := s_X12_here h' hp' (by omega)
    cases m with
    | zero =>
      have b1 : ¬ nI (j + 1) < nI (d' + 1) := nI_nlt (by omega) (by omega)
      have hn : V = (ru_num ch l (d' + 1) p 0).1 ∧ q = (ru_num ch l (d' + 1) p 0).2 := by rw [← hnum]; exact ⟨rfl, rfl⟩
      simp [↓wp_ldn, ↓wp_b1, ↓wp_b2, ↓wp_b2z, ↓wp_gf, ↓wp_gd, ↓wp_ga, ↓wp_gl, ↓wp_al2, ↓wp_pi, ↓wp_ltr, ↓wp_ite, ↓wp_and, ↓wp_or, ↓wp_not, ↓wp_cmp, ↓wp_cmz, ↓wp_isn, ↓wp_nsn, ↓wp_a0, ↓wp_a1, ↓wp_cv, ↓wp_cs, ↓wp_dr, ↓wp_sk, ↓wp_brk, ↓wp_cnt, ↓wp_rV, ↓wp_seq, ↓wp_iff, ↓wp_sI, ↓wp_sL, ↓wp_sN, ↓wp_inc, ↓wp_do, ↓wp_rI, ↓wp_rL, ↓wp_rN, ↓wp_rZ, ↓wp_pf, ↓wp_pz, ↓wp_pd, ↓wp_po, ↓wp_pl, ↓wp_pao, ↓wp_tsw, ↓wp_lsw, ↓wp_fn, ↓wq_ld, ↓wq_ldl, ↓wq_lda, ↓wq_c, ↓wq_gr, ↓wq_gq, ↓wq_nn, ↓wq_asI, ↓wq_asL, ↓wq_asN, ↓wq_pa, hO_182, hR_182_0, hF_182_1, hR_182_2, hF_182_3, hR_182_4, hF_182_5, hR_182_6, hR_182_7, hR_182_8, hF_182_9, hF_182_10, hF_182_11, hF_182_12, hR_182_13, hF_182_14, hR_182_15, hF_182_16, hF_182_17, hF_182_18, hF_182_19, hF_182_20, hF_182_21, hF_182_22, hR_182_23, hR_182_24, hF_182_25, hF_182_26, hR_182_27, hR_182_28, hR_182_29, hF_182_30, hF_182_31, hR_182_32, hR_182_33, hF_182_34, hR_182_35, hF_182_36, hF_182_37, hF_182_38, hF_182_39, hF_182_40, hR_182_41, hR_182_42, hR_182_43, hR_182_44, hR_182_45, hR_182_46, hF_182_47, hR_182_48, hR_182_49, hR_182_50, hR_182_51, hR_182_52, hF_182_53, hR_182_54, hR_182_55, hR_182_56, hR_182_57, hF_182_58, hR_182_59, hR_182_60, hR_182_61, fd_p_eq, fd_p_ne, fd_p_lt, fd_p_ge, fd_p_gt, fd_p_le, fd_f_iadd, fd_f_isub, fd_f_imul, fd_f_iand, fd_f_ior, fd_f_ixor, fd_f_ishl, fd_f_ishr, fd_f_iushr, fd_f_ladd, fd_f_lsub, fd_f_lmul, fd_f_lcmp, fd_f_idiv, fd_f_irem, fd_f_ldiv, fd_f_lrem, fd_f_ineg, fd_f_i2l, fd_f_l2i, fd_f_i2b, fd_f_i2s, fd_f_i2c, fd_z_idiv, fd_z_irem, fd_z_ldiv, fd_z_lrem, fd_in0, fd_sl, fd_st1, fd_st2, fd_kl, fd_vI, fd_vL, fd_vN, fd_ok1, fd_v_int, xI, xL, xR, xK, xG, yI, yL, yN, -Prod.exists, b1, ← hn.1, ← hn.2]
    | succ m =>
      have b1 : nI (j + 1) < nI (d' + 1) := nI_lt (by omega) (by omega)
      rw [ru_num] at hnum
      by_cases hc : q < l ∧ ru_dig (ch q) = true
      · rw [if_pos hc] at hnum
        obtain ⟨c', g1, g2⟩ := h.dig hc.1
        have g3 := hc.2
        rw [g2] at g3
        have g4 := (ru_dig_i g1).mp g3
        rw [if_pos hc.1, g2] at eh
        have e1 := s_X12_oneOf_t h' hp' hc.1 hw' (fi := 48) (ma := 10) (but := -1) g2 g4.1 (by omega) (by omega) (nI_m1 (by omega))
        rw [k48, k10] at e1
        have l1 : (48 : Int32) ≤ nI c' := nI_le (a := 48) g4.1 (by omega)
        have l2 : nI c' ≤ 57 := nI_le (b := 57) g4.2 (by decide)
        simp [↓wp_ldn, ↓wp_b1, ↓wp_b2, ↓wp_b2z, ↓wp_gf, ↓wp_gd, ↓wp_ga, ↓wp_gl, ↓wp_al2, ↓wp_pi, ↓wp_ltr, ↓wp_ite, ↓wp_and, ↓wp_or, ↓wp_not, ↓wp_cmp, ↓wp_cmz, ↓wp_isn, ↓wp_nsn, ↓wp_a0, ↓wp_a1, ↓wp_cv, ↓wp_cs, ↓wp_dr, ↓wp_sk, ↓wp_brk, ↓wp_cnt, ↓wp_rV, ↓wp_seq, ↓wp_iff, ↓wp_sI, ↓wp_sL, ↓wp_sN, ↓wp_inc, ↓wp_do, ↓wp_rI, ↓wp_rL, ↓wp_rN, ↓wp_rZ, ↓wp_pf, ↓wp_pz, ↓wp_pd, ↓wp_po, ↓wp_pl, ↓wp_pao, ↓wp_tsw, ↓wp_lsw, ↓wp_fn, ↓wq_ld, ↓wq_ldl, ↓wq_lda, ↓wq_c, ↓wq_gr, ↓wq_gq, ↓wq_nn, ↓wq_asI, ↓wq_asL, ↓wq_asN, ↓wq_pa, hO_182, hR_182_0, hF_182_1, hR_182_2, hF_182_3, hR_182_4, hF_182_5, hR_182_6, hR_182_7, hR_182_8, hF_182_9, hF_182_10, hF_182_11, hF_182_12, hR_182_13, hF_182_14, hR_182_15, hF_182_16, hF_182_17, hF_182_18, hF_182_19, hF_182_20, hF_182_21, hF_182_22, hR_182_23, hR_182_24, hF_182_25, hF_182_26, hR_182_27, hR_182_28, hR_182_29, hF_182_30, hF_182_31, hR_182_32, hR_182_33, hF_182_34, hR_182_35, hF_182_36, hF_182_37, hF_182_38, hF_182_39, hF_182_40, hR_182_41, hR_182_42, hR_182_43, hR_182_44, hR_182_45, hR_182_46, hF_182_47, hR_182_48, hR_182_49, hR_182_50, hR_182_51, hR_182_52, hF_182_53, hR_182_54, hR_182_55, hR_182_56, hR_182_57, hF_182_58, hR_182_59, hR_182_60, hR_182_61, fd_p_eq, fd_p_ne, fd_p_lt, fd_p_ge, fd_p_gt, fd_p_le, fd_f_iadd, fd_f_isub, fd_f_imul, fd_f_iand, fd_f_ior, fd_f_ixor, fd_f_ishl, fd_f_ishr, fd_f_iushr, fd_f_ladd, fd_f_lsub, fd_f_lmul, fd_f_lcmp, fd_f_idiv, fd_f_irem, fd_f_ldiv, fd_f_lrem, fd_f_ineg, fd_f_i2l, fd_f_l2i, fd_f_i2b, fd_f_i2s, fd_f_i2c, fd_z_idiv, fd_z_irem, fd_z_ldiv, fd_z_lrem, fd_in0, fd_sl, fd_st1, fd_st2, fd_kl, fd_vI, fd_vL, fd_vN, fd_ok1, fd_v_int, xI, xL, xR, xK, xG, yI, yL, yN, -Prod.exists, b1, fd_run_of (s_X12_fine_t hw'), fd_run_of eh, fd_run_of (s_X12_in _ _ _ _), l1, l2, fd_run_of e1, uI_uI, nI_1]
        rw [hJ]
        refine ⟨m, by omega, j + 1, q + 1, _, by omega, rfl, by omega, ?_⟩
        rw [← hnum, g2, show (48 : Int32) = nI 48 from rfl, nI_sub g4.1]
      · rw [if_neg hc] at hnum
        have hn : V = (ru_num ch l (d' + 1) p 0).1 ∧ q = (ru_num ch l (d' + 1) p 0).2 := by rw [← hnum]; exact ⟨rfl, rfl⟩
        by_cases hql : q < l
        · obtain ⟨c', g1, g2⟩ := h.dig hql
          rw [if_pos hql, g2] at eh
          have g4 : ¬ (48 ≤ c' ∧ c' ≤ 57) := fun z => hc ⟨hql, by rw [g2]; exact (ru_dig_i g1).mpr z⟩
          have l1 : ¬ ((48 : Int32) ≤ nI c' ∧ nI c' ≤ 57) := fun z => g4 ⟨(nI_leI (a := 48) (by decide) (by omega)).mp z.1, (nI_leI (b := 57) (by omega) (by decide)).mp z.2⟩
          simp [↓wp_ldn, ↓wp_b1, ↓wp_b2, ↓wp_b2z, ↓wp_gf, ↓wp_gd, ↓wp_ga, ↓wp_gl, ↓wp_al2, ↓wp_pi, ↓wp_ltr, ↓wp_ite, ↓wp_and, ↓wp_or, ↓wp_not, ↓wp_cmp, ↓wp_cmz, ↓wp_isn, ↓wp_nsn, ↓wp_a0, ↓wp_a1, ↓wp_cv, ↓wp_cs, ↓wp_dr, ↓wp_sk, ↓wp_brk, ↓wp_cnt, ↓wp_rV, ↓wp_seq, ↓wp_iff, ↓wp_sI, ↓wp_sL, ↓wp_sN, ↓wp_inc, ↓wp_do, ↓wp_rI, ↓wp_rL, ↓wp_rN, ↓wp_rZ, ↓wp_pf, ↓wp_pz, ↓wp_pd, ↓wp_po, ↓wp_pl, ↓wp_pao, ↓wp_tsw, ↓wp_lsw, ↓wp_fn, ↓wq_ld, ↓wq_ldl, ↓wq_lda, ↓wq_c, ↓wq_gr, ↓wq_gq, ↓wq_nn, ↓wq_asI, ↓wq_asL, ↓wq_asN, ↓wq_pa, hO_182, hR_182_0, hF_182_1, hR_182_2, hF_182_3, hR_182_4, hF_182_5, hR_182_6, hR_182_7, hR_182_8, hF_182_9, hF_182_10, hF_182_11, hF_182_12, hR_182_13, hF_182_14, hR_182_15, hF_182_16, hF_182_17, hF_182_18, hF_182_19, hF_182_20, hF_182_21, hF_182_22, hR_182_23, hR_182_24, hF_182_25, hF_182_26, hR_182_27, hR_182_28, hR_182_29, hF_182_30, hF_182_31, hR_182_32, hR_182_33, hF_182_34, hR_182_35, hF_182_36, hF_182_37, hF_182_38, hF_182_39, hF_182_40, hR_182_41, hR_182_42, hR_182_43, hR_182_44, hR_182_45, hR_182_46, hF_182_47, hR_182_48, hR_182_49, hR_182_50, hR_182_51, hR_182_52, hF_182_53, hR_182_54, hR_182_55, hR_182_56, hR_182_57, hF_182_58, hR_182_59, hR_182_60, hR_182_61, fd_p_eq, fd_p_ne, fd_p_lt, fd_p_ge, fd_p_gt, fd_p_le, fd_f_iadd, fd_f_isub, fd_f_imul, fd_f_iand, fd_f_ior, fd_f_ixor, fd_f_ishl, fd_f_ishr, fd_f_iushr, fd_f_ladd, fd_f_lsub, fd_f_lmul, fd_f_lcmp, fd_f_idiv, fd_f_irem, fd_f_ldiv, fd_f_lrem, fd_f_ineg, fd_f_i2l, fd_f_l2i, fd_f_i2b, fd_f_i2s, fd_f_i2c, fd_z_idiv, fd_z_irem, fd_z_ldiv, fd_z_lrem, fd_in0, fd_sl, fd_st1, fd_st2, fd_kl, fd_vI, fd_vL, fd_vN, fd_ok1, fd_v_int, xI, xL, xR, xK, xG, yI, yL, yN, -Prod.exists, b1, fd_run_of (s_X12_fine_t hw'), fd_run_of eh, fd_run_of (s_X12_in _ _ _ _), l1, ← hn.1, ← hn.2]
        · rw [if_neg hql] at eh
          have l1 : ¬ ((48 : Int32) ≤ -1 ∧ (-1 : Int32) ≤ 57) := by decide
          simp [↓wp_ldn, ↓wp_b1, ↓wp_b2, ↓wp_b2z, ↓wp_gf, ↓wp_gd, ↓wp_ga, ↓wp_gl, ↓wp_al2, ↓wp_pi, ↓wp_ltr, ↓wp_ite, ↓wp_and, ↓wp_or, ↓wp_not, ↓wp_cmp, ↓wp_cmz, ↓wp_isn, ↓wp_nsn, ↓wp_a0, ↓wp_a1, ↓wp_cv, ↓wp_cs, ↓wp_dr, ↓wp_sk, ↓wp_brk, ↓wp_cnt, ↓wp_rV, ↓wp_seq, ↓wp_iff, ↓wp_sI, ↓wp_sL, ↓wp_sN, ↓wp_inc, ↓wp_do, ↓wp_rI, ↓wp_rL, ↓wp_rN, ↓wp_rZ, ↓wp_pf, ↓wp_pz, ↓wp_pd, ↓wp_po, ↓wp_pl, ↓wp_pao, ↓wp_tsw, ↓wp_lsw, ↓wp_fn, ↓wq_ld, ↓wq_ldl, ↓wq_lda, ↓wq_c, ↓wq_gr, ↓wq_gq, ↓wq_nn, ↓wq_asI, ↓wq_asL, ↓wq_asN, ↓wq_pa, hO_182, hR_182_0, hF_182_1, hR_182_2, hF_182_3, hR_182_4, hF_182_5, hR_182_6, hR_182_7, hR_182_8, hF_182_9, hF_182_10, hF_182_11, hF_182_12, hR_182_13, hF_182_14, hR_182_15, hF_182_16, hF_182_17, hF_182_18, hF_182_19, hF_182_20, hF_182_21, hF_182_22, hR_182_23, hR_182_24, hF_182_25, hF_182_26, hR_182_27, hR_182_28, hR_182_29, hF_182_30, hF_182_31, hR_182_32, hR_182_33, hF_182_34, hR_182_35, hF_182_36, hF_182_37, hF_182_38, hF_182_39, hF_182_40, hR_182_41, hR_182_42, hR_182_43, hR_182_44, hR_182_45, hR_182_46, hF_182_47, hR_182_48, hR_182_49, hR_182_50, hR_182_51, hR_182_52, hF_182_53, hR_182_54, hR_182_55, hR_182_56, hR_182_57, hF_182_58, hR_182_59, hR_182_60, hR_182_61, fd_p_eq, fd_p_ne, fd_p_lt, fd_p_ge, fd_p_gt, fd_p_le, fd_f_iadd, fd_f_isub, fd_f_imul, fd_f_iand, fd_f_ior, fd_f_ixor, fd_f_ishl, fd_f_ishr, fd_f_iushr, fd_f_ladd, fd_f_lsub, fd_f_lmul, fd_f_lcmp, fd_f_idiv, fd_f_irem, fd_f_ldiv, fd_f_lrem, fd_f_ineg, fd_f_i2l, fd_f_l2i, fd_f_i2b, fd_f_i2s, fd_f_i2c, fd_z_idiv, fd_z_irem, fd_z_ldiv, fd_z_lrem, fd_in0, fd_sl, fd_st1, fd_st2, fd_kl, fd_vI, fd_vL, fd_vN, fd_ok1, fd_v_int, xI, xL, xR, xK, xG, yI, yL, yN, -Prod.exists, b1, fd_run_of (s_X12_fine_t hw'), fd_run_of eh, fd_run_of (s_X12_in _ _ _ _), l1, ← hn.1, ← hn.2]
end DE
