/-! the reference goes a night, and nights -/
theorem s_X12_goNight {M : fd_M} {w : wl} {S : sto} {c x : Nat} (hc : c = 183 ∨ c = 213) (hw : wd w M) (hS : mst w.f c 0 S M) (hok : sok w.v w.f 1500000 S) (hx : x < w.v) (ha : S.a < w.v) {Q : fd_M → Prop} (hQ : ∀ M2, mst w.f c 0 (w_go w S x) M2 → M2.1 182 36 = bc (nI (w_bits w S x)) → M2.1 182 37 = nI (w_paid w (w_bits w S x) (w_half S)) → M2.1 182 38 = nI (w.D S.a x) → fP (pM c) M M2 → Q M2) : fd_run m_X12_goNight [.ref 182, .ref c, .int (nI x)] M (fun _ M2 => Q M2) := by
  have main := fun c6 c7 => s_bt_gon (nb := 0) (c6 := c6) (c7 := c7) hc hw hS hok hx ha hQ
  obtain ⟨g5, g0, g1, g2, g3, g4, g6, g7⟩ := hS
  obtain ⟨o1, o2, o3, o4, o5, o6⟩ := hok
  have hv := hw.1.1
  have hf := hw.2.1.1
  have hb8 : 2 ^ w.f ≤ 256 := Nat.pow_le_pow_right (n := 2) (by omega) hf
  have nc : ¬ c = 182 := by omega
  have nc' : ¬ 182 = c := by omega
  have f1 : fP (pM c) M (fd_uI (fd_uI M 182 38 (nI (w.D S.a x))) c 0 (nI x)) := fP.uI (fP.uI fP.rf (by unfold pM; omega)) (Or.inl rfl)
  have w1 := f1.wdM hc hw
  have z0 : (0 : Int32).toNatClampNeg = 0 := rfl
  have z1 : (1 : Int32).toNatClampNeg = 1 := rfl
  have z3 : (3 : Int32).toNatClampNeg = 3 := rfl
  have z5 : (5 : Int32).toNatClampNeg = 5 := rfl
  have z6 : (6 : Int32).toNatClampNeg = 6 := rfl
  have y0 : fd_isA c 0 0 = true := hA_183' hc (i := 0) (by omega)
  have y1 : fd_isA c 0 1 = true := hA_183' hc (i := 1) (by omega)
  have y3 : fd_isA c 0 3 = true := hA_183' hc (i := 3) (by omega)
  have y5 : fd_isA c 0 5 = true := hA_183' hc (i := 5) (by omega)
  have y6 : fd_isA c 0 6 = true := hA_183' hc (i := 6) (by omega)
  have ew := s_X12_wayOf hv ha hx hw.1.2.2.2.2.2.1 hw.1.2.2.2.2.2.2
  have r0 : M.1 c 0 = nI S.a := g0
  have r1 : M.1 c 1 = S.T := by have := g1; rwa [Nat.zero_add] at this
  have r3 : M.1 c 3 = nI S.s := by have := g3; rwa [Nat.zero_add] at this
  have r5 : M.1 c 5 = nI S.n := by have := g5; rwa [Nat.zero_add] at this
  have r6 : M.1 c 6 = nI S.pl := by have := g6; rwa [Nat.zero_add] at this
  have ef := s_X12_feastsAt (M := fd_uI (fd_uI M 182 38 (nI (w.D S.a x))) c 0 (nI x)) (w := w) (S := S) (x := x) hc w1.2.1 hv (fun i hi => by
    simp only [rd_I, if_true, show ¬ 0 + (7 + i) = 0 by omega, show ¬ 0 + (15 + i) = 0 by omega, if_false, nc]
    exact g7 i hi) o6 (by omega) (by omega)
  obtain ⟨_, _, _, _, _, t1, _, t2, _⟩ := hw.2.2.1
  unfold m_X12_goNight
  rw [bt_gon_eq]
  by_cases c1 : 0 < S.s
  · have b1 : ¬ nI S.s = 0 := nI_ne0 c1 (by omega)
    by_cases c2 : w.lf ≤ nI S.n ∧ nI S.n ≤ w.lt
    · have e : w_bits w S x = 0 := by
        unfold w_bits w_plays
        rw [if_neg (by simp [c1, c2])]
      rw [e] at main
      simp only [nI_0] at main
      simp [↓wp_ldn, ↓wp_b1, ↓wp_b2, ↓wp_b2z, ↓wp_gf, ↓wp_gd, ↓wp_ga, ↓wp_gl, ↓wp_al2, ↓wp_pi, ↓wp_ltr, ↓wp_ite, ↓wp_and, ↓wp_or, ↓wp_not, ↓wp_cmp, ↓wp_cmz, ↓wp_isn, ↓wp_nsn, ↓wp_a0, ↓wp_a1, ↓wp_cv, ↓wp_cs, ↓wp_dr, ↓wp_sk, ↓wp_brk, ↓wp_cnt, ↓wp_rV, ↓wp_seq, ↓wp_iff, ↓wp_sI, ↓wp_sL, ↓wp_sN, ↓wp_inc, ↓wp_do, ↓wp_rI, ↓wp_rL, ↓wp_rN, ↓wp_rZ, ↓wp_pf, ↓wp_pz, ↓wp_pd, ↓wp_po, ↓wp_pl, ↓wp_pao, ↓wp_tsw, ↓wp_lsw, ↓wp_fn, ↓wq_ld, ↓wq_ldl, ↓wq_lda, ↓wq_c, ↓wq_gr, ↓wq_gq, ↓wq_nn, ↓wq_asI, ↓wq_asL, ↓wq_asN, ↓wq_pa, hO_182, hR_182_0, hF_182_1, hR_182_2, hF_182_3, hR_182_4, hF_182_5, hR_182_6, hR_182_7, hR_182_8, hF_182_9, hF_182_10, hF_182_11, hF_182_12, hR_182_13, hF_182_14, hR_182_15, hF_182_16, hF_182_17, hF_182_18, hF_182_19, hF_182_20, hF_182_21, hF_182_22, hR_182_23, hR_182_24, hF_182_25, hF_182_26, hR_182_27, hR_182_28, hR_182_29, hF_182_30, hF_182_31, hR_182_32, hR_182_33, hF_182_34, hR_182_35, hF_182_36, hF_182_37, hF_182_38, hF_182_39, hF_182_40, hR_182_41, hR_182_42, hR_182_43, hR_182_44, hR_182_45, hR_182_46, hF_182_47, hR_182_48, hR_182_49, hR_182_50, hR_182_51, hR_182_52, hF_182_53, hR_182_54, hR_182_55, hR_182_56, hR_182_57, hF_182_58, hR_182_59, hR_182_60, hR_182_61, fd_p_eq, fd_p_ne, fd_p_lt, fd_p_ge, fd_p_gt, fd_p_le, fd_f_iadd, fd_f_isub, fd_f_imul, fd_f_iand, fd_f_ior, fd_f_ixor, fd_f_ishl, fd_f_ishr, fd_f_iushr, fd_f_ladd, fd_f_lsub, fd_f_lmul, fd_f_lcmp, fd_f_idiv, fd_f_irem, fd_f_ldiv, fd_f_lrem, fd_f_ineg, fd_f_i2l, fd_f_l2i, fd_f_i2b, fd_f_i2s, fd_f_i2c, fd_z_idiv, fd_z_irem, fd_z_ldiv, fd_z_lrem, fd_in0, fd_sl, fd_st1, fd_st2, fd_kl, fd_vI, fd_vL, fd_vN, fd_ok1, fd_v_int, xI, xL, xR, xK, xG, yI, yL, yN, -Prod.exists, y0, y1, y3, y5, y6, z0, z1, z3, z5, z6, rd_I, nc, nc', r0, r1, r3, r5, r6, fd_run_of ew, b1, fd_run_of (s_X12_isLent _ _), t1, t2, c2]
      exact wp_mono (main _ _) (fun z v s h => by simp [h.1, h.2])
    · have e : w_bits w S x = bq (fun i => decide (w.A i = x) && decide (S.X i ≤ S.n) && decide (S.n ≤ S.Y i) && !S.pl.testBit i) w.f := by
        unfold w_bits w_plays
        rw [if_pos (by simp only [decide_eq_true c1, decide_eq_false c2]; rfl)]
      have ea : nI (bq (fun i => decide (w.A i = x) && decide (S.X i ≤ S.n) && decide (S.n ≤ S.Y i)) w.f) &&& (nI S.pl ^^^ -1) = nI (w_bits w S x) := by
        rw [e]
        refine fa_andn (fun i hi => ?_)
        rw [bq_tb, bq_tb]
        simp [Bool.and_assoc]
      have eb : nI S.pl ^^^ -1 = ~~~ nI S.pl := by simp
      rw [eb] at ea
      simp [↓wp_ldn, ↓wp_b1, ↓wp_b2, ↓wp_b2z, ↓wp_gf, ↓wp_gd, ↓wp_ga, ↓wp_gl, ↓wp_al2, ↓wp_pi, ↓wp_ltr, ↓wp_ite, ↓wp_and, ↓wp_or, ↓wp_not, ↓wp_cmp, ↓wp_cmz, ↓wp_isn, ↓wp_nsn, ↓wp_a0, ↓wp_a1, ↓wp_cv, ↓wp_cs, ↓wp_dr, ↓wp_sk, ↓wp_brk, ↓wp_cnt, ↓wp_rV, ↓wp_seq, ↓wp_iff, ↓wp_sI, ↓wp_sL, ↓wp_sN, ↓wp_inc, ↓wp_do, ↓wp_rI, ↓wp_rL, ↓wp_rN, ↓wp_rZ, ↓wp_pf, ↓wp_pz, ↓wp_pd, ↓wp_po, ↓wp_pl, ↓wp_pao, ↓wp_tsw, ↓wp_lsw, ↓wp_fn, ↓wq_ld, ↓wq_ldl, ↓wq_lda, ↓wq_c, ↓wq_gr, ↓wq_gq, ↓wq_nn, ↓wq_asI, ↓wq_asL, ↓wq_asN, ↓wq_pa, hO_182, hR_182_0, hF_182_1, hR_182_2, hF_182_3, hR_182_4, hF_182_5, hR_182_6, hR_182_7, hR_182_8, hF_182_9, hF_182_10, hF_182_11, hF_182_12, hR_182_13, hF_182_14, hR_182_15, hF_182_16, hF_182_17, hF_182_18, hF_182_19, hF_182_20, hF_182_21, hF_182_22, hR_182_23, hR_182_24, hF_182_25, hF_182_26, hR_182_27, hR_182_28, hR_182_29, hF_182_30, hF_182_31, hR_182_32, hR_182_33, hF_182_34, hR_182_35, hF_182_36, hF_182_37, hF_182_38, hF_182_39, hF_182_40, hR_182_41, hR_182_42, hR_182_43, hR_182_44, hR_182_45, hR_182_46, hF_182_47, hR_182_48, hR_182_49, hR_182_50, hR_182_51, hR_182_52, hF_182_53, hR_182_54, hR_182_55, hR_182_56, hR_182_57, hF_182_58, hR_182_59, hR_182_60, hR_182_61, fd_p_eq, fd_p_ne, fd_p_lt, fd_p_ge, fd_p_gt, fd_p_le, fd_f_iadd, fd_f_isub, fd_f_imul, fd_f_iand, fd_f_ior, fd_f_ixor, fd_f_ishl, fd_f_ishr, fd_f_iushr, fd_f_ladd, fd_f_lsub, fd_f_lmul, fd_f_lcmp, fd_f_idiv, fd_f_irem, fd_f_ldiv, fd_f_lrem, fd_f_ineg, fd_f_i2l, fd_f_l2i, fd_f_i2b, fd_f_i2s, fd_f_i2c, fd_z_idiv, fd_z_irem, fd_z_ldiv, fd_z_lrem, fd_in0, fd_sl, fd_st1, fd_st2, fd_kl, fd_vI, fd_vL, fd_vN, fd_ok1, fd_v_int, xI, xL, xR, xK, xG, yI, yL, yN, -Prod.exists, y0, y1, y3, y5, y6, z0, z1, z3, z5, z6, rd_I, nc, nc', r0, r1, r3, r5, r6, fd_run_of ew, b1, fd_run_of (s_X12_isLent _ _), t1, t2, c2, fd_run_of ef, ea]
      exact wp_mono (main _ _) (fun z v s h => by simp [h.1, h.2])
  · have e : w_bits w S x = 0 := by
      unfold w_bits w_plays
      rw [if_neg (by simp [c1])]
    have b1 : nI S.s = 0 := by rw [show S.s = 0 by omega]; rfl
    rw [e] at main
    simp only [nI_0, b1] at main
    by_cases c2 : w.lf ≤ nI S.n ∧ nI S.n ≤ w.lt
    · simp [↓wp_ldn, ↓wp_b1, ↓wp_b2, ↓wp_b2z, ↓wp_gf, ↓wp_gd, ↓wp_ga, ↓wp_gl, ↓wp_al2, ↓wp_pi, ↓wp_ltr, ↓wp_ite, ↓wp_and, ↓wp_or, ↓wp_not, ↓wp_cmp, ↓wp_cmz, ↓wp_isn, ↓wp_nsn, ↓wp_a0, ↓wp_a1, ↓wp_cv, ↓wp_cs, ↓wp_dr, ↓wp_sk, ↓wp_brk, ↓wp_cnt, ↓wp_rV, ↓wp_seq, ↓wp_iff, ↓wp_sI, ↓wp_sL, ↓wp_sN, ↓wp_inc, ↓wp_do, ↓wp_rI, ↓wp_rL, ↓wp_rN, ↓wp_rZ, ↓wp_pf, ↓wp_pz, ↓wp_pd, ↓wp_po, ↓wp_pl, ↓wp_pao, ↓wp_tsw, ↓wp_lsw, ↓wp_fn, ↓wq_ld, ↓wq_ldl, ↓wq_lda, ↓wq_c, ↓wq_gr, ↓wq_gq, ↓wq_nn, ↓wq_asI, ↓wq_asL, ↓wq_asN, ↓wq_pa, hO_182, hR_182_0, hF_182_1, hR_182_2, hF_182_3, hR_182_4, hF_182_5, hR_182_6, hR_182_7, hR_182_8, hF_182_9, hF_182_10, hF_182_11, hF_182_12, hR_182_13, hF_182_14, hR_182_15, hF_182_16, hF_182_17, hF_182_18, hF_182_19, hF_182_20, hF_182_21, hF_182_22, hR_182_23, hR_182_24, hF_182_25, hF_182_26, hR_182_27, hR_182_28, hR_182_29, hF_182_30, hF_182_31, hR_182_32, hR_182_33, hF_182_34, hR_182_35, hF_182_36, hF_182_37, hF_182_38, hF_182_39, hF_182_40, hR_182_41, hR_182_42, hR_182_43, hR_182_44, hR_182_45, hR_182_46, hF_182_47, hR_182_48, hR_182_49, hR_182_50, hR_182_51, hR_182_52, hF_182_53, hR_182_54, hR_182_55, hR_182_56, hR_182_57, hF_182_58, hR_182_59, hR_182_60, hR_182_61, fd_p_eq, fd_p_ne, fd_p_lt, fd_p_ge, fd_p_gt, fd_p_le, fd_f_iadd, fd_f_isub, fd_f_imul, fd_f_iand, fd_f_ior, fd_f_ixor, fd_f_ishl, fd_f_ishr, fd_f_iushr, fd_f_ladd, fd_f_lsub, fd_f_lmul, fd_f_lcmp, fd_f_idiv, fd_f_irem, fd_f_ldiv, fd_f_lrem, fd_f_ineg, fd_f_i2l, fd_f_l2i, fd_f_i2b, fd_f_i2s, fd_f_i2c, fd_z_idiv, fd_z_irem, fd_z_ldiv, fd_z_lrem, fd_in0, fd_sl, fd_st1, fd_st2, fd_kl, fd_vI, fd_vL, fd_vN, fd_ok1, fd_v_int, xI, xL, xR, xK, xG, yI, yL, yN, -Prod.exists, y0, y1, y3, y5, y6, z0, z1, z3, z5, z6, rd_I, nc, nc', r0, r1, r3, r5, r6, fd_run_of ew, b1, fd_run_of (s_X12_isLent _ _), t1, t2, c2]
      exact wp_mono (main _ _) (fun z v s h => by simp [h.1, h.2])
    · simp [↓wp_ldn, ↓wp_b1, ↓wp_b2, ↓wp_b2z, ↓wp_gf, ↓wp_gd, ↓wp_ga, ↓wp_gl, ↓wp_al2, ↓wp_pi, ↓wp_ltr, ↓wp_ite, ↓wp_and, ↓wp_or, ↓wp_not, ↓wp_cmp, ↓wp_cmz, ↓wp_isn, ↓wp_nsn, ↓wp_a0, ↓wp_a1, ↓wp_cv, ↓wp_cs, ↓wp_dr, ↓wp_sk, ↓wp_brk, ↓wp_cnt, ↓wp_rV, ↓wp_seq, ↓wp_iff, ↓wp_sI, ↓wp_sL, ↓wp_sN, ↓wp_inc, ↓wp_do, ↓wp_rI, ↓wp_rL, ↓wp_rN, ↓wp_rZ, ↓wp_pf, ↓wp_pz, ↓wp_pd, ↓wp_po, ↓wp_pl, ↓wp_pao, ↓wp_tsw, ↓wp_lsw, ↓wp_fn, ↓wq_ld, ↓wq_ldl, ↓wq_lda, ↓wq_c, ↓wq_gr, ↓wq_gq, ↓wq_nn, ↓wq_asI, ↓wq_asL, ↓wq_asN, ↓wq_pa, hO_182, hR_182_0, hF_182_1, hR_182_2, hF_182_3, hR_182_4, hF_182_5, hR_182_6, hR_182_7, hR_182_8, hF_182_9, hF_182_10, hF_182_11, hF_182_12, hR_182_13, hF_182_14, hR_182_15, hF_182_16, hF_182_17, hF_182_18, hF_182_19, hF_182_20, hF_182_21, hF_182_22, hR_182_23, hR_182_24, hF_182_25, hF_182_26, hR_182_27, hR_182_28, hR_182_29, hF_182_30, hF_182_31, hR_182_32, hR_182_33, hF_182_34, hR_182_35, hF_182_36, hF_182_37, hF_182_38, hF_182_39, hF_182_40, hR_182_41, hR_182_42, hR_182_43, hR_182_44, hR_182_45, hR_182_46, hF_182_47, hR_182_48, hR_182_49, hR_182_50, hR_182_51, hR_182_52, hF_182_53, hR_182_54, hR_182_55, hR_182_56, hR_182_57, hF_182_58, hR_182_59, hR_182_60, hR_182_61, fd_p_eq, fd_p_ne, fd_p_lt, fd_p_ge, fd_p_gt, fd_p_le, fd_f_iadd, fd_f_isub, fd_f_imul, fd_f_iand, fd_f_ior, fd_f_ixor, fd_f_ishl, fd_f_ishr, fd_f_iushr, fd_f_ladd, fd_f_lsub, fd_f_lmul, fd_f_lcmp, fd_f_idiv, fd_f_irem, fd_f_ldiv, fd_f_lrem, fd_f_ineg, fd_f_i2l, fd_f_l2i, fd_f_i2b, fd_f_i2s, fd_f_i2c, fd_z_idiv, fd_z_irem, fd_z_ldiv, fd_z_lrem, fd_in0, fd_sl, fd_st1, fd_st2, fd_kl, fd_vI, fd_vL, fd_vN, fd_ok1, fd_v_int, xI, xL, xR, xK, xG, yI, yL, yN, -Prod.exists, y0, y1, y3, y5, y6, z0, z1, z3, z5, z6, rd_I, nc, nc', r0, r1, r3, r5, r6, fd_run_of ew, b1, fd_run_of (s_X12_isLent _ _), t1, t2, c2]
      exact wp_mono (main _ _) (fun z v s h => by simp [h.1, h.2])
/-- what nights in a place touch at the reference -/
def pT (c a j : Nat) : Prop := pM c a j ∨ (a = 182 ∧ (j = 39 ∨ j = 40))
theorem pT_cl {c : Nat} (hc : c = 183 ∨ c = 213) (a j : Nat) (h : pT c a j) : cl a j ∈ [0, 7] := by
  rcases h with h | ⟨rfl, h⟩
  · exact pM_cl hc a j h
  · rcases h with rfl | rfl <;> simp [cl, cl_182]
theorem fP.wdT {c : Nat} (hc : c = 183 ∨ c = 213) {w : wl} {M M' : fd_M} (h : fP (pT c) M M') (hw : wd w M) : wd w M' := hw.cg (h.sm (pT_cl hc)) (by decide) (by decide) (by decide) (by decide)
theorem s_X12_goStay {M : fd_M} {w : wl} {S : sto} {n : Nat} (hw : wd w M) (hS : mst w.f 183 0 S M) (hok : sok w.v w.f 1400000 S) (ha : S.a < w.v) (hn : n ≤ 60) {Q : fd_M → Prop} (hQ : ∀ M2, mst w.f 183 0 (w_st w S n) M2 → M2.1 182 39 = M.1 182 39 + w_sr w S n → M2.1 182 40 = M.1 182 40 + w_sp w S n → fP (pT 183) M M2 → Q M2) : fd_run m_X12_goStay [.ref 182, .ref 183, .int (nI n)] M (fun _ M2 => Q M2) := by
  have hf := hw.2.1.1
  have y0 : fd_isA 183 0 0 = true := hA_183 (i := 0) (by omega)
  have z0 : (0 : Int32).toNatClampNeg = 0 := rfl
  unfold m_X12_goStay b_X12_goStay
  simp [↓wp_ldn, ↓wp_b1, ↓wp_b2, ↓wp_b2z, ↓wp_gf, ↓wp_gd, ↓wp_ga, ↓wp_gl, ↓wp_al2, ↓wp_pi, ↓wp_ltr, ↓wp_ite, ↓wp_and, ↓wp_or, ↓wp_not, ↓wp_cmp, ↓wp_cmz, ↓wp_isn, ↓wp_nsn, ↓wp_a0, ↓wp_a1, ↓wp_cv, ↓wp_cs, ↓wp_dr, ↓wp_sk, ↓wp_brk, ↓wp_cnt, ↓wp_rV, ↓wp_seq, ↓wp_iff, ↓wp_sI, ↓wp_sL, ↓wp_sN, ↓wp_inc, ↓wp_do, ↓wp_rI, ↓wp_rL, ↓wp_rN, ↓wp_rZ, ↓wp_pf, ↓wp_pz, ↓wp_pd, ↓wp_po, ↓wp_pl, ↓wp_pao, ↓wp_tsw, ↓wp_lsw, ↓wp_fn, ↓wq_ld, ↓wq_ldl, ↓wq_lda, ↓wq_c, ↓wq_gr, ↓wq_gq, ↓wq_nn, ↓wq_asI, ↓wq_asL, ↓wq_asN, ↓wq_pa, hO_182, hR_182_0, hF_182_1, hR_182_2, hF_182_3, hR_182_4, hF_182_5, hR_182_6, hR_182_7, hR_182_8, hF_182_9, hF_182_10, hF_182_11, hF_182_12, hR_182_13, hF_182_14, hR_182_15, hF_182_16, hF_182_17, hF_182_18, hF_182_19, hF_182_20, hF_182_21, hF_182_22, hR_182_23, hR_182_24, hF_182_25, hF_182_26, hR_182_27, hR_182_28, hR_182_29, hF_182_30, hF_182_31, hR_182_32, hR_182_33, hF_182_34, hR_182_35, hF_182_36, hF_182_37, hF_182_38, hF_182_39, hF_182_40, hR_182_41, hR_182_42, hR_182_43, hR_182_44, hR_182_45, hR_182_46, hF_182_47, hR_182_48, hR_182_49, hR_182_50, hR_182_51, hR_182_52, hF_182_53, hR_182_54, hR_182_55, hR_182_56, hR_182_57, hF_182_58, hR_182_59, hR_182_60, hR_182_61, fd_p_eq, fd_p_ne, fd_p_lt, fd_p_ge, fd_p_gt, fd_p_le, fd_f_iadd, fd_f_isub, fd_f_imul, fd_f_iand, fd_f_ior, fd_f_ixor, fd_f_ishl, fd_f_ishr, fd_f_iushr, fd_f_ladd, fd_f_lsub, fd_f_lmul, fd_f_lcmp, fd_f_idiv, fd_f_irem, fd_f_ldiv, fd_f_lrem, fd_f_ineg, fd_f_i2l, fd_f_l2i, fd_f_i2b, fd_f_i2s, fd_f_i2c, fd_z_idiv, fd_z_irem, fd_z_ldiv, fd_z_lrem, fd_in0, fd_sl, fd_st1, fd_st2, fd_kl, fd_vI, fd_vL, fd_vN, fd_ok1, fd_v_int, xI, xL, xR, xK, xG, yI, yL, yN, -Prod.exists]
  obtain ⟨J, hJ⟩ : ∃ J : Nat → fd_S → Prop, J = fun i σ => ∃ M1 : fd_M, σ = ([.ref 182, .ref 183, .int (nI n), .int (nI i)], M1) ∧ mst w.f 183 0 (w_st w S i) M1 ∧ M1.1 182 39 = M.1 182 39 + w_sr w S i ∧ M1.1 182 40 = M.1 182 40 + w_sp w S i ∧ fP (pT 183) M M1 := ⟨_, rfl⟩
  refine wp_for n J (fd_fu_lt (by omega)) (Nat.zero_le _) (by rw [hJ]; exact ⟨M, rfl, hS, by show M.1 182 39 = M.1 182 39 + 0; rw [Int32.add_zero], by show M.1 182 40 = M.1 182 40 + 0; rw [Int32.add_zero], fP.rf⟩) (fun i σ hi hs => ?_) (fun σ hs => ?_)
  · rw [hJ] at hs
    obtain ⟨M1, rfl, h1, h2, h3, h4⟩ := hs
    have b : nI i < nI n := nI_lt hi (by omega)
    have e1 : M1.1 183 0 = nI S.a := by have := h1.2.1; rwa [w_st_a] at this
    simp [↓wp_ldn, ↓wp_b1, ↓wp_b2, ↓wp_b2z, ↓wp_gf, ↓wp_gd, ↓wp_ga, ↓wp_gl, ↓wp_al2, ↓wp_pi, ↓wp_ltr, ↓wp_ite, ↓wp_and, ↓wp_or, ↓wp_not, ↓wp_cmp, ↓wp_cmz, ↓wp_isn, ↓wp_nsn, ↓wp_a0, ↓wp_a1, ↓wp_cv, ↓wp_cs, ↓wp_dr, ↓wp_sk, ↓wp_brk, ↓wp_cnt, ↓wp_rV, ↓wp_seq, ↓wp_iff, ↓wp_sI, ↓wp_sL, ↓wp_sN, ↓wp_inc, ↓wp_do, ↓wp_rI, ↓wp_rL, ↓wp_rN, ↓wp_rZ, ↓wp_pf, ↓wp_pz, ↓wp_pd, ↓wp_po, ↓wp_pl, ↓wp_pao, ↓wp_tsw, ↓wp_lsw, ↓wp_fn, ↓wq_ld, ↓wq_ldl, ↓wq_lda, ↓wq_c, ↓wq_gr, ↓wq_gq, ↓wq_nn, ↓wq_asI, ↓wq_asL, ↓wq_asN, ↓wq_pa, hO_182, hR_182_0, hF_182_1, hR_182_2, hF_182_3, hR_182_4, hF_182_5, hR_182_6, hR_182_7, hR_182_8, hF_182_9, hF_182_10, hF_182_11, hF_182_12, hR_182_13, hF_182_14, hR_182_15, hF_182_16, hF_182_17, hF_182_18, hF_182_19, hF_182_20, hF_182_21, hF_182_22, hR_182_23, hR_182_24, hF_182_25, hF_182_26, hR_182_27, hR_182_28, hR_182_29, hF_182_30, hF_182_31, hR_182_32, hR_182_33, hF_182_34, hR_182_35, hF_182_36, hF_182_37, hF_182_38, hF_182_39, hF_182_40, hR_182_41, hR_182_42, hR_182_43, hR_182_44, hR_182_45, hR_182_46, hF_182_47, hR_182_48, hR_182_49, hR_182_50, hR_182_51, hR_182_52, hF_182_53, hR_182_54, hR_182_55, hR_182_56, hR_182_57, hF_182_58, hR_182_59, hR_182_60, hR_182_61, fd_p_eq, fd_p_ne, fd_p_lt, fd_p_ge, fd_p_gt, fd_p_le, fd_f_iadd, fd_f_isub, fd_f_imul, fd_f_iand, fd_f_ior, fd_f_ixor, fd_f_ishl, fd_f_ishr, fd_f_iushr, fd_f_ladd, fd_f_lsub, fd_f_lmul, fd_f_lcmp, fd_f_idiv, fd_f_irem, fd_f_ldiv, fd_f_lrem, fd_f_ineg, fd_f_i2l, fd_f_l2i, fd_f_i2b, fd_f_i2s, fd_f_i2c, fd_z_idiv, fd_z_irem, fd_z_ldiv, fd_z_lrem, fd_in0, fd_sl, fd_st1, fd_st2, fd_kl, fd_vI, fd_vL, fd_vN, fd_ok1, fd_v_int, xI, xL, xR, xK, xG, yI, yL, yN, -Prod.exists, b, e1, y0, z0]
    refine s_X12_goNight (Or.inl rfl) (h4.wdT (Or.inl rfl) hw) h1 ((w_st_ok hw hok ha i).up (by omega)) ha (by rw [w_st_a]; exact ha) (fun M2 q1 q2 q3 _ q4 => ?_)
    have u39 : M2.1 182 39 = M1.1 182 39 := q4.1 _ _ (by unfold pM; omega)
    have u40 : M2.1 182 40 = M1.1 182 40 := q4.1 _ _ (by unfold pM; omega)
    simp [↓wp_ldn, ↓wp_b1, ↓wp_b2, ↓wp_b2z, ↓wp_gf, ↓wp_gd, ↓wp_ga, ↓wp_gl, ↓wp_al2, ↓wp_pi, ↓wp_ltr, ↓wp_ite, ↓wp_and, ↓wp_or, ↓wp_not, ↓wp_cmp, ↓wp_cmz, ↓wp_isn, ↓wp_nsn, ↓wp_a0, ↓wp_a1, ↓wp_cv, ↓wp_cs, ↓wp_dr, ↓wp_sk, ↓wp_brk, ↓wp_cnt, ↓wp_rV, ↓wp_seq, ↓wp_iff, ↓wp_sI, ↓wp_sL, ↓wp_sN, ↓wp_inc, ↓wp_do, ↓wp_rI, ↓wp_rL, ↓wp_rN, ↓wp_rZ, ↓wp_pf, ↓wp_pz, ↓wp_pd, ↓wp_po, ↓wp_pl, ↓wp_pao, ↓wp_tsw, ↓wp_lsw, ↓wp_fn, ↓wq_ld, ↓wq_ldl, ↓wq_lda, ↓wq_c, ↓wq_gr, ↓wq_gq, ↓wq_nn, ↓wq_asI, ↓wq_asL, ↓wq_asN, ↓wq_pa, hO_182, hR_182_0, hF_182_1, hR_182_2, hF_182_3, hR_182_4, hF_182_5, hR_182_6, hR_182_7, hR_182_8, hF_182_9, hF_182_10, hF_182_11, hF_182_12, hR_182_13, hF_182_14, hR_182_15, hF_182_16, hF_182_17, hF_182_18, hF_182_19, hF_182_20, hF_182_21, hF_182_22, hR_182_23, hR_182_24, hF_182_25, hF_182_26, hR_182_27, hR_182_28, hR_182_29, hF_182_30, hF_182_31, hR_182_32, hR_182_33, hF_182_34, hR_182_35, hF_182_36, hF_182_37, hF_182_38, hF_182_39, hF_182_40, hR_182_41, hR_182_42, hR_182_43, hR_182_44, hR_182_45, hR_182_46, hF_182_47, hR_182_48, hR_182_49, hR_182_50, hR_182_51, hR_182_52, hF_182_53, hR_182_54, hR_182_55, hR_182_56, hR_182_57, hF_182_58, hR_182_59, hR_182_60, hR_182_61, fd_p_eq, fd_p_ne, fd_p_lt, fd_p_ge, fd_p_gt, fd_p_le, fd_f_iadd, fd_f_isub, fd_f_imul, fd_f_iand, fd_f_ior, fd_f_ixor, fd_f_ishl, fd_f_ishr, fd_f_iushr, fd_f_ladd, fd_f_lsub, fd_f_lmul, fd_f_lcmp, fd_f_idiv, fd_f_irem, fd_f_ldiv, fd_f_lrem, fd_f_ineg, fd_f_i2l, fd_f_l2i, fd_f_i2b, fd_f_i2s, fd_f_i2c, fd_z_idiv, fd_z_irem, fd_z_ldiv, fd_z_lrem, fd_in0, fd_sl, fd_st1, fd_st2, fd_kl, fd_vI, fd_vL, fd_vN, fd_ok1, fd_v_int, xI, xL, xR, xK, xG, yI, yL, yN, -Prod.exists, nI_1, rd_I, u39, u40, q2, q3]
    rw [hJ]
    refine ⟨_, rfl, q1.cg hf (fun j hj => ?_), ?_, ?_, ?_⟩
    · simp [rd_I]
    · simp [rd_I, h2]
      rw [Int32.add_assoc]
      rfl
    · simp [rd_I, h3]
      rw [Int32.add_assoc]
      rfl
    · exact fP.uI (fP.uI (h4.tr (q4.up (fun a j z => Or.inl z))) (by unfold pT; omega)) (by unfold pT; omega)
  · rw [hJ] at hs
    obtain ⟨M1, rfl, h1, h2, h3, h4⟩ := hs
    simp [↓wp_ldn, ↓wp_b1, ↓wp_b2, ↓wp_b2z, ↓wp_gf, ↓wp_gd, ↓wp_ga, ↓wp_gl, ↓wp_al2, ↓wp_pi, ↓wp_ltr, ↓wp_ite, ↓wp_and, ↓wp_or, ↓wp_not, ↓wp_cmp, ↓wp_cmz, ↓wp_isn, ↓wp_nsn, ↓wp_a0, ↓wp_a1, ↓wp_cv, ↓wp_cs, ↓wp_dr, ↓wp_sk, ↓wp_brk, ↓wp_cnt, ↓wp_rV, ↓wp_seq, ↓wp_iff, ↓wp_sI, ↓wp_sL, ↓wp_sN, ↓wp_inc, ↓wp_do, ↓wp_rI, ↓wp_rL, ↓wp_rN, ↓wp_rZ, ↓wp_pf, ↓wp_pz, ↓wp_pd, ↓wp_po, ↓wp_pl, ↓wp_pao, ↓wp_tsw, ↓wp_lsw, ↓wp_fn, ↓wq_ld, ↓wq_ldl, ↓wq_lda, ↓wq_c, ↓wq_gr, ↓wq_gq, ↓wq_nn, ↓wq_asI, ↓wq_asL, ↓wq_asN, ↓wq_pa, hO_182, hR_182_0, hF_182_1, hR_182_2, hF_182_3, hR_182_4, hF_182_5, hR_182_6, hR_182_7, hR_182_8, hF_182_9, hF_182_10, hF_182_11, hF_182_12, hR_182_13, hF_182_14, hR_182_15, hF_182_16, hF_182_17, hF_182_18, hF_182_19, hF_182_20, hF_182_21, hF_182_22, hR_182_23, hR_182_24, hF_182_25, hF_182_26, hR_182_27, hR_182_28, hR_182_29, hF_182_30, hF_182_31, hR_182_32, hR_182_33, hF_182_34, hR_182_35, hF_182_36, hF_182_37, hF_182_38, hF_182_39, hF_182_40, hR_182_41, hR_182_42, hR_182_43, hR_182_44, hR_182_45, hR_182_46, hF_182_47, hR_182_48, hR_182_49, hR_182_50, hR_182_51, hR_182_52, hF_182_53, hR_182_54, hR_182_55, hR_182_56, hR_182_57, hF_182_58, hR_182_59, hR_182_60, hR_182_61, fd_p_eq, fd_p_ne, fd_p_lt, fd_p_ge, fd_p_gt, fd_p_le, fd_f_iadd, fd_f_isub, fd_f_imul, fd_f_iand, fd_f_ior, fd_f_ixor, fd_f_ishl, fd_f_ishr, fd_f_iushr, fd_f_ladd, fd_f_lsub, fd_f_lmul, fd_f_lcmp, fd_f_idiv, fd_f_irem, fd_f_ldiv, fd_f_lrem, fd_f_ineg, fd_f_i2l, fd_f_l2i, fd_f_i2b, fd_f_i2s, fd_f_i2c, fd_z_idiv, fd_z_irem, fd_z_ldiv, fd_z_lrem, fd_in0, fd_sl, fd_st1, fd_st2, fd_kl, fd_vI, fd_vL, fd_vN, fd_ok1, fd_v_int, xI, xL, xR, xK, xG, yI, yL, yN, -Prod.exists, lt_self]
    exact hQ _ h1 h2 h3 h4
