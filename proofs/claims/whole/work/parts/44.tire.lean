/-! ===== THE RULE at the reference: what tires, and the rule told ===== -/
theorem s_X12_begin (M : fd_M) {cell : Nat} (hc : cell < 500) (a b : Int32) : m_X12_begin [.ref 182, .ref cell, .int a, .int b] M = some (fd_jk, fd_uI (fd_uI (fd_uI (fd_uI (fd_uI M 182 18 (nI (cell + 1))) 182 19 a) 182 20 b) 182 21 0) 182 22 (-1)) := by
  apply fd_of_run
  have h : cell < 1000 := by omega
  unfold m_X12_begin b_X12_begin
  simp [↓wp_ldn, ↓wp_b1, ↓wp_b2, ↓wp_b2z, ↓wp_gf, ↓wp_gd, ↓wp_ga, ↓wp_gl, ↓wp_al2, ↓wp_pi, ↓wp_ltr, ↓wp_ite, ↓wp_and, ↓wp_or, ↓wp_not, ↓wp_cmp, ↓wp_cmz, ↓wp_isn, ↓wp_nsn, ↓wp_a0, ↓wp_a1, ↓wp_cv, ↓wp_cs, ↓wp_dr, ↓wp_sk, ↓wp_brk, ↓wp_cnt, ↓wp_rV, ↓wp_seq, ↓wp_iff, ↓wp_sI, ↓wp_sL, ↓wp_sN, ↓wp_inc, ↓wp_do, ↓wp_rI, ↓wp_rL, ↓wp_rN, ↓wp_rZ, ↓wp_pf, ↓wp_pz, ↓wp_pd, ↓wp_po, ↓wp_pl, ↓wp_pao, ↓wp_tsw, ↓wp_lsw, ↓wp_fn, ↓wq_ld, ↓wq_ldl, ↓wq_lda, ↓wq_c, ↓wq_gr, ↓wq_gq, ↓wq_nn, ↓wq_asI, ↓wq_asL, ↓wq_asN, ↓wq_pa, hO_182, hR_182_0, hF_182_1, hR_182_2, hF_182_3, hR_182_4, hF_182_5, hR_182_6, hR_182_7, hR_182_8, hF_182_9, hF_182_10, hF_182_11, hF_182_12, hR_182_13, hF_182_14, hR_182_15, hF_182_16, hF_182_17, hF_182_18, hF_182_19, hF_182_20, hF_182_21, hF_182_22, hR_182_23, hR_182_24, hF_182_25, hF_182_26, hR_182_27, hR_182_28, hR_182_29, hF_182_30, hF_182_31, hR_182_32, hR_182_33, hF_182_34, hR_182_35, hF_182_36, hF_182_37, hF_182_38, hF_182_39, hF_182_40, hR_182_41, hR_182_42, hR_182_43, hR_182_44, hR_182_45, hR_182_46, hF_182_47, hR_182_48, hR_182_49, hR_182_50, hR_182_51, hR_182_52, hF_182_53, hR_182_54, hR_182_55, hR_182_56, hR_182_57, hF_182_58, hR_182_59, hR_182_60, hR_182_61, fd_p_eq, fd_p_ne, fd_p_lt, fd_p_ge, fd_p_gt, fd_p_le, fd_f_iadd, fd_f_isub, fd_f_imul, fd_f_iand, fd_f_ior, fd_f_ixor, fd_f_ishl, fd_f_ishr, fd_f_iushr, fd_f_ladd, fd_f_lsub, fd_f_lmul, fd_f_lcmp, fd_f_idiv, fd_f_irem, fd_f_ldiv, fd_f_lrem, fd_f_ineg, fd_f_i2l, fd_f_l2i, fd_f_i2b, fd_f_i2s, fd_f_i2c, fd_z_idiv, fd_z_irem, fd_z_ldiv, fd_z_lrem, fd_in0, fd_sl, fd_st1, fd_st2, fd_kl, fd_vI, fd_vL, fd_vN, fd_ok1, fd_v_int, xI, xL, xR, xK, xG, yI, yL, yN, -Prod.exists, hF_182_18, h]
/-- only what the reading of a rule touches -/
def ft (M M' : fd_M) : Prop := (∀ k j, k ≠ 196 → (k ≠ 182 ∨ (j < 18 ∨ (22 < j ∧ j ≠ 31))) → M'.1 k j = M.1 k j) ∧ M'.2 = M.2
theorem ft.rf {M : fd_M} : ft M M := ⟨fun _ _ _ _ => rfl, rfl⟩
theorem ft.tr {M M' M'' : fd_M} (h : ft M M') (h2 : ft M' M'') : ft M M'' := ⟨fun k j h3 h4 => (h2.1 k j h3 h4).trans (h.1 k j h3 h4), h2.2.trans h.2⟩
theorem ft.uI {M M' : fd_M} {k j : Nat} {x : Int32} (h : ft M M') (hk : k = 196 ∨ (k = 182 ∧ 18 ≤ j ∧ (j ≤ 22 ∨ j = 31))) : ft M (fd_uI M' k j x) := ⟨fun a i h3 h4 => by
  rw [rd_I]
  by_cases e : a = k
  · rw [if_pos e, if_neg (by omega)]
    subst e
    exact h.1 a i h3 h4
  · rw [if_neg e]
    exact h.1 a i h3 h4, h.2⟩
theorem fr21.ft {M M' : fd_M} (h : fr21 M M') : ft M M' := ⟨fun k j h3 h4 => h.1 k j (by omega), h.2⟩
theorem ft.sm {M M' : fd_M} (h : ft M M') : fd_sm [0] M M' := fun k j hk => by
  have h2 : k ≠ 196 := fun e => by subst e; exact hk (List.mem_singleton.mpr rfl)
  have h3 : k ≠ 182 ∨ (j < 18 ∨ (22 < j ∧ j ≠ 31)) := by
    by_cases e : k = 182
    · subst e
      refine Or.inr ?_
      by_cases h4 : j < 18 ∨ (22 < j ∧ j ≠ 31)
      · exact h4
      · refine absurd ?_ hk
        rw [List.mem_singleton]
        show cl_182 j = 0
        unfold cl_182
        (repeat rw [if_neg (by omega)])
    · exact Or.inl e
  exact ⟨h.1 k j h2 h3, by rw [h.2]⟩
theorem and255 (x : Int32) : x &&& 255 ≠ 256 := fun e => by
  have h : (x &&& 255) &&& 256 = 256 &&& 256 := by rw [e]
  rw [Int32.and_assoc, show (255 : Int32) &&& 256 = 0 by decide, Int32.and_zero] at h
  exact absurd h (by decide)
def as6 (a b c d e f : Int32) (i : Nat) : Int32 := if i = 0 then a else if i = 1 then b else if i = 2 then c else if i = 3 then d else if i = 4 then e else f
/-- what the reference's rule asks of the memory -/
def rl (cd : List Int32) (ls : Nat) (M : fd_M) : Prop := ls ≤ 40 ∧ M.1 182 30 = nI ls ∧ (cd = [] ↔ ls = 0) ∧ (∀ i, i < ls → ∃ c, by_ok (M.1 195 i) c) ∧ ∃ ch : Nat → Int32, (∀ i, ch i ≠ 256) ∧ (∀ i, i < ls → ch i = M.1 195 i &&& 255) ∧ (0 < ls → ru_rd ch ls 300 0 0 [] 0 = .inr (cd, ls))
theorem s_X12_tiresBy {M : fd_M} {cd : List Int32} {ls : Nat} (hr : rl cd ls M) (a b c d e f : Int32) : fd_run m_X12_tiresBy [.ref 182, .int a, .int b, .int c, .int d, .int e, .int f] M (fun v M' => v = .int (wkv cd (as6 a b c d e f)) ∧ ft M M') := by
  obtain ⟨h1, h2, h3, h4, ch, h5, h6, h7⟩ := hr
  have d2 : ¬ (2 : Int32) = 0 := by decide
  have d3 : ¬ (3 : Int32) = 0 := by decide
  unfold m_X12_tiresBy b_X12_tiresBy
  by_cases h0 : ls = 0
  · have hcd := h3.mpr h0
    subst h0
    have h2' : M.1 182 30 = 0 := h2
    simp [↓wp_ldn, ↓wp_b1, ↓wp_b2, ↓wp_b2z, ↓wp_gf, ↓wp_gd, ↓wp_ga, ↓wp_gl, ↓wp_al2, ↓wp_pi, ↓wp_ltr, ↓wp_ite, ↓wp_and, ↓wp_or, ↓wp_not, ↓wp_cmp, ↓wp_cmz, ↓wp_isn, ↓wp_nsn, ↓wp_a0, ↓wp_a1, ↓wp_cv, ↓wp_cs, ↓wp_dr, ↓wp_sk, ↓wp_brk, ↓wp_cnt, ↓wp_rV, ↓wp_seq, ↓wp_iff, ↓wp_sI, ↓wp_sL, ↓wp_sN, ↓wp_inc, ↓wp_do, ↓wp_rI, ↓wp_rL, ↓wp_rN, ↓wp_rZ, ↓wp_pf, ↓wp_pz, ↓wp_pd, ↓wp_po, ↓wp_pl, ↓wp_pao, ↓wp_tsw, ↓wp_lsw, ↓wp_fn, ↓wq_ld, ↓wq_ldl, ↓wq_lda, ↓wq_c, ↓wq_gr, ↓wq_gq, ↓wq_nn, ↓wq_asI, ↓wq_asL, ↓wq_asN, ↓wq_pa, hO_182, hR_182_0, hF_182_1, hR_182_2, hF_182_3, hR_182_4, hF_182_5, hR_182_6, hR_182_7, hR_182_8, hF_182_9, hF_182_10, hF_182_11, hF_182_12, hR_182_13, hF_182_14, hR_182_15, hF_182_16, hF_182_17, hF_182_18, hF_182_19, hF_182_20, hF_182_21, hF_182_22, hR_182_23, hR_182_24, hF_182_25, hF_182_26, hR_182_27, hR_182_28, hR_182_29, hF_182_30, hF_182_31, hR_182_32, hR_182_33, hF_182_34, hR_182_35, hF_182_36, hF_182_37, hF_182_38, hF_182_39, hF_182_40, hR_182_41, hR_182_42, hR_182_43, hR_182_44, hR_182_45, hR_182_46, hF_182_47, hR_182_48, hR_182_49, hR_182_50, hR_182_51, hR_182_52, hF_182_53, hR_182_54, hR_182_55, hR_182_56, hR_182_57, hF_182_58, hR_182_59, hR_182_60, hR_182_61, fd_p_eq, fd_p_ne, fd_p_lt, fd_p_ge, fd_p_gt, fd_p_le, fd_f_iadd, fd_f_isub, fd_f_imul, fd_f_iand, fd_f_ior, fd_f_ixor, fd_f_ishl, fd_f_ishr, fd_f_iushr, fd_f_ladd, fd_f_lsub, fd_f_lmul, fd_f_lcmp, fd_f_idiv, fd_f_irem, fd_f_ldiv, fd_f_lrem, fd_f_ineg, fd_f_i2l, fd_f_l2i, fd_f_i2b, fd_f_i2s, fd_f_i2c, fd_z_idiv, fd_z_irem, fd_z_ldiv, fd_z_lrem, fd_in0, fd_sl, fd_st1, fd_st2, fd_kl, fd_vI, fd_vL, fd_vN, fd_ok1, fd_v_int, xI, xL, xR, xK, xG, yI, yL, yN, -Prod.exists, h2', d2, d3, wkv, hcd, as6]
    exact ft.rf
  · have h2' : ¬ M.1 182 30 = 0 := by rw [h2]; exact nI_ne0 (by omega) (by omega)
    have hne : cd ≠ [] := fun q => h0 (h3.mp q)
    have y0 : fd_isA 196 0 0 = true := hA_196 (i := 0) (by omega)
    have y1 : fd_isA 196 0 1 = true := hA_196 (i := 1) (by omega)
    have y2 : fd_isA 196 0 2 = true := hA_196 (i := 2) (by omega)
    have y3 : fd_isA 196 0 3 = true := hA_196 (i := 3) (by omega)
    have y4 : fd_isA 196 0 4 = true := hA_196 (i := 4) (by omega)
    have y5 : fd_isA 196 0 5 = true := hA_196 (i := 5) (by omega)
    have z0 : (0 : Int32).toNatClampNeg = 0 := rfl
    have z1 : (1 : Int32).toNatClampNeg = 1 := rfl
    have z2 : (2 : Int32).toNatClampNeg = 2 := rfl
    have z3 : (3 : Int32).toNatClampNeg = 3 := rfl
    have z4 : (4 : Int32).toNatClampNeg = 4 := rfl
    have z5 : (5 : Int32).toNatClampNeg = 5 := rfl
    have h2b : ¬ nI ls = 0 := by rw [← h2]; exact h2'
    simp [↓wp_ldn, ↓wp_b1, ↓wp_b2, ↓wp_b2z, ↓wp_gf, ↓wp_gd, ↓wp_ga, ↓wp_gl, ↓wp_al2, ↓wp_pi, ↓wp_ltr, ↓wp_ite, ↓wp_and, ↓wp_or, ↓wp_not, ↓wp_cmp, ↓wp_cmz, ↓wp_isn, ↓wp_nsn, ↓wp_a0, ↓wp_a1, ↓wp_cv, ↓wp_cs, ↓wp_dr, ↓wp_sk, ↓wp_brk, ↓wp_cnt, ↓wp_rV, ↓wp_seq, ↓wp_iff, ↓wp_sI, ↓wp_sL, ↓wp_sN, ↓wp_inc, ↓wp_do, ↓wp_rI, ↓wp_rL, ↓wp_rN, ↓wp_rZ, ↓wp_pf, ↓wp_pz, ↓wp_pd, ↓wp_po, ↓wp_pl, ↓wp_pao, ↓wp_tsw, ↓wp_lsw, ↓wp_fn, ↓wq_ld, ↓wq_ldl, ↓wq_lda, ↓wq_c, ↓wq_gr, ↓wq_gq, ↓wq_nn, ↓wq_asI, ↓wq_asL, ↓wq_asN, ↓wq_pa, hO_182, hR_182_0, hF_182_1, hR_182_2, hF_182_3, hR_182_4, hF_182_5, hR_182_6, hR_182_7, hR_182_8, hF_182_9, hF_182_10, hF_182_11, hF_182_12, hR_182_13, hF_182_14, hR_182_15, hF_182_16, hF_182_17, hF_182_18, hF_182_19, hF_182_20, hF_182_21, hF_182_22, hR_182_23, hR_182_24, hF_182_25, hF_182_26, hR_182_27, hR_182_28, hR_182_29, hF_182_30, hF_182_31, hR_182_32, hR_182_33, hF_182_34, hR_182_35, hF_182_36, hF_182_37, hF_182_38, hF_182_39, hF_182_40, hR_182_41, hR_182_42, hR_182_43, hR_182_44, hR_182_45, hR_182_46, hF_182_47, hR_182_48, hR_182_49, hR_182_50, hR_182_51, hR_182_52, hF_182_53, hR_182_54, hR_182_55, hR_182_56, hR_182_57, hF_182_58, hR_182_59, hR_182_60, hR_182_61, fd_p_eq, fd_p_ne, fd_p_lt, fd_p_ge, fd_p_gt, fd_p_le, fd_f_iadd, fd_f_isub, fd_f_imul, fd_f_iand, fd_f_ior, fd_f_ixor, fd_f_ishl, fd_f_ishr, fd_f_iushr, fd_f_ladd, fd_f_lsub, fd_f_lmul, fd_f_lcmp, fd_f_idiv, fd_f_irem, fd_f_ldiv, fd_f_lrem, fd_f_ineg, fd_f_i2l, fd_f_l2i, fd_f_i2b, fd_f_i2s, fd_f_i2c, fd_z_idiv, fd_z_irem, fd_z_ldiv, fd_z_lrem, fd_in0, fd_sl, fd_st1, fd_st2, fd_kl, fd_vI, fd_vL, fd_vN, fd_ok1, fd_v_int, xI, xL, xR, xK, xG, yI, yL, yN, -Prod.exists, h2b, y0, y1, y2, y3, y4, y5, z0, z1, z2, z3, z4, z5, fd_run_of (s_X12_begin _ (show 195 < 500 by decide) _ _), rd_I, h2]
    generalize hM1 : fd_uI (fd_uI (fd_uI (fd_uI (fd_uI (fd_uI (fd_uI (fd_uI (fd_uI (fd_uI (fd_uI (fd_uI M 196 0 a) 196 1 b) 196 2 c) 196 3 d) 196 4 e) 196 5 f) 182 18 (nI 196)) 182 19 (nI ls)) 182 20 40) 182 21 0) 182 22 (-1)) 182 31 1 = M1
    have hf : ft M M1 := by
      rw [← hM1]
      repeat' (first | exact ft.rf | refine ft.uI ?_ (by decide))
    have hrp : rp 195 ls 40 ls ch M1 := by
      refine ⟨?_, ?_, ?_, by omega, by omega, by omega, by omega, fun i hi => ⟨hA_195 (by omega), ?_⟩⟩
      · rw [← hM1]; simp [rd_I]
      · rw [← hM1]; simp [rd_I]
      · rw [← hM1]; simp [rd_I]; rfl
      · obtain ⟨c, hc⟩ := h4 i hi
        rw [hf.1 195 i (by decide) (Or.inl (by decide))]
        exact ⟨c, hc, by rw [h6 i hi]; exact hc.2.1⟩
    have has : gr_as (as6 a b c d e f) M1 := fun i hi => by
      have : M1.1 182 31 = 1 := by rw [← hM1]; simp [rd_I]
      rw [this, if_neg (by decide), ← hM1]
      match i, hi with
      | 0, _ => simp [rd_I, as6]
      | 1, _ => simp [rd_I, as6]
      | 2, _ => simp [rd_I, as6]
      | 3, _ => simp [rd_I, as6]
      | 4, _ => simp [rd_I, as6]
      | 5, _ => simp [rd_I, as6]
    have g := (gr_main (l := ls) h5 300 400 M1 0 0 [] (by omega) hrp (by rw [← hM1]; simp [rd_I]; rfl) (by rw [← hM1]; simp [rd_I]) has (by omega) (by omega)).2.2.2 (by omega)
    rw [h7 (by omega)] at g
    refine fd_run_mono g (fun v M' hp => ?_)
    obtain ⟨p1, p2, p3, p4, w, x, p5, p6, p7⟩ := hp
    subst p6
    simp [↓wp_ldn, ↓wp_b1, ↓wp_b2, ↓wp_b2z, ↓wp_gf, ↓wp_gd, ↓wp_ga, ↓wp_gl, ↓wp_al2, ↓wp_pi, ↓wp_ltr, ↓wp_ite, ↓wp_and, ↓wp_or, ↓wp_not, ↓wp_cmp, ↓wp_cmz, ↓wp_isn, ↓wp_nsn, ↓wp_a0, ↓wp_a1, ↓wp_cv, ↓wp_cs, ↓wp_dr, ↓wp_sk, ↓wp_brk, ↓wp_cnt, ↓wp_rV, ↓wp_seq, ↓wp_iff, ↓wp_sI, ↓wp_sL, ↓wp_sN, ↓wp_inc, ↓wp_do, ↓wp_rI, ↓wp_rL, ↓wp_rN, ↓wp_rZ, ↓wp_pf, ↓wp_pz, ↓wp_pd, ↓wp_po, ↓wp_pl, ↓wp_pao, ↓wp_tsw, ↓wp_lsw, ↓wp_fn, ↓wq_ld, ↓wq_ldl, ↓wq_lda, ↓wq_c, ↓wq_gr, ↓wq_gq, ↓wq_nn, ↓wq_asI, ↓wq_asL, ↓wq_asN, ↓wq_pa, hO_182, hR_182_0, hF_182_1, hR_182_2, hF_182_3, hR_182_4, hF_182_5, hR_182_6, hR_182_7, hR_182_8, hF_182_9, hF_182_10, hF_182_11, hF_182_12, hR_182_13, hF_182_14, hR_182_15, hF_182_16, hF_182_17, hF_182_18, hF_182_19, hF_182_20, hF_182_21, hF_182_22, hR_182_23, hR_182_24, hF_182_25, hF_182_26, hR_182_27, hR_182_28, hR_182_29, hF_182_30, hF_182_31, hR_182_32, hR_182_33, hF_182_34, hR_182_35, hF_182_36, hF_182_37, hF_182_38, hF_182_39, hF_182_40, hR_182_41, hR_182_42, hR_182_43, hR_182_44, hR_182_45, hR_182_46, hF_182_47, hR_182_48, hR_182_49, hR_182_50, hR_182_51, hR_182_52, hF_182_53, hR_182_54, hR_182_55, hR_182_56, hR_182_57, hF_182_58, hR_182_59, hR_182_60, hR_182_61, fd_p_eq, fd_p_ne, fd_p_lt, fd_p_ge, fd_p_gt, fd_p_le, fd_f_iadd, fd_f_isub, fd_f_imul, fd_f_iand, fd_f_ior, fd_f_ixor, fd_f_ishl, fd_f_ishr, fd_f_iushr, fd_f_ladd, fd_f_lsub, fd_f_lmul, fd_f_lcmp, fd_f_idiv, fd_f_irem, fd_f_ldiv, fd_f_lrem, fd_f_ineg, fd_f_i2l, fd_f_l2i, fd_f_i2b, fd_f_i2s, fd_f_i2c, fd_z_idiv, fd_z_irem, fd_z_ldiv, fd_z_lrem, fd_in0, fd_sl, fd_st1, fd_st2, fd_kl, fd_vI, fd_vL, fd_vN, fd_ok1, fd_v_int, xI, xL, xR, xK, xG, yI, yL, yN, -Prod.exists]
    refine ⟨?_, (hf.tr p1.ft).uI (by decide)⟩
    unfold wkv
    rw [if_neg hne, p5, List.nil_append, p7]
    rfl
