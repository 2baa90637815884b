/-! ===== THE RULE read by descent: values and codes ===== -/
theorem ru_one {as : Nat → Int32} {m : Nat} (h : m < 1000) (st : List Int32) : ru_ev as [nI m] st = some (nI m :: st) := by
  have h0 : 0 ≤ nI m := nI_pos' (by omega)
  have h1 : ¬ (0 ≤ nI m - 1000) := by
    have e : nI m - 1000 < 0 := by
      rw [fa_lt, Int32.toInt_sub, nI_toInt (by omega)]
      show ((m : Int) - 1000).bmod (2 ^ 32) < 0
      rw [fb_bmod (by omega) (by omega)]
      omega
    exact Int32.not_le.mpr e
  simp [ru_ev, ru_step, h0, ru_val, h1]
theorem ru_let_of {c : Int32} (h : ru_let c ≠ -1) : ∃ k, k < 6 ∧ ru_let c = nI k := by
  unfold ru_let at h ⊢
  split
  · exact ⟨0, by omega, rfl⟩
  split
  · exact ⟨1, by omega, rfl⟩
  split
  · exact ⟨2, by omega, rfl⟩
  split
  · exact ⟨3, by omega, rfl⟩
  split
  · exact ⟨4, by omega, rfl⟩
  split
  · exact ⟨5, by omega, rfl⟩
  · simp_all
theorem ru_lone {as : Nat → Int32} {k : Nat} (h : k < 6) (st : List Int32) : ru_ev as [1000 + nI k] st = some (as k :: st) := by
  have e0 : (1000 : Int32) + nI k = nI (1000 + k) := nI_add 1000 k
  have e1 : nI (1000 + k) - 1000 = nI k := by
    rw [show (1000 : Int32) = nI 1000 from rfl, nI_sub (by omega), Nat.add_sub_cancel_left]
  have h0 : 0 ≤ nI (1000 + k) := nI_pos' (by omega)
  have h1 : 0 ≤ nI k := nI_pos' (by omega)
  have h2 : nI k < 6 := nI_lt (b := 6) h (by decide)
  rw [e0]
  simp [ru_ev, ru_step, h0, ru_val, e1, h1, h2, nI_clamp (show k < 2 ^ 31 by omega)]
theorem ru_neg {as : Nat → Int32} {w : List Int32} {x : Int32} (h : ∀ st, ru_ev as w st = some (x :: st)) (st : List Int32) : ru_ev as (w ++ [-256]) st = some (-x :: st) := by
  rw [ru_ev_app, h]
  have h1 : ¬ (0 ≤ (-256 : Int32)) := by decide
  show (ru_step as (-256) (x :: st)).bind (ru_ev as []) = _
  unfold ru_step
  rw [if_neg h1, if_pos rfl]
  rfl
theorem ru_two {as : Nat → Int32} {w w2 : List Int32} {x y c : Int32} (h : ∀ st, ru_ev as w st = some (x :: st)) (h2 : ∀ st, ru_ev as w2 st = some (y :: st)) (hc : ¬ 0 ≤ -c) (hc2 : -c ≠ -256) (st : List Int32) : ru_ev as (w ++ w2 ++ [-c]) st = some (ru_join c x y :: st) := by
  rw [ru_ev_app, ru_ev_app, h, Option.bind_some, h2]
  show (ru_step as (-c) (y :: x :: st)).bind (ru_ev as []) = _
  unfold ru_step
  rw [if_neg hc, if_neg hc2]
  simp only [Int32.neg_neg]
  rfl
def gr_post (l : Nat) (as : Nat → Int32) (M : fd_M) (v0 : List Int32) (res : Nat ⊕ (List Int32 × Nat)) (v : Value) (M' : fd_M) : Prop := fr21 M M' ∧ match res with
  | .inl e => (∃ x : Int32, v = .int x) ∧ e ≤ l ∧ M'.1 182 22 = nI e ∧ ∃ q, q ≤ l ∧ M'.1 182 21 = nI q
  | .inr (c, q) => q ≤ l ∧ M'.1 182 21 = nI q ∧ M'.1 182 22 = -1 ∧ ∃ (w : List Int32) (x : Int32), c = v0 ++ w ∧ v = .int x ∧ ∀ st, ru_ev as w st = some (x :: st)
def gr_as (as : Nat → Int32) (M : fd_M) : Prop := ∀ i, i < 6 → as i = if M.1 182 31 = 0 then 0 else M.1 196 i
theorem gr_as.fr {as : Nat → Int32} {M M' : fd_M} (h : gr_as as M) (e : fr21 M M') : gr_as as M' := fun i hi => by
  rw [e.1 182 31 (Or.inr (by decide)), e.1 196 i (Or.inl (by decide))]
  exact h i hi
def g5 : fd_D Bool := (fd_and (fd_cmz fd_p_ne (fd_as fd_vI (fd_cv 12 0 m_X12_fine (fd_a1 .ref fd_a0 (fd_lda 0))))) (fd_or (fd_cmp fd_p_eq (fd_as fd_vI (fd_cv 12 0 m_X12_here (fd_a1 .ref fd_a0 (fd_lda 0)))) (fd_c (42 : Int32))) (fd_cmp fd_p_eq (fd_as fd_vI (fd_cv 12 0 m_X12_here (fd_a1 .ref fd_a0 (fd_lda 0)))) (fd_c (47 : Int32)))))
def bd5 (fr : Nat → List Value → fd_M → Option (Value × fd_M)) : fd_T := (fd_seq (fd_sI 3 (fd_ite (fd_cmp fd_p_eq (fd_as fd_vI (fd_cv 12 0 m_X12_here (fd_a1 .ref fd_a0 (fd_lda 0)))) (fd_c (42 : Int32))) (fd_c (1 : Int32)) (fd_c (0 : Int32)))) (fd_seq (fd_po 12 21 fd_f_iadd (fd_lda 0) (fd_c (1 : Int32))) (fd_seq (fd_sI 4 (fd_as fd_vI (fd_cv 12 1 (fr 3) (fd_a1 .int (fd_a1 .ref fd_a0 (fd_lda 0)) (fd_ld 1))))) (fd_sI 2 (fd_ite (fd_cmz fd_p_ne (fd_ld 3)) (fd_b2 fd_f_imul (fd_ld 2) (fd_ld 4)) (fd_ite (fd_cmz fd_p_eq (fd_ld 4)) (fd_c (0 : Int32)) (fd_b2z fd_z_idiv fd_f_idiv (fd_ld 2) (fd_ld 4))))))))
def g4 : fd_D Bool := (fd_and (fd_cmz fd_p_ne (fd_as fd_vI (fd_cv 12 0 m_X12_fine (fd_a1 .ref fd_a0 (fd_lda 0))))) (fd_or (fd_cmp fd_p_eq (fd_as fd_vI (fd_cv 12 0 m_X12_here (fd_a1 .ref fd_a0 (fd_lda 0)))) (fd_c (43 : Int32))) (fd_cmp fd_p_eq (fd_as fd_vI (fd_cv 12 0 m_X12_here (fd_a1 .ref fd_a0 (fd_lda 0)))) (fd_c (45 : Int32)))))
def bd4 (fr : Nat → List Value → fd_M → Option (Value × fd_M)) : fd_T := (fd_seq (fd_sI 3 (fd_ite (fd_cmp fd_p_eq (fd_as fd_vI (fd_cv 12 0 m_X12_here (fd_a1 .ref fd_a0 (fd_lda 0)))) (fd_c (43 : Int32))) (fd_c (1 : Int32)) (fd_c (0 : Int32)))) (fd_seq (fd_po 12 21 fd_f_iadd (fd_lda 0) (fd_c (1 : Int32))) (fd_seq (fd_sI 4 (fd_as fd_vI (fd_cv 12 1 (fr 2) (fd_a1 .int (fd_a1 .ref fd_a0 (fd_lda 0)) (fd_ld 1))))) (fd_sI 2 (fd_ite (fd_cmz fd_p_ne (fd_ld 3)) (fd_b2 fd_f_iadd (fd_ld 2) (fd_ld 4)) (fd_b2 fd_f_isub (fd_ld 2) (fd_ld 4)))))))
section GM
variable {cell len top l : Nat} {ch : Nat → Int32} {as : Nat → Int32}
def gr_P (cell len top l : Nat) (ch as : Nat → Int32) (n : Nat) : Prop := ∀ (N : Nat) (M : fd_M) (p d : Nat) (v0 : List Int32), n ≤ N → rp cell len top l ch M → M.1 182 21 = nI p → M.1 182 22 = -1 → gr_as as M → p ≤ l → d ≤ 4 →
  (6 * (l - p) + 1 ≤ n → fd_run (m_X12_grp N 3) [.ref 182, .int (nI d)] M (gr_post l as M v0 (ru_rd ch l n 3 d v0 p))) ∧
  (6 * (l - p) + 2 ≤ n → fd_run (m_X12_grp N 2) [.ref 182, .int (nI d)] M (gr_post l as M v0 (ru_rd ch l n 2 d v0 p))) ∧
  (6 * (l - p) + 3 ≤ n → fd_run (m_X12_grp N 1) [.ref 182, .int (nI d)] M (gr_post l as M v0 (ru_rd ch l n 1 d v0 p))) ∧
  (6 * (l - p) + 4 ≤ n → fd_run (m_X12_grp N 0) [.ref 182, .int (nI d)] M (gr_post l as M v0 (ru_rd ch l n 0 d v0 p)))
/-- what is read is read further on -/
theorem ru_fwd (h256 : ∀ i, ch i ≠ 256) {n d p q : Nat} {v c : List Int32} (hp : p ≤ l) : (6 * (l - p) + 1 ≤ n → ru_rd ch l n 3 d v p = .inr (c, q) → p + 1 ≤ q ∧ q ≤ l) ∧ (6 * (l - p) + 2 ≤ n → ru_rd ch l n 2 d v p = .inr (c, q) → p + 1 ≤ q ∧ q ≤ l) ∧ (6 * (l - p) + 3 ≤ n → ru_rd ch l n 1 d v p = .inr (c, q) → p + 1 ≤ q ∧ q ≤ l) := by
  have h := sy_main (l := l) h256 n d v p hp
  refine ⟨fun hn e => ?_, fun hn e => ?_, fun hn e => ?_⟩
  · have h1 := h.1 hn [] (fun _ => false)
    rw [e] at h1
    exact ⟨h1.1, h1.2.1⟩
  · have h1 := h.2.1 hn [] (fun _ => false) trivial
    rw [e] at h1
    exact ⟨h1.1, h1.2.1⟩
  · have h1 := h.2.2.1 hn [] (fun _ => false) trivial
    rw [e] at h1
    exact ⟨h1.1, h1.2.1⟩
/-- behind a fault nothing more is read -/
theorem g5_off {L : List Value} {M : fd_M} {Q : Bool → fd_S → Prop} (h0 : xK L 0 = 3) (h1 : xR L 0 = 182) (hw : ¬ M.1 182 22 = -1) (hq : Q false (L, M)) : fd_we g5 (L, M) Q := by
  unfold g5
  simp [↓wp_ldn, ↓wp_b1, ↓wp_b2, ↓wp_b2z, ↓wp_gf, ↓wp_gd, ↓wp_ga, ↓wp_gl, ↓wp_al2, ↓wp_pi, ↓wp_ltr, ↓wp_ite, ↓wp_and, ↓wp_or, ↓wp_not, ↓wp_cmp, ↓wp_cmz, ↓wp_isn, ↓wp_nsn, ↓wp_a0, ↓wp_a1, ↓wp_cv, ↓wp_cs, ↓wp_dr, ↓wp_sk, ↓wp_brk, ↓wp_cnt, ↓wp_rV, ↓wp_seq, ↓wp_iff, ↓wp_sI, ↓wp_sL, ↓wp_sN, ↓wp_inc, ↓wp_do, ↓wp_rI, ↓wp_rL, ↓wp_rN, ↓wp_rZ, ↓wp_pf, ↓wp_pz, ↓wp_pd, ↓wp_po, ↓wp_pl, ↓wp_pao, ↓wp_tsw, ↓wp_lsw, ↓wp_fn, ↓wq_ld, ↓wq_ldl, ↓wq_lda, ↓wq_c, ↓wq_gr, ↓wq_gq, ↓wq_nn, ↓wq_asI, ↓wq_asL, ↓wq_asN, ↓wq_pa, hO_182, hR_182_0, hF_182_1, hR_182_2, hF_182_3, hR_182_4, hF_182_5, hR_182_6, hR_182_7, hR_182_8, hF_182_9, hF_182_10, hF_182_11, hF_182_12, hR_182_13, hF_182_14, hR_182_15, hF_182_16, hF_182_17, hF_182_18, hF_182_19, hF_182_20, hF_182_21, hF_182_22, hR_182_23, hR_182_24, hF_182_25, hF_182_26, hR_182_27, hR_182_28, hR_182_29, hF_182_30, hF_182_31, hR_182_32, hR_182_33, hF_182_34, hR_182_35, hF_182_36, hF_182_37, hF_182_38, hF_182_39, hF_182_40, hR_182_41, hR_182_42, hR_182_43, hR_182_44, hR_182_45, hR_182_46, hF_182_47, hR_182_48, hR_182_49, hR_182_50, hR_182_51, hR_182_52, hF_182_53, hR_182_54, hR_182_55, hR_182_56, hR_182_57, hF_182_58, hR_182_59, hR_182_60, hR_182_61, fd_p_eq, fd_p_ne, fd_p_lt, fd_p_ge, fd_p_gt, fd_p_le, fd_f_iadd, fd_f_isub, fd_f_imul, fd_f_iand, fd_f_ior, fd_f_ixor, fd_f_ishl, fd_f_ishr, fd_f_iushr, fd_f_ladd, fd_f_lsub, fd_f_lmul, fd_f_lcmp, fd_f_idiv, fd_f_irem, fd_f_ldiv, fd_f_lrem, fd_f_ineg, fd_f_i2l, fd_f_l2i, fd_f_i2b, fd_f_i2s, fd_f_i2c, fd_z_idiv, fd_z_irem, fd_z_ldiv, fd_z_lrem, fd_in0, fd_sl, fd_st1, fd_st2, fd_kl, fd_vI, fd_vL, fd_vN, fd_ok1, fd_v_int, xI, xL, xR, xK, xG, yI, yL, yN, -Prod.exists, h0, h1, fd_run_of (s_X12_fine_f hw), hq, hO_182]
theorem g4_off {L : List Value} {M : fd_M} {Q : Bool → fd_S → Prop} (h0 : xK L 0 = 3) (h1 : xR L 0 = 182) (hw : ¬ M.1 182 22 = -1) (hq : Q false (L, M)) : fd_we g4 (L, M) Q := by
  unfold g4
  simp [↓wp_ldn, ↓wp_b1, ↓wp_b2, ↓wp_b2z, ↓wp_gf, ↓wp_gd, ↓wp_ga, ↓wp_gl, ↓wp_al2, ↓wp_pi, ↓wp_ltr, ↓wp_ite, ↓wp_and, ↓wp_or, ↓wp_not, ↓wp_cmp, ↓wp_cmz, ↓wp_isn, ↓wp_nsn, ↓wp_a0, ↓wp_a1, ↓wp_cv, ↓wp_cs, ↓wp_dr, ↓wp_sk, ↓wp_brk, ↓wp_cnt, ↓wp_rV, ↓wp_seq, ↓wp_iff, ↓wp_sI, ↓wp_sL, ↓wp_sN, ↓wp_inc, ↓wp_do, ↓wp_rI, ↓wp_rL, ↓wp_rN, ↓wp_rZ, ↓wp_pf, ↓wp_pz, ↓wp_pd, ↓wp_po, ↓wp_pl, ↓wp_pao, ↓wp_tsw, ↓wp_lsw, ↓wp_fn, ↓wq_ld, ↓wq_ldl, ↓wq_lda, ↓wq_c, ↓wq_gr, ↓wq_gq, ↓wq_nn, ↓wq_asI, ↓wq_asL, ↓wq_asN, ↓wq_pa, hO_182, hR_182_0, hF_182_1, hR_182_2, hF_182_3, hR_182_4, hF_182_5, hR_182_6, hR_182_7, hR_182_8, hF_182_9, hF_182_10, hF_182_11, hF_182_12, hR_182_13, hF_182_14, hR_182_15, hF_182_16, hF_182_17, hF_182_18, hF_182_19, hF_182_20, hF_182_21, hF_182_22, hR_182_23, hR_182_24, hF_182_25, hF_182_26, hR_182_27, hR_182_28, hR_182_29, hF_182_30, hF_182_31, hR_182_32, hR_182_33, hF_182_34, hR_182_35, hF_182_36, hF_182_37, hF_182_38, hF_182_39, hF_182_40, hR_182_41, hR_182_42, hR_182_43, hR_182_44, hR_182_45, hR_182_46, hF_182_47, hR_182_48, hR_182_49, hR_182_50, hR_182_51, hR_182_52, hF_182_53, hR_182_54, hR_182_55, hR_182_56, hR_182_57, hF_182_58, hR_182_59, hR_182_60, hR_182_61, fd_p_eq, fd_p_ne, fd_p_lt, fd_p_ge, fd_p_gt, fd_p_le, fd_f_iadd, fd_f_isub, fd_f_imul, fd_f_iand, fd_f_ior, fd_f_ixor, fd_f_ishl, fd_f_ishr, fd_f_iushr, fd_f_ladd, fd_f_lsub, fd_f_lmul, fd_f_lcmp, fd_f_idiv, fd_f_irem, fd_f_ldiv, fd_f_lrem, fd_f_ineg, fd_f_i2l, fd_f_l2i, fd_f_i2b, fd_f_i2s, fd_f_i2c, fd_z_idiv, fd_z_irem, fd_z_ldiv, fd_z_lrem, fd_in0, fd_sl, fd_st1, fd_st2, fd_kl, fd_vI, fd_vL, fd_vN, fd_ok1, fd_v_int, xI, xL, xR, xK, xG, yI, yL, yN, -Prod.exists, h0, h1, fd_run_of (s_X12_fine_f hw), hq, hO_182]
theorem g5_on {d q : Nat} {a : Int32} {c3 c4 : Value} {M : fd_M} {Q : Bool → fd_S → Prop} (hrp : rp cell len top l ch M) (hat : M.1 182 21 = nI q) (hwr : M.1 182 22 = -1) (hq : q ≤ l) (h : Q (decide (q < l ∧ (ch q = 42 ∨ ch q = 47))) ([.ref 182, .int (nI d), .int a, c3, c4], M)) : fd_we g5 ([.ref 182, .int (nI d), .int a, c3, c4], M) Q := by
  have hl := hrp.l80
  have eh := s_X12_here hrp hat (by omega)
  unfold g5
  by_cases c : q < l
  · rw [if_pos c] at eh
    by_cases c1 : ch q = 42
    · rw [decide_eq_true ⟨c, Or.inl c1⟩] at h
      simp [↓wp_ldn, ↓wp_b1, ↓wp_b2, ↓wp_b2z, ↓wp_gf, ↓wp_gd, ↓wp_ga, ↓wp_gl, ↓wp_al2, ↓wp_pi, ↓wp_ltr, ↓wp_ite, ↓wp_and, ↓wp_or, ↓wp_not, ↓wp_cmp, ↓wp_cmz, ↓wp_isn, ↓wp_nsn, ↓wp_a0, ↓wp_a1, ↓wp_cv, ↓wp_cs, ↓wp_dr, ↓wp_sk, ↓wp_brk, ↓wp_cnt, ↓wp_rV, ↓wp_seq, ↓wp_iff, ↓wp_sI, ↓wp_sL, ↓wp_sN, ↓wp_inc, ↓wp_do, ↓wp_rI, ↓wp_rL, ↓wp_rN, ↓wp_rZ, ↓wp_pf, ↓wp_pz, ↓wp_pd, ↓wp_po, ↓wp_pl, ↓wp_pao, ↓wp_tsw, ↓wp_lsw, ↓wp_fn, ↓wq_ld, ↓wq_ldl, ↓wq_lda, ↓wq_c, ↓wq_gr, ↓wq_gq, ↓wq_nn, ↓wq_asI, ↓wq_asL, ↓wq_asN, ↓wq_pa, hO_182, hR_182_0, hF_182_1, hR_182_2, hF_182_3, hR_182_4, hF_182_5, hR_182_6, hR_182_7, hR_182_8, hF_182_9, hF_182_10, hF_182_11, hF_182_12, hR_182_13, hF_182_14, hR_182_15, hF_182_16, hF_182_17, hF_182_18, hF_182_19, hF_182_20, hF_182_21, hF_182_22, hR_182_23, hR_182_24, hF_182_25, hF_182_26, hR_182_27, hR_182_28, hR_182_29, hF_182_30, hF_182_31, hR_182_32, hR_182_33, hF_182_34, hR_182_35, hF_182_36, hF_182_37, hF_182_38, hF_182_39, hF_182_40, hR_182_41, hR_182_42, hR_182_43, hR_182_44, hR_182_45, hR_182_46, hF_182_47, hR_182_48, hR_182_49, hR_182_50, hR_182_51, hR_182_52, hF_182_53, hR_182_54, hR_182_55, hR_182_56, hR_182_57, hF_182_58, hR_182_59, hR_182_60, hR_182_61, fd_p_eq, fd_p_ne, fd_p_lt, fd_p_ge, fd_p_gt, fd_p_le, fd_f_iadd, fd_f_isub, fd_f_imul, fd_f_iand, fd_f_ior, fd_f_ixor, fd_f_ishl, fd_f_ishr, fd_f_iushr, fd_f_ladd, fd_f_lsub, fd_f_lmul, fd_f_lcmp, fd_f_idiv, fd_f_irem, fd_f_ldiv, fd_f_lrem, fd_f_ineg, fd_f_i2l, fd_f_l2i, fd_f_i2b, fd_f_i2s, fd_f_i2c, fd_z_idiv, fd_z_irem, fd_z_ldiv, fd_z_lrem, fd_in0, fd_sl, fd_st1, fd_st2, fd_kl, fd_vI, fd_vL, fd_vN, fd_ok1, fd_v_int, xI, xL, xR, xK, xG, yI, yL, yN, -Prod.exists, fd_run_of (s_X12_fine_t hwr), fd_run_of eh, c1, h]
    · by_cases c2 : ch q = 47
      · rw [decide_eq_true ⟨c, Or.inr c2⟩] at h
        simp [↓wp_ldn, ↓wp_b1, ↓wp_b2, ↓wp_b2z, ↓wp_gf, ↓wp_gd, ↓wp_ga, ↓wp_gl, ↓wp_al2, ↓wp_pi, ↓wp_ltr, ↓wp_ite, ↓wp_and, ↓wp_or, ↓wp_not, ↓wp_cmp, ↓wp_cmz, ↓wp_isn, ↓wp_nsn, ↓wp_a0, ↓wp_a1, ↓wp_cv, ↓wp_cs, ↓wp_dr, ↓wp_sk, ↓wp_brk, ↓wp_cnt, ↓wp_rV, ↓wp_seq, ↓wp_iff, ↓wp_sI, ↓wp_sL, ↓wp_sN, ↓wp_inc, ↓wp_do, ↓wp_rI, ↓wp_rL, ↓wp_rN, ↓wp_rZ, ↓wp_pf, ↓wp_pz, ↓wp_pd, ↓wp_po, ↓wp_pl, ↓wp_pao, ↓wp_tsw, ↓wp_lsw, ↓wp_fn, ↓wq_ld, ↓wq_ldl, ↓wq_lda, ↓wq_c, ↓wq_gr, ↓wq_gq, ↓wq_nn, ↓wq_asI, ↓wq_asL, ↓wq_asN, ↓wq_pa, hO_182, hR_182_0, hF_182_1, hR_182_2, hF_182_3, hR_182_4, hF_182_5, hR_182_6, hR_182_7, hR_182_8, hF_182_9, hF_182_10, hF_182_11, hF_182_12, hR_182_13, hF_182_14, hR_182_15, hF_182_16, hF_182_17, hF_182_18, hF_182_19, hF_182_20, hF_182_21, hF_182_22, hR_182_23, hR_182_24, hF_182_25, hF_182_26, hR_182_27, hR_182_28, hR_182_29, hF_182_30, hF_182_31, hR_182_32, hR_182_33, hF_182_34, hR_182_35, hF_182_36, hF_182_37, hF_182_38, hF_182_39, hF_182_40, hR_182_41, hR_182_42, hR_182_43, hR_182_44, hR_182_45, hR_182_46, hF_182_47, hR_182_48, hR_182_49, hR_182_50, hR_182_51, hR_182_52, hF_182_53, hR_182_54, hR_182_55, hR_182_56, hR_182_57, hF_182_58, hR_182_59, hR_182_60, hR_182_61, fd_p_eq, fd_p_ne, fd_p_lt, fd_p_ge, fd_p_gt, fd_p_le, fd_f_iadd, fd_f_isub, fd_f_imul, fd_f_iand, fd_f_ior, fd_f_ixor, fd_f_ishl, fd_f_ishr, fd_f_iushr, fd_f_ladd, fd_f_lsub, fd_f_lmul, fd_f_lcmp, fd_f_idiv, fd_f_irem, fd_f_ldiv, fd_f_lrem, fd_f_ineg, fd_f_i2l, fd_f_l2i, fd_f_i2b, fd_f_i2s, fd_f_i2c, fd_z_idiv, fd_z_irem, fd_z_ldiv, fd_z_lrem, fd_in0, fd_sl, fd_st1, fd_st2, fd_kl, fd_vI, fd_vL, fd_vN, fd_ok1, fd_v_int, xI, xL, xR, xK, xG, yI, yL, yN, -Prod.exists, fd_run_of (s_X12_fine_t hwr), fd_run_of eh, c2, h]
      · rw [decide_eq_false (fun z => z.2.elim c1 c2)] at h
        simp [↓wp_ldn, ↓wp_b1, ↓wp_b2, ↓wp_b2z, ↓wp_gf, ↓wp_gd, ↓wp_ga, ↓wp_gl, ↓wp_al2, ↓wp_pi, ↓wp_ltr, ↓wp_ite, ↓wp_and, ↓wp_or, ↓wp_not, ↓wp_cmp, ↓wp_cmz, ↓wp_isn, ↓wp_nsn, ↓wp_a0, ↓wp_a1, ↓wp_cv, ↓wp_cs, ↓wp_dr, ↓wp_sk, ↓wp_brk, ↓wp_cnt, ↓wp_rV, ↓wp_seq, ↓wp_iff, ↓wp_sI, ↓wp_sL, ↓wp_sN, ↓wp_inc, ↓wp_do, ↓wp_rI, ↓wp_rL, ↓wp_rN, ↓wp_rZ, ↓wp_pf, ↓wp_pz, ↓wp_pd, ↓wp_po, ↓wp_pl, ↓wp_pao, ↓wp_tsw, ↓wp_lsw, ↓wp_fn, ↓wq_ld, ↓wq_ldl, ↓wq_lda, ↓wq_c, ↓wq_gr, ↓wq_gq, ↓wq_nn, ↓wq_asI, ↓wq_asL, ↓wq_asN, ↓wq_pa, hO_182, hR_182_0, hF_182_1, hR_182_2, hF_182_3, hR_182_4, hF_182_5, hR_182_6, hR_182_7, hR_182_8, hF_182_9, hF_182_10, hF_182_11, hF_182_12, hR_182_13, hF_182_14, hR_182_15, hF_182_16, hF_182_17, hF_182_18, hF_182_19, hF_182_20, hF_182_21, hF_182_22, hR_182_23, hR_182_24, hF_182_25, hF_182_26, hR_182_27, hR_182_28, hR_182_29, hF_182_30, hF_182_31, hR_182_32, hR_182_33, hF_182_34, hR_182_35, hF_182_36, hF_182_37, hF_182_38, hF_182_39, hF_182_40, hR_182_41, hR_182_42, hR_182_43, hR_182_44, hR_182_45, hR_182_46, hF_182_47, hR_182_48, hR_182_49, hR_182_50, hR_182_51, hR_182_52, hF_182_53, hR_182_54, hR_182_55, hR_182_56, hR_182_57, hF_182_58, hR_182_59, hR_182_60, hR_182_61, fd_p_eq, fd_p_ne, fd_p_lt, fd_p_ge, fd_p_gt, fd_p_le, fd_f_iadd, fd_f_isub, fd_f_imul, fd_f_iand, fd_f_ior, fd_f_ixor, fd_f_ishl, fd_f_ishr, fd_f_iushr, fd_f_ladd, fd_f_lsub, fd_f_lmul, fd_f_lcmp, fd_f_idiv, fd_f_irem, fd_f_ldiv, fd_f_lrem, fd_f_ineg, fd_f_i2l, fd_f_l2i, fd_f_i2b, fd_f_i2s, fd_f_i2c, fd_z_idiv, fd_z_irem, fd_z_ldiv, fd_z_lrem, fd_in0, fd_sl, fd_st1, fd_st2, fd_kl, fd_vI, fd_vL, fd_vN, fd_ok1, fd_v_int, xI, xL, xR, xK, xG, yI, yL, yN, -Prod.exists, fd_run_of (s_X12_fine_t hwr), fd_run_of eh, c1, c2, h]
  · rw [if_neg c] at eh
    rw [decide_eq_false (fun z => c z.1)] at h
    have n1 : ¬ (-1 : Int32) = 42 := by decide
    have n2 : ¬ (-1 : Int32) = 47 := by decide
    simp [↓wp_ldn, ↓wp_b1, ↓wp_b2, ↓wp_b2z, ↓wp_gf, ↓wp_gd, ↓wp_ga, ↓wp_gl, ↓wp_al2, ↓wp_pi, ↓wp_ltr, ↓wp_ite, ↓wp_and, ↓wp_or, ↓wp_not, ↓wp_cmp, ↓wp_cmz, ↓wp_isn, ↓wp_nsn, ↓wp_a0, ↓wp_a1, ↓wp_cv, ↓wp_cs, ↓wp_dr, ↓wp_sk, ↓wp_brk, ↓wp_cnt, ↓wp_rV, ↓wp_seq, ↓wp_iff, ↓wp_sI, ↓wp_sL, ↓wp_sN, ↓wp_inc, ↓wp_do, ↓wp_rI, ↓wp_rL, ↓wp_rN, ↓wp_rZ, ↓wp_pf, ↓wp_pz, ↓wp_pd, ↓wp_po, ↓wp_pl, ↓wp_pao, ↓wp_tsw, ↓wp_lsw, ↓wp_fn, ↓wq_ld, ↓wq_ldl, ↓wq_lda, ↓wq_c, ↓wq_gr, ↓wq_gq, ↓wq_nn, ↓wq_asI, ↓wq_asL, ↓wq_asN, ↓wq_pa, hO_182, hR_182_0, hF_182_1, hR_182_2, hF_182_3, hR_182_4, hF_182_5, hR_182_6, hR_182_7, hR_182_8, hF_182_9, hF_182_10, hF_182_11, hF_182_12, hR_182_13, hF_182_14, hR_182_15, hF_182_16, hF_182_17, hF_182_18, hF_182_19, hF_182_20, hF_182_21, hF_182_22, hR_182_23, hR_182_24, hF_182_25, hF_182_26, hR_182_27, hR_182_28, hR_182_29, hF_182_30, hF_182_31, hR_182_32, hR_182_33, hF_182_34, hR_182_35, hF_182_36, hF_182_37, hF_182_38, hF_182_39, hF_182_40, hR_182_41, hR_182_42, hR_182_43, hR_182_44, hR_182_45, hR_182_46, hF_182_47, hR_182_48, hR_182_49, hR_182_50, hR_182_51, hR_182_52, hF_182_53, hR_182_54, hR_182_55, hR_182_56, hR_182_57, hF_182_58, hR_182_59, hR_182_60, hR_182_61, fd_p_eq, fd_p_ne, fd_p_lt, fd_p_ge, fd_p_gt, fd_p_le, fd_f_iadd, fd_f_isub, fd_f_imul, fd_f_iand, fd_f_ior, fd_f_ixor, fd_f_ishl, fd_f_ishr, fd_f_iushr, fd_f_ladd, fd_f_lsub, fd_f_lmul, fd_f_lcmp, fd_f_idiv, fd_f_irem, fd_f_ldiv, fd_f_lrem, fd_f_ineg, fd_f_i2l, fd_f_l2i, fd_f_i2b, fd_f_i2s, fd_f_i2c, fd_z_idiv, fd_z_irem, fd_z_ldiv, fd_z_lrem, fd_in0, fd_sl, fd_st1, fd_st2, fd_kl, fd_vI, fd_vL, fd_vN, fd_ok1, fd_v_int, xI, xL, xR, xK, xG, yI, yL, yN, -Prod.exists, fd_run_of (s_X12_fine_t hwr), fd_run_of eh, n1, n2, h]
theorem g4_on {d q : Nat} {a : Int32} {c3 c4 : Value} {M : fd_M} {Q : Bool → fd_S → Prop} (hrp : rp cell len top l ch M) (hat : M.1 182 21 = nI q) (hwr : M.1 182 22 = -1) (hq : q ≤ l) (h : Q (decide (q < l ∧ (ch q = 43 ∨ ch q = 45))) ([.ref 182, .int (nI d), .int a, c3, c4], M)) : fd_we g4 ([.ref 182, .int (nI d), .int a, c3, c4], M) Q := by
  have hl := hrp.l80
  have eh := s_X12_here hrp hat (by omega)
  unfold g4
  by_cases c : q < l
  · rw [if_pos c] at eh
    by_cases c1 : ch q = 43
    · rw [decide_eq_true ⟨c, Or.inl c1⟩] at h
      simp [↓wp_ldn, ↓wp_b1, ↓wp_b2, ↓wp_b2z, ↓wp_gf, ↓wp_gd, ↓wp_ga, ↓wp_gl, ↓wp_al2, ↓wp_pi, ↓wp_ltr, ↓wp_ite, ↓wp_and, ↓wp_or, ↓wp_not, ↓wp_cmp, ↓wp_cmz, ↓wp_isn, ↓wp_nsn, ↓wp_a0, ↓wp_a1, ↓wp_cv, ↓wp_cs, ↓wp_dr, ↓wp_sk, ↓wp_brk, ↓wp_cnt, ↓wp_rV, ↓wp_seq, ↓wp_iff, ↓wp_sI, ↓wp_sL, ↓wp_sN, ↓wp_inc, ↓wp_do, ↓wp_rI, ↓wp_rL, ↓wp_rN, ↓wp_rZ, ↓wp_pf, ↓wp_pz, ↓wp_pd, ↓wp_po, ↓wp_pl, ↓wp_pao, ↓wp_tsw, ↓wp_lsw, ↓wp_fn, ↓wq_ld, ↓wq_ldl, ↓wq_lda, ↓wq_c, ↓wq_gr, ↓wq_gq, ↓wq_nn, ↓wq_asI, ↓wq_asL, ↓wq_asN, ↓wq_pa, hO_182, hR_182_0, hF_182_1, hR_182_2, hF_182_3, hR_182_4, hF_182_5, hR_182_6, hR_182_7, hR_182_8, hF_182_9, hF_182_10, hF_182_11, hF_182_12, hR_182_13, hF_182_14, hR_182_15, hF_182_16, hF_182_17, hF_182_18, hF_182_19, hF_182_20, hF_182_21, hF_182_22, hR_182_23, hR_182_24, hF_182_25, hF_182_26, hR_182_27, hR_182_28, hR_182_29, hF_182_30, hF_182_31, hR_182_32, hR_182_33, hF_182_34, hR_182_35, hF_182_36, hF_182_37, hF_182_38, hF_182_39, hF_182_40, hR_182_41, hR_182_42, hR_182_43, hR_182_44, hR_182_45, hR_182_46, hF_182_47, hR_182_48, hR_182_49, hR_182_50, hR_182_51, hR_182_52, hF_182_53, hR_182_54, hR_182_55, hR_182_56, hR_182_57, hF_182_58, hR_182_59, hR_182_60, hR_182_61, fd_p_eq, fd_p_ne, fd_p_lt, fd_p_ge, fd_p_gt, fd_p_le, fd_f_iadd, fd_f_isub, fd_f_imul, fd_f_iand, fd_f_ior, fd_f_ixor, fd_f_ishl, fd_f_ishr, fd_f_iushr, fd_f_ladd, fd_f_lsub, fd_f_lmul, fd_f_lcmp, fd_f_idiv, fd_f_irem, fd_f_ldiv, fd_f_lrem, fd_f_ineg, fd_f_i2l, fd_f_l2i, fd_f_i2b, fd_f_i2s, fd_f_i2c, fd_z_idiv, fd_z_irem, fd_z_ldiv, fd_z_lrem, fd_in0, fd_sl, fd_st1, fd_st2, fd_kl, fd_vI, fd_vL, fd_vN, fd_ok1, fd_v_int, xI, xL, xR, xK, xG, yI, yL, yN, -Prod.exists, fd_run_of (s_X12_fine_t hwr), fd_run_of eh, c1, h]
    · by_cases c2 : ch q = 45
      · rw [decide_eq_true ⟨c, Or.inr c2⟩] at h
        simp [↓wp_ldn, ↓wp_b1, ↓wp_b2, ↓wp_b2z, ↓wp_gf, ↓wp_gd, ↓wp_ga, ↓wp_gl, ↓wp_al2, ↓wp_pi, ↓wp_ltr, ↓wp_ite, ↓wp_and, ↓wp_or, ↓wp_not, ↓wp_cmp, ↓wp_cmz, ↓wp_isn, ↓wp_nsn, ↓wp_a0, ↓wp_a1, ↓wp_cv, ↓wp_cs, ↓wp_dr, ↓wp_sk, ↓wp_brk, ↓wp_cnt, ↓wp_rV, ↓wp_seq, ↓wp_iff, ↓wp_sI, ↓wp_sL, ↓wp_sN, ↓wp_inc, ↓wp_do, ↓wp_rI, ↓wp_rL, ↓wp_rN, ↓wp_rZ, ↓wp_pf, ↓wp_pz, ↓wp_pd, ↓wp_po, ↓wp_pl, ↓wp_pao, ↓wp_tsw, ↓wp_lsw, ↓wp_fn, ↓wq_ld, ↓wq_ldl, ↓wq_lda, ↓wq_c, ↓wq_gr, ↓wq_gq, ↓wq_nn, ↓wq_asI, ↓wq_asL, ↓wq_asN, ↓wq_pa, hO_182, hR_182_0, hF_182_1, hR_182_2, hF_182_3, hR_182_4, hF_182_5, hR_182_6, hR_182_7, hR_182_8, hF_182_9, hF_182_10, hF_182_11, hF_182_12, hR_182_13, hF_182_14, hR_182_15, hF_182_16, hF_182_17, hF_182_18, hF_182_19, hF_182_20, hF_182_21, hF_182_22, hR_182_23, hR_182_24, hF_182_25, hF_182_26, hR_182_27, hR_182_28, hR_182_29, hF_182_30, hF_182_31, hR_182_32, hR_182_33, hF_182_34, hR_182_35, hF_182_36, hF_182_37, hF_182_38, hF_182_39, hF_182_40, hR_182_41, hR_182_42, hR_182_43, hR_182_44, hR_182_45, hR_182_46, hF_182_47, hR_182_48, hR_182_49, hR_182_50, hR_182_51, hR_182_52, hF_182_53, hR_182_54, hR_182_55, hR_182_56, hR_182_57, hF_182_58, hR_182_59, hR_182_60, hR_182_61, fd_p_eq, fd_p_ne, fd_p_lt, fd_p_ge, fd_p_gt, fd_p_le, fd_f_iadd, fd_f_isub, fd_f_imul, fd_f_iand, fd_f_ior, fd_f_ixor, fd_f_ishl, fd_f_ishr, fd_f_iushr, fd_f_ladd, fd_f_lsub, fd_f_lmul, fd_f_lcmp, fd_f_idiv, fd_f_irem, fd_f_ldiv, fd_f_lrem, fd_f_ineg, fd_f_i2l, fd_f_l2i, fd_f_i2b, fd_f_i2s, fd_f_i2c, fd_z_idiv, fd_z_irem, fd_z_ldiv, fd_z_lrem, fd_in0, fd_sl, fd_st1, fd_st2, fd_kl, fd_vI, fd_vL, fd_vN, fd_ok1, fd_v_int, xI, xL, xR, xK, xG, yI, yL, yN, -Prod.exists, fd_run_of (s_X12_fine_t hwr), fd_run_of eh, c2, h]
      · rw [decide_eq_false (fun z => z.2.elim c1 c2)] at h
        simp [↓wp_ldn, ↓wp_b1, ↓wp_b2, ↓wp_b2z, ↓wp_gf, ↓wp_gd, ↓wp_ga, ↓wp_gl, ↓wp_al2, ↓wp_pi, ↓wp_ltr, ↓wp_ite, ↓wp_and, ↓wp_or, ↓wp_not, ↓wp_cmp, ↓wp_cmz, ↓wp_isn, ↓wp_nsn, ↓wp_a0, ↓wp_a1, ↓wp_cv, ↓wp_cs, ↓wp_dr, ↓wp_sk, ↓wp_brk, ↓wp_cnt, ↓wp_rV, ↓wp_seq, ↓wp_iff, ↓wp_sI, ↓wp_sL, ↓wp_sN, ↓wp_inc, ↓wp_do, ↓wp_rI, ↓wp_rL, ↓wp_rN, ↓wp_rZ, ↓wp_pf, ↓wp_pz, ↓wp_pd, ↓wp_po, ↓wp_pl, ↓wp_pao, ↓wp_tsw, ↓wp_lsw, ↓wp_fn, ↓wq_ld, ↓wq_ldl, ↓wq_lda, ↓wq_c, ↓wq_gr, ↓wq_gq, ↓wq_nn, ↓wq_asI, ↓wq_asL, ↓wq_asN, ↓wq_pa, hO_182, hR_182_0, hF_182_1, hR_182_2, hF_182_3, hR_182_4, hF_182_5, hR_182_6, hR_182_7, hR_182_8, hF_182_9, hF_182_10, hF_182_11, hF_182_12, hR_182_13, hF_182_14, hR_182_15, hF_182_16, hF_182_17, hF_182_18, hF_182_19, hF_182_20, hF_182_21, hF_182_22, hR_182_23, hR_182_24, hF_182_25, hF_182_26, hR_182_27, hR_182_28, hR_182_29, hF_182_30, hF_182_31, hR_182_32, hR_182_33, hF_182_34, hR_182_35, hF_182_36, hF_182_37, hF_182_38, hF_182_39, hF_182_40, hR_182_41, hR_182_42, hR_182_43, hR_182_44, hR_182_45, hR_182_46, hF_182_47, hR_182_48, hR_182_49, hR_182_50, hR_182_51, hR_182_52, hF_182_53, hR_182_54, hR_182_55, hR_182_56, hR_182_57, hF_182_58, hR_182_59, hR_182_60, hR_182_61, fd_p_eq, fd_p_ne, fd_p_lt, fd_p_ge, fd_p_gt, fd_p_le, fd_f_iadd, fd_f_isub, fd_f_imul, fd_f_iand, fd_f_ior, fd_f_ixor, fd_f_ishl, fd_f_ishr, fd_f_iushr, fd_f_ladd, fd_f_lsub, fd_f_lmul, fd_f_lcmp, fd_f_idiv, fd_f_irem, fd_f_ldiv, fd_f_lrem, fd_f_ineg, fd_f_i2l, fd_f_l2i, fd_f_i2b, fd_f_i2s, fd_f_i2c, fd_z_idiv, fd_z_irem, fd_z_ldiv, fd_z_lrem, fd_in0, fd_sl, fd_st1, fd_st2, fd_kl, fd_vI, fd_vL, fd_vN, fd_ok1, fd_v_int, xI, xL, xR, xK, xG, yI, yL, yN, -Prod.exists, fd_run_of (s_X12_fine_t hwr), fd_run_of eh, c1, c2, h]
  · rw [if_neg c] at eh
    rw [decide_eq_false (fun z => c z.1)] at h
    have n1 : ¬ (-1 : Int32) = 43 := by decide
    have n2 : ¬ (-1 : Int32) = 45 := by decide
    simp [↓wp_ldn, ↓wp_b1, ↓wp_b2, ↓wp_b2z, ↓wp_gf, ↓wp_gd, ↓wp_ga, ↓wp_gl, ↓wp_al2, ↓wp_pi, ↓wp_ltr, ↓wp_ite, ↓wp_and, ↓wp_or, ↓wp_not, ↓wp_cmp, ↓wp_cmz, ↓wp_isn, ↓wp_nsn, ↓wp_a0, ↓wp_a1, ↓wp_cv, ↓wp_cs, ↓wp_dr, ↓wp_sk, ↓wp_brk, ↓wp_cnt, ↓wp_rV, ↓wp_seq, ↓wp_iff, ↓wp_sI, ↓wp_sL, ↓wp_sN, ↓wp_inc, ↓wp_do, ↓wp_rI, ↓wp_rL, ↓wp_rN, ↓wp_rZ, ↓wp_pf, ↓wp_pz, ↓wp_pd, ↓wp_po, ↓wp_pl, ↓wp_pao, ↓wp_tsw, ↓wp_lsw, ↓wp_fn, ↓wq_ld, ↓wq_ldl, ↓wq_lda, ↓wq_c, ↓wq_gr, ↓wq_gq, ↓wq_nn, ↓wq_asI, ↓wq_asL, ↓wq_asN, ↓wq_pa, hO_182, hR_182_0, hF_182_1, hR_182_2, hF_182_3, hR_182_4, hF_182_5, hR_182_6, hR_182_7, hR_182_8, hF_182_9, hF_182_10, hF_182_11, hF_182_12, hR_182_13, hF_182_14, hR_182_15, hF_182_16, hF_182_17, hF_182_18, hF_182_19, hF_182_20, hF_182_21, hF_182_22, hR_182_23, hR_182_24, hF_182_25, hF_182_26, hR_182_27, hR_182_28, hR_182_29, hF_182_30, hF_182_31, hR_182_32, hR_182_33, hF_182_34, hR_182_35, hF_182_36, hF_182_37, hF_182_38, hF_182_39, hF_182_40, hR_182_41, hR_182_42, hR_182_43, hR_182_44, hR_182_45, hR_182_46, hF_182_47, hR_182_48, hR_182_49, hR_182_50, hR_182_51, hR_182_52, hF_182_53, hR_182_54, hR_182_55, hR_182_56, hR_182_57, hF_182_58, hR_182_59, hR_182_60, hR_182_61, fd_p_eq, fd_p_ne, fd_p_lt, fd_p_ge, fd_p_gt, fd_p_le, fd_f_iadd, fd_f_isub, fd_f_imul, fd_f_iand, fd_f_ior, fd_f_ixor, fd_f_ishl, fd_f_ishr, fd_f_iushr, fd_f_ladd, fd_f_lsub, fd_f_lmul, fd_f_lcmp, fd_f_idiv, fd_f_irem, fd_f_ldiv, fd_f_lrem, fd_f_ineg, fd_f_i2l, fd_f_l2i, fd_f_i2b, fd_f_i2s, fd_f_i2c, fd_z_idiv, fd_z_irem, fd_z_ldiv, fd_z_lrem, fd_in0, fd_sl, fd_st1, fd_st2, fd_kl, fd_vI, fd_vL, fd_vN, fd_ok1, fd_v_int, xI, xL, xR, xK, xG, yI, yL, yN, -Prod.exists, fd_run_of (s_X12_fine_t hwr), fd_run_of eh, n1, n2, h]
theorem bd5_wp {d q : Nat} {a : Int32} {c3 c4 : Value} {M : fd_M} {fr : Nat → List Value → fd_M → Option (Value × fd_M)} {Q : Nat → Value → fd_S → Prop} (hrp : rp cell len top l ch M) (hat : M.1 182 21 = nI q) (hq : q < l) (hc : ch q = 42 ∨ ch q = 47)
    (h : fd_run (fr 3) [.ref 182, .int (nI d)] (fd_uI M 182 21 (nI (q + 1))) (fun v M' => ∃ o : Int32, v = .int o ∧ ∀ c3, Q 0 fd_jk ([.ref 182, .int (nI d), .int (ru_join (ch q) a o), c3, .int o], M'))) : fd_wp (bd5 fr) ([.ref 182, .int (nI d), .int a, c3, c4], M) Q := by
  have hl := hrp.l80
  have eh := s_X12_here hrp hat (by omega)
  rw [if_pos hq] at eh
  have j1 : ∀ a o, ru_join 42 a o = a * o := fun a o => rfl
  have j2 : ∀ a o, ru_join 47 a o = if o = 0 then 0 else a / o := fun a o => rfl
  have n47 : ¬ ((47 : Int32) = 42) := by decide
  unfold bd5
  rcases hc with hc | hc
  · rw [hc] at eh h
    simp [↓wp_ldn, ↓wp_b1, ↓wp_b2, ↓wp_b2z, ↓wp_gf, ↓wp_gd, ↓wp_ga, ↓wp_gl, ↓wp_al2, ↓wp_pi, ↓wp_ltr, ↓wp_ite, ↓wp_and, ↓wp_or, ↓wp_not, ↓wp_cmp, ↓wp_cmz, ↓wp_isn, ↓wp_nsn, ↓wp_a0, ↓wp_a1, ↓wp_cv, ↓wp_cs, ↓wp_dr, ↓wp_sk, ↓wp_brk, ↓wp_cnt, ↓wp_rV, ↓wp_seq, ↓wp_iff, ↓wp_sI, ↓wp_sL, ↓wp_sN, ↓wp_inc, ↓wp_do, ↓wp_rI, ↓wp_rL, ↓wp_rN, ↓wp_rZ, ↓wp_pf, ↓wp_pz, ↓wp_pd, ↓wp_po, ↓wp_pl, ↓wp_pao, ↓wp_tsw, ↓wp_lsw, ↓wp_fn, ↓wq_ld, ↓wq_ldl, ↓wq_lda, ↓wq_c, ↓wq_gr, ↓wq_gq, ↓wq_nn, ↓wq_asI, ↓wq_asL, ↓wq_asN, ↓wq_pa, hO_182, hR_182_0, hF_182_1, hR_182_2, hF_182_3, hR_182_4, hF_182_5, hR_182_6, hR_182_7, hR_182_8, hF_182_9, hF_182_10, hF_182_11, hF_182_12, hR_182_13, hF_182_14, hR_182_15, hF_182_16, hF_182_17, hF_182_18, hF_182_19, hF_182_20, hF_182_21, hF_182_22, hR_182_23, hR_182_24, hF_182_25, hF_182_26, hR_182_27, hR_182_28, hR_182_29, hF_182_30, hF_182_31, hR_182_32, hR_182_33, hF_182_34, hR_182_35, hF_182_36, hF_182_37, hF_182_38, hF_182_39, hF_182_40, hR_182_41, hR_182_42, hR_182_43, hR_182_44, hR_182_45, hR_182_46, hF_182_47, hR_182_48, hR_182_49, hR_182_50, hR_182_51, hR_182_52, hF_182_53, hR_182_54, hR_182_55, hR_182_56, hR_182_57, hF_182_58, hR_182_59, hR_182_60, hR_182_61, fd_p_eq, fd_p_ne, fd_p_lt, fd_p_ge, fd_p_gt, fd_p_le, fd_f_iadd, fd_f_isub, fd_f_imul, fd_f_iand, fd_f_ior, fd_f_ixor, fd_f_ishl, fd_f_ishr, fd_f_iushr, fd_f_ladd, fd_f_lsub, fd_f_lmul, fd_f_lcmp, fd_f_idiv, fd_f_irem, fd_f_ldiv, fd_f_lrem, fd_f_ineg, fd_f_i2l, fd_f_l2i, fd_f_i2b, fd_f_i2s, fd_f_i2c, fd_z_idiv, fd_z_irem, fd_z_ldiv, fd_z_lrem, fd_in0, fd_sl, fd_st1, fd_st2, fd_kl, fd_vI, fd_vL, fd_vN, fd_ok1, fd_v_int, xI, xL, xR, xK, xG, yI, yL, yN, -Prod.exists, fd_run_of eh, hat, nI_1]
    refine fd_run_mono h (fun v M' hv => ?_)
    obtain ⟨o, rfl, hv⟩ := hv
    rw [j1] at hv
    simp [↓wp_ldn, ↓wp_b1, ↓wp_b2, ↓wp_b2z, ↓wp_gf, ↓wp_gd, ↓wp_ga, ↓wp_gl, ↓wp_al2, ↓wp_pi, ↓wp_ltr, ↓wp_ite, ↓wp_and, ↓wp_or, ↓wp_not, ↓wp_cmp, ↓wp_cmz, ↓wp_isn, ↓wp_nsn, ↓wp_a0, ↓wp_a1, ↓wp_cv, ↓wp_cs, ↓wp_dr, ↓wp_sk, ↓wp_brk, ↓wp_cnt, ↓wp_rV, ↓wp_seq, ↓wp_iff, ↓wp_sI, ↓wp_sL, ↓wp_sN, ↓wp_inc, ↓wp_do, ↓wp_rI, ↓wp_rL, ↓wp_rN, ↓wp_rZ, ↓wp_pf, ↓wp_pz, ↓wp_pd, ↓wp_po, ↓wp_pl, ↓wp_pao, ↓wp_tsw, ↓wp_lsw, ↓wp_fn, ↓wq_ld, ↓wq_ldl, ↓wq_lda, ↓wq_c, ↓wq_gr, ↓wq_gq, ↓wq_nn, ↓wq_asI, ↓wq_asL, ↓wq_asN, ↓wq_pa, hO_182, hR_182_0, hF_182_1, hR_182_2, hF_182_3, hR_182_4, hF_182_5, hR_182_6, hR_182_7, hR_182_8, hF_182_9, hF_182_10, hF_182_11, hF_182_12, hR_182_13, hF_182_14, hR_182_15, hF_182_16, hF_182_17, hF_182_18, hF_182_19, hF_182_20, hF_182_21, hF_182_22, hR_182_23, hR_182_24, hF_182_25, hF_182_26, hR_182_27, hR_182_28, hR_182_29, hF_182_30, hF_182_31, hR_182_32, hR_182_33, hF_182_34, hR_182_35, hF_182_36, hF_182_37, hF_182_38, hF_182_39, hF_182_40, hR_182_41, hR_182_42, hR_182_43, hR_182_44, hR_182_45, hR_182_46, hF_182_47, hR_182_48, hR_182_49, hR_182_50, hR_182_51, hR_182_52, hF_182_53, hR_182_54, hR_182_55, hR_182_56, hR_182_57, hF_182_58, hR_182_59, hR_182_60, hR_182_61, fd_p_eq, fd_p_ne, fd_p_lt, fd_p_ge, fd_p_gt, fd_p_le, fd_f_iadd, fd_f_isub, fd_f_imul, fd_f_iand, fd_f_ior, fd_f_ixor, fd_f_ishl, fd_f_ishr, fd_f_iushr, fd_f_ladd, fd_f_lsub, fd_f_lmul, fd_f_lcmp, fd_f_idiv, fd_f_irem, fd_f_ldiv, fd_f_lrem, fd_f_ineg, fd_f_i2l, fd_f_l2i, fd_f_i2b, fd_f_i2s, fd_f_i2c, fd_z_idiv, fd_z_irem, fd_z_ldiv, fd_z_lrem, fd_in0, fd_sl, fd_st1, fd_st2, fd_kl, fd_vI, fd_vL, fd_vN, fd_ok1, fd_v_int, xI, xL, xR, xK, xG, yI, yL, yN, -Prod.exists, hv]
  · rw [hc] at eh h
    simp [↓wp_ldn, ↓wp_b1, ↓wp_b2, ↓wp_b2z, ↓wp_gf, ↓wp_gd, ↓wp_ga, ↓wp_gl, ↓wp_al2, ↓wp_pi, ↓wp_ltr, ↓wp_ite, ↓wp_and, ↓wp_or, ↓wp_not, ↓wp_cmp, ↓wp_cmz, ↓wp_isn, ↓wp_nsn, ↓wp_a0, ↓wp_a1, ↓wp_cv, ↓wp_cs, ↓wp_dr, ↓wp_sk, ↓wp_brk, ↓wp_cnt, ↓wp_rV, ↓wp_seq, ↓wp_iff, ↓wp_sI, ↓wp_sL, ↓wp_sN, ↓wp_inc, ↓wp_do, ↓wp_rI, ↓wp_rL, ↓wp_rN, ↓wp_rZ, ↓wp_pf, ↓wp_pz, ↓wp_pd, ↓wp_po, ↓wp_pl, ↓wp_pao, ↓wp_tsw, ↓wp_lsw, ↓wp_fn, ↓wq_ld, ↓wq_ldl, ↓wq_lda, ↓wq_c, ↓wq_gr, ↓wq_gq, ↓wq_nn, ↓wq_asI, ↓wq_asL, ↓wq_asN, ↓wq_pa, hO_182, hR_182_0, hF_182_1, hR_182_2, hF_182_3, hR_182_4, hF_182_5, hR_182_6, hR_182_7, hR_182_8, hF_182_9, hF_182_10, hF_182_11, hF_182_12, hR_182_13, hF_182_14, hR_182_15, hF_182_16, hF_182_17, hF_182_18, hF_182_19, hF_182_20, hF_182_21, hF_182_22, hR_182_23, hR_182_24, hF_182_25, hF_182_26, hR_182_27, hR_182_28, hR_182_29, hF_182_30, hF_182_31, hR_182_32, hR_182_33, hF_182_34, hR_182_35, hF_182_36, hF_182_37, hF_182_38, hF_182_39, hF_182_40, hR_182_41, hR_182_42, hR_182_43, hR_182_44, hR_182_45, hR_182_46, hF_182_47, hR_182_48, hR_182_49, hR_182_50, hR_182_51, hR_182_52, hF_182_53, hR_182_54, hR_182_55, hR_182_56, hR_182_57, hF_182_58, hR_182_59, hR_182_60, hR_182_61, fd_p_eq, fd_p_ne, fd_p_lt, fd_p_ge, fd_p_gt, fd_p_le, fd_f_iadd, fd_f_isub, fd_f_imul, fd_f_iand, fd_f_ior, fd_f_ixor, fd_f_ishl, fd_f_ishr, fd_f_iushr, fd_f_ladd, fd_f_lsub, fd_f_lmul, fd_f_lcmp, fd_f_idiv, fd_f_irem, fd_f_ldiv, fd_f_lrem, fd_f_ineg, fd_f_i2l, fd_f_l2i, fd_f_i2b, fd_f_i2s, fd_f_i2c, fd_z_idiv, fd_z_irem, fd_z_ldiv, fd_z_lrem, fd_in0, fd_sl, fd_st1, fd_st2, fd_kl, fd_vI, fd_vL, fd_vN, fd_ok1, fd_v_int, xI, xL, xR, xK, xG, yI, yL, yN, -Prod.exists, fd_run_of eh, hat, n47, nI_1]
    refine fd_run_mono h (fun v M' hv => ?_)
    obtain ⟨o, rfl, hv⟩ := hv
    rw [j2] at hv
    by_cases o0 : o = 0
    · rw [if_pos o0] at hv
      subst o0
      simp [↓wp_ldn, ↓wp_b1, ↓wp_b2, ↓wp_b2z, ↓wp_gf, ↓wp_gd, ↓wp_ga, ↓wp_gl, ↓wp_al2, ↓wp_pi, ↓wp_ltr, ↓wp_ite, ↓wp_and, ↓wp_or, ↓wp_not, ↓wp_cmp, ↓wp_cmz, ↓wp_isn, ↓wp_nsn, ↓wp_a0, ↓wp_a1, ↓wp_cv, ↓wp_cs, ↓wp_dr, ↓wp_sk, ↓wp_brk, ↓wp_cnt, ↓wp_rV, ↓wp_seq, ↓wp_iff, ↓wp_sI, ↓wp_sL, ↓wp_sN, ↓wp_inc, ↓wp_do, ↓wp_rI, ↓wp_rL, ↓wp_rN, ↓wp_rZ, ↓wp_pf, ↓wp_pz, ↓wp_pd, ↓wp_po, ↓wp_pl, ↓wp_pao, ↓wp_tsw, ↓wp_lsw, ↓wp_fn, ↓wq_ld, ↓wq_ldl, ↓wq_lda, ↓wq_c, ↓wq_gr, ↓wq_gq, ↓wq_nn, ↓wq_asI, ↓wq_asL, ↓wq_asN, ↓wq_pa, hO_182, hR_182_0, hF_182_1, hR_182_2, hF_182_3, hR_182_4, hF_182_5, hR_182_6, hR_182_7, hR_182_8, hF_182_9, hF_182_10, hF_182_11, hF_182_12, hR_182_13, hF_182_14, hR_182_15, hF_182_16, hF_182_17, hF_182_18, hF_182_19, hF_182_20, hF_182_21, hF_182_22, hR_182_23, hR_182_24, hF_182_25, hF_182_26, hR_182_27, hR_182_28, hR_182_29, hF_182_30, hF_182_31, hR_182_32, hR_182_33, hF_182_34, hR_182_35, hF_182_36, hF_182_37, hF_182_38, hF_182_39, hF_182_40, hR_182_41, hR_182_42, hR_182_43, hR_182_44, hR_182_45, hR_182_46, hF_182_47, hR_182_48, hR_182_49, hR_182_50, hR_182_51, hR_182_52, hF_182_53, hR_182_54, hR_182_55, hR_182_56, hR_182_57, hF_182_58, hR_182_59, hR_182_60, hR_182_61, fd_p_eq, fd_p_ne, fd_p_lt, fd_p_ge, fd_p_gt, fd_p_le, fd_f_iadd, fd_f_isub, fd_f_imul, fd_f_iand, fd_f_ior, fd_f_ixor, fd_f_ishl, fd_f_ishr, fd_f_iushr, fd_f_ladd, fd_f_lsub, fd_f_lmul, fd_f_lcmp, fd_f_idiv, fd_f_irem, fd_f_ldiv, fd_f_lrem, fd_f_ineg, fd_f_i2l, fd_f_l2i, fd_f_i2b, fd_f_i2s, fd_f_i2c, fd_z_idiv, fd_z_irem, fd_z_ldiv, fd_z_lrem, fd_in0, fd_sl, fd_st1, fd_st2, fd_kl, fd_vI, fd_vL, fd_vN, fd_ok1, fd_v_int, xI, xL, xR, xK, xG, yI, yL, yN, -Prod.exists, hv]
    · rw [if_neg o0] at hv
      simp [↓wp_ldn, ↓wp_b1, ↓wp_b2, ↓wp_b2z, ↓wp_gf, ↓wp_gd, ↓wp_ga, ↓wp_gl, ↓wp_al2, ↓wp_pi, ↓wp_ltr, ↓wp_ite, ↓wp_and, ↓wp_or, ↓wp_not, ↓wp_cmp, ↓wp_cmz, ↓wp_isn, ↓wp_nsn, ↓wp_a0, ↓wp_a1, ↓wp_cv, ↓wp_cs, ↓wp_dr, ↓wp_sk, ↓wp_brk, ↓wp_cnt, ↓wp_rV, ↓wp_seq, ↓wp_iff, ↓wp_sI, ↓wp_sL, ↓wp_sN, ↓wp_inc, ↓wp_do, ↓wp_rI, ↓wp_rL, ↓wp_rN, ↓wp_rZ, ↓wp_pf, ↓wp_pz, ↓wp_pd, ↓wp_po, ↓wp_pl, ↓wp_pao, ↓wp_tsw, ↓wp_lsw, ↓wp_fn, ↓wq_ld, ↓wq_ldl, ↓wq_lda, ↓wq_c, ↓wq_gr, ↓wq_gq, ↓wq_nn, ↓wq_asI, ↓wq_asL, ↓wq_asN, ↓wq_pa, hO_182, hR_182_0, hF_182_1, hR_182_2, hF_182_3, hR_182_4, hF_182_5, hR_182_6, hR_182_7, hR_182_8, hF_182_9, hF_182_10, hF_182_11, hF_182_12, hR_182_13, hF_182_14, hR_182_15, hF_182_16, hF_182_17, hF_182_18, hF_182_19, hF_182_20, hF_182_21, hF_182_22, hR_182_23, hR_182_24, hF_182_25, hF_182_26, hR_182_27, hR_182_28, hR_182_29, hF_182_30, hF_182_31, hR_182_32, hR_182_33, hF_182_34, hR_182_35, hF_182_36, hF_182_37, hF_182_38, hF_182_39, hF_182_40, hR_182_41, hR_182_42, hR_182_43, hR_182_44, hR_182_45, hR_182_46, hF_182_47, hR_182_48, hR_182_49, hR_182_50, hR_182_51, hR_182_52, hF_182_53, hR_182_54, hR_182_55, hR_182_56, hR_182_57, hF_182_58, hR_182_59, hR_182_60, hR_182_61, fd_p_eq, fd_p_ne, fd_p_lt, fd_p_ge, fd_p_gt, fd_p_le, fd_f_iadd, fd_f_isub, fd_f_imul, fd_f_iand, fd_f_ior, fd_f_ixor, fd_f_ishl, fd_f_ishr, fd_f_iushr, fd_f_ladd, fd_f_lsub, fd_f_lmul, fd_f_lcmp, fd_f_idiv, fd_f_irem, fd_f_ldiv, fd_f_lrem, fd_f_ineg, fd_f_i2l, fd_f_l2i, fd_f_i2b, fd_f_i2s, fd_f_i2c, fd_z_idiv, fd_z_irem, fd_z_ldiv, fd_z_lrem, fd_in0, fd_sl, fd_st1, fd_st2, fd_kl, fd_vI, fd_vL, fd_vN, fd_ok1, fd_v_int, xI, xL, xR, xK, xG, yI, yL, yN, -Prod.exists, o0, hv]
theorem bd4_wp {d q : Nat} {a : Int32} {c3 c4 : Value} {M : fd_M} {fr : Nat → List Value → fd_M → Option (Value × fd_M)} {Q : Nat → Value → fd_S → Prop} (hrp : rp cell len top l ch M) (hat : M.1 182 21 = nI q) (hq : q < l) (hc : ch q = 43 ∨ ch q = 45)
    (h : fd_run (fr 2) [.ref 182, .int (nI d)] (fd_uI M 182 21 (nI (q + 1))) (fun v M' => ∃ o : Int32, v = .int o ∧ ∀ c3, Q 0 fd_jk ([.ref 182, .int (nI d), .int (ru_join (ch q) a o), c3, .int o], M'))) : fd_wp (bd4 fr) ([.ref 182, .int (nI d), .int a, c3, c4], M) Q := by
  have hl := hrp.l80
  have eh := s_X12_here hrp hat (by omega)
  rw [if_pos hq] at eh
  have j1 : ∀ a o, ru_join 43 a o = a + o := fun a o => rfl
  have j2 : ∀ a o, ru_join 45 a o = a - o := fun a o => rfl
  have n47 : ¬ ((45 : Int32) = 43) := by decide
  unfold bd4
  rcases hc with hc | hc
  · rw [hc] at eh h
    simp [↓wp_ldn, ↓wp_b1, ↓wp_b2, ↓wp_b2z, ↓wp_gf, ↓wp_gd, ↓wp_ga, ↓wp_gl, ↓wp_al2, ↓wp_pi, ↓wp_ltr, ↓wp_ite, ↓wp_and, ↓wp_or, ↓wp_not, ↓wp_cmp, ↓wp_cmz, ↓wp_isn, ↓wp_nsn, ↓wp_a0, ↓wp_a1, ↓wp_cv, ↓wp_cs, ↓wp_dr, ↓wp_sk, ↓wp_brk, ↓wp_cnt, ↓wp_rV, ↓wp_seq, ↓wp_iff, ↓wp_sI, ↓wp_sL, ↓wp_sN, ↓wp_inc, ↓wp_do, ↓wp_rI, ↓wp_rL, ↓wp_rN, ↓wp_rZ, ↓wp_pf, ↓wp_pz, ↓wp_pd, ↓wp_po, ↓wp_pl, ↓wp_pao, ↓wp_tsw, ↓wp_lsw, ↓wp_fn, ↓wq_ld, ↓wq_ldl, ↓wq_lda, ↓wq_c, ↓wq_gr, ↓wq_gq, ↓wq_nn, ↓wq_asI, ↓wq_asL, ↓wq_asN, ↓wq_pa, hO_182, hR_182_0, hF_182_1, hR_182_2, hF_182_3, hR_182_4, hF_182_5, hR_182_6, hR_182_7, hR_182_8, hF_182_9, hF_182_10, hF_182_11, hF_182_12, hR_182_13, hF_182_14, hR_182_15, hF_182_16, hF_182_17, hF_182_18, hF_182_19, hF_182_20, hF_182_21, hF_182_22, hR_182_23, hR_182_24, hF_182_25, hF_182_26, hR_182_27, hR_182_28, hR_182_29, hF_182_30, hF_182_31, hR_182_32, hR_182_33, hF_182_34, hR_182_35, hF_182_36, hF_182_37, hF_182_38, hF_182_39, hF_182_40, hR_182_41, hR_182_42, hR_182_43, hR_182_44, hR_182_45, hR_182_46, hF_182_47, hR_182_48, hR_182_49, hR_182_50, hR_182_51, hR_182_52, hF_182_53, hR_182_54, hR_182_55, hR_182_56, hR_182_57, hF_182_58, hR_182_59, hR_182_60, hR_182_61, fd_p_eq, fd_p_ne, fd_p_lt, fd_p_ge, fd_p_gt, fd_p_le, fd_f_iadd, fd_f_isub, fd_f_imul, fd_f_iand, fd_f_ior, fd_f_ixor, fd_f_ishl, fd_f_ishr, fd_f_iushr, fd_f_ladd, fd_f_lsub, fd_f_lmul, fd_f_lcmp, fd_f_idiv, fd_f_irem, fd_f_ldiv, fd_f_lrem, fd_f_ineg, fd_f_i2l, fd_f_l2i, fd_f_i2b, fd_f_i2s, fd_f_i2c, fd_z_idiv, fd_z_irem, fd_z_ldiv, fd_z_lrem, fd_in0, fd_sl, fd_st1, fd_st2, fd_kl, fd_vI, fd_vL, fd_vN, fd_ok1, fd_v_int, xI, xL, xR, xK, xG, yI, yL, yN, -Prod.exists, fd_run_of eh, hat, nI_1]
    refine fd_run_mono h (fun v M' hv => ?_)
    obtain ⟨o, rfl, hv⟩ := hv
    rw [j1] at hv
    simp [↓wp_ldn, ↓wp_b1, ↓wp_b2, ↓wp_b2z, ↓wp_gf, ↓wp_gd, ↓wp_ga, ↓wp_gl, ↓wp_al2, ↓wp_pi, ↓wp_ltr, ↓wp_ite, ↓wp_and, ↓wp_or, ↓wp_not, ↓wp_cmp, ↓wp_cmz, ↓wp_isn, ↓wp_nsn, ↓wp_a0, ↓wp_a1, ↓wp_cv, ↓wp_cs, ↓wp_dr, ↓wp_sk, ↓wp_brk, ↓wp_cnt, ↓wp_rV, ↓wp_seq, ↓wp_iff, ↓wp_sI, ↓wp_sL, ↓wp_sN, ↓wp_inc, ↓wp_do, ↓wp_rI, ↓wp_rL, ↓wp_rN, ↓wp_rZ, ↓wp_pf, ↓wp_pz, ↓wp_pd, ↓wp_po, ↓wp_pl, ↓wp_pao, ↓wp_tsw, ↓wp_lsw, ↓wp_fn, ↓wq_ld, ↓wq_ldl, ↓wq_lda, ↓wq_c, ↓wq_gr, ↓wq_gq, ↓wq_nn, ↓wq_asI, ↓wq_asL, ↓wq_asN, ↓wq_pa, hO_182, hR_182_0, hF_182_1, hR_182_2, hF_182_3, hR_182_4, hF_182_5, hR_182_6, hR_182_7, hR_182_8, hF_182_9, hF_182_10, hF_182_11, hF_182_12, hR_182_13, hF_182_14, hR_182_15, hF_182_16, hF_182_17, hF_182_18, hF_182_19, hF_182_20, hF_182_21, hF_182_22, hR_182_23, hR_182_24, hF_182_25, hF_182_26, hR_182_27, hR_182_28, hR_182_29, hF_182_30, hF_182_31, hR_182_32, hR_182_33, hF_182_34, hR_182_35, hF_182_36, hF_182_37, hF_182_38, hF_182_39, hF_182_40, hR_182_41, hR_182_42, hR_182_43, hR_182_44, hR_182_45, hR_182_46, hF_182_47, hR_182_48, hR_182_49, hR_182_50, hR_182_51, hR_182_52, hF_182_53, hR_182_54, hR_182_55, hR_182_56, hR_182_57, hF_182_58, hR_182_59, hR_182_60, hR_182_61, fd_p_eq, fd_p_ne, fd_p_lt, fd_p_ge, fd_p_gt, fd_p_le, fd_f_iadd, fd_f_isub, fd_f_imul, fd_f_iand, fd_f_ior, fd_f_ixor, fd_f_ishl, fd_f_ishr, fd_f_iushr, fd_f_ladd, fd_f_lsub, fd_f_lmul, fd_f_lcmp, fd_f_idiv, fd_f_irem, fd_f_ldiv, fd_f_lrem, fd_f_ineg, fd_f_i2l, fd_f_l2i, fd_f_i2b, fd_f_i2s, fd_f_i2c, fd_z_idiv, fd_z_irem, fd_z_ldiv, fd_z_lrem, fd_in0, fd_sl, fd_st1, fd_st2, fd_kl, fd_vI, fd_vL, fd_vN, fd_ok1, fd_v_int, xI, xL, xR, xK, xG, yI, yL, yN, -Prod.exists, hv]
  · rw [hc] at eh h
    simp [↓wp_ldn, ↓wp_b1, ↓wp_b2, ↓wp_b2z, ↓wp_gf, ↓wp_gd, ↓wp_ga, ↓wp_gl, ↓wp_al2, ↓wp_pi, ↓wp_ltr, ↓wp_ite, ↓wp_and, ↓wp_or, ↓wp_not, ↓wp_cmp, ↓wp_cmz, ↓wp_isn, ↓wp_nsn, ↓wp_a0, ↓wp_a1, ↓wp_cv, ↓wp_cs, ↓wp_dr, ↓wp_sk, ↓wp_brk, ↓wp_cnt, ↓wp_rV, ↓wp_seq, ↓wp_iff, ↓wp_sI, ↓wp_sL, ↓wp_sN, ↓wp_inc, ↓wp_do, ↓wp_rI, ↓wp_rL, ↓wp_rN, ↓wp_rZ, ↓wp_pf, ↓wp_pz, ↓wp_pd, ↓wp_po, ↓wp_pl, ↓wp_pao, ↓wp_tsw, ↓wp_lsw, ↓wp_fn, ↓wq_ld, ↓wq_ldl, ↓wq_lda, ↓wq_c, ↓wq_gr, ↓wq_gq, ↓wq_nn, ↓wq_asI, ↓wq_asL, ↓wq_asN, ↓wq_pa, hO_182, hR_182_0, hF_182_1, hR_182_2, hF_182_3, hR_182_4, hF_182_5, hR_182_6, hR_182_7, hR_182_8, hF_182_9, hF_182_10, hF_182_11, hF_182_12, hR_182_13, hF_182_14, hR_182_15, hF_182_16, hF_182_17, hF_182_18, hF_182_19, hF_182_20, hF_182_21, hF_182_22, hR_182_23, hR_182_24, hF_182_25, hF_182_26, hR_182_27, hR_182_28, hR_182_29, hF_182_30, hF_182_31, hR_182_32, hR_182_33, hF_182_34, hR_182_35, hF_182_36, hF_182_37, hF_182_38, hF_182_39, hF_182_40, hR_182_41, hR_182_42, hR_182_43, hR_182_44, hR_182_45, hR_182_46, hF_182_47, hR_182_48, hR_182_49, hR_182_50, hR_182_51, hR_182_52, hF_182_53, hR_182_54, hR_182_55, hR_182_56, hR_182_57, hF_182_58, hR_182_59, hR_182_60, hR_182_61, fd_p_eq, fd_p_ne, fd_p_lt, fd_p_ge, fd_p_gt, fd_p_le, fd_f_iadd, fd_f_isub, fd_f_imul, fd_f_iand, fd_f_ior, fd_f_ixor, fd_f_ishl, fd_f_ishr, fd_f_iushr, fd_f_ladd, fd_f_lsub, fd_f_lmul, fd_f_lcmp, fd_f_idiv, fd_f_irem, fd_f_ldiv, fd_f_lrem, fd_f_ineg, fd_f_i2l, fd_f_l2i, fd_f_i2b, fd_f_i2s, fd_f_i2c, fd_z_idiv, fd_z_irem, fd_z_ldiv, fd_z_lrem, fd_in0, fd_sl, fd_st1, fd_st2, fd_kl, fd_vI, fd_vL, fd_vN, fd_ok1, fd_v_int, xI, xL, xR, xK, xG, yI, yL, yN, -Prod.exists, fd_run_of eh, hat, n47, nI_1]
    refine fd_run_mono h (fun v M' hv => ?_)
    obtain ⟨o, rfl, hv⟩ := hv
    rw [j2] at hv
    simp [↓wp_ldn, ↓wp_b1, ↓wp_b2, ↓wp_b2z, ↓wp_gf, ↓wp_gd, ↓wp_ga, ↓wp_gl, ↓wp_al2, ↓wp_pi, ↓wp_ltr, ↓wp_ite, ↓wp_and, ↓wp_or, ↓wp_not, ↓wp_cmp, ↓wp_cmz, ↓wp_isn, ↓wp_nsn, ↓wp_a0, ↓wp_a1, ↓wp_cv, ↓wp_cs, ↓wp_dr, ↓wp_sk, ↓wp_brk, ↓wp_cnt, ↓wp_rV, ↓wp_seq, ↓wp_iff, ↓wp_sI, ↓wp_sL, ↓wp_sN, ↓wp_inc, ↓wp_do, ↓wp_rI, ↓wp_rL, ↓wp_rN, ↓wp_rZ, ↓wp_pf, ↓wp_pz, ↓wp_pd, ↓wp_po, ↓wp_pl, ↓wp_pao, ↓wp_tsw, ↓wp_lsw, ↓wp_fn, ↓wq_ld, ↓wq_ldl, ↓wq_lda, ↓wq_c, ↓wq_gr, ↓wq_gq, ↓wq_nn, ↓wq_asI, ↓wq_asL, ↓wq_asN, ↓wq_pa, hO_182, hR_182_0, hF_182_1, hR_182_2, hF_182_3, hR_182_4, hF_182_5, hR_182_6, hR_182_7, hR_182_8, hF_182_9, hF_182_10, hF_182_11, hF_182_12, hR_182_13, hF_182_14, hR_182_15, hF_182_16, hF_182_17, hF_182_18, hF_182_19, hF_182_20, hF_182_21, hF_182_22, hR_182_23, hR_182_24, hF_182_25, hF_182_26, hR_182_27, hR_182_28, hR_182_29, hF_182_30, hF_182_31, hR_182_32, hR_182_33, hF_182_34, hR_182_35, hF_182_36, hF_182_37, hF_182_38, hF_182_39, hF_182_40, hR_182_41, hR_182_42, hR_182_43, hR_182_44, hR_182_45, hR_182_46, hF_182_47, hR_182_48, hR_182_49, hR_182_50, hR_182_51, hR_182_52, hF_182_53, hR_182_54, hR_182_55, hR_182_56, hR_182_57, hF_182_58, hR_182_59, hR_182_60, hR_182_61, fd_p_eq, fd_p_ne, fd_p_lt, fd_p_ge, fd_p_gt, fd_p_le, fd_f_iadd, fd_f_isub, fd_f_imul, fd_f_iand, fd_f_ior, fd_f_ixor, fd_f_ishl, fd_f_ishr, fd_f_iushr, fd_f_ladd, fd_f_lsub, fd_f_lmul, fd_f_lcmp, fd_f_idiv, fd_f_irem, fd_f_ldiv, fd_f_lrem, fd_f_ineg, fd_f_i2l, fd_f_l2i, fd_f_i2b, fd_f_i2s, fd_f_i2c, fd_z_idiv, fd_z_irem, fd_z_ldiv, fd_z_lrem, fd_in0, fd_sl, fd_st1, fd_st2, fd_kl, fd_vI, fd_vL, fd_vN, fd_ok1, fd_v_int, xI, xL, xR, xK, xG, yI, yL, yN, -Prod.exists, hv]
theorem gr_post.tr {M M1 M2 : fd_M} {v0 : List Int32} {res : Nat ⊕ (List Int32 × Nat)} {v : Value} (h : fr21 M M1) (h2 : gr_post l as M1 v0 res v M2) : gr_post l as M v0 res v M2 := ⟨h.tr h2.1, h2.2⟩
theorem nc_42 {c : Int32} (h : c = 42 ∨ c = 47) : ¬ 0 ≤ -c ∧ -c ≠ -256 := by rcases h with rfl | rfl <;> decide
theorem nc_43 {c : Int32} (h : c = 43 ∨ c = 45) : ¬ 0 ≤ -c ∧ -c ≠ -256 := by rcases h with rfl | rfl <;> decide
theorem nc_60 {c : Int32} (h : c = 60 ∨ c = 62 ∨ c = 61) : ¬ 0 ≤ -c ∧ -c ≠ -256 := by rcases h with rfl | rfl | rfl <;> decide
theorem gr_l5 (h256 : ∀ i, ch i ≠ 256) : ∀ n, (∀ m, m ≤ n → gr_P cell len top l ch as m) → ∀ (N K : Nat) (M : fd_M) (q d : Nat) (v0 wa : List Int32) (a : Int32) (c3 c4 : Value), n ≤ N → l < K + q → rp cell len top l ch M → M.1 182 21 = nI q → M.1 182 22 = -1 → gr_as as M → q ≤ l → d ≤ 4 → 6 * (l - q) + 1 ≤ n → (∀ st, ru_ev as wa st = some (a :: st)) →
    fd_wp (fd_whl g5 (bd5 (m_X12_grp N)) fd_sk K) ([.ref 182, .int (nI d), .int a, c3, c4], M) (fun z _ s => z = 0 ∧ ∃ (x : Int32) (c3 c4 : Value), s.1 = [.ref 182, .int (nI d), .int x, c3, c4] ∧ gr_post l as M v0 (ru_rd ch l n 5 d (v0 ++ wa) q) (.int x) s.2)
  | 0, _, _, _, _, _, _, _, _, _, _, _, _, _, _, _, _, _, _, _, h, _ => absurd h (by omega)
  | n + 1, ih, N, K, M, q, d, v0, wa, a, c3, c4, hN, hK, hrp, hat, hwr, has, hq, hd, hn, hev => by
    cases K with
    | zero => omega
    | succ K =>
      refine whl_step (g5_on hrp hat hwr hq ?_)
      rw [ru_5]
      by_cases c : q < l ∧ (ch q = 42 ∨ ch q = 47)
      · rw [if_pos c, if_pos (decide_eq_true c)]
        have h1 : fr21 M (fd_uI M 182 21 (nI (q + 1))) := fr21.rf.at
        have hP := (ih n (by omega) N (fd_uI M 182 21 (nI (q + 1))) (q + 1) d (v0 ++ wa) (by omega) (hrp.fr h1) (by rw [rd_I, if_pos rfl, if_pos rfl]) (by rw [rd_I, if_pos rfl, if_neg (by decide)]; exact hwr) (has.fr h1) (by omega) hd).1 (by omega)
        have hf := (ru_fwd (l := l) h256 (n := n) (d := d) (v := v0 ++ wa) (p := q + 1) (by omega) (q := 0) (c := []))
        refine bd5_wp hrp hat c.1 c.2 (fd_run_mono hP (fun v M' hp => ?_))
        obtain ⟨hfr, hp⟩ := hp
        cases e : ru_rd ch l n 3 d (v0 ++ wa) (q + 1) with
        | inl e2 =>
          rw [e] at hp
          obtain ⟨⟨o, rfl⟩, p1, p2, q3, p3, p4⟩ := hp
          refine ⟨o, rfl, fun c3 => ?_⟩
          rw [if_pos (Or.inl rfl), wp_sk, if_pos rfl]
          cases K with
          | zero => omega
          | succ K =>
            refine whl_step (g5_off rfl rfl (by rw [p2]; exact nI_m1 (by have := hrp.l80; omega)) ?_)
            rw [if_neg (by decide)]
            exact ⟨rfl, _, _, _, rfl, h1.tr hfr, ⟨_, rfl⟩, p1, p2, q3, p3, p4⟩
        | inr z =>
          obtain ⟨b, q2⟩ := z
          rw [e] at hp
          obtain ⟨p1, p2, p3, w, o, rfl, rfl, p4⟩ := hp
          have hq2 := (ru_fwd (l := l) h256 (n := n) (d := d) (v := v0 ++ wa) (p := q + 1) (by omega)).1 (by omega) e
          refine ⟨o, rfl, fun c3 => ?_⟩
          rw [if_pos (Or.inl rfl), wp_sk, if_pos rfl]
          have h2 := h1.tr hfr
          have hL := gr_l5 h256 n (fun m hm => ih m (by omega)) N K M' q2 d v0 (wa ++ w ++ [-(ch q)]) (ru_join (ch q) a o) c3 (.int o) (by omega) (by omega) (hrp.fr h2) p2 p3 (has.fr h2) p1 hd (by omega) (ru_two hev p4 (nc_42 c.2).1 (nc_42 c.2).2)
          refine wp_mono hL (fun z v s hs => ?_)
          obtain ⟨s1, x, c5, c6, s2, s3⟩ := hs
          refine ⟨s1, x, c5, c6, s2, ?_⟩
          have := gr_post.tr h2 s3
          rw [← List.append_assoc, ← List.append_assoc] at this
          exact this
      · rw [if_neg c, if_neg (by rw [decide_eq_false c]; decide)]
        exact ⟨rfl, a, c3, c4, rfl, fr21.rf, hq, hat, hwr, wa, a, rfl, rfl, hev⟩
theorem gr_l4 (h256 : ∀ i, ch i ≠ 256) : ∀ n, (∀ m, m ≤ n → gr_P cell len top l ch as m) → ∀ (N K : Nat) (M : fd_M) (q d : Nat) (v0 wa : List Int32) (a : Int32) (c3 c4 : Value), n ≤ N → l < K + q → rp cell len top l ch M → M.1 182 21 = nI q → M.1 182 22 = -1 → gr_as as M → q ≤ l → d ≤ 4 → 6 * (l - q) + 1 ≤ n → (∀ st, ru_ev as wa st = some (a :: st)) →
    fd_wp (fd_whl g4 (bd4 (m_X12_grp N)) fd_sk K) ([.ref 182, .int (nI d), .int a, c3, c4], M) (fun z _ s => z = 0 ∧ ∃ (x : Int32) (c3 c4 : Value), s.1 = [.ref 182, .int (nI d), .int x, c3, c4] ∧ gr_post l as M v0 (ru_rd ch l n 4 d (v0 ++ wa) q) (.int x) s.2)
  | 0, _, _, _, _, _, _, _, _, _, _, _, _, _, _, _, _, _, _, _, h, _ => absurd h (by omega)
  | n + 1, ih, N, K, M, q, d, v0, wa, a, c3, c4, hN, hK, hrp, hat, hwr, has, hq, hd, hn, hev => by
    cases K with
    | zero => omega
    | succ K =>
      refine whl_step (g4_on hrp hat hwr hq ?_)
      rw [ru_4]
      by_cases c : q < l ∧ (ch q = 43 ∨ ch q = 45)
      · rw [if_pos c, if_pos (decide_eq_true c)]
        have h1 : fr21 M (fd_uI M 182 21 (nI (q + 1))) := fr21.rf.at
        have hP := (ih n (by omega) N (fd_uI M 182 21 (nI (q + 1))) (q + 1) d (v0 ++ wa) (by omega) (hrp.fr h1) (by rw [rd_I, if_pos rfl, if_pos rfl]) (by rw [rd_I, if_pos rfl, if_neg (by decide)]; exact hwr) (has.fr h1) (by omega) hd).2.1 (by omega)
        have hf := (ru_fwd (l := l) h256 (n := n) (d := d) (v := v0 ++ wa) (p := q + 1) (by omega) (q := 0) (c := []))
        refine bd4_wp hrp hat c.1 c.2 (fd_run_mono hP (fun v M' hp => ?_))
        obtain ⟨hfr, hp⟩ := hp
        cases e : ru_rd ch l n 2 d (v0 ++ wa) (q + 1) with
        | inl e2 =>
          rw [e] at hp
          obtain ⟨⟨o, rfl⟩, p1, p2, q3, p3, p4⟩ := hp
          refine ⟨o, rfl, fun c3 => ?_⟩
          rw [if_pos (Or.inl rfl), wp_sk, if_pos rfl]
          cases K with
          | zero => omega
          | succ K =>
            refine whl_step (g4_off rfl rfl (by rw [p2]; exact nI_m1 (by have := hrp.l80; omega)) ?_)
            rw [if_neg (by decide)]
            exact ⟨rfl, _, _, _, rfl, h1.tr hfr, ⟨_, rfl⟩, p1, p2, q3, p3, p4⟩
        | inr z =>
          obtain ⟨b, q2⟩ := z
          rw [e] at hp
          obtain ⟨p1, p2, p3, w, o, rfl, rfl, p4⟩ := hp
          have hq2 := (ru_fwd (l := l) h256 (n := n) (d := d) (v := v0 ++ wa) (p := q + 1) (by omega)).2.1 (by omega) e
          refine ⟨o, rfl, fun c3 => ?_⟩
          rw [if_pos (Or.inl rfl), wp_sk, if_pos rfl]
          have h2 := h1.tr hfr
          have hL := gr_l4 h256 n (fun m hm => ih m (by omega)) N K M' q2 d v0 (wa ++ w ++ [-(ch q)]) (ru_join (ch q) a o) c3 (.int o) (by omega) (by omega) (hrp.fr h2) p2 p3 (has.fr h2) p1 hd (by omega) (ru_two hev p4 (nc_43 c.2).1 (nc_43 c.2).2)
          refine wp_mono hL (fun z v s hs => ?_)
          obtain ⟨s1, x, c5, c6, s2, s3⟩ := hs
          refine ⟨s1, x, c5, c6, s2, ?_⟩
          have := gr_post.tr h2 s3
          rw [← List.append_assoc, ← List.append_assoc] at this
          exact this
      · rw [if_neg c, if_neg (by rw [decide_eq_false c]; decide)]
        exact ⟨rfl, a, c3, c4, rfl, fr21.rf, hq, hat, hwr, wa, a, rfl, rfl, hev⟩
end GM
