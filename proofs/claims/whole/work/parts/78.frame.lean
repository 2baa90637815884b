/-! ===== frames of ints and longs; telling at a place ===== -/
def fZ (P L : Nat → Nat → Prop) (M M' : fd_M) : Prop := (∀ k j, ¬ P k j → M'.1 k j = M.1 k j) ∧ ∀ k j, ¬ L k j → M'.2 k j = M.2 k j
section FZ
variable {P L : Nat → Nat → Prop} {M M' M'' : fd_M}
theorem fZ.rf : fZ P L M M := ⟨fun _ _ _ => rfl, fun _ _ _ => rfl⟩
theorem fZ.tr (h : fZ P L M M') (h2 : fZ P L M' M'') : fZ P L M M'' := ⟨fun k j hk => (h2.1 k j hk).trans (h.1 k j hk), fun k j hk => (h2.2 k j hk).trans (h.2 k j hk)⟩
theorem fZ.up {P' L' : Nat → Nat → Prop} (h : fZ P L M M') (hp : ∀ k j, P k j → P' k j) (hl : ∀ k j, L k j → L' k j) : fZ P' L' M M' := ⟨fun k j hk => h.1 k j (fun q => hk (hp k j q)), fun k j hk => h.2 k j (fun q => hk (hl k j q))⟩
theorem fZ.uI {k j : Nat} {x : Int32} (h : fZ P L M M') (hk : P k j) : fZ P L M (fd_uI M' k j x) := ⟨fun a i ha => by
  rw [rd_ne (fun e => ha (by rw [e.1, e.2]; exact hk))]
  exact h.1 a i ha, fun a i ha => by rw [rd_I2]; exact h.2 a i ha⟩
theorem fZ.uL {k j : Nat} {x : Int64} (h : fZ P L M M') (hk : L k j) : fZ P L M (fd_uL M' k j x) := ⟨fun a i ha => by rw [rd_L1]; exact h.1 a i ha, fun a i ha => by
  rw [rd_L]
  by_cases e : a = k
  · rw [if_pos e]
    by_cases e2 : i = j
    · exact absurd (by rw [e, e2]; exact hk) ha
    · rw [if_neg e2, ← e]; exact h.2 a i ha
  · rw [if_neg e]; exact h.2 a i ha⟩
theorem fZ.fP {P2 : Nat → Nat → Prop} (h : fZ P L M M') (h2 : fP P2 M' M'') (hp : ∀ k j, P2 k j → P k j) : fZ P L M M'' := ⟨fun k j hk => (h2.1 k j (fun q => hk (hp k j q))).trans (h.1 k j hk), fun k j hk => by rw [h2.2]; exact h.2 k j hk⟩
theorem fZ.sm {S : List Nat} (h : fZ P L M M') (hs : ∀ k j, P k j ∨ L k j → cl k j ∈ S) : fd_sm S M M' := fun k j hk => ⟨h.1 k j (fun q => hk (hs k j (Or.inl q))), h.2 k j (fun q => hk (hs k j (Or.inr q)))⟩
theorem fd_on.fP {S : List Nat} (h : fd_on S M M') : fP (fun k _ => k ∈ S) M M' := ⟨fun k j hk => h.1 k j hk, h.2⟩
theorem fP.fZ {P : Nat → Nat → Prop} (h : fP P M M') : fZ P L M M' := ⟨h.1, fun k j _ => by rw [h.2]⟩
end FZ
theorem t_addn {n : Nat} (hn : n < 16) (M : fd_M) (x : Int64) (P : Value → fd_M → Prop) (h : M.1 3 1 = nI n) : fd_run m_X4_add [.ref 3, .long x] M P ↔ P fd_jk (fd_uI (fd_uL M 4 n x) 3 1 (nI (n + 1))) := fd_run_of (s_X4_add h hn x)
theorem t_telln {n : Nat} (hn : n < 20) (M : fd_M) (x : Int64) (P : Value → fd_M → Prop) (h : M.1 182 16 = nI n) : fd_run m_X12_tell [.ref 182, .long x] M P ↔ P fd_jk (fd_uI (fd_uL M 190 n x) 182 16 (nI (n + 1))) := fd_run_of (s_X12_tell h hn x)
/-! ===== the reference's changes between two tunes ===== -/
theorem s_X12_changesBy {M : fd_M} {a b oa ob la lb : Nat} {x y : Nat → Nat} (ha : a ≠ 211) (hb : b ≠ 211) (hla : la ≤ 12) (hlb : lb ≤ 12) (hoa : oa < 1000) (hob : ob < 1000) (hx : ∀ i, i < la → fd_isA a 1 (nI (oa + i)) = true ∧ M.1 a (oa + i) = nI (x i + 97) ∧ x i < 1000) (hy : ∀ i, i < lb → fd_isA b 1 (nI (ob + i)) = true ∧ M.1 b (ob + i) = nI (y i + 97) ∧ y i < 1000) {Q : Value → fd_M → Prop} (hQ : ∀ M2, fP (fun k _ => k = 211) M M2 → Q (.int (nI (ed x y la lb))) M2) : fd_run m_X12_changesBy [.ref 182, .ref a, .int (nI oa), .int (nI la), .ref b, .int (nI ob), .int (nI lb)] M Q := by
  unfold m_X12_changesBy b_X12_changesBy
  simp [↓wp_ldn, ↓wp_b1, ↓wp_b2, ↓wp_b2z, ↓wp_gf, ↓wp_gd, ↓wp_ga, ↓wp_gl, ↓wp_al2, ↓wp_pi, ↓wp_ltr, ↓wp_ite, ↓wp_and, ↓wp_or, ↓wp_not, ↓wp_cmp, ↓wp_cmz, ↓wp_isn, ↓wp_nsn, ↓wp_a0, ↓wp_a1, ↓wp_cv, ↓wp_cs, ↓wp_dr, ↓wp_sk, ↓wp_brk, ↓wp_cnt, ↓wp_rV, ↓wp_seq, ↓wp_iff, ↓wp_sI, ↓wp_sL, ↓wp_sN, ↓wp_inc, ↓wp_do, ↓wp_rI, ↓wp_rL, ↓wp_rN, ↓wp_rZ, ↓wp_pf, ↓wp_pz, ↓wp_pd, ↓wp_po, ↓wp_pl, ↓wp_pao, ↓wp_tsw, ↓wp_lsw, ↓wp_fn, ↓wq_ld, ↓wq_ldl, ↓wq_lda, ↓wq_c, ↓wq_gr, ↓wq_gq, ↓wq_nn, ↓wq_asI, ↓wq_asL, ↓wq_asN, ↓wq_pa, hO_182, hR_182_0, hF_182_1, hR_182_2, hF_182_3, hR_182_4, hF_182_5, hR_182_6, hR_182_7, hR_182_8, hF_182_9, hF_182_10, hF_182_11, hF_182_12, hR_182_13, hF_182_14, hR_182_15, hF_182_16, hF_182_17, hF_182_18, hF_182_19, hF_182_20, hF_182_21, hF_182_22, hR_182_23, hR_182_24, hF_182_25, hF_182_26, hR_182_27, hR_182_28, hR_182_29, hF_182_30, hF_182_31, hR_182_32, hR_182_33, hF_182_34, hR_182_35, hF_182_36, hF_182_37, hF_182_38, hF_182_39, hF_182_40, hR_182_41, hR_182_42, hR_182_43, hR_182_44, hR_182_45, hR_182_46, hF_182_47, hR_182_48, hR_182_49, hR_182_50, hR_182_51, hR_182_52, hF_182_53, hR_182_54, hR_182_55, hR_182_56, hR_182_57, hF_182_58, hR_182_59, hR_182_60, hR_182_61, fd_p_eq, fd_p_ne, fd_p_lt, fd_p_ge, fd_p_gt, fd_p_le, fd_f_iadd, fd_f_isub, fd_f_imul, fd_f_iand, fd_f_ior, fd_f_ixor, fd_f_ishl, fd_f_ishr, fd_f_iushr, fd_f_ladd, fd_f_lsub, fd_f_lmul, fd_f_lcmp, fd_f_idiv, fd_f_irem, fd_f_ldiv, fd_f_lrem, fd_f_ineg, fd_f_i2l, fd_f_l2i, fd_f_i2b, fd_f_i2s, fd_f_i2c, fd_z_idiv, fd_z_irem, fd_z_ldiv, fd_z_lrem, fd_in0, fd_sl, fd_st1, fd_st2, fd_kl, fd_vI, fd_vL, fd_vN, fd_ok1, fd_v_int, xI, xL, xR, xK, xG, yI, yL, yN, -Prod.exists]
  obtain ⟨J, hJ⟩ : ∃ J : Nat → fd_S → Prop, J = fun i σ => ∃ (M1 : fd_M) (c9 c10 : Value), σ = ([.ref 182, .ref a, .int (nI oa), .int (nI la), .ref b, .int (nI ob), .int (nI lb), .int 13, .int (nI i), c9, c10], M1) ∧ fP (fun k _ => k = 211) M M1 ∧ ∀ p, p < i → ∀ q, q ≤ lb → M1.1 211 (13 * p + q) = nI (ed x y p q) := ⟨_, rfl⟩
  refine wp_for (la + 1) J (fd_fu_lt (by omega)) (Nat.zero_le _) (by rw [hJ]; exact ⟨M, fd_jk, fd_jk, rfl, fP.rf, fun p hp => absurd hp (Nat.not_lt_zero p)⟩) (fun i σ hi hs => ?_) (fun σ hs => ?_)
  · rw [hJ] at hs
    obtain ⟨M1, c9, c10, rfl, f1, n1⟩ := hs
    have c1 : nI i ≤ nI la := nI_le (by omega) (by omega)
    simp [↓wp_ldn, ↓wp_b1, ↓wp_b2, ↓wp_b2z, ↓wp_gf, ↓wp_gd, ↓wp_ga, ↓wp_gl, ↓wp_al2, ↓wp_pi, ↓wp_ltr, ↓wp_ite, ↓wp_and, ↓wp_or, ↓wp_not, ↓wp_cmp, ↓wp_cmz, ↓wp_isn, ↓wp_nsn, ↓wp_a0, ↓wp_a1, ↓wp_cv, ↓wp_cs, ↓wp_dr, ↓wp_sk, ↓wp_brk, ↓wp_cnt, ↓wp_rV, ↓wp_seq, ↓wp_iff, ↓wp_sI, ↓wp_sL, ↓wp_sN, ↓wp_inc, ↓wp_do, ↓wp_rI, ↓wp_rL, ↓wp_rN, ↓wp_rZ, ↓wp_pf, ↓wp_pz, ↓wp_pd, ↓wp_po, ↓wp_pl, ↓wp_pao, ↓wp_tsw, ↓wp_lsw, ↓wp_fn, ↓wq_ld, ↓wq_ldl, ↓wq_lda, ↓wq_c, ↓wq_gr, ↓wq_gq, ↓wq_nn, ↓wq_asI, ↓wq_asL, ↓wq_asN, ↓wq_pa, hO_182, hR_182_0, hF_182_1, hR_182_2, hF_182_3, hR_182_4, hF_182_5, hR_182_6, hR_182_7, hR_182_8, hF_182_9, hF_182_10, hF_182_11, hF_182_12, hR_182_13, hF_182_14, hR_182_15, hF_182_16, hF_182_17, hF_182_18, hF_182_19, hF_182_20, hF_182_21, hF_182_22, hR_182_23, hR_182_24, hF_182_25, hF_182_26, hR_182_27, hR_182_28, hR_182_29, hF_182_30, hF_182_31, hR_182_32, hR_182_33, hF_182_34, hR_182_35, hF_182_36, hF_182_37, hF_182_38, hF_182_39, hF_182_40, hR_182_41, hR_182_42, hR_182_43, hR_182_44, hR_182_45, hR_182_46, hF_182_47, hR_182_48, hR_182_49, hR_182_50, hR_182_51, hR_182_52, hF_182_53, hR_182_54, hR_182_55, hR_182_56, hR_182_57, hF_182_58, hR_182_59, hR_182_60, hR_182_61, fd_p_eq, fd_p_ne, fd_p_lt, fd_p_ge, fd_p_gt, fd_p_le, fd_f_iadd, fd_f_isub, fd_f_imul, fd_f_iand, fd_f_ior, fd_f_ixor, fd_f_ishl, fd_f_ishr, fd_f_iushr, fd_f_ladd, fd_f_lsub, fd_f_lmul, fd_f_lcmp, fd_f_idiv, fd_f_irem, fd_f_ldiv, fd_f_lrem, fd_f_ineg, fd_f_i2l, fd_f_l2i, fd_f_i2b, fd_f_i2s, fd_f_i2c, fd_z_idiv, fd_z_irem, fd_z_ldiv, fd_z_lrem, fd_in0, fd_sl, fd_st1, fd_st2, fd_kl, fd_vI, fd_vL, fd_vN, fd_ok1, fd_v_int, xI, xL, xR, xK, xG, yI, yL, yN, -Prod.exists, c1]
    obtain ⟨J2, hJ2⟩ : ∃ J2 : Nat → fd_S → Prop, J2 = fun j σ => ∃ (M2 : fd_M) (c10 : Value), σ = ([.ref 182, .ref a, .int (nI oa), .int (nI la), .ref b, .int (nI ob), .int (nI lb), .int 13, .int (nI i), .int (nI j), c10], M2) ∧ fP (fun k _ => k = 211) M M2 ∧ (∀ p, p < i → ∀ q, q ≤ lb → M2.1 211 (13 * p + q) = nI (ed x y p q)) ∧ ∀ q, q < j → M2.1 211 (13 * i + q) = nI (ed x y i q) := ⟨_, rfl⟩
    refine wp_for (lb + 1) J2 (fd_fu_lt (by omega)) (Nat.zero_le _) (by rw [hJ2]; exact ⟨M1, c10, rfl, f1, n1, fun q hq => absurd hq (Nat.not_lt_zero q)⟩) (fun j σ hj hs => ?_) (fun σ hs => ?_)
    · rw [hJ2] at hs
      obtain ⟨M2, c10, rfl, f2, n2, n3⟩ := hs
      have c2 : nI j ≤ nI lb := nI_le (by omega) (by omega)
      have fin : ∀ x0 : Int32, x0 = nI (ed x y i j) → ∀ c10', J2 (j + 1) ([.ref 182, .ref a, .int (nI oa), .int (nI la), .ref b, .int (nI ob), .int (nI lb), .int 13, .int (nI i), .int (nI (j + 1)), c10'], fd_uI M2 211 (13 * i + j) x0) := fun x0 e c10' => by
        rw [hJ2]
        refine ⟨_, _, rfl, fP.uI f2 rfl, fun p hp q hq => ?_, fun q hq => ?_⟩
        · rw [rd_ne (by omega)]; exact n2 p hp q hq
        · by_cases eq : q = j
          · rw [eq, rd_I, if_pos rfl, if_pos rfl, e]
          · rw [rd_ne (by omega)]; exact n3 q (by omega)
      obtain ⟨K, hK⟩ : ∃ K, K = 13 * i + j := ⟨_, rfl⟩
      have e1 : (13 : Int32) * nI i + nI j = nI K := by rw [show (13 : Int32) = nI 13 from rfl, nI_mul, nI_add, hK]
      have A1 : fd_isA 211 0 (nI K) = true := hA_211 (by omega)
      have t1 := nI_clamp (show K < 2 ^ 31 by omega)
      rw [← hK] at fin
      by_cases z1 : i = 0
      · have e0 : nI i = 0 := by rw [z1]; rfl
        have eKj : K = j := by omega
        have := fin (nI j) (by rw [z1]; rfl)
        rw [e0, eKj] at this
        rw [eKj] at A1 t1
        simp [↓wp_ldn, ↓wp_b1, ↓wp_b2, ↓wp_b2z, ↓wp_gf, ↓wp_gd, ↓wp_ga, ↓wp_gl, ↓wp_al2, ↓wp_pi, ↓wp_ltr, ↓wp_ite, ↓wp_and, ↓wp_or, ↓wp_not, ↓wp_cmp, ↓wp_cmz, ↓wp_isn, ↓wp_nsn, ↓wp_a0, ↓wp_a1, ↓wp_cv, ↓wp_cs, ↓wp_dr, ↓wp_sk, ↓wp_brk, ↓wp_cnt, ↓wp_rV, ↓wp_seq, ↓wp_iff, ↓wp_sI, ↓wp_sL, ↓wp_sN, ↓wp_inc, ↓wp_do, ↓wp_rI, ↓wp_rL, ↓wp_rN, ↓wp_rZ, ↓wp_pf, ↓wp_pz, ↓wp_pd, ↓wp_po, ↓wp_pl, ↓wp_pao, ↓wp_tsw, ↓wp_lsw, ↓wp_fn, ↓wq_ld, ↓wq_ldl, ↓wq_lda, ↓wq_c, ↓wq_gr, ↓wq_gq, ↓wq_nn, ↓wq_asI, ↓wq_asL, ↓wq_asN, ↓wq_pa, hO_182, hR_182_0, hF_182_1, hR_182_2, hF_182_3, hR_182_4, hF_182_5, hR_182_6, hR_182_7, hR_182_8, hF_182_9, hF_182_10, hF_182_11, hF_182_12, hR_182_13, hF_182_14, hR_182_15, hF_182_16, hF_182_17, hF_182_18, hF_182_19, hF_182_20, hF_182_21, hF_182_22, hR_182_23, hR_182_24, hF_182_25, hF_182_26, hR_182_27, hR_182_28, hR_182_29, hF_182_30, hF_182_31, hR_182_32, hR_182_33, hF_182_34, hR_182_35, hF_182_36, hF_182_37, hF_182_38, hF_182_39, hF_182_40, hR_182_41, hR_182_42, hR_182_43, hR_182_44, hR_182_45, hR_182_46, hF_182_47, hR_182_48, hR_182_49, hR_182_50, hR_182_51, hR_182_52, hF_182_53, hR_182_54, hR_182_55, hR_182_56, hR_182_57, hF_182_58, hR_182_59, hR_182_60, hR_182_61, fd_p_eq, fd_p_ne, fd_p_lt, fd_p_ge, fd_p_gt, fd_p_le, fd_f_iadd, fd_f_isub, fd_f_imul, fd_f_iand, fd_f_ior, fd_f_ixor, fd_f_ishl, fd_f_ishr, fd_f_iushr, fd_f_ladd, fd_f_lsub, fd_f_lmul, fd_f_lcmp, fd_f_idiv, fd_f_irem, fd_f_ldiv, fd_f_lrem, fd_f_ineg, fd_f_i2l, fd_f_l2i, fd_f_i2b, fd_f_i2s, fd_f_i2c, fd_z_idiv, fd_z_irem, fd_z_ldiv, fd_z_lrem, fd_in0, fd_sl, fd_st1, fd_st2, fd_kl, fd_vI, fd_vL, fd_vN, fd_ok1, fd_v_int, xI, xL, xR, xK, xG, yI, yL, yN, -Prod.exists, c2, e0, A1, t1, nI_1]
        exact this _
      have e0 : ¬ nI i = 0 := nI_ne0 (by omega) (by omega)
      by_cases z2 : j = 0
      · have e0' : nI j = 0 := by rw [z2]; rfl
        have := fin (nI i + nI j) (by rw [nI_add, z2, Nat.add_zero, ed_z])
        rw [e0'] at this e1 c2
        rw [show nI (j + 1) = 0 + 1 by rw [z2]; rfl] at this
        simp [↓wp_ldn, ↓wp_b1, ↓wp_b2, ↓wp_b2z, ↓wp_gf, ↓wp_gd, ↓wp_ga, ↓wp_gl, ↓wp_al2, ↓wp_pi, ↓wp_ltr, ↓wp_ite, ↓wp_and, ↓wp_or, ↓wp_not, ↓wp_cmp, ↓wp_cmz, ↓wp_isn, ↓wp_nsn, ↓wp_a0, ↓wp_a1, ↓wp_cv, ↓wp_cs, ↓wp_dr, ↓wp_sk, ↓wp_brk, ↓wp_cnt, ↓wp_rV, ↓wp_seq, ↓wp_iff, ↓wp_sI, ↓wp_sL, ↓wp_sN, ↓wp_inc, ↓wp_do, ↓wp_rI, ↓wp_rL, ↓wp_rN, ↓wp_rZ, ↓wp_pf, ↓wp_pz, ↓wp_pd, ↓wp_po, ↓wp_pl, ↓wp_pao, ↓wp_tsw, ↓wp_lsw, ↓wp_fn, ↓wq_ld, ↓wq_ldl, ↓wq_lda, ↓wq_c, ↓wq_gr, ↓wq_gq, ↓wq_nn, ↓wq_asI, ↓wq_asL, ↓wq_asN, ↓wq_pa, hO_182, hR_182_0, hF_182_1, hR_182_2, hF_182_3, hR_182_4, hF_182_5, hR_182_6, hR_182_7, hR_182_8, hF_182_9, hF_182_10, hF_182_11, hF_182_12, hR_182_13, hF_182_14, hR_182_15, hF_182_16, hF_182_17, hF_182_18, hF_182_19, hF_182_20, hF_182_21, hF_182_22, hR_182_23, hR_182_24, hF_182_25, hF_182_26, hR_182_27, hR_182_28, hR_182_29, hF_182_30, hF_182_31, hR_182_32, hR_182_33, hF_182_34, hR_182_35, hF_182_36, hF_182_37, hF_182_38, hF_182_39, hF_182_40, hR_182_41, hR_182_42, hR_182_43, hR_182_44, hR_182_45, hR_182_46, hF_182_47, hR_182_48, hR_182_49, hR_182_50, hR_182_51, hR_182_52, hF_182_53, hR_182_54, hR_182_55, hR_182_56, hR_182_57, hF_182_58, hR_182_59, hR_182_60, hR_182_61, fd_p_eq, fd_p_ne, fd_p_lt, fd_p_ge, fd_p_gt, fd_p_le, fd_f_iadd, fd_f_isub, fd_f_imul, fd_f_iand, fd_f_ior, fd_f_ixor, fd_f_ishl, fd_f_ishr, fd_f_iushr, fd_f_ladd, fd_f_lsub, fd_f_lmul, fd_f_lcmp, fd_f_idiv, fd_f_irem, fd_f_ldiv, fd_f_lrem, fd_f_ineg, fd_f_i2l, fd_f_l2i, fd_f_i2b, fd_f_i2s, fd_f_i2c, fd_z_idiv, fd_z_irem, fd_z_ldiv, fd_z_lrem, fd_in0, fd_sl, fd_st1, fd_st2, fd_kl, fd_vI, fd_vL, fd_vN, fd_ok1, fd_v_int, xI, xL, xR, xK, xG, yI, yL, yN, -Prod.exists, c2, e0, e0', e1, A1, t1]
        simp at this
        exact this _
      have e0' : ¬ nI j = 0 := nI_ne0 (by omega) (by omega)
      obtain ⟨p, rfl⟩ : ∃ p, i = p + 1 := ⟨i - 1, by omega⟩
      obtain ⟨q, rfl⟩ : ∃ q, j = q + 1 := ⟨j - 1, by omega⟩
      obtain ⟨T, hT⟩ : ∃ T, T = 13 * p + q := ⟨_, rfl⟩
      obtain ⟨K', hK'⟩ : ∃ K', K' = 13 * (p + 1) + q := ⟨_, rfl⟩
      have eK : K = K' + 1 := by omega
      subst eK
      have v1 : M2.1 211 T = nI (ed x y p q) := by rw [hT]; exact n2 p (by omega) q (by omega)
      have v2 : M2.1 211 (T + 1) = nI (ed x y p (q + 1)) := by rw [hT]; exact n2 p (by omega) (q + 1) (by omega)
      have v3 : M2.1 211 K' = nI (ed x y (p + 1) q) := by rw [hK']; exact n3 q (by omega)
      have e2 : (13 : Int32) * nI p + nI (q + 1) = nI (T + 1) := by rw [show (13 : Int32) = nI 13 from rfl, nI_mul, nI_add, hT]; rfl
      have e3 : nI oa + nI (p + 1) = nI (oa + p + 1) := nI_add _ _
      have e4 : nI ob + nI (q + 1) = nI (ob + q + 1) := nI_add _ _
      have A2 : fd_isA 211 0 (nI T) = true := hA_211 (by omega)
      have A3 : fd_isA 211 0 (nI (T + 1)) = true := hA_211 (by omega)
      have A4 : fd_isA 211 0 (nI K') = true := hA_211 (by omega)
      have t2 := nI_clamp (show T < 2 ^ 31 by omega)
      have t3 := nI_clamp (show T + 1 < 2 ^ 31 by omega)
      have t4 := nI_clamp (show K' < 2 ^ 31 by omega)
      have t5 := nI_clamp (show oa + p < 2 ^ 31 by omega)
      have t6 := nI_clamp (show ob + q < 2 ^ 31 by omega)
      obtain ⟨x1, x2, x3⟩ := hx p (by omega)
      obtain ⟨y1, y2, y3⟩ := hy q (by omega)
      have x2' : M2.1 a (oa + p) = nI (x p + 97) := (f2.1 _ _ ha).trans x2
      have y2' : M2.1 b (ob + q) = nI (y q + 97) := (f2.1 _ _ hb).trans y2
      have b1 := ed_max x y p q
      have b2 := ed_max x y p (q + 1)
      have b3 := ed_max x y (p + 1) q
      have o1 : ∀ z, (1 : Int32) + nI z = nI (1 + z) := fun z => nI_add 1 z
      have mn := nI_fmin (show ed x y p (q + 1) < 2147483648 by omega) (show ed x y (p + 1) q < 2147483648 by omega)
      by_cases ex : x p = y q
      · have g : nI (x p + 97) = nI (y q + 97) := by rw [ex]
        have mn2 := nI_fmin (show ed x y p q < 2147483648 by omega) (show 1 + min (ed x y p (q + 1)) (ed x y (p + 1) q) < 2147483648 by omega)
        have := fin (nI (min (ed x y p q) (1 + min (ed x y p (q + 1)) (ed x y (p + 1) q)))) (by rw [ed_s, if_pos ex]; rfl)
        simp [↓wp_ldn, ↓wp_b1, ↓wp_b2, ↓wp_b2z, ↓wp_gf, ↓wp_gd, ↓wp_ga, ↓wp_gl, ↓wp_al2, ↓wp_pi, ↓wp_ltr, ↓wp_ite, ↓wp_and, ↓wp_or, ↓wp_not, ↓wp_cmp, ↓wp_cmz, ↓wp_isn, ↓wp_nsn, ↓wp_a0, ↓wp_a1, ↓wp_cv, ↓wp_cs, ↓wp_dr, ↓wp_sk, ↓wp_brk, ↓wp_cnt, ↓wp_rV, ↓wp_seq, ↓wp_iff, ↓wp_sI, ↓wp_sL, ↓wp_sN, ↓wp_inc, ↓wp_do, ↓wp_rI, ↓wp_rL, ↓wp_rN, ↓wp_rZ, ↓wp_pf, ↓wp_pz, ↓wp_pd, ↓wp_po, ↓wp_pl, ↓wp_pao, ↓wp_tsw, ↓wp_lsw, ↓wp_fn, ↓wq_ld, ↓wq_ldl, ↓wq_lda, ↓wq_c, ↓wq_gr, ↓wq_gq, ↓wq_nn, ↓wq_asI, ↓wq_asL, ↓wq_asN, ↓wq_pa, hO_182, hR_182_0, hF_182_1, hR_182_2, hF_182_3, hR_182_4, hF_182_5, hR_182_6, hR_182_7, hR_182_8, hF_182_9, hF_182_10, hF_182_11, hF_182_12, hR_182_13, hF_182_14, hR_182_15, hF_182_16, hF_182_17, hF_182_18, hF_182_19, hF_182_20, hF_182_21, hF_182_22, hR_182_23, hR_182_24, hF_182_25, hF_182_26, hR_182_27, hR_182_28, hR_182_29, hF_182_30, hF_182_31, hR_182_32, hR_182_33, hF_182_34, hR_182_35, hF_182_36, hF_182_37, hF_182_38, hF_182_39, hF_182_40, hR_182_41, hR_182_42, hR_182_43, hR_182_44, hR_182_45, hR_182_46, hF_182_47, hR_182_48, hR_182_49, hR_182_50, hR_182_51, hR_182_52, hF_182_53, hR_182_54, hR_182_55, hR_182_56, hR_182_57, hF_182_58, hR_182_59, hR_182_60, hR_182_61, fd_p_eq, fd_p_ne, fd_p_lt, fd_p_ge, fd_p_gt, fd_p_le, fd_f_iadd, fd_f_isub, fd_f_imul, fd_f_iand, fd_f_ior, fd_f_ixor, fd_f_ishl, fd_f_ishr, fd_f_iushr, fd_f_ladd, fd_f_lsub, fd_f_lmul, fd_f_lcmp, fd_f_idiv, fd_f_irem, fd_f_ldiv, fd_f_lrem, fd_f_ineg, fd_f_i2l, fd_f_l2i, fd_f_i2b, fd_f_i2s, fd_f_i2c, fd_z_idiv, fd_z_irem, fd_z_ldiv, fd_z_lrem, fd_in0, fd_sl, fd_st1, fd_st2, fd_kl, fd_vI, fd_vL, fd_vN, fd_ok1, fd_v_int, xI, xL, xR, xK, xG, yI, yL, yN, -Prod.exists, c2, e0, e0', nI_pred, e1, e2, e3, e4, A1, A2, A3, A4, t1, t2, t3, t4, t5, t6, v1, v2, v3, x1, y1, x2', y2', g, o1, mn, mn2, nI_1]
        exact this _
      · have g : ¬ nI (x p + 97) = nI (y q + 97) := fun z => ex (by have := (nI_eq (by omega) (by omega)).mp z; omega)
        have mn2 := nI_fmin (show ed x y p q + 1 < 2147483648 by omega) (show 1 + min (ed x y p (q + 1)) (ed x y (p + 1) q) < 2147483648 by omega)
        have := fin (nI (min (ed x y p q + 1) (1 + min (ed x y p (q + 1)) (ed x y (p + 1) q)))) (by rw [ed_s, if_neg ex])
        simp [↓wp_ldn, ↓wp_b1, ↓wp_b2, ↓wp_b2z, ↓wp_gf, ↓wp_gd, ↓wp_ga, ↓wp_gl, ↓wp_al2, ↓wp_pi, ↓wp_ltr, ↓wp_ite, ↓wp_and, ↓wp_or, ↓wp_not, ↓wp_cmp, ↓wp_cmz, ↓wp_isn, ↓wp_nsn, ↓wp_a0, ↓wp_a1, ↓wp_cv, ↓wp_cs, ↓wp_dr, ↓wp_sk, ↓wp_brk, ↓wp_cnt, ↓wp_rV, ↓wp_seq, ↓wp_iff, ↓wp_sI, ↓wp_sL, ↓wp_sN, ↓wp_inc, ↓wp_do, ↓wp_rI, ↓wp_rL, ↓wp_rN, ↓wp_rZ, ↓wp_pf, ↓wp_pz, ↓wp_pd, ↓wp_po, ↓wp_pl, ↓wp_pao, ↓wp_tsw, ↓wp_lsw, ↓wp_fn, ↓wq_ld, ↓wq_ldl, ↓wq_lda, ↓wq_c, ↓wq_gr, ↓wq_gq, ↓wq_nn, ↓wq_asI, ↓wq_asL, ↓wq_asN, ↓wq_pa, hO_182, hR_182_0, hF_182_1, hR_182_2, hF_182_3, hR_182_4, hF_182_5, hR_182_6, hR_182_7, hR_182_8, hF_182_9, hF_182_10, hF_182_11, hF_182_12, hR_182_13, hF_182_14, hR_182_15, hF_182_16, hF_182_17, hF_182_18, hF_182_19, hF_182_20, hF_182_21, hF_182_22, hR_182_23, hR_182_24, hF_182_25, hF_182_26, hR_182_27, hR_182_28, hR_182_29, hF_182_30, hF_182_31, hR_182_32, hR_182_33, hF_182_34, hR_182_35, hF_182_36, hF_182_37, hF_182_38, hF_182_39, hF_182_40, hR_182_41, hR_182_42, hR_182_43, hR_182_44, hR_182_45, hR_182_46, hF_182_47, hR_182_48, hR_182_49, hR_182_50, hR_182_51, hR_182_52, hF_182_53, hR_182_54, hR_182_55, hR_182_56, hR_182_57, hF_182_58, hR_182_59, hR_182_60, hR_182_61, fd_p_eq, fd_p_ne, fd_p_lt, fd_p_ge, fd_p_gt, fd_p_le, fd_f_iadd, fd_f_isub, fd_f_imul, fd_f_iand, fd_f_ior, fd_f_ixor, fd_f_ishl, fd_f_ishr, fd_f_iushr, fd_f_ladd, fd_f_lsub, fd_f_lmul, fd_f_lcmp, fd_f_idiv, fd_f_irem, fd_f_ldiv, fd_f_lrem, fd_f_ineg, fd_f_i2l, fd_f_l2i, fd_f_i2b, fd_f_i2s, fd_f_i2c, fd_z_idiv, fd_z_irem, fd_z_ldiv, fd_z_lrem, fd_in0, fd_sl, fd_st1, fd_st2, fd_kl, fd_vI, fd_vL, fd_vN, fd_ok1, fd_v_int, xI, xL, xR, xK, xG, yI, yL, yN, -Prod.exists, c2, e0, e0', nI_pred, e1, e2, e3, e4, A1, A2, A3, A4, t1, t2, t3, t4, t5, t6, v1, v2, v3, x1, y1, x2', y2', g, o1, mn, mn2, nI_1]
        exact this _
    · rw [hJ2] at hs
      obtain ⟨M2, c10, rfl, f2, n2, n3⟩ := hs
      have c2 : ¬ nI (lb + 1) ≤ nI lb := nI_ge (by omega) (by omega)
      simp [↓wp_ldn, ↓wp_b1, ↓wp_b2, ↓wp_b2z, ↓wp_gf, ↓wp_gd, ↓wp_ga, ↓wp_gl, ↓wp_al2, ↓wp_pi, ↓wp_ltr, ↓wp_ite, ↓wp_and, ↓wp_or, ↓wp_not, ↓wp_cmp, ↓wp_cmz, ↓wp_isn, ↓wp_nsn, ↓wp_a0, ↓wp_a1, ↓wp_cv, ↓wp_cs, ↓wp_dr, ↓wp_sk, ↓wp_brk, ↓wp_cnt, ↓wp_rV, ↓wp_seq, ↓wp_iff, ↓wp_sI, ↓wp_sL, ↓wp_sN, ↓wp_inc, ↓wp_do, ↓wp_rI, ↓wp_rL, ↓wp_rN, ↓wp_rZ, ↓wp_pf, ↓wp_pz, ↓wp_pd, ↓wp_po, ↓wp_pl, ↓wp_pao, ↓wp_tsw, ↓wp_lsw, ↓wp_fn, ↓wq_ld, ↓wq_ldl, ↓wq_lda, ↓wq_c, ↓wq_gr, ↓wq_gq, ↓wq_nn, ↓wq_asI, ↓wq_asL, ↓wq_asN, ↓wq_pa, hO_182, hR_182_0, hF_182_1, hR_182_2, hF_182_3, hR_182_4, hF_182_5, hR_182_6, hR_182_7, hR_182_8, hF_182_9, hF_182_10, hF_182_11, hF_182_12, hR_182_13, hF_182_14, hR_182_15, hF_182_16, hF_182_17, hF_182_18, hF_182_19, hF_182_20, hF_182_21, hF_182_22, hR_182_23, hR_182_24, hF_182_25, hF_182_26, hR_182_27, hR_182_28, hR_182_29, hF_182_30, hF_182_31, hR_182_32, hR_182_33, hF_182_34, hR_182_35, hF_182_36, hF_182_37, hF_182_38, hF_182_39, hF_182_40, hR_182_41, hR_182_42, hR_182_43, hR_182_44, hR_182_45, hR_182_46, hF_182_47, hR_182_48, hR_182_49, hR_182_50, hR_182_51, hR_182_52, hF_182_53, hR_182_54, hR_182_55, hR_182_56, hR_182_57, hF_182_58, hR_182_59, hR_182_60, hR_182_61, fd_p_eq, fd_p_ne, fd_p_lt, fd_p_ge, fd_p_gt, fd_p_le, fd_f_iadd, fd_f_isub, fd_f_imul, fd_f_iand, fd_f_ior, fd_f_ixor, fd_f_ishl, fd_f_ishr, fd_f_iushr, fd_f_ladd, fd_f_lsub, fd_f_lmul, fd_f_lcmp, fd_f_idiv, fd_f_irem, fd_f_ldiv, fd_f_lrem, fd_f_ineg, fd_f_i2l, fd_f_l2i, fd_f_i2b, fd_f_i2s, fd_f_i2c, fd_z_idiv, fd_z_irem, fd_z_ldiv, fd_z_lrem, fd_in0, fd_sl, fd_st1, fd_st2, fd_kl, fd_vI, fd_vL, fd_vN, fd_ok1, fd_v_int, xI, xL, xR, xK, xG, yI, yL, yN, -Prod.exists, c2, nI_1]
      rw [hJ]
      refine ⟨_, _, _, rfl, f2, fun p hp q hq => ?_⟩
      by_cases e : p = i
      · rw [e]; exact n3 q (by omega)
      · exact n2 p (by omega) q hq
  · rw [hJ] at hs
    obtain ⟨M1, c9, c10, rfl, f1, n1⟩ := hs
    have c1 : ¬ nI (la + 1) ≤ nI la := nI_ge (by omega) (by omega)
    have e1 : (13 : Int32) * nI la + nI lb = nI (13 * la + lb) := by rw [show (13 : Int32) = nI 13 from rfl, nI_mul, nI_add]
    simp [↓wp_ldn, ↓wp_b1, ↓wp_b2, ↓wp_b2z, ↓wp_gf, ↓wp_gd, ↓wp_ga, ↓wp_gl, ↓wp_al2, ↓wp_pi, ↓wp_ltr, ↓wp_ite, ↓wp_and, ↓wp_or, ↓wp_not, ↓wp_cmp, ↓wp_cmz, ↓wp_isn, ↓wp_nsn, ↓wp_a0, ↓wp_a1, ↓wp_cv, ↓wp_cs, ↓wp_dr, ↓wp_sk, ↓wp_brk, ↓wp_cnt, ↓wp_rV, ↓wp_seq, ↓wp_iff, ↓wp_sI, ↓wp_sL, ↓wp_sN, ↓wp_inc, ↓wp_do, ↓wp_rI, ↓wp_rL, ↓wp_rN, ↓wp_rZ, ↓wp_pf, ↓wp_pz, ↓wp_pd, ↓wp_po, ↓wp_pl, ↓wp_pao, ↓wp_tsw, ↓wp_lsw, ↓wp_fn, ↓wq_ld, ↓wq_ldl, ↓wq_lda, ↓wq_c, ↓wq_gr, ↓wq_gq, ↓wq_nn, ↓wq_asI, ↓wq_asL, ↓wq_asN, ↓wq_pa, hO_182, hR_182_0, hF_182_1, hR_182_2, hF_182_3, hR_182_4, hF_182_5, hR_182_6, hR_182_7, hR_182_8, hF_182_9, hF_182_10, hF_182_11, hF_182_12, hR_182_13, hF_182_14, hR_182_15, hF_182_16, hF_182_17, hF_182_18, hF_182_19, hF_182_20, hF_182_21, hF_182_22, hR_182_23, hR_182_24, hF_182_25, hF_182_26, hR_182_27, hR_182_28, hR_182_29, hF_182_30, hF_182_31, hR_182_32, hR_182_33, hF_182_34, hR_182_35, hF_182_36, hF_182_37, hF_182_38, hF_182_39, hF_182_40, hR_182_41, hR_182_42, hR_182_43, hR_182_44, hR_182_45, hR_182_46, hF_182_47, hR_182_48, hR_182_49, hR_182_50, hR_182_51, hR_182_52, hF_182_53, hR_182_54, hR_182_55, hR_182_56, hR_182_57, hF_182_58, hR_182_59, hR_182_60, hR_182_61, fd_p_eq, fd_p_ne, fd_p_lt, fd_p_ge, fd_p_gt, fd_p_le, fd_f_iadd, fd_f_isub, fd_f_imul, fd_f_iand, fd_f_ior, fd_f_ixor, fd_f_ishl, fd_f_ishr, fd_f_iushr, fd_f_ladd, fd_f_lsub, fd_f_lmul, fd_f_lcmp, fd_f_idiv, fd_f_irem, fd_f_ldiv, fd_f_lrem, fd_f_ineg, fd_f_i2l, fd_f_l2i, fd_f_i2b, fd_f_i2s, fd_f_i2c, fd_z_idiv, fd_z_irem, fd_z_ldiv, fd_z_lrem, fd_in0, fd_sl, fd_st1, fd_st2, fd_kl, fd_vI, fd_vL, fd_vN, fd_ok1, fd_v_int, xI, xL, xR, xK, xG, yI, yL, yN, -Prod.exists, c1, e1, hA_211 (show 13 * la + lb < 169 by omega), nI_clamp (show 13 * la + lb < 2 ^ 31 by omega), n1 la (by omega) lb (by omega)]
    exact hQ _ f1
