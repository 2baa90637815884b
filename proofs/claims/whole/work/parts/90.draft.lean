-- FILE 58.push
/-! ===== what can be undone ===== -/
/-- the stories before, at the class and at the reference -/
def iv_p (v f nb fi n : Nat) (P : Nat → sto) (M : fd_M) : Prop := fi < 12 ∧ n ≤ 12 ∧ (∀ i, i < n → sok v f nb (P i)) ∧ M.1 48 1 = nI fi ∧ M.1 48 2 = nI n ∧ ∀ i, i < n → cst f (52 + 3 * ((fi + i) % 12)) (P i) M
def iv_q (f n : Nat) (P : Nat → sto) (M : fd_M) : Prop := M.1 182 34 = nI n ∧ ∀ i, i < n → mst f 197 (23 * i) (P i) M
theorem iv_past_of {v f nb : Nat} {M : fd_M} (h : iv_past v f nb M) : ∃ (fi n : Nat) (P : Nat → sto), iv_p v f nb fi n P M ∧ iv_q f n P M := by
  obtain ⟨fi, n, a1, a2, a3, a4, a5, a6⟩ := h
  have : ∀ i, ∃ S : sto, i < n → sok v f nb S ∧ cst f (52 + 3 * ((fi + i) % 12)) S M ∧ mst f 197 (23 * i) S M := fun i => by
    by_cases hi : i < n
    · obtain ⟨S, h⟩ := a6 i hi
      exact ⟨S, fun _ => h⟩
    · exact ⟨sto.mk 0 0 0 0 0 0 0 (fun _ => 0) (fun _ => 0), fun q => absurd q hi⟩
  refine ⟨fi, n, fun i => (this i).choose, ⟨a1, a2, fun i hi => ((this i).choose_spec hi).1, a3, a4, fun i hi => ((this i).choose_spec hi).2.1⟩, a5, fun i hi => ((this i).choose_spec hi).2.2⟩
theorem iv_past_mk {v f nb fi n : Nat} {P : Nat → sto} {M : fd_M} (h : iv_p v f nb fi n P M) (h2 : iv_q f n P M) : iv_past v f nb M := ⟨fi, n, h.1, h.2.1, h.2.2.2.1, h.2.2.2.2.1, h2.1, fun i hi => ⟨P i, h.2.2.1 i hi, h.2.2.2.2.2 i hi, h2.2 i hi⟩⟩
theorem cst.of_cp {f k k2 : Nat} {S : sto} {M M' : fd_M} (h : st_cp k k2 M M') (hf : f ≤ 8) (hS : cst f k2 S M) : cst f k S M' := hS.cg hf h.1 (fun i hi => (h.2 i hi).1) (fun i hi => (h.2 i hi).2)
/-- one more: the oldest goes where there are twelve -/
def pushed (n : Nat) (P : Nat → sto) (S : sto) (i : Nat) : sto := if n = 12 then (if i = 11 then S else P (i + 1)) else if i = n then S else P i
def pushn (n : Nat) : Nat := if n = 12 then 12 else n + 1
def ringk (a : Nat) : Prop := 52 ≤ a ∧ a ≤ 87
def pR5 (a j : Nat) : Prop := (a = 48 ∧ (j = 1 ∨ j = 2)) ∨ (52 ≤ a ∧ a ≤ 87)
theorem pR5_cl (a j : Nat) (h : pR5 a j) : cl a j ∈ [8] := by
  rcases h with ⟨rfl, h⟩ | h
  · simp [cl]
  · rw [cl_past h.1 h.2]; simp
theorem isO_ring : ∀ z, z < 12 → fd_isO (52 + 3 * z) 10 = true := by decide +kernel
theorem ring_ne {a b : Nat} (ha : a < 12) (hb : b < 12) (h : a ≠ b) : ∀ x y, x < 3 → y < 3 → 52 + 3 * a + x ≠ 52 + 3 * b + y := fun x y hx hy => by omega
theorem s_X5_push {M : fd_M} {v f nb fi n k : Nat} {P : Nat → sto} {S : sto} (hf : f ≤ 8) (hk : k = 42 ∨ k = 45) (hS : cst f k S M) (hs : sok v f nb S) (h : iv_p v f nb fi n P M) : fd_run m_X5_push [.ref 48, .ref k] M (fun _ M' => (∃ fi', iv_p v f nb fi' (pushn n) (pushed n P S) M') ∧ fP pR5 M M') := by
  obtain ⟨a1, a2, a3, a4, a5, a6⟩ := h
  have hO : fd_isO k 10 = true := by rcases hk with rfl | rfl <;> rfl
  have hz : ∀ fi m : Nat, (fi + m) % 12 < 12 := fun fi m => Nat.mod_lt _ (by omega)
  -- the copying into the ring
  have main : ∀ (M1 : fd_M) (fi' m : Nat) (P' : Nat → sto), fi' < 12 → m < 12 → fP pR5 M M1 → M1.1 48 1 = nI fi' → M1.1 48 2 = nI m → cst f k S M1 → (∀ i, i < m → sok v f nb (P' i)) → (∀ i, i < m → cst f (52 + 3 * ((fi' + i) % 12)) (P' i) M1) → fd_run m_X10_copyFrom [.ref (52 + 3 * ((fi' + m) % 12)), .ref k] M1 (fun _ M' => M'.1 48 2 = nI m ∧ iv_p v f nb fi' (m + 1) (fun i => if i = m then S else P' i) (fd_uI M' 48 2 (nI (m + 1))) ∧ fP pR5 M (fd_uI M' 48 2 (nI (m + 1)))) := by
    intro M1 fi' m P' b1 b2 b3 b4 b5 b6 b7 b8
    have hm := hz fi' m
    generalize hzz : (fi' + m) % 12 = z at *
    refine fd_run_mono (s_X10_copyFrom (isO_ring z hm) hO (by omega)) (fun _ M2 hp => ?_)
    obtain ⟨q1, q2, q3⟩ := hp
    have e48 : ∀ j, M2.1 48 j = M1.1 48 j := fun j => q2 _ _ (by omega) (by omega) (Or.inl (by omega))
    refine ⟨by rw [e48]; exact b5, ⟨b1, by omega, fun i hi => ?_, ?_, ?_, fun i hi => ?_⟩, ?_⟩
    · by_cases e : i = m
      · simp only [if_pos e]; exact hs
      · simp only [if_neg e]; exact b7 i (by omega)
    · rw [rd_I, if_pos rfl, if_neg (by decide), e48]; exact b4
    · rw [rd_I, if_pos rfl, if_pos rfl]
    · by_cases e : i = m
      · simp only [if_pos e]
        subst e
        rw [hzz]
        exact (b6.of_cp q1 hf).cg hf (fun j _ => by rw [rd_I, if_neg (by omega)]) (fun j _ => by rw [rd_I, if_neg (by omega)]) (fun j _ => by rw [rd_I, if_neg (by omega)])
      · simp only [if_neg e]
        have hi2 := hz fi' i
        have hne : (fi' + i) % 12 ≠ z := by omega
        have b8' := b8 i (by omega)
        generalize (fi' + i) % 12 = y at *
        exact b8'.cg hf (fun j _ => by rw [rd_I, if_neg (by omega)]; exact q2 _ _ (by omega) (by omega) (Or.inl (by omega))) (fun j _ => by rw [rd_I, if_neg (by omega)]; exact q2 _ _ (by omega) (by omega) (Or.inl (by omega))) (fun j _ => by rw [rd_I, if_neg (by omega)]; exact q2 _ _ (by omega) (by omega) (Or.inl (by omega)))
    · refine fP.uI (b3.tr ⟨fun a j hn => ?_, q3⟩) (Or.inl ⟨rfl, Or.inr rfl⟩)
      refine q2 a j (fun e => hn ?_) (fun e => hn ?_) ?_
      · exact Or.inr (by omega)
      · exact Or.inr (by omega)
      · exact Or.inl (fun e => hn (Or.inr (by omega)))
  have d12 : ¬ (12 : Int32) = 0 := by decide
  unfold m_X5_push b_X5_push
  by_cases h12 : n = 12
  · subst h12
    have b1 : (12 : Int32) ≤ nI 12 := by decide
    have b2 : ¬ nI 12 < 12 := by decide
    have e1 : nI (fi + 1) - nI (fi + 1) / 12 * 12 = nI ((fi + 1) % 12) := nI_mod (b := 12) (by omega) (by omega) (by omega)
    have hfi := hz fi 1
    have er := s_X5_inRing (M := fd_uI (fd_uI M 48 1 (nI ((fi + 1) % 12))) 48 2 11) (fi := (fi + 1) % 12) (k := 11) (by simp [rd_I]) hfi (by omega)
    rw [show nI 11 = (11 : Int32) from rfl] at er
    have f1 : fP pR5 M (fd_uI (fd_uI M 48 1 (nI ((fi + 1) % 12))) 48 2 11) := fP.uI (fP.uI fP.rf (Or.inl ⟨rfl, Or.inl rfl⟩)) (Or.inl ⟨rfl, Or.inr rfl⟩)
    have ux : ∀ a j, ¬ a = 48 → (fd_uI (fd_uI M 48 1 (nI ((fi + 1) % 12))) 48 2 11).1 a j = M.1 a j := fun a j ha => by simp [rd_I, ha]
    have mm := main (fd_uI (fd_uI M 48 1 (nI ((fi + 1) % 12))) 48 2 11) ((fi + 1) % 12) 11 (fun i => P (i + 1)) hfi (by omega) f1 (by simp [rd_I]) (by simp [rd_I]; rfl) (hS.cg hf (fun j _ => ux _ _ (by omega)) (fun j _ => ux _ _ (by omega)) (fun j _ => ux _ _ (by omega))) (fun i hi => a3 (i + 1) (by omega)) (fun i hi => by
      have q := a6 (i + 1) (by omega)
      rw [show ((fi + 1) % 12 + i) % 12 = (fi + (i + 1)) % 12 by omega]
      exact q.cg hf (fun j _ => ux _ _ (by omega)) (fun j _ => ux _ _ (by omega)) (fun j _ => ux _ _ (by omega)))
    simp [↓wp_ldn, ↓wp_b1, ↓wp_b2, ↓wp_b2z, ↓wp_gf, ↓wp_gd, ↓wp_ga, ↓wp_gl, ↓wp_al2, ↓wp_pi, ↓wp_ltr, ↓wp_ite, ↓wp_and, ↓wp_or, ↓wp_not, ↓wp_cmp, ↓wp_cmz, ↓wp_isn, ↓wp_nsn, ↓wp_a0, ↓wp_a1, ↓wp_cv, ↓wp_cs, ↓wp_dr, ↓wp_sk, ↓wp_brk, ↓wp_cnt, ↓wp_rV, ↓wp_seq, ↓wp_iff, ↓wp_sI, ↓wp_sL, ↓wp_sN, ↓wp_inc, ↓wp_do, ↓wp_rI, ↓wp_rL, ↓wp_rN, ↓wp_rZ, ↓wp_pf, ↓wp_pz, ↓wp_pd, ↓wp_po, ↓wp_pl, ↓wp_pao, ↓wp_tsw, ↓wp_lsw, ↓wp_fn, ↓wq_ld, ↓wq_ldl, ↓wq_lda, ↓wq_c, ↓wq_gr, ↓wq_gq, ↓wq_nn, ↓wq_asI, ↓wq_asL, ↓wq_asN, ↓wq_pa, hO_0, hR_0_0, hR_0_1, hR_0_2, hR_0_3, hR_0_4, hR_0_5, hR_0_6, hR_0_7, hR_0_8, hR_0_9, hR_0_10, hR_0_11, hF_0_12, hO_1, hR_1_0, hF_1_1, hF_1_2, hF_1_3, hO_3, hR_3_0, hF_3_1, hO_5, hF_5_0, hF_5_1, hR_5_2, hR_5_3, hR_5_4, hR_5_5, hR_5_6, hR_5_7, hF_5_8, hF_5_9, hO_30, hF_30_0, hF_30_1, hF_30_2, hF_30_3, hO_31, hF_31_0, hF_31_1, hR_31_2, hR_31_3, hR_31_4, hO_35, hR_35_0, hF_35_1, hR_35_2, hF_35_3, hR_35_4, hF_35_5, hF_35_6, hR_35_7, hF_35_8, hR_35_9, hR_35_10, hO_42, hO_45, hO_48, hR_48_0, hF_48_1, hF_48_2, hR_48_3, hR_48_4, hO_94, hR_94_0, hR_94_1, hO_97, hF_97_0, hF_97_1, hF_97_2, hF_97_3, hR_97_4, hR_97_5, hR_97_6, hR_97_7, hR_97_8, hR_97_9, hR_97_10, hR_97_11, hF_97_12, hO_156, hF_156_0, hR_156_1, hR_156_2, hR_156_3, hR_156_4, hR_156_5, hR_156_6, hR_156_7, hR_156_8, fd_p_eq, fd_p_ne, fd_p_lt, fd_p_ge, fd_p_gt, fd_p_le, fd_f_iadd, fd_f_isub, fd_f_imul, fd_f_iand, fd_f_ior, fd_f_ixor, fd_f_ishl, fd_f_ishr, fd_f_iushr, fd_f_ladd, fd_f_lsub, fd_f_lmul, fd_f_lcmp, fd_f_idiv, fd_f_irem, fd_f_ldiv, fd_f_lrem, fd_f_ineg, fd_f_i2l, fd_f_l2i, fd_f_i2b, fd_f_i2s, fd_f_i2c, fd_z_idiv, fd_z_irem, fd_z_ldiv, fd_z_lrem, fd_in0, fd_sl, fd_st1, fd_st2, fd_kl, fd_vI, fd_vL, fd_vN, fd_ok1, fd_v_int, xI, xL, xR, xK, xG, yI, yL, yN, -Prod.exists, a4, a5, b1, b2, d12, nI_1, e1, rd_I, fd_run_of er, va_rf]
    rw [show (fi + 1 + 11) % 12 = ((fi + 1) % 12 + 11) % 12 by omega]
    refine ⟨some _, rfl, ?_⟩
    rw [if_pos Option.isSome_some]
    refine ⟨some _, rfl, rfl, isO_ring _ (hz _ _), fd_run_mono mm (fun _ M2 hq => ?_)⟩
    obtain ⟨q1, q2, q3⟩ := hq
    rw [q1, nI_1]
    refine ⟨⟨(fi + 1) % 12, ?_⟩, q3⟩
    have hpp : pushed 12 P S = fun i => if i = 11 then S else P (i + 1) := by
      funext i
      unfold pushed
      rw [if_pos rfl]
    rw [hpp]
    exact q2
  · have b2 : nI n < 12 := nI_lt (b := 12) (by omega) (by decide)
    have b1 : ¬ (12 : Int32) ≤ nI n := Int32.not_le.mpr b2
    have er := s_X5_inRing (M := M) (fi := fi) (k := n) a4 a1 (by omega)
    have mm := main M fi n P a1 (by omega) fP.rf a4 a5 hS a3 a6
    simp [↓wp_ldn, ↓wp_b1, ↓wp_b2, ↓wp_b2z, ↓wp_gf, ↓wp_gd, ↓wp_ga, ↓wp_gl, ↓wp_al2, ↓wp_pi, ↓wp_ltr, ↓wp_ite, ↓wp_and, ↓wp_or, ↓wp_not, ↓wp_cmp, ↓wp_cmz, ↓wp_isn, ↓wp_nsn, ↓wp_a0, ↓wp_a1, ↓wp_cv, ↓wp_cs, ↓wp_dr, ↓wp_sk, ↓wp_brk, ↓wp_cnt, ↓wp_rV, ↓wp_seq, ↓wp_iff, ↓wp_sI, ↓wp_sL, ↓wp_sN, ↓wp_inc, ↓wp_do, ↓wp_rI, ↓wp_rL, ↓wp_rN, ↓wp_rZ, ↓wp_pf, ↓wp_pz, ↓wp_pd, ↓wp_po, ↓wp_pl, ↓wp_pao, ↓wp_tsw, ↓wp_lsw, ↓wp_fn, ↓wq_ld, ↓wq_ldl, ↓wq_lda, ↓wq_c, ↓wq_gr, ↓wq_gq, ↓wq_nn, ↓wq_asI, ↓wq_asL, ↓wq_asN, ↓wq_pa, hO_0, hR_0_0, hR_0_1, hR_0_2, hR_0_3, hR_0_4, hR_0_5, hR_0_6, hR_0_7, hR_0_8, hR_0_9, hR_0_10, hR_0_11, hF_0_12, hO_1, hR_1_0, hF_1_1, hF_1_2, hF_1_3, hO_3, hR_3_0, hF_3_1, hO_5, hF_5_0, hF_5_1, hR_5_2, hR_5_3, hR_5_4, hR_5_5, hR_5_6, hR_5_7, hF_5_8, hF_5_9, hO_30, hF_30_0, hF_30_1, hF_30_2, hF_30_3, hO_31, hF_31_0, hF_31_1, hR_31_2, hR_31_3, hR_31_4, hO_35, hR_35_0, hF_35_1, hR_35_2, hF_35_3, hR_35_4, hF_35_5, hF_35_6, hR_35_7, hF_35_8, hR_35_9, hR_35_10, hO_42, hO_45, hO_48, hR_48_0, hF_48_1, hF_48_2, hR_48_3, hR_48_4, hO_94, hR_94_0, hR_94_1, hO_97, hF_97_0, hF_97_1, hF_97_2, hF_97_3, hR_97_4, hR_97_5, hR_97_6, hR_97_7, hR_97_8, hR_97_9, hR_97_10, hR_97_11, hF_97_12, hO_156, hF_156_0, hR_156_1, hR_156_2, hR_156_3, hR_156_4, hR_156_5, hR_156_6, hR_156_7, hR_156_8, fd_p_eq, fd_p_ne, fd_p_lt, fd_p_ge, fd_p_gt, fd_p_le, fd_f_iadd, fd_f_isub, fd_f_imul, fd_f_iand, fd_f_ior, fd_f_ixor, fd_f_ishl, fd_f_ishr, fd_f_iushr, fd_f_ladd, fd_f_lsub, fd_f_lmul, fd_f_lcmp, fd_f_idiv, fd_f_irem, fd_f_ldiv, fd_f_lrem, fd_f_ineg, fd_f_i2l, fd_f_l2i, fd_f_i2b, fd_f_i2s, fd_f_i2c, fd_z_idiv, fd_z_irem, fd_z_ldiv, fd_z_lrem, fd_in0, fd_sl, fd_st1, fd_st2, fd_kl, fd_vI, fd_vL, fd_vN, fd_ok1, fd_v_int, xI, xL, xR, xK, xG, yI, yL, yN, -Prod.exists, a4, a5, b1, b2, fd_run_of er, va_rf]
    refine ⟨some _, rfl, ?_⟩
    rw [if_pos Option.isSome_some]
    refine ⟨some _, rfl, rfl, isO_ring _ (hz _ _), fd_run_mono mm (fun _ M2 hq => ?_)⟩
    obtain ⟨q1, q2, q3⟩ := hq
    rw [q1, nI_1]
    refine ⟨⟨fi, ?_⟩, q3⟩
    have hpp : pushed n P S = fun i => if i = n then S else P i := by
      funext i
      unfold pushed
      rw [if_neg h12]
    rw [hpp, show pushn n = n + 1 from if_neg h12]
    exact q2
/-- what the reference's remembering touches -/
def pQ (a j : Nat) : Prop := a = 197 ∨ (a = 182 ∧ j = 34)
theorem pQ_cl (a j : Nat) (h : pQ a j) : cl a j ∈ [8] := by
  rcases h with rfl | ⟨rfl, rfl⟩ <;> simp [cl, cl_182]
theorem s_X12_remember {M : fd_M} {f n c : Nat} {P : Nat → sto} {S : sto} (hf : f ≤ 8) (hn : n ≤ 12) (hc : c = 183 ∨ c = 198) (hS : mst f c 0 S M) (h : iv_q f n P M) : fd_run m_X12_remember [.ref 182, .ref c] M (fun _ M' => iv_q f (pushn n) (pushed n P S) M' ∧ fP pQ M M') := by
  obtain ⟨a1, a2⟩ := h
  have hcA : ∀ i, i < 23 → fd_isA c 0 (nI i) = true := fun i hi => by
    rcases hc with rfl | rfl
    · exact hA_183 hi
    · exact hA_198 hi
  have main : ∀ (M1 : fd_M) (m : Nat) (P' : Nat → sto), m < 12 → fP pQ M M1 → M1.1 182 34 = nI m → (∀ i, i < m → mst f 197 (23 * i) (P' i) M1) → fd_run m_X12_lay [.ref c, .ref 197, .int (nI (23 * m))] M1 (fun _ M' => M'.1 182 34 = nI m ∧ iv_q f (m + 1) (fun i => if i = m then S else P' i) (fd_uI M' 182 34 (nI (m + 1))) ∧ fP pQ M (fd_uI M' 182 34 (nI (m + 1)))) := by
    intro M1 m P' b1 b2 b3 b4
    refine fd_run_mono (s_X12_lay hcA (fun i hi => hA_197 (by omega)) (by omega) (by omega)) (fun _ M2 hp => ?_)
    obtain ⟨q1, q2, q3⟩ := hp
    refine ⟨by rw [q2 182 34 (Or.inl (by decide))]; exact b3, ⟨by rw [rd_I, if_pos rfl, if_pos rfl], fun i hi => ?_⟩, ?_⟩
    · by_cases e : i = m
      · simp only [if_pos e]
        subst e
        refine hS.cg hf (fun j hj => ?_)
        rw [rd_I, if_neg (by decide), q1 j hj, Nat.zero_add]
        exact b2.1 _ _ (by unfold pQ; omega)
      · simp only [if_neg e]
        refine (b4 i (by omega)).cg hf (fun j hj => ?_)
        rw [rd_I, if_neg (by decide)]
        exact q2 _ _ (by omega)
    · refine fP.uI (b2.tr ⟨fun a j hn => q2 a j (Or.inl fun e => hn (Or.inl e)), q3⟩) (Or.inr ⟨rfl, rfl⟩)
  unfold m_X12_remember b_X12_remember
  by_cases h12 : n = 12
  · subst h12
    have b1 : M.1 182 34 = 12 := a1
    simp [↓wp_ldn, ↓wp_b1, ↓wp_b2, ↓wp_b2z, ↓wp_gf, ↓wp_gd, ↓wp_ga, ↓wp_gl, ↓wp_al2, ↓wp_pi, ↓wp_ltr, ↓wp_ite, ↓wp_and, ↓wp_or, ↓wp_not, ↓wp_cmp, ↓wp_cmz, ↓wp_isn, ↓wp_nsn, ↓wp_a0, ↓wp_a1, ↓wp_cv, ↓wp_cs, ↓wp_dr, ↓wp_sk, ↓wp_brk, ↓wp_cnt, ↓wp_rV, ↓wp_seq, ↓wp_iff, ↓wp_sI, ↓wp_sL, ↓wp_sN, ↓wp_inc, ↓wp_do, ↓wp_rI, ↓wp_rL, ↓wp_rN, ↓wp_rZ, ↓wp_pf, ↓wp_pz, ↓wp_pd, ↓wp_po, ↓wp_pl, ↓wp_pao, ↓wp_tsw, ↓wp_lsw, ↓wp_fn, ↓wq_ld, ↓wq_ldl, ↓wq_lda, ↓wq_c, ↓wq_gr, ↓wq_gq, ↓wq_nn, ↓wq_asI, ↓wq_asL, ↓wq_asN, ↓wq_pa, hO_182, hR_182_0, hF_182_1, hR_182_2, hF_182_3, hR_182_4, hF_182_5, hR_182_6, hR_182_7, hR_182_8, hF_182_9, hF_182_10, hF_182_11, hF_182_12, hR_182_13, hF_182_14, hR_182_15, hF_182_16, hF_182_17, hF_182_18, hF_182_19, hF_182_20, hF_182_21, hF_182_22, hR_182_23, hR_182_24, hF_182_25, hF_182_26, hR_182_27, hR_182_28, hR_182_29, hF_182_30, hF_182_31, hR_182_32, hR_182_33, hF_182_34, hR_182_35, hF_182_36, hF_182_37, hF_182_38, hF_182_39, hF_182_40, hR_182_41, hR_182_42, hR_182_43, hR_182_44, hR_182_45, hR_182_46, hF_182_47, hR_182_48, hR_182_49, hR_182_50, hR_182_51, hR_182_52, hF_182_53, hR_182_54, hR_182_55, hR_182_56, hR_182_57, hF_182_58, hR_182_59, hR_182_60, hR_182_61, fd_p_eq, fd_p_ne, fd_p_lt, fd_p_ge, fd_p_gt, fd_p_le, fd_f_iadd, fd_f_isub, fd_f_imul, fd_f_iand, fd_f_ior, fd_f_ixor, fd_f_ishl, fd_f_ishr, fd_f_iushr, fd_f_ladd, fd_f_lsub, fd_f_lmul, fd_f_lcmp, fd_f_idiv, fd_f_irem, fd_f_ldiv, fd_f_lrem, fd_f_ineg, fd_f_i2l, fd_f_l2i, fd_f_i2b, fd_f_i2s, fd_f_i2c, fd_z_idiv, fd_z_irem, fd_z_ldiv, fd_z_lrem, fd_in0, fd_sl, fd_st1, fd_st2, fd_kl, fd_vI, fd_vL, fd_vN, fd_ok1, fd_v_int, xI, xL, xR, xK, xG, yI, yL, yN, -Prod.exists, b1]
    obtain ⟨J, hJ⟩ : ∃ J : Nat → fd_S → Prop, J = fun k σ => ∃ M1 : fd_M, σ = ([.ref 182, .ref c, .int (nI k)], M1) ∧ (∀ i, i < k → M1.1 197 i = M.1 197 (i + 23)) ∧ (∀ a i, (a ≠ 197 ∨ k ≤ i) → M1.1 a i = M.1 a i) ∧ M1.2 = M.2 := ⟨_, rfl⟩
    refine wp_for 253 J (fd_fu_lt (by omega)) (Nat.zero_le _) (by rw [hJ]; exact ⟨M, rfl, fun i hi => absurd hi (Nat.not_lt_zero i), fun _ _ _ => rfl, rfl⟩) (fun k σ hk hs => ?_) (fun σ hs => ?_)
    · rw [hJ] at hs
      obtain ⟨M1, rfl, h1, h2, h3⟩ := hs
      have c1 : nI k < 253 := nI_lt (b := 253) hk (by decide)
      have e23 : nI k + 23 = nI (k + 23) := nI_add k 23
      simp [↓wp_ldn, ↓wp_b1, ↓wp_b2, ↓wp_b2z, ↓wp_gf, ↓wp_gd, ↓wp_ga, ↓wp_gl, ↓wp_al2, ↓wp_pi, ↓wp_ltr, ↓wp_ite, ↓wp_and, ↓wp_or, ↓wp_not, ↓wp_cmp, ↓wp_cmz, ↓wp_isn, ↓wp_nsn, ↓wp_a0, ↓wp_a1, ↓wp_cv, ↓wp_cs, ↓wp_dr, ↓wp_sk, ↓wp_brk, ↓wp_cnt, ↓wp_rV, ↓wp_seq, ↓wp_iff, ↓wp_sI, ↓wp_sL, ↓wp_sN, ↓wp_inc, ↓wp_do, ↓wp_rI, ↓wp_rL, ↓wp_rN, ↓wp_rZ, ↓wp_pf, ↓wp_pz, ↓wp_pd, ↓wp_po, ↓wp_pl, ↓wp_pao, ↓wp_tsw, ↓wp_lsw, ↓wp_fn, ↓wq_ld, ↓wq_ldl, ↓wq_lda, ↓wq_c, ↓wq_gr, ↓wq_gq, ↓wq_nn, ↓wq_asI, ↓wq_asL, ↓wq_asN, ↓wq_pa, hO_182, hR_182_0, hF_182_1, hR_182_2, hF_182_3, hR_182_4, hF_182_5, hR_182_6, hR_182_7, hR_182_8, hF_182_9, hF_182_10, hF_182_11, hF_182_12, hR_182_13, hF_182_14, hR_182_15, hF_182_16, hF_182_17, hF_182_18, hF_182_19, hF_182_20, hF_182_21, hF_182_22, hR_182_23, hR_182_24, hF_182_25, hF_182_26, hR_182_27, hR_182_28, hR_182_29, hF_182_30, hF_182_31, hR_182_32, hR_182_33, hF_182_34, hR_182_35, hF_182_36, hF_182_37, hF_182_38, hF_182_39, hF_182_40, hR_182_41, hR_182_42, hR_182_43, hR_182_44, hR_182_45, hR_182_46, hF_182_47, hR_182_48, hR_182_49, hR_182_50, hR_182_51, hR_182_52, hF_182_53, hR_182_54, hR_182_55, hR_182_56, hR_182_57, hF_182_58, hR_182_59, hR_182_60, hR_182_61, fd_p_eq, fd_p_ne, fd_p_lt, fd_p_ge, fd_p_gt, fd_p_le, fd_f_iadd, fd_f_isub, fd_f_imul, fd_f_iand, fd_f_ior, fd_f_ixor, fd_f_ishl, fd_f_ishr, fd_f_iushr, fd_f_ladd, fd_f_lsub, fd_f_lmul, fd_f_lcmp, fd_f_idiv, fd_f_irem, fd_f_ldiv, fd_f_lrem, fd_f_ineg, fd_f_i2l, fd_f_l2i, fd_f_i2b, fd_f_i2s, fd_f_i2c, fd_z_idiv, fd_z_irem, fd_z_ldiv, fd_z_lrem, fd_in0, fd_sl, fd_st1, fd_st2, fd_kl, fd_vI, fd_vL, fd_vN, fd_ok1, fd_v_int, xI, xL, xR, xK, xG, yI, yL, yN, -Prod.exists, c1, e23, hA_197 (show k < 276 by omega), hA_197 (show k + 23 < 276 by omega), nI_clamp (show k < 2 ^ 31 by omega), nI_clamp (show k + 23 < 2 ^ 31 by omega), nI_1]
      rw [hJ]
      refine ⟨_, rfl, fun i hi => ?_, fun a i ha => ?_, h3⟩
      · rw [rd_I, if_pos rfl]
        by_cases e : i = k
        · rw [if_pos e, e]; exact h2 _ _ (Or.inr (by omega))
        · rw [if_neg e]; exact h1 i (by omega)
      · rw [rd_I]
        by_cases e : a = 197
        · rw [if_pos e, if_neg (by omega), e]; exact h2 _ _ (Or.inr (by omega))
        · rw [if_neg e]; exact h2 _ _ (Or.inl e)
    · rw [hJ] at hs
      obtain ⟨M1, rfl, h1, h2, h3⟩ := hs
      have c1 : ¬ nI 253 < 253 := by decide
      have c2 : (253 : Int32) ≤ nI 253 := by decide
      have u34 : M1.1 182 34 = 12 := (h2 _ _ (Or.inl (by decide))).trans b1
      have e11 : (12 : Int32) - 1 = nI 11 := by decide
      have e253 : (23 : Int32) * nI 11 = nI (23 * 11) := by decide
      have f1 : fP pQ M (fd_uI M1 182 34 (nI 11)) := fP.uI ⟨fun a j hn => h2 a j (Or.inl fun e => hn (Or.inl e)), h3⟩ (Or.inr ⟨rfl, rfl⟩)
      have mm := main (fd_uI M1 182 34 (nI 11)) 11 (fun i => P (i + 1)) (by omega) f1 (by simp [rd_I]) (fun i hi => by
        refine (a2 (i + 1) (by omega)).cg hf (fun j hj => ?_)
        rw [rd_I, if_neg (by decide), h1 _ (by omega), show 23 * i + j + 23 = 23 * (i + 1) + j by omega])
      simp [↓wp_ldn, ↓wp_b1, ↓wp_b2, ↓wp_b2z, ↓wp_gf, ↓wp_gd, ↓wp_ga, ↓wp_gl, ↓wp_al2, ↓wp_pi, ↓wp_ltr, ↓wp_ite, ↓wp_and, ↓wp_or, ↓wp_not, ↓wp_cmp, ↓wp_cmz, ↓wp_isn, ↓wp_nsn, ↓wp_a0, ↓wp_a1, ↓wp_cv, ↓wp_cs, ↓wp_dr, ↓wp_sk, ↓wp_brk, ↓wp_cnt, ↓wp_rV, ↓wp_seq, ↓wp_iff, ↓wp_sI, ↓wp_sL, ↓wp_sN, ↓wp_inc, ↓wp_do, ↓wp_rI, ↓wp_rL, ↓wp_rN, ↓wp_rZ, ↓wp_pf, ↓wp_pz, ↓wp_pd, ↓wp_po, ↓wp_pl, ↓wp_pao, ↓wp_tsw, ↓wp_lsw, ↓wp_fn, ↓wq_ld, ↓wq_ldl, ↓wq_lda, ↓wq_c, ↓wq_gr, ↓wq_gq, ↓wq_nn, ↓wq_asI, ↓wq_asL, ↓wq_asN, ↓wq_pa, hO_182, hR_182_0, hF_182_1, hR_182_2, hF_182_3, hR_182_4, hF_182_5, hR_182_6, hR_182_7, hR_182_8, hF_182_9, hF_182_10, hF_182_11, hF_182_12, hR_182_13, hF_182_14, hR_182_15, hF_182_16, hF_182_17, hF_182_18, hF_182_19, hF_182_20, hF_182_21, hF_182_22, hR_182_23, hR_182_24, hF_182_25, hF_182_26, hR_182_27, hR_182_28, hR_182_29, hF_182_30, hF_182_31, hR_182_32, hR_182_33, hF_182_34, hR_182_35, hF_182_36, hF_182_37, hF_182_38, hF_182_39, hF_182_40, hR_182_41, hR_182_42, hR_182_43, hR_182_44, hR_182_45, hR_182_46, hF_182_47, hR_182_48, hR_182_49, hR_182_50, hR_182_51, hR_182_52, hF_182_53, hR_182_54, hR_182_55, hR_182_56, hR_182_57, hF_182_58, hR_182_59, hR_182_60, hR_182_61, fd_p_eq, fd_p_ne, fd_p_lt, fd_p_ge, fd_p_gt, fd_p_le, fd_f_iadd, fd_f_isub, fd_f_imul, fd_f_iand, fd_f_ior, fd_f_ixor, fd_f_ishl, fd_f_ishr, fd_f_iushr, fd_f_ladd, fd_f_lsub, fd_f_lmul, fd_f_lcmp, fd_f_idiv, fd_f_irem, fd_f_ldiv, fd_f_lrem, fd_f_ineg, fd_f_i2l, fd_f_l2i, fd_f_i2b, fd_f_i2s, fd_f_i2c, fd_z_idiv, fd_z_irem, fd_z_ldiv, fd_z_lrem, fd_in0, fd_sl, fd_st1, fd_st2, fd_kl, fd_vI, fd_vL, fd_vN, fd_ok1, fd_v_int, xI, xL, xR, xK, xG, yI, yL, yN, -Prod.exists, c1, c2, u34, rd_I, e11, e253]
      refine fd_run_mono mm (fun _ M2 hq => ?_)
      obtain ⟨q1, q2, q3⟩ := hq
      simp [↓wp_ldn, ↓wp_b1, ↓wp_b2, ↓wp_b2z, ↓wp_gf, ↓wp_gd, ↓wp_ga, ↓wp_gl, ↓wp_al2, ↓wp_pi, ↓wp_ltr, ↓wp_ite, ↓wp_and, ↓wp_or, ↓wp_not, ↓wp_cmp, ↓wp_cmz, ↓wp_isn, ↓wp_nsn, ↓wp_a0, ↓wp_a1, ↓wp_cv, ↓wp_cs, ↓wp_dr, ↓wp_sk, ↓wp_brk, ↓wp_cnt, ↓wp_rV, ↓wp_seq, ↓wp_iff, ↓wp_sI, ↓wp_sL, ↓wp_sN, ↓wp_inc, ↓wp_do, ↓wp_rI, ↓wp_rL, ↓wp_rN, ↓wp_rZ, ↓wp_pf, ↓wp_pz, ↓wp_pd, ↓wp_po, ↓wp_pl, ↓wp_pao, ↓wp_tsw, ↓wp_lsw, ↓wp_fn, ↓wq_ld, ↓wq_ldl, ↓wq_lda, ↓wq_c, ↓wq_gr, ↓wq_gq, ↓wq_nn, ↓wq_asI, ↓wq_asL, ↓wq_asN, ↓wq_pa, hO_182, hR_182_0, hF_182_1, hR_182_2, hF_182_3, hR_182_4, hF_182_5, hR_182_6, hR_182_7, hR_182_8, hF_182_9, hF_182_10, hF_182_11, hF_182_12, hR_182_13, hF_182_14, hR_182_15, hF_182_16, hF_182_17, hF_182_18, hF_182_19, hF_182_20, hF_182_21, hF_182_22, hR_182_23, hR_182_24, hF_182_25, hF_182_26, hR_182_27, hR_182_28, hR_182_29, hF_182_30, hF_182_31, hR_182_32, hR_182_33, hF_182_34, hR_182_35, hF_182_36, hF_182_37, hF_182_38, hF_182_39, hF_182_40, hR_182_41, hR_182_42, hR_182_43, hR_182_44, hR_182_45, hR_182_46, hF_182_47, hR_182_48, hR_182_49, hR_182_50, hR_182_51, hR_182_52, hF_182_53, hR_182_54, hR_182_55, hR_182_56, hR_182_57, hF_182_58, hR_182_59, hR_182_60, hR_182_61, fd_p_eq, fd_p_ne, fd_p_lt, fd_p_ge, fd_p_gt, fd_p_le, fd_f_iadd, fd_f_isub, fd_f_imul, fd_f_iand, fd_f_ior, fd_f_ixor, fd_f_ishl, fd_f_ishr, fd_f_iushr, fd_f_ladd, fd_f_lsub, fd_f_lmul, fd_f_lcmp, fd_f_idiv, fd_f_irem, fd_f_ldiv, fd_f_lrem, fd_f_ineg, fd_f_i2l, fd_f_l2i, fd_f_i2b, fd_f_i2s, fd_f_i2c, fd_z_idiv, fd_z_irem, fd_z_ldiv, fd_z_lrem, fd_in0, fd_sl, fd_st1, fd_st2, fd_kl, fd_vI, fd_vL, fd_vN, fd_ok1, fd_v_int, xI, xL, xR, xK, xG, yI, yL, yN, -Prod.exists, q1, nI_1]
      exact ⟨q2, q3⟩
  · have b1 : ¬ M.1 182 34 = 12 := by rw [a1]; exact fun z => h12 ((nI_eq (b := 12) (by omega) (by omega)).mp z)
    have mm := main M n P (by omega) fP.rf a1 a2
    have e23 : (23 : Int32) * nI n = nI (23 * n) := nI_mul 23 n
    have b2 : ¬ nI n = 12 := by rw [← a1]; exact b1
    simp [↓wp_ldn, ↓wp_b1, ↓wp_b2, ↓wp_b2z, ↓wp_gf, ↓wp_gd, ↓wp_ga, ↓wp_gl, ↓wp_al2, ↓wp_pi, ↓wp_ltr, ↓wp_ite, ↓wp_and, ↓wp_or, ↓wp_not, ↓wp_cmp, ↓wp_cmz, ↓wp_isn, ↓wp_nsn, ↓wp_a0, ↓wp_a1, ↓wp_cv, ↓wp_cs, ↓wp_dr, ↓wp_sk, ↓wp_brk, ↓wp_cnt, ↓wp_rV, ↓wp_seq, ↓wp_iff, ↓wp_sI, ↓wp_sL, ↓wp_sN, ↓wp_inc, ↓wp_do, ↓wp_rI, ↓wp_rL, ↓wp_rN, ↓wp_rZ, ↓wp_pf, ↓wp_pz, ↓wp_pd, ↓wp_po, ↓wp_pl, ↓wp_pao, ↓wp_tsw, ↓wp_lsw, ↓wp_fn, ↓wq_ld, ↓wq_ldl, ↓wq_lda, ↓wq_c, ↓wq_gr, ↓wq_gq, ↓wq_nn, ↓wq_asI, ↓wq_asL, ↓wq_asN, ↓wq_pa, hO_182, hR_182_0, hF_182_1, hR_182_2, hF_182_3, hR_182_4, hF_182_5, hR_182_6, hR_182_7, hR_182_8, hF_182_9, hF_182_10, hF_182_11, hF_182_12, hR_182_13, hF_182_14, hR_182_15, hF_182_16, hF_182_17, hF_182_18, hF_182_19, hF_182_20, hF_182_21, hF_182_22, hR_182_23, hR_182_24, hF_182_25, hF_182_26, hR_182_27, hR_182_28, hR_182_29, hF_182_30, hF_182_31, hR_182_32, hR_182_33, hF_182_34, hR_182_35, hF_182_36, hF_182_37, hF_182_38, hF_182_39, hF_182_40, hR_182_41, hR_182_42, hR_182_43, hR_182_44, hR_182_45, hR_182_46, hF_182_47, hR_182_48, hR_182_49, hR_182_50, hR_182_51, hR_182_52, hF_182_53, hR_182_54, hR_182_55, hR_182_56, hR_182_57, hF_182_58, hR_182_59, hR_182_60, hR_182_61, fd_p_eq, fd_p_ne, fd_p_lt, fd_p_ge, fd_p_gt, fd_p_le, fd_f_iadd, fd_f_isub, fd_f_imul, fd_f_iand, fd_f_ior, fd_f_ixor, fd_f_ishl, fd_f_ishr, fd_f_iushr, fd_f_ladd, fd_f_lsub, fd_f_lmul, fd_f_lcmp, fd_f_idiv, fd_f_irem, fd_f_ldiv, fd_f_lrem, fd_f_ineg, fd_f_i2l, fd_f_l2i, fd_f_i2b, fd_f_i2s, fd_f_i2c, fd_z_idiv, fd_z_irem, fd_z_ldiv, fd_z_lrem, fd_in0, fd_sl, fd_st1, fd_st2, fd_kl, fd_vI, fd_vL, fd_vN, fd_ok1, fd_v_int, xI, xL, xR, xK, xG, yI, yL, yN, -Prod.exists, a1, b2, e23]
    refine fd_run_mono mm (fun _ M2 hq => ?_)
    obtain ⟨q1, q2, q3⟩ := hq
    simp [↓wp_ldn, ↓wp_b1, ↓wp_b2, ↓wp_b2z, ↓wp_gf, ↓wp_gd, ↓wp_ga, ↓wp_gl, ↓wp_al2, ↓wp_pi, ↓wp_ltr, ↓wp_ite, ↓wp_and, ↓wp_or, ↓wp_not, ↓wp_cmp, ↓wp_cmz, ↓wp_isn, ↓wp_nsn, ↓wp_a0, ↓wp_a1, ↓wp_cv, ↓wp_cs, ↓wp_dr, ↓wp_sk, ↓wp_brk, ↓wp_cnt, ↓wp_rV, ↓wp_seq, ↓wp_iff, ↓wp_sI, ↓wp_sL, ↓wp_sN, ↓wp_inc, ↓wp_do, ↓wp_rI, ↓wp_rL, ↓wp_rN, ↓wp_rZ, ↓wp_pf, ↓wp_pz, ↓wp_pd, ↓wp_po, ↓wp_pl, ↓wp_pao, ↓wp_tsw, ↓wp_lsw, ↓wp_fn, ↓wq_ld, ↓wq_ldl, ↓wq_lda, ↓wq_c, ↓wq_gr, ↓wq_gq, ↓wq_nn, ↓wq_asI, ↓wq_asL, ↓wq_asN, ↓wq_pa, hO_182, hR_182_0, hF_182_1, hR_182_2, hF_182_3, hR_182_4, hF_182_5, hR_182_6, hR_182_7, hR_182_8, hF_182_9, hF_182_10, hF_182_11, hF_182_12, hR_182_13, hF_182_14, hR_182_15, hF_182_16, hF_182_17, hF_182_18, hF_182_19, hF_182_20, hF_182_21, hF_182_22, hR_182_23, hR_182_24, hF_182_25, hF_182_26, hR_182_27, hR_182_28, hR_182_29, hF_182_30, hF_182_31, hR_182_32, hR_182_33, hF_182_34, hR_182_35, hF_182_36, hF_182_37, hF_182_38, hF_182_39, hF_182_40, hR_182_41, hR_182_42, hR_182_43, hR_182_44, hR_182_45, hR_182_46, hF_182_47, hR_182_48, hR_182_49, hR_182_50, hR_182_51, hR_182_52, hF_182_53, hR_182_54, hR_182_55, hR_182_56, hR_182_57, hF_182_58, hR_182_59, hR_182_60, hR_182_61, fd_p_eq, fd_p_ne, fd_p_lt, fd_p_ge, fd_p_gt, fd_p_le, fd_f_iadd, fd_f_isub, fd_f_imul, fd_f_iand, fd_f_ior, fd_f_ixor, fd_f_ishl, fd_f_ishr, fd_f_iushr, fd_f_ladd, fd_f_lsub, fd_f_lmul, fd_f_lcmp, fd_f_idiv, fd_f_irem, fd_f_ldiv, fd_f_lrem, fd_f_ineg, fd_f_i2l, fd_f_l2i, fd_f_i2b, fd_f_i2s, fd_f_i2c, fd_z_idiv, fd_z_irem, fd_z_ldiv, fd_z_lrem, fd_in0, fd_sl, fd_st1, fd_st2, fd_kl, fd_vI, fd_vL, fd_vN, fd_ok1, fd_v_int, xI, xL, xR, xK, xG, yI, yL, yN, -Prod.exists, q1, nI_1]
    unfold pushn pushed
    rw [if_neg h12]
    simp only [if_neg h12]
    exact ⟨q2, q3⟩
-- FILE 59.calln
/-! ===== the calls: night, stay ===== -/
theorem w_miles_lt {w : wl} {M : fd_M} (hw : wd w M) {a b : Nat} (ha : a < w.v) (hb : b < w.v) : w.D a b ≤ 1000000 := (hw.1.2.2.2.2.2.1.1 a b ha hb).2.1
/-- how far one walks in a night -/
def w_wk (w : wl) (n : Int32) : Int32 := if 0 < w.mo ∧ n - n / w.mo * w.mo = 0 then w.re / 2 else w.re
theorem w_wk_lt {w : wl} {M : fd_M} (hw : wd w M) (n : Int32) : w_wk w n < 1000000 := by
  unfold w_wk
  split
  · exact hw.2.2.1.2.2.2.2.2.2.2.2.2
  · exact hw.2.2.1.2.2.2.2.2.2.2.2.1
theorem s_X8_walk' {w : wl} {M : fd_M} (hw : wd w M) (n : Int32) : m_X8_walk [.ref 30, .int n] M = some (.int (w_wk w n), M) := by
  rw [s_X8_walk, hw.2.2.1.1, hw.2.2.1.2.2.1]
  rfl
theorem s_X12_walk' {w : wl} {M : fd_M} (hw : wd w M) (n : Int32) : m_X12_walk [.ref 182, .int n] M = some (.int (w_wk w n), M) := by
  rw [s_X12_walk, hw.2.2.1.2.1, hw.2.2.1.2.2.2.1]
  rfl
theorem s_X11_refusalToGo {w : wl} {M : fd_M} (hw : wd w M) {S : sto} (hS : cst w.f 42 S M) (hok : S.a < w.v ∨ S.a = 0) (d : Int32) : m_X11_refusalToGo [.ref 0, .int d] M = some (.int (if ∃ x, x < w.v ∧ d = nI x ∧ nI (w.D S.a x) ≤ w_wk w (nI S.n) then 0 else if ∃ x, x < w.v ∧ d = nI x then -2 else -1), M) := by
  apply fd_of_run
  have hv := hw.1.1
  unfold m_X11_refusalToGo b_X11_refusalToGo
  rcases in_or w.v d with h | h
  · obtain ⟨x, hx, rfl⟩ := h
    have ha : S.a < w.v := by omega
    have ec := s_X3_canWalk (x := w_wk w (nI S.n)) hw.1.2.1 hv ha hx hw.1.2.2.2.2.2.1 hw.1.2.2.2.2.2.2 (w_wk_lt hw _)
    have hx' : ∃ x', x' < w.v ∧ nI x = nI x' := ⟨x, hx, rfl⟩
    by_cases c : nI (w.D S.a x) ≤ w_wk w (nI S.n)
    · have hx'' : ∃ x', x' < w.v ∧ nI x = nI x' ∧ nI (w.D S.a x') ≤ w_wk w (nI S.n) := ⟨x, hx, rfl, c⟩
      rw [if_pos hx'']
      rw [if_pos c] at ec
      simp [↓wp_ldn, ↓wp_b1, ↓wp_b2, ↓wp_b2z, ↓wp_gf, ↓wp_gd, ↓wp_ga, ↓wp_gl, ↓wp_al2, ↓wp_pi, ↓wp_ltr, ↓wp_ite, ↓wp_and, ↓wp_or, ↓wp_not, ↓wp_cmp, ↓wp_cmz, ↓wp_isn, ↓wp_nsn, ↓wp_a0, ↓wp_a1, ↓wp_cv, ↓wp_cs, ↓wp_dr, ↓wp_sk, ↓wp_brk, ↓wp_cnt, ↓wp_rV, ↓wp_seq, ↓wp_iff, ↓wp_sI, ↓wp_sL, ↓wp_sN, ↓wp_inc, ↓wp_do, ↓wp_rI, ↓wp_rL, ↓wp_rN, ↓wp_rZ, ↓wp_pf, ↓wp_pz, ↓wp_pd, ↓wp_po, ↓wp_pl, ↓wp_pao, ↓wp_tsw, ↓wp_lsw, ↓wp_fn, ↓wq_ld, ↓wq_ldl, ↓wq_lda, ↓wq_c, ↓wq_gr, ↓wq_gq, ↓wq_nn, ↓wq_asI, ↓wq_asL, ↓wq_asN, ↓wq_pa, hO_0, hR_0_0, hR_0_1, hR_0_2, hR_0_3, hR_0_4, hR_0_5, hR_0_6, hR_0_7, hR_0_8, hR_0_9, hR_0_10, hR_0_11, hF_0_12, hO_1, hR_1_0, hF_1_1, hF_1_2, hF_1_3, hO_3, hR_3_0, hF_3_1, hO_5, hF_5_0, hF_5_1, hR_5_2, hR_5_3, hR_5_4, hR_5_5, hR_5_6, hR_5_7, hF_5_8, hF_5_9, hO_30, hF_30_0, hF_30_1, hF_30_2, hF_30_3, hO_31, hF_31_0, hF_31_1, hR_31_2, hR_31_3, hR_31_4, hO_35, hR_35_0, hF_35_1, hR_35_2, hF_35_3, hR_35_4, hF_35_5, hF_35_6, hR_35_7, hF_35_8, hR_35_9, hR_35_10, hO_42, hO_45, hO_48, hR_48_0, hF_48_1, hF_48_2, hR_48_3, hR_48_4, hO_94, hR_94_0, hR_94_1, hO_97, hF_97_0, hF_97_1, hF_97_2, hF_97_3, hR_97_4, hR_97_5, hR_97_6, hR_97_7, hR_97_8, hR_97_9, hR_97_10, hR_97_11, hF_97_12, hO_156, hF_156_0, hR_156_1, hR_156_2, hR_156_3, hR_156_4, hR_156_5, hR_156_6, hR_156_7, hR_156_8, fd_p_eq, fd_p_ne, fd_p_lt, fd_p_ge, fd_p_gt, fd_p_le, fd_f_iadd, fd_f_isub, fd_f_imul, fd_f_iand, fd_f_ior, fd_f_ixor, fd_f_ishl, fd_f_ishr, fd_f_iushr, fd_f_ladd, fd_f_lsub, fd_f_lmul, fd_f_lcmp, fd_f_idiv, fd_f_irem, fd_f_ldiv, fd_f_lrem, fd_f_ineg, fd_f_i2l, fd_f_l2i, fd_f_i2b, fd_f_i2s, fd_f_i2c, fd_z_idiv, fd_z_irem, fd_z_ldiv, fd_z_lrem, fd_in0, fd_sl, fd_st1, fd_st2, fd_kl, fd_vI, fd_vL, fd_vN, fd_ok1, fd_v_int, xI, xL, xR, xK, xG, yI, yL, yN, -Prod.exists, fd_run_of (s_X3_has_t hw.1.2.1 hv hx), hS.1, hS.2.1, show fd_isF 42 10 1 = some 0 from rfl, show fd_isF 42 10 0 = some 0 from rfl, fd_run_of (s_X8_walk' hw _), fd_run_of ec]
    · have hx'' : ¬ ∃ x', x' < w.v ∧ nI x = nI x' ∧ nI (w.D S.a x') ≤ w_wk w (nI S.n) := fun ⟨y, y1, y2, y3⟩ => by
        rw [(nI_eq (by omega) (by omega)).mp y2] at c
        exact c y3
      rw [if_neg hx'', if_pos hx']
      rw [if_neg c] at ec
      simp [↓wp_ldn, ↓wp_b1, ↓wp_b2, ↓wp_b2z, ↓wp_gf, ↓wp_gd, ↓wp_ga, ↓wp_gl, ↓wp_al2, ↓wp_pi, ↓wp_ltr, ↓wp_ite, ↓wp_and, ↓wp_or, ↓wp_not, ↓wp_cmp, ↓wp_cmz, ↓wp_isn, ↓wp_nsn, ↓wp_a0, ↓wp_a1, ↓wp_cv, ↓wp_cs, ↓wp_dr, ↓wp_sk, ↓wp_brk, ↓wp_cnt, ↓wp_rV, ↓wp_seq, ↓wp_iff, ↓wp_sI, ↓wp_sL, ↓wp_sN, ↓wp_inc, ↓wp_do, ↓wp_rI, ↓wp_rL, ↓wp_rN, ↓wp_rZ, ↓wp_pf, ↓wp_pz, ↓wp_pd, ↓wp_po, ↓wp_pl, ↓wp_pao, ↓wp_tsw, ↓wp_lsw, ↓wp_fn, ↓wq_ld, ↓wq_ldl, ↓wq_lda, ↓wq_c, ↓wq_gr, ↓wq_gq, ↓wq_nn, ↓wq_asI, ↓wq_asL, ↓wq_asN, ↓wq_pa, hO_0, hR_0_0, hR_0_1, hR_0_2, hR_0_3, hR_0_4, hR_0_5, hR_0_6, hR_0_7, hR_0_8, hR_0_9, hR_0_10, hR_0_11, hF_0_12, hO_1, hR_1_0, hF_1_1, hF_1_2, hF_1_3, hO_3, hR_3_0, hF_3_1, hO_5, hF_5_0, hF_5_1, hR_5_2, hR_5_3, hR_5_4, hR_5_5, hR_5_6, hR_5_7, hF_5_8, hF_5_9, hO_30, hF_30_0, hF_30_1, hF_30_2, hF_30_3, hO_31, hF_31_0, hF_31_1, hR_31_2, hR_31_3, hR_31_4, hO_35, hR_35_0, hF_35_1, hR_35_2, hF_35_3, hR_35_4, hF_35_5, hF_35_6, hR_35_7, hF_35_8, hR_35_9, hR_35_10, hO_42, hO_45, hO_48, hR_48_0, hF_48_1, hF_48_2, hR_48_3, hR_48_4, hO_94, hR_94_0, hR_94_1, hO_97, hF_97_0, hF_97_1, hF_97_2, hF_97_3, hR_97_4, hR_97_5, hR_97_6, hR_97_7, hR_97_8, hR_97_9, hR_97_10, hR_97_11, hF_97_12, hO_156, hF_156_0, hR_156_1, hR_156_2, hR_156_3, hR_156_4, hR_156_5, hR_156_6, hR_156_7, hR_156_8, fd_p_eq, fd_p_ne, fd_p_lt, fd_p_ge, fd_p_gt, fd_p_le, fd_f_iadd, fd_f_isub, fd_f_imul, fd_f_iand, fd_f_ior, fd_f_ixor, fd_f_ishl, fd_f_ishr, fd_f_iushr, fd_f_ladd, fd_f_lsub, fd_f_lmul, fd_f_lcmp, fd_f_idiv, fd_f_irem, fd_f_ldiv, fd_f_lrem, fd_f_ineg, fd_f_i2l, fd_f_l2i, fd_f_i2b, fd_f_i2s, fd_f_i2c, fd_z_idiv, fd_z_irem, fd_z_ldiv, fd_z_lrem, fd_in0, fd_sl, fd_st1, fd_st2, fd_kl, fd_vI, fd_vL, fd_vN, fd_ok1, fd_v_int, xI, xL, xR, xK, xG, yI, yL, yN, -Prod.exists, fd_run_of (s_X3_has_t hw.1.2.1 hv hx), hS.1, hS.2.1, show fd_isF 42 10 1 = some 0 from rfl, show fd_isF 42 10 0 = some 0 from rfl, fd_run_of (s_X8_walk' hw _), fd_run_of ec]
  · rw [if_neg (fun ⟨x, h1, h2, _⟩ => h ⟨x, h1, h2⟩), if_neg h]
    simp [↓wp_ldn, ↓wp_b1, ↓wp_b2, ↓wp_b2z, ↓wp_gf, ↓wp_gd, ↓wp_ga, ↓wp_gl, ↓wp_al2, ↓wp_pi, ↓wp_ltr, ↓wp_ite, ↓wp_and, ↓wp_or, ↓wp_not, ↓wp_cmp, ↓wp_cmz, ↓wp_isn, ↓wp_nsn, ↓wp_a0, ↓wp_a1, ↓wp_cv, ↓wp_cs, ↓wp_dr, ↓wp_sk, ↓wp_brk, ↓wp_cnt, ↓wp_rV, ↓wp_seq, ↓wp_iff, ↓wp_sI, ↓wp_sL, ↓wp_sN, ↓wp_inc, ↓wp_do, ↓wp_rI, ↓wp_rL, ↓wp_rN, ↓wp_rZ, ↓wp_pf, ↓wp_pz, ↓wp_pd, ↓wp_po, ↓wp_pl, ↓wp_pao, ↓wp_tsw, ↓wp_lsw, ↓wp_fn, ↓wq_ld, ↓wq_ldl, ↓wq_lda, ↓wq_c, ↓wq_gr, ↓wq_gq, ↓wq_nn, ↓wq_asI, ↓wq_asL, ↓wq_asN, ↓wq_pa, hO_0, hR_0_0, hR_0_1, hR_0_2, hR_0_3, hR_0_4, hR_0_5, hR_0_6, hR_0_7, hR_0_8, hR_0_9, hR_0_10, hR_0_11, hF_0_12, hO_1, hR_1_0, hF_1_1, hF_1_2, hF_1_3, hO_3, hR_3_0, hF_3_1, hO_5, hF_5_0, hF_5_1, hR_5_2, hR_5_3, hR_5_4, hR_5_5, hR_5_6, hR_5_7, hF_5_8, hF_5_9, hO_30, hF_30_0, hF_30_1, hF_30_2, hF_30_3, hO_31, hF_31_0, hF_31_1, hR_31_2, hR_31_3, hR_31_4, hO_35, hR_35_0, hF_35_1, hR_35_2, hF_35_3, hR_35_4, hF_35_5, hF_35_6, hR_35_7, hF_35_8, hR_35_9, hR_35_10, hO_42, hO_45, hO_48, hR_48_0, hF_48_1, hF_48_2, hR_48_3, hR_48_4, hO_94, hR_94_0, hR_94_1, hO_97, hF_97_0, hF_97_1, hF_97_2, hF_97_3, hR_97_4, hR_97_5, hR_97_6, hR_97_7, hR_97_8, hR_97_9, hR_97_10, hR_97_11, hF_97_12, hO_156, hF_156_0, hR_156_1, hR_156_2, hR_156_3, hR_156_4, hR_156_5, hR_156_6, hR_156_7, hR_156_8, fd_p_eq, fd_p_ne, fd_p_lt, fd_p_ge, fd_p_gt, fd_p_le, fd_f_iadd, fd_f_isub, fd_f_imul, fd_f_iand, fd_f_ior, fd_f_ixor, fd_f_ishl, fd_f_ishr, fd_f_iushr, fd_f_ladd, fd_f_lsub, fd_f_lmul, fd_f_lcmp, fd_f_idiv, fd_f_irem, fd_f_ldiv, fd_f_lrem, fd_f_ineg, fd_f_i2l, fd_f_l2i, fd_f_i2b, fd_f_i2s, fd_f_i2c, fd_z_idiv, fd_z_irem, fd_z_ldiv, fd_z_lrem, fd_in0, fd_sl, fd_st1, fd_st2, fd_kl, fd_vI, fd_vL, fd_vN, fd_ok1, fd_v_int, xI, xL, xR, xK, xG, yI, yL, yN, -Prod.exists, fd_run_of (s_X3_has_f hw.1.2.1 hv h)]
theorem s_X12_canGo {w : wl} {M : fd_M} (hw : wd w M) {S : sto} {c x : Nat} (hc : c = 183 ∨ c = 213) (hS : mst w.f c 0 S M) (ha : S.a < w.v) (hx : x < w.v) : m_X12_canGo [.ref 182, .ref c, .int (nI x)] M = some (.int (if nI (w.D S.a x) ≤ w_wk w (nI S.n) then 1 else 0), M) := by
  apply fd_of_run
  have z0 : (0 : Int32).toNatClampNeg = 0 := rfl
  have z5 : (5 : Int32).toNatClampNeg = 5 := rfl
  have y0 : fd_isA c 0 0 = true := hA_183' hc (i := 0) (by omega)
  have y5 : fd_isA c 0 5 = true := hA_183' hc (i := 5) (by omega)
  have r0 : M.1 c 0 = nI S.a := hS.2.1
  have r5 : M.1 c 5 = nI S.n := by have := hS.1; rwa [Nat.zero_add] at this
  have ew := s_X12_wayOf hw.1.1 ha hx hw.1.2.2.2.2.2.1 hw.1.2.2.2.2.2.2
  unfold m_X12_canGo b_X12_canGo
  simp [↓wp_ldn, ↓wp_b1, ↓wp_b2, ↓wp_b2z, ↓wp_gf, ↓wp_gd, ↓wp_ga, ↓wp_gl, ↓wp_al2, ↓wp_pi, ↓wp_ltr, ↓wp_ite, ↓wp_and, ↓wp_or, ↓wp_not, ↓wp_cmp, ↓wp_cmz, ↓wp_isn, ↓wp_nsn, ↓wp_a0, ↓wp_a1, ↓wp_cv, ↓wp_cs, ↓wp_dr, ↓wp_sk, ↓wp_brk, ↓wp_cnt, ↓wp_rV, ↓wp_seq, ↓wp_iff, ↓wp_sI, ↓wp_sL, ↓wp_sN, ↓wp_inc, ↓wp_do, ↓wp_rI, ↓wp_rL, ↓wp_rN, ↓wp_rZ, ↓wp_pf, ↓wp_pz, ↓wp_pd, ↓wp_po, ↓wp_pl, ↓wp_pao, ↓wp_tsw, ↓wp_lsw, ↓wp_fn, ↓wq_ld, ↓wq_ldl, ↓wq_lda, ↓wq_c, ↓wq_gr, ↓wq_gq, ↓wq_nn, ↓wq_asI, ↓wq_asL, ↓wq_asN, ↓wq_pa, hO_182, hR_182_0, hF_182_1, hR_182_2, hF_182_3, hR_182_4, hF_182_5, hR_182_6, hR_182_7, hR_182_8, hF_182_9, hF_182_10, hF_182_11, hF_182_12, hR_182_13, hF_182_14, hR_182_15, hF_182_16, hF_182_17, hF_182_18, hF_182_19, hF_182_20, hF_182_21, hF_182_22, hR_182_23, hR_182_24, hF_182_25, hF_182_26, hR_182_27, hR_182_28, hR_182_29, hF_182_30, hF_182_31, hR_182_32, hR_182_33, hF_182_34, hR_182_35, hF_182_36, hF_182_37, hF_182_38, hF_182_39, hF_182_40, hR_182_41, hR_182_42, hR_182_43, hR_182_44, hR_182_45, hR_182_46, hF_182_47, hR_182_48, hR_182_49, hR_182_50, hR_182_51, hR_182_52, hF_182_53, hR_182_54, hR_182_55, hR_182_56, hR_182_57, hF_182_58, hR_182_59, hR_182_60, hR_182_61, fd_p_eq, fd_p_ne, fd_p_lt, fd_p_ge, fd_p_gt, fd_p_le, fd_f_iadd, fd_f_isub, fd_f_imul, fd_f_iand, fd_f_ior, fd_f_ixor, fd_f_ishl, fd_f_ishr, fd_f_iushr, fd_f_ladd, fd_f_lsub, fd_f_lmul, fd_f_lcmp, fd_f_idiv, fd_f_irem, fd_f_ldiv, fd_f_lrem, fd_f_ineg, fd_f_i2l, fd_f_l2i, fd_f_i2b, fd_f_i2s, fd_f_i2c, fd_z_idiv, fd_z_irem, fd_z_ldiv, fd_z_lrem, fd_in0, fd_sl, fd_st1, fd_st2, fd_kl, fd_vI, fd_vL, fd_vN, fd_ok1, fd_v_int, xI, xL, xR, xK, xG, yI, yL, yN, -Prod.exists, y0, y5, z0, z5, r0, r5, fd_run_of ew, fd_run_of (s_X12_walk' hw _)]
  rcases le_cases (nI (w.D S.a x)) (w_wk w (nI S.n)) with ⟨c1, c1'⟩ | ⟨c1, c1'⟩ <;> simp [c1, c1']
/-! telling -/
theorem t_clear (M : fd_M) (P : Value → fd_M → Prop) : fd_run m_X4_clear [.ref 3] M P ↔ P fd_jk (fd_uI M 3 1 0) := fd_run_of (s_X4_clear M)
theorem t_add0 (M : fd_M) (x : Int64) (P : Value → fd_M → Prop) (h : M.1 3 1 = 0) : fd_run m_X4_add [.ref 3, .long x] M P ↔ P fd_jk (fd_uI (fd_uL M 4 0 x) 3 1 1) := fd_run_of (s_X4_add (n := 0) h (by omega) x)
theorem t_add1 (M : fd_M) (x : Int64) (P : Value → fd_M → Prop) (h : M.1 3 1 = 1) : fd_run m_X4_add [.ref 3, .long x] M P ↔ P fd_jk (fd_uI (fd_uL M 4 1 x) 3 1 2) := fd_run_of (s_X4_add (n := 1) h (by omega) x)
theorem t_add2 (M : fd_M) (x : Int64) (P : Value → fd_M → Prop) (h : M.1 3 1 = 2) : fd_run m_X4_add [.ref 3, .long x] M P ↔ P fd_jk (fd_uI (fd_uL M 4 2 x) 3 1 3) := fd_run_of (s_X4_add (n := 2) h (by omega) x)
theorem t_tell0 (M : fd_M) (x : Int64) (P : Value → fd_M → Prop) (h : M.1 182 16 = 0) : fd_run m_X12_tell [.ref 182, .long x] M P ↔ P fd_jk (fd_uI (fd_uL M 190 0 x) 182 16 1) := fd_run_of (s_X12_tell (n := 0) h (by omega) x)
theorem t_tell1 (M : fd_M) (x : Int64) (P : Value → fd_M → Prop) (h : M.1 182 16 = 1) : fd_run m_X12_tell [.ref 182, .long x] M P ↔ P fd_jk (fd_uI (fd_uL M 190 1 x) 182 16 2) := fd_run_of (s_X12_tell (n := 1) h (by omega) x)
theorem t_tell2 (M : fd_M) (x : Int64) (P : Value → fd_M → Prop) (h : M.1 182 16 = 2) : fd_run m_X12_tell [.ref 182, .long x] M P ↔ P fd_jk (fd_uI (fd_uL M 190 2 x) 182 16 3) := fd_run_of (s_X12_tell (n := 2) h (by omega) x)
theorem iv_p.cg {v f nb nb' fi n : Nat} {P : Nat → sto} {M M' : fd_M} (h : iv_p v f nb fi n P M) (hf : f ≤ 8) (hn : nb ≤ nb') (e : ∀ a j, (a = 48 ∨ (52 ≤ a ∧ a ≤ 87)) → M'.1 a j = M.1 a j) : iv_p v f nb' fi n P M' := ⟨h.1, h.2.1, fun i hi => (h.2.2.1 i hi).up hn, by rw [e _ _ (Or.inl rfl)]; exact h.2.2.2.1, by rw [e _ _ (Or.inl rfl)]; exact h.2.2.2.2.1, fun i hi => by
  have hm : (fi + i) % 12 < 12 := Nat.mod_lt _ (by omega)
  exact (h.2.2.2.2.2 i hi).cg hf (fun j _ => e _ _ (Or.inr (by omega))) (fun j _ => e _ _ (Or.inr (by omega))) (fun j _ => e _ _ (Or.inr (by omega)))⟩
theorem iv_q.cg {f n : Nat} {P : Nat → sto} {M M' : fd_M} (h : iv_q f n P M) (hf : f ≤ 8) (e : ∀ j, M'.1 197 j = M.1 197 j) (e2 : M'.1 182 34 = M.1 182 34) : iv_q f n P M' := ⟨by rw [e2]; exact h.1, fun i hi => (h.2 i hi).cg hf (fun j _ => e _)⟩
theorem call_night (d : Int32) : fd_both m_X11_night m_X12_night [.int d] := by
  refine fd_both_of fun c M hc hI => ?_
  obtain ⟨v, f, n, R, D, A, B, U, L, H, N, a1, a2, a3, a4, a5, a6, a7, a8, a9, a10⟩ := hI
  obtain ⟨w, rfl, rfl, rfl, rfl, rfl, rfl, rfl, hw⟩ := wd_of a3 a4 a5 a6
  obtain ⟨S, sk, sc, sm⟩ := a7
  obtain ⟨fi, np, P, pp, pq⟩ := iv_past_of a8
  have hv := hw.1.1
  have hf := hw.2.1.1
  have er := s_X11_refusalToGo hw sc sk.2.1 d
  unfold m_X11_night b_X11_night
  rcases in_or w.v d with h | h
  · obtain ⟨x, hx, rfl⟩ := h
    have ha : S.a < w.v := by have := sk.2.1; omega
    have hx' : ∃ x', x' < w.v ∧ nI x = nI x' := ⟨x, hx, rfl⟩
    by_cases cw : nI (w.D S.a x) ≤ w_wk w (nI S.n)
    · have hx'' : ∃ x', x' < w.v ∧ nI x = nI x' ∧ nI (w.D S.a x') ≤ w_wk w (nI S.n) := ⟨x, hx, rfl, cw⟩
      rw [if_pos hx''] at er
      have hD : w.D S.a x < 1000000 := by
        have q := w_miles_lt hw ha hx
        have q2 := w_wk_lt hw (nI S.n)
        by_cases e : w.D S.a x = 1000000
        · rw [e] at cw
          exact absurd q2 (Int32.not_lt.mpr cw)
        · omega
      have b0 : ¬ (0 : Int32) < 0 := by decide
      simp [↓wp_ldn, ↓wp_b1, ↓wp_b2, ↓wp_b2z, ↓wp_gf, ↓wp_gd, ↓wp_ga, ↓wp_gl, ↓wp_al2, ↓wp_pi, ↓wp_ltr, ↓wp_ite, ↓wp_and, ↓wp_or, ↓wp_not, ↓wp_cmp, ↓wp_cmz, ↓wp_isn, ↓wp_nsn, ↓wp_a0, ↓wp_a1, ↓wp_cv, ↓wp_cs, ↓wp_dr, ↓wp_sk, ↓wp_brk, ↓wp_cnt, ↓wp_rV, ↓wp_seq, ↓wp_iff, ↓wp_sI, ↓wp_sL, ↓wp_sN, ↓wp_inc, ↓wp_do, ↓wp_rI, ↓wp_rL, ↓wp_rN, ↓wp_rZ, ↓wp_pf, ↓wp_pz, ↓wp_pd, ↓wp_po, ↓wp_pl, ↓wp_pao, ↓wp_tsw, ↓wp_lsw, ↓wp_fn, ↓wq_ld, ↓wq_ldl, ↓wq_lda, ↓wq_c, ↓wq_gr, ↓wq_gq, ↓wq_nn, ↓wq_asI, ↓wq_asL, ↓wq_asN, ↓wq_pa, hO_0, hR_0_0, hR_0_1, hR_0_2, hR_0_3, hR_0_4, hR_0_5, hR_0_6, hR_0_7, hR_0_8, hR_0_9, hR_0_10, hR_0_11, hF_0_12, hO_1, hR_1_0, hF_1_1, hF_1_2, hF_1_3, hO_3, hR_3_0, hF_3_1, hO_5, hF_5_0, hF_5_1, hR_5_2, hR_5_3, hR_5_4, hR_5_5, hR_5_6, hR_5_7, hF_5_8, hF_5_9, hO_30, hF_30_0, hF_30_1, hF_30_2, hF_30_3, hO_31, hF_31_0, hF_31_1, hR_31_2, hR_31_3, hR_31_4, hO_35, hR_35_0, hF_35_1, hR_35_2, hF_35_3, hR_35_4, hF_35_5, hF_35_6, hR_35_7, hF_35_8, hR_35_9, hR_35_10, hO_42, hO_45, hO_48, hR_48_0, hF_48_1, hF_48_2, hR_48_3, hR_48_4, hO_94, hR_94_0, hR_94_1, hO_97, hF_97_0, hF_97_1, hF_97_2, hF_97_3, hR_97_4, hR_97_5, hR_97_6, hR_97_7, hR_97_8, hR_97_9, hR_97_10, hR_97_11, hF_97_12, hO_156, hF_156_0, hR_156_1, hR_156_2, hR_156_3, hR_156_4, hR_156_5, hR_156_6, hR_156_7, hR_156_8, fd_p_eq, fd_p_ne, fd_p_lt, fd_p_ge, fd_p_gt, fd_p_le, fd_f_iadd, fd_f_isub, fd_f_imul, fd_f_iand, fd_f_ior, fd_f_ixor, fd_f_ishl, fd_f_ishr, fd_f_iushr, fd_f_ladd, fd_f_lsub, fd_f_lmul, fd_f_lcmp, fd_f_idiv, fd_f_irem, fd_f_ldiv, fd_f_lrem, fd_f_ineg, fd_f_i2l, fd_f_l2i, fd_f_i2b, fd_f_i2s, fd_f_i2c, fd_z_idiv, fd_z_irem, fd_z_ldiv, fd_z_lrem, fd_in0, fd_sl, fd_st1, fd_st2, fd_kl, fd_vI, fd_vL, fd_vN, fd_ok1, fd_v_int, xI, xL, xR, xK, xG, yI, yL, yN, -Prod.exists, fd_run_of er, b0]
      refine fd_run_mono (s_X5_push hf (Or.inl rfl) sc sk pp) (fun _ M1 hp => ?_)
      obtain ⟨⟨fi', pp1⟩, f1⟩ := hp
      have u1 : ∀ a j, a < 48 ∨ 87 < a → M1.1 a j = M.1 a j := fun a j h => f1.1 a j (by unfold pR5; omega)
      have w1 : wd w M1 := hw.cg (f1.sm pR5_cl) (by decide) (by decide) (by decide) (by decide)
      have sc1 : cst w.f 42 S M1 := sc.cg hf (fun j _ => u1 _ _ (by omega)) (fun j _ => u1 _ _ (by omega)) (fun j _ => u1 _ _ (by omega))
      have em := s_X3_miles w1.1.2.1 hv ha hx w1.1.2.2.2.2.2.1 w1.1.2.2.2.2.2.2
      rw [if_neg (by omega)] at em
      simp [↓wp_ldn, ↓wp_b1, ↓wp_b2, ↓wp_b2z, ↓wp_gf, ↓wp_gd, ↓wp_ga, ↓wp_gl, ↓wp_al2, ↓wp_pi, ↓wp_ltr, ↓wp_ite, ↓wp_and, ↓wp_or, ↓wp_not, ↓wp_cmp, ↓wp_cmz, ↓wp_isn, ↓wp_nsn, ↓wp_a0, ↓wp_a1, ↓wp_cv, ↓wp_cs, ↓wp_dr, ↓wp_sk, ↓wp_brk, ↓wp_cnt, ↓wp_rV, ↓wp_seq, ↓wp_iff, ↓wp_sI, ↓wp_sL, ↓wp_sN, ↓wp_inc, ↓wp_do, ↓wp_rI, ↓wp_rL, ↓wp_rN, ↓wp_rZ, ↓wp_pf, ↓wp_pz, ↓wp_pd, ↓wp_po, ↓wp_pl, ↓wp_pao, ↓wp_tsw, ↓wp_lsw, ↓wp_fn, ↓wq_ld, ↓wq_ldl, ↓wq_lda, ↓wq_c, ↓wq_gr, ↓wq_gq, ↓wq_nn, ↓wq_asI, ↓wq_asL, ↓wq_asN, ↓wq_pa, hO_0, hR_0_0, hR_0_1, hR_0_2, hR_0_3, hR_0_4, hR_0_5, hR_0_6, hR_0_7, hR_0_8, hR_0_9, hR_0_10, hR_0_11, hF_0_12, hO_1, hR_1_0, hF_1_1, hF_1_2, hF_1_3, hO_3, hR_3_0, hF_3_1, hO_5, hF_5_0, hF_5_1, hR_5_2, hR_5_3, hR_5_4, hR_5_5, hR_5_6, hR_5_7, hF_5_8, hF_5_9, hO_30, hF_30_0, hF_30_1, hF_30_2, hF_30_3, hO_31, hF_31_0, hF_31_1, hR_31_2, hR_31_3, hR_31_4, hO_35, hR_35_0, hF_35_1, hR_35_2, hF_35_3, hR_35_4, hF_35_5, hF_35_6, hR_35_7, hF_35_8, hR_35_9, hR_35_10, hO_42, hO_45, hO_48, hR_48_0, hF_48_1, hF_48_2, hR_48_3, hR_48_4, hO_94, hR_94_0, hR_94_1, hO_97, hF_97_0, hF_97_1, hF_97_2, hF_97_3, hR_97_4, hR_97_5, hR_97_6, hR_97_7, hR_97_8, hR_97_9, hR_97_10, hR_97_11, hF_97_12, hO_156, hF_156_0, hR_156_1, hR_156_2, hR_156_3, hR_156_4, hR_156_5, hR_156_6, hR_156_7, hR_156_8, fd_p_eq, fd_p_ne, fd_p_lt, fd_p_ge, fd_p_gt, fd_p_le, fd_f_iadd, fd_f_isub, fd_f_imul, fd_f_iand, fd_f_ior, fd_f_ixor, fd_f_ishl, fd_f_ishr, fd_f_iushr, fd_f_ladd, fd_f_lsub, fd_f_lmul, fd_f_lcmp, fd_f_idiv, fd_f_irem, fd_f_ldiv, fd_f_lrem, fd_f_ineg, fd_f_i2l, fd_f_l2i, fd_f_i2b, fd_f_i2s, fd_f_i2c, fd_z_idiv, fd_z_irem, fd_z_ldiv, fd_z_lrem, fd_in0, fd_sl, fd_st1, fd_st2, fd_kl, fd_vI, fd_vL, fd_vN, fd_ok1, fd_v_int, xI, xL, xR, xK, xG, yI, yL, yN, -Prod.exists, show fd_isF 42 10 1 = some 0 from rfl, show fd_isF 42 10 2 = some 0 from rfl, sc1.2.1, sc1.2.2.1, fd_run_of em]
      refine s_X11_spend (Or.inl rfl) w1 sc1 (sk.up (by omega)) hx ha hD (fun M2 q1 q2 q3 q4 => ?_)
      have u2 : ∀ a j, a ≠ 42 → a ≠ 40 → a ≠ 41 → a ≠ 0 → M2.1 a j = M1.1 a j := fun a j h1 h2 h3 h4 => q4.1 a j (by unfold pS pN; omega)
      simp [↓wp_ldn, ↓wp_b1, ↓wp_b2, ↓wp_b2z, ↓wp_gf, ↓wp_gd, ↓wp_ga, ↓wp_gl, ↓wp_al2, ↓wp_pi, ↓wp_ltr, ↓wp_ite, ↓wp_and, ↓wp_or, ↓wp_not, ↓wp_cmp, ↓wp_cmz, ↓wp_isn, ↓wp_nsn, ↓wp_a0, ↓wp_a1, ↓wp_cv, ↓wp_cs, ↓wp_dr, ↓wp_sk, ↓wp_brk, ↓wp_cnt, ↓wp_rV, ↓wp_seq, ↓wp_iff, ↓wp_sI, ↓wp_sL, ↓wp_sN, ↓wp_inc, ↓wp_do, ↓wp_rI, ↓wp_rL, ↓wp_rN, ↓wp_rZ, ↓wp_pf, ↓wp_pz, ↓wp_pd, ↓wp_po, ↓wp_pl, ↓wp_pao, ↓wp_tsw, ↓wp_lsw, ↓wp_fn, ↓wq_ld, ↓wq_ldl, ↓wq_lda, ↓wq_c, ↓wq_gr, ↓wq_gq, ↓wq_nn, ↓wq_asI, ↓wq_asL, ↓wq_asN, ↓wq_pa, hO_0, hR_0_0, hR_0_1, hR_0_2, hR_0_3, hR_0_4, hR_0_5, hR_0_6, hR_0_7, hR_0_8, hR_0_9, hR_0_10, hR_0_11, hF_0_12, hO_1, hR_1_0, hF_1_1, hF_1_2, hF_1_3, hO_3, hR_3_0, hF_3_1, hO_5, hF_5_0, hF_5_1, hR_5_2, hR_5_3, hR_5_4, hR_5_5, hR_5_6, hR_5_7, hF_5_8, hF_5_9, hO_30, hF_30_0, hF_30_1, hF_30_2, hF_30_3, hO_31, hF_31_0, hF_31_1, hR_31_2, hR_31_3, hR_31_4, hO_35, hR_35_0, hF_35_1, hR_35_2, hF_35_3, hR_35_4, hF_35_5, hF_35_6, hR_35_7, hF_35_8, hR_35_9, hR_35_10, hO_42, hO_45, hO_48, hR_48_0, hF_48_1, hF_48_2, hR_48_3, hR_48_4, hO_94, hR_94_0, hR_94_1, hO_97, hF_97_0, hF_97_1, hF_97_2, hF_97_3, hR_97_4, hR_97_5, hR_97_6, hR_97_7, hR_97_8, hR_97_9, hR_97_10, hR_97_11, hF_97_12, hO_156, hF_156_0, hR_156_1, hR_156_2, hR_156_3, hR_156_4, hR_156_5, hR_156_6, hR_156_7, hR_156_8, fd_p_eq, fd_p_ne, fd_p_lt, fd_p_ge, fd_p_gt, fd_p_le, fd_f_iadd, fd_f_isub, fd_f_imul, fd_f_iand, fd_f_ior, fd_f_ixor, fd_f_ishl, fd_f_ishr, fd_f_iushr, fd_f_ladd, fd_f_lsub, fd_f_lmul, fd_f_lcmp, fd_f_idiv, fd_f_irem, fd_f_ldiv, fd_f_lrem, fd_f_ineg, fd_f_i2l, fd_f_l2i, fd_f_i2b, fd_f_i2s, fd_f_i2c, fd_z_idiv, fd_z_irem, fd_z_ldiv, fd_z_lrem, fd_in0, fd_sl, fd_st1, fd_st2, fd_kl, fd_vI, fd_vL, fd_vN, fd_ok1, fd_v_int, xI, xL, xR, xK, xG, yI, yL, yN, -Prod.exists, show fd_isF 42 10 2 = some 0 from rfl, show fd_isF 42 10 7 = some 0 from rfl, t_clear, t_add0, t_add1, t_add2, rd_I, q1.2.2.1, q2]
      exact Nat.zero
    · sorry
  · sorry
