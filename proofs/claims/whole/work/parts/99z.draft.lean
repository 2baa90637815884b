-- FILE 95t.tok
/-! ===== LINES: letters, numbers, signs at a place ===== -/
def nu (ch : Nat → Int32) (l p : Nat) : Nat := (ru_num ch l 2 p 0).1.toNatClampNeg
def ne (ch : Nat → Int32) (l p : Nat) : Nat := (ru_num ch l 2 p 0).2
def lv (ch : Nat → Int32) (p : Nat) : Nat := (ch p - 97).toNatClampNeg
def dv (ch : Nat → Int32) (p : Nat) : Nat := (ch p - 48).toNatClampNeg
def dg (ch : Nat → Int32) (l p : Nat) : Prop := p < l ∧ ru_dig (ch p) = true
def tsg (ch : Nat → Int32) (l p : Nat) (c : Int32) : Prop := p < l ∧ ch p = c
def tl (ch : Nat → Int32) (l p m : Nat) (but : Int32) : Prop := p < l ∧ ∃ c, ch p = nI c ∧ 97 ≤ c ∧ c < 97 + m ∧ nI (c - 97) ≠ but
def td (ch : Nat → Int32) (l p : Nat) : Prop := p < l ∧ ∃ c, ch p = nI c ∧ 49 ≤ c ∧ c < 58
section TK
variable {ch : Nat → Int32} {l p : Nat}
theorem nu_f (hch : ∀ i, i < l → ∃ c, c < 256 ∧ ch i = nI c) (p : Nat) : (ru_num ch l 2 p 0).1 = nI (nu ch l p) ∧ nu ch l p ≤ 99 := by
  obtain ⟨m, h1, h2⟩ := ac_num hch p
  unfold nu
  rw [h1, nI_clamp (by omega)]
  exact ⟨rfl, h2⟩
theorem ne_f (h : dg ch l p) : p < ne ch l p ∧ ne ch l p ≤ l := by
  have h2 : p < l ∧ ru_dig (ch p) = true := h
  unfold ne
  refine ⟨?_, ru_num_le ch l 2 p 0 (by omega)⟩
  show p < (ru_num ch l (1 + 1) p 0).2
  rw [ru_num, if_pos h2]
  have := ru_num_gt ch l 1 (p + 1) (10 * 0 + (ch p - 48))
  omega
theorem lv_f {m : Nat} {but : Int32} (hm : m ≤ 100) (h : tl ch l p m but) : ch p = nI (97 + lv ch p) ∧ lv ch p < m ∧ nI (lv ch p) ≠ but := by
  obtain ⟨h1, c, h2, h3, h4, h5⟩ := h
  have e : lv ch p = c - 97 := by
    unfold lv
    rw [h2, show (97 : Int32) = nI 97 from rfl, nI_sub h3, nI_clamp (by omega)]
  rw [e, h2, show 97 + (c - 97) = c by omega]
  exact ⟨rfl, by omega, h5⟩
theorem dv_f (h : td ch l p) : ch p = nI (48 + dv ch p) ∧ 1 ≤ dv ch p ∧ dv ch p ≤ 9 := by
  obtain ⟨h1, c, h2, h3, h4⟩ := h
  have e : dv ch p = c - 48 := by
    unfold dv
    rw [h2, show (48 : Int32) = nI 48 from rfl, nI_sub (by omega), nI_clamp (by omega)]
  rw [e, h2, show 48 + (c - 48) = c by omega]
  exact ⟨rfl, by omega, by omega⟩
/-! the class -/
variable {t : Nat} {M : fd_M}
theorem cp.l80 (h : cp t l ch M) : l ≤ 80 := by have := h.2.2.1; have := h.2.2.2.1; omega
theorem cp.chs (h : cp t l ch M) : ∀ i, i < l → ∃ c, c < 256 ∧ ch i = nI c := fun i hi => (h.2.2.2.2 i hi).2
theorem cp.uI {k j : Nat} {x : Int32} (h : cp t l ch M) (h1 : k ≠ 1 ∨ (j ≠ 1 ∧ j ≠ 3)) (h2 : k ≠ 2) : cp t l ch (fd_uI M k j x) := h.cg (P := fun a i => a = k ∧ i = j) (fP.uI fP.rf ⟨rfl, rfl⟩) (by omega) (by omega) (fun i => by omega)
theorem xt_let {m : Nat} {but : Int32} (h : cp t l ch M) (hp : M.1 1 2 = nI p) (hm : m ≤ 31) (c : tl ch l p m but) : m_X7_takeLetter [.ref 1, .int (nI m), .int but] M = some (.int (nI (lv ch p)), fd_uI M 1 2 (nI (p + 1))) := by
  obtain ⟨e1, e2, e3⟩ := lv_f (by omega) c
  have := s_X7_takeLetter_t (m := m) (c := 97 + lv ch p) (but := but) h hp c.1 e1 (by omega) (by omega) hm (by rw [show 97 + lv ch p - 97 = lv ch p by omega]; exact e3)
  rwa [show 97 + lv ch p - 97 = lv ch p by omega] at this
theorem xt_letf {m : Nat} {but : Int32} (h : cp t l ch M) (hp : M.1 1 2 = nI p) (hp2 : p < 1000) (hm : m ≤ 31) (c : ¬ tl ch l p m but) : m_X7_takeLetter [.ref 1, .int (nI m), .int but] M = some (.int (-1), M) := s_X7_takeLetter_f h hp hp2 hm c
theorem xt_num (h : cp t l ch M) (hp : M.1 1 2 = nI p) (c : dg ch l p) : m_X7_takeNumber [.ref 1, .int 2] M = some (.int (nI (nu ch l p)), fd_uI M 1 2 (nI (ne ch l p))) := by
  have := s_X7_takeNumber_t h hp c (d := 2) (by omega)
  rw [show nI 2 = (2 : Int32) from rfl, (nu_f h.chs p).1] at this
  exact this
theorem xt_numf (h : cp t l ch M) (hp : M.1 1 2 = nI p) (hp2 : p < 1000) (c : ¬ dg ch l p) (x : Int32) : m_X7_takeNumber [.ref 1, .int x] M = some (.int (-1), M) := s_X7_takeNumber_f h hp hp2 c x
theorem xt_num1 (h : cp t l ch M) (hp : M.1 1 2 = nI p) (c : dg ch l p) : ∃ d, d ≤ 9 ∧ ch p = nI (48 + d) ∧ m_X7_takeNumber [.ref 1, .int 1] M = some (.int (nI d), fd_uI M 1 2 (nI (p + 1))) := by
  have := s_X7_takeNumber_t h hp c (d := 1) (by omega)
  obtain ⟨x, x1, x2⟩ := h.chs p c.1
  have c2 := c.2
  rw [x2] at c2
  have hx := (ru_dig_i x1).mp c2
  have e : ru_num ch l 1 p 0 = (nI (x - 48), p + 1) := by
    rw [ru_num, if_pos (show p < l ∧ ru_dig (ch p) = true from c), x2, show (48 : Int32) = nI 48 from rfl, nI_sub hx.1, show (10 : Int32) * 0 = 0 by decide, Int32.zero_add]
    rfl
  rw [show nI 1 = (1 : Int32) from rfl, e] at this
  exact ⟨x - 48, by omega, by rw [x2, show 48 + (x - 48) = x by omega], this⟩
theorem xt_sg {c : Int32} (h : cp t l ch M) (hp : M.1 1 2 = nI p) (hc : tsg ch l p c) : m_X7_take [.ref 1, .int c] M = some (.int 1, fd_uI M 1 2 (nI (p + 1))) := s_X7_take_t h hp hc.1 hc.2
theorem xt_sgf {c : Int32} (h : cp t l ch M) (hp : M.1 1 2 = nI p) (hp2 : p < 1000) (h1 : c ≠ -1) (hc : ¬ tsg ch l p c) : m_X7_take [.ref 1, .int c] M = some (.int 0, M) := s_X7_take_f h hp hp2 h1 hc
/-! the reference: rows for any memory -/
variable {len top : Nat}
theorem rp_194 (i : Nat) (x : Int32) : rp 189 len top l ch (fd_uI M 194 i x) ↔ rp 189 len top l ch M := by unfold rp; simp [rd_I]
theorem rp_191 (i : Nat) (x : Int32) : rp 189 len top l ch (fd_uI M 191 i x) ↔ rp 189 len top l ch M := by unfold rp; simp [rd_I]
theorem rp_192 (i : Nat) (x : Int32) : rp 189 len top l ch (fd_uI M 192 i x) ↔ rp 189 len top l ch M := by unfold rp; simp [rd_I]
theorem rp_21 (x : Int32) : rp 189 len top l ch (fd_uI M 182 21 x) ↔ rp 189 len top l ch M := by unfold rp; simp [rd_I]
theorem rp_22 (x : Int32) : rp 189 len top l ch (fd_uI M 182 22 x) ↔ rp 189 len top l ch M := by unfold rp; simp [rd_I]
theorem rp_25 (x : Int32) : rp 189 len top l ch (fd_uI M 182 25 x) ↔ rp 189 len top l ch M := by unfold rp; simp [rd_I]
theorem rp_26 (x : Int32) : rp 189 len top l ch (fd_uI M 182 26 x) ↔ rp 189 len top l ch M := by unfold rp; simp [rd_I]
theorem mt_let {m : Nat} {but : Int32} (hm : m ≤ 31) (c : tl ch l p m but) (M : fd_M) (P : Value → fd_M → Prop) (h : rp 189 len top l ch M) (hp : M.1 182 21 = nI p) (hw : M.1 182 22 = -1) : fd_run m_X12_oneOf [.ref 182, .int 97, .int (nI m), .int but] M P ↔ P (.int (nI (lv ch p))) (fd_uI M 182 21 (nI (p + 1))) := by
  obtain ⟨e1, e2, e3⟩ := lv_f (by omega) c
  have := s_X12_oneOf_t h hp c.1 hw (fi := 97) (ma := m) (but := but) e1 (by omega) (by omega) (by omega) (by rw [show 97 + lv ch p - 97 = lv ch p by omega]; exact e3)
  rw [show 97 + lv ch p - 97 = lv ch p by omega, show nI 97 = (97 : Int32) from rfl] at this
  exact fd_run_of this
theorem mt_letf {m : Nat} {but : Int32} (hp2 : p < 1000) (hm : m ≤ 31) (c : ¬ tl ch l p m but) (M : fd_M) (P : Value → fd_M → Prop) (h : rp 189 len top l ch M) (hp : M.1 182 21 = nI p) (hw : M.1 182 22 = -1) : fd_run m_X12_oneOf [.ref 182, .int 97, .int (nI m), .int but] M P ↔ P (.int 0) (fd_uI M 182 22 (nI p)) := by
  have := s_X12_oneOf_f h hp hp2 hw (fi := 97) (ma := m) (but := but) (by omega) (by omega) c
  rw [show nI 97 = (97 : Int32) from rfl] at this
  exact fd_run_of this
theorem mt_td (c : td ch l p) (M : fd_M) (P : Value → fd_M → Prop) (h : rp 189 len top l ch M) (hp : M.1 182 21 = nI p) (hw : M.1 182 22 = -1) : fd_run m_X12_oneOf [.ref 182, .int 49, .int 9, .int (-1)] M P ↔ P (.int (nI (dv ch p - 1))) (fd_uI M 182 21 (nI (p + 1))) := by
  obtain ⟨e1, e2, e3⟩ := dv_f c
  have := s_X12_oneOf_t h hp c.1 hw (fi := 49) (ma := 9) (but := -1) e1 (by omega) (by omega) (by omega) (nI_m1 (by omega))
  rw [show 48 + dv ch p - 49 = dv ch p - 1 by omega, show nI 49 = (49 : Int32) from rfl, show nI 9 = (9 : Int32) from rfl] at this
  exact fd_run_of this
theorem mt_tdf (hp2 : p < 1000) (c : ¬ td ch l p) (M : fd_M) (P : Value → fd_M → Prop) (h : rp 189 len top l ch M) (hp : M.1 182 21 = nI p) (hw : M.1 182 22 = -1) : fd_run m_X12_oneOf [.ref 182, .int 49, .int 9, .int (-1)] M P ↔ P (.int 0) (fd_uI M 182 22 (nI p)) := by
  have := s_X12_oneOf_f h hp hp2 hw (fi := 49) (ma := 9) (but := -1) (by omega) (by omega) (fun ⟨q1, x, q2, q3, q4, _⟩ => c ⟨q1, x, q2, q3, by omega⟩)
  rw [show nI 49 = (49 : Int32) from rfl, show nI 9 = (9 : Int32) from rfl] at this
  exact fd_run_of this
theorem mt_one_x (M : fd_M) (P : Value → fd_M → Prop) (a b c : Int32) (hw : ¬ M.1 182 22 = -1) : fd_run m_X12_oneOf [.ref 182, .int a, .int b, .int c] M P ↔ P (.int 0) M := fd_run_of (s_X12_oneOf_x hw a b c)
theorem mt_num (c : dg ch l p) (M : fd_M) (P : Value → fd_M → Prop) (h : rp 189 len top l ch M) (hp : M.1 182 21 = nI p) (hw : M.1 182 22 = -1) : fd_run m_X12_number [.ref 182, .int 2] M P ↔ P (.int (nI (nu ch l p))) (fd_uI M 182 21 (nI (ne ch l p))) := by
  have := s_X12_number_t h hp c.1 hw c.2 (d := 2) (by omega) (by omega)
  rw [show nI 2 = (2 : Int32) from rfl, (nu_f (fun i hi => h.dig hi) p).1] at this
  exact fd_run_of this
theorem mt_numf (hp2 : p < 1000) (c : ¬ dg ch l p) (M : fd_M) (P : Value → fd_M → Prop) (h : rp 189 len top l ch M) (hp : M.1 182 21 = nI p) (hw : M.1 182 22 = -1) : fd_run m_X12_number [.ref 182, .int 2] M P ↔ P (.int 0) (fd_uI M 182 22 (nI p)) := fd_run_of (s_X12_number2_f h hp hp2 hw c)
theorem mt_num_x (M : fd_M) (P : Value → fd_M → Prop) (x : Int32) (hw : ¬ M.1 182 22 = -1) : fd_run m_X12_number [.ref 182, .int x] M P ↔ P (.int 0) M := by
  refine fd_run_of (fd_of_run ?_)
  unfold m_X12_number b_X12_number
  simp [↓wp_ldn, ↓wp_b1, ↓wp_b2, ↓wp_b2z, ↓wp_gf, ↓wp_gd, ↓wp_ga, ↓wp_gl, ↓wp_al2, ↓wp_pi, ↓wp_ltr, ↓wp_ite, ↓wp_and, ↓wp_or, ↓wp_not, ↓wp_cmp, ↓wp_cmz, ↓wp_isn, ↓wp_nsn, ↓wp_a0, ↓wp_a1, ↓wp_cv, ↓wp_cs, ↓wp_dr, ↓wp_sk, ↓wp_brk, ↓wp_cnt, ↓wp_rV, ↓wp_seq, ↓wp_iff, ↓wp_sI, ↓wp_sL, ↓wp_sN, ↓wp_inc, ↓wp_do, ↓wp_rI, ↓wp_rL, ↓wp_rN, ↓wp_rZ, ↓wp_pf, ↓wp_pz, ↓wp_pd, ↓wp_po, ↓wp_pl, ↓wp_pao, ↓wp_tsw, ↓wp_lsw, ↓wp_fn, ↓wq_ld, ↓wq_ldl, ↓wq_lda, ↓wq_c, ↓wq_gr, ↓wq_gq, ↓wq_nn, ↓wq_asI, ↓wq_asL, ↓wq_asN, ↓wq_pa, hO_182, hR_182_0, hF_182_1, hR_182_2, hF_182_3, hR_182_4, hF_182_5, hR_182_6, hR_182_7, hR_182_8, hF_182_9, hF_182_10, hF_182_11, hF_182_12, hR_182_13, hF_182_14, hR_182_15, hF_182_16, hF_182_17, hF_182_18, hF_182_19, hF_182_20, hF_182_21, hF_182_22, hR_182_23, hR_182_24, hF_182_25, hF_182_26, hR_182_27, hR_182_28, hR_182_29, hF_182_30, hF_182_31, hR_182_32, hR_182_33, hF_182_34, hR_182_35, hF_182_36, hF_182_37, hF_182_38, hF_182_39, hF_182_40, hR_182_41, hR_182_42, hR_182_43, hR_182_44, hR_182_45, hR_182_46, hF_182_47, hR_182_48, hR_182_49, hR_182_50, hR_182_51, hR_182_52, hF_182_53, hR_182_54, hR_182_55, hR_182_56, hR_182_57, hF_182_58, hR_182_59, hR_182_60, hR_182_61, fd_p_eq, fd_p_ne, fd_p_lt, fd_p_ge, fd_p_gt, fd_p_le, fd_f_iadd, fd_f_isub, fd_f_imul, fd_f_iand, fd_f_ior, fd_f_ixor, fd_f_ishl, fd_f_ishr, fd_f_iushr, fd_f_ladd, fd_f_lsub, fd_f_lmul, fd_f_lcmp, fd_f_idiv, fd_f_irem, fd_f_ldiv, fd_f_lrem, fd_f_ineg, fd_f_i2l, fd_f_l2i, fd_f_i2b, fd_f_i2s, fd_f_i2c, fd_z_idiv, fd_z_irem, fd_z_ldiv, fd_z_lrem, fd_in0, fd_sl, fd_st1, fd_st2, fd_kl, fd_vI, fd_vL, fd_vN, fd_ok1, fd_v_int, xI, xL, xR, xK, xG, yI, yL, yN, -Prod.exists, mt_one_x, hw]
  refine wp_for 0 (fun _ σ => σ = ([.ref 182, .int x, .int 0, .int 1], M)) (fd_fu_lt (by omega)) (Nat.le_refl 0) rfl (fun k σ hk _ => absurd hk (Nat.not_lt_zero k)) (fun σ hs => ?_)
  subst hs
  rcases lt_cases 1 x with ⟨c1, c1'⟩ | ⟨c1, c1'⟩ <;> simp [↓wp_ldn, ↓wp_b1, ↓wp_b2, ↓wp_b2z, ↓wp_gf, ↓wp_gd, ↓wp_ga, ↓wp_gl, ↓wp_al2, ↓wp_pi, ↓wp_ltr, ↓wp_ite, ↓wp_and, ↓wp_or, ↓wp_not, ↓wp_cmp, ↓wp_cmz, ↓wp_isn, ↓wp_nsn, ↓wp_a0, ↓wp_a1, ↓wp_cv, ↓wp_cs, ↓wp_dr, ↓wp_sk, ↓wp_brk, ↓wp_cnt, ↓wp_rV, ↓wp_seq, ↓wp_iff, ↓wp_sI, ↓wp_sL, ↓wp_sN, ↓wp_inc, ↓wp_do, ↓wp_rI, ↓wp_rL, ↓wp_rN, ↓wp_rZ, ↓wp_pf, ↓wp_pz, ↓wp_pd, ↓wp_po, ↓wp_pl, ↓wp_pao, ↓wp_tsw, ↓wp_lsw, ↓wp_fn, ↓wq_ld, ↓wq_ldl, ↓wq_lda, ↓wq_c, ↓wq_gr, ↓wq_gq, ↓wq_nn, ↓wq_asI, ↓wq_asL, ↓wq_asN, ↓wq_pa, hO_182, hR_182_0, hF_182_1, hR_182_2, hF_182_3, hR_182_4, hF_182_5, hR_182_6, hR_182_7, hR_182_8, hF_182_9, hF_182_10, hF_182_11, hF_182_12, hR_182_13, hF_182_14, hR_182_15, hF_182_16, hF_182_17, hF_182_18, hF_182_19, hF_182_20, hF_182_21, hF_182_22, hR_182_23, hR_182_24, hF_182_25, hF_182_26, hR_182_27, hR_182_28, hR_182_29, hF_182_30, hF_182_31, hR_182_32, hR_182_33, hF_182_34, hR_182_35, hF_182_36, hF_182_37, hF_182_38, hF_182_39, hF_182_40, hR_182_41, hR_182_42, hR_182_43, hR_182_44, hR_182_45, hR_182_46, hF_182_47, hR_182_48, hR_182_49, hR_182_50, hR_182_51, hR_182_52, hF_182_53, hR_182_54, hR_182_55, hR_182_56, hR_182_57, hF_182_58, hR_182_59, hR_182_60, hR_182_61, fd_p_eq, fd_p_ne, fd_p_lt, fd_p_ge, fd_p_gt, fd_p_le, fd_f_iadd, fd_f_isub, fd_f_imul, fd_f_iand, fd_f_ior, fd_f_ixor, fd_f_ishl, fd_f_ishr, fd_f_iushr, fd_f_ladd, fd_f_lsub, fd_f_lmul, fd_f_lcmp, fd_f_idiv, fd_f_irem, fd_f_ldiv, fd_f_lrem, fd_f_ineg, fd_f_i2l, fd_f_l2i, fd_f_i2b, fd_f_i2s, fd_f_i2c, fd_z_idiv, fd_z_irem, fd_z_ldiv, fd_z_lrem, fd_in0, fd_sl, fd_st1, fd_st2, fd_kl, fd_vI, fd_vL, fd_vN, fd_ok1, fd_v_int, xI, xL, xR, xK, xG, yI, yL, yN, -Prod.exists, c1, c1', fd_run_of (s_X12_fine_f hw)]
theorem mt_sg {c : Int32} (hc : tsg ch l p c) (M : fd_M) (P : Value → fd_M → Prop) (h : rp 189 len top l ch M) (hp : M.1 182 21 = nI p) (hw : M.1 182 22 = -1) : fd_run m_X12_need [.ref 182, .int c] M P ↔ P fd_jk (fd_uI M 182 21 (nI (p + 1))) := fd_run_of (s_X12_need_t h hp hc.1 hw hc.2)
theorem mt_sgf {c : Int32} (hp2 : p < 1000) (h1 : c ≠ -1) (hc : ¬ tsg ch l p c) (M : fd_M) (P : Value → fd_M → Prop) (h : rp 189 len top l ch M) (hp : M.1 182 21 = nI p) (hw : M.1 182 22 = -1) : fd_run m_X12_need [.ref 182, .int c] M P ↔ P fd_jk (fd_uI M 182 22 (nI p)) := fd_run_of (s_X12_need_f h hp hp2 hw h1 hc)
theorem mt_sg_x (M : fd_M) (P : Value → fd_M → Prop) (c : Int32) (hw : ¬ M.1 182 22 = -1) : fd_run m_X12_need [.ref 182, .int c] M P ↔ P fd_jk M := by
  refine fd_run_of (fd_of_run ?_)
  unfold m_X12_need b_X12_need m_X12_passes b_X12_passes
  simp [↓wp_ldn, ↓wp_b1, ↓wp_b2, ↓wp_b2z, ↓wp_gf, ↓wp_gd, ↓wp_ga, ↓wp_gl, ↓wp_al2, ↓wp_pi, ↓wp_ltr, ↓wp_ite, ↓wp_and, ↓wp_or, ↓wp_not, ↓wp_cmp, ↓wp_cmz, ↓wp_isn, ↓wp_nsn, ↓wp_a0, ↓wp_a1, ↓wp_cv, ↓wp_cs, ↓wp_dr, ↓wp_sk, ↓wp_brk, ↓wp_cnt, ↓wp_rV, ↓wp_seq, ↓wp_iff, ↓wp_sI, ↓wp_sL, ↓wp_sN, ↓wp_inc, ↓wp_do, ↓wp_rI, ↓wp_rL, ↓wp_rN, ↓wp_rZ, ↓wp_pf, ↓wp_pz, ↓wp_pd, ↓wp_po, ↓wp_pl, ↓wp_pao, ↓wp_tsw, ↓wp_lsw, ↓wp_fn, ↓wq_ld, ↓wq_ldl, ↓wq_lda, ↓wq_c, ↓wq_gr, ↓wq_gq, ↓wq_nn, ↓wq_asI, ↓wq_asL, ↓wq_asN, ↓wq_pa, hO_182, hR_182_0, hF_182_1, hR_182_2, hF_182_3, hR_182_4, hF_182_5, hR_182_6, hR_182_7, hR_182_8, hF_182_9, hF_182_10, hF_182_11, hF_182_12, hR_182_13, hF_182_14, hR_182_15, hF_182_16, hF_182_17, hF_182_18, hF_182_19, hF_182_20, hF_182_21, hF_182_22, hR_182_23, hR_182_24, hF_182_25, hF_182_26, hR_182_27, hR_182_28, hR_182_29, hF_182_30, hF_182_31, hR_182_32, hR_182_33, hF_182_34, hR_182_35, hF_182_36, hF_182_37, hF_182_38, hF_182_39, hF_182_40, hR_182_41, hR_182_42, hR_182_43, hR_182_44, hR_182_45, hR_182_46, hF_182_47, hR_182_48, hR_182_49, hR_182_50, hR_182_51, hR_182_52, hF_182_53, hR_182_54, hR_182_55, hR_182_56, hR_182_57, hF_182_58, hR_182_59, hR_182_60, hR_182_61, fd_p_eq, fd_p_ne, fd_p_lt, fd_p_ge, fd_p_gt, fd_p_le, fd_f_iadd, fd_f_isub, fd_f_imul, fd_f_iand, fd_f_ior, fd_f_ixor, fd_f_ishl, fd_f_ishr, fd_f_iushr, fd_f_ladd, fd_f_lsub, fd_f_lmul, fd_f_lcmp, fd_f_idiv, fd_f_irem, fd_f_ldiv, fd_f_lrem, fd_f_ineg, fd_f_i2l, fd_f_l2i, fd_f_i2b, fd_f_i2s, fd_f_i2c, fd_z_idiv, fd_z_irem, fd_z_ldiv, fd_z_lrem, fd_in0, fd_sl, fd_st1, fd_st2, fd_kl, fd_vI, fd_vL, fd_vN, fd_ok1, fd_v_int, xI, xL, xR, xK, xG, yI, yL, yN, -Prod.exists, fd_run_of (s_X12_fine_f hw), fd_run_of (s_X12_fault_f hw _)]
theorem mt_nm {x : Nat} (c : dg ch l p) (hx : x ≤ nu ch l p) (M : fd_M) (P : Value → fd_M → Prop) (h : rp 189 len top l ch M) (hp : M.1 182 21 = nI p) (hw : M.1 182 22 = -1) : fd_run m_X12_number_ [.ref 182, .int 2, .int (nI x)] M P ↔ P (.int (nI (nu ch l p))) (fd_uI M 182 21 (nI (ne ch l p))) := by
  refine fd_run_of (fd_of_run ?_)
  have := (nu_f (ch := ch) (l := l) (fun i hi => h.dig hi) p).2
  have b : ¬ nI (nu ch l p) < nI x := nI_nlt hx (by omega)
  have hw' : (fd_uI M 182 21 (nI (ne ch l p))).1 182 22 = -1 := by simp [rd_I]; exact hw
  unfold m_X12_number_ b_X12_number_
  simp [↓wp_ldn, ↓wp_b1, ↓wp_b2, ↓wp_b2z, ↓wp_gf, ↓wp_gd, ↓wp_ga, ↓wp_gl, ↓wp_al2, ↓wp_pi, ↓wp_ltr, ↓wp_ite, ↓wp_and, ↓wp_or, ↓wp_not, ↓wp_cmp, ↓wp_cmz, ↓wp_isn, ↓wp_nsn, ↓wp_a0, ↓wp_a1, ↓wp_cv, ↓wp_cs, ↓wp_dr, ↓wp_sk, ↓wp_brk, ↓wp_cnt, ↓wp_rV, ↓wp_seq, ↓wp_iff, ↓wp_sI, ↓wp_sL, ↓wp_sN, ↓wp_inc, ↓wp_do, ↓wp_rI, ↓wp_rL, ↓wp_rN, ↓wp_rZ, ↓wp_pf, ↓wp_pz, ↓wp_pd, ↓wp_po, ↓wp_pl, ↓wp_pao, ↓wp_tsw, ↓wp_lsw, ↓wp_fn, ↓wq_ld, ↓wq_ldl, ↓wq_lda, ↓wq_c, ↓wq_gr, ↓wq_gq, ↓wq_nn, ↓wq_asI, ↓wq_asL, ↓wq_asN, ↓wq_pa, hO_182, hR_182_0, hF_182_1, hR_182_2, hF_182_3, hR_182_4, hF_182_5, hR_182_6, hR_182_7, hR_182_8, hF_182_9, hF_182_10, hF_182_11, hF_182_12, hR_182_13, hF_182_14, hR_182_15, hF_182_16, hF_182_17, hF_182_18, hF_182_19, hF_182_20, hF_182_21, hF_182_22, hR_182_23, hR_182_24, hF_182_25, hF_182_26, hR_182_27, hR_182_28, hR_182_29, hF_182_30, hF_182_31, hR_182_32, hR_182_33, hF_182_34, hR_182_35, hF_182_36, hF_182_37, hF_182_38, hF_182_39, hF_182_40, hR_182_41, hR_182_42, hR_182_43, hR_182_44, hR_182_45, hR_182_46, hF_182_47, hR_182_48, hR_182_49, hR_182_50, hR_182_51, hR_182_52, hF_182_53, hR_182_54, hR_182_55, hR_182_56, hR_182_57, hF_182_58, hR_182_59, hR_182_60, hR_182_61, fd_p_eq, fd_p_ne, fd_p_lt, fd_p_ge, fd_p_gt, fd_p_le, fd_f_iadd, fd_f_isub, fd_f_imul, fd_f_iand, fd_f_ior, fd_f_ixor, fd_f_ishl, fd_f_ishr, fd_f_iushr, fd_f_ladd, fd_f_lsub, fd_f_lmul, fd_f_lcmp, fd_f_idiv, fd_f_irem, fd_f_ldiv, fd_f_lrem, fd_f_ineg, fd_f_i2l, fd_f_l2i, fd_f_i2b, fd_f_i2s, fd_f_i2c, fd_z_idiv, fd_z_irem, fd_z_ldiv, fd_z_lrem, fd_in0, fd_sl, fd_st1, fd_st2, fd_kl, fd_vI, fd_vL, fd_vN, fd_ok1, fd_v_int, xI, xL, xR, xK, xG, yI, yL, yN, -Prod.exists, mt_num c M _ h hp hw, fd_run_of (s_X12_fine_t hw'), b]
theorem mt_nml {x : Nat} (c : dg ch l p) (hx : nu ch l p < x) (hx2 : x < 1000) (M : fd_M) (P : Value → fd_M → Prop) (h : rp 189 len top l ch M) (hp : M.1 182 21 = nI p) (hw : M.1 182 22 = -1) : fd_run m_X12_number_ [.ref 182, .int 2, .int (nI x)] M P ↔ P (.int (nI (nu ch l p))) (fd_uI (fd_uI M 182 21 (nI (ne ch l p))) 182 22 (nI (ne ch l p - 1))) := by
  refine fd_run_of (fd_of_run ?_)
  have := ne_f c
  have hl := h.l80
  have b : nI (nu ch l p) < nI x := nI_lt hx (by omega)
  have hw' : (fd_uI M 182 21 (nI (ne ch l p))).1 182 22 = -1 := by simp [rd_I]; exact hw
  have e : nI (ne ch l p) - 1 = nI (ne ch l p - 1) := nI_sub (show 1 ≤ ne ch l p by omega)
  unfold m_X12_number_ b_X12_number_
  simp [↓wp_ldn, ↓wp_b1, ↓wp_b2, ↓wp_b2z, ↓wp_gf, ↓wp_gd, ↓wp_ga, ↓wp_gl, ↓wp_al2, ↓wp_pi, ↓wp_ltr, ↓wp_ite, ↓wp_and, ↓wp_or, ↓wp_not, ↓wp_cmp, ↓wp_cmz, ↓wp_isn, ↓wp_nsn, ↓wp_a0, ↓wp_a1, ↓wp_cv, ↓wp_cs, ↓wp_dr, ↓wp_sk, ↓wp_brk, ↓wp_cnt, ↓wp_rV, ↓wp_seq, ↓wp_iff, ↓wp_sI, ↓wp_sL, ↓wp_sN, ↓wp_inc, ↓wp_do, ↓wp_rI, ↓wp_rL, ↓wp_rN, ↓wp_rZ, ↓wp_pf, ↓wp_pz, ↓wp_pd, ↓wp_po, ↓wp_pl, ↓wp_pao, ↓wp_tsw, ↓wp_lsw, ↓wp_fn, ↓wq_ld, ↓wq_ldl, ↓wq_lda, ↓wq_c, ↓wq_gr, ↓wq_gq, ↓wq_nn, ↓wq_asI, ↓wq_asL, ↓wq_asN, ↓wq_pa, hO_182, hR_182_0, hF_182_1, hR_182_2, hF_182_3, hR_182_4, hF_182_5, hR_182_6, hR_182_7, hR_182_8, hF_182_9, hF_182_10, hF_182_11, hF_182_12, hR_182_13, hF_182_14, hR_182_15, hF_182_16, hF_182_17, hF_182_18, hF_182_19, hF_182_20, hF_182_21, hF_182_22, hR_182_23, hR_182_24, hF_182_25, hF_182_26, hR_182_27, hR_182_28, hR_182_29, hF_182_30, hF_182_31, hR_182_32, hR_182_33, hF_182_34, hR_182_35, hF_182_36, hF_182_37, hF_182_38, hF_182_39, hF_182_40, hR_182_41, hR_182_42, hR_182_43, hR_182_44, hR_182_45, hR_182_46, hF_182_47, hR_182_48, hR_182_49, hR_182_50, hR_182_51, hR_182_52, hF_182_53, hR_182_54, hR_182_55, hR_182_56, hR_182_57, hF_182_58, hR_182_59, hR_182_60, hR_182_61, fd_p_eq, fd_p_ne, fd_p_lt, fd_p_ge, fd_p_gt, fd_p_le, fd_f_iadd, fd_f_isub, fd_f_imul, fd_f_iand, fd_f_ior, fd_f_ixor, fd_f_ishl, fd_f_ishr, fd_f_iushr, fd_f_ladd, fd_f_lsub, fd_f_lmul, fd_f_lcmp, fd_f_idiv, fd_f_irem, fd_f_ldiv, fd_f_lrem, fd_f_ineg, fd_f_i2l, fd_f_l2i, fd_f_i2b, fd_f_i2s, fd_f_i2c, fd_z_idiv, fd_z_irem, fd_z_ldiv, fd_z_lrem, fd_in0, fd_sl, fd_st1, fd_st2, fd_kl, fd_vI, fd_vL, fd_vN, fd_ok1, fd_v_int, xI, xL, xR, xK, xG, yI, yL, yN, -Prod.exists, mt_num c M _ h hp hw, fd_run_of (s_X12_fine_t hw'), b, rd_I, e, fd_run_of (s_X12_fault hw' _)]
theorem mt_nmf (hp2 : p < 1000) (c : ¬ dg ch l p) (x : Int32) (M : fd_M) (P : Value → fd_M → Prop) (h : rp 189 len top l ch M) (hp : M.1 182 21 = nI p) (hw : M.1 182 22 = -1) : fd_run m_X12_number_ [.ref 182, .int 2, .int x] M P ↔ P (.int 0) (fd_uI M 182 22 (nI p)) := by
  refine fd_run_of (fd_of_run ?_)
  have hw' : ¬ (fd_uI M 182 22 (nI p)).1 182 22 = -1 := by rw [rd_I, if_pos rfl, if_pos rfl]; exact nI_m1 (by omega)
  unfold m_X12_number_ b_X12_number_
  simp [↓wp_ldn, ↓wp_b1, ↓wp_b2, ↓wp_b2z, ↓wp_gf, ↓wp_gd, ↓wp_ga, ↓wp_gl, ↓wp_al2, ↓wp_pi, ↓wp_ltr, ↓wp_ite, ↓wp_and, ↓wp_or, ↓wp_not, ↓wp_cmp, ↓wp_cmz, ↓wp_isn, ↓wp_nsn, ↓wp_a0, ↓wp_a1, ↓wp_cv, ↓wp_cs, ↓wp_dr, ↓wp_sk, ↓wp_brk, ↓wp_cnt, ↓wp_rV, ↓wp_seq, ↓wp_iff, ↓wp_sI, ↓wp_sL, ↓wp_sN, ↓wp_inc, ↓wp_do, ↓wp_rI, ↓wp_rL, ↓wp_rN, ↓wp_rZ, ↓wp_pf, ↓wp_pz, ↓wp_pd, ↓wp_po, ↓wp_pl, ↓wp_pao, ↓wp_tsw, ↓wp_lsw, ↓wp_fn, ↓wq_ld, ↓wq_ldl, ↓wq_lda, ↓wq_c, ↓wq_gr, ↓wq_gq, ↓wq_nn, ↓wq_asI, ↓wq_asL, ↓wq_asN, ↓wq_pa, hO_182, hR_182_0, hF_182_1, hR_182_2, hF_182_3, hR_182_4, hF_182_5, hR_182_6, hR_182_7, hR_182_8, hF_182_9, hF_182_10, hF_182_11, hF_182_12, hR_182_13, hF_182_14, hR_182_15, hF_182_16, hF_182_17, hF_182_18, hF_182_19, hF_182_20, hF_182_21, hF_182_22, hR_182_23, hR_182_24, hF_182_25, hF_182_26, hR_182_27, hR_182_28, hR_182_29, hF_182_30, hF_182_31, hR_182_32, hR_182_33, hF_182_34, hR_182_35, hF_182_36, hF_182_37, hF_182_38, hF_182_39, hF_182_40, hR_182_41, hR_182_42, hR_182_43, hR_182_44, hR_182_45, hR_182_46, hF_182_47, hR_182_48, hR_182_49, hR_182_50, hR_182_51, hR_182_52, hF_182_53, hR_182_54, hR_182_55, hR_182_56, hR_182_57, hF_182_58, hR_182_59, hR_182_60, hR_182_61, fd_p_eq, fd_p_ne, fd_p_lt, fd_p_ge, fd_p_gt, fd_p_le, fd_f_iadd, fd_f_isub, fd_f_imul, fd_f_iand, fd_f_ior, fd_f_ixor, fd_f_ishl, fd_f_ishr, fd_f_iushr, fd_f_ladd, fd_f_lsub, fd_f_lmul, fd_f_lcmp, fd_f_idiv, fd_f_irem, fd_f_ldiv, fd_f_lrem, fd_f_ineg, fd_f_i2l, fd_f_l2i, fd_f_i2b, fd_f_i2s, fd_f_i2c, fd_z_idiv, fd_z_irem, fd_z_ldiv, fd_z_lrem, fd_in0, fd_sl, fd_st1, fd_st2, fd_kl, fd_vI, fd_vL, fd_vN, fd_ok1, fd_v_int, xI, xL, xR, xK, xG, yI, yL, yN, -Prod.exists, mt_numf hp2 c M _ h hp hw, fd_run_of (s_X12_fine_f hw')]
theorem mt_nm_x (M : fd_M) (P : Value → fd_M → Prop) (x y : Int32) (hw : ¬ M.1 182 22 = -1) : fd_run m_X12_number_ [.ref 182, .int x, .int y] M P ↔ P (.int 0) M := by
  refine fd_run_of (fd_of_run ?_)
  unfold m_X12_number_ b_X12_number_
  simp [↓wp_ldn, ↓wp_b1, ↓wp_b2, ↓wp_b2z, ↓wp_gf, ↓wp_gd, ↓wp_ga, ↓wp_gl, ↓wp_al2, ↓wp_pi, ↓wp_ltr, ↓wp_ite, ↓wp_and, ↓wp_or, ↓wp_not, ↓wp_cmp, ↓wp_cmz, ↓wp_isn, ↓wp_nsn, ↓wp_a0, ↓wp_a1, ↓wp_cv, ↓wp_cs, ↓wp_dr, ↓wp_sk, ↓wp_brk, ↓wp_cnt, ↓wp_rV, ↓wp_seq, ↓wp_iff, ↓wp_sI, ↓wp_sL, ↓wp_sN, ↓wp_inc, ↓wp_do, ↓wp_rI, ↓wp_rL, ↓wp_rN, ↓wp_rZ, ↓wp_pf, ↓wp_pz, ↓wp_pd, ↓wp_po, ↓wp_pl, ↓wp_pao, ↓wp_tsw, ↓wp_lsw, ↓wp_fn, ↓wq_ld, ↓wq_ldl, ↓wq_lda, ↓wq_c, ↓wq_gr, ↓wq_gq, ↓wq_nn, ↓wq_asI, ↓wq_asL, ↓wq_asN, ↓wq_pa, hO_182, hR_182_0, hF_182_1, hR_182_2, hF_182_3, hR_182_4, hF_182_5, hR_182_6, hR_182_7, hR_182_8, hF_182_9, hF_182_10, hF_182_11, hF_182_12, hR_182_13, hF_182_14, hR_182_15, hF_182_16, hF_182_17, hF_182_18, hF_182_19, hF_182_20, hF_182_21, hF_182_22, hR_182_23, hR_182_24, hF_182_25, hF_182_26, hR_182_27, hR_182_28, hR_182_29, hF_182_30, hF_182_31, hR_182_32, hR_182_33, hF_182_34, hR_182_35, hF_182_36, hF_182_37, hF_182_38, hF_182_39, hF_182_40, hR_182_41, hR_182_42, hR_182_43, hR_182_44, hR_182_45, hR_182_46, hF_182_47, hR_182_48, hR_182_49, hR_182_50, hR_182_51, hR_182_52, hF_182_53, hR_182_54, hR_182_55, hR_182_56, hR_182_57, hF_182_58, hR_182_59, hR_182_60, hR_182_61, fd_p_eq, fd_p_ne, fd_p_lt, fd_p_ge, fd_p_gt, fd_p_le, fd_f_iadd, fd_f_isub, fd_f_imul, fd_f_iand, fd_f_ior, fd_f_ixor, fd_f_ishl, fd_f_ishr, fd_f_iushr, fd_f_ladd, fd_f_lsub, fd_f_lmul, fd_f_lcmp, fd_f_idiv, fd_f_irem, fd_f_ldiv, fd_f_lrem, fd_f_ineg, fd_f_i2l, fd_f_l2i, fd_f_i2b, fd_f_i2s, fd_f_i2c, fd_z_idiv, fd_z_irem, fd_z_ldiv, fd_z_lrem, fd_in0, fd_sl, fd_st1, fd_st2, fd_kl, fd_vI, fd_vL, fd_vN, fd_ok1, fd_v_int, xI, xL, xR, xK, xG, yI, yL, yN, -Prod.exists, mt_num_x, hw, fd_run_of (s_X12_fine_f hw)]
end TK
