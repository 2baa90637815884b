/-! ===== the calls learns, second, worth ===== -/
def lrt (t : Nat → Nat) : Nat → Nat
  | 0 => 0
  | k + 1 => lrt t k + t k
def lrb (t : Nat → Nat) : Nat → Nat
  | 0 => 0
  | k + 1 => lrb t k + if 0 < t k then 1 else 0
def lrl (t : Nat → Nat) : Nat → Int32
  | 0 => -1
  | k + 1 => if lrl t k = -1 ∧ 9 ≤ lrt t (k + 1) then nI (k + 1) else lrl t k
theorem lrt_le {t : Nat → Nat} {m : Nat} (h : ∀ k, t k ≤ m) : ∀ k, lrt t k ≤ m * k
  | 0 => Nat.le_refl _
  | k + 1 => by
    have := lrt_le h k
    have := h k
    rw [lrt, Nat.mul_add]
    omega
theorem tunes_pos {w : wl} (hU : ∀ i, i < w.f → 1 ≤ w.U i) {b : Nat} (hb : b < 2 ^ w.f) : 0 < w_tunes w b ↔ b ≠ 0 := by
  have pos : ∀ f i, i < f → (∀ i, i < f → 1 ≤ w.U i) → b.testBit i = true → 0 < sumq (fun i => b.testBit i) w.U f := by
    intro f
    induction f with
    | zero => intro i hi; exact absurd hi (Nat.not_lt_zero i)
    | succ f ih =>
      intro i hi hu hb
      rw [sumq]
      by_cases e : i = f
      · rw [← e, if_pos hb]
        have := hu i (by omega)
        omega
      · have := ih i (by omega) (fun i hi => hu i (by omega)) hb
        omega
  constructor
  · intro h e
    rw [e] at h
    have : ∀ f, sumq (fun i => (0 : Nat).testBit i) w.U f = 0 := fun f => by
      induction f with
      | zero => rfl
      | succ f ih => rw [sumq, ih]; simp
    unfold w_tunes at h
    rw [this] at h
    omega
  · intro h
    by_cases ex : ∃ i, i < w.f ∧ b.testBit i = true
    · obtain ⟨i, h1, h2⟩ := ex
      exact pos w.f i h1 hU h2
    · refine absurd (tb_ext (n := w.f) hb (Nat.two_pow_pos _) fun k hk => ?_) h
      rw [Nat.zero_testBit]
      cases e : b.testBit k
      · rfl
      · exact absurd ⟨k, hk, e⟩ ex
theorem an_or_self (p s : Nat) : an (s ||| p) s = an p s := by
  unfold an
  refine bq_cong fun i _ => ?_
  rw [Nat.testBit_or]
  cases s.testBit i <;> cases p.testBit i <;> rfl
theorem s_X6_playedIn {M : fd_M} {k a b : Nat} (hk : k < 12) (ha : M.1 155 (k + 1) = nI a) (hb : M.1 155 k = nI b) (h8 : a < 2 ^ 8) : m_X6_playedIn [.ref 97, .int (nI (k + 1))] M = some (.int (nI (an a b)), M) := by
  apply fd_of_run
  have c1 : ¬ nI (k + 1) < 1 := nI_nlt (b := 1) (by omega) (by omega)
  have c1' := Int32.not_lt.mp c1
  have c2 : nI (k + 1) ≤ 12 := nI_le (b := 12) (by omega) (by decide)
  have c2' := Int32.not_lt.mpr c2
  unfold m_X6_playedIn b_X6_playedIn
  simp [↓wp_ldn, ↓wp_b1, ↓wp_b2, ↓wp_b2z, ↓wp_gf, ↓wp_gd, ↓wp_ga, ↓wp_gl, ↓wp_al2, ↓wp_pi, ↓wp_ltr, ↓wp_ite, ↓wp_and, ↓wp_or, ↓wp_not, ↓wp_cmp, ↓wp_cmz, ↓wp_isn, ↓wp_nsn, ↓wp_a0, ↓wp_a1, ↓wp_cv, ↓wp_cs, ↓wp_dr, ↓wp_sk, ↓wp_brk, ↓wp_cnt, ↓wp_rV, ↓wp_seq, ↓wp_iff, ↓wp_sI, ↓wp_sL, ↓wp_sN, ↓wp_inc, ↓wp_do, ↓wp_rI, ↓wp_rL, ↓wp_rN, ↓wp_rZ, ↓wp_pf, ↓wp_pz, ↓wp_pd, ↓wp_po, ↓wp_pl, ↓wp_pao, ↓wp_tsw, ↓wp_lsw, ↓wp_fn, ↓wq_ld, ↓wq_ldl, ↓wq_lda, ↓wq_c, ↓wq_gr, ↓wq_gq, ↓wq_nn, ↓wq_asI, ↓wq_asL, ↓wq_asN, ↓wq_pa, hO_0, hR_0_0, hR_0_1, hR_0_2, hR_0_3, hR_0_4, hR_0_5, hR_0_6, hR_0_7, hR_0_8, hR_0_9, hR_0_10, hR_0_11, hF_0_12, hO_1, hR_1_0, hF_1_1, hF_1_2, hF_1_3, hO_3, hR_3_0, hF_3_1, hO_5, hF_5_0, hF_5_1, hR_5_2, hR_5_3, hR_5_4, hR_5_5, hR_5_6, hR_5_7, hF_5_8, hF_5_9, hO_30, hF_30_0, hF_30_1, hF_30_2, hF_30_3, hO_31, hF_31_0, hF_31_1, hR_31_2, hR_31_3, hR_31_4, hO_35, hR_35_0, hF_35_1, hR_35_2, hF_35_3, hR_35_4, hF_35_5, hF_35_6, hR_35_7, hF_35_8, hR_35_9, hR_35_10, hO_42, hO_45, hO_48, hR_48_0, hF_48_1, hF_48_2, hR_48_3, hR_48_4, hO_94, hR_94_0, hR_94_1, hO_97, hF_97_0, hF_97_1, hF_97_2, hF_97_3, hR_97_4, hR_97_5, hR_97_6, hR_97_7, hR_97_8, hR_97_9, hR_97_10, hR_97_11, hF_97_12, hO_156, hF_156_0, hR_156_1, hR_156_2, hR_156_3, hR_156_4, hR_156_5, hR_156_6, hR_156_7, hR_156_8, fd_p_eq, fd_p_ne, fd_p_lt, fd_p_ge, fd_p_gt, fd_p_le, fd_f_iadd, fd_f_isub, fd_f_imul, fd_f_iand, fd_f_ior, fd_f_ixor, fd_f_ishl, fd_f_ishr, fd_f_iushr, fd_f_ladd, fd_f_lsub, fd_f_lmul, fd_f_lcmp, fd_f_idiv, fd_f_irem, fd_f_ldiv, fd_f_lrem, fd_f_ineg, fd_f_i2l, fd_f_l2i, fd_f_i2b, fd_f_i2s, fd_f_i2c, fd_z_idiv, fd_z_irem, fd_z_ldiv, fd_z_lrem, fd_in0, fd_sl, fd_st1, fd_st2, fd_kl, fd_vI, fd_vL, fd_vN, fd_ok1, fd_v_int, xI, xL, xR, xK, xG, yI, yL, yN, -Prod.exists, c1, c1', c2, c2', hA_155 (show k + 1 < 13 by omega), hA_155 (show k < 13 by omega), nI_clamp (show k + 1 < 2 ^ 31 by omega), nI_clamp (show k < 2 ^ 31 by omega), nI_pred, ha, hb, an_not h8]
def le_x : fd_T := (fd_seq (fd_sI 2 (fd_c (0 : Int32))) (fd_seq (fd_sI 3 (fd_c (-1 : Int32))) (fd_seq (fd_sI 4 (fd_c (0 : Int32))) (fd_seq (fd_seq (fd_sI 5 (fd_c (1 : Int32))) (fd_whl (fd_cmp fd_p_le (fd_ld 5) (fd_ld 1)) (fd_seq (fd_sI 6 (fd_as fd_vI (fd_cv 1 1 m_X1_tunesOf (fd_a1 .int (fd_a1 .ref fd_a0 (fd_gr 11 4 (fd_lda 0))) (fd_as fd_vI (fd_cv 6 1 m_X6_playedIn (fd_a1 .int (fd_a1 .ref fd_a0 (fd_gr 11 10 (fd_lda 0))) (fd_ld 5)))))))) (fd_seq (fd_sI 2 (fd_b2 fd_f_iadd (fd_ld 2) (fd_ld 6))) (fd_seq (fd_sI 4 (fd_b2 fd_f_iadd (fd_ld 4) (fd_ite (fd_cmz fd_p_gt (fd_ld 6)) (fd_c (1 : Int32)) (fd_c (0 : Int32))))) (fd_iff (fd_and (fd_cmp fd_p_ge (fd_ld 2) (fd_c (9 : Int32))) (fd_cmp fd_p_eq (fd_ld 3) (fd_c (-1 : Int32)))) (fd_sI 3 (fd_ld 5)) fd_sk)))) (fd_inc 5 (1 : Int32)) fd_fu)) (fd_seq (fd_do (fd_cv 4 0 m_X4_clear (fd_a1 .ref fd_a0 (fd_gr 11 1 (fd_lda 0))))) (fd_seq (fd_do (fd_cv 4 1 m_X4_add (fd_a1 .long (fd_a1 .ref fd_a0 (fd_gr 11 1 (fd_lda 0))) (fd_b1 fd_f_i2l (fd_ld 3))))) (fd_seq (fd_do (fd_cv 4 1 m_X4_add (fd_a1 .long (fd_a1 .ref fd_a0 (fd_gr 11 1 (fd_lda 0))) (fd_b1 fd_f_i2l (fd_ld 4))))) (fd_rI (fd_ld 2)))))))))
theorem le_x_eq : b_X11_learns = (fd_seq (fd_iff (fd_not (fd_cmz fd_p_ne (fd_as fd_vI (fd_cv 11 2 m_X11_canPlan (fd_a1 .int (fd_a1 .int (fd_a1 .ref fd_a0 (fd_lda 0)) (fd_ld 1)) (fd_c (10 : Int32))))))) (fd_rI (fd_c (-1 : Int32))) fd_sk) (fd_seq (fd_do (fd_cv 11 1 m_X11_planRound (fd_a1 .int (fd_a1 .ref fd_a0 (fd_lda 0)) (fd_ld 1)))) le_x)) := rfl
def le_m : fd_T := (fd_seq (fd_sI 2 (fd_ga 0 (fd_gr 12 0 (fd_lda 0)) (fd_c (6 : Int32)))) (fd_seq (fd_sI 3 (fd_c (0 : Int32))) (fd_seq (fd_sI 4 (fd_c (-1 : Int32))) (fd_seq (fd_sI 5 (fd_c (0 : Int32))) (fd_seq (fd_seq (fd_sI 6 (fd_c (0 : Int32))) (fd_whl (fd_cmp fd_p_lt (fd_ld 6) (fd_ld 1)) (fd_seq (fd_sI 7 (fd_b2 fd_f_iand (fd_as fd_vI (fd_cv 12 2 m_X12_playsAt (fd_a1 .int (fd_a1 .int (fd_a1 .ref fd_a0 (fd_lda 0)) (fd_ga 0 (fd_gr 12 46 (fd_lda 0)) (fd_ld 6))) (fd_b2 fd_f_iadd (fd_ga 0 (fd_gr 12 0 (fd_lda 0)) (fd_c (5 : Int32))) (fd_ld 6))))) (fd_b2 fd_f_ixor (fd_ld 2) (fd_c (-1 : Int32))))) (fd_seq (fd_sI 2 (fd_b2 fd_f_ior (fd_ld 2) (fd_ld 7))) (fd_seq (fd_sI 5 (fd_b2 fd_f_iadd (fd_ld 5) (fd_ite (fd_cmz fd_p_eq (fd_ld 7)) (fd_c (0 : Int32)) (fd_c (1 : Int32))))) (fd_seq (fd_seq (fd_sI 8 (fd_c (0 : Int32))) (fd_whl (fd_cmp fd_p_lt (fd_ld 8) (fd_gf 12 5 (fd_lda 0))) (fd_sI 3 (fd_b2 fd_f_iadd (fd_ld 3) (fd_ite (fd_cmz fd_p_ne (fd_as fd_vI (fd_cs 2 m_X12_has (fd_a1 .int (fd_a1 .int fd_a0 (fd_ld 7)) (fd_ld 8))))) (fd_ga 0 (fd_gr 12 8 (fd_lda 0)) (fd_ld 8)) (fd_c (0 : Int32))))) (fd_inc 8 (1 : Int32)) fd_fu)) (fd_iff (fd_and (fd_cmp fd_p_eq (fd_ld 4) (fd_c (-1 : Int32))) (fd_cmp fd_p_ge (fd_ld 3) (fd_c (9 : Int32)))) (fd_sI 4 (fd_b2 fd_f_iadd (fd_ld 6) (fd_c (1 : Int32)))) fd_sk))))) (fd_inc 6 (1 : Int32)) fd_fu)) (fd_seq (fd_pf 12 16 (fd_lda 0) (fd_c (0 : Int32))) (fd_seq (fd_do (fd_cv 12 1 m_X12_tell (fd_a1 .long (fd_a1 .ref fd_a0 (fd_lda 0)) (fd_b1 fd_f_i2l (fd_ld 4))))) (fd_seq (fd_do (fd_cv 12 1 m_X12_tell (fd_a1 .long (fd_a1 .ref fd_a0 (fd_lda 0)) (fd_b1 fd_f_i2l (fd_ld 5))))) (fd_rI (fd_ld 3))))))))))
theorem le_m_eq : b_X12_learns = (fd_seq (fd_pf 12 17 (fd_lda 0) (fd_c (0 : Int32))) (fd_seq (fd_iff (fd_not (fd_cmz fd_p_ne (fd_as fd_vI (fd_cv 12 1 m_X12_canRound (fd_a1 .int (fd_a1 .ref fd_a0 (fd_lda 0)) (fd_ld 1)))))) (fd_rI (fd_c (-1 : Int32))) fd_sk) (fd_seq (fd_do (fd_cv 12 1 m_X12_beginRound (fd_a1 .int (fd_a1 .ref fd_a0 (fd_lda 0)) (fd_c (0 : Int32))))) (fd_seq (fd_do (fd_dr fd_vI (fd_cv 12 3 m_X12_layLine (fd_a1 .int (fd_a1 .int (fd_a1 .int (fd_a1 .ref fd_a0 (fd_lda 0)) (fd_ld 1)) (fd_ga 0 (fd_gr 12 0 (fd_lda 0)) (fd_c (0 : Int32)))) (fd_ga 0 (fd_gr 12 0 (fd_lda 0)) (fd_c (6 : Int32))))))) le_m)))) := rfl
section LE
variable {M : fd_M} {w : wl} {S : sto} {n : Nat} {L : Nat → Nat × Nat}
theorem le_x_wp (hw : wd w M) (hn : n ≤ 10) (hP : pW n L M) (hL : ∀ k, k ≤ n → (L k).2 < 2 ^ w.f) (hLs : ∀ k, k < n → (L (k + 1)).2 = (L k).2 ||| rpl w S S.Y k (L (k + 1)).1) {c2 c3 c4 c5 c6 : Value} {Q : Value → fd_M → Prop} (hQ : ∀ M2, fZ (fun a j => a = 3 ∧ j = 1) (fun a _ => a = 4) M M2 → M2.1 3 1 = 2 → M2.2 4 0 = (lrl (fun k => w_tunes w (an (rpl w S S.Y k (L (k + 1)).1) (L k).2)) n).toInt64 → M2.2 4 1 = (nI (lrb (fun k => w_tunes w (an (rpl w S S.Y k (L (k + 1)).1) (L k).2)) n)).toInt64 → Q (.int (nI (lrt (fun k => w_tunes w (an (rpl w S S.Y k (L (k + 1)).1) (L k).2)) n))) M2) : fd_wp le_x ([.ref 0, .int (nI n), c2, c3, c4, c5, c6], M) (fun z v s => z = 1 ∧ Q v s.2) := by
  have hf := hw.2.1.1
  generalize ht : (fun k => w_tunes w (an (rpl w S S.Y k (L (k + 1)).1) (L k).2)) = t at hQ
  have tb : ∀ k, t k ≤ 72 := fun k => by
    rw [← ht]
    have := sumq_le (p := fun i => (an (rpl w S S.Y k (L (k + 1)).1) (L k).2).testBit i) (g := w.U) (m := 9) (n := w.f) (fun i hi => (hw.2.1.2.2.2 i hi).2.2.2.1)
    show w_tunes w _ ≤ 72
    unfold w_tunes
    omega
  unfold le_x
  simp [↓wp_ldn, ↓wp_b1, ↓wp_b2, ↓wp_b2z, ↓wp_gf, ↓wp_gd, ↓wp_ga, ↓wp_gl, ↓wp_al2, ↓wp_pi, ↓wp_ltr, ↓wp_ite, ↓wp_and, ↓wp_or, ↓wp_not, ↓wp_cmp, ↓wp_cmz, ↓wp_isn, ↓wp_nsn, ↓wp_a0, ↓wp_a1, ↓wp_cv, ↓wp_cs, ↓wp_dr, ↓wp_sk, ↓wp_brk, ↓wp_cnt, ↓wp_rV, ↓wp_seq, ↓wp_iff, ↓wp_sI, ↓wp_sL, ↓wp_sN, ↓wp_inc, ↓wp_do, ↓wp_rI, ↓wp_rL, ↓wp_rN, ↓wp_rZ, ↓wp_pf, ↓wp_pz, ↓wp_pd, ↓wp_po, ↓wp_pl, ↓wp_pao, ↓wp_tsw, ↓wp_lsw, ↓wp_fn, ↓wq_ld, ↓wq_ldl, ↓wq_lda, ↓wq_c, ↓wq_gr, ↓wq_gq, ↓wq_nn, ↓wq_asI, ↓wq_asL, ↓wq_asN, ↓wq_pa, hO_0, hR_0_0, hR_0_1, hR_0_2, hR_0_3, hR_0_4, hR_0_5, hR_0_6, hR_0_7, hR_0_8, hR_0_9, hR_0_10, hR_0_11, hF_0_12, hO_1, hR_1_0, hF_1_1, hF_1_2, hF_1_3, hO_3, hR_3_0, hF_3_1, hO_5, hF_5_0, hF_5_1, hR_5_2, hR_5_3, hR_5_4, hR_5_5, hR_5_6, hR_5_7, hF_5_8, hF_5_9, hO_30, hF_30_0, hF_30_1, hF_30_2, hF_30_3, hO_31, hF_31_0, hF_31_1, hR_31_2, hR_31_3, hR_31_4, hO_35, hR_35_0, hF_35_1, hR_35_2, hF_35_3, hR_35_4, hF_35_5, hF_35_6, hR_35_7, hF_35_8, hR_35_9, hR_35_10, hO_42, hO_45, hO_48, hR_48_0, hF_48_1, hF_48_2, hR_48_3, hR_48_4, hO_94, hR_94_0, hR_94_1, hO_97, hF_97_0, hF_97_1, hF_97_2, hF_97_3, hR_97_4, hR_97_5, hR_97_6, hR_97_7, hR_97_8, hR_97_9, hR_97_10, hR_97_11, hF_97_12, hO_156, hF_156_0, hR_156_1, hR_156_2, hR_156_3, hR_156_4, hR_156_5, hR_156_6, hR_156_7, hR_156_8, fd_p_eq, fd_p_ne, fd_p_lt, fd_p_ge, fd_p_gt, fd_p_le, fd_f_iadd, fd_f_isub, fd_f_imul, fd_f_iand, fd_f_ior, fd_f_ixor, fd_f_ishl, fd_f_ishr, fd_f_iushr, fd_f_ladd, fd_f_lsub, fd_f_lmul, fd_f_lcmp, fd_f_idiv, fd_f_irem, fd_f_ldiv, fd_f_lrem, fd_f_ineg, fd_f_i2l, fd_f_l2i, fd_f_i2b, fd_f_i2s, fd_f_i2c, fd_z_idiv, fd_z_irem, fd_z_ldiv, fd_z_lrem, fd_in0, fd_sl, fd_st1, fd_st2, fd_kl, fd_vI, fd_vL, fd_vN, fd_ok1, fd_v_int, xI, xL, xR, xK, xG, yI, yL, yN, -Prod.exists]
  obtain ⟨J, hJ⟩ : ∃ J : Nat → fd_S → Prop, J = fun k σ => ∃ c6 : Value, σ = ([.ref 0, .int (nI n), .int (nI (lrt t k)), .int (lrl t k), .int (nI (lrb t k)), .int (nI (k + 1)), c6], M) := ⟨_, rfl⟩
  refine wp_for n J (fd_fu_lt (by omega)) (Nat.zero_le _) (by rw [hJ]; exact ⟨_, rfl⟩) (fun k σ hk h => ?_) (fun σ h => ?_)
  · rw [hJ] at h
    obtain ⟨c6, rfl⟩ := h
    have c1 : nI (k + 1) ≤ nI n := nI_le (by omega) (by omega)
    have pi := s_X6_playedIn (k := k) (by omega) (hP.2 (k + 1) (by omega)) (hP.2 k (by omega)) (Nat.lt_of_lt_of_le (hL (k + 1) (by omega)) (Nat.pow_le_pow_right (by decide) hf))
    rw [hLs k hk, an_or_self] at pi
    have et : w_tunes w (an (rpl w S S.Y k (L (k + 1)).1) (L k).2) = t k := by rw [← ht]
    have tu := s_X1_tunesOf hw.2.1 (an (rpl w S S.Y k (L (k + 1)).1) (L k).2)
    rw [et] at tu
    have b1 := tb k
    have b2 := lrt_le tb k
    have bx : lrt t (k + 1) ≤ 72 * (k + 1) := lrt_le tb (k + 1)
    have nx : ∀ x y : Int32, x = lrl t (k + 1) → y = nI (lrb t (k + 1)) → J (k + 1) ([.ref 0, .int (nI n), .int (nI (lrt t k + t k)), .int x, .int y, .int (nI (k + 1 + 1)), .int (nI (t k))], M) := fun x y hx hy => by
      rw [hJ, hx, hy]
      exact ⟨_, rfl⟩
    have e9 : (9 : Int32) ≤ nI (lrt t k + t k) ↔ 9 ≤ lrt t (k + 1) := nI_leI (a := 9) (by decide) (by omega)
    have p0 : (0 : Int32) < nI (t k) ↔ 0 < t k := nI_ltI (a := 0) (by decide) (by omega)
    have el : lrl t (k + 1) = if lrl t k = -1 ∧ 9 ≤ lrt t (k + 1) then nI (k + 1) else lrl t k := rfl
    have eb : lrb t (k + 1) = lrb t k + if 0 < t k then 1 else 0 := rfl
    have go : ∀ y : Int32, y = nI (lrb t (k + 1)) → (if (9 : Int32) ≤ nI (lrt t k + t k) then (if lrl t k = -1 then J (k + 1) ([.ref 0, .int (nI n), .int (nI (lrt t k + t k)), .int (nI (k + 1)), .int y, .int (nI (k + 1 + 1)), .int (nI (t k))], M) else J (k + 1) ([.ref 0, .int (nI n), .int (nI (lrt t k + t k)), .int (lrl t k), .int y, .int (nI (k + 1 + 1)), .int (nI (t k))], M)) else J (k + 1) ([.ref 0, .int (nI n), .int (nI (lrt t k + t k)), .int (lrl t k), .int y, .int (nI (k + 1 + 1)), .int (nI (t k))], M)) := fun y hy => by
      by_cases c : (9 : Int32) ≤ nI (lrt t k + t k)
      · rw [if_pos c]
        by_cases d : lrl t k = -1
        · rw [if_pos d]
          exact nx _ _ (by rw [el, if_pos ⟨d, e9.mp c⟩]) hy
        · rw [if_neg d]
          exact nx _ _ (by rw [el, if_neg (fun z => d z.1)]) hy
      · rw [if_neg c]
        exact nx _ _ (by rw [el, if_neg (fun z => c (e9.mpr z.2))]) hy
    by_cases c : 0 < t k
    · have g := go (nI (lrb t k + 1)) (by rw [eb, if_pos c])
      simp [↓wp_ldn, ↓wp_b1, ↓wp_b2, ↓wp_b2z, ↓wp_gf, ↓wp_gd, ↓wp_ga, ↓wp_gl, ↓wp_al2, ↓wp_pi, ↓wp_ltr, ↓wp_ite, ↓wp_and, ↓wp_or, ↓wp_not, ↓wp_cmp, ↓wp_cmz, ↓wp_isn, ↓wp_nsn, ↓wp_a0, ↓wp_a1, ↓wp_cv, ↓wp_cs, ↓wp_dr, ↓wp_sk, ↓wp_brk, ↓wp_cnt, ↓wp_rV, ↓wp_seq, ↓wp_iff, ↓wp_sI, ↓wp_sL, ↓wp_sN, ↓wp_inc, ↓wp_do, ↓wp_rI, ↓wp_rL, ↓wp_rN, ↓wp_rZ, ↓wp_pf, ↓wp_pz, ↓wp_pd, ↓wp_po, ↓wp_pl, ↓wp_pao, ↓wp_tsw, ↓wp_lsw, ↓wp_fn, ↓wq_ld, ↓wq_ldl, ↓wq_lda, ↓wq_c, ↓wq_gr, ↓wq_gq, ↓wq_nn, ↓wq_asI, ↓wq_asL, ↓wq_asN, ↓wq_pa, hO_0, hR_0_0, hR_0_1, hR_0_2, hR_0_3, hR_0_4, hR_0_5, hR_0_6, hR_0_7, hR_0_8, hR_0_9, hR_0_10, hR_0_11, hF_0_12, hO_1, hR_1_0, hF_1_1, hF_1_2, hF_1_3, hO_3, hR_3_0, hF_3_1, hO_5, hF_5_0, hF_5_1, hR_5_2, hR_5_3, hR_5_4, hR_5_5, hR_5_6, hR_5_7, hF_5_8, hF_5_9, hO_30, hF_30_0, hF_30_1, hF_30_2, hF_30_3, hO_31, hF_31_0, hF_31_1, hR_31_2, hR_31_3, hR_31_4, hO_35, hR_35_0, hF_35_1, hR_35_2, hF_35_3, hR_35_4, hF_35_5, hF_35_6, hR_35_7, hF_35_8, hR_35_9, hR_35_10, hO_42, hO_45, hO_48, hR_48_0, hF_48_1, hF_48_2, hR_48_3, hR_48_4, hO_94, hR_94_0, hR_94_1, hO_97, hF_97_0, hF_97_1, hF_97_2, hF_97_3, hR_97_4, hR_97_5, hR_97_6, hR_97_7, hR_97_8, hR_97_9, hR_97_10, hR_97_11, hF_97_12, hO_156, hF_156_0, hR_156_1, hR_156_2, hR_156_3, hR_156_4, hR_156_5, hR_156_6, hR_156_7, hR_156_8, fd_p_eq, fd_p_ne, fd_p_lt, fd_p_ge, fd_p_gt, fd_p_le, fd_f_iadd, fd_f_isub, fd_f_imul, fd_f_iand, fd_f_ior, fd_f_ixor, fd_f_ishl, fd_f_ishr, fd_f_iushr, fd_f_ladd, fd_f_lsub, fd_f_lmul, fd_f_lcmp, fd_f_idiv, fd_f_irem, fd_f_ldiv, fd_f_lrem, fd_f_ineg, fd_f_i2l, fd_f_l2i, fd_f_i2b, fd_f_i2s, fd_f_i2c, fd_z_idiv, fd_z_irem, fd_z_ldiv, fd_z_lrem, fd_in0, fd_sl, fd_st1, fd_st2, fd_kl, fd_vI, fd_vL, fd_vN, fd_ok1, fd_v_int, xI, xL, xR, xK, xG, yI, yL, yN, -Prod.exists, c1, fd_run_of pi, fd_run_of tu, nI_add, p0.mpr c, nI_1]
      exact g
    · have g := go (nI (lrb t k)) (by rw [eb, if_neg c, Nat.add_zero])
      have p0' := mt p0.mp c
      simp [↓wp_ldn, ↓wp_b1, ↓wp_b2, ↓wp_b2z, ↓wp_gf, ↓wp_gd, ↓wp_ga, ↓wp_gl, ↓wp_al2, ↓wp_pi, ↓wp_ltr, ↓wp_ite, ↓wp_and, ↓wp_or, ↓wp_not, ↓wp_cmp, ↓wp_cmz, ↓wp_isn, ↓wp_nsn, ↓wp_a0, ↓wp_a1, ↓wp_cv, ↓wp_cs, ↓wp_dr, ↓wp_sk, ↓wp_brk, ↓wp_cnt, ↓wp_rV, ↓wp_seq, ↓wp_iff, ↓wp_sI, ↓wp_sL, ↓wp_sN, ↓wp_inc, ↓wp_do, ↓wp_rI, ↓wp_rL, ↓wp_rN, ↓wp_rZ, ↓wp_pf, ↓wp_pz, ↓wp_pd, ↓wp_po, ↓wp_pl, ↓wp_pao, ↓wp_tsw, ↓wp_lsw, ↓wp_fn, ↓wq_ld, ↓wq_ldl, ↓wq_lda, ↓wq_c, ↓wq_gr, ↓wq_gq, ↓wq_nn, ↓wq_asI, ↓wq_asL, ↓wq_asN, ↓wq_pa, hO_0, hR_0_0, hR_0_1, hR_0_2, hR_0_3, hR_0_4, hR_0_5, hR_0_6, hR_0_7, hR_0_8, hR_0_9, hR_0_10, hR_0_11, hF_0_12, hO_1, hR_1_0, hF_1_1, hF_1_2, hF_1_3, hO_3, hR_3_0, hF_3_1, hO_5, hF_5_0, hF_5_1, hR_5_2, hR_5_3, hR_5_4, hR_5_5, hR_5_6, hR_5_7, hF_5_8, hF_5_9, hO_30, hF_30_0, hF_30_1, hF_30_2, hF_30_3, hO_31, hF_31_0, hF_31_1, hR_31_2, hR_31_3, hR_31_4, hO_35, hR_35_0, hF_35_1, hR_35_2, hF_35_3, hR_35_4, hF_35_5, hF_35_6, hR_35_7, hF_35_8, hR_35_9, hR_35_10, hO_42, hO_45, hO_48, hR_48_0, hF_48_1, hF_48_2, hR_48_3, hR_48_4, hO_94, hR_94_0, hR_94_1, hO_97, hF_97_0, hF_97_1, hF_97_2, hF_97_3, hR_97_4, hR_97_5, hR_97_6, hR_97_7, hR_97_8, hR_97_9, hR_97_10, hR_97_11, hF_97_12, hO_156, hF_156_0, hR_156_1, hR_156_2, hR_156_3, hR_156_4, hR_156_5, hR_156_6, hR_156_7, hR_156_8, fd_p_eq, fd_p_ne, fd_p_lt, fd_p_ge, fd_p_gt, fd_p_le, fd_f_iadd, fd_f_isub, fd_f_imul, fd_f_iand, fd_f_ior, fd_f_ixor, fd_f_ishl, fd_f_ishr, fd_f_iushr, fd_f_ladd, fd_f_lsub, fd_f_lmul, fd_f_lcmp, fd_f_idiv, fd_f_irem, fd_f_ldiv, fd_f_lrem, fd_f_ineg, fd_f_i2l, fd_f_l2i, fd_f_i2b, fd_f_i2s, fd_f_i2c, fd_z_idiv, fd_z_irem, fd_z_ldiv, fd_z_lrem, fd_in0, fd_sl, fd_st1, fd_st2, fd_kl, fd_vI, fd_vL, fd_vN, fd_ok1, fd_v_int, xI, xL, xR, xK, xG, yI, yL, yN, -Prod.exists, c1, fd_run_of pi, fd_run_of tu, nI_add, p0', Int32.not_lt.mp p0', nI_1]
      exact g
  · rw [hJ] at h
    obtain ⟨c6, rfl⟩ := h
    have c1 : ¬ nI (n + 1) ≤ nI n := nI_ge (by omega) (by omega)
    simp [↓wp_ldn, ↓wp_b1, ↓wp_b2, ↓wp_b2z, ↓wp_gf, ↓wp_gd, ↓wp_ga, ↓wp_gl, ↓wp_al2, ↓wp_pi, ↓wp_ltr, ↓wp_ite, ↓wp_and, ↓wp_or, ↓wp_not, ↓wp_cmp, ↓wp_cmz, ↓wp_isn, ↓wp_nsn, ↓wp_a0, ↓wp_a1, ↓wp_cv, ↓wp_cs, ↓wp_dr, ↓wp_sk, ↓wp_brk, ↓wp_cnt, ↓wp_rV, ↓wp_seq, ↓wp_iff, ↓wp_sI, ↓wp_sL, ↓wp_sN, ↓wp_inc, ↓wp_do, ↓wp_rI, ↓wp_rL, ↓wp_rN, ↓wp_rZ, ↓wp_pf, ↓wp_pz, ↓wp_pd, ↓wp_po, ↓wp_pl, ↓wp_pao, ↓wp_tsw, ↓wp_lsw, ↓wp_fn, ↓wq_ld, ↓wq_ldl, ↓wq_lda, ↓wq_c, ↓wq_gr, ↓wq_gq, ↓wq_nn, ↓wq_asI, ↓wq_asL, ↓wq_asN, ↓wq_pa, hO_0, hR_0_0, hR_0_1, hR_0_2, hR_0_3, hR_0_4, hR_0_5, hR_0_6, hR_0_7, hR_0_8, hR_0_9, hR_0_10, hR_0_11, hF_0_12, hO_1, hR_1_0, hF_1_1, hF_1_2, hF_1_3, hO_3, hR_3_0, hF_3_1, hO_5, hF_5_0, hF_5_1, hR_5_2, hR_5_3, hR_5_4, hR_5_5, hR_5_6, hR_5_7, hF_5_8, hF_5_9, hO_30, hF_30_0, hF_30_1, hF_30_2, hF_30_3, hO_31, hF_31_0, hF_31_1, hR_31_2, hR_31_3, hR_31_4, hO_35, hR_35_0, hF_35_1, hR_35_2, hF_35_3, hR_35_4, hF_35_5, hF_35_6, hR_35_7, hF_35_8, hR_35_9, hR_35_10, hO_42, hO_45, hO_48, hR_48_0, hF_48_1, hF_48_2, hR_48_3, hR_48_4, hO_94, hR_94_0, hR_94_1, hO_97, hF_97_0, hF_97_1, hF_97_2, hF_97_3, hR_97_4, hR_97_5, hR_97_6, hR_97_7, hR_97_8, hR_97_9, hR_97_10, hR_97_11, hF_97_12, hO_156, hF_156_0, hR_156_1, hR_156_2, hR_156_3, hR_156_4, hR_156_5, hR_156_6, hR_156_7, hR_156_8, fd_p_eq, fd_p_ne, fd_p_lt, fd_p_ge, fd_p_gt, fd_p_le, fd_f_iadd, fd_f_isub, fd_f_imul, fd_f_iand, fd_f_ior, fd_f_ixor, fd_f_ishl, fd_f_ishr, fd_f_iushr, fd_f_ladd, fd_f_lsub, fd_f_lmul, fd_f_lcmp, fd_f_idiv, fd_f_irem, fd_f_ldiv, fd_f_lrem, fd_f_ineg, fd_f_i2l, fd_f_l2i, fd_f_i2b, fd_f_i2s, fd_f_i2c, fd_z_idiv, fd_z_irem, fd_z_ldiv, fd_z_lrem, fd_in0, fd_sl, fd_st1, fd_st2, fd_kl, fd_vI, fd_vL, fd_vN, fd_ok1, fd_v_int, xI, xL, xR, xK, xG, yI, yL, yN, -Prod.exists, c1, t_clear, t_add0, t_add1, rd_I, rd_L1]
    refine hQ _ (fZ.uI (fZ.uL (fZ.uI (fZ.uL (fZ.uI fZ.rf ⟨rfl, rfl⟩) rfl) ⟨rfl, rfl⟩) rfl) ⟨rfl, rfl⟩) ?_ ?_ ?_
    · simp [rd_I]
    · simp [rd_L, rd_I2]
    · simp [rd_L, rd_I2]
theorem le_m_wp (hr : rQ w S (fun _ => 1) S.Y M) (hok : sok w.v w.f 1400000 S) (hn : n ≤ 10) (h204 : ∀ i, i < n → M.1 204 i = nI (L (i + 1)).1) (hL : ∀ k, k ≤ n → (L k).1 < w.v ∧ (L k).2 < 2 ^ w.f) (L0 : (L 0).2 = S.pl) (hLs : ∀ k, k < n → (L (k + 1)).2 = (L k).2 ||| rpl w S S.Y k (L (k + 1)).1) {c2 c3 c4 c5 c6 c7 c8 : Value} {Q : Value → fd_M → Prop} (hQ : ∀ M2, fZ (fun a j => a = 182 ∧ j = 16) (fun a _ => a = 190) M M2 → M2.1 182 16 = 2 → M2.2 190 0 = (lrl (fun k => w_tunes w (an (rpl w S S.Y k (L (k + 1)).1) (L k).2)) n).toInt64 → M2.2 190 1 = (nI (lrb (fun k => w_tunes w (an (rpl w S S.Y k (L (k + 1)).1) (L k).2)) n)).toInt64 → Q (.int (nI (lrt (fun k => w_tunes w (an (rpl w S S.Y k (L (k + 1)).1) (L k).2)) n))) M2) : fd_wp le_m ([.ref 182, .int (nI n), c2, c3, c4, c5, c6, c7, c8], M) (fun z v s => z = 1 ∧ Q v s.2) := by
  have hw := hr.1
  have hf := hw.2.1.1
  have hv := hw.1.1
  generalize ht : (fun k => w_tunes w (an (rpl w S S.Y k (L (k + 1)).1) (L k).2)) = t at hQ
  have tb : ∀ k, t k ≤ 72 := fun k => by
    rw [← ht]
    have := sumq_le (p := fun i => (an (rpl w S S.Y k (L (k + 1)).1) (L k).2).testBit i) (g := w.U) (m := 9) (n := w.f) (fun i hi => (hw.2.1.2.2.2 i hi).2.2.2.1)
    show w_tunes w _ ≤ 72
    unfold w_tunes
    omega
  have y6 : fd_isA 183 0 6 = true := hA_183 (i := 6) (by omega)
  have z6 : (6 : Int32).toNatClampNeg = 6 := rfl
  have y5 : fd_isA 183 0 5 = true := hA_183 (i := 5) (by omega)
  have z5 : (5 : Int32).toNatClampNeg = 5 := rfl
  have k6 : M.1 183 6 = nI S.pl := by have := hr.2.1.2.2.2.2.2.2.1; rwa [Nat.zero_add] at this
  have k5 : M.1 183 5 = nI S.n := by have := hr.2.1.1; rwa [Nat.zero_add] at this
  unfold le_m
  simp [↓wp_ldn, ↓wp_b1, ↓wp_b2, ↓wp_b2z, ↓wp_gf, ↓wp_gd, ↓wp_ga, ↓wp_gl, ↓wp_al2, ↓wp_pi, ↓wp_ltr, ↓wp_ite, ↓wp_and, ↓wp_or, ↓wp_not, ↓wp_cmp, ↓wp_cmz, ↓wp_isn, ↓wp_nsn, ↓wp_a0, ↓wp_a1, ↓wp_cv, ↓wp_cs, ↓wp_dr, ↓wp_sk, ↓wp_brk, ↓wp_cnt, ↓wp_rV, ↓wp_seq, ↓wp_iff, ↓wp_sI, ↓wp_sL, ↓wp_sN, ↓wp_inc, ↓wp_do, ↓wp_rI, ↓wp_rL, ↓wp_rN, ↓wp_rZ, ↓wp_pf, ↓wp_pz, ↓wp_pd, ↓wp_po, ↓wp_pl, ↓wp_pao, ↓wp_tsw, ↓wp_lsw, ↓wp_fn, ↓wq_ld, ↓wq_ldl, ↓wq_lda, ↓wq_c, ↓wq_gr, ↓wq_gq, ↓wq_nn, ↓wq_asI, ↓wq_asL, ↓wq_asN, ↓wq_pa, hO_182, hR_182_0, hF_182_1, hR_182_2, hF_182_3, hR_182_4, hF_182_5, hR_182_6, hR_182_7, hR_182_8, hF_182_9, hF_182_10, hF_182_11, hF_182_12, hR_182_13, hF_182_14, hR_182_15, hF_182_16, hF_182_17, hF_182_18, hF_182_19, hF_182_20, hF_182_21, hF_182_22, hR_182_23, hR_182_24, hF_182_25, hF_182_26, hR_182_27, hR_182_28, hR_182_29, hF_182_30, hF_182_31, hR_182_32, hR_182_33, hF_182_34, hR_182_35, hF_182_36, hF_182_37, hF_182_38, hF_182_39, hF_182_40, hR_182_41, hR_182_42, hR_182_43, hR_182_44, hR_182_45, hR_182_46, hF_182_47, hR_182_48, hR_182_49, hR_182_50, hR_182_51, hR_182_52, hF_182_53, hR_182_54, hR_182_55, hR_182_56, hR_182_57, hF_182_58, hR_182_59, hR_182_60, hR_182_61, fd_p_eq, fd_p_ne, fd_p_lt, fd_p_ge, fd_p_gt, fd_p_le, fd_f_iadd, fd_f_isub, fd_f_imul, fd_f_iand, fd_f_ior, fd_f_ixor, fd_f_ishl, fd_f_ishr, fd_f_iushr, fd_f_ladd, fd_f_lsub, fd_f_lmul, fd_f_lcmp, fd_f_idiv, fd_f_irem, fd_f_ldiv, fd_f_lrem, fd_f_ineg, fd_f_i2l, fd_f_l2i, fd_f_i2b, fd_f_i2s, fd_f_i2c, fd_z_idiv, fd_z_irem, fd_z_ldiv, fd_z_lrem, fd_in0, fd_sl, fd_st1, fd_st2, fd_kl, fd_vI, fd_vL, fd_vN, fd_ok1, fd_v_int, xI, xL, xR, xK, xG, yI, yL, yN, -Prod.exists, y6, z6, k6]
  obtain ⟨J, hJ⟩ : ∃ J : Nat → fd_S → Prop, J = fun k σ => ∃ c7 c8 : Value, σ = ([.ref 182, .int (nI n), .int (nI (L k).2), .int (nI (lrt t k)), .int (lrl t k), .int (nI (lrb t k)), .int (nI k), c7, c8], M) := ⟨_, rfl⟩
  refine wp_for n J (fd_fu_lt (by omega)) (Nat.zero_le _) (by rw [hJ]; dsimp only; rw [L0]; exact ⟨_, _, rfl⟩) (fun k σ hk h => ?_) (fun σ h => ?_)
  · rw [hJ] at h
    obtain ⟨c7, c8, rfl⟩ := h
    have c1 : nI k < nI n := nI_lt hk (by omega)
    have ep := s_X12_playsAt (k := k) (q := (L (k + 1)).1) hr.1 hr.2.1 hok hr.2.2.1 (by omega) (by have := (hL (k + 1) (by omega)).1; omega)
    have p8 := rpl_lt8 (w := w) (S := S) (Y := S.Y) hf k (L (k + 1)).1
    obtain ⟨th, hth⟩ : ∃ th, th = an (rpl w S S.Y k (L (k + 1)).1) (L k).2 := ⟨_, rfl⟩
    have et : w_tunes w th = t k := by rw [← ht, hth]
    have thl : th < 2 ^ w.f := by
      rw [hth]
      refine Nat.lt_pow_two_of_testBit _ fun i hi => ?_
      rw [an_tb, Nat.testBit_lt_two_pow (Nat.lt_of_lt_of_le (rpl_lt w S S.Y k (L (k + 1)).1) (Nat.pow_le_pow_right (by decide) hi))]
      simp
    have l256 := p256 hf
    have es : nI (L k).2 ||| nI th = nI (L (k + 1)).2 := by rw [hth, fa_or, or_an p8, hLs k hk]
    have tp := tunes_pos (w := w) (fun i hi => (hw.2.1.2.2.2 i hi).2.2.1) thl
    rw [et] at tp
    have b1 := tb k
    have b2 := lrt_le tb k
    have bx : lrt t (k + 1) ≤ 72 * (k + 1) := lrt_le tb (k + 1)
    have e9 : (9 : Int32) ≤ nI (lrt t k + t k) ↔ 9 ≤ lrt t (k + 1) := nI_leI (a := 9) (by decide) (by omega)
    have el : lrl t (k + 1) = if lrl t k = -1 ∧ 9 ≤ lrt t (k + 1) then nI (k + 1) else lrl t k := rfl
    have eb : lrb t (k + 1) = lrb t k + if 0 < t k then 1 else 0 := rfl
    -- the loop over the feasts, and behind it
    have inner : ∀ y : Int32, y = nI (lrb t (k + 1)) → fd_wp (fd_whl (fd_cmp fd_p_lt (fd_ld 8) (fd_gf 12 5 (fd_lda 0))) (fd_sI 3 (fd_b2 fd_f_iadd (fd_ld 3) (fd_ite (fd_cmz fd_p_ne (fd_as fd_vI (fd_cs 2 m_X12_has (fd_a1 .int (fd_a1 .int fd_a0 (fd_ld 7)) (fd_ld 8))))) (fd_ga 0 (fd_gr 12 8 (fd_lda 0)) (fd_ld 8)) (fd_c (0 : Int32))))) (fd_inc 8 (1 : Int32)) fd_fu) ([.ref 182, .int (nI n), .int (nI (L (k + 1)).2), .int (nI (lrt t k)), .int (lrl t k), .int y, .int (nI k), .int (nI th), .int 0], M) (fun z v s => z = 0 ∧ s = ([.ref 182, .int (nI n), .int (nI (L (k + 1)).2), .int (nI (lrt t k + t k)), .int (lrl t k), .int y, .int (nI k), .int (nI th), .int (nI w.f)], M)) := fun y hy => by
      refine wp_for w.f (fun i σ => σ = ([.ref 182, .int (nI n), .int (nI (L (k + 1)).2), .int (nI (lrt t k + sumq (fun i => th.testBit i) w.U i)), .int (lrl t k), .int y, .int (nI k), .int (nI th), .int (nI i)], M)) (fd_fu_lt (by omega)) (Nat.zero_le _) rfl (fun i σ hi h => ?_) (fun σ h => ?_)
      · subst h
        have d1 : nI i < nI w.f := nI_lt hi (by omega)
        have eh := s_X12_hasN (b := th) (show i < 31 by omega) M
        have k188 := (hw.2.1.2.2.2 i hi).2.2.2.2.2.2.2.2.2
        by_cases c : th.testBit i = true
        · rw [if_pos c] at eh
          simp [↓wp_ldn, ↓wp_b1, ↓wp_b2, ↓wp_b2z, ↓wp_gf, ↓wp_gd, ↓wp_ga, ↓wp_gl, ↓wp_al2, ↓wp_pi, ↓wp_ltr, ↓wp_ite, ↓wp_and, ↓wp_or, ↓wp_not, ↓wp_cmp, ↓wp_cmz, ↓wp_isn, ↓wp_nsn, ↓wp_a0, ↓wp_a1, ↓wp_cv, ↓wp_cs, ↓wp_dr, ↓wp_sk, ↓wp_brk, ↓wp_cnt, ↓wp_rV, ↓wp_seq, ↓wp_iff, ↓wp_sI, ↓wp_sL, ↓wp_sN, ↓wp_inc, ↓wp_do, ↓wp_rI, ↓wp_rL, ↓wp_rN, ↓wp_rZ, ↓wp_pf, ↓wp_pz, ↓wp_pd, ↓wp_po, ↓wp_pl, ↓wp_pao, ↓wp_tsw, ↓wp_lsw, ↓wp_fn, ↓wq_ld, ↓wq_ldl, ↓wq_lda, ↓wq_c, ↓wq_gr, ↓wq_gq, ↓wq_nn, ↓wq_asI, ↓wq_asL, ↓wq_asN, ↓wq_pa, hO_182, hR_182_0, hF_182_1, hR_182_2, hF_182_3, hR_182_4, hF_182_5, hR_182_6, hR_182_7, hR_182_8, hF_182_9, hF_182_10, hF_182_11, hF_182_12, hR_182_13, hF_182_14, hR_182_15, hF_182_16, hF_182_17, hF_182_18, hF_182_19, hF_182_20, hF_182_21, hF_182_22, hR_182_23, hR_182_24, hF_182_25, hF_182_26, hR_182_27, hR_182_28, hR_182_29, hF_182_30, hF_182_31, hR_182_32, hR_182_33, hF_182_34, hR_182_35, hF_182_36, hF_182_37, hF_182_38, hF_182_39, hF_182_40, hR_182_41, hR_182_42, hR_182_43, hR_182_44, hR_182_45, hR_182_46, hF_182_47, hR_182_48, hR_182_49, hR_182_50, hR_182_51, hR_182_52, hF_182_53, hR_182_54, hR_182_55, hR_182_56, hR_182_57, hF_182_58, hR_182_59, hR_182_60, hR_182_61, fd_p_eq, fd_p_ne, fd_p_lt, fd_p_ge, fd_p_gt, fd_p_le, fd_f_iadd, fd_f_isub, fd_f_imul, fd_f_iand, fd_f_ior, fd_f_ixor, fd_f_ishl, fd_f_ishr, fd_f_iushr, fd_f_ladd, fd_f_lsub, fd_f_lmul, fd_f_lcmp, fd_f_idiv, fd_f_irem, fd_f_ldiv, fd_f_lrem, fd_f_ineg, fd_f_i2l, fd_f_l2i, fd_f_i2b, fd_f_i2s, fd_f_i2c, fd_z_idiv, fd_z_irem, fd_z_ldiv, fd_z_lrem, fd_in0, fd_sl, fd_st1, fd_st2, fd_kl, fd_vI, fd_vL, fd_vN, fd_ok1, fd_v_int, xI, xL, xR, xK, xG, yI, yL, yN, -Prod.exists, hw.2.1.2.2.1, d1, fd_run_of eh, hA_188 (show i < 8 by omega), nI_clamp (show i < 2 ^ 31 by omega), k188, nI_add, nI_1, sumq, c, Nat.add_assoc]
        · rw [if_neg c] at eh
          simp [↓wp_ldn, ↓wp_b1, ↓wp_b2, ↓wp_b2z, ↓wp_gf, ↓wp_gd, ↓wp_ga, ↓wp_gl, ↓wp_al2, ↓wp_pi, ↓wp_ltr, ↓wp_ite, ↓wp_and, ↓wp_or, ↓wp_not, ↓wp_cmp, ↓wp_cmz, ↓wp_isn, ↓wp_nsn, ↓wp_a0, ↓wp_a1, ↓wp_cv, ↓wp_cs, ↓wp_dr, ↓wp_sk, ↓wp_brk, ↓wp_cnt, ↓wp_rV, ↓wp_seq, ↓wp_iff, ↓wp_sI, ↓wp_sL, ↓wp_sN, ↓wp_inc, ↓wp_do, ↓wp_rI, ↓wp_rL, ↓wp_rN, ↓wp_rZ, ↓wp_pf, ↓wp_pz, ↓wp_pd, ↓wp_po, ↓wp_pl, ↓wp_pao, ↓wp_tsw, ↓wp_lsw, ↓wp_fn, ↓wq_ld, ↓wq_ldl, ↓wq_lda, ↓wq_c, ↓wq_gr, ↓wq_gq, ↓wq_nn, ↓wq_asI, ↓wq_asL, ↓wq_asN, ↓wq_pa, hO_182, hR_182_0, hF_182_1, hR_182_2, hF_182_3, hR_182_4, hF_182_5, hR_182_6, hR_182_7, hR_182_8, hF_182_9, hF_182_10, hF_182_11, hF_182_12, hR_182_13, hF_182_14, hR_182_15, hF_182_16, hF_182_17, hF_182_18, hF_182_19, hF_182_20, hF_182_21, hF_182_22, hR_182_23, hR_182_24, hF_182_25, hF_182_26, hR_182_27, hR_182_28, hR_182_29, hF_182_30, hF_182_31, hR_182_32, hR_182_33, hF_182_34, hR_182_35, hF_182_36, hF_182_37, hF_182_38, hF_182_39, hF_182_40, hR_182_41, hR_182_42, hR_182_43, hR_182_44, hR_182_45, hR_182_46, hF_182_47, hR_182_48, hR_182_49, hR_182_50, hR_182_51, hR_182_52, hF_182_53, hR_182_54, hR_182_55, hR_182_56, hR_182_57, hF_182_58, hR_182_59, hR_182_60, hR_182_61, fd_p_eq, fd_p_ne, fd_p_lt, fd_p_ge, fd_p_gt, fd_p_le, fd_f_iadd, fd_f_isub, fd_f_imul, fd_f_iand, fd_f_ior, fd_f_ixor, fd_f_ishl, fd_f_ishr, fd_f_iushr, fd_f_ladd, fd_f_lsub, fd_f_lmul, fd_f_lcmp, fd_f_idiv, fd_f_irem, fd_f_ldiv, fd_f_lrem, fd_f_ineg, fd_f_i2l, fd_f_l2i, fd_f_i2b, fd_f_i2s, fd_f_i2c, fd_z_idiv, fd_z_irem, fd_z_ldiv, fd_z_lrem, fd_in0, fd_sl, fd_st1, fd_st2, fd_kl, fd_vI, fd_vL, fd_vN, fd_ok1, fd_v_int, xI, xL, xR, xK, xG, yI, yL, yN, -Prod.exists, hw.2.1.2.2.1, d1, fd_run_of eh, nI_1, sumq, c]
      · subst h
        have eu : sumq (fun i => th.testBit i) w.U w.f = t k := by rw [← et]; rfl
        simp [↓wp_ldn, ↓wp_b1, ↓wp_b2, ↓wp_b2z, ↓wp_gf, ↓wp_gd, ↓wp_ga, ↓wp_gl, ↓wp_al2, ↓wp_pi, ↓wp_ltr, ↓wp_ite, ↓wp_and, ↓wp_or, ↓wp_not, ↓wp_cmp, ↓wp_cmz, ↓wp_isn, ↓wp_nsn, ↓wp_a0, ↓wp_a1, ↓wp_cv, ↓wp_cs, ↓wp_dr, ↓wp_sk, ↓wp_brk, ↓wp_cnt, ↓wp_rV, ↓wp_seq, ↓wp_iff, ↓wp_sI, ↓wp_sL, ↓wp_sN, ↓wp_inc, ↓wp_do, ↓wp_rI, ↓wp_rL, ↓wp_rN, ↓wp_rZ, ↓wp_pf, ↓wp_pz, ↓wp_pd, ↓wp_po, ↓wp_pl, ↓wp_pao, ↓wp_tsw, ↓wp_lsw, ↓wp_fn, ↓wq_ld, ↓wq_ldl, ↓wq_lda, ↓wq_c, ↓wq_gr, ↓wq_gq, ↓wq_nn, ↓wq_asI, ↓wq_asL, ↓wq_asN, ↓wq_pa, hO_182, hR_182_0, hF_182_1, hR_182_2, hF_182_3, hR_182_4, hF_182_5, hR_182_6, hR_182_7, hR_182_8, hF_182_9, hF_182_10, hF_182_11, hF_182_12, hR_182_13, hF_182_14, hR_182_15, hF_182_16, hF_182_17, hF_182_18, hF_182_19, hF_182_20, hF_182_21, hF_182_22, hR_182_23, hR_182_24, hF_182_25, hF_182_26, hR_182_27, hR_182_28, hR_182_29, hF_182_30, hF_182_31, hR_182_32, hR_182_33, hF_182_34, hR_182_35, hF_182_36, hF_182_37, hF_182_38, hF_182_39, hF_182_40, hR_182_41, hR_182_42, hR_182_43, hR_182_44, hR_182_45, hR_182_46, hF_182_47, hR_182_48, hR_182_49, hR_182_50, hR_182_51, hR_182_52, hF_182_53, hR_182_54, hR_182_55, hR_182_56, hR_182_57, hF_182_58, hR_182_59, hR_182_60, hR_182_61, fd_p_eq, fd_p_ne, fd_p_lt, fd_p_ge, fd_p_gt, fd_p_le, fd_f_iadd, fd_f_isub, fd_f_imul, fd_f_iand, fd_f_ior, fd_f_ixor, fd_f_ishl, fd_f_ishr, fd_f_iushr, fd_f_ladd, fd_f_lsub, fd_f_lmul, fd_f_lcmp, fd_f_idiv, fd_f_irem, fd_f_ldiv, fd_f_lrem, fd_f_ineg, fd_f_i2l, fd_f_l2i, fd_f_i2b, fd_f_i2s, fd_f_i2c, fd_z_idiv, fd_z_irem, fd_z_ldiv, fd_z_lrem, fd_in0, fd_sl, fd_st1, fd_st2, fd_kl, fd_vI, fd_vL, fd_vN, fd_ok1, fd_v_int, xI, xL, xR, xK, xG, yI, yL, yN, -Prod.exists, hw.2.1.2.2.1, lt_self, eu]
    have nx : ∀ x y : Int32, x = lrl t (k + 1) → y = nI (lrb t (k + 1)) → J (k + 1) ([.ref 182, .int (nI n), .int (nI (L (k + 1)).2), .int (nI (lrt t k + t k)), .int x, .int y, .int (nI (k + 1)), .int (nI th), .int (nI w.f)], M) := fun x y hx hy => by
      rw [hJ, hx, hy]
      exact ⟨_, _, rfl⟩
    have e5 := hw.2.1.2.2.1
    have go : ∀ y : Int32, y = nI (lrb t (k + 1)) → (if lrl t k = -1 then (if (9 : Int32) ≤ nI (lrt t k + t k) then J (k + 1) ([.ref 182, .int (nI n), .int (nI (L (k + 1)).2), .int (nI (lrt t k + t k)), .int (nI (k + 1)), .int y, .int (nI (k + 1)), .int (nI th), .int (nI w.f)], M) else J (k + 1) ([.ref 182, .int (nI n), .int (nI (L (k + 1)).2), .int (nI (lrt t k + t k)), .int (lrl t k), .int y, .int (nI (k + 1)), .int (nI th), .int (nI w.f)], M)) else J (k + 1) ([.ref 182, .int (nI n), .int (nI (L (k + 1)).2), .int (nI (lrt t k + t k)), .int (lrl t k), .int y, .int (nI (k + 1)), .int (nI th), .int (nI w.f)], M)) := fun y hy => by
      by_cases d : lrl t k = -1
      · rw [if_pos d]
        by_cases c : (9 : Int32) ≤ nI (lrt t k + t k)
        · rw [if_pos c]
          exact nx _ _ (by rw [el, if_pos ⟨d, e9.mp c⟩]) hy
        · rw [if_neg c]
          exact nx _ _ (by rw [el, if_neg (fun z => c (e9.mpr z.2))]) hy
      · rw [if_neg d]
        exact nx _ _ (by rw [el, if_neg (fun z => d z.1)]) hy
    by_cases c : th = 0
    · have e0 : nI th = 0 := by rw [c]; rfl
      have hy : nI (lrb t k) = nI (lrb t (k + 1)) := by rw [eb, if_neg (fun z => (tp.mp z) c), Nat.add_zero]
      have inn := inner _ hy
      have g := go _ hy
      rw [e0] at inn g es
      simp [↓wp_ldn, ↓wp_b1, ↓wp_b2, ↓wp_b2z, ↓wp_gf, ↓wp_gd, ↓wp_ga, ↓wp_gl, ↓wp_al2, ↓wp_pi, ↓wp_ltr, ↓wp_ite, ↓wp_and, ↓wp_or, ↓wp_not, ↓wp_cmp, ↓wp_cmz, ↓wp_isn, ↓wp_nsn, ↓wp_a0, ↓wp_a1, ↓wp_cv, ↓wp_cs, ↓wp_dr, ↓wp_sk, ↓wp_brk, ↓wp_cnt, ↓wp_rV, ↓wp_seq, ↓wp_iff, ↓wp_sI, ↓wp_sL, ↓wp_sN, ↓wp_inc, ↓wp_do, ↓wp_rI, ↓wp_rL, ↓wp_rN, ↓wp_rZ, ↓wp_pf, ↓wp_pz, ↓wp_pd, ↓wp_po, ↓wp_pl, ↓wp_pao, ↓wp_tsw, ↓wp_lsw, ↓wp_fn, ↓wq_ld, ↓wq_ldl, ↓wq_lda, ↓wq_c, ↓wq_gr, ↓wq_gq, ↓wq_nn, ↓wq_asI, ↓wq_asL, ↓wq_asN, ↓wq_pa, hO_182, hR_182_0, hF_182_1, hR_182_2, hF_182_3, hR_182_4, hF_182_5, hR_182_6, hR_182_7, hR_182_8, hF_182_9, hF_182_10, hF_182_11, hF_182_12, hR_182_13, hF_182_14, hR_182_15, hF_182_16, hF_182_17, hF_182_18, hF_182_19, hF_182_20, hF_182_21, hF_182_22, hR_182_23, hR_182_24, hF_182_25, hF_182_26, hR_182_27, hR_182_28, hR_182_29, hF_182_30, hF_182_31, hR_182_32, hR_182_33, hF_182_34, hR_182_35, hF_182_36, hF_182_37, hF_182_38, hF_182_39, hF_182_40, hR_182_41, hR_182_42, hR_182_43, hR_182_44, hR_182_45, hR_182_46, hF_182_47, hR_182_48, hR_182_49, hR_182_50, hR_182_51, hR_182_52, hF_182_53, hR_182_54, hR_182_55, hR_182_56, hR_182_57, hF_182_58, hR_182_59, hR_182_60, hR_182_61, fd_p_eq, fd_p_ne, fd_p_lt, fd_p_ge, fd_p_gt, fd_p_le, fd_f_iadd, fd_f_isub, fd_f_imul, fd_f_iand, fd_f_ior, fd_f_ixor, fd_f_ishl, fd_f_ishr, fd_f_iushr, fd_f_ladd, fd_f_lsub, fd_f_lmul, fd_f_lcmp, fd_f_idiv, fd_f_irem, fd_f_ldiv, fd_f_lrem, fd_f_ineg, fd_f_i2l, fd_f_l2i, fd_f_i2b, fd_f_i2s, fd_f_i2c, fd_z_idiv, fd_z_irem, fd_z_ldiv, fd_z_lrem, fd_in0, fd_sl, fd_st1, fd_st2, fd_kl, fd_vI, fd_vL, fd_vN, fd_ok1, fd_v_int, xI, xL, xR, xK, xG, yI, yL, yN, -Prod.exists, c1, hA_204 (show k < 10 by omega), nI_clamp (show k < 2 ^ 31 by omega), h204 k hk, y5, z5, k5, nI_add, fd_run_of ep, an_not p8, ← hth, e0]
      simp at es
      rw [es]
      refine wp_mono inn (fun z vv s h => ?_)
      obtain ⟨rfl, rfl⟩ := h
      simp [↓wp_ldn, ↓wp_b1, ↓wp_b2, ↓wp_b2z, ↓wp_gf, ↓wp_gd, ↓wp_ga, ↓wp_gl, ↓wp_al2, ↓wp_pi, ↓wp_ltr, ↓wp_ite, ↓wp_and, ↓wp_or, ↓wp_not, ↓wp_cmp, ↓wp_cmz, ↓wp_isn, ↓wp_nsn, ↓wp_a0, ↓wp_a1, ↓wp_cv, ↓wp_cs, ↓wp_dr, ↓wp_sk, ↓wp_brk, ↓wp_cnt, ↓wp_rV, ↓wp_seq, ↓wp_iff, ↓wp_sI, ↓wp_sL, ↓wp_sN, ↓wp_inc, ↓wp_do, ↓wp_rI, ↓wp_rL, ↓wp_rN, ↓wp_rZ, ↓wp_pf, ↓wp_pz, ↓wp_pd, ↓wp_po, ↓wp_pl, ↓wp_pao, ↓wp_tsw, ↓wp_lsw, ↓wp_fn, ↓wq_ld, ↓wq_ldl, ↓wq_lda, ↓wq_c, ↓wq_gr, ↓wq_gq, ↓wq_nn, ↓wq_asI, ↓wq_asL, ↓wq_asN, ↓wq_pa, hO_182, hR_182_0, hF_182_1, hR_182_2, hF_182_3, hR_182_4, hF_182_5, hR_182_6, hR_182_7, hR_182_8, hF_182_9, hF_182_10, hF_182_11, hF_182_12, hR_182_13, hF_182_14, hR_182_15, hF_182_16, hF_182_17, hF_182_18, hF_182_19, hF_182_20, hF_182_21, hF_182_22, hR_182_23, hR_182_24, hF_182_25, hF_182_26, hR_182_27, hR_182_28, hR_182_29, hF_182_30, hF_182_31, hR_182_32, hR_182_33, hF_182_34, hR_182_35, hF_182_36, hF_182_37, hF_182_38, hF_182_39, hF_182_40, hR_182_41, hR_182_42, hR_182_43, hR_182_44, hR_182_45, hR_182_46, hF_182_47, hR_182_48, hR_182_49, hR_182_50, hR_182_51, hR_182_52, hF_182_53, hR_182_54, hR_182_55, hR_182_56, hR_182_57, hF_182_58, hR_182_59, hR_182_60, hR_182_61, fd_p_eq, fd_p_ne, fd_p_lt, fd_p_ge, fd_p_gt, fd_p_le, fd_f_iadd, fd_f_isub, fd_f_imul, fd_f_iand, fd_f_ior, fd_f_ixor, fd_f_ishl, fd_f_ishr, fd_f_iushr, fd_f_ladd, fd_f_lsub, fd_f_lmul, fd_f_lcmp, fd_f_idiv, fd_f_irem, fd_f_ldiv, fd_f_lrem, fd_f_ineg, fd_f_i2l, fd_f_l2i, fd_f_i2b, fd_f_i2s, fd_f_i2c, fd_z_idiv, fd_z_irem, fd_z_ldiv, fd_z_lrem, fd_in0, fd_sl, fd_st1, fd_st2, fd_kl, fd_vI, fd_vL, fd_vN, fd_ok1, fd_v_int, xI, xL, xR, xK, xG, yI, yL, yN, -Prod.exists, nI_1]
      exact g
    · have e0 : ¬ nI th = 0 := nI_ne0 (by omega) (by omega)
      have hy : nI (lrb t k + 1) = nI (lrb t (k + 1)) := by rw [eb, if_pos (tp.mpr c)]
      have inn := inner _ hy
      have g := go _ hy
      simp [↓wp_ldn, ↓wp_b1, ↓wp_b2, ↓wp_b2z, ↓wp_gf, ↓wp_gd, ↓wp_ga, ↓wp_gl, ↓wp_al2, ↓wp_pi, ↓wp_ltr, ↓wp_ite, ↓wp_and, ↓wp_or, ↓wp_not, ↓wp_cmp, ↓wp_cmz, ↓wp_isn, ↓wp_nsn, ↓wp_a0, ↓wp_a1, ↓wp_cv, ↓wp_cs, ↓wp_dr, ↓wp_sk, ↓wp_brk, ↓wp_cnt, ↓wp_rV, ↓wp_seq, ↓wp_iff, ↓wp_sI, ↓wp_sL, ↓wp_sN, ↓wp_inc, ↓wp_do, ↓wp_rI, ↓wp_rL, ↓wp_rN, ↓wp_rZ, ↓wp_pf, ↓wp_pz, ↓wp_pd, ↓wp_po, ↓wp_pl, ↓wp_pao, ↓wp_tsw, ↓wp_lsw, ↓wp_fn, ↓wq_ld, ↓wq_ldl, ↓wq_lda, ↓wq_c, ↓wq_gr, ↓wq_gq, ↓wq_nn, ↓wq_asI, ↓wq_asL, ↓wq_asN, ↓wq_pa, hO_182, hR_182_0, hF_182_1, hR_182_2, hF_182_3, hR_182_4, hF_182_5, hR_182_6, hR_182_7, hR_182_8, hF_182_9, hF_182_10, hF_182_11, hF_182_12, hR_182_13, hF_182_14, hR_182_15, hF_182_16, hF_182_17, hF_182_18, hF_182_19, hF_182_20, hF_182_21, hF_182_22, hR_182_23, hR_182_24, hF_182_25, hF_182_26, hR_182_27, hR_182_28, hR_182_29, hF_182_30, hF_182_31, hR_182_32, hR_182_33, hF_182_34, hR_182_35, hF_182_36, hF_182_37, hF_182_38, hF_182_39, hF_182_40, hR_182_41, hR_182_42, hR_182_43, hR_182_44, hR_182_45, hR_182_46, hF_182_47, hR_182_48, hR_182_49, hR_182_50, hR_182_51, hR_182_52, hF_182_53, hR_182_54, hR_182_55, hR_182_56, hR_182_57, hF_182_58, hR_182_59, hR_182_60, hR_182_61, fd_p_eq, fd_p_ne, fd_p_lt, fd_p_ge, fd_p_gt, fd_p_le, fd_f_iadd, fd_f_isub, fd_f_imul, fd_f_iand, fd_f_ior, fd_f_ixor, fd_f_ishl, fd_f_ishr, fd_f_iushr, fd_f_ladd, fd_f_lsub, fd_f_lmul, fd_f_lcmp, fd_f_idiv, fd_f_irem, fd_f_ldiv, fd_f_lrem, fd_f_ineg, fd_f_i2l, fd_f_l2i, fd_f_i2b, fd_f_i2s, fd_f_i2c, fd_z_idiv, fd_z_irem, fd_z_ldiv, fd_z_lrem, fd_in0, fd_sl, fd_st1, fd_st2, fd_kl, fd_vI, fd_vL, fd_vN, fd_ok1, fd_v_int, xI, xL, xR, xK, xG, yI, yL, yN, -Prod.exists, c1, hA_204 (show k < 10 by omega), nI_clamp (show k < 2 ^ 31 by omega), h204 k hk, y5, z5, k5, nI_add, fd_run_of ep, an_not p8, ← hth, e0, es, nI_1]
      refine wp_mono inn (fun z vv s h => ?_)
      obtain ⟨rfl, rfl⟩ := h
      simp [↓wp_ldn, ↓wp_b1, ↓wp_b2, ↓wp_b2z, ↓wp_gf, ↓wp_gd, ↓wp_ga, ↓wp_gl, ↓wp_al2, ↓wp_pi, ↓wp_ltr, ↓wp_ite, ↓wp_and, ↓wp_or, ↓wp_not, ↓wp_cmp, ↓wp_cmz, ↓wp_isn, ↓wp_nsn, ↓wp_a0, ↓wp_a1, ↓wp_cv, ↓wp_cs, ↓wp_dr, ↓wp_sk, ↓wp_brk, ↓wp_cnt, ↓wp_rV, ↓wp_seq, ↓wp_iff, ↓wp_sI, ↓wp_sL, ↓wp_sN, ↓wp_inc, ↓wp_do, ↓wp_rI, ↓wp_rL, ↓wp_rN, ↓wp_rZ, ↓wp_pf, ↓wp_pz, ↓wp_pd, ↓wp_po, ↓wp_pl, ↓wp_pao, ↓wp_tsw, ↓wp_lsw, ↓wp_fn, ↓wq_ld, ↓wq_ldl, ↓wq_lda, ↓wq_c, ↓wq_gr, ↓wq_gq, ↓wq_nn, ↓wq_asI, ↓wq_asL, ↓wq_asN, ↓wq_pa, hO_182, hR_182_0, hF_182_1, hR_182_2, hF_182_3, hR_182_4, hF_182_5, hR_182_6, hR_182_7, hR_182_8, hF_182_9, hF_182_10, hF_182_11, hF_182_12, hR_182_13, hF_182_14, hR_182_15, hF_182_16, hF_182_17, hF_182_18, hF_182_19, hF_182_20, hF_182_21, hF_182_22, hR_182_23, hR_182_24, hF_182_25, hF_182_26, hR_182_27, hR_182_28, hR_182_29, hF_182_30, hF_182_31, hR_182_32, hR_182_33, hF_182_34, hR_182_35, hF_182_36, hF_182_37, hF_182_38, hF_182_39, hF_182_40, hR_182_41, hR_182_42, hR_182_43, hR_182_44, hR_182_45, hR_182_46, hF_182_47, hR_182_48, hR_182_49, hR_182_50, hR_182_51, hR_182_52, hF_182_53, hR_182_54, hR_182_55, hR_182_56, hR_182_57, hF_182_58, hR_182_59, hR_182_60, hR_182_61, fd_p_eq, fd_p_ne, fd_p_lt, fd_p_ge, fd_p_gt, fd_p_le, fd_f_iadd, fd_f_isub, fd_f_imul, fd_f_iand, fd_f_ior, fd_f_ixor, fd_f_ishl, fd_f_ishr, fd_f_iushr, fd_f_ladd, fd_f_lsub, fd_f_lmul, fd_f_lcmp, fd_f_idiv, fd_f_irem, fd_f_ldiv, fd_f_lrem, fd_f_ineg, fd_f_i2l, fd_f_l2i, fd_f_i2b, fd_f_i2s, fd_f_i2c, fd_z_idiv, fd_z_irem, fd_z_ldiv, fd_z_lrem, fd_in0, fd_sl, fd_st1, fd_st2, fd_kl, fd_vI, fd_vL, fd_vN, fd_ok1, fd_v_int, xI, xL, xR, xK, xG, yI, yL, yN, -Prod.exists, nI_1]
      exact g
  · rw [hJ] at h
    obtain ⟨c7, c8, rfl⟩ := h
    simp [↓wp_ldn, ↓wp_b1, ↓wp_b2, ↓wp_b2z, ↓wp_gf, ↓wp_gd, ↓wp_ga, ↓wp_gl, ↓wp_al2, ↓wp_pi, ↓wp_ltr, ↓wp_ite, ↓wp_and, ↓wp_or, ↓wp_not, ↓wp_cmp, ↓wp_cmz, ↓wp_isn, ↓wp_nsn, ↓wp_a0, ↓wp_a1, ↓wp_cv, ↓wp_cs, ↓wp_dr, ↓wp_sk, ↓wp_brk, ↓wp_cnt, ↓wp_rV, ↓wp_seq, ↓wp_iff, ↓wp_sI, ↓wp_sL, ↓wp_sN, ↓wp_inc, ↓wp_do, ↓wp_rI, ↓wp_rL, ↓wp_rN, ↓wp_rZ, ↓wp_pf, ↓wp_pz, ↓wp_pd, ↓wp_po, ↓wp_pl, ↓wp_pao, ↓wp_tsw, ↓wp_lsw, ↓wp_fn, ↓wq_ld, ↓wq_ldl, ↓wq_lda, ↓wq_c, ↓wq_gr, ↓wq_gq, ↓wq_nn, ↓wq_asI, ↓wq_asL, ↓wq_asN, ↓wq_pa, hO_182, hR_182_0, hF_182_1, hR_182_2, hF_182_3, hR_182_4, hF_182_5, hR_182_6, hR_182_7, hR_182_8, hF_182_9, hF_182_10, hF_182_11, hF_182_12, hR_182_13, hF_182_14, hR_182_15, hF_182_16, hF_182_17, hF_182_18, hF_182_19, hF_182_20, hF_182_21, hF_182_22, hR_182_23, hR_182_24, hF_182_25, hF_182_26, hR_182_27, hR_182_28, hR_182_29, hF_182_30, hF_182_31, hR_182_32, hR_182_33, hF_182_34, hR_182_35, hF_182_36, hF_182_37, hF_182_38, hF_182_39, hF_182_40, hR_182_41, hR_182_42, hR_182_43, hR_182_44, hR_182_45, hR_182_46, hF_182_47, hR_182_48, hR_182_49, hR_182_50, hR_182_51, hR_182_52, hF_182_53, hR_182_54, hR_182_55, hR_182_56, hR_182_57, hF_182_58, hR_182_59, hR_182_60, hR_182_61, fd_p_eq, fd_p_ne, fd_p_lt, fd_p_ge, fd_p_gt, fd_p_le, fd_f_iadd, fd_f_isub, fd_f_imul, fd_f_iand, fd_f_ior, fd_f_ixor, fd_f_ishl, fd_f_ishr, fd_f_iushr, fd_f_ladd, fd_f_lsub, fd_f_lmul, fd_f_lcmp, fd_f_idiv, fd_f_irem, fd_f_ldiv, fd_f_lrem, fd_f_ineg, fd_f_i2l, fd_f_l2i, fd_f_i2b, fd_f_i2s, fd_f_i2c, fd_z_idiv, fd_z_irem, fd_z_ldiv, fd_z_lrem, fd_in0, fd_sl, fd_st1, fd_st2, fd_kl, fd_vI, fd_vL, fd_vN, fd_ok1, fd_v_int, xI, xL, xR, xK, xG, yI, yL, yN, -Prod.exists, lt_self, t_tell0, t_tell1, rd_I, rd_L1]
    refine hQ _ (fZ.uI (fZ.uL (fZ.uI (fZ.uL (fZ.uI fZ.rf ⟨rfl, rfl⟩) rfl) ⟨rfl, rfl⟩) rfl) ⟨rfl, rfl⟩) ?_ ?_ ?_
    · simp [rd_I]
    · simp [rd_L, rd_I2]
    · simp [rd_L, rd_I2]
end LE
