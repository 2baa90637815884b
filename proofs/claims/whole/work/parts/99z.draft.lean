-- FILE 95d.longer
/-! ===== the call longer ===== -/
def lgY (S : sto) (i : Nat) : Nat → Nat := fun j => if j = i then S.Y i + 1 else S.Y j
def lgS (S : sto) (i : Nat) : sto := sto.mk S.n S.a S.s S.pl S.w S.T S.C S.X (lgY S i)
/-- one night more of it lies in the nights that are planned -/
def lgE (w : wl) (S : sto) (n i : Nat) : Prop := S.pl.testBit i = false ∧ S.Y i < 99 ∧ S.n ≤ S.Y i + 1 ∧ S.Y i + 1 < S.n + n ∧ ¬ (w.lf ≤ nI (S.Y i + 1) ∧ nI (S.Y i + 1) ≤ w.lt)
theorem lg_rpl {w : wl} {S : sto} {i k q : Nat} (h : S.n + k ≠ S.Y i + 1 ∨ (w.lf ≤ nI (S.Y i + 1) ∧ nI (S.Y i + 1) ≤ w.lt)) : rpl w S S.Y k q = rpl w S (lgY S i) k q := by
  unfold rpl
  by_cases cl : w.lf ≤ nI (S.n + k) ∧ nI (S.n + k) ≤ w.lt
  · rw [if_pos cl, if_pos cl]
  · rw [if_neg cl, if_neg cl]
    refine bq_cong fun j _ => ?_
    unfold lgY
    by_cases e : j = i
    · subst e
      rw [if_pos rfl]
      have ne : S.n + k ≠ S.Y j + 1 := fun z => by
        rcases h with h | h
        · exact h z
        · rw [← z] at h; exact cl h
      have : decide (S.n + k ≤ S.Y j) = decide (S.n + k ≤ S.Y j + 1) := decide_eq_decide.mpr (by omega)
      rw [this]
    · rw [if_neg e]
theorem lg_same {w : wl} {S : sto} {i k q : Nat} (h : S.n + k ≠ S.Y i + 1 ∨ q ≠ w.A i) : rop w S k q = rop w (lgS S i) k q := by
  unfold rop
  show (if w.lf ≤ nI (S.n + k) ∧ nI (S.n + k) ≤ w.lt then 0 else _) = if w.lf ≤ nI (S.n + k) ∧ nI (S.n + k) ≤ w.lt then 0 else bq (fun j => decide (w.A j = q) && decide (S.X j ≤ S.n + k) && decide (S.n + k ≤ lgY S i j) && !S.pl.testBit j) w.f
  by_cases cl : w.lf ≤ nI (S.n + k) ∧ nI (S.n + k) ≤ w.lt
  · rw [if_pos cl, if_pos cl]
  · rw [if_neg cl, if_neg cl]
    refine bq_cong fun j _ => ?_
    unfold lgY
    by_cases e : j = i
    · subst e
      rw [if_pos rfl]
      by_cases eq : w.A j = q
      · have : decide (S.n + k ≤ S.Y j) = decide (S.n + k ≤ S.Y j + 1) := decide_eq_decide.mpr (by omega)
        rw [this]
      · rw [decide_eq_false eq]; rfl
    · rw [if_neg e]
theorem lg_tog {w : wl} {S : sto} {i k : Nat} (hi : i < w.f) (hx : S.X i ≤ S.Y i) (hp : S.pl.testBit i = false) (hk : S.n + k = S.Y i + 1) (hl : ¬ (w.lf ≤ nI (S.n + k) ∧ nI (S.n + k) ≤ w.lt)) : rop w S k (w.A i) ^^^ 2 ^ i = rop w (lgS S i) k (w.A i) := by
  unfold rop
  show (if w.lf ≤ nI (S.n + k) ∧ nI (S.n + k) ≤ w.lt then 0 else _) ^^^ 2 ^ i = if w.lf ≤ nI (S.n + k) ∧ nI (S.n + k) ≤ w.lt then 0 else bq (fun j => decide (w.A j = w.A i) && decide (S.X j ≤ S.n + k) && decide (S.n + k ≤ lgY S i j) && !S.pl.testBit j) w.f
  rw [if_neg hl, if_neg hl]
  refine Nat.eq_of_testBit_eq fun j => ?_
  rw [Nat.testBit_xor, bq_tb, bq_tb, Nat.testBit_two_pow]
  unfold lgY
  by_cases e : j = i
  · subst e
    rw [if_pos rfl, decide_eq_true hi, hp, decide_eq_true (show S.X j ≤ S.n + k by omega), decide_eq_false (show ¬ S.n + k ≤ S.Y j by omega), decide_eq_true (show S.n + k ≤ S.Y j + 1 by omega)]
    simp
  · rw [if_neg e, decide_eq_false (show ¬ i = j from fun z => e z.symm), Bool.xor_false]
noncomputable def lgs (E : Nat → Prop) (d : Nat → Int32) : Nat → Int32 × Option Nat
  | 0 => (0, none)
  | k + 1 => if rch (E k) = true ∧ (lgs E d k).1 < d k then (d k, some k) else lgs E d k
theorem lgs_nn (E : Nat → Prop) (d : Nat → Int32) : ∀ k, (0 : Int32) ≤ (lgs E d k).1
  | 0 => Int32.le_refl _
  | k + 1 => by
    have ih := lgs_nn E d k
    unfold lgs
    by_cases h : rch (E k) = true ∧ (lgs E d k).1 < d k
    · rw [if_pos h]
      exact Int32.le_trans ih (Int32.le_of_lt h.2)
    · rw [if_neg h]
      exact ih
theorem lgs_lt (E : Nat → Prop) (d : Nat → Int32) : ∀ k j, (lgs E d k).2 = some j → j < k
  | 0, j, h => by cases h
  | k + 1, j, h => by
    unfold lgs at h
    by_cases c : rch (E k) = true ∧ (lgs E d k).1 < d k
    · rw [if_pos c] at h
      cases h
      omega
    · rw [if_neg c] at h
      have := lgs_lt E d k j h
      omega
def lgw (x : Int32) : Option Nat → Int32
  | none => x
  | some j => nI j
theorem neg_le0 {b : Nat} (hb : b < 1000000) {g : Int32} (hg : 0 ≤ g) : ¬ g < -nI b := fun h => by
  have e : -nI b = nI 0 - nI b := by rw [nI_0, Int32.zero_sub]
  rw [e] at h
  by_cases b0 : b = 0
  · rw [b0, Int32.sub_self] at h
    exact absurd (Int32.lt_of_lt_of_le h hg) (lt_self _)
  · have := pk_sneg (a := 0) (b := b) (by omega) (by omega)
    exact absurd (Int32.lt_of_le_of_lt hg (Int32.lt_trans h this)) (lt_self _)
section LO
variable {M : fd_M} {w : wl} {S : sto} {n : Nat}
/-- what it is worth, if i's last night were one more -/
def lgm (w : wl) (S : sto) (n i : Nat) : Nat := ms w.v (rnr w S.n) (rpl w S (lgY S i)) (gn w.f w.B) n 0 S.a S.pl
theorem s_X11_gain1 {i : Nat} (hi : i < w.f) (hw : wd w M) (h5 : iv_sky M) (hS : cst w.f 42 S M) (hok : sok w.v w.f 1400000 S) (hn : n ≤ 10) (ha : S.a < w.v) (hr : rT w S n M) (hV : vW w.f (fun s => gn w.f w.B s) M) {Q : Value → fd_M → Prop} (hQ0 : ¬ lgE w S n i → Q (.int 0) M) (hQ1 : lgE w S n i → ∀ M2, fP rF M M2 → rT w S n M2 → vW w.f (fun s => gn w.f w.B s) M2 → Q (.int (nI (lgm w S n i))) M2) : fd_run m_X11_gainOfOneNight [.ref 0, .int (nI i), .int (nI n)] M Q := by
  have hf := hw.2.1.1
  have hv := hw.1.1
  have hSn : S.n ≤ 1400000 := hok.1
  obtain ⟨x1, x2⟩ := hok.2.2.2.2.2 i hi
  have wp0 := s_X10_wasPlayed (M := M) (k := 42) (pl := S.pl) hO_42 hS.2.2.2.2.2.2.1 (show i < 31 by omega)
  have e44 := (hS.2.2.2.2.2.2.2 i hi).2
  have r44 : fd_rfc (fd_isF 42 10 9) = some 44 := rfl
  have il := s_X8_isLent (nI (S.Y i + 1)) M
  rw [hw.2.2.1.2.2.2.2.1, hw.2.2.1.2.2.2.2.2.2.1] at il
  unfold m_X11_gainOfOneNight b_X11_gainOfOneNight
  by_cases hp : S.pl.testBit i = true
  · rw [if_pos hp] at wp0
    simp [↓wp_ldn, ↓wp_b1, ↓wp_b2, ↓wp_b2z, ↓wp_gf, ↓wp_gd, ↓wp_ga, ↓wp_gl, ↓wp_al2, ↓wp_pi, ↓wp_ltr, ↓wp_ite, ↓wp_and, ↓wp_or, ↓wp_not, ↓wp_cmp, ↓wp_cmz, ↓wp_isn, ↓wp_nsn, ↓wp_a0, ↓wp_a1, ↓wp_cv, ↓wp_cs, ↓wp_dr, ↓wp_sk, ↓wp_brk, ↓wp_cnt, ↓wp_rV, ↓wp_seq, ↓wp_iff, ↓wp_sI, ↓wp_sL, ↓wp_sN, ↓wp_inc, ↓wp_do, ↓wp_rI, ↓wp_rL, ↓wp_rN, ↓wp_rZ, ↓wp_pf, ↓wp_pz, ↓wp_pd, ↓wp_po, ↓wp_pl, ↓wp_pao, ↓wp_tsw, ↓wp_lsw, ↓wp_fn, ↓wq_ld, ↓wq_ldl, ↓wq_lda, ↓wq_c, ↓wq_gr, ↓wq_gq, ↓wq_nn, ↓wq_asI, ↓wq_asL, ↓wq_asN, ↓wq_pa, hO_0, hR_0_0, hR_0_1, hR_0_2, hR_0_3, hR_0_4, hR_0_5, hR_0_6, hR_0_7, hR_0_8, hR_0_9, hR_0_10, hR_0_11, hF_0_12, hO_1, hR_1_0, hF_1_1, hF_1_2, hF_1_3, hO_3, hR_3_0, hF_3_1, hO_5, hF_5_0, hF_5_1, hR_5_2, hR_5_3, hR_5_4, hR_5_5, hR_5_6, hR_5_7, hF_5_8, hF_5_9, hO_30, hF_30_0, hF_30_1, hF_30_2, hF_30_3, hO_31, hF_31_0, hF_31_1, hR_31_2, hR_31_3, hR_31_4, hO_35, hR_35_0, hF_35_1, hR_35_2, hF_35_3, hR_35_4, hF_35_5, hF_35_6, hR_35_7, hF_35_8, hR_35_9, hR_35_10, hO_42, hO_45, hO_48, hR_48_0, hF_48_1, hF_48_2, hR_48_3, hR_48_4, hO_94, hR_94_0, hR_94_1, hO_97, hF_97_0, hF_97_1, hF_97_2, hF_97_3, hR_97_4, hR_97_5, hR_97_6, hR_97_7, hR_97_8, hR_97_9, hR_97_10, hR_97_11, hF_97_12, hO_156, hF_156_0, hR_156_1, hR_156_2, hR_156_3, hR_156_4, hR_156_5, hR_156_6, hR_156_7, hR_156_8, fd_p_eq, fd_p_ne, fd_p_lt, fd_p_ge, fd_p_gt, fd_p_le, fd_f_iadd, fd_f_isub, fd_f_imul, fd_f_iand, fd_f_ior, fd_f_ixor, fd_f_ishl, fd_f_ishr, fd_f_iushr, fd_f_ladd, fd_f_lsub, fd_f_lmul, fd_f_lcmp, fd_f_idiv, fd_f_irem, fd_f_ldiv, fd_f_lrem, fd_f_ineg, fd_f_i2l, fd_f_l2i, fd_f_i2b, fd_f_i2s, fd_f_i2c, fd_z_idiv, fd_z_irem, fd_z_ldiv, fd_z_lrem, fd_in0, fd_sl, fd_st1, fd_st2, fd_kl, fd_vI, fd_vL, fd_vN, fd_ok1, fd_v_int, xI, xL, xR, xK, xG, yI, yL, yN, -Prod.exists, fd_run_of wp0]
    exact hQ0 (fun z => by have := z.1; rw [hp] at this; exact absurd this (by decide))
  rw [if_neg hp] at wp0
  have hpf : S.pl.testBit i = false := by simpa using hp
  by_cases h99 : S.Y i < 99
  rotate_left
  · have c1 : (99 : Int32) ≤ nI (S.Y i) := nI_le (a := 99) (by omega) (by omega)
    simp [↓wp_ldn, ↓wp_b1, ↓wp_b2, ↓wp_b2z, ↓wp_gf, ↓wp_gd, ↓wp_ga, ↓wp_gl, ↓wp_al2, ↓wp_pi, ↓wp_ltr, ↓wp_ite, ↓wp_and, ↓wp_or, ↓wp_not, ↓wp_cmp, ↓wp_cmz, ↓wp_isn, ↓wp_nsn, ↓wp_a0, ↓wp_a1, ↓wp_cv, ↓wp_cs, ↓wp_dr, ↓wp_sk, ↓wp_brk, ↓wp_cnt, ↓wp_rV, ↓wp_seq, ↓wp_iff, ↓wp_sI, ↓wp_sL, ↓wp_sN, ↓wp_inc, ↓wp_do, ↓wp_rI, ↓wp_rL, ↓wp_rN, ↓wp_rZ, ↓wp_pf, ↓wp_pz, ↓wp_pd, ↓wp_po, ↓wp_pl, ↓wp_pao, ↓wp_tsw, ↓wp_lsw, ↓wp_fn, ↓wq_ld, ↓wq_ldl, ↓wq_lda, ↓wq_c, ↓wq_gr, ↓wq_gq, ↓wq_nn, ↓wq_asI, ↓wq_asL, ↓wq_asN, ↓wq_pa, hO_0, hR_0_0, hR_0_1, hR_0_2, hR_0_3, hR_0_4, hR_0_5, hR_0_6, hR_0_7, hR_0_8, hR_0_9, hR_0_10, hR_0_11, hF_0_12, hO_1, hR_1_0, hF_1_1, hF_1_2, hF_1_3, hO_3, hR_3_0, hF_3_1, hO_5, hF_5_0, hF_5_1, hR_5_2, hR_5_3, hR_5_4, hR_5_5, hR_5_6, hR_5_7, hF_5_8, hF_5_9, hO_30, hF_30_0, hF_30_1, hF_30_2, hF_30_3, hO_31, hF_31_0, hF_31_1, hR_31_2, hR_31_3, hR_31_4, hO_35, hR_35_0, hF_35_1, hR_35_2, hF_35_3, hR_35_4, hF_35_5, hF_35_6, hR_35_7, hF_35_8, hR_35_9, hR_35_10, hO_42, hO_45, hO_48, hR_48_0, hF_48_1, hF_48_2, hR_48_3, hR_48_4, hO_94, hR_94_0, hR_94_1, hO_97, hF_97_0, hF_97_1, hF_97_2, hF_97_3, hR_97_4, hR_97_5, hR_97_6, hR_97_7, hR_97_8, hR_97_9, hR_97_10, hR_97_11, hF_97_12, hO_156, hF_156_0, hR_156_1, hR_156_2, hR_156_3, hR_156_4, hR_156_5, hR_156_6, hR_156_7, hR_156_8, fd_p_eq, fd_p_ne, fd_p_lt, fd_p_ge, fd_p_gt, fd_p_le, fd_f_iadd, fd_f_isub, fd_f_imul, fd_f_iand, fd_f_ior, fd_f_ixor, fd_f_ishl, fd_f_ishr, fd_f_iushr, fd_f_ladd, fd_f_lsub, fd_f_lmul, fd_f_lcmp, fd_f_idiv, fd_f_irem, fd_f_ldiv, fd_f_lrem, fd_f_ineg, fd_f_i2l, fd_f_l2i, fd_f_i2b, fd_f_i2s, fd_f_i2c, fd_z_idiv, fd_z_irem, fd_z_ldiv, fd_z_lrem, fd_in0, fd_sl, fd_st1, fd_st2, fd_kl, fd_vI, fd_vL, fd_vN, fd_ok1, fd_v_int, xI, xL, xR, xK, xG, yI, yL, yN, -Prod.exists, fd_run_of wp0, r44, hA_44 (show i < 8 by omega), nI_clamp (show i < 2 ^ 31 by omega), e44, c1]
    exact hQ0 (fun z => h99 z.2.1)
  have c1 : ¬ (99 : Int32) ≤ nI (S.Y i) := nI_ge (b := 99) h99 (by decide)
  have c1' := Int32.not_le.mp c1
  by_cases hlo : S.n ≤ S.Y i + 1
  rotate_left
  · have c2 := pk_sneg (a := S.Y i + 1) (b := S.n) (by omega) (by omega)
    simp [↓wp_ldn, ↓wp_b1, ↓wp_b2, ↓wp_b2z, ↓wp_gf, ↓wp_gd, ↓wp_ga, ↓wp_gl, ↓wp_al2, ↓wp_pi, ↓wp_ltr, ↓wp_ite, ↓wp_and, ↓wp_or, ↓wp_not, ↓wp_cmp, ↓wp_cmz, ↓wp_isn, ↓wp_nsn, ↓wp_a0, ↓wp_a1, ↓wp_cv, ↓wp_cs, ↓wp_dr, ↓wp_sk, ↓wp_brk, ↓wp_cnt, ↓wp_rV, ↓wp_seq, ↓wp_iff, ↓wp_sI, ↓wp_sL, ↓wp_sN, ↓wp_inc, ↓wp_do, ↓wp_rI, ↓wp_rL, ↓wp_rN, ↓wp_rZ, ↓wp_pf, ↓wp_pz, ↓wp_pd, ↓wp_po, ↓wp_pl, ↓wp_pao, ↓wp_tsw, ↓wp_lsw, ↓wp_fn, ↓wq_ld, ↓wq_ldl, ↓wq_lda, ↓wq_c, ↓wq_gr, ↓wq_gq, ↓wq_nn, ↓wq_asI, ↓wq_asL, ↓wq_asN, ↓wq_pa, hO_0, hR_0_0, hR_0_1, hR_0_2, hR_0_3, hR_0_4, hR_0_5, hR_0_6, hR_0_7, hR_0_8, hR_0_9, hR_0_10, hR_0_11, hF_0_12, hO_1, hR_1_0, hF_1_1, hF_1_2, hF_1_3, hO_3, hR_3_0, hF_3_1, hO_5, hF_5_0, hF_5_1, hR_5_2, hR_5_3, hR_5_4, hR_5_5, hR_5_6, hR_5_7, hF_5_8, hF_5_9, hO_30, hF_30_0, hF_30_1, hF_30_2, hF_30_3, hO_31, hF_31_0, hF_31_1, hR_31_2, hR_31_3, hR_31_4, hO_35, hR_35_0, hF_35_1, hR_35_2, hF_35_3, hR_35_4, hF_35_5, hF_35_6, hR_35_7, hF_35_8, hR_35_9, hR_35_10, hO_42, hO_45, hO_48, hR_48_0, hF_48_1, hF_48_2, hR_48_3, hR_48_4, hO_94, hR_94_0, hR_94_1, hO_97, hF_97_0, hF_97_1, hF_97_2, hF_97_3, hR_97_4, hR_97_5, hR_97_6, hR_97_7, hR_97_8, hR_97_9, hR_97_10, hR_97_11, hF_97_12, hO_156, hF_156_0, hR_156_1, hR_156_2, hR_156_3, hR_156_4, hR_156_5, hR_156_6, hR_156_7, hR_156_8, fd_p_eq, fd_p_ne, fd_p_lt, fd_p_ge, fd_p_gt, fd_p_le, fd_f_iadd, fd_f_isub, fd_f_imul, fd_f_iand, fd_f_ior, fd_f_ixor, fd_f_ishl, fd_f_ishr, fd_f_iushr, fd_f_ladd, fd_f_lsub, fd_f_lmul, fd_f_lcmp, fd_f_idiv, fd_f_irem, fd_f_ldiv, fd_f_lrem, fd_f_ineg, fd_f_i2l, fd_f_l2i, fd_f_i2b, fd_f_i2s, fd_f_i2c, fd_z_idiv, fd_z_irem, fd_z_ldiv, fd_z_lrem, fd_in0, fd_sl, fd_st1, fd_st2, fd_kl, fd_vI, fd_vL, fd_vN, fd_ok1, fd_v_int, xI, xL, xR, xK, xG, yI, yL, yN, -Prod.exists, fd_run_of wp0, r44, hA_44 (show i < 8 by omega), nI_clamp (show i < 2 ^ 31 by omega), e44, c1, c1', nI_1, show fd_isF 42 10 0 = some 0 from rfl, hS.1, c2]
    exact hQ0 (fun z => hlo z.2.2.1)
  obtain ⟨k, hk⟩ : ∃ k, S.Y i + 1 = S.n + k := ⟨S.Y i + 1 - S.n, by omega⟩
  have e2 : nI (S.Y i + 1) - nI S.n = nI k := by rw [nI_sub hlo]; congr 1; omega
  have c2 : ¬ nI k < 0 := nI_pos (by omega)
  have c2' := Int32.not_lt.mp c2
  by_cases hhi : k < n
  rotate_left
  · have c3 : nI n ≤ nI k := nI_le (by omega) (by omega)
    simp [↓wp_ldn, ↓wp_b1, ↓wp_b2, ↓wp_b2z, ↓wp_gf, ↓wp_gd, ↓wp_ga, ↓wp_gl, ↓wp_al2, ↓wp_pi, ↓wp_ltr, ↓wp_ite, ↓wp_and, ↓wp_or, ↓wp_not, ↓wp_cmp, ↓wp_cmz, ↓wp_isn, ↓wp_nsn, ↓wp_a0, ↓wp_a1, ↓wp_cv, ↓wp_cs, ↓wp_dr, ↓wp_sk, ↓wp_brk, ↓wp_cnt, ↓wp_rV, ↓wp_seq, ↓wp_iff, ↓wp_sI, ↓wp_sL, ↓wp_sN, ↓wp_inc, ↓wp_do, ↓wp_rI, ↓wp_rL, ↓wp_rN, ↓wp_rZ, ↓wp_pf, ↓wp_pz, ↓wp_pd, ↓wp_po, ↓wp_pl, ↓wp_pao, ↓wp_tsw, ↓wp_lsw, ↓wp_fn, ↓wq_ld, ↓wq_ldl, ↓wq_lda, ↓wq_c, ↓wq_gr, ↓wq_gq, ↓wq_nn, ↓wq_asI, ↓wq_asL, ↓wq_asN, ↓wq_pa, hO_0, hR_0_0, hR_0_1, hR_0_2, hR_0_3, hR_0_4, hR_0_5, hR_0_6, hR_0_7, hR_0_8, hR_0_9, hR_0_10, hR_0_11, hF_0_12, hO_1, hR_1_0, hF_1_1, hF_1_2, hF_1_3, hO_3, hR_3_0, hF_3_1, hO_5, hF_5_0, hF_5_1, hR_5_2, hR_5_3, hR_5_4, hR_5_5, hR_5_6, hR_5_7, hF_5_8, hF_5_9, hO_30, hF_30_0, hF_30_1, hF_30_2, hF_30_3, hO_31, hF_31_0, hF_31_1, hR_31_2, hR_31_3, hR_31_4, hO_35, hR_35_0, hF_35_1, hR_35_2, hF_35_3, hR_35_4, hF_35_5, hF_35_6, hR_35_7, hF_35_8, hR_35_9, hR_35_10, hO_42, hO_45, hO_48, hR_48_0, hF_48_1, hF_48_2, hR_48_3, hR_48_4, hO_94, hR_94_0, hR_94_1, hO_97, hF_97_0, hF_97_1, hF_97_2, hF_97_3, hR_97_4, hR_97_5, hR_97_6, hR_97_7, hR_97_8, hR_97_9, hR_97_10, hR_97_11, hF_97_12, hO_156, hF_156_0, hR_156_1, hR_156_2, hR_156_3, hR_156_4, hR_156_5, hR_156_6, hR_156_7, hR_156_8, fd_p_eq, fd_p_ne, fd_p_lt, fd_p_ge, fd_p_gt, fd_p_le, fd_f_iadd, fd_f_isub, fd_f_imul, fd_f_iand, fd_f_ior, fd_f_ixor, fd_f_ishl, fd_f_ishr, fd_f_iushr, fd_f_ladd, fd_f_lsub, fd_f_lmul, fd_f_lcmp, fd_f_idiv, fd_f_irem, fd_f_ldiv, fd_f_lrem, fd_f_ineg, fd_f_i2l, fd_f_l2i, fd_f_i2b, fd_f_i2s, fd_f_i2c, fd_z_idiv, fd_z_irem, fd_z_ldiv, fd_z_lrem, fd_in0, fd_sl, fd_st1, fd_st2, fd_kl, fd_vI, fd_vL, fd_vN, fd_ok1, fd_v_int, xI, xL, xR, xK, xG, yI, yL, yN, -Prod.exists, fd_run_of wp0, r44, hA_44 (show i < 8 by omega), nI_clamp (show i < 2 ^ 31 by omega), e44, c1, c1', nI_1, show fd_isF 42 10 0 = some 0 from rfl, hS.1, e2, c2, c2', c3]
    exact hQ0 (fun z => by have := z.2.2.2.1; omega)
  have c3 : ¬ nI n ≤ nI k := nI_ge hhi (by omega)
  have c3' := Int32.not_le.mp c3
  by_cases hl : w.lf ≤ nI (S.Y i + 1) ∧ nI (S.Y i + 1) ≤ w.lt
  · rw [if_pos hl] at il
    simp [↓wp_ldn, ↓wp_b1, ↓wp_b2, ↓wp_b2z, ↓wp_gf, ↓wp_gd, ↓wp_ga, ↓wp_gl, ↓wp_al2, ↓wp_pi, ↓wp_ltr, ↓wp_ite, ↓wp_and, ↓wp_or, ↓wp_not, ↓wp_cmp, ↓wp_cmz, ↓wp_isn, ↓wp_nsn, ↓wp_a0, ↓wp_a1, ↓wp_cv, ↓wp_cs, ↓wp_dr, ↓wp_sk, ↓wp_brk, ↓wp_cnt, ↓wp_rV, ↓wp_seq, ↓wp_iff, ↓wp_sI, ↓wp_sL, ↓wp_sN, ↓wp_inc, ↓wp_do, ↓wp_rI, ↓wp_rL, ↓wp_rN, ↓wp_rZ, ↓wp_pf, ↓wp_pz, ↓wp_pd, ↓wp_po, ↓wp_pl, ↓wp_pao, ↓wp_tsw, ↓wp_lsw, ↓wp_fn, ↓wq_ld, ↓wq_ldl, ↓wq_lda, ↓wq_c, ↓wq_gr, ↓wq_gq, ↓wq_nn, ↓wq_asI, ↓wq_asL, ↓wq_asN, ↓wq_pa, hO_0, hR_0_0, hR_0_1, hR_0_2, hR_0_3, hR_0_4, hR_0_5, hR_0_6, hR_0_7, hR_0_8, hR_0_9, hR_0_10, hR_0_11, hF_0_12, hO_1, hR_1_0, hF_1_1, hF_1_2, hF_1_3, hO_3, hR_3_0, hF_3_1, hO_5, hF_5_0, hF_5_1, hR_5_2, hR_5_3, hR_5_4, hR_5_5, hR_5_6, hR_5_7, hF_5_8, hF_5_9, hO_30, hF_30_0, hF_30_1, hF_30_2, hF_30_3, hO_31, hF_31_0, hF_31_1, hR_31_2, hR_31_3, hR_31_4, hO_35, hR_35_0, hF_35_1, hR_35_2, hF_35_3, hR_35_4, hF_35_5, hF_35_6, hR_35_7, hF_35_8, hR_35_9, hR_35_10, hO_42, hO_45, hO_48, hR_48_0, hF_48_1, hF_48_2, hR_48_3, hR_48_4, hO_94, hR_94_0, hR_94_1, hO_97, hF_97_0, hF_97_1, hF_97_2, hF_97_3, hR_97_4, hR_97_5, hR_97_6, hR_97_7, hR_97_8, hR_97_9, hR_97_10, hR_97_11, hF_97_12, hO_156, hF_156_0, hR_156_1, hR_156_2, hR_156_3, hR_156_4, hR_156_5, hR_156_6, hR_156_7, hR_156_8, fd_p_eq, fd_p_ne, fd_p_lt, fd_p_ge, fd_p_gt, fd_p_le, fd_f_iadd, fd_f_isub, fd_f_imul, fd_f_iand, fd_f_ior, fd_f_ixor, fd_f_ishl, fd_f_ishr, fd_f_iushr, fd_f_ladd, fd_f_lsub, fd_f_lmul, fd_f_lcmp, fd_f_idiv, fd_f_irem, fd_f_ldiv, fd_f_lrem, fd_f_ineg, fd_f_i2l, fd_f_l2i, fd_f_i2b, fd_f_i2s, fd_f_i2c, fd_z_idiv, fd_z_irem, fd_z_ldiv, fd_z_lrem, fd_in0, fd_sl, fd_st1, fd_st2, fd_kl, fd_vI, fd_vL, fd_vN, fd_ok1, fd_v_int, xI, xL, xR, xK, xG, yI, yL, yN, -Prod.exists, fd_run_of wp0, r44, hA_44 (show i < 8 by omega), nI_clamp (show i < 2 ^ 31 by omega), e44, c1, c1', nI_1, show fd_isF 42 10 0 = some 0 from rfl, hS.1, e2, c2, c2', c3, c3', fd_run_of il]
    exact hQ0 (fun z => z.2.2.2.2 hl)
  rw [if_neg hl] at il
  have E : lgE w S n i := ⟨hpf, h99, hlo, by omega, hl⟩
  have hA := hw.2.1.2.2.2 i hi
  have Ai := hA.1
  have k32 := hA.2.2.2.2.1
  have tg := fun M' => s_X6_toggleFeast (M := M') (k := k) (q := w.A i) (i := i) (by omega) (by omega) (by omega)
  simp [↓wp_ldn, ↓wp_b1, ↓wp_b2, ↓wp_b2z, ↓wp_gf, ↓wp_gd, ↓wp_ga, ↓wp_gl, ↓wp_al2, ↓wp_pi, ↓wp_ltr, ↓wp_ite, ↓wp_and, ↓wp_or, ↓wp_not, ↓wp_cmp, ↓wp_cmz, ↓wp_isn, ↓wp_nsn, ↓wp_a0, ↓wp_a1, ↓wp_cv, ↓wp_cs, ↓wp_dr, ↓wp_sk, ↓wp_brk, ↓wp_cnt, ↓wp_rV, ↓wp_seq, ↓wp_iff, ↓wp_sI, ↓wp_sL, ↓wp_sN, ↓wp_inc, ↓wp_do, ↓wp_rI, ↓wp_rL, ↓wp_rN, ↓wp_rZ, ↓wp_pf, ↓wp_pz, ↓wp_pd, ↓wp_po, ↓wp_pl, ↓wp_pao, ↓wp_tsw, ↓wp_lsw, ↓wp_fn, ↓wq_ld, ↓wq_ldl, ↓wq_lda, ↓wq_c, ↓wq_gr, ↓wq_gq, ↓wq_nn, ↓wq_asI, ↓wq_asL, ↓wq_asN, ↓wq_pa, hO_0, hR_0_0, hR_0_1, hR_0_2, hR_0_3, hR_0_4, hR_0_5, hR_0_6, hR_0_7, hR_0_8, hR_0_9, hR_0_10, hR_0_11, hF_0_12, hO_1, hR_1_0, hF_1_1, hF_1_2, hF_1_3, hO_3, hR_3_0, hF_3_1, hO_5, hF_5_0, hF_5_1, hR_5_2, hR_5_3, hR_5_4, hR_5_5, hR_5_6, hR_5_7, hF_5_8, hF_5_9, hO_30, hF_30_0, hF_30_1, hF_30_2, hF_30_3, hO_31, hF_31_0, hF_31_1, hR_31_2, hR_31_3, hR_31_4, hO_35, hR_35_0, hF_35_1, hR_35_2, hF_35_3, hR_35_4, hF_35_5, hF_35_6, hR_35_7, hF_35_8, hR_35_9, hR_35_10, hO_42, hO_45, hO_48, hR_48_0, hF_48_1, hF_48_2, hR_48_3, hR_48_4, hO_94, hR_94_0, hR_94_1, hO_97, hF_97_0, hF_97_1, hF_97_2, hF_97_3, hR_97_4, hR_97_5, hR_97_6, hR_97_7, hR_97_8, hR_97_9, hR_97_10, hR_97_11, hF_97_12, hO_156, hF_156_0, hR_156_1, hR_156_2, hR_156_3, hR_156_4, hR_156_5, hR_156_6, hR_156_7, hR_156_8, fd_p_eq, fd_p_ne, fd_p_lt, fd_p_ge, fd_p_gt, fd_p_le, fd_f_iadd, fd_f_isub, fd_f_imul, fd_f_iand, fd_f_ior, fd_f_ixor, fd_f_ishl, fd_f_ishr, fd_f_iushr, fd_f_ladd, fd_f_lsub, fd_f_lmul, fd_f_lcmp, fd_f_idiv, fd_f_irem, fd_f_ldiv, fd_f_lrem, fd_f_ineg, fd_f_i2l, fd_f_l2i, fd_f_i2b, fd_f_i2s, fd_f_i2c, fd_z_idiv, fd_z_irem, fd_z_ldiv, fd_z_lrem, fd_in0, fd_sl, fd_st1, fd_st2, fd_kl, fd_vI, fd_vL, fd_vN, fd_ok1, fd_v_int, xI, xL, xR, xK, xG, yI, yL, yN, -Prod.exists, fd_run_of wp0, r44, hA_44 (show i < 8 by omega), nI_clamp (show i < 2 ^ 31 by omega), e44, c1, c1', nI_1, show fd_isF 42 10 0 = some 0 from rfl, show fd_isF 42 10 1 = some 0 from rfl, show fd_isF 42 10 6 = some 0 from rfl, hS.1, e2, c2, c2', c3, c3', fd_run_of il, hA_32 (show i < 8 by omega), k32, fd_run_of (tg _), rd_ne (show ¬ (42 = k + 112 ∧ 1 = w.A i) by omega), rd_ne (show ¬ (42 = k + 112 ∧ 6 = w.A i) by omega), hS.2.1, hS.2.2.2.2.2.2.1]
  have tog := lg_tog (w := w) hi x1 hpf hk.symm (by rw [← hk]; exact hl)
  have o1 := (hr.2.2.2 k (w.A i) hhi Ai).2
  have l256 := p256 hf
  rw [o1, fa_xor, tog]
  generalize hM1 : fd_uI M (k + 112) (w.A i) (nI (rop w (lgS S i) k (w.A i))) = M1
  have f1 : fP (fun a j => a = k + 112 ∧ j = w.A i) M M1 := by rw [← hM1]; exact fP.uI fP.rf ⟨rfl, rfl⟩
  have m1 : M1.1 (k + 112) (w.A i) = nI (rop w (lgS S i) k (w.A i)) := by rw [← hM1, rd_I, if_pos rfl, if_pos rfl]
  have f1r : fP rF M M1 := f1.up (fun a j z => by unfold rF; omega)
  have w1 := hw.cg (f1r.sm rF_cl) (by decide) (by decide) (by decide) (by decide)
  have k1 := iv_sky_cg h5 ((f1r.sm rF_cl).eq (i := 5) (by decide))
  have S1 : cst w.f 42 S M1 := hS.cg hf (fun j _ => f1.1 _ _ (by omega)) (fun j _ => f1.1 _ _ (by omega)) (fun j _ => f1.1 _ _ (by omega))
  have r1 : rT w (lgS S i) n M1 := by
    refine ⟨by rw [f1.1 _ _ (by omega)]; exact hr.1, by rw [f1.1 _ _ (by omega)]; exact hr.2.1, hr.2.2.1.cg (by omega) f1 (fun a j x y => by omega), fun k' q hk' hq => ⟨rop_lt _ _ _ _, ?_⟩⟩
    by_cases e : k' = k ∧ q = w.A i
    · rw [e.1, e.2]; exact m1
    · rw [f1.1 _ _ (by omega), ← lg_same (w := w) (S := S) (i := i) (k := k') (q := q) (by omega)]
      exact (hr.2.2.2 k' q hk' hq).2
  have v1 := hV.cg f1 (fun j => by omega)
  refine s_X6_bf (S := lgS S i) (W := w.B) r1 w1 k1 (by omega) v1 (fun s b => gn_or _ s b w.f hf) ha hok.2.2.2.1 (fun i hi => hi) (fun M2 f2 => ?_)
  have k32' : M2.1 32 i = nI (w.A i) := by rw [f2.1 _ _ (by unfold sF; omega), f1.1 _ _ (by omega)]; exact k32
  simp [↓wp_ldn, ↓wp_b1, ↓wp_b2, ↓wp_b2z, ↓wp_gf, ↓wp_gd, ↓wp_ga, ↓wp_gl, ↓wp_al2, ↓wp_pi, ↓wp_ltr, ↓wp_ite, ↓wp_and, ↓wp_or, ↓wp_not, ↓wp_cmp, ↓wp_cmz, ↓wp_isn, ↓wp_nsn, ↓wp_a0, ↓wp_a1, ↓wp_cv, ↓wp_cs, ↓wp_dr, ↓wp_sk, ↓wp_brk, ↓wp_cnt, ↓wp_rV, ↓wp_seq, ↓wp_iff, ↓wp_sI, ↓wp_sL, ↓wp_sN, ↓wp_inc, ↓wp_do, ↓wp_rI, ↓wp_rL, ↓wp_rN, ↓wp_rZ, ↓wp_pf, ↓wp_pz, ↓wp_pd, ↓wp_po, ↓wp_pl, ↓wp_pao, ↓wp_tsw, ↓wp_lsw, ↓wp_fn, ↓wq_ld, ↓wq_ldl, ↓wq_lda, ↓wq_c, ↓wq_gr, ↓wq_gq, ↓wq_nn, ↓wq_asI, ↓wq_asL, ↓wq_asN, ↓wq_pa, hO_0, hR_0_0, hR_0_1, hR_0_2, hR_0_3, hR_0_4, hR_0_5, hR_0_6, hR_0_7, hR_0_8, hR_0_9, hR_0_10, hR_0_11, hF_0_12, hO_1, hR_1_0, hF_1_1, hF_1_2, hF_1_3, hO_3, hR_3_0, hF_3_1, hO_5, hF_5_0, hF_5_1, hR_5_2, hR_5_3, hR_5_4, hR_5_5, hR_5_6, hR_5_7, hF_5_8, hF_5_9, hO_30, hF_30_0, hF_30_1, hF_30_2, hF_30_3, hO_31, hF_31_0, hF_31_1, hR_31_2, hR_31_3, hR_31_4, hO_35, hR_35_0, hF_35_1, hR_35_2, hF_35_3, hR_35_4, hF_35_5, hF_35_6, hR_35_7, hF_35_8, hR_35_9, hR_35_10, hO_42, hO_45, hO_48, hR_48_0, hF_48_1, hF_48_2, hR_48_3, hR_48_4, hO_94, hR_94_0, hR_94_1, hO_97, hF_97_0, hF_97_1, hF_97_2, hF_97_3, hR_97_4, hR_97_5, hR_97_6, hR_97_7, hR_97_8, hR_97_9, hR_97_10, hR_97_11, hF_97_12, hO_156, hF_156_0, hR_156_1, hR_156_2, hR_156_3, hR_156_4, hR_156_5, hR_156_6, hR_156_7, hR_156_8, fd_p_eq, fd_p_ne, fd_p_lt, fd_p_ge, fd_p_gt, fd_p_le, fd_f_iadd, fd_f_isub, fd_f_imul, fd_f_iand, fd_f_ior, fd_f_ixor, fd_f_ishl, fd_f_ishr, fd_f_iushr, fd_f_ladd, fd_f_lsub, fd_f_lmul, fd_f_lcmp, fd_f_idiv, fd_f_irem, fd_f_ldiv, fd_f_lrem, fd_f_ineg, fd_f_i2l, fd_f_l2i, fd_f_i2b, fd_f_i2s, fd_f_i2c, fd_z_idiv, fd_z_irem, fd_z_ldiv, fd_z_lrem, fd_in0, fd_sl, fd_st1, fd_st2, fd_kl, fd_vI, fd_vL, fd_vN, fd_ok1, fd_v_int, xI, xL, xR, xK, xG, yI, yL, yN, -Prod.exists, hA_32 (show i < 8 by omega), nI_clamp (show i < 2 ^ 31 by omega), k32', fd_run_of (tg _)]
  have m2 : M2.1 (k + 112) (w.A i) = nI (rop w (lgS S i) k (w.A i)) := by rw [f2.1 _ _ (by unfold sF; omega)]; exact m1
  have back : rop w (lgS S i) k (w.A i) ^^^ 2 ^ i = rop w S k (w.A i) := by rw [← tog, Nat.xor_assoc, Nat.xor_self, Nat.xor_zero]
  rw [m2, fa_xor, back]
  generalize hM3 : fd_uI M2 (k + 112) (w.A i) (nI (rop w S k (w.A i))) = M3
  have f3 : fP (fun a j => a = k + 112 ∧ j = w.A i) M2 M3 := by rw [← hM3]; exact fP.uI fP.rf ⟨rfl, rfl⟩
  have m3 : M3.1 (k + 112) (w.A i) = nI (rop w S k (w.A i)) := by rw [← hM3, rd_I, if_pos rfl, if_pos rfl]
  refine hQ1 E M3 (f1r.tr ((f2.up (fun a j z => by unfold sF at z; unfold rF; omega)).tr (f3.up (fun a j z => by unfold rF; omega)))) ⟨?_, ?_, ?_, fun k' q hk' hq => ⟨rop_lt _ _ _ _, ?_⟩⟩ ((v1.cg f2 (fun j => by unfold sF; omega)).cg f3 (fun j => by omega))
  · rw [f3.1 _ _ (by omega), f2.1 _ _ (by unfold sF; omega)]; exact r1.1
  · rw [f3.1 _ _ (by omega), f2.1 _ _ (by unfold sF; omega)]; exact r1.2.1
  · exact (r1.2.2.1.cg (by omega) f2 (fun a j x y => by unfold sF; omega)).cg (by omega) f3 (fun a j x y => by omega)
  · by_cases e : k' = k ∧ q = w.A i
    · rw [e.1, e.2]; exact m3
    · rw [f3.1 _ _ (by omega), f2.1 _ _ (by unfold sF; omega), f1.1 _ _ (by omega)]
      exact (hr.2.2.2 k' q hk' hq).2
end LO
-- FILE 95e.longcall
def lo_x : fd_T := (fd_seq (fd_sI 3 (fd_c (0 : Int32))) (fd_seq (fd_sI 4 (fd_c (-1 : Int32))) (fd_seq (fd_seq (fd_sI 5 (fd_c (0 : Int32))) (fd_whl (fd_cmp fd_p_lt (fd_ld 5) (fd_gf 1 0 (fd_gr 11 4 (fd_lda 0)))) (fd_seq (fd_sI 6 (fd_b2 fd_f_isub (fd_as fd_vI (fd_cv 11 2 m_X11_gainOfOneNight (fd_a1 .int (fd_a1 .int (fd_a1 .ref fd_a0 (fd_lda 0)) (fd_ld 5)) (fd_ld 1)))) (fd_ld 2))) (fd_iff (fd_cmp fd_p_gt (fd_ld 6) (fd_ld 3)) (fd_seq (fd_sI 3 (fd_ld 6)) (fd_sI 4 (fd_ld 5))) fd_sk)) (fd_inc 5 (1 : Int32)) fd_fu)) (fd_seq (fd_iff (fd_cmz fd_p_lt (fd_ld 4)) (fd_rI (fd_c (-2 : Int32))) fd_sk) (fd_seq (fd_do (fd_cv 4 0 m_X4_clear (fd_a1 .ref fd_a0 (fd_gr 11 1 (fd_lda 0))))) (fd_seq (fd_do (fd_cv 4 1 m_X4_add (fd_a1 .long (fd_a1 .ref fd_a0 (fd_gr 11 1 (fd_lda 0))) (fd_b1 fd_f_i2l (fd_ld 3))))) (fd_rI (fd_ld 4))))))))
theorem lo_x_eq : b_X11_longer = (fd_seq (fd_iff (fd_not (fd_cmz fd_p_ne (fd_as fd_vI (fd_cv 11 2 m_X11_canPlan (fd_a1 .int (fd_a1 .int (fd_a1 .ref fd_a0 (fd_lda 0)) (fd_ld 1)) (fd_c (10 : Int32))))))) (fd_rI (fd_c (-1 : Int32))) fd_sk) (fd_seq (fd_do (fd_cv 11 1 m_X11_layPlan (fd_a1 .int (fd_a1 .ref fd_a0 (fd_lda 0)) (fd_ld 1)))) (fd_seq (fd_do (fd_cv 6 2 m_X6_weighBids (fd_a1 .int (fd_a1 .ref (fd_a1 .ref fd_a0 (fd_gr 11 10 (fd_lda 0))) (fd_gr 11 4 (fd_lda 0))) (fd_c (1 : Int32))))) (fd_seq (fd_sI 2 (fd_as fd_vI (fd_cv 6 3 m_X6_bestFrom (fd_a1 .int (fd_a1 .int (fd_a1 .int (fd_a1 .ref fd_a0 (fd_gr 11 10 (fd_lda 0))) (fd_gf 10 1 (fd_gr 11 6 (fd_lda 0)))) (fd_gf 10 6 (fd_gr 11 6 (fd_lda 0)))) (fd_ld 1))))) lo_x)))) := rfl
def lo_m : fd_T := (fd_seq (fd_sI 3 (fd_c (-2 : Int32))) (fd_seq (fd_sI 4 (fd_c (0 : Int32))) (fd_seq (fd_seq (fd_sI 5 (fd_c (0 : Int32))) (fd_whl (fd_cmp fd_p_lt (fd_ld 5) (fd_gf 12 5 (fd_lda 0))) (fd_seq (fd_iff (fd_or (fd_cmz fd_p_ne (fd_as fd_vI (fd_cs 2 m_X12_has (fd_a1 .int (fd_a1 .int fd_a0 (fd_ga 0 (fd_gr 12 0 (fd_lda 0)) (fd_c (6 : Int32)))) (fd_ld 5))))) (fd_cmp fd_p_eq (fd_ga 0 (fd_gr 12 45 (fd_lda 0)) (fd_ld 5)) (fd_c (99 : Int32)))) fd_cnt fd_sk) (fd_seq (fd_pao fd_f_iadd (fd_gr 12 45 (fd_lda 0)) (fd_ld 5) (fd_c (1 : Int32))) (fd_seq (fd_sI 6 (fd_b2 fd_f_isub (fd_as fd_vI (fd_cv 12 1 m_X12_mostBids (fd_a1 .int (fd_a1 .ref fd_a0 (fd_lda 0)) (fd_ld 1)))) (fd_ld 2))) (fd_seq (fd_pao fd_f_isub (fd_gr 12 45 (fd_lda 0)) (fd_ld 5) (fd_c (1 : Int32))) (fd_seq (fd_iff (fd_cmp fd_p_le (fd_ld 6) (fd_ld 4)) fd_cnt fd_sk) (fd_seq (fd_sI 3 (fd_ld 5)) (fd_sI 4 (fd_ld 6)))))))) (fd_inc 5 (1 : Int32)) fd_fu)) (fd_seq (fd_iff (fd_cmz fd_p_lt (fd_ld 3)) (fd_rI (fd_c (-2 : Int32))) fd_sk) (fd_seq (fd_pf 12 16 (fd_lda 0) (fd_c (0 : Int32))) (fd_seq (fd_do (fd_cv 12 1 m_X12_tell (fd_a1 .long (fd_a1 .ref fd_a0 (fd_lda 0)) (fd_b1 fd_f_i2l (fd_ld 4))))) (fd_rI (fd_ld 3))))))))
theorem lo_m_eq : b_X12_longer = (fd_seq (fd_pf 12 17 (fd_lda 0) (fd_c (0 : Int32))) (fd_seq (fd_iff (fd_not (fd_cmz fd_p_ne (fd_as fd_vI (fd_cv 12 1 m_X12_canRound (fd_a1 .int (fd_a1 .ref fd_a0 (fd_lda 0)) (fd_ld 1)))))) (fd_rI (fd_c (-1 : Int32))) fd_sk) (fd_seq (fd_do (fd_cv 12 1 m_X12_beginRound (fd_a1 .int (fd_a1 .ref fd_a0 (fd_lda 0)) (fd_c (1 : Int32))))) (fd_seq (fd_sI 2 (fd_as fd_vI (fd_cv 12 1 m_X12_mostBids (fd_a1 .int (fd_a1 .ref fd_a0 (fd_lda 0)) (fd_ld 1))))) lo_m)))) := rfl
section LC
variable {M : fd_M} {w : wl} {S : sto} {n A : Nat}
noncomputable def lgd (w : wl) (S : sto) (n A k : Nat) : Int32 × Option Nat := lgs (lgE w S n) (fun i => nI (lgm w S n i) - nI A) k
theorem lo_x_wp (hw : wd w M) (h5 : iv_sky M) (hS : cst w.f 42 S M) (hok : sok w.v w.f 1400000 S) (hn : n ≤ 10) (ha : S.a < w.v) (hr : rT w S n M) (hV : vW w.f (fun s => gn w.f w.B s) M) (hA : A < 1000000) {c3 c4 c5 c6 : Value} {Q : Value → fd_M → Prop} (hQ0 : (lgd w S n A w.f).2 = none → ∀ M2, fP rF M M2 → Q (.int (-2)) M2) (hQ1 : ∀ j, (lgd w S n A w.f).2 = some j → ∀ M2, fZ (fun a j => rF a j ∨ (a = 3 ∧ j = 1)) (fun a _ => a = 4) M M2 → M2.1 3 1 = 1 → M2.2 4 0 = (lgd w S n A w.f).1.toInt64 → Q (.int (nI j)) M2) : fd_wp lo_x ([.ref 0, .int (nI n), .int (nI A), c3, c4, c5, c6], M) (fun z v s => z = 1 ∧ Q v s.2) := by
  have hf := hw.2.1.1
  have F1 : ∀ M1, fP rF M M1 → wd w M1 ∧ cst w.f 42 S M1 ∧ iv_sky M1 := fun M1 f1 => ⟨hw.cg (f1.sm rF_cl) (by decide) (by decide) (by decide) (by decide), hS.cg hf (fun j _ => f1.1 _ _ (by unfold rF; omega)) (fun j _ => f1.1 _ _ (by unfold rF; omega)) (fun j _ => f1.1 _ _ (by unfold rF; omega)), iv_sky_cg h5 ((f1.sm rF_cl).eq (by decide))⟩
  unfold lo_x
  simp [↓wp_ldn, ↓wp_b1, ↓wp_b2, ↓wp_b2z, ↓wp_gf, ↓wp_gd, ↓wp_ga, ↓wp_gl, ↓wp_al2, ↓wp_pi, ↓wp_ltr, ↓wp_ite, ↓wp_and, ↓wp_or, ↓wp_not, ↓wp_cmp, ↓wp_cmz, ↓wp_isn, ↓wp_nsn, ↓wp_a0, ↓wp_a1, ↓wp_cv, ↓wp_cs, ↓wp_dr, ↓wp_sk, ↓wp_brk, ↓wp_cnt, ↓wp_rV, ↓wp_seq, ↓wp_iff, ↓wp_sI, ↓wp_sL, ↓wp_sN, ↓wp_inc, ↓wp_do, ↓wp_rI, ↓wp_rL, ↓wp_rN, ↓wp_rZ, ↓wp_pf, ↓wp_pz, ↓wp_pd, ↓wp_po, ↓wp_pl, ↓wp_pao, ↓wp_tsw, ↓wp_lsw, ↓wp_fn, ↓wq_ld, ↓wq_ldl, ↓wq_lda, ↓wq_c, ↓wq_gr, ↓wq_gq, ↓wq_nn, ↓wq_asI, ↓wq_asL, ↓wq_asN, ↓wq_pa, hO_0, hR_0_0, hR_0_1, hR_0_2, hR_0_3, hR_0_4, hR_0_5, hR_0_6, hR_0_7, hR_0_8, hR_0_9, hR_0_10, hR_0_11, hF_0_12, hO_1, hR_1_0, hF_1_1, hF_1_2, hF_1_3, hO_3, hR_3_0, hF_3_1, hO_5, hF_5_0, hF_5_1, hR_5_2, hR_5_3, hR_5_4, hR_5_5, hR_5_6, hR_5_7, hF_5_8, hF_5_9, hO_30, hF_30_0, hF_30_1, hF_30_2, hF_30_3, hO_31, hF_31_0, hF_31_1, hR_31_2, hR_31_3, hR_31_4, hO_35, hR_35_0, hF_35_1, hR_35_2, hF_35_3, hR_35_4, hF_35_5, hF_35_6, hR_35_7, hF_35_8, hR_35_9, hR_35_10, hO_42, hO_45, hO_48, hR_48_0, hF_48_1, hF_48_2, hR_48_3, hR_48_4, hO_94, hR_94_0, hR_94_1, hO_97, hF_97_0, hF_97_1, hF_97_2, hF_97_3, hR_97_4, hR_97_5, hR_97_6, hR_97_7, hR_97_8, hR_97_9, hR_97_10, hR_97_11, hF_97_12, hO_156, hF_156_0, hR_156_1, hR_156_2, hR_156_3, hR_156_4, hR_156_5, hR_156_6, hR_156_7, hR_156_8, fd_p_eq, fd_p_ne, fd_p_lt, fd_p_ge, fd_p_gt, fd_p_le, fd_f_iadd, fd_f_isub, fd_f_imul, fd_f_iand, fd_f_ior, fd_f_ixor, fd_f_ishl, fd_f_ishr, fd_f_iushr, fd_f_ladd, fd_f_lsub, fd_f_lmul, fd_f_lcmp, fd_f_idiv, fd_f_irem, fd_f_ldiv, fd_f_lrem, fd_f_ineg, fd_f_i2l, fd_f_l2i, fd_f_i2b, fd_f_i2s, fd_f_i2c, fd_z_idiv, fd_z_irem, fd_z_ldiv, fd_z_lrem, fd_in0, fd_sl, fd_st1, fd_st2, fd_kl, fd_vI, fd_vL, fd_vN, fd_ok1, fd_v_int, xI, xL, xR, xK, xG, yI, yL, yN, -Prod.exists]
  obtain ⟨J, hJ⟩ : ∃ J : Nat → fd_S → Prop, J = fun k σ => ∃ (M1 : fd_M) (c6 : Value), σ = ([.ref 0, .int (nI n), .int (nI A), .int (lgd w S n A k).1, .int (lgw (-1) (lgd w S n A k).2), .int (nI k), c6], M1) ∧ fP rF M M1 ∧ rT w S n M1 ∧ vW w.f (fun s => gn w.f w.B s) M1 := ⟨_, rfl⟩
  refine wp_for w.f J (fd_fu_lt (by omega)) (Nat.zero_le _) (by rw [hJ]; exact ⟨M, _, rfl, fP.rf, hr, hV⟩) (fun k σ hk h => ?_) (fun σ h => ?_)
  · rw [hJ] at h
    obtain ⟨M1, c6, rfl, f1, r1, v1⟩ := h
    obtain ⟨w1, s1, k1⟩ := F1 M1 f1
    have c1 : nI k < nI w.f := nI_lt hk (by omega)
    have nn : (0 : Int32) ≤ (lgd w S n A k).1 := lgs_nn _ _ _
    have el : lgd w S n A (k + 1) = if rch (lgE w S n k) = true ∧ (lgd w S n A k).1 < nI (lgm w S n k) - nI A then (nI (lgm w S n k) - nI A, some k) else lgd w S n A k := rfl
    simp [↓wp_ldn, ↓wp_b1, ↓wp_b2, ↓wp_b2z, ↓wp_gf, ↓wp_gd, ↓wp_ga, ↓wp_gl, ↓wp_al2, ↓wp_pi, ↓wp_ltr, ↓wp_ite, ↓wp_and, ↓wp_or, ↓wp_not, ↓wp_cmp, ↓wp_cmz, ↓wp_isn, ↓wp_nsn, ↓wp_a0, ↓wp_a1, ↓wp_cv, ↓wp_cs, ↓wp_dr, ↓wp_sk, ↓wp_brk, ↓wp_cnt, ↓wp_rV, ↓wp_seq, ↓wp_iff, ↓wp_sI, ↓wp_sL, ↓wp_sN, ↓wp_inc, ↓wp_do, ↓wp_rI, ↓wp_rL, ↓wp_rN, ↓wp_rZ, ↓wp_pf, ↓wp_pz, ↓wp_pd, ↓wp_po, ↓wp_pl, ↓wp_pao, ↓wp_tsw, ↓wp_lsw, ↓wp_fn, ↓wq_ld, ↓wq_ldl, ↓wq_lda, ↓wq_c, ↓wq_gr, ↓wq_gq, ↓wq_nn, ↓wq_asI, ↓wq_asL, ↓wq_asN, ↓wq_pa, hO_0, hR_0_0, hR_0_1, hR_0_2, hR_0_3, hR_0_4, hR_0_5, hR_0_6, hR_0_7, hR_0_8, hR_0_9, hR_0_10, hR_0_11, hF_0_12, hO_1, hR_1_0, hF_1_1, hF_1_2, hF_1_3, hO_3, hR_3_0, hF_3_1, hO_5, hF_5_0, hF_5_1, hR_5_2, hR_5_3, hR_5_4, hR_5_5, hR_5_6, hR_5_7, hF_5_8, hF_5_9, hO_30, hF_30_0, hF_30_1, hF_30_2, hF_30_3, hO_31, hF_31_0, hF_31_1, hR_31_2, hR_31_3, hR_31_4, hO_35, hR_35_0, hF_35_1, hR_35_2, hF_35_3, hR_35_4, hF_35_5, hF_35_6, hR_35_7, hF_35_8, hR_35_9, hR_35_10, hO_42, hO_45, hO_48, hR_48_0, hF_48_1, hF_48_2, hR_48_3, hR_48_4, hO_94, hR_94_0, hR_94_1, hO_97, hF_97_0, hF_97_1, hF_97_2, hF_97_3, hR_97_4, hR_97_5, hR_97_6, hR_97_7, hR_97_8, hR_97_9, hR_97_10, hR_97_11, hF_97_12, hO_156, hF_156_0, hR_156_1, hR_156_2, hR_156_3, hR_156_4, hR_156_5, hR_156_6, hR_156_7, hR_156_8, fd_p_eq, fd_p_ne, fd_p_lt, fd_p_ge, fd_p_gt, fd_p_le, fd_f_iadd, fd_f_isub, fd_f_imul, fd_f_iand, fd_f_ior, fd_f_ixor, fd_f_ishl, fd_f_ishr, fd_f_iushr, fd_f_ladd, fd_f_lsub, fd_f_lmul, fd_f_lcmp, fd_f_idiv, fd_f_irem, fd_f_ldiv, fd_f_lrem, fd_f_ineg, fd_f_i2l, fd_f_l2i, fd_f_i2b, fd_f_i2s, fd_f_i2c, fd_z_idiv, fd_z_irem, fd_z_ldiv, fd_z_lrem, fd_in0, fd_sl, fd_st1, fd_st2, fd_kl, fd_vI, fd_vL, fd_vN, fd_ok1, fd_v_int, xI, xL, xR, xK, xG, yI, yL, yN, -Prod.exists, w1.2.1.2.1, c1]
    refine s_X11_gain1 hk w1 k1 s1 hok hn ha r1 v1 (fun E => ?_) (fun E M2 f2 r2 v2 => ?_)
    · rw [if_neg (fun z => E (rch_iff.mp z.1))] at el
      have ng := neg_le0 hA nn
      simp [↓wp_ldn, ↓wp_b1, ↓wp_b2, ↓wp_b2z, ↓wp_gf, ↓wp_gd, ↓wp_ga, ↓wp_gl, ↓wp_al2, ↓wp_pi, ↓wp_ltr, ↓wp_ite, ↓wp_and, ↓wp_or, ↓wp_not, ↓wp_cmp, ↓wp_cmz, ↓wp_isn, ↓wp_nsn, ↓wp_a0, ↓wp_a1, ↓wp_cv, ↓wp_cs, ↓wp_dr, ↓wp_sk, ↓wp_brk, ↓wp_cnt, ↓wp_rV, ↓wp_seq, ↓wp_iff, ↓wp_sI, ↓wp_sL, ↓wp_sN, ↓wp_inc, ↓wp_do, ↓wp_rI, ↓wp_rL, ↓wp_rN, ↓wp_rZ, ↓wp_pf, ↓wp_pz, ↓wp_pd, ↓wp_po, ↓wp_pl, ↓wp_pao, ↓wp_tsw, ↓wp_lsw, ↓wp_fn, ↓wq_ld, ↓wq_ldl, ↓wq_lda, ↓wq_c, ↓wq_gr, ↓wq_gq, ↓wq_nn, ↓wq_asI, ↓wq_asL, ↓wq_asN, ↓wq_pa, hO_0, hR_0_0, hR_0_1, hR_0_2, hR_0_3, hR_0_4, hR_0_5, hR_0_6, hR_0_7, hR_0_8, hR_0_9, hR_0_10, hR_0_11, hF_0_12, hO_1, hR_1_0, hF_1_1, hF_1_2, hF_1_3, hO_3, hR_3_0, hF_3_1, hO_5, hF_5_0, hF_5_1, hR_5_2, hR_5_3, hR_5_4, hR_5_5, hR_5_6, hR_5_7, hF_5_8, hF_5_9, hO_30, hF_30_0, hF_30_1, hF_30_2, hF_30_3, hO_31, hF_31_0, hF_31_1, hR_31_2, hR_31_3, hR_31_4, hO_35, hR_35_0, hF_35_1, hR_35_2, hF_35_3, hR_35_4, hF_35_5, hF_35_6, hR_35_7, hF_35_8, hR_35_9, hR_35_10, hO_42, hO_45, hO_48, hR_48_0, hF_48_1, hF_48_2, hR_48_3, hR_48_4, hO_94, hR_94_0, hR_94_1, hO_97, hF_97_0, hF_97_1, hF_97_2, hF_97_3, hR_97_4, hR_97_5, hR_97_6, hR_97_7, hR_97_8, hR_97_9, hR_97_10, hR_97_11, hF_97_12, hO_156, hF_156_0, hR_156_1, hR_156_2, hR_156_3, hR_156_4, hR_156_5, hR_156_6, hR_156_7, hR_156_8, fd_p_eq, fd_p_ne, fd_p_lt, fd_p_ge, fd_p_gt, fd_p_le, fd_f_iadd, fd_f_isub, fd_f_imul, fd_f_iand, fd_f_ior, fd_f_ixor, fd_f_ishl, fd_f_ishr, fd_f_iushr, fd_f_ladd, fd_f_lsub, fd_f_lmul, fd_f_lcmp, fd_f_idiv, fd_f_irem, fd_f_ldiv, fd_f_lrem, fd_f_ineg, fd_f_i2l, fd_f_l2i, fd_f_i2b, fd_f_i2s, fd_f_i2c, fd_z_idiv, fd_z_irem, fd_z_ldiv, fd_z_lrem, fd_in0, fd_sl, fd_st1, fd_st2, fd_kl, fd_vI, fd_vL, fd_vN, fd_ok1, fd_v_int, xI, xL, xR, xK, xG, yI, yL, yN, -Prod.exists, ng, Int32.not_lt.mp ng, nI_1]
      rw [hJ]
      dsimp only
      rw [el]
      exact ⟨M1, _, rfl, f1, r1, v1⟩
    · rcases lt_cases (lgd w S n A k).1 (nI (lgm w S n k) - nI A) with ⟨d, d'⟩ | ⟨d, d'⟩
      · rw [if_pos ⟨rch_iff.mpr E, d⟩] at el
        simp [↓wp_ldn, ↓wp_b1, ↓wp_b2, ↓wp_b2z, ↓wp_gf, ↓wp_gd, ↓wp_ga, ↓wp_gl, ↓wp_al2, ↓wp_pi, ↓wp_ltr, ↓wp_ite, ↓wp_and, ↓wp_or, ↓wp_not, ↓wp_cmp, ↓wp_cmz, ↓wp_isn, ↓wp_nsn, ↓wp_a0, ↓wp_a1, ↓wp_cv, ↓wp_cs, ↓wp_dr, ↓wp_sk, ↓wp_brk, ↓wp_cnt, ↓wp_rV, ↓wp_seq, ↓wp_iff, ↓wp_sI, ↓wp_sL, ↓wp_sN, ↓wp_inc, ↓wp_do, ↓wp_rI, ↓wp_rL, ↓wp_rN, ↓wp_rZ, ↓wp_pf, ↓wp_pz, ↓wp_pd, ↓wp_po, ↓wp_pl, ↓wp_pao, ↓wp_tsw, ↓wp_lsw, ↓wp_fn, ↓wq_ld, ↓wq_ldl, ↓wq_lda, ↓wq_c, ↓wq_gr, ↓wq_gq, ↓wq_nn, ↓wq_asI, ↓wq_asL, ↓wq_asN, ↓wq_pa, hO_0, hR_0_0, hR_0_1, hR_0_2, hR_0_3, hR_0_4, hR_0_5, hR_0_6, hR_0_7, hR_0_8, hR_0_9, hR_0_10, hR_0_11, hF_0_12, hO_1, hR_1_0, hF_1_1, hF_1_2, hF_1_3, hO_3, hR_3_0, hF_3_1, hO_5, hF_5_0, hF_5_1, hR_5_2, hR_5_3, hR_5_4, hR_5_5, hR_5_6, hR_5_7, hF_5_8, hF_5_9, hO_30, hF_30_0, hF_30_1, hF_30_2, hF_30_3, hO_31, hF_31_0, hF_31_1, hR_31_2, hR_31_3, hR_31_4, hO_35, hR_35_0, hF_35_1, hR_35_2, hF_35_3, hR_35_4, hF_35_5, hF_35_6, hR_35_7, hF_35_8, hR_35_9, hR_35_10, hO_42, hO_45, hO_48, hR_48_0, hF_48_1, hF_48_2, hR_48_3, hR_48_4, hO_94, hR_94_0, hR_94_1, hO_97, hF_97_0, hF_97_1, hF_97_2, hF_97_3, hR_97_4, hR_97_5, hR_97_6, hR_97_7, hR_97_8, hR_97_9, hR_97_10, hR_97_11, hF_97_12, hO_156, hF_156_0, hR_156_1, hR_156_2, hR_156_3, hR_156_4, hR_156_5, hR_156_6, hR_156_7, hR_156_8, fd_p_eq, fd_p_ne, fd_p_lt, fd_p_ge, fd_p_gt, fd_p_le, fd_f_iadd, fd_f_isub, fd_f_imul, fd_f_iand, fd_f_ior, fd_f_ixor, fd_f_ishl, fd_f_ishr, fd_f_iushr, fd_f_ladd, fd_f_lsub, fd_f_lmul, fd_f_lcmp, fd_f_idiv, fd_f_irem, fd_f_ldiv, fd_f_lrem, fd_f_ineg, fd_f_i2l, fd_f_l2i, fd_f_i2b, fd_f_i2s, fd_f_i2c, fd_z_idiv, fd_z_irem, fd_z_ldiv, fd_z_lrem, fd_in0, fd_sl, fd_st1, fd_st2, fd_kl, fd_vI, fd_vL, fd_vN, fd_ok1, fd_v_int, xI, xL, xR, xK, xG, yI, yL, yN, -Prod.exists, d, nI_1]
        rw [hJ]
        dsimp only
        rw [el]
        exact ⟨M2, _, rfl, f1.tr f2, r2, v2⟩
      · rw [if_neg (fun z => d z.2)] at el
        simp [↓wp_ldn, ↓wp_b1, ↓wp_b2, ↓wp_b2z, ↓wp_gf, ↓wp_gd, ↓wp_ga, ↓wp_gl, ↓wp_al2, ↓wp_pi, ↓wp_ltr, ↓wp_ite, ↓wp_and, ↓wp_or, ↓wp_not, ↓wp_cmp, ↓wp_cmz, ↓wp_isn, ↓wp_nsn, ↓wp_a0, ↓wp_a1, ↓wp_cv, ↓wp_cs, ↓wp_dr, ↓wp_sk, ↓wp_brk, ↓wp_cnt, ↓wp_rV, ↓wp_seq, ↓wp_iff, ↓wp_sI, ↓wp_sL, ↓wp_sN, ↓wp_inc, ↓wp_do, ↓wp_rI, ↓wp_rL, ↓wp_rN, ↓wp_rZ, ↓wp_pf, ↓wp_pz, ↓wp_pd, ↓wp_po, ↓wp_pl, ↓wp_pao, ↓wp_tsw, ↓wp_lsw, ↓wp_fn, ↓wq_ld, ↓wq_ldl, ↓wq_lda, ↓wq_c, ↓wq_gr, ↓wq_gq, ↓wq_nn, ↓wq_asI, ↓wq_asL, ↓wq_asN, ↓wq_pa, hO_0, hR_0_0, hR_0_1, hR_0_2, hR_0_3, hR_0_4, hR_0_5, hR_0_6, hR_0_7, hR_0_8, hR_0_9, hR_0_10, hR_0_11, hF_0_12, hO_1, hR_1_0, hF_1_1, hF_1_2, hF_1_3, hO_3, hR_3_0, hF_3_1, hO_5, hF_5_0, hF_5_1, hR_5_2, hR_5_3, hR_5_4, hR_5_5, hR_5_6, hR_5_7, hF_5_8, hF_5_9, hO_30, hF_30_0, hF_30_1, hF_30_2, hF_30_3, hO_31, hF_31_0, hF_31_1, hR_31_2, hR_31_3, hR_31_4, hO_35, hR_35_0, hF_35_1, hR_35_2, hF_35_3, hR_35_4, hF_35_5, hF_35_6, hR_35_7, hF_35_8, hR_35_9, hR_35_10, hO_42, hO_45, hO_48, hR_48_0, hF_48_1, hF_48_2, hR_48_3, hR_48_4, hO_94, hR_94_0, hR_94_1, hO_97, hF_97_0, hF_97_1, hF_97_2, hF_97_3, hR_97_4, hR_97_5, hR_97_6, hR_97_7, hR_97_8, hR_97_9, hR_97_10, hR_97_11, hF_97_12, hO_156, hF_156_0, hR_156_1, hR_156_2, hR_156_3, hR_156_4, hR_156_5, hR_156_6, hR_156_7, hR_156_8, fd_p_eq, fd_p_ne, fd_p_lt, fd_p_ge, fd_p_gt, fd_p_le, fd_f_iadd, fd_f_isub, fd_f_imul, fd_f_iand, fd_f_ior, fd_f_ixor, fd_f_ishl, fd_f_ishr, fd_f_iushr, fd_f_ladd, fd_f_lsub, fd_f_lmul, fd_f_lcmp, fd_f_idiv, fd_f_irem, fd_f_ldiv, fd_f_lrem, fd_f_ineg, fd_f_i2l, fd_f_l2i, fd_f_i2b, fd_f_i2s, fd_f_i2c, fd_z_idiv, fd_z_irem, fd_z_ldiv, fd_z_lrem, fd_in0, fd_sl, fd_st1, fd_st2, fd_kl, fd_vI, fd_vL, fd_vN, fd_ok1, fd_v_int, xI, xL, xR, xK, xG, yI, yL, yN, -Prod.exists, d, d', nI_1]
        rw [hJ]
        dsimp only
        rw [el]
        exact ⟨M2, _, rfl, f1.tr f2, r2, v2⟩
  · rw [hJ] at h
    obtain ⟨M1, c6, rfl, f1, r1, v1⟩ := h
    obtain ⟨w1, s1, k1⟩ := F1 M1 f1
    cases e : (lgd w S n A w.f).2 with
    | none =>
      have b1 : (-1 : Int32) < 0 := by decide
      simp [↓wp_ldn, ↓wp_b1, ↓wp_b2, ↓wp_b2z, ↓wp_gf, ↓wp_gd, ↓wp_ga, ↓wp_gl, ↓wp_al2, ↓wp_pi, ↓wp_ltr, ↓wp_ite, ↓wp_and, ↓wp_or, ↓wp_not, ↓wp_cmp, ↓wp_cmz, ↓wp_isn, ↓wp_nsn, ↓wp_a0, ↓wp_a1, ↓wp_cv, ↓wp_cs, ↓wp_dr, ↓wp_sk, ↓wp_brk, ↓wp_cnt, ↓wp_rV, ↓wp_seq, ↓wp_iff, ↓wp_sI, ↓wp_sL, ↓wp_sN, ↓wp_inc, ↓wp_do, ↓wp_rI, ↓wp_rL, ↓wp_rN, ↓wp_rZ, ↓wp_pf, ↓wp_pz, ↓wp_pd, ↓wp_po, ↓wp_pl, ↓wp_pao, ↓wp_tsw, ↓wp_lsw, ↓wp_fn, ↓wq_ld, ↓wq_ldl, ↓wq_lda, ↓wq_c, ↓wq_gr, ↓wq_gq, ↓wq_nn, ↓wq_asI, ↓wq_asL, ↓wq_asN, ↓wq_pa, hO_0, hR_0_0, hR_0_1, hR_0_2, hR_0_3, hR_0_4, hR_0_5, hR_0_6, hR_0_7, hR_0_8, hR_0_9, hR_0_10, hR_0_11, hF_0_12, hO_1, hR_1_0, hF_1_1, hF_1_2, hF_1_3, hO_3, hR_3_0, hF_3_1, hO_5, hF_5_0, hF_5_1, hR_5_2, hR_5_3, hR_5_4, hR_5_5, hR_5_6, hR_5_7, hF_5_8, hF_5_9, hO_30, hF_30_0, hF_30_1, hF_30_2, hF_30_3, hO_31, hF_31_0, hF_31_1, hR_31_2, hR_31_3, hR_31_4, hO_35, hR_35_0, hF_35_1, hR_35_2, hF_35_3, hR_35_4, hF_35_5, hF_35_6, hR_35_7, hF_35_8, hR_35_9, hR_35_10, hO_42, hO_45, hO_48, hR_48_0, hF_48_1, hF_48_2, hR_48_3, hR_48_4, hO_94, hR_94_0, hR_94_1, hO_97, hF_97_0, hF_97_1, hF_97_2, hF_97_3, hR_97_4, hR_97_5, hR_97_6, hR_97_7, hR_97_8, hR_97_9, hR_97_10, hR_97_11, hF_97_12, hO_156, hF_156_0, hR_156_1, hR_156_2, hR_156_3, hR_156_4, hR_156_5, hR_156_6, hR_156_7, hR_156_8, fd_p_eq, fd_p_ne, fd_p_lt, fd_p_ge, fd_p_gt, fd_p_le, fd_f_iadd, fd_f_isub, fd_f_imul, fd_f_iand, fd_f_ior, fd_f_ixor, fd_f_ishl, fd_f_ishr, fd_f_iushr, fd_f_ladd, fd_f_lsub, fd_f_lmul, fd_f_lcmp, fd_f_idiv, fd_f_irem, fd_f_ldiv, fd_f_lrem, fd_f_ineg, fd_f_i2l, fd_f_l2i, fd_f_i2b, fd_f_i2s, fd_f_i2c, fd_z_idiv, fd_z_irem, fd_z_ldiv, fd_z_lrem, fd_in0, fd_sl, fd_st1, fd_st2, fd_kl, fd_vI, fd_vL, fd_vN, fd_ok1, fd_v_int, xI, xL, xR, xK, xG, yI, yL, yN, -Prod.exists, w1.2.1.2.1, lt_self, lgw, b1]
      exact hQ0 e M1 f1
    | some j =>
      have jl : j < w.f := lgs_lt _ _ _ _ e
      have b1 : ¬ nI j < 0 := nI_pos (by omega)
      simp [↓wp_ldn, ↓wp_b1, ↓wp_b2, ↓wp_b2z, ↓wp_gf, ↓wp_gd, ↓wp_ga, ↓wp_gl, ↓wp_al2, ↓wp_pi, ↓wp_ltr, ↓wp_ite, ↓wp_and, ↓wp_or, ↓wp_not, ↓wp_cmp, ↓wp_cmz, ↓wp_isn, ↓wp_nsn, ↓wp_a0, ↓wp_a1, ↓wp_cv, ↓wp_cs, ↓wp_dr, ↓wp_sk, ↓wp_brk, ↓wp_cnt, ↓wp_rV, ↓wp_seq, ↓wp_iff, ↓wp_sI, ↓wp_sL, ↓wp_sN, ↓wp_inc, ↓wp_do, ↓wp_rI, ↓wp_rL, ↓wp_rN, ↓wp_rZ, ↓wp_pf, ↓wp_pz, ↓wp_pd, ↓wp_po, ↓wp_pl, ↓wp_pao, ↓wp_tsw, ↓wp_lsw, ↓wp_fn, ↓wq_ld, ↓wq_ldl, ↓wq_lda, ↓wq_c, ↓wq_gr, ↓wq_gq, ↓wq_nn, ↓wq_asI, ↓wq_asL, ↓wq_asN, ↓wq_pa, hO_0, hR_0_0, hR_0_1, hR_0_2, hR_0_3, hR_0_4, hR_0_5, hR_0_6, hR_0_7, hR_0_8, hR_0_9, hR_0_10, hR_0_11, hF_0_12, hO_1, hR_1_0, hF_1_1, hF_1_2, hF_1_3, hO_3, hR_3_0, hF_3_1, hO_5, hF_5_0, hF_5_1, hR_5_2, hR_5_3, hR_5_4, hR_5_5, hR_5_6, hR_5_7, hF_5_8, hF_5_9, hO_30, hF_30_0, hF_30_1, hF_30_2, hF_30_3, hO_31, hF_31_0, hF_31_1, hR_31_2, hR_31_3, hR_31_4, hO_35, hR_35_0, hF_35_1, hR_35_2, hF_35_3, hR_35_4, hF_35_5, hF_35_6, hR_35_7, hF_35_8, hR_35_9, hR_35_10, hO_42, hO_45, hO_48, hR_48_0, hF_48_1, hF_48_2, hR_48_3, hR_48_4, hO_94, hR_94_0, hR_94_1, hO_97, hF_97_0, hF_97_1, hF_97_2, hF_97_3, hR_97_4, hR_97_5, hR_97_6, hR_97_7, hR_97_8, hR_97_9, hR_97_10, hR_97_11, hF_97_12, hO_156, hF_156_0, hR_156_1, hR_156_2, hR_156_3, hR_156_4, hR_156_5, hR_156_6, hR_156_7, hR_156_8, fd_p_eq, fd_p_ne, fd_p_lt, fd_p_ge, fd_p_gt, fd_p_le, fd_f_iadd, fd_f_isub, fd_f_imul, fd_f_iand, fd_f_ior, fd_f_ixor, fd_f_ishl, fd_f_ishr, fd_f_iushr, fd_f_ladd, fd_f_lsub, fd_f_lmul, fd_f_lcmp, fd_f_idiv, fd_f_irem, fd_f_ldiv, fd_f_lrem, fd_f_ineg, fd_f_i2l, fd_f_l2i, fd_f_i2b, fd_f_i2s, fd_f_i2c, fd_z_idiv, fd_z_irem, fd_z_ldiv, fd_z_lrem, fd_in0, fd_sl, fd_st1, fd_st2, fd_kl, fd_vI, fd_vL, fd_vN, fd_ok1, fd_v_int, xI, xL, xR, xK, xG, yI, yL, yN, -Prod.exists, w1.2.1.2.1, lt_self, lgw, b1, Int32.not_lt.mp b1, t_clear, t_add0, rd_I]
      refine hQ1 j e _ (fZ.uI (fZ.uL (fZ.uI (fZ.up f1.fZ (L := fun _ _ => False) (fun a j z => Or.inl z) (fun a j z => z.elim)) (Or.inr ⟨rfl, rfl⟩)) rfl) (Or.inr ⟨rfl, rfl⟩)) ?_ ?_
      · simp [rd_I]
      · simp [rd_L, rd_I2]
theorem lo_m_wp (hr : rQ w S w.B S.Y M) (h5 : iv_sky M) (hok : sok w.v w.f 1400000 S) (hn : n ≤ 10) (ha : S.a < w.v) (hA : A = ms w.v (rnr w S.n) (rpl w S S.Y) (gn w.f w.B) n 0 S.a S.pl) {c3 c4 c5 c6 : Value} {Q : Value → fd_M → Prop} (hQ0 : (lgd w S n A w.f).2 = none → ∀ M2, fP (fun a _ => a = 201 ∨ a = 203) M M2 → Q (.int (-2)) M2) (hQ1 : ∀ j, (lgd w S n A w.f).2 = some j → ∀ M2, fZ (fun a j => a = 201 ∨ a = 203 ∨ (a = 182 ∧ j = 16)) (fun a _ => a = 190) M M2 → M2.1 182 16 = 1 → M2.2 190 0 = (lgd w S n A w.f).1.toInt64 → Q (.int (nI j)) M2) : fd_wp lo_m ([.ref 182, .int (nI n), .int (nI A), c3, c4, c5, c6], M) (fun z v s => z = 1 ∧ Q v s.2) := by
  have hw := hr.1
  have hf := hw.2.1.1
  have hSn : S.n ≤ 1400000 := hok.1
  have y6 : fd_isA 183 0 6 = true := hA_183 (i := 6) (by omega)
  have z6 : (6 : Int32).toNatClampNeg = 6 := rfl
  have k6 : M.1 183 6 = nI S.pl := by have := hr.2.1.2.2.2.2.2.2.1; rwa [Nat.zero_add] at this
  have f0 : ∀ M1, fP (fun a _ => a = 201 ∨ a = 203) M M1 → fd_sm [0] M M1 := fun M1 f1 => f1.sm (fun k j z => by rcases z with rfl | rfl <;> simp [cl])
  unfold lo_m
  simp [↓wp_ldn, ↓wp_b1, ↓wp_b2, ↓wp_b2z, ↓wp_gf, ↓wp_gd, ↓wp_ga, ↓wp_gl, ↓wp_al2, ↓wp_pi, ↓wp_ltr, ↓wp_ite, ↓wp_and, ↓wp_or, ↓wp_not, ↓wp_cmp, ↓wp_cmz, ↓wp_isn, ↓wp_nsn, ↓wp_a0, ↓wp_a1, ↓wp_cv, ↓wp_cs, ↓wp_dr, ↓wp_sk, ↓wp_brk, ↓wp_cnt, ↓wp_rV, ↓wp_seq, ↓wp_iff, ↓wp_sI, ↓wp_sL, ↓wp_sN, ↓wp_inc, ↓wp_do, ↓wp_rI, ↓wp_rL, ↓wp_rN, ↓wp_rZ, ↓wp_pf, ↓wp_pz, ↓wp_pd, ↓wp_po, ↓wp_pl, ↓wp_pao, ↓wp_tsw, ↓wp_lsw, ↓wp_fn, ↓wq_ld, ↓wq_ldl, ↓wq_lda, ↓wq_c, ↓wq_gr, ↓wq_gq, ↓wq_nn, ↓wq_asI, ↓wq_asL, ↓wq_asN, ↓wq_pa, hO_182, hR_182_0, hF_182_1, hR_182_2, hF_182_3, hR_182_4, hF_182_5, hR_182_6, hR_182_7, hR_182_8, hF_182_9, hF_182_10, hF_182_11, hF_182_12, hR_182_13, hF_182_14, hR_182_15, hF_182_16, hF_182_17, hF_182_18, hF_182_19, hF_182_20, hF_182_21, hF_182_22, hR_182_23, hR_182_24, hF_182_25, hF_182_26, hR_182_27, hR_182_28, hR_182_29, hF_182_30, hF_182_31, hR_182_32, hR_182_33, hF_182_34, hR_182_35, hF_182_36, hF_182_37, hF_182_38, hF_182_39, hF_182_40, hR_182_41, hR_182_42, hR_182_43, hR_182_44, hR_182_45, hR_182_46, hF_182_47, hR_182_48, hR_182_49, hR_182_50, hR_182_51, hR_182_52, hF_182_53, hR_182_54, hR_182_55, hR_182_56, hR_182_57, hF_182_58, hR_182_59, hR_182_60, hR_182_61, fd_p_eq, fd_p_ne, fd_p_lt, fd_p_ge, fd_p_gt, fd_p_le, fd_f_iadd, fd_f_isub, fd_f_imul, fd_f_iand, fd_f_ior, fd_f_ixor, fd_f_ishl, fd_f_ishr, fd_f_iushr, fd_f_ladd, fd_f_lsub, fd_f_lmul, fd_f_lcmp, fd_f_idiv, fd_f_irem, fd_f_ldiv, fd_f_lrem, fd_f_ineg, fd_f_i2l, fd_f_l2i, fd_f_i2b, fd_f_i2s, fd_f_i2c, fd_z_idiv, fd_z_irem, fd_z_ldiv, fd_z_lrem, fd_in0, fd_sl, fd_st1, fd_st2, fd_kl, fd_vI, fd_vL, fd_vN, fd_ok1, fd_v_int, xI, xL, xR, xK, xG, yI, yL, yN, -Prod.exists]
  obtain ⟨J, hJ⟩ : ∃ J : Nat → fd_S → Prop, J = fun k σ => ∃ (M1 : fd_M) (c6 : Value), σ = ([.ref 182, .int (nI n), .int (nI A), .int (lgw (-2) (lgd w S n A k).2), .int (lgd w S n A k).1, .int (nI k), c6], M1) ∧ fP (fun a _ => a = 201 ∨ a = 203) M M1 ∧ lW w.f S.Y M1 := ⟨_, rfl⟩
  refine wp_for w.f J (fd_fu_lt (by omega)) (Nat.zero_le _) (by rw [hJ]; exact ⟨M, _, rfl, fP.rf, hr.2.2.1⟩) (fun k σ hk h => ?_) (fun σ h => ?_)
  · rw [hJ] at h
    obtain ⟨M1, c6, rfl, f1, l1⟩ := h
    have w1 := hw.cg (f0 M1 f1) (by decide) (by decide) (by decide) (by decide)
    have c1 : nI k < nI w.f := nI_lt hk (by omega)
    have k6' : M1.1 183 6 = nI S.pl := by rw [f1.1 _ _ (by omega)]; exact k6
    have eh := s_X12_hasN (b := S.pl) (show k < 31 by omega) M1
    have nn : (0 : Int32) ≤ (lgd w S n A k).1 := lgs_nn _ _ _
    have el : lgd w S n A (k + 1) = if rch (lgE w S n k) = true ∧ (lgd w S n A k).1 < nI (lgm w S n k) - nI A then (nI (lgm w S n k) - nI A, some k) else lgd w S n A k := rfl
    obtain ⟨x1, x2⟩ := hok.2.2.2.2.2 k hk
    obtain ⟨ly, _⟩ := l1 k hk
    have skip : ¬ lgE w S n k → ∀ M2 : fd_M, fP (fun a _ => a = 201 ∨ a = 203) M M2 → lW w.f S.Y M2 → ∀ c6, J (k + 1) ([.ref 182, .int (nI n), .int (nI A), .int (lgw (-2) (lgd w S n A k).2), .int (lgd w S n A k).1, .int (nI (k + 1)), c6], M2) := fun E M2 f2 l2 c6 => by
      rw [if_neg (fun z => E (rch_iff.mp z.1))] at el
      rw [hJ]
      dsimp only
      rw [el]
      exact ⟨M2, _, rfl, f2, l2⟩
    by_cases hp : S.pl.testBit k = true
    · rw [if_pos hp] at eh
      simp [↓wp_ldn, ↓wp_b1, ↓wp_b2, ↓wp_b2z, ↓wp_gf, ↓wp_gd, ↓wp_ga, ↓wp_gl, ↓wp_al2, ↓wp_pi, ↓wp_ltr, ↓wp_ite, ↓wp_and, ↓wp_or, ↓wp_not, ↓wp_cmp, ↓wp_cmz, ↓wp_isn, ↓wp_nsn, ↓wp_a0, ↓wp_a1, ↓wp_cv, ↓wp_cs, ↓wp_dr, ↓wp_sk, ↓wp_brk, ↓wp_cnt, ↓wp_rV, ↓wp_seq, ↓wp_iff, ↓wp_sI, ↓wp_sL, ↓wp_sN, ↓wp_inc, ↓wp_do, ↓wp_rI, ↓wp_rL, ↓wp_rN, ↓wp_rZ, ↓wp_pf, ↓wp_pz, ↓wp_pd, ↓wp_po, ↓wp_pl, ↓wp_pao, ↓wp_tsw, ↓wp_lsw, ↓wp_fn, ↓wq_ld, ↓wq_ldl, ↓wq_lda, ↓wq_c, ↓wq_gr, ↓wq_gq, ↓wq_nn, ↓wq_asI, ↓wq_asL, ↓wq_asN, ↓wq_pa, hO_182, hR_182_0, hF_182_1, hR_182_2, hF_182_3, hR_182_4, hF_182_5, hR_182_6, hR_182_7, hR_182_8, hF_182_9, hF_182_10, hF_182_11, hF_182_12, hR_182_13, hF_182_14, hR_182_15, hF_182_16, hF_182_17, hF_182_18, hF_182_19, hF_182_20, hF_182_21, hF_182_22, hR_182_23, hR_182_24, hF_182_25, hF_182_26, hR_182_27, hR_182_28, hR_182_29, hF_182_30, hF_182_31, hR_182_32, hR_182_33, hF_182_34, hR_182_35, hF_182_36, hF_182_37, hF_182_38, hF_182_39, hF_182_40, hR_182_41, hR_182_42, hR_182_43, hR_182_44, hR_182_45, hR_182_46, hF_182_47, hR_182_48, hR_182_49, hR_182_50, hR_182_51, hR_182_52, hF_182_53, hR_182_54, hR_182_55, hR_182_56, hR_182_57, hF_182_58, hR_182_59, hR_182_60, hR_182_61, fd_p_eq, fd_p_ne, fd_p_lt, fd_p_ge, fd_p_gt, fd_p_le, fd_f_iadd, fd_f_isub, fd_f_imul, fd_f_iand, fd_f_ior, fd_f_ixor, fd_f_ishl, fd_f_ishr, fd_f_iushr, fd_f_ladd, fd_f_lsub, fd_f_lmul, fd_f_lcmp, fd_f_idiv, fd_f_irem, fd_f_ldiv, fd_f_lrem, fd_f_ineg, fd_f_i2l, fd_f_l2i, fd_f_i2b, fd_f_i2s, fd_f_i2c, fd_z_idiv, fd_z_irem, fd_z_ldiv, fd_z_lrem, fd_in0, fd_sl, fd_st1, fd_st2, fd_kl, fd_vI, fd_vL, fd_vN, fd_ok1, fd_v_int, xI, xL, xR, xK, xG, yI, yL, yN, -Prod.exists, w1.2.1.2.2.1, c1, y6, z6, k6', fd_run_of eh, nI_1]
      exact skip (fun z => by have := z.1; rw [hp] at this; exact absurd this (by decide)) M1 f1 l1 _
    rw [if_neg hp] at eh
    have hpf : S.pl.testBit k = false := by simpa using hp
    by_cases h99 : S.Y k = 99
    · have e99 : nI (S.Y k) = 99 := by rw [h99]; rfl
      simp [↓wp_ldn, ↓wp_b1, ↓wp_b2, ↓wp_b2z, ↓wp_gf, ↓wp_gd, ↓wp_ga, ↓wp_gl, ↓wp_al2, ↓wp_pi, ↓wp_ltr, ↓wp_ite, ↓wp_and, ↓wp_or, ↓wp_not, ↓wp_cmp, ↓wp_cmz, ↓wp_isn, ↓wp_nsn, ↓wp_a0, ↓wp_a1, ↓wp_cv, ↓wp_cs, ↓wp_dr, ↓wp_sk, ↓wp_brk, ↓wp_cnt, ↓wp_rV, ↓wp_seq, ↓wp_iff, ↓wp_sI, ↓wp_sL, ↓wp_sN, ↓wp_inc, ↓wp_do, ↓wp_rI, ↓wp_rL, ↓wp_rN, ↓wp_rZ, ↓wp_pf, ↓wp_pz, ↓wp_pd, ↓wp_po, ↓wp_pl, ↓wp_pao, ↓wp_tsw, ↓wp_lsw, ↓wp_fn, ↓wq_ld, ↓wq_ldl, ↓wq_lda, ↓wq_c, ↓wq_gr, ↓wq_gq, ↓wq_nn, ↓wq_asI, ↓wq_asL, ↓wq_asN, ↓wq_pa, hO_182, hR_182_0, hF_182_1, hR_182_2, hF_182_3, hR_182_4, hF_182_5, hR_182_6, hR_182_7, hR_182_8, hF_182_9, hF_182_10, hF_182_11, hF_182_12, hR_182_13, hF_182_14, hR_182_15, hF_182_16, hF_182_17, hF_182_18, hF_182_19, hF_182_20, hF_182_21, hF_182_22, hR_182_23, hR_182_24, hF_182_25, hF_182_26, hR_182_27, hR_182_28, hR_182_29, hF_182_30, hF_182_31, hR_182_32, hR_182_33, hF_182_34, hR_182_35, hF_182_36, hF_182_37, hF_182_38, hF_182_39, hF_182_40, hR_182_41, hR_182_42, hR_182_43, hR_182_44, hR_182_45, hR_182_46, hF_182_47, hR_182_48, hR_182_49, hR_182_50, hR_182_51, hR_182_52, hF_182_53, hR_182_54, hR_182_55, hR_182_56, hR_182_57, hF_182_58, hR_182_59, hR_182_60, hR_182_61, fd_p_eq, fd_p_ne, fd_p_lt, fd_p_ge, fd_p_gt, fd_p_le, fd_f_iadd, fd_f_isub, fd_f_imul, fd_f_iand, fd_f_ior, fd_f_ixor, fd_f_ishl, fd_f_ishr, fd_f_iushr, fd_f_ladd, fd_f_lsub, fd_f_lmul, fd_f_lcmp, fd_f_idiv, fd_f_irem, fd_f_ldiv, fd_f_lrem, fd_f_ineg, fd_f_i2l, fd_f_l2i, fd_f_i2b, fd_f_i2s, fd_f_i2c, fd_z_idiv, fd_z_irem, fd_z_ldiv, fd_z_lrem, fd_in0, fd_sl, fd_st1, fd_st2, fd_kl, fd_vI, fd_vL, fd_vN, fd_ok1, fd_v_int, xI, xL, xR, xK, xG, yI, yL, yN, -Prod.exists, w1.2.1.2.2.1, c1, y6, z6, k6', fd_run_of eh, hA_203 (show k < 8 by omega), nI_clamp (show k < 2 ^ 31 by omega), ly, e99, nI_1]
      exact skip (fun z => by have := z.2.1; omega) M1 f1 l1 _
    have n99 : ¬ nI (S.Y k) = 99 := fun z => h99 ((nI_eq (b := 99) (by omega) (by decide)).mp z)
    simp [↓wp_ldn, ↓wp_b1, ↓wp_b2, ↓wp_b2z, ↓wp_gf, ↓wp_gd, ↓wp_ga, ↓wp_gl, ↓wp_al2, ↓wp_pi, ↓wp_ltr, ↓wp_ite, ↓wp_and, ↓wp_or, ↓wp_not, ↓wp_cmp, ↓wp_cmz, ↓wp_isn, ↓wp_nsn, ↓wp_a0, ↓wp_a1, ↓wp_cv, ↓wp_cs, ↓wp_dr, ↓wp_sk, ↓wp_brk, ↓wp_cnt, ↓wp_rV, ↓wp_seq, ↓wp_iff, ↓wp_sI, ↓wp_sL, ↓wp_sN, ↓wp_inc, ↓wp_do, ↓wp_rI, ↓wp_rL, ↓wp_rN, ↓wp_rZ, ↓wp_pf, ↓wp_pz, ↓wp_pd, ↓wp_po, ↓wp_pl, ↓wp_pao, ↓wp_tsw, ↓wp_lsw, ↓wp_fn, ↓wq_ld, ↓wq_ldl, ↓wq_lda, ↓wq_c, ↓wq_gr, ↓wq_gq, ↓wq_nn, ↓wq_asI, ↓wq_asL, ↓wq_asN, ↓wq_pa, hO_182, hR_182_0, hF_182_1, hR_182_2, hF_182_3, hR_182_4, hF_182_5, hR_182_6, hR_182_7, hR_182_8, hF_182_9, hF_182_10, hF_182_11, hF_182_12, hR_182_13, hF_182_14, hR_182_15, hF_182_16, hF_182_17, hF_182_18, hF_182_19, hF_182_20, hF_182_21, hF_182_22, hR_182_23, hR_182_24, hF_182_25, hF_182_26, hR_182_27, hR_182_28, hR_182_29, hF_182_30, hF_182_31, hR_182_32, hR_182_33, hF_182_34, hR_182_35, hF_182_36, hF_182_37, hF_182_38, hF_182_39, hF_182_40, hR_182_41, hR_182_42, hR_182_43, hR_182_44, hR_182_45, hR_182_46, hF_182_47, hR_182_48, hR_182_49, hR_182_50, hR_182_51, hR_182_52, hF_182_53, hR_182_54, hR_182_55, hR_182_56, hR_182_57, hF_182_58, hR_182_59, hR_182_60, hR_182_61, fd_p_eq, fd_p_ne, fd_p_lt, fd_p_ge, fd_p_gt, fd_p_le, fd_f_iadd, fd_f_isub, fd_f_imul, fd_f_iand, fd_f_ior, fd_f_ixor, fd_f_ishl, fd_f_ishr, fd_f_iushr, fd_f_ladd, fd_f_lsub, fd_f_lmul, fd_f_lcmp, fd_f_idiv, fd_f_irem, fd_f_ldiv, fd_f_lrem, fd_f_ineg, fd_f_i2l, fd_f_l2i, fd_f_i2b, fd_f_i2s, fd_f_i2c, fd_z_idiv, fd_z_irem, fd_z_ldiv, fd_z_lrem, fd_in0, fd_sl, fd_st1, fd_st2, fd_kl, fd_vI, fd_vL, fd_vN, fd_ok1, fd_v_int, xI, xL, xR, xK, xG, yI, yL, yN, -Prod.exists, w1.2.1.2.2.1, c1, y6, z6, k6', fd_run_of eh, hA_203 (show k < 8 by omega), nI_clamp (show k < 2 ^ 31 by omega), ly, n99, nI_1]
    generalize hM2 : fd_uI M1 203 k (nI (S.Y k + 1)) = M2
    have f2 : fP (fun a _ => a = 201 ∨ a = 203) M M2 := by rw [← hM2]; exact fP.uI f1 (Or.inr rfl)
    have l2 : lW w.f (lgY S k) M2 := fun j hj => by
      rw [← hM2]
      unfold lgY
      by_cases e : j = k
      · rw [e, rd_I, if_pos rfl, if_pos rfl, if_pos rfl]
        exact ⟨rfl, by omega⟩
      · rw [rd_ne (by omega), if_neg e]
        exact l1 j hj
    have q2 : rQ w S w.B (lgY S k) M2 := ⟨hw.cg (f0 M2 f2) (by decide) (by decide) (by decide) (by decide), hr.2.1.cg hf (fun j _ => f2.1 _ _ (by omega)), l2, fun j hj => by rw [f2.1 _ _ (by omega)]; exact hr.2.2.2 j hj⟩
    refine s_X12_mostBids q2 (iv_sky_cg h5 ((f0 M2 f2).eq (by decide))) hok hn ha (fun M3 f3 => ?_)
    have e203 : M3.1 203 k = nI (S.Y k + 1) := by rw [f3.1 _ _ (by omega), ← hM2, rd_I, if_pos rfl, if_pos rfl]
    have em : ms w.v (rnr w S.n) (rpl w S (lgY S k)) (gn w.f w.B) n 0 S.a S.pl = lgm w S n k := rfl
    rw [em]
    have f4 : fP (fun a _ => a = 201 ∨ a = 203) M (fd_uI M3 203 k (nI (S.Y k))) := fP.uI (f2.tr (f3.up (fun a j z => Or.inl z))) (Or.inr rfl)
    have l4 : lW w.f S.Y (fd_uI M3 203 k (nI (S.Y k))) := fun j hj => by
      by_cases e : j = k
      · rw [e, rd_I, if_pos rfl, if_pos rfl]
        exact ⟨rfl, by omega⟩
      · rw [rd_ne (by omega), f3.1 _ _ (by omega), ← hM2, rd_ne (by omega)]
        exact l1 j hj
    by_cases E : lgE w S n k
    · rcases lt_cases (lgd w S n A k).1 (nI (lgm w S n k) - nI A) with ⟨d, d'⟩ | ⟨d, d'⟩
      · rw [if_pos ⟨rch_iff.mpr E, d⟩] at el
        simp [↓wp_ldn, ↓wp_b1, ↓wp_b2, ↓wp_b2z, ↓wp_gf, ↓wp_gd, ↓wp_ga, ↓wp_gl, ↓wp_al2, ↓wp_pi, ↓wp_ltr, ↓wp_ite, ↓wp_and, ↓wp_or, ↓wp_not, ↓wp_cmp, ↓wp_cmz, ↓wp_isn, ↓wp_nsn, ↓wp_a0, ↓wp_a1, ↓wp_cv, ↓wp_cs, ↓wp_dr, ↓wp_sk, ↓wp_brk, ↓wp_cnt, ↓wp_rV, ↓wp_seq, ↓wp_iff, ↓wp_sI, ↓wp_sL, ↓wp_sN, ↓wp_inc, ↓wp_do, ↓wp_rI, ↓wp_rL, ↓wp_rN, ↓wp_rZ, ↓wp_pf, ↓wp_pz, ↓wp_pd, ↓wp_po, ↓wp_pl, ↓wp_pao, ↓wp_tsw, ↓wp_lsw, ↓wp_fn, ↓wq_ld, ↓wq_ldl, ↓wq_lda, ↓wq_c, ↓wq_gr, ↓wq_gq, ↓wq_nn, ↓wq_asI, ↓wq_asL, ↓wq_asN, ↓wq_pa, hO_182, hR_182_0, hF_182_1, hR_182_2, hF_182_3, hR_182_4, hF_182_5, hR_182_6, hR_182_7, hR_182_8, hF_182_9, hF_182_10, hF_182_11, hF_182_12, hR_182_13, hF_182_14, hR_182_15, hF_182_16, hF_182_17, hF_182_18, hF_182_19, hF_182_20, hF_182_21, hF_182_22, hR_182_23, hR_182_24, hF_182_25, hF_182_26, hR_182_27, hR_182_28, hR_182_29, hF_182_30, hF_182_31, hR_182_32, hR_182_33, hF_182_34, hR_182_35, hF_182_36, hF_182_37, hF_182_38, hF_182_39, hF_182_40, hR_182_41, hR_182_42, hR_182_43, hR_182_44, hR_182_45, hR_182_46, hF_182_47, hR_182_48, hR_182_49, hR_182_50, hR_182_51, hR_182_52, hF_182_53, hR_182_54, hR_182_55, hR_182_56, hR_182_57, hF_182_58, hR_182_59, hR_182_60, hR_182_61, fd_p_eq, fd_p_ne, fd_p_lt, fd_p_ge, fd_p_gt, fd_p_le, fd_f_iadd, fd_f_isub, fd_f_imul, fd_f_iand, fd_f_ior, fd_f_ixor, fd_f_ishl, fd_f_ishr, fd_f_iushr, fd_f_ladd, fd_f_lsub, fd_f_lmul, fd_f_lcmp, fd_f_idiv, fd_f_irem, fd_f_ldiv, fd_f_lrem, fd_f_ineg, fd_f_i2l, fd_f_l2i, fd_f_i2b, fd_f_i2s, fd_f_i2c, fd_z_idiv, fd_z_irem, fd_z_ldiv, fd_z_lrem, fd_in0, fd_sl, fd_st1, fd_st2, fd_kl, fd_vI, fd_vL, fd_vN, fd_ok1, fd_v_int, xI, xL, xR, xK, xG, yI, yL, yN, -Prod.exists, hA_203 (show k < 8 by omega), nI_clamp (show k < 2 ^ 31 by omega), e203, nI_pred, d, d', nI_1]
        rw [hJ]
        dsimp only
        rw [el]
        exact ⟨_, _, rfl, f4, l4⟩
      · rw [if_neg (fun z => d z.2)] at el
        simp [↓wp_ldn, ↓wp_b1, ↓wp_b2, ↓wp_b2z, ↓wp_gf, ↓wp_gd, ↓wp_ga, ↓wp_gl, ↓wp_al2, ↓wp_pi, ↓wp_ltr, ↓wp_ite, ↓wp_and, ↓wp_or, ↓wp_not, ↓wp_cmp, ↓wp_cmz, ↓wp_isn, ↓wp_nsn, ↓wp_a0, ↓wp_a1, ↓wp_cv, ↓wp_cs, ↓wp_dr, ↓wp_sk, ↓wp_brk, ↓wp_cnt, ↓wp_rV, ↓wp_seq, ↓wp_iff, ↓wp_sI, ↓wp_sL, ↓wp_sN, ↓wp_inc, ↓wp_do, ↓wp_rI, ↓wp_rL, ↓wp_rN, ↓wp_rZ, ↓wp_pf, ↓wp_pz, ↓wp_pd, ↓wp_po, ↓wp_pl, ↓wp_pao, ↓wp_tsw, ↓wp_lsw, ↓wp_fn, ↓wq_ld, ↓wq_ldl, ↓wq_lda, ↓wq_c, ↓wq_gr, ↓wq_gq, ↓wq_nn, ↓wq_asI, ↓wq_asL, ↓wq_asN, ↓wq_pa, hO_182, hR_182_0, hF_182_1, hR_182_2, hF_182_3, hR_182_4, hF_182_5, hR_182_6, hR_182_7, hR_182_8, hF_182_9, hF_182_10, hF_182_11, hF_182_12, hR_182_13, hF_182_14, hR_182_15, hF_182_16, hF_182_17, hF_182_18, hF_182_19, hF_182_20, hF_182_21, hF_182_22, hR_182_23, hR_182_24, hF_182_25, hF_182_26, hR_182_27, hR_182_28, hR_182_29, hF_182_30, hF_182_31, hR_182_32, hR_182_33, hF_182_34, hR_182_35, hF_182_36, hF_182_37, hF_182_38, hF_182_39, hF_182_40, hR_182_41, hR_182_42, hR_182_43, hR_182_44, hR_182_45, hR_182_46, hF_182_47, hR_182_48, hR_182_49, hR_182_50, hR_182_51, hR_182_52, hF_182_53, hR_182_54, hR_182_55, hR_182_56, hR_182_57, hF_182_58, hR_182_59, hR_182_60, hR_182_61, fd_p_eq, fd_p_ne, fd_p_lt, fd_p_ge, fd_p_gt, fd_p_le, fd_f_iadd, fd_f_isub, fd_f_imul, fd_f_iand, fd_f_ior, fd_f_ixor, fd_f_ishl, fd_f_ishr, fd_f_iushr, fd_f_ladd, fd_f_lsub, fd_f_lmul, fd_f_lcmp, fd_f_idiv, fd_f_irem, fd_f_ldiv, fd_f_lrem, fd_f_ineg, fd_f_i2l, fd_f_l2i, fd_f_i2b, fd_f_i2s, fd_f_i2c, fd_z_idiv, fd_z_irem, fd_z_ldiv, fd_z_lrem, fd_in0, fd_sl, fd_st1, fd_st2, fd_kl, fd_vI, fd_vL, fd_vN, fd_ok1, fd_v_int, xI, xL, xR, xK, xG, yI, yL, yN, -Prod.exists, hA_203 (show k < 8 by omega), nI_clamp (show k < 2 ^ 31 by omega), e203, nI_pred, d, d', nI_1]
        rw [hJ]
        dsimp only
        rw [el]
        exact ⟨_, _, rfl, f4, l4⟩
    · have same : lgm w S n k = A := by
        rw [hA]
        unfold lgm
        refine ms_cong n 0 S.a S.pl (fun j q _ hj _ => ?_)
        refine (lg_rpl ?_).symm
        by_cases hl : w.lf ≤ nI (S.Y k + 1) ∧ nI (S.Y k + 1) ≤ w.lt
        · exact Or.inr hl
        · refine Or.inl fun e => E ⟨hpf, by omega, by omega, by omega, hl⟩
      simp [↓wp_ldn, ↓wp_b1, ↓wp_b2, ↓wp_b2z, ↓wp_gf, ↓wp_gd, ↓wp_ga, ↓wp_gl, ↓wp_al2, ↓wp_pi, ↓wp_ltr, ↓wp_ite, ↓wp_and, ↓wp_or, ↓wp_not, ↓wp_cmp, ↓wp_cmz, ↓wp_isn, ↓wp_nsn, ↓wp_a0, ↓wp_a1, ↓wp_cv, ↓wp_cs, ↓wp_dr, ↓wp_sk, ↓wp_brk, ↓wp_cnt, ↓wp_rV, ↓wp_seq, ↓wp_iff, ↓wp_sI, ↓wp_sL, ↓wp_sN, ↓wp_inc, ↓wp_do, ↓wp_rI, ↓wp_rL, ↓wp_rN, ↓wp_rZ, ↓wp_pf, ↓wp_pz, ↓wp_pd, ↓wp_po, ↓wp_pl, ↓wp_pao, ↓wp_tsw, ↓wp_lsw, ↓wp_fn, ↓wq_ld, ↓wq_ldl, ↓wq_lda, ↓wq_c, ↓wq_gr, ↓wq_gq, ↓wq_nn, ↓wq_asI, ↓wq_asL, ↓wq_asN, ↓wq_pa, hO_182, hR_182_0, hF_182_1, hR_182_2, hF_182_3, hR_182_4, hF_182_5, hR_182_6, hR_182_7, hR_182_8, hF_182_9, hF_182_10, hF_182_11, hF_182_12, hR_182_13, hF_182_14, hR_182_15, hF_182_16, hF_182_17, hF_182_18, hF_182_19, hF_182_20, hF_182_21, hF_182_22, hR_182_23, hR_182_24, hF_182_25, hF_182_26, hR_182_27, hR_182_28, hR_182_29, hF_182_30, hF_182_31, hR_182_32, hR_182_33, hF_182_34, hR_182_35, hF_182_36, hF_182_37, hF_182_38, hF_182_39, hF_182_40, hR_182_41, hR_182_42, hR_182_43, hR_182_44, hR_182_45, hR_182_46, hF_182_47, hR_182_48, hR_182_49, hR_182_50, hR_182_51, hR_182_52, hF_182_53, hR_182_54, hR_182_55, hR_182_56, hR_182_57, hF_182_58, hR_182_59, hR_182_60, hR_182_61, fd_p_eq, fd_p_ne, fd_p_lt, fd_p_ge, fd_p_gt, fd_p_le, fd_f_iadd, fd_f_isub, fd_f_imul, fd_f_iand, fd_f_ior, fd_f_ixor, fd_f_ishl, fd_f_ishr, fd_f_iushr, fd_f_ladd, fd_f_lsub, fd_f_lmul, fd_f_lcmp, fd_f_idiv, fd_f_irem, fd_f_ldiv, fd_f_lrem, fd_f_ineg, fd_f_i2l, fd_f_l2i, fd_f_i2b, fd_f_i2s, fd_f_i2c, fd_z_idiv, fd_z_irem, fd_z_ldiv, fd_z_lrem, fd_in0, fd_sl, fd_st1, fd_st2, fd_kl, fd_vI, fd_vL, fd_vN, fd_ok1, fd_v_int, xI, xL, xR, xK, xG, yI, yL, yN, -Prod.exists, hA_203 (show k < 8 by omega), nI_clamp (show k < 2 ^ 31 by omega), e203, nI_pred, same, nn, Int32.not_lt.mpr nn, nI_1]
      exact skip E _ f4 l4 _
  · rw [hJ] at h
    obtain ⟨M1, c6, rfl, f1, l1⟩ := h
    have w1 := hw.cg (f0 M1 f1) (by decide) (by decide) (by decide) (by decide)
    cases e : (lgd w S n A w.f).2 with
    | none =>
      have b1 : (-2 : Int32) < 0 := by decide
      simp [↓wp_ldn, ↓wp_b1, ↓wp_b2, ↓wp_b2z, ↓wp_gf, ↓wp_gd, ↓wp_ga, ↓wp_gl, ↓wp_al2, ↓wp_pi, ↓wp_ltr, ↓wp_ite, ↓wp_and, ↓wp_or, ↓wp_not, ↓wp_cmp, ↓wp_cmz, ↓wp_isn, ↓wp_nsn, ↓wp_a0, ↓wp_a1, ↓wp_cv, ↓wp_cs, ↓wp_dr, ↓wp_sk, ↓wp_brk, ↓wp_cnt, ↓wp_rV, ↓wp_seq, ↓wp_iff, ↓wp_sI, ↓wp_sL, ↓wp_sN, ↓wp_inc, ↓wp_do, ↓wp_rI, ↓wp_rL, ↓wp_rN, ↓wp_rZ, ↓wp_pf, ↓wp_pz, ↓wp_pd, ↓wp_po, ↓wp_pl, ↓wp_pao, ↓wp_tsw, ↓wp_lsw, ↓wp_fn, ↓wq_ld, ↓wq_ldl, ↓wq_lda, ↓wq_c, ↓wq_gr, ↓wq_gq, ↓wq_nn, ↓wq_asI, ↓wq_asL, ↓wq_asN, ↓wq_pa, hO_182, hR_182_0, hF_182_1, hR_182_2, hF_182_3, hR_182_4, hF_182_5, hR_182_6, hR_182_7, hR_182_8, hF_182_9, hF_182_10, hF_182_11, hF_182_12, hR_182_13, hF_182_14, hR_182_15, hF_182_16, hF_182_17, hF_182_18, hF_182_19, hF_182_20, hF_182_21, hF_182_22, hR_182_23, hR_182_24, hF_182_25, hF_182_26, hR_182_27, hR_182_28, hR_182_29, hF_182_30, hF_182_31, hR_182_32, hR_182_33, hF_182_34, hR_182_35, hF_182_36, hF_182_37, hF_182_38, hF_182_39, hF_182_40, hR_182_41, hR_182_42, hR_182_43, hR_182_44, hR_182_45, hR_182_46, hF_182_47, hR_182_48, hR_182_49, hR_182_50, hR_182_51, hR_182_52, hF_182_53, hR_182_54, hR_182_55, hR_182_56, hR_182_57, hF_182_58, hR_182_59, hR_182_60, hR_182_61, fd_p_eq, fd_p_ne, fd_p_lt, fd_p_ge, fd_p_gt, fd_p_le, fd_f_iadd, fd_f_isub, fd_f_imul, fd_f_iand, fd_f_ior, fd_f_ixor, fd_f_ishl, fd_f_ishr, fd_f_iushr, fd_f_ladd, fd_f_lsub, fd_f_lmul, fd_f_lcmp, fd_f_idiv, fd_f_irem, fd_f_ldiv, fd_f_lrem, fd_f_ineg, fd_f_i2l, fd_f_l2i, fd_f_i2b, fd_f_i2s, fd_f_i2c, fd_z_idiv, fd_z_irem, fd_z_ldiv, fd_z_lrem, fd_in0, fd_sl, fd_st1, fd_st2, fd_kl, fd_vI, fd_vL, fd_vN, fd_ok1, fd_v_int, xI, xL, xR, xK, xG, yI, yL, yN, -Prod.exists, w1.2.1.2.2.1, lt_self, lgw, b1]
      exact hQ0 e M1 f1
    | some j =>
      have jl : j < w.f := lgs_lt _ _ _ _ e
      have b1 : ¬ nI j < 0 := nI_pos (by omega)
      simp [↓wp_ldn, ↓wp_b1, ↓wp_b2, ↓wp_b2z, ↓wp_gf, ↓wp_gd, ↓wp_ga, ↓wp_gl, ↓wp_al2, ↓wp_pi, ↓wp_ltr, ↓wp_ite, ↓wp_and, ↓wp_or, ↓wp_not, ↓wp_cmp, ↓wp_cmz, ↓wp_isn, ↓wp_nsn, ↓wp_a0, ↓wp_a1, ↓wp_cv, ↓wp_cs, ↓wp_dr, ↓wp_sk, ↓wp_brk, ↓wp_cnt, ↓wp_rV, ↓wp_seq, ↓wp_iff, ↓wp_sI, ↓wp_sL, ↓wp_sN, ↓wp_inc, ↓wp_do, ↓wp_rI, ↓wp_rL, ↓wp_rN, ↓wp_rZ, ↓wp_pf, ↓wp_pz, ↓wp_pd, ↓wp_po, ↓wp_pl, ↓wp_pao, ↓wp_tsw, ↓wp_lsw, ↓wp_fn, ↓wq_ld, ↓wq_ldl, ↓wq_lda, ↓wq_c, ↓wq_gr, ↓wq_gq, ↓wq_nn, ↓wq_asI, ↓wq_asL, ↓wq_asN, ↓wq_pa, hO_182, hR_182_0, hF_182_1, hR_182_2, hF_182_3, hR_182_4, hF_182_5, hR_182_6, hR_182_7, hR_182_8, hF_182_9, hF_182_10, hF_182_11, hF_182_12, hR_182_13, hF_182_14, hR_182_15, hF_182_16, hF_182_17, hF_182_18, hF_182_19, hF_182_20, hF_182_21, hF_182_22, hR_182_23, hR_182_24, hF_182_25, hF_182_26, hR_182_27, hR_182_28, hR_182_29, hF_182_30, hF_182_31, hR_182_32, hR_182_33, hF_182_34, hR_182_35, hF_182_36, hF_182_37, hF_182_38, hF_182_39, hF_182_40, hR_182_41, hR_182_42, hR_182_43, hR_182_44, hR_182_45, hR_182_46, hF_182_47, hR_182_48, hR_182_49, hR_182_50, hR_182_51, hR_182_52, hF_182_53, hR_182_54, hR_182_55, hR_182_56, hR_182_57, hF_182_58, hR_182_59, hR_182_60, hR_182_61, fd_p_eq, fd_p_ne, fd_p_lt, fd_p_ge, fd_p_gt, fd_p_le, fd_f_iadd, fd_f_isub, fd_f_imul, fd_f_iand, fd_f_ior, fd_f_ixor, fd_f_ishl, fd_f_ishr, fd_f_iushr, fd_f_ladd, fd_f_lsub, fd_f_lmul, fd_f_lcmp, fd_f_idiv, fd_f_irem, fd_f_ldiv, fd_f_lrem, fd_f_ineg, fd_f_i2l, fd_f_l2i, fd_f_i2b, fd_f_i2s, fd_f_i2c, fd_z_idiv, fd_z_irem, fd_z_ldiv, fd_z_lrem, fd_in0, fd_sl, fd_st1, fd_st2, fd_kl, fd_vI, fd_vL, fd_vN, fd_ok1, fd_v_int, xI, xL, xR, xK, xG, yI, yL, yN, -Prod.exists, w1.2.1.2.2.1, lt_self, lgw, b1, Int32.not_lt.mp b1, t_tell0, rd_I]
      refine hQ1 j e _ (fZ.uI (fZ.uL (fZ.uI (fZ.up f1.fZ (L := fun _ _ => False) (fun a j z => by omega) (fun a j z => z.elim)) (by omega)) rfl) (by omega)) ?_ ?_
      · simp [rd_I]
      · simp [rd_L, rd_I2]
end LC
theorem call_longer (x : Int32) : fd_both m_X11_longer m_X12_longer [.int x] := by
  refine fd_both_of fun c M hc hI => ?_
  obtain ⟨v, f, n, R, D, A, B, U, L, H, N, a1, a2, a3, a4, a5, a6, a7, a8, a9, a10⟩ := hI
  obtain ⟨w, rfl, rfl, rfl, rfl, rfl, rfl, rfl, hw⟩ := wd_of a3 a4 a5 a6
  obtain ⟨S, sk, sc, sm⟩ := a7
  have hf := hw.2.1.1
  have hv := hw.1.1
  have I0 := Inv_mk a1 a2 a3 a4 a5 a6 ⟨S, sk, sc, sm⟩ a8 a9 a10
  have sk' : sok w.v w.f 1400000 S := sk.up (by omega)
  have s0 : fd_sm [0] M (fd_uI M 182 17 0) := (by repeat' (first | exact fd_sm.rf | refine fd_sm.uI ?_ (by first | decide | (simp [cl, cl_182]; done)) | refine fd_sm.uL ?_ (by first | decide | (simp [cl, cl_182]; done))))
  have w0 := hw.cg s0 (by decide) (by decide) (by decide) (by decide)
  have cp := s_X11_canPlan (w := w) (m := 10) hw.1.2.1 hv (by omega) x
  rw [show nI 10 = (10 : Int32) from rfl] at cp
  by_cases hP : 0 < w.v ∧ ∃ n, n ≤ 10 ∧ x = nI n
  rotate_left
  · have cr := s_X12_canRound (w := w) w0.1.2.2.1 hv x
    rw [rch_f hP, if_neg (by decide)] at cp cr
    unfold m_X11_longer b_X11_longer
    simp [↓wp_ldn, ↓wp_b1, ↓wp_b2, ↓wp_b2z, ↓wp_gf, ↓wp_gd, ↓wp_ga, ↓wp_gl, ↓wp_al2, ↓wp_pi, ↓wp_ltr, ↓wp_ite, ↓wp_and, ↓wp_or, ↓wp_not, ↓wp_cmp, ↓wp_cmz, ↓wp_isn, ↓wp_nsn, ↓wp_a0, ↓wp_a1, ↓wp_cv, ↓wp_cs, ↓wp_dr, ↓wp_sk, ↓wp_brk, ↓wp_cnt, ↓wp_rV, ↓wp_seq, ↓wp_iff, ↓wp_sI, ↓wp_sL, ↓wp_sN, ↓wp_inc, ↓wp_do, ↓wp_rI, ↓wp_rL, ↓wp_rN, ↓wp_rZ, ↓wp_pf, ↓wp_pz, ↓wp_pd, ↓wp_po, ↓wp_pl, ↓wp_pao, ↓wp_tsw, ↓wp_lsw, ↓wp_fn, ↓wq_ld, ↓wq_ldl, ↓wq_lda, ↓wq_c, ↓wq_gr, ↓wq_gq, ↓wq_nn, ↓wq_asI, ↓wq_asL, ↓wq_asN, ↓wq_pa, hO_0, hR_0_0, hR_0_1, hR_0_2, hR_0_3, hR_0_4, hR_0_5, hR_0_6, hR_0_7, hR_0_8, hR_0_9, hR_0_10, hR_0_11, hF_0_12, hO_1, hR_1_0, hF_1_1, hF_1_2, hF_1_3, hO_3, hR_3_0, hF_3_1, hO_5, hF_5_0, hF_5_1, hR_5_2, hR_5_3, hR_5_4, hR_5_5, hR_5_6, hR_5_7, hF_5_8, hF_5_9, hO_30, hF_30_0, hF_30_1, hF_30_2, hF_30_3, hO_31, hF_31_0, hF_31_1, hR_31_2, hR_31_3, hR_31_4, hO_35, hR_35_0, hF_35_1, hR_35_2, hF_35_3, hR_35_4, hF_35_5, hF_35_6, hR_35_7, hF_35_8, hR_35_9, hR_35_10, hO_42, hO_45, hO_48, hR_48_0, hF_48_1, hF_48_2, hR_48_3, hR_48_4, hO_94, hR_94_0, hR_94_1, hO_97, hF_97_0, hF_97_1, hF_97_2, hF_97_3, hR_97_4, hR_97_5, hR_97_6, hR_97_7, hR_97_8, hR_97_9, hR_97_10, hR_97_11, hF_97_12, hO_156, hF_156_0, hR_156_1, hR_156_2, hR_156_3, hR_156_4, hR_156_5, hR_156_6, hR_156_7, hR_156_8, fd_p_eq, fd_p_ne, fd_p_lt, fd_p_ge, fd_p_gt, fd_p_le, fd_f_iadd, fd_f_isub, fd_f_imul, fd_f_iand, fd_f_ior, fd_f_ixor, fd_f_ishl, fd_f_ishr, fd_f_iushr, fd_f_ladd, fd_f_lsub, fd_f_lmul, fd_f_lcmp, fd_f_idiv, fd_f_irem, fd_f_ldiv, fd_f_lrem, fd_f_ineg, fd_f_i2l, fd_f_l2i, fd_f_i2b, fd_f_i2s, fd_f_i2c, fd_z_idiv, fd_z_irem, fd_z_ldiv, fd_z_lrem, fd_in0, fd_sl, fd_st1, fd_st2, fd_kl, fd_vI, fd_vL, fd_vN, fd_ok1, fd_v_int, xI, xL, xR, xK, xG, yI, yL, yN, -Prod.exists, fd_run_of cp]
    unfold fd_bm m_X12_longer b_X12_longer
    simp [↓wp_ldn, ↓wp_b1, ↓wp_b2, ↓wp_b2z, ↓wp_gf, ↓wp_gd, ↓wp_ga, ↓wp_gl, ↓wp_al2, ↓wp_pi, ↓wp_ltr, ↓wp_ite, ↓wp_and, ↓wp_or, ↓wp_not, ↓wp_cmp, ↓wp_cmz, ↓wp_isn, ↓wp_nsn, ↓wp_a0, ↓wp_a1, ↓wp_cv, ↓wp_cs, ↓wp_dr, ↓wp_sk, ↓wp_brk, ↓wp_cnt, ↓wp_rV, ↓wp_seq, ↓wp_iff, ↓wp_sI, ↓wp_sL, ↓wp_sN, ↓wp_inc, ↓wp_do, ↓wp_rI, ↓wp_rL, ↓wp_rN, ↓wp_rZ, ↓wp_pf, ↓wp_pz, ↓wp_pd, ↓wp_po, ↓wp_pl, ↓wp_pao, ↓wp_tsw, ↓wp_lsw, ↓wp_fn, ↓wq_ld, ↓wq_ldl, ↓wq_lda, ↓wq_c, ↓wq_gr, ↓wq_gq, ↓wq_nn, ↓wq_asI, ↓wq_asL, ↓wq_asN, ↓wq_pa, hO_182, hR_182_0, hF_182_1, hR_182_2, hF_182_3, hR_182_4, hF_182_5, hR_182_6, hR_182_7, hR_182_8, hF_182_9, hF_182_10, hF_182_11, hF_182_12, hR_182_13, hF_182_14, hR_182_15, hF_182_16, hF_182_17, hF_182_18, hF_182_19, hF_182_20, hF_182_21, hF_182_22, hR_182_23, hR_182_24, hF_182_25, hF_182_26, hR_182_27, hR_182_28, hR_182_29, hF_182_30, hF_182_31, hR_182_32, hR_182_33, hF_182_34, hR_182_35, hF_182_36, hF_182_37, hF_182_38, hF_182_39, hF_182_40, hR_182_41, hR_182_42, hR_182_43, hR_182_44, hR_182_45, hR_182_46, hF_182_47, hR_182_48, hR_182_49, hR_182_50, hR_182_51, hR_182_52, hF_182_53, hR_182_54, hR_182_55, hR_182_56, hR_182_57, hF_182_58, hR_182_59, hR_182_60, hR_182_61, fd_p_eq, fd_p_ne, fd_p_lt, fd_p_ge, fd_p_gt, fd_p_le, fd_f_iadd, fd_f_isub, fd_f_imul, fd_f_iand, fd_f_ior, fd_f_ixor, fd_f_ishl, fd_f_ishr, fd_f_iushr, fd_f_ladd, fd_f_lsub, fd_f_lmul, fd_f_lcmp, fd_f_idiv, fd_f_irem, fd_f_ldiv, fd_f_lrem, fd_f_ineg, fd_f_i2l, fd_f_l2i, fd_f_i2b, fd_f_i2s, fd_f_i2c, fd_z_idiv, fd_z_irem, fd_z_ldiv, fd_z_lrem, fd_in0, fd_sl, fd_st1, fd_st2, fd_kl, fd_vI, fd_vL, fd_vN, fd_ok1, fd_v_int, xI, xL, xR, xK, xG, yI, yL, yN, -Prod.exists, fd_run_of cr]
    exact Inv_sm I0 s0
  rw [if_pos (rch_iff.mpr hP)] at cp
  obtain ⟨v0, m, hm, rfl⟩ := hP
  have ha : S.a < w.v := by have := sk.2.1; omega
  have F1 : ∀ M1, fP rF M M1 → wd w M1 ∧ cst w.f 42 S M1 ∧ iv_sky M1 := fun M1 f1 => ⟨hw.cg (f1.sm rF_cl) (by decide) (by decide) (by decide) (by decide), sc.cg hf (fun j _ => f1.1 _ _ (by unfold rF; omega)) (fun j _ => f1.1 _ _ (by unfold rF; omega)) (fun j _ => f1.1 _ _ (by unfold rF; omega)), iv_sky_cg a5 ((f1.sm rF_cl).eq (by decide))⟩
  have hV : ∀ s b, gn w.f w.B (s ||| b) = gn w.f w.B s + gn w.f w.B (an b s) := fun s b => gn_or _ s b w.f hf
  have Ab : ms w.v (rnr w S.n) (rpl w S S.Y) (gn w.f w.B) m 0 S.a S.pl ≤ 792 * m := ms_le (fun s => by have := gn_le (w := w.B) (m := 99) (s := s) (f := w.f) (fun i hi => (hw.2.1.2.2.2 i hi).2.1); omega) m 0 S.a S.pl
  obtain ⟨A, hA⟩ : ∃ A, A = ms w.v (rnr w S.n) (rpl w S S.Y) (gn w.f w.B) m 0 S.a S.pl := ⟨_, rfl⟩
  unfold m_X11_longer
  rw [lo_x_eq]
  simp [↓wp_ldn, ↓wp_b1, ↓wp_b2, ↓wp_b2z, ↓wp_gf, ↓wp_gd, ↓wp_ga, ↓wp_gl, ↓wp_al2, ↓wp_pi, ↓wp_ltr, ↓wp_ite, ↓wp_and, ↓wp_or, ↓wp_not, ↓wp_cmp, ↓wp_cmz, ↓wp_isn, ↓wp_nsn, ↓wp_a0, ↓wp_a1, ↓wp_cv, ↓wp_cs, ↓wp_dr, ↓wp_sk, ↓wp_brk, ↓wp_cnt, ↓wp_rV, ↓wp_seq, ↓wp_iff, ↓wp_sI, ↓wp_sL, ↓wp_sN, ↓wp_inc, ↓wp_do, ↓wp_rI, ↓wp_rL, ↓wp_rN, ↓wp_rZ, ↓wp_pf, ↓wp_pz, ↓wp_pd, ↓wp_po, ↓wp_pl, ↓wp_pao, ↓wp_tsw, ↓wp_lsw, ↓wp_fn, ↓wq_ld, ↓wq_ldl, ↓wq_lda, ↓wq_c, ↓wq_gr, ↓wq_gq, ↓wq_nn, ↓wq_asI, ↓wq_asL, ↓wq_asN, ↓wq_pa, hO_0, hR_0_0, hR_0_1, hR_0_2, hR_0_3, hR_0_4, hR_0_5, hR_0_6, hR_0_7, hR_0_8, hR_0_9, hR_0_10, hR_0_11, hF_0_12, hO_1, hR_1_0, hF_1_1, hF_1_2, hF_1_3, hO_3, hR_3_0, hF_3_1, hO_5, hF_5_0, hF_5_1, hR_5_2, hR_5_3, hR_5_4, hR_5_5, hR_5_6, hR_5_7, hF_5_8, hF_5_9, hO_30, hF_30_0, hF_30_1, hF_30_2, hF_30_3, hO_31, hF_31_0, hF_31_1, hR_31_2, hR_31_3, hR_31_4, hO_35, hR_35_0, hF_35_1, hR_35_2, hF_35_3, hR_35_4, hF_35_5, hF_35_6, hR_35_7, hF_35_8, hR_35_9, hR_35_10, hO_42, hO_45, hO_48, hR_48_0, hF_48_1, hF_48_2, hR_48_3, hR_48_4, hO_94, hR_94_0, hR_94_1, hO_97, hF_97_0, hF_97_1, hF_97_2, hF_97_3, hR_97_4, hR_97_5, hR_97_6, hR_97_7, hR_97_8, hR_97_9, hR_97_10, hR_97_11, hF_97_12, hO_156, hF_156_0, hR_156_1, hR_156_2, hR_156_3, hR_156_4, hR_156_5, hR_156_6, hR_156_7, hR_156_8, fd_p_eq, fd_p_ne, fd_p_lt, fd_p_ge, fd_p_gt, fd_p_le, fd_f_iadd, fd_f_isub, fd_f_imul, fd_f_iand, fd_f_ior, fd_f_ixor, fd_f_ishl, fd_f_ishr, fd_f_iushr, fd_f_ladd, fd_f_lsub, fd_f_lmul, fd_f_lcmp, fd_f_idiv, fd_f_irem, fd_f_ldiv, fd_f_lrem, fd_f_ineg, fd_f_i2l, fd_f_l2i, fd_f_i2b, fd_f_i2s, fd_f_i2c, fd_z_idiv, fd_z_irem, fd_z_ldiv, fd_z_lrem, fd_in0, fd_sl, fd_st1, fd_st2, fd_kl, fd_vI, fd_vL, fd_vN, fd_ok1, fd_v_int, xI, xL, xR, xK, xG, yI, yL, yN, -Prod.exists, fd_run_of cp]
  refine s_X11_layPlan hw sc sk' (by omega) (fun M1 f1 t1 => ?_)
  try simp [↓wp_ldn, ↓wp_b1, ↓wp_b2, ↓wp_b2z, ↓wp_gf, ↓wp_gd, ↓wp_ga, ↓wp_gl, ↓wp_al2, ↓wp_pi, ↓wp_ltr, ↓wp_ite, ↓wp_and, ↓wp_or, ↓wp_not, ↓wp_cmp, ↓wp_cmz, ↓wp_isn, ↓wp_nsn, ↓wp_a0, ↓wp_a1, ↓wp_cv, ↓wp_cs, ↓wp_dr, ↓wp_sk, ↓wp_brk, ↓wp_cnt, ↓wp_rV, ↓wp_seq, ↓wp_iff, ↓wp_sI, ↓wp_sL, ↓wp_sN, ↓wp_inc, ↓wp_do, ↓wp_rI, ↓wp_rL, ↓wp_rN, ↓wp_rZ, ↓wp_pf, ↓wp_pz, ↓wp_pd, ↓wp_po, ↓wp_pl, ↓wp_pao, ↓wp_tsw, ↓wp_lsw, ↓wp_fn, ↓wq_ld, ↓wq_ldl, ↓wq_lda, ↓wq_c, ↓wq_gr, ↓wq_gq, ↓wq_nn, ↓wq_asI, ↓wq_asL, ↓wq_asN, ↓wq_pa, hO_0, hR_0_0, hR_0_1, hR_0_2, hR_0_3, hR_0_4, hR_0_5, hR_0_6, hR_0_7, hR_0_8, hR_0_9, hR_0_10, hR_0_11, hF_0_12, hO_1, hR_1_0, hF_1_1, hF_1_2, hF_1_3, hO_3, hR_3_0, hF_3_1, hO_5, hF_5_0, hF_5_1, hR_5_2, hR_5_3, hR_5_4, hR_5_5, hR_5_6, hR_5_7, hF_5_8, hF_5_9, hO_30, hF_30_0, hF_30_1, hF_30_2, hF_30_3, hO_31, hF_31_0, hF_31_1, hR_31_2, hR_31_3, hR_31_4, hO_35, hR_35_0, hF_35_1, hR_35_2, hF_35_3, hR_35_4, hF_35_5, hF_35_6, hR_35_7, hF_35_8, hR_35_9, hR_35_10, hO_42, hO_45, hO_48, hR_48_0, hF_48_1, hF_48_2, hR_48_3, hR_48_4, hO_94, hR_94_0, hR_94_1, hO_97, hF_97_0, hF_97_1, hF_97_2, hF_97_3, hR_97_4, hR_97_5, hR_97_6, hR_97_7, hR_97_8, hR_97_9, hR_97_10, hR_97_11, hF_97_12, hO_156, hF_156_0, hR_156_1, hR_156_2, hR_156_3, hR_156_4, hR_156_5, hR_156_6, hR_156_7, hR_156_8, fd_p_eq, fd_p_ne, fd_p_lt, fd_p_ge, fd_p_gt, fd_p_le, fd_f_iadd, fd_f_isub, fd_f_imul, fd_f_iand, fd_f_ior, fd_f_ixor, fd_f_ishl, fd_f_ishr, fd_f_iushr, fd_f_ladd, fd_f_lsub, fd_f_lmul, fd_f_lcmp, fd_f_idiv, fd_f_irem, fd_f_ldiv, fd_f_lrem, fd_f_ineg, fd_f_i2l, fd_f_l2i, fd_f_i2b, fd_f_i2s, fd_f_i2c, fd_z_idiv, fd_z_irem, fd_z_ldiv, fd_z_lrem, fd_in0, fd_sl, fd_st1, fd_st2, fd_kl, fd_vI, fd_vL, fd_vN, fd_ok1, fd_v_int, xI, xL, xR, xK, xG, yI, yL, yN, -Prod.exists]
  refine s_X6_weigh1 (F1 M1 f1).1.2.1 (fun M2 f2 v2 => ?_)
  have f02 : fP rF M M2 := f1.tr (f2.up (fun a j z => by unfold rF; omega))
  obtain ⟨w2, sc2, k2⟩ := F1 M2 f02
  have t2 := t1.cg (by omega) f2 (by omega) (by omega) (fun a j x y => by omega)
  simp [↓wp_ldn, ↓wp_b1, ↓wp_b2, ↓wp_b2z, ↓wp_gf, ↓wp_gd, ↓wp_ga, ↓wp_gl, ↓wp_al2, ↓wp_pi, ↓wp_ltr, ↓wp_ite, ↓wp_and, ↓wp_or, ↓wp_not, ↓wp_cmp, ↓wp_cmz, ↓wp_isn, ↓wp_nsn, ↓wp_a0, ↓wp_a1, ↓wp_cv, ↓wp_cs, ↓wp_dr, ↓wp_sk, ↓wp_brk, ↓wp_cnt, ↓wp_rV, ↓wp_seq, ↓wp_iff, ↓wp_sI, ↓wp_sL, ↓wp_sN, ↓wp_inc, ↓wp_do, ↓wp_rI, ↓wp_rL, ↓wp_rN, ↓wp_rZ, ↓wp_pf, ↓wp_pz, ↓wp_pd, ↓wp_po, ↓wp_pl, ↓wp_pao, ↓wp_tsw, ↓wp_lsw, ↓wp_fn, ↓wq_ld, ↓wq_ldl, ↓wq_lda, ↓wq_c, ↓wq_gr, ↓wq_gq, ↓wq_nn, ↓wq_asI, ↓wq_asL, ↓wq_asN, ↓wq_pa, hO_0, hR_0_0, hR_0_1, hR_0_2, hR_0_3, hR_0_4, hR_0_5, hR_0_6, hR_0_7, hR_0_8, hR_0_9, hR_0_10, hR_0_11, hF_0_12, hO_1, hR_1_0, hF_1_1, hF_1_2, hF_1_3, hO_3, hR_3_0, hF_3_1, hO_5, hF_5_0, hF_5_1, hR_5_2, hR_5_3, hR_5_4, hR_5_5, hR_5_6, hR_5_7, hF_5_8, hF_5_9, hO_30, hF_30_0, hF_30_1, hF_30_2, hF_30_3, hO_31, hF_31_0, hF_31_1, hR_31_2, hR_31_3, hR_31_4, hO_35, hR_35_0, hF_35_1, hR_35_2, hF_35_3, hR_35_4, hF_35_5, hF_35_6, hR_35_7, hF_35_8, hR_35_9, hR_35_10, hO_42, hO_45, hO_48, hR_48_0, hF_48_1, hF_48_2, hR_48_3, hR_48_4, hO_94, hR_94_0, hR_94_1, hO_97, hF_97_0, hF_97_1, hF_97_2, hF_97_3, hR_97_4, hR_97_5, hR_97_6, hR_97_7, hR_97_8, hR_97_9, hR_97_10, hR_97_11, hF_97_12, hO_156, hF_156_0, hR_156_1, hR_156_2, hR_156_3, hR_156_4, hR_156_5, hR_156_6, hR_156_7, hR_156_8, fd_p_eq, fd_p_ne, fd_p_lt, fd_p_ge, fd_p_gt, fd_p_le, fd_f_iadd, fd_f_isub, fd_f_imul, fd_f_iand, fd_f_ior, fd_f_ixor, fd_f_ishl, fd_f_ishr, fd_f_iushr, fd_f_ladd, fd_f_lsub, fd_f_lmul, fd_f_lcmp, fd_f_idiv, fd_f_irem, fd_f_ldiv, fd_f_lrem, fd_f_ineg, fd_f_i2l, fd_f_l2i, fd_f_i2b, fd_f_i2s, fd_f_i2c, fd_z_idiv, fd_z_irem, fd_z_ldiv, fd_z_lrem, fd_in0, fd_sl, fd_st1, fd_st2, fd_kl, fd_vI, fd_vL, fd_vN, fd_ok1, fd_v_int, xI, xL, xR, xK, xG, yI, yL, yN, -Prod.exists, show fd_isF 42 10 1 = some 0 from rfl, show fd_isF 42 10 6 = some 0 from rfl, sc2.2.1, sc2.2.2.2.2.2.2.1]
  refine s_X6_bf (W := w.B) t2 w2 k2 (by omega) v2 hV ha sk.2.2.2.1 (fun i hi => hi) (fun M3 f3 => ?_)
  have f03 : fP rF M M3 := f02.tr (f3.up (fun a j z => by unfold sF at z; unfold rF; omega))
  obtain ⟨w3, sc3, k3⟩ := F1 M3 f03
  have t3 := t2.cg (by omega) f3 (by unfold sF; omega) (by unfold sF; omega) (fun a j x y => by unfold sF; omega)
  have v3 := v2.cg f3 (fun j => by unfold sF; omega)
  rw [← hA]
  simp [↓wp_ldn, ↓wp_b1, ↓wp_b2, ↓wp_b2z, ↓wp_gf, ↓wp_gd, ↓wp_ga, ↓wp_gl, ↓wp_al2, ↓wp_pi, ↓wp_ltr, ↓wp_ite, ↓wp_and, ↓wp_or, ↓wp_not, ↓wp_cmp, ↓wp_cmz, ↓wp_isn, ↓wp_nsn, ↓wp_a0, ↓wp_a1, ↓wp_cv, ↓wp_cs, ↓wp_dr, ↓wp_sk, ↓wp_brk, ↓wp_cnt, ↓wp_rV, ↓wp_seq, ↓wp_iff, ↓wp_sI, ↓wp_sL, ↓wp_sN, ↓wp_inc, ↓wp_do, ↓wp_rI, ↓wp_rL, ↓wp_rN, ↓wp_rZ, ↓wp_pf, ↓wp_pz, ↓wp_pd, ↓wp_po, ↓wp_pl, ↓wp_pao, ↓wp_tsw, ↓wp_lsw, ↓wp_fn, ↓wq_ld, ↓wq_ldl, ↓wq_lda, ↓wq_c, ↓wq_gr, ↓wq_gq, ↓wq_nn, ↓wq_asI, ↓wq_asL, ↓wq_asN, ↓wq_pa, hO_0, hR_0_0, hR_0_1, hR_0_2, hR_0_3, hR_0_4, hR_0_5, hR_0_6, hR_0_7, hR_0_8, hR_0_9, hR_0_10, hR_0_11, hF_0_12, hO_1, hR_1_0, hF_1_1, hF_1_2, hF_1_3, hO_3, hR_3_0, hF_3_1, hO_5, hF_5_0, hF_5_1, hR_5_2, hR_5_3, hR_5_4, hR_5_5, hR_5_6, hR_5_7, hF_5_8, hF_5_9, hO_30, hF_30_0, hF_30_1, hF_30_2, hF_30_3, hO_31, hF_31_0, hF_31_1, hR_31_2, hR_31_3, hR_31_4, hO_35, hR_35_0, hF_35_1, hR_35_2, hF_35_3, hR_35_4, hF_35_5, hF_35_6, hR_35_7, hF_35_8, hR_35_9, hR_35_10, hO_42, hO_45, hO_48, hR_48_0, hF_48_1, hF_48_2, hR_48_3, hR_48_4, hO_94, hR_94_0, hR_94_1, hO_97, hF_97_0, hF_97_1, hF_97_2, hF_97_3, hR_97_4, hR_97_5, hR_97_6, hR_97_7, hR_97_8, hR_97_9, hR_97_10, hR_97_11, hF_97_12, hO_156, hF_156_0, hR_156_1, hR_156_2, hR_156_3, hR_156_4, hR_156_5, hR_156_6, hR_156_7, hR_156_8, fd_p_eq, fd_p_ne, fd_p_lt, fd_p_ge, fd_p_gt, fd_p_le, fd_f_iadd, fd_f_isub, fd_f_imul, fd_f_iand, fd_f_ior, fd_f_ixor, fd_f_ishl, fd_f_ishr, fd_f_iushr, fd_f_ladd, fd_f_lsub, fd_f_lmul, fd_f_lcmp, fd_f_idiv, fd_f_irem, fd_f_ldiv, fd_f_lrem, fd_f_ineg, fd_f_i2l, fd_f_l2i, fd_f_i2b, fd_f_i2s, fd_f_i2c, fd_z_idiv, fd_z_irem, fd_z_ldiv, fd_z_lrem, fd_in0, fd_sl, fd_st1, fd_st2, fd_kl, fd_vI, fd_vL, fd_vN, fd_ok1, fd_v_int, xI, xL, xR, xK, xG, yI, yL, yN, -Prod.exists]
  have y5 : True := trivial
  -- the reference's side, from any memory that the class leaves
  have ref : ∀ (M4 : fd_M), fd_sm [0, 2] M M4 → (∀ j, M4.1 183 j = M.1 183 j) → ∀ (r : Value), ((lgd w S m A w.f).2 = none → r = .int (-2) ∧ fd_sm [0] M M4) → (∀ j, (lgd w S m A w.f).2 = some j → r = .int (nI j) ∧ M4.1 3 1 = 1 ∧ M4.2 4 0 = (lgd w S m A w.f).1.toInt64) → fd_bm m_X12_longer [.int (nI m)] c r M4 := by
    intro M4 s4 e4 r hr0 hr1
    have s5 : fd_sm [0, 2] M4 (fd_uI M4 182 17 0) := (by repeat' (first | exact fd_sm.rf | refine fd_sm.uI ?_ (by first | decide | (simp [cl, cl_182]; done)) | refine fd_sm.uL ?_ (by first | decide | (simp [cl, cl_182]; done))))
    have s15 := s4.tr s5
    have w5 := hw.cg s15 (by decide) (by decide) (by decide) (by decide)
    have sm5 : mst w.f 183 0 S (fd_uI M4 182 17 0) := sm.cg hf (fun j _ => by rw [rd_ne (by omega)]; exact e4 _)
    have cr := s_X12_canRound (w := w) w5.1.2.2.1 hv (nI m)
    rw [if_pos (rch_iff.mpr ⟨v0, m, hm, rfl⟩)] at cr
    unfold fd_bm m_X12_longer
    rw [lo_m_eq]
    simp [↓wp_ldn, ↓wp_b1, ↓wp_b2, ↓wp_b2z, ↓wp_gf, ↓wp_gd, ↓wp_ga, ↓wp_gl, ↓wp_al2, ↓wp_pi, ↓wp_ltr, ↓wp_ite, ↓wp_and, ↓wp_or, ↓wp_not, ↓wp_cmp, ↓wp_cmz, ↓wp_isn, ↓wp_nsn, ↓wp_a0, ↓wp_a1, ↓wp_cv, ↓wp_cs, ↓wp_dr, ↓wp_sk, ↓wp_brk, ↓wp_cnt, ↓wp_rV, ↓wp_seq, ↓wp_iff, ↓wp_sI, ↓wp_sL, ↓wp_sN, ↓wp_inc, ↓wp_do, ↓wp_rI, ↓wp_rL, ↓wp_rN, ↓wp_rZ, ↓wp_pf, ↓wp_pz, ↓wp_pd, ↓wp_po, ↓wp_pl, ↓wp_pao, ↓wp_tsw, ↓wp_lsw, ↓wp_fn, ↓wq_ld, ↓wq_ldl, ↓wq_lda, ↓wq_c, ↓wq_gr, ↓wq_gq, ↓wq_nn, ↓wq_asI, ↓wq_asL, ↓wq_asN, ↓wq_pa, hO_182, hR_182_0, hF_182_1, hR_182_2, hF_182_3, hR_182_4, hF_182_5, hR_182_6, hR_182_7, hR_182_8, hF_182_9, hF_182_10, hF_182_11, hF_182_12, hR_182_13, hF_182_14, hR_182_15, hF_182_16, hF_182_17, hF_182_18, hF_182_19, hF_182_20, hF_182_21, hF_182_22, hR_182_23, hR_182_24, hF_182_25, hF_182_26, hR_182_27, hR_182_28, hR_182_29, hF_182_30, hF_182_31, hR_182_32, hR_182_33, hF_182_34, hR_182_35, hF_182_36, hF_182_37, hF_182_38, hF_182_39, hF_182_40, hR_182_41, hR_182_42, hR_182_43, hR_182_44, hR_182_45, hR_182_46, hF_182_47, hR_182_48, hR_182_49, hR_182_50, hR_182_51, hR_182_52, hF_182_53, hR_182_54, hR_182_55, hR_182_56, hR_182_57, hF_182_58, hR_182_59, hR_182_60, hR_182_61, fd_p_eq, fd_p_ne, fd_p_lt, fd_p_ge, fd_p_gt, fd_p_le, fd_f_iadd, fd_f_isub, fd_f_imul, fd_f_iand, fd_f_ior, fd_f_ixor, fd_f_ishl, fd_f_ishr, fd_f_iushr, fd_f_ladd, fd_f_lsub, fd_f_lmul, fd_f_lcmp, fd_f_idiv, fd_f_irem, fd_f_ldiv, fd_f_lrem, fd_f_ineg, fd_f_i2l, fd_f_l2i, fd_f_i2b, fd_f_i2s, fd_f_i2c, fd_z_idiv, fd_z_irem, fd_z_ldiv, fd_z_lrem, fd_in0, fd_sl, fd_st1, fd_st2, fd_kl, fd_vI, fd_vL, fd_vN, fd_ok1, fd_v_int, xI, xL, xR, xK, xG, yI, yL, yN, -Prod.exists, fd_run_of cr]
    refine s_X12_begin1 w5 sm5 sk' (fun M6 f6 q6 => ?_)
    try simp [↓wp_ldn, ↓wp_b1, ↓wp_b2, ↓wp_b2z, ↓wp_gf, ↓wp_gd, ↓wp_ga, ↓wp_gl, ↓wp_al2, ↓wp_pi, ↓wp_ltr, ↓wp_ite, ↓wp_and, ↓wp_or, ↓wp_not, ↓wp_cmp, ↓wp_cmz, ↓wp_isn, ↓wp_nsn, ↓wp_a0, ↓wp_a1, ↓wp_cv, ↓wp_cs, ↓wp_dr, ↓wp_sk, ↓wp_brk, ↓wp_cnt, ↓wp_rV, ↓wp_seq, ↓wp_iff, ↓wp_sI, ↓wp_sL, ↓wp_sN, ↓wp_inc, ↓wp_do, ↓wp_rI, ↓wp_rL, ↓wp_rN, ↓wp_rZ, ↓wp_pf, ↓wp_pz, ↓wp_pd, ↓wp_po, ↓wp_pl, ↓wp_pao, ↓wp_tsw, ↓wp_lsw, ↓wp_fn, ↓wq_ld, ↓wq_ldl, ↓wq_lda, ↓wq_c, ↓wq_gr, ↓wq_gq, ↓wq_nn, ↓wq_asI, ↓wq_asL, ↓wq_asN, ↓wq_pa, hO_182, hR_182_0, hF_182_1, hR_182_2, hF_182_3, hR_182_4, hF_182_5, hR_182_6, hR_182_7, hR_182_8, hF_182_9, hF_182_10, hF_182_11, hF_182_12, hR_182_13, hF_182_14, hR_182_15, hF_182_16, hF_182_17, hF_182_18, hF_182_19, hF_182_20, hF_182_21, hF_182_22, hR_182_23, hR_182_24, hF_182_25, hF_182_26, hR_182_27, hR_182_28, hR_182_29, hF_182_30, hF_182_31, hR_182_32, hR_182_33, hF_182_34, hR_182_35, hF_182_36, hF_182_37, hF_182_38, hF_182_39, hF_182_40, hR_182_41, hR_182_42, hR_182_43, hR_182_44, hR_182_45, hR_182_46, hF_182_47, hR_182_48, hR_182_49, hR_182_50, hR_182_51, hR_182_52, hF_182_53, hR_182_54, hR_182_55, hR_182_56, hR_182_57, hF_182_58, hR_182_59, hR_182_60, hR_182_61, fd_p_eq, fd_p_ne, fd_p_lt, fd_p_ge, fd_p_gt, fd_p_le, fd_f_iadd, fd_f_isub, fd_f_imul, fd_f_iand, fd_f_ior, fd_f_ixor, fd_f_ishl, fd_f_ishr, fd_f_iushr, fd_f_ladd, fd_f_lsub, fd_f_lmul, fd_f_lcmp, fd_f_idiv, fd_f_irem, fd_f_ldiv, fd_f_lrem, fd_f_ineg, fd_f_i2l, fd_f_l2i, fd_f_i2b, fd_f_i2s, fd_f_i2c, fd_z_idiv, fd_z_irem, fd_z_ldiv, fd_z_lrem, fd_in0, fd_sl, fd_st1, fd_st2, fd_kl, fd_vI, fd_vL, fd_vN, fd_ok1, fd_v_int, xI, xL, xR, xK, xG, yI, yL, yN, -Prod.exists]
    have s6 : fd_sm [0, 2] (fd_uI M4 182 17 0) M6 := f6.sm (fun k j z => by rcases z with rfl | rfl <;> simp [cl])
    have s16 := s15.tr s6
    refine s_X12_mostBids q6 (iv_sky_cg a5 (s16.eq (by decide))) sk' hm ha (fun M7 f7 => ?_)
    rw [← hA]
    have q7 := q6.cg f7 (fun a j z => by rw [z]; simp [cl])
    have s7 : fd_sm [0, 2] M6 M7 := f7.sm (fun k j z => by rw [z]; simp [cl])
    have s17 := s16.tr s7
    simp [↓wp_ldn, ↓wp_b1, ↓wp_b2, ↓wp_b2z, ↓wp_gf, ↓wp_gd, ↓wp_ga, ↓wp_gl, ↓wp_al2, ↓wp_pi, ↓wp_ltr, ↓wp_ite, ↓wp_and, ↓wp_or, ↓wp_not, ↓wp_cmp, ↓wp_cmz, ↓wp_isn, ↓wp_nsn, ↓wp_a0, ↓wp_a1, ↓wp_cv, ↓wp_cs, ↓wp_dr, ↓wp_sk, ↓wp_brk, ↓wp_cnt, ↓wp_rV, ↓wp_seq, ↓wp_iff, ↓wp_sI, ↓wp_sL, ↓wp_sN, ↓wp_inc, ↓wp_do, ↓wp_rI, ↓wp_rL, ↓wp_rN, ↓wp_rZ, ↓wp_pf, ↓wp_pz, ↓wp_pd, ↓wp_po, ↓wp_pl, ↓wp_pao, ↓wp_tsw, ↓wp_lsw, ↓wp_fn, ↓wq_ld, ↓wq_ldl, ↓wq_lda, ↓wq_c, ↓wq_gr, ↓wq_gq, ↓wq_nn, ↓wq_asI, ↓wq_asL, ↓wq_asN, ↓wq_pa, hO_182, hR_182_0, hF_182_1, hR_182_2, hF_182_3, hR_182_4, hF_182_5, hR_182_6, hR_182_7, hR_182_8, hF_182_9, hF_182_10, hF_182_11, hF_182_12, hR_182_13, hF_182_14, hR_182_15, hF_182_16, hF_182_17, hF_182_18, hF_182_19, hF_182_20, hF_182_21, hF_182_22, hR_182_23, hR_182_24, hF_182_25, hF_182_26, hR_182_27, hR_182_28, hR_182_29, hF_182_30, hF_182_31, hR_182_32, hR_182_33, hF_182_34, hR_182_35, hF_182_36, hF_182_37, hF_182_38, hF_182_39, hF_182_40, hR_182_41, hR_182_42, hR_182_43, hR_182_44, hR_182_45, hR_182_46, hF_182_47, hR_182_48, hR_182_49, hR_182_50, hR_182_51, hR_182_52, hF_182_53, hR_182_54, hR_182_55, hR_182_56, hR_182_57, hF_182_58, hR_182_59, hR_182_60, hR_182_61, fd_p_eq, fd_p_ne, fd_p_lt, fd_p_ge, fd_p_gt, fd_p_le, fd_f_iadd, fd_f_isub, fd_f_imul, fd_f_iand, fd_f_ior, fd_f_ixor, fd_f_ishl, fd_f_ishr, fd_f_iushr, fd_f_ladd, fd_f_lsub, fd_f_lmul, fd_f_lcmp, fd_f_idiv, fd_f_irem, fd_f_ldiv, fd_f_lrem, fd_f_ineg, fd_f_i2l, fd_f_l2i, fd_f_i2b, fd_f_i2s, fd_f_i2c, fd_z_idiv, fd_z_irem, fd_z_ldiv, fd_z_lrem, fd_in0, fd_sl, fd_st1, fd_st2, fd_kl, fd_vI, fd_vL, fd_vN, fd_ok1, fd_v_int, xI, xL, xR, xK, xG, yI, yL, yN, -Prod.exists]
    refine lo_m_wp (Q := fun r2 Mm => r2 = r ∧ (∃ v, r = .int v) ∧ Inv (c + 1) Mm) q7 (iv_sky_cg a5 (s17.eq (by decide))) sk' hm ha hA (fun e M8 f8 => ?_) (fun j e M8 f8 h1 h2 => ?_)
    · obtain ⟨e1, e2⟩ := hr0 e
      refine ⟨e1.symm, ⟨_, e1⟩, Inv_sm I0 (e2.tr ?_)⟩
      have t5 : fd_sm [0] M4 (fd_uI M4 182 17 0) := (by repeat' (first | exact fd_sm.rf | refine fd_sm.uI ?_ (by first | decide | (simp [cl, cl_182]; done)) | refine fd_sm.uL ?_ (by first | decide | (simp [cl, cl_182]; done))))
      exact t5.tr ((f6.sm (fun k j z => by rcases z with rfl | rfl <;> simp [cl])).tr ((f7.sm (fun k j z => by rw [z]; simp [cl])).tr (f8.sm (fun k j z => by rcases z with rfl | rfl <;> simp [cl]))))
    · obtain ⟨e1, e2, e3⟩ := hr1 j e
      have s8 : fd_sm [0, 2] M7 M8 := f8.sm (fun k j z => by rcases z with (rfl | rfl | ⟨rfl, rfl⟩) | rfl <;> simp [cl, cl_182])
      refine ⟨e1.symm, ⟨_, e1⟩, Inv_row I0 (s17.tr s8) ⟨1, by omega, ?_, h1, fun i hi => ?_⟩⟩
      · rw [f8.1 _ _ (by omega), f7.1 _ _ (by omega), f6.1 _ _ (by omega), rd_ne (by omega)]; exact e2
      · rw [show i = 0 by omega, f8.2 _ _ (by omega), f7.2, f6.2, rd_I2, e3, h2]
  refine lo_x_wp (Q := fun r Mx => fd_bm m_X12_longer [.int (nI m)] c r Mx) w3 k3 sc3 sk' hm ha t3 v3 (by omega) (fun e M4 f4 => ?_) (fun j e M4 f4 h1 h2 => ?_)
  · have f04 : fP rF M M4 := f03.tr f4
    refine ref M4 ((f04.sm rF_cl).up (by simp)) (fun j => f04.1 _ _ (by unfold rF; omega)) _ (fun _ => ⟨rfl, f04.sm rF_cl⟩) (fun j e2 => ?_)
    rw [e] at e2
    cases e2
  · have s4 : fd_sm [0, 2] M3 M4 := f4.sm (fun k j z => by
      rcases z with (z | ⟨rfl, rfl⟩) | rfl
      · rw [cl_97 z.1 z.2]; decide
      · simp [cl]
      · simp [cl])
    refine ref M4 (((f03.sm rF_cl).up (by simp)).tr s4) (fun j => by rw [f4.1 _ _ (by unfold rF; omega), f03.1 _ _ (by unfold rF; omega)]) _ (fun e2 => ?_) (fun j' e2 => ?_)
    · rw [e] at e2
      cases e2
    · rw [e] at e2
      cases e2
      exact ⟨rfl, h1, h2⟩
