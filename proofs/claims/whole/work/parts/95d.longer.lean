/-! ===== the call longer ===== -/
def lgY (S : sto) (i : Nat) : Nat → Nat := fun j => if j = i then S.Y i + 1 else S.Y j
def lgS (S : sto) (i : Nat) : sto := sto.mk S.n S.a S.s S.pl S.w S.T S.C S.X (lgY S i)
/-- one night more of it lies in the nights that are planned -/
def lgE (w : wl) (S : sto) (n i : Nat) : Prop := S.pl.testBit i = false ∧ S.Y i < 99 ∧ S.n ≤ S.Y i + 1 ∧ S.Y i + 1 < S.n + n ∧ ¬ (w.lf ≤ nI (S.Y i + 1) ∧ nI (S.Y i + 1) ≤ w.lt)
theorem lg_rpl {w : wl} {S : sto} {i k q : Nat} (h : S.n + k ≠ S.Y i + 1 ∨ (w.lf ≤ nI (S.Y i + 1) ∧ nI (S.Y i + 1) ≤ w.lt)) : rpl w S S.Y k q = rpl w S (lgY S i) k q := by
  unfold rpl
  by_cases cl : w.lf ≤ nI (S.n + k) ∧ nI (S.n + k) ≤ w.lt
  · rw [if_pos cl, if_pos cl]
  · rw [if_neg cl, if_neg cl]
    refine bq_cong fun j _ => ?_
    unfold lgY
    by_cases e : j = i
    · subst e
      rw [if_pos rfl]
      have ne : S.n + k ≠ S.Y j + 1 := fun z => by
        rcases h with h | h
        · exact h z
        · rw [← z] at h; exact cl h
      have : decide (S.n + k ≤ S.Y j) = decide (S.n + k ≤ S.Y j + 1) := decide_eq_decide.mpr (by omega)
      rw [this]
    · rw [if_neg e]
theorem lg_same {w : wl} {S : sto} {i k q : Nat} (h : S.n + k ≠ S.Y i + 1 ∨ q ≠ w.A i) : rop w S k q = rop w (lgS S i) k q := by
  unfold rop
  show (if w.lf ≤ nI (S.n + k) ∧ nI (S.n + k) ≤ w.lt then 0 else _) = if w.lf ≤ nI (S.n + k) ∧ nI (S.n + k) ≤ w.lt then 0 else bq (fun j => decide (w.A j = q) && decide (S.X j ≤ S.n + k) && decide (S.n + k ≤ lgY S i j) && !S.pl.testBit j) w.f
  by_cases cl : w.lf ≤ nI (S.n + k) ∧ nI (S.n + k) ≤ w.lt
  · rw [if_pos cl, if_pos cl]
  · rw [if_neg cl, if_neg cl]
    refine bq_cong fun j _ => ?_
    unfold lgY
    by_cases e : j = i
    · subst e
      rw [if_pos rfl]
      by_cases eq : w.A j = q
      · have : decide (S.n + k ≤ S.Y j) = decide (S.n + k ≤ S.Y j + 1) := decide_eq_decide.mpr (by omega)
        rw [this]
      · rw [decide_eq_false eq]; rfl
    · rw [if_neg e]
theorem lg_tog {w : wl} {S : sto} {i k : Nat} (hi : i < w.f) (hx : S.X i ≤ S.Y i) (hp : S.pl.testBit i = false) (hk : S.n + k = S.Y i + 1) (hl : ¬ (w.lf ≤ nI (S.n + k) ∧ nI (S.n + k) ≤ w.lt)) : rop w S k (w.A i) ^^^ 2 ^ i = rop w (lgS S i) k (w.A i) := by
  unfold rop
  show (if w.lf ≤ nI (S.n + k) ∧ nI (S.n + k) ≤ w.lt then 0 else _) ^^^ 2 ^ i = if w.lf ≤ nI (S.n + k) ∧ nI (S.n + k) ≤ w.lt then 0 else bq (fun j => decide (w.A j = w.A i) && decide (S.X j ≤ S.n + k) && decide (S.n + k ≤ lgY S i j) && !S.pl.testBit j) w.f
  rw [if_neg hl, if_neg hl]
  refine Nat.eq_of_testBit_eq fun j => ?_
  rw [Nat.testBit_xor, bq_tb, bq_tb, Nat.testBit_two_pow]
  unfold lgY
  by_cases e : j = i
  · subst e
    rw [if_pos rfl, decide_eq_true hi, hp, decide_eq_true (show S.X j ≤ S.n + k by omega), decide_eq_false (show ¬ S.n + k ≤ S.Y j by omega), decide_eq_true (show S.n + k ≤ S.Y j + 1 by omega)]
    simp
  · rw [if_neg e, decide_eq_false (show ¬ i = j from fun z => e z.symm), Bool.xor_false]
noncomputable def lgs (E : Nat → Prop) (d : Nat → Int32) : Nat → Int32 × Option Nat
  | 0 => (0, none)
  | k + 1 => if rch (E k) = true ∧ (lgs E d k).1 < d k then (d k, some k) else lgs E d k
theorem lgs_nn (E : Nat → Prop) (d : Nat → Int32) : ∀ k, (0 : Int32) ≤ (lgs E d k).1
  | 0 => Int32.le_refl _
  | k + 1 => by
    have ih := lgs_nn E d k
    unfold lgs
    by_cases h : rch (E k) = true ∧ (lgs E d k).1 < d k
    · rw [if_pos h]
      exact Int32.le_trans ih (Int32.le_of_lt h.2)
    · rw [if_neg h]
      exact ih
theorem lgs_lt (E : Nat → Prop) (d : Nat → Int32) : ∀ k j, (lgs E d k).2 = some j → j < k
  | 0, j, h => by cases h
  | k + 1, j, h => by
    unfold lgs at h
    by_cases c : rch (E k) = true ∧ (lgs E d k).1 < d k
    · rw [if_pos c] at h
      cases h
      omega
    · rw [if_neg c] at h
      have := lgs_lt E d k j h
      omega
def lgw (x : Int32) : Option Nat → Int32
  | none => x
  | some j => nI j
theorem neg_le0 {b : Nat} (hb : b < 1000000) {g : Int32} (hg : 0 ≤ g) : ¬ g < -nI b := fun h => by
  have e : -nI b = nI 0 - nI b := by rw [nI_0, Int32.zero_sub]
  rw [e] at h
  by_cases b0 : b = 0
  · rw [b0, Int32.sub_self] at h
    exact absurd (Int32.lt_of_lt_of_le h hg) (lt_self _)
  · have := pk_sneg (a := 0) (b := b) (by omega) (by omega)
    exact absurd (Int32.lt_of_le_of_lt hg (Int32.lt_trans h this)) (lt_self _)
section LO
variable {M : fd_M} {w : wl} {S : sto} {n : Nat}
/-- what it is worth, if i's last night were one more -/
def lgm (w : wl) (S : sto) (n i : Nat) : Nat := ms w.v (rnr w S.n) (rpl w S (lgY S i)) (gn w.f w.B) n 0 S.a S.pl
theorem s_X11_gain1 {i : Nat} (hi : i < w.f) (hw : wd w M) (h5 : iv_sky M) (hS : cst w.f 42 S M) (hok : sok w.v w.f 1400000 S) (hn : n ≤ 10) (ha : S.a < w.v) (hr : rT w S n M) (hV : vW w.f (fun s => gn w.f w.B s) M) {Q : Value → fd_M → Prop} (hQ0 : ¬ lgE w S n i → Q (.int 0) M) (hQ1 : lgE w S n i → ∀ M2, fP rF M M2 → rT w S n M2 → vW w.f (fun s => gn w.f w.B s) M2 → Q (.int (nI (lgm w S n i))) M2) : fd_run m_X11_gainOfOneNight [.ref 0, .int (nI i), .int (nI n)] M Q := by
  have hf := hw.2.1.1
  have hs1 := s_X1_has_t hw.2.1.2.1 hf hi
  have hv := hw.1.1
  have hSn : S.n ≤ 1400000 := hok.1
  obtain ⟨x1, x2⟩ := hok.2.2.2.2.2 i hi
  have wp0 := s_X10_wasPlayed (M := M) (k := 42) (pl := S.pl) hO_42 hS.2.2.2.2.2.2.1 (show i < 31 by omega)
  have e44 := (hS.2.2.2.2.2.2.2 i hi).2
  have r44 : fd_rfc (fd_isF 42 10 9) = some 44 := rfl
  have il := s_X8_isLent (nI (S.Y i + 1)) M
  rw [hw.2.2.1.2.2.2.2.1, hw.2.2.1.2.2.2.2.2.2.1] at il
  unfold m_X11_gainOfOneNight b_X11_gainOfOneNight
  by_cases hp : S.pl.testBit i = true
  · rw [if_pos hp] at wp0
    simp [↓wp_ldn, ↓wp_b1, ↓wp_b2, ↓wp_b2z, ↓wp_gf, ↓wp_gd, ↓wp_ga, ↓wp_gl, ↓wp_al2, ↓wp_pi, ↓wp_ltr, ↓wp_ite, ↓wp_and, ↓wp_or, ↓wp_not, ↓wp_cmp, ↓wp_cmz, ↓wp_isn, ↓wp_nsn, ↓wp_a0, ↓wp_a1, ↓wp_cv, ↓wp_cs, ↓wp_dr, ↓wp_sk, ↓wp_brk, ↓wp_cnt, ↓wp_rV, ↓wp_seq, ↓wp_iff, ↓wp_sI, ↓wp_sL, ↓wp_sN, ↓wp_inc, ↓wp_do, ↓wp_rI, ↓wp_rL, ↓wp_rN, ↓wp_rZ, ↓wp_pf, ↓wp_pz, ↓wp_pd, ↓wp_po, ↓wp_pl, ↓wp_pao, ↓wp_tsw, ↓wp_lsw, ↓wp_fn, ↓wq_ld, ↓wq_ldl, ↓wq_lda, ↓wq_c, ↓wq_gr, ↓wq_gq, ↓wq_nn, ↓wq_asI, ↓wq_asL, ↓wq_asN, ↓wq_pa, hO_0, hR_0_0, hR_0_1, hR_0_2, hR_0_3, hR_0_4, hR_0_5, hR_0_6, hR_0_7, hR_0_8, hR_0_9, hR_0_10, hR_0_11, hF_0_12, hO_1, hR_1_0, hF_1_1, hF_1_2, hF_1_3, hO_3, hR_3_0, hF_3_1, hO_5, hF_5_0, hF_5_1, hR_5_2, hR_5_3, hR_5_4, hR_5_5, hR_5_6, hR_5_7, hF_5_8, hF_5_9, hO_30, hF_30_0, hF_30_1, hF_30_2, hF_30_3, hO_31, hF_31_0, hF_31_1, hR_31_2, hR_31_3, hR_31_4, hO_35, hR_35_0, hF_35_1, hR_35_2, hF_35_3, hR_35_4, hF_35_5, hF_35_6, hR_35_7, hF_35_8, hR_35_9, hR_35_10, hO_42, hO_45, hO_48, hR_48_0, hF_48_1, hF_48_2, hR_48_3, hR_48_4, hO_94, hR_94_0, hR_94_1, hO_97, hF_97_0, hF_97_1, hF_97_2, hF_97_3, hR_97_4, hR_97_5, hR_97_6, hR_97_7, hR_97_8, hR_97_9, hR_97_10, hR_97_11, hF_97_12, hO_156, hF_156_0, hR_156_1, hR_156_2, hR_156_3, hR_156_4, hR_156_5, hR_156_6, hR_156_7, hR_156_8, fd_p_eq, fd_p_ne, fd_p_lt, fd_p_ge, fd_p_gt, fd_p_le, fd_f_iadd, fd_f_isub, fd_f_imul, fd_f_iand, fd_f_ior, fd_f_ixor, fd_f_ishl, fd_f_ishr, fd_f_iushr, fd_f_ladd, fd_f_lsub, fd_f_lmul, fd_f_lcmp, fd_f_idiv, fd_f_irem, fd_f_ldiv, fd_f_lrem, fd_f_ineg, fd_f_i2l, fd_f_l2i, fd_f_i2b, fd_f_i2s, fd_f_i2c, fd_z_idiv, fd_z_irem, fd_z_ldiv, fd_z_lrem, fd_in0, fd_sl, fd_st1, fd_st2, fd_kl, fd_vI, fd_vL, fd_vN, fd_ok1, fd_v_int, xI, xL, xR, xK, xG, yI, yL, yN, -Prod.exists, fd_run_of hs1, fd_run_of wp0]
    exact hQ0 (fun z => by have := z.1; rw [hp] at this; exact absurd this (by decide))
  rw [if_neg hp] at wp0
  have hpf : S.pl.testBit i = false := by simpa using hp
  by_cases h99 : S.Y i < 99
  rotate_left
  · have c1 : (99 : Int32) ≤ nI (S.Y i) := nI_le (a := 99) (by omega) (by omega)
    simp [↓wp_ldn, ↓wp_b1, ↓wp_b2, ↓wp_b2z, ↓wp_gf, ↓wp_gd, ↓wp_ga, ↓wp_gl, ↓wp_al2, ↓wp_pi, ↓wp_ltr, ↓wp_ite, ↓wp_and, ↓wp_or, ↓wp_not, ↓wp_cmp, ↓wp_cmz, ↓wp_isn, ↓wp_nsn, ↓wp_a0, ↓wp_a1, ↓wp_cv, ↓wp_cs, ↓wp_dr, ↓wp_sk, ↓wp_brk, ↓wp_cnt, ↓wp_rV, ↓wp_seq, ↓wp_iff, ↓wp_sI, ↓wp_sL, ↓wp_sN, ↓wp_inc, ↓wp_do, ↓wp_rI, ↓wp_rL, ↓wp_rN, ↓wp_rZ, ↓wp_pf, ↓wp_pz, ↓wp_pd, ↓wp_po, ↓wp_pl, ↓wp_pao, ↓wp_tsw, ↓wp_lsw, ↓wp_fn, ↓wq_ld, ↓wq_ldl, ↓wq_lda, ↓wq_c, ↓wq_gr, ↓wq_gq, ↓wq_nn, ↓wq_asI, ↓wq_asL, ↓wq_asN, ↓wq_pa, hO_0, hR_0_0, hR_0_1, hR_0_2, hR_0_3, hR_0_4, hR_0_5, hR_0_6, hR_0_7, hR_0_8, hR_0_9, hR_0_10, hR_0_11, hF_0_12, hO_1, hR_1_0, hF_1_1, hF_1_2, hF_1_3, hO_3, hR_3_0, hF_3_1, hO_5, hF_5_0, hF_5_1, hR_5_2, hR_5_3, hR_5_4, hR_5_5, hR_5_6, hR_5_7, hF_5_8, hF_5_9, hO_30, hF_30_0, hF_30_1, hF_30_2, hF_30_3, hO_31, hF_31_0, hF_31_1, hR_31_2, hR_31_3, hR_31_4, hO_35, hR_35_0, hF_35_1, hR_35_2, hF_35_3, hR_35_4, hF_35_5, hF_35_6, hR_35_7, hF_35_8, hR_35_9, hR_35_10, hO_42, hO_45, hO_48, hR_48_0, hF_48_1, hF_48_2, hR_48_3, hR_48_4, hO_94, hR_94_0, hR_94_1, hO_97, hF_97_0, hF_97_1, hF_97_2, hF_97_3, hR_97_4, hR_97_5, hR_97_6, hR_97_7, hR_97_8, hR_97_9, hR_97_10, hR_97_11, hF_97_12, hO_156, hF_156_0, hR_156_1, hR_156_2, hR_156_3, hR_156_4, hR_156_5, hR_156_6, hR_156_7, hR_156_8, fd_p_eq, fd_p_ne, fd_p_lt, fd_p_ge, fd_p_gt, fd_p_le, fd_f_iadd, fd_f_isub, fd_f_imul, fd_f_iand, fd_f_ior, fd_f_ixor, fd_f_ishl, fd_f_ishr, fd_f_iushr, fd_f_ladd, fd_f_lsub, fd_f_lmul, fd_f_lcmp, fd_f_idiv, fd_f_irem, fd_f_ldiv, fd_f_lrem, fd_f_ineg, fd_f_i2l, fd_f_l2i, fd_f_i2b, fd_f_i2s, fd_f_i2c, fd_z_idiv, fd_z_irem, fd_z_ldiv, fd_z_lrem, fd_in0, fd_sl, fd_st1, fd_st2, fd_kl, fd_vI, fd_vL, fd_vN, fd_ok1, fd_v_int, xI, xL, xR, xK, xG, yI, yL, yN, -Prod.exists, fd_run_of hs1, fd_run_of wp0, r44, hA_44 (show i < 8 by omega), nI_clamp (show i < 2 ^ 31 by omega), e44, c1]
    exact hQ0 (fun z => h99 z.2.1)
  have c1 : ¬ (99 : Int32) ≤ nI (S.Y i) := nI_ge (b := 99) h99 (by decide)
  have c1' := Int32.not_le.mp c1
  by_cases hlo : S.n ≤ S.Y i + 1
  rotate_left
  · have c2 := pk_sneg (a := S.Y i + 1) (b := S.n) (by omega) (by omega)
    simp [↓wp_ldn, ↓wp_b1, ↓wp_b2, ↓wp_b2z, ↓wp_gf, ↓wp_gd, ↓wp_ga, ↓wp_gl, ↓wp_al2, ↓wp_pi, ↓wp_ltr, ↓wp_ite, ↓wp_and, ↓wp_or, ↓wp_not, ↓wp_cmp, ↓wp_cmz, ↓wp_isn, ↓wp_nsn, ↓wp_a0, ↓wp_a1, ↓wp_cv, ↓wp_cs, ↓wp_dr, ↓wp_sk, ↓wp_brk, ↓wp_cnt, ↓wp_rV, ↓wp_seq, ↓wp_iff, ↓wp_sI, ↓wp_sL, ↓wp_sN, ↓wp_inc, ↓wp_do, ↓wp_rI, ↓wp_rL, ↓wp_rN, ↓wp_rZ, ↓wp_pf, ↓wp_pz, ↓wp_pd, ↓wp_po, ↓wp_pl, ↓wp_pao, ↓wp_tsw, ↓wp_lsw, ↓wp_fn, ↓wq_ld, ↓wq_ldl, ↓wq_lda, ↓wq_c, ↓wq_gr, ↓wq_gq, ↓wq_nn, ↓wq_asI, ↓wq_asL, ↓wq_asN, ↓wq_pa, hO_0, hR_0_0, hR_0_1, hR_0_2, hR_0_3, hR_0_4, hR_0_5, hR_0_6, hR_0_7, hR_0_8, hR_0_9, hR_0_10, hR_0_11, hF_0_12, hO_1, hR_1_0, hF_1_1, hF_1_2, hF_1_3, hO_3, hR_3_0, hF_3_1, hO_5, hF_5_0, hF_5_1, hR_5_2, hR_5_3, hR_5_4, hR_5_5, hR_5_6, hR_5_7, hF_5_8, hF_5_9, hO_30, hF_30_0, hF_30_1, hF_30_2, hF_30_3, hO_31, hF_31_0, hF_31_1, hR_31_2, hR_31_3, hR_31_4, hO_35, hR_35_0, hF_35_1, hR_35_2, hF_35_3, hR_35_4, hF_35_5, hF_35_6, hR_35_7, hF_35_8, hR_35_9, hR_35_10, hO_42, hO_45, hO_48, hR_48_0, hF_48_1, hF_48_2, hR_48_3, hR_48_4, hO_94, hR_94_0, hR_94_1, hO_97, hF_97_0, hF_97_1, hF_97_2, hF_97_3, hR_97_4, hR_97_5, hR_97_6, hR_97_7, hR_97_8, hR_97_9, hR_97_10, hR_97_11, hF_97_12, hO_156, hF_156_0, hR_156_1, hR_156_2, hR_156_3, hR_156_4, hR_156_5, hR_156_6, hR_156_7, hR_156_8, fd_p_eq, fd_p_ne, fd_p_lt, fd_p_ge, fd_p_gt, fd_p_le, fd_f_iadd, fd_f_isub, fd_f_imul, fd_f_iand, fd_f_ior, fd_f_ixor, fd_f_ishl, fd_f_ishr, fd_f_iushr, fd_f_ladd, fd_f_lsub, fd_f_lmul, fd_f_lcmp, fd_f_idiv, fd_f_irem, fd_f_ldiv, fd_f_lrem, fd_f_ineg, fd_f_i2l, fd_f_l2i, fd_f_i2b, fd_f_i2s, fd_f_i2c, fd_z_idiv, fd_z_irem, fd_z_ldiv, fd_z_lrem, fd_in0, fd_sl, fd_st1, fd_st2, fd_kl, fd_vI, fd_vL, fd_vN, fd_ok1, fd_v_int, xI, xL, xR, xK, xG, yI, yL, yN, -Prod.exists, fd_run_of hs1, fd_run_of wp0, r44, hA_44 (show i < 8 by omega), nI_clamp (show i < 2 ^ 31 by omega), e44, c1, c1', nI_1, show fd_isF 42 10 0 = some 0 from rfl, hS.1, c2]
    exact hQ0 (fun z => hlo z.2.2.1)
  obtain ⟨k, hk⟩ : ∃ k, S.Y i + 1 = S.n + k := ⟨S.Y i + 1 - S.n, by omega⟩
  have e2 : nI (S.Y i + 1) - nI S.n = nI k := by rw [nI_sub hlo]; congr 1; omega
  have c2 : ¬ nI k < 0 := nI_pos (by omega)
  have c2' := Int32.not_lt.mp c2
  by_cases hhi : k < n
  rotate_left
  · have c3 : nI n ≤ nI k := nI_le (by omega) (by omega)
    simp [↓wp_ldn, ↓wp_b1, ↓wp_b2, ↓wp_b2z, ↓wp_gf, ↓wp_gd, ↓wp_ga, ↓wp_gl, ↓wp_al2, ↓wp_pi, ↓wp_ltr, ↓wp_ite, ↓wp_and, ↓wp_or, ↓wp_not, ↓wp_cmp, ↓wp_cmz, ↓wp_isn, ↓wp_nsn, ↓wp_a0, ↓wp_a1, ↓wp_cv, ↓wp_cs, ↓wp_dr, ↓wp_sk, ↓wp_brk, ↓wp_cnt, ↓wp_rV, ↓wp_seq, ↓wp_iff, ↓wp_sI, ↓wp_sL, ↓wp_sN, ↓wp_inc, ↓wp_do, ↓wp_rI, ↓wp_rL, ↓wp_rN, ↓wp_rZ, ↓wp_pf, ↓wp_pz, ↓wp_pd, ↓wp_po, ↓wp_pl, ↓wp_pao, ↓wp_tsw, ↓wp_lsw, ↓wp_fn, ↓wq_ld, ↓wq_ldl, ↓wq_lda, ↓wq_c, ↓wq_gr, ↓wq_gq, ↓wq_nn, ↓wq_asI, ↓wq_asL, ↓wq_asN, ↓wq_pa, hO_0, hR_0_0, hR_0_1, hR_0_2, hR_0_3, hR_0_4, hR_0_5, hR_0_6, hR_0_7, hR_0_8, hR_0_9, hR_0_10, hR_0_11, hF_0_12, hO_1, hR_1_0, hF_1_1, hF_1_2, hF_1_3, hO_3, hR_3_0, hF_3_1, hO_5, hF_5_0, hF_5_1, hR_5_2, hR_5_3, hR_5_4, hR_5_5, hR_5_6, hR_5_7, hF_5_8, hF_5_9, hO_30, hF_30_0, hF_30_1, hF_30_2, hF_30_3, hO_31, hF_31_0, hF_31_1, hR_31_2, hR_31_3, hR_31_4, hO_35, hR_35_0, hF_35_1, hR_35_2, hF_35_3, hR_35_4, hF_35_5, hF_35_6, hR_35_7, hF_35_8, hR_35_9, hR_35_10, hO_42, hO_45, hO_48, hR_48_0, hF_48_1, hF_48_2, hR_48_3, hR_48_4, hO_94, hR_94_0, hR_94_1, hO_97, hF_97_0, hF_97_1, hF_97_2, hF_97_3, hR_97_4, hR_97_5, hR_97_6, hR_97_7, hR_97_8, hR_97_9, hR_97_10, hR_97_11, hF_97_12, hO_156, hF_156_0, hR_156_1, hR_156_2, hR_156_3, hR_156_4, hR_156_5, hR_156_6, hR_156_7, hR_156_8, fd_p_eq, fd_p_ne, fd_p_lt, fd_p_ge, fd_p_gt, fd_p_le, fd_f_iadd, fd_f_isub, fd_f_imul, fd_f_iand, fd_f_ior, fd_f_ixor, fd_f_ishl, fd_f_ishr, fd_f_iushr, fd_f_ladd, fd_f_lsub, fd_f_lmul, fd_f_lcmp, fd_f_idiv, fd_f_irem, fd_f_ldiv, fd_f_lrem, fd_f_ineg, fd_f_i2l, fd_f_l2i, fd_f_i2b, fd_f_i2s, fd_f_i2c, fd_z_idiv, fd_z_irem, fd_z_ldiv, fd_z_lrem, fd_in0, fd_sl, fd_st1, fd_st2, fd_kl, fd_vI, fd_vL, fd_vN, fd_ok1, fd_v_int, xI, xL, xR, xK, xG, yI, yL, yN, -Prod.exists, fd_run_of hs1, fd_run_of wp0, r44, hA_44 (show i < 8 by omega), nI_clamp (show i < 2 ^ 31 by omega), e44, c1, c1', nI_1, show fd_isF 42 10 0 = some 0 from rfl, hS.1, e2, c2, c2', c3]
    exact hQ0 (fun z => by have := z.2.2.2.1; omega)
  have c3 : ¬ nI n ≤ nI k := nI_ge hhi (by omega)
  have c3' := Int32.not_le.mp c3
  by_cases hl : w.lf ≤ nI (S.Y i + 1) ∧ nI (S.Y i + 1) ≤ w.lt
  · rw [if_pos hl] at il
    simp [↓wp_ldn, ↓wp_b1, ↓wp_b2, ↓wp_b2z, ↓wp_gf, ↓wp_gd, ↓wp_ga, ↓wp_gl, ↓wp_al2, ↓wp_pi, ↓wp_ltr, ↓wp_ite, ↓wp_and, ↓wp_or, ↓wp_not, ↓wp_cmp, ↓wp_cmz, ↓wp_isn, ↓wp_nsn, ↓wp_a0, ↓wp_a1, ↓wp_cv, ↓wp_cs, ↓wp_dr, ↓wp_sk, ↓wp_brk, ↓wp_cnt, ↓wp_rV, ↓wp_seq, ↓wp_iff, ↓wp_sI, ↓wp_sL, ↓wp_sN, ↓wp_inc, ↓wp_do, ↓wp_rI, ↓wp_rL, ↓wp_rN, ↓wp_rZ, ↓wp_pf, ↓wp_pz, ↓wp_pd, ↓wp_po, ↓wp_pl, ↓wp_pao, ↓wp_tsw, ↓wp_lsw, ↓wp_fn, ↓wq_ld, ↓wq_ldl, ↓wq_lda, ↓wq_c, ↓wq_gr, ↓wq_gq, ↓wq_nn, ↓wq_asI, ↓wq_asL, ↓wq_asN, ↓wq_pa, hO_0, hR_0_0, hR_0_1, hR_0_2, hR_0_3, hR_0_4, hR_0_5, hR_0_6, hR_0_7, hR_0_8, hR_0_9, hR_0_10, hR_0_11, hF_0_12, hO_1, hR_1_0, hF_1_1, hF_1_2, hF_1_3, hO_3, hR_3_0, hF_3_1, hO_5, hF_5_0, hF_5_1, hR_5_2, hR_5_3, hR_5_4, hR_5_5, hR_5_6, hR_5_7, hF_5_8, hF_5_9, hO_30, hF_30_0, hF_30_1, hF_30_2, hF_30_3, hO_31, hF_31_0, hF_31_1, hR_31_2, hR_31_3, hR_31_4, hO_35, hR_35_0, hF_35_1, hR_35_2, hF_35_3, hR_35_4, hF_35_5, hF_35_6, hR_35_7, hF_35_8, hR_35_9, hR_35_10, hO_42, hO_45, hO_48, hR_48_0, hF_48_1, hF_48_2, hR_48_3, hR_48_4, hO_94, hR_94_0, hR_94_1, hO_97, hF_97_0, hF_97_1, hF_97_2, hF_97_3, hR_97_4, hR_97_5, hR_97_6, hR_97_7, hR_97_8, hR_97_9, hR_97_10, hR_97_11, hF_97_12, hO_156, hF_156_0, hR_156_1, hR_156_2, hR_156_3, hR_156_4, hR_156_5, hR_156_6, hR_156_7, hR_156_8, fd_p_eq, fd_p_ne, fd_p_lt, fd_p_ge, fd_p_gt, fd_p_le, fd_f_iadd, fd_f_isub, fd_f_imul, fd_f_iand, fd_f_ior, fd_f_ixor, fd_f_ishl, fd_f_ishr, fd_f_iushr, fd_f_ladd, fd_f_lsub, fd_f_lmul, fd_f_lcmp, fd_f_idiv, fd_f_irem, fd_f_ldiv, fd_f_lrem, fd_f_ineg, fd_f_i2l, fd_f_l2i, fd_f_i2b, fd_f_i2s, fd_f_i2c, fd_z_idiv, fd_z_irem, fd_z_ldiv, fd_z_lrem, fd_in0, fd_sl, fd_st1, fd_st2, fd_kl, fd_vI, fd_vL, fd_vN, fd_ok1, fd_v_int, xI, xL, xR, xK, xG, yI, yL, yN, -Prod.exists, fd_run_of hs1, fd_run_of wp0, r44, hA_44 (show i < 8 by omega), nI_clamp (show i < 2 ^ 31 by omega), e44, c1, c1', nI_1, show fd_isF 42 10 0 = some 0 from rfl, hS.1, e2, c2, c2', c3, c3', fd_run_of il]
    exact hQ0 (fun z => z.2.2.2.2 hl)
  rw [if_neg hl] at il
  have E : lgE w S n i := ⟨hpf, h99, hlo, by omega, hl⟩
  have hA := hw.2.1.2.2.2 i hi
  have Ai := hA.1
  have k32 := hA.2.2.2.2.1
  have tg := fun M' => s_X6_toggleFeast (M := M') (k := k) (q := w.A i) (i := i) (by omega) (by omega) (by omega)
  simp [↓wp_ldn, ↓wp_b1, ↓wp_b2, ↓wp_b2z, ↓wp_gf, ↓wp_gd, ↓wp_ga, ↓wp_gl, ↓wp_al2, ↓wp_pi, ↓wp_ltr, ↓wp_ite, ↓wp_and, ↓wp_or, ↓wp_not, ↓wp_cmp, ↓wp_cmz, ↓wp_isn, ↓wp_nsn, ↓wp_a0, ↓wp_a1, ↓wp_cv, ↓wp_cs, ↓wp_dr, ↓wp_sk, ↓wp_brk, ↓wp_cnt, ↓wp_rV, ↓wp_seq, ↓wp_iff, ↓wp_sI, ↓wp_sL, ↓wp_sN, ↓wp_inc, ↓wp_do, ↓wp_rI, ↓wp_rL, ↓wp_rN, ↓wp_rZ, ↓wp_pf, ↓wp_pz, ↓wp_pd, ↓wp_po, ↓wp_pl, ↓wp_pao, ↓wp_tsw, ↓wp_lsw, ↓wp_fn, ↓wq_ld, ↓wq_ldl, ↓wq_lda, ↓wq_c, ↓wq_gr, ↓wq_gq, ↓wq_nn, ↓wq_asI, ↓wq_asL, ↓wq_asN, ↓wq_pa, hO_0, hR_0_0, hR_0_1, hR_0_2, hR_0_3, hR_0_4, hR_0_5, hR_0_6, hR_0_7, hR_0_8, hR_0_9, hR_0_10, hR_0_11, hF_0_12, hO_1, hR_1_0, hF_1_1, hF_1_2, hF_1_3, hO_3, hR_3_0, hF_3_1, hO_5, hF_5_0, hF_5_1, hR_5_2, hR_5_3, hR_5_4, hR_5_5, hR_5_6, hR_5_7, hF_5_8, hF_5_9, hO_30, hF_30_0, hF_30_1, hF_30_2, hF_30_3, hO_31, hF_31_0, hF_31_1, hR_31_2, hR_31_3, hR_31_4, hO_35, hR_35_0, hF_35_1, hR_35_2, hF_35_3, hR_35_4, hF_35_5, hF_35_6, hR_35_7, hF_35_8, hR_35_9, hR_35_10, hO_42, hO_45, hO_48, hR_48_0, hF_48_1, hF_48_2, hR_48_3, hR_48_4, hO_94, hR_94_0, hR_94_1, hO_97, hF_97_0, hF_97_1, hF_97_2, hF_97_3, hR_97_4, hR_97_5, hR_97_6, hR_97_7, hR_97_8, hR_97_9, hR_97_10, hR_97_11, hF_97_12, hO_156, hF_156_0, hR_156_1, hR_156_2, hR_156_3, hR_156_4, hR_156_5, hR_156_6, hR_156_7, hR_156_8, fd_p_eq, fd_p_ne, fd_p_lt, fd_p_ge, fd_p_gt, fd_p_le, fd_f_iadd, fd_f_isub, fd_f_imul, fd_f_iand, fd_f_ior, fd_f_ixor, fd_f_ishl, fd_f_ishr, fd_f_iushr, fd_f_ladd, fd_f_lsub, fd_f_lmul, fd_f_lcmp, fd_f_idiv, fd_f_irem, fd_f_ldiv, fd_f_lrem, fd_f_ineg, fd_f_i2l, fd_f_l2i, fd_f_i2b, fd_f_i2s, fd_f_i2c, fd_z_idiv, fd_z_irem, fd_z_ldiv, fd_z_lrem, fd_in0, fd_sl, fd_st1, fd_st2, fd_kl, fd_vI, fd_vL, fd_vN, fd_ok1, fd_v_int, xI, xL, xR, xK, xG, yI, yL, yN, -Prod.exists, fd_run_of hs1, fd_run_of wp0, r44, hA_44 (show i < 8 by omega), nI_clamp (show i < 2 ^ 31 by omega), e44, c1, c1', nI_1, show fd_isF 42 10 0 = some 0 from rfl, show fd_isF 42 10 1 = some 0 from rfl, show fd_isF 42 10 6 = some 0 from rfl, hS.1, e2, c2, c2', c3, c3', fd_run_of il, hA_32 (show i < 8 by omega), k32, fd_run_of (tg _), rd_ne (show ¬ (42 = k + 112 ∧ 1 = w.A i) by omega), rd_ne (show ¬ (42 = k + 112 ∧ 6 = w.A i) by omega), hS.2.1, hS.2.2.2.2.2.2.1]
  have tog := lg_tog (w := w) hi x1 hpf hk.symm (by rw [← hk]; exact hl)
  have o1 := (hr.2.2.2 k (w.A i) hhi Ai).2
  have l256 := p256 hf
  rw [o1, fa_xor, tog]
  generalize hM1 : fd_uI M (k + 112) (w.A i) (nI (rop w (lgS S i) k (w.A i))) = M1
  have f1 : fP (fun a j => a = k + 112 ∧ j = w.A i) M M1 := by rw [← hM1]; exact fP.uI fP.rf ⟨rfl, rfl⟩
  have m1 : M1.1 (k + 112) (w.A i) = nI (rop w (lgS S i) k (w.A i)) := by rw [← hM1, rd_I, if_pos rfl, if_pos rfl]
  have f1r : fP rF M M1 := f1.up (fun a j z => by unfold rF; omega)
  have w1 := hw.cg (f1r.sm rF_cl) (by decide) (by decide) (by decide) (by decide)
  have k1 := iv_sky_cg h5 ((f1r.sm rF_cl).eq (i := 5) (by decide))
  have S1 : cst w.f 42 S M1 := hS.cg hf (fun j _ => f1.1 _ _ (by omega)) (fun j _ => f1.1 _ _ (by omega)) (fun j _ => f1.1 _ _ (by omega))
  have r1 : rT w (lgS S i) n M1 := by
    refine ⟨by rw [f1.1 _ _ (by omega)]; exact hr.1, by rw [f1.1 _ _ (by omega)]; exact hr.2.1, hr.2.2.1.cg (by omega) f1 (fun a j x y => by omega), fun k' q hk' hq => ⟨rop_lt _ _ _ _, ?_⟩⟩
    by_cases e : k' = k ∧ q = w.A i
    · rw [e.1, e.2]; exact m1
    · rw [f1.1 _ _ (by omega), ← lg_same (w := w) (S := S) (i := i) (k := k') (q := q) (by omega)]
      exact (hr.2.2.2 k' q hk' hq).2
  have v1 := hV.cg f1 (fun j => by omega)
  refine s_X6_bf (S := lgS S i) (W := w.B) r1 w1 k1 (by omega) v1 (fun s b => gn_or _ s b w.f hf) ha hok.2.2.2.1 (fun i hi => hi) (fun M2 f2 => ?_)
  have k32' : M2.1 32 i = nI (w.A i) := by rw [f2.1 _ _ (by unfold sF; omega), f1.1 _ _ (by omega)]; exact k32
  simp [↓wp_ldn, ↓wp_b1, ↓wp_b2, ↓wp_b2z, ↓wp_gf, ↓wp_gd, ↓wp_ga, ↓wp_gl, ↓wp_al2, ↓wp_pi, ↓wp_ltr, ↓wp_ite, ↓wp_and, ↓wp_or, ↓wp_not, ↓wp_cmp, ↓wp_cmz, ↓wp_isn, ↓wp_nsn, ↓wp_a0, ↓wp_a1, ↓wp_cv, ↓wp_cs, ↓wp_dr, ↓wp_sk, ↓wp_brk, ↓wp_cnt, ↓wp_rV, ↓wp_seq, ↓wp_iff, ↓wp_sI, ↓wp_sL, ↓wp_sN, ↓wp_inc, ↓wp_do, ↓wp_rI, ↓wp_rL, ↓wp_rN, ↓wp_rZ, ↓wp_pf, ↓wp_pz, ↓wp_pd, ↓wp_po, ↓wp_pl, ↓wp_pao, ↓wp_tsw, ↓wp_lsw, ↓wp_fn, ↓wq_ld, ↓wq_ldl, ↓wq_lda, ↓wq_c, ↓wq_gr, ↓wq_gq, ↓wq_nn, ↓wq_asI, ↓wq_asL, ↓wq_asN, ↓wq_pa, hO_0, hR_0_0, hR_0_1, hR_0_2, hR_0_3, hR_0_4, hR_0_5, hR_0_6, hR_0_7, hR_0_8, hR_0_9, hR_0_10, hR_0_11, hF_0_12, hO_1, hR_1_0, hF_1_1, hF_1_2, hF_1_3, hO_3, hR_3_0, hF_3_1, hO_5, hF_5_0, hF_5_1, hR_5_2, hR_5_3, hR_5_4, hR_5_5, hR_5_6, hR_5_7, hF_5_8, hF_5_9, hO_30, hF_30_0, hF_30_1, hF_30_2, hF_30_3, hO_31, hF_31_0, hF_31_1, hR_31_2, hR_31_3, hR_31_4, hO_35, hR_35_0, hF_35_1, hR_35_2, hF_35_3, hR_35_4, hF_35_5, hF_35_6, hR_35_7, hF_35_8, hR_35_9, hR_35_10, hO_42, hO_45, hO_48, hR_48_0, hF_48_1, hF_48_2, hR_48_3, hR_48_4, hO_94, hR_94_0, hR_94_1, hO_97, hF_97_0, hF_97_1, hF_97_2, hF_97_3, hR_97_4, hR_97_5, hR_97_6, hR_97_7, hR_97_8, hR_97_9, hR_97_10, hR_97_11, hF_97_12, hO_156, hF_156_0, hR_156_1, hR_156_2, hR_156_3, hR_156_4, hR_156_5, hR_156_6, hR_156_7, hR_156_8, fd_p_eq, fd_p_ne, fd_p_lt, fd_p_ge, fd_p_gt, fd_p_le, fd_f_iadd, fd_f_isub, fd_f_imul, fd_f_iand, fd_f_ior, fd_f_ixor, fd_f_ishl, fd_f_ishr, fd_f_iushr, fd_f_ladd, fd_f_lsub, fd_f_lmul, fd_f_lcmp, fd_f_idiv, fd_f_irem, fd_f_ldiv, fd_f_lrem, fd_f_ineg, fd_f_i2l, fd_f_l2i, fd_f_i2b, fd_f_i2s, fd_f_i2c, fd_z_idiv, fd_z_irem, fd_z_ldiv, fd_z_lrem, fd_in0, fd_sl, fd_st1, fd_st2, fd_kl, fd_vI, fd_vL, fd_vN, fd_ok1, fd_v_int, xI, xL, xR, xK, xG, yI, yL, yN, -Prod.exists, hA_32 (show i < 8 by omega), nI_clamp (show i < 2 ^ 31 by omega), k32', fd_run_of (tg _)]
  have m2 : M2.1 (k + 112) (w.A i) = nI (rop w (lgS S i) k (w.A i)) := by rw [f2.1 _ _ (by unfold sF; omega)]; exact m1
  have back : rop w (lgS S i) k (w.A i) ^^^ 2 ^ i = rop w S k (w.A i) := by rw [← tog, Nat.xor_assoc, Nat.xor_self, Nat.xor_zero]
  rw [m2, fa_xor, back]
  generalize hM3 : fd_uI M2 (k + 112) (w.A i) (nI (rop w S k (w.A i))) = M3
  have f3 : fP (fun a j => a = k + 112 ∧ j = w.A i) M2 M3 := by rw [← hM3]; exact fP.uI fP.rf ⟨rfl, rfl⟩
  have m3 : M3.1 (k + 112) (w.A i) = nI (rop w S k (w.A i)) := by rw [← hM3, rd_I, if_pos rfl, if_pos rfl]
  refine hQ1 E M3 (f1r.tr ((f2.up (fun a j z => by unfold sF at z; unfold rF; omega)).tr (f3.up (fun a j z => by unfold rF; omega)))) ⟨?_, ?_, ?_, fun k' q hk' hq => ⟨rop_lt _ _ _ _, ?_⟩⟩ ((v1.cg f2 (fun j => by unfold sF; omega)).cg f3 (fun j => by omega))
  · rw [f3.1 _ _ (by omega), f2.1 _ _ (by unfold sF; omega)]; exact r1.1
  · rw [f3.1 _ _ (by omega), f2.1 _ _ (by unfold sF; omega)]; exact r1.2.1
  · exact (r1.2.2.1.cg (by omega) f2 (fun a j x y => by unfold sF; omega)).cg (by omega) f3 (fun a j x y => by omega)
  · by_cases e : k' = k ∧ q = w.A i
    · rw [e.1, e.2]; exact m3
    · rw [f3.1 _ _ (by omega), f2.1 _ _ (by unfold sF; omega), f1.1 _ _ (by omega)]
      exact (hr.2.2.2 k' q hk' hq).2
end LO
