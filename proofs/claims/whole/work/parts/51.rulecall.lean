theorem fP.sm {P : Nat → Nat → Prop} {S : List Nat} {M M' : fd_M} (h : fP P M M') (hs : ∀ k j, P k j → cl k j ∈ S) : fd_sm S M M' := fun k j hk => ⟨h.1 k j (fun q => hk (hs k j q)), by rw [h.2]⟩
theorem pX_cl (k j : Nat) (h : pX k j) : cl k j ∈ [0, 1, 6] := by
  unfold pX pU at h
  rcases h with (rfl | rfl | rfl | ⟨rfl, rfl⟩ | ⟨rfl, rfl | rfl | rfl | rfl⟩) | ⟨rfl, rfl⟩ | ⟨rfl, rfl⟩ | rfl <;> first | decide | (simp [cl]; done)
theorem fm.sm {M M' : fd_M} (h : fm M M') : fd_sm [0, 1, 6] M M' := fun k j hk => by
  have h2 : k ≠ 195 := fun e => by subst e; exact hk (by simp [cl])
  have h3 : k ≠ 182 ∨ (j ≠ 14 ∧ j ≠ 17 ∧ j ≠ 30 ∧ (j < 18 ∨ (22 < j ∧ j ≠ 31))) := by
    by_cases e : k = 182
    · subst e
      refine Or.inr ?_
      by_cases h4 : j ≠ 14 ∧ j ≠ 17 ∧ j ≠ 30 ∧ (j < 18 ∨ (22 < j ∧ j ≠ 31))
      · exact h4
      · refine absurd ?_ hk
        show cl_182 j ∈ [0, 1, 6]
        unfold cl_182
        repeat' split
        all_goals first | decide | omega
    · exact Or.inl e
  exact ⟨h.1 k j h2 h3, by rw [h.2]⟩
theorem ru_snd {M : fd_M} {t : Nat} {ch : Nat → Int32} (ht : t ≤ 80) (h256 : ∀ i, ch i ≠ 256) (hch : ∀ i, i < t → ∃ c, by_ok (M.1 189 i) c ∧ ch i = nI c) {c : List Int32} {q : Nat} (e : ru_rd ch (min t 40) 300 0 0 [] 0 = .inr (c, q)) : q ≤ min t 40 ∧ ∀ as : Nat → Int32, ∃ x, ∀ st, ru_ev as c st = some (x :: st) := by
  have key : ∀ as : Nat → Int32, q ≤ min t 40 ∧ ∃ x, ∀ st, ru_ev as c st = some (x :: st) := by
    intro as
    generalize hM1 : fd_uI (fd_uI (fd_uI (fd_uI (fd_uI (fd_uI (fd_uI (fd_uI (fd_uI (fd_uI (fd_uI (fd_uI M 196 0 (as 0)) 196 1 (as 1)) 196 2 (as 2)) 196 3 (as 3)) 196 4 (as 4)) 196 5 (as 5)) 182 18 (nI 190)) 182 19 (nI t)) 182 20 (nI 40)) 182 21 (nI 0)) 182 22 (-1)) 182 31 1 = M1
    have hrp : rp 189 t 40 (min t 40) ch M1 := by
      refine ⟨?_, ?_, ?_, rfl, by omega, by omega, by omega, fun i hi => ⟨hA_189 (by omega), ?_⟩⟩
      · rw [← hM1]; simp [rd_I]
      · rw [← hM1]; simp [rd_I]
      · rw [← hM1]; simp [rd_I]
      · have : M1.1 189 i = M.1 189 i := by rw [← hM1]; simp [rd_I]
        rw [this]
        exact hch i (by omega)
    have has : gr_as as M1 := fun i hi => by
      have : M1.1 182 31 = 1 := by rw [← hM1]; simp [rd_I]
      rw [this, if_neg (by decide), ← hM1]
      match i, hi with
      | 0, _ => simp [rd_I]
      | 1, _ => simp [rd_I]
      | 2, _ => simp [rd_I]
      | 3, _ => simp [rd_I]
      | 4, _ => simp [rd_I]
      | 5, _ => simp [rd_I]
    obtain ⟨v, M', _, _, hp⟩ := (gr_main (l := min t 40) h256 300 400 M1 0 0 [] (by omega) hrp (by rw [← hM1]; simp [rd_I]) (by rw [← hM1]; simp [rd_I]) has (by omega) (by omega)).2.2.2 (by omega)
    rw [e] at hp
    obtain ⟨p2, p3, p4, w, o, p5, _, p7⟩ := hp
    exact ⟨p2, o, fun st => by rw [p5, List.nil_append]; exact p7 st⟩
  exact ⟨(key fun _ => 0).1, fun as => (key as).2⟩
theorem call_rule : fd_both m_X11_rule m_X12_rule [] := by
  refine fd_both_of fun c M hc hI => ?_
  obtain ⟨v, f, n, R, D, A, B, U, L, H, N, a1, a2, a3, a4, a5, a6, a7, a8, a9, a10⟩ := hI
  obtain ⟨t, b1, b2, b3, b4⟩ := a1
  obtain ⟨ch, hch⟩ : ∃ ch : Nat → Int32, ch = fun i => M.1 189 i &&& 255 := ⟨_, rfl⟩
  have h256 : ∀ i, ch i ≠ 256 := fun i => by rw [hch]; exact and255 _
  have hX : ∀ i, i < t → M.1 2 i = ch i ∧ ∃ c, c < 256 ∧ ch i = nI c := fun i hi => by
    obtain ⟨c, c1, c2⟩ := b4 i hi
    have : ch i = nI c := by rw [hch]; exact c1.2.1
    exact ⟨by rw [this, c2], c, c1.1, this⟩
  have hM : ∀ i, i < t → ∃ c, by_ok (M.1 189 i) c ∧ ch i = nI c := fun i hi => by
    obtain ⟨c, c1, c2⟩ := b4 i hi
    exact ⟨c, c1, by rw [hch]; exact c1.2.1⟩
  have h1 := s_X2_read b1 b2 h256 hX
  unfold m_X11_rule b_X11_rule
  simp [↓wp_ldn, ↓wp_b1, ↓wp_b2, ↓wp_b2z, ↓wp_gf, ↓wp_gd, ↓wp_ga, ↓wp_gl, ↓wp_al2, ↓wp_pi, ↓wp_ltr, ↓wp_ite, ↓wp_and, ↓wp_or, ↓wp_not, ↓wp_cmp, ↓wp_cmz, ↓wp_isn, ↓wp_nsn, ↓wp_a0, ↓wp_a1, ↓wp_cv, ↓wp_cs, ↓wp_dr, ↓wp_sk, ↓wp_brk, ↓wp_cnt, ↓wp_rV, ↓wp_seq, ↓wp_iff, ↓wp_sI, ↓wp_sL, ↓wp_sN, ↓wp_inc, ↓wp_do, ↓wp_rI, ↓wp_rL, ↓wp_rN, ↓wp_rZ, ↓wp_pf, ↓wp_pz, ↓wp_pd, ↓wp_po, ↓wp_pl, ↓wp_pao, ↓wp_tsw, ↓wp_lsw, ↓wp_fn, ↓wq_ld, ↓wq_ldl, ↓wq_lda, ↓wq_c, ↓wq_gr, ↓wq_gq, ↓wq_nn, ↓wq_asI, ↓wq_asL, ↓wq_asN, ↓wq_pa, hO_0, hR_0_0, hR_0_1, hR_0_2, hR_0_3, hR_0_4, hR_0_5, hR_0_6, hR_0_7, hR_0_8, hR_0_9, hR_0_10, hR_0_11, hF_0_12, hO_1, hR_1_0, hF_1_1, hF_1_2, hF_1_3, hO_3, hR_3_0, hF_3_1, hO_5, hF_5_0, hF_5_1, hR_5_2, hR_5_3, hR_5_4, hR_5_5, hR_5_6, hR_5_7, hF_5_8, hF_5_9, hO_30, hF_30_0, hF_30_1, hF_30_2, hF_30_3, hO_31, hF_31_0, hF_31_1, hR_31_2, hR_31_3, hR_31_4, hO_35, hR_35_0, hF_35_1, hR_35_2, hF_35_3, hR_35_4, hF_35_5, hF_35_6, hR_35_7, hF_35_8, hR_35_9, hR_35_10, hO_42, hO_45, hO_48, hR_48_0, hF_48_1, hF_48_2, hR_48_3, hR_48_4, hO_94, hR_94_0, hR_94_1, hO_97, hF_97_0, hF_97_1, hF_97_2, hF_97_3, hR_97_4, hR_97_5, hR_97_6, hR_97_7, hR_97_8, hR_97_9, hR_97_10, hR_97_11, hF_97_12, hO_156, hF_156_0, hR_156_1, hR_156_2, hR_156_3, hR_156_4, hR_156_5, hR_156_6, hR_156_7, hR_156_8, fd_p_eq, fd_p_ne, fd_p_lt, fd_p_ge, fd_p_gt, fd_p_le, fd_f_iadd, fd_f_isub, fd_f_imul, fd_f_iand, fd_f_ior, fd_f_ixor, fd_f_ishl, fd_f_ishr, fd_f_iushr, fd_f_ladd, fd_f_lsub, fd_f_lmul, fd_f_lcmp, fd_f_idiv, fd_f_irem, fd_f_ldiv, fd_f_lrem, fd_f_ineg, fd_f_i2l, fd_f_l2i, fd_f_i2b, fd_f_i2s, fd_f_i2c, fd_z_idiv, fd_z_irem, fd_z_ldiv, fd_z_lrem, fd_in0, fd_sl, fd_st1, fd_st2, fd_kl, fd_vI, fd_vL, fd_vN, fd_ok1, fd_v_int, xI, xL, xR, xK, xG, yI, yL, yN, -Prod.exists]
  refine fd_run_mono h1 (fun v0 M1 hx => ?_)
  obtain ⟨rfl, x1, x2⟩ := hx
  simp [↓wp_ldn, ↓wp_b1, ↓wp_b2, ↓wp_b2z, ↓wp_gf, ↓wp_gd, ↓wp_ga, ↓wp_gl, ↓wp_al2, ↓wp_pi, ↓wp_ltr, ↓wp_ite, ↓wp_and, ↓wp_or, ↓wp_not, ↓wp_cmp, ↓wp_cmz, ↓wp_isn, ↓wp_nsn, ↓wp_a0, ↓wp_a1, ↓wp_cv, ↓wp_cs, ↓wp_dr, ↓wp_sk, ↓wp_brk, ↓wp_cnt, ↓wp_rV, ↓wp_seq, ↓wp_iff, ↓wp_sI, ↓wp_sL, ↓wp_sN, ↓wp_inc, ↓wp_do, ↓wp_rI, ↓wp_rL, ↓wp_rN, ↓wp_rZ, ↓wp_pf, ↓wp_pz, ↓wp_pd, ↓wp_po, ↓wp_pl, ↓wp_pao, ↓wp_tsw, ↓wp_lsw, ↓wp_fn, ↓wq_ld, ↓wq_ldl, ↓wq_lda, ↓wq_c, ↓wq_gr, ↓wq_gq, ↓wq_nn, ↓wq_asI, ↓wq_asL, ↓wq_asN, ↓wq_pa, hO_0, hR_0_0, hR_0_1, hR_0_2, hR_0_3, hR_0_4, hR_0_5, hR_0_6, hR_0_7, hR_0_8, hR_0_9, hR_0_10, hR_0_11, hF_0_12, hO_1, hR_1_0, hF_1_1, hF_1_2, hF_1_3, hO_3, hR_3_0, hF_3_1, hO_5, hF_5_0, hF_5_1, hR_5_2, hR_5_3, hR_5_4, hR_5_5, hR_5_6, hR_5_7, hF_5_8, hF_5_9, hO_30, hF_30_0, hF_30_1, hF_30_2, hF_30_3, hO_31, hF_31_0, hF_31_1, hR_31_2, hR_31_3, hR_31_4, hO_35, hR_35_0, hF_35_1, hR_35_2, hF_35_3, hR_35_4, hF_35_5, hF_35_6, hR_35_7, hF_35_8, hR_35_9, hR_35_10, hO_42, hO_45, hO_48, hR_48_0, hF_48_1, hF_48_2, hR_48_3, hR_48_4, hO_94, hR_94_0, hR_94_1, hO_97, hF_97_0, hF_97_1, hF_97_2, hF_97_3, hR_97_4, hR_97_5, hR_97_6, hR_97_7, hR_97_8, hR_97_9, hR_97_10, hR_97_11, hF_97_12, hO_156, hF_156_0, hR_156_1, hR_156_2, hR_156_3, hR_156_4, hR_156_5, hR_156_6, hR_156_7, hR_156_8, fd_p_eq, fd_p_ne, fd_p_lt, fd_p_ge, fd_p_gt, fd_p_le, fd_f_iadd, fd_f_isub, fd_f_imul, fd_f_iand, fd_f_ior, fd_f_ixor, fd_f_ishl, fd_f_ishr, fd_f_iushr, fd_f_ladd, fd_f_lsub, fd_f_lmul, fd_f_lcmp, fd_f_idiv, fd_f_irem, fd_f_ldiv, fd_f_lrem, fd_f_ineg, fd_f_i2l, fd_f_l2i, fd_f_i2b, fd_f_i2s, fd_f_i2c, fd_z_idiv, fd_z_irem, fd_z_ldiv, fd_z_lrem, fd_in0, fd_sl, fd_st1, fd_st2, fd_kl, fd_vI, fd_vL, fd_vN, fd_ok1, fd_v_int, xI, xL, xR, xK, xG, yI, yL, yN, -Prod.exists, fd_run_of (s_X7_clear _)]
  have hs1 : fd_sm [0, 1, 6] M (fd_uI M1 1 1 0) := (x1.sm pX_cl).tr (by repeat' (first | exact fd_sm.rf | refine fd_sm.uI ?_ (by first | decide | (simp [cl, cl_182]; done)) | refine fd_sm.uL ?_ (by first | decide | (simp [cl, cl_182]; done))))
  have k189 : ∀ i, (fd_uI M1 1 1 0).1 189 i = M.1 189 i := fun i => by
    rw [rd_I, if_neg (by decide)]; exact x1.1 _ _ (by unfold pX pU; omega)
  have h2 := s_X12_rule (M := fd_uI M1 1 1 0) b1 (by rw [rd_I, if_neg (by decide), x1.1 _ _ (by unfold pX pU; omega)]; exact b3) h256 (fun i hi => by rw [k189]; exact hM i hi)
  refine fd_run_mono h2 (fun v M2 hv => ?_)
  obtain ⟨rfl, y1, y2, y3⟩ := hv
  refine ⟨rfl, ⟨_, rfl⟩, ?_⟩
  have hs := hs1.tr y1.sm
  have n11 : M2.1 1 1 = 0 := by rw [y1.1 _ _ (by decide) (Or.inl (by decide))]; simp [rd_I]
  have n35 : M2.1 35 1 = M1.1 35 1 := by rw [y1.1 _ _ (by decide) (Or.inl (by decide))]; simp [rd_I]
  have n36 : ∀ i, M2.1 36 i = M1.1 36 i := fun i => by rw [y1.1 36 i (by decide) (Or.inl (by decide))]; simp [rd_I]
  refine ⟨v, f, n, R, D, A, B, U, L, H, N, ?_, iv_row_cg a2 (hs.eq (by decide)), iv_land_cg a3 (hs.eq (by decide)), iv_fairs_cg a4 (hs.eq (by decide)), iv_sky_cg a5 (hs.eq (by decide)), ?_, iv_now_cg a7 a4.1 (by omega) (hs.eq (by decide)), iv_past_cg a8 a4.1 (by omega) (hs.eq (by decide)), iv_kept_cg a9 a4.1 (by omega) (hs.eq (by decide)), iv_songs_cg a10 (hs.eq (by decide))⟩
  · exact ⟨0, by omega, n11, y2, fun i hi => absurd hi (Nat.not_lt_zero i)⟩
  · by_cases r0 : ro t (rres (min t 40) ch) = 0
    · rw [if_pos r0] at x2 y3
      obtain ⟨cd, z1, z2, z3, z4⟩ := x2
      obtain ⟨t40, y4, y5⟩ := y3
      have r195 : ∀ i, i < t → M2.1 195 i = M.1 189 i := fun i hi => by rw [y5 i hi]; exact k189 i
      refine ⟨cd, t, z1, t40, by rw [n35]; exact z3, y4, ?_, fun i hi => by rw [n36]; exact z4 i hi, fun i hi => by rw [r195 i hi]; exact ⟨_, (hM i hi).choose_spec.1⟩, ?_, ch, h256, fun i hi => by rw [r195 i hi, hch], ?_⟩
      all_goals by_cases t0 : t = 0
      · rw [if_pos t0] at z2
        exact ⟨fun _ => t0, fun _ => z2⟩
      · rw [if_neg t0] at z2
        refine ⟨fun q => ?_, fun q => absurd q t0⟩
        exfalso
        cases e : ru_rd ch (min t 40) 300 0 0 [] 0 with
        | inl e2 => unfold rres at z2; rw [e] at z2; cases z2
        | inr y =>
          obtain ⟨c', q'⟩ := y
          obtain ⟨_, w2⟩ := ru_snd b1 h256 hM e
          unfold rres at z2
          rw [e] at z2
          dsimp only at z2
          by_cases q2 : q' < min t 40
          · rw [if_pos q2] at z2; cases z2
          · rw [if_neg q2] at z2
            cases z2
            obtain ⟨x, hx⟩ := w2 (fun _ => 0)
            have := hx []
            rw [q] at this
            cases this
      · rw [if_pos t0] at z2
        exact Or.inl z2
      · rw [if_neg t0] at z2
        refine Or.inr fun as => ?_
        cases e : ru_rd ch (min t 40) 300 0 0 [] 0 with
        | inl e2 => unfold rres at z2; rw [e] at z2; cases z2
        | inr y =>
          obtain ⟨c', q'⟩ := y
          obtain ⟨_, w2⟩ := ru_snd b1 h256 hM e
          unfold rres at z2
          rw [e] at z2
          dsimp only at z2
          by_cases q2 : q' < min t 40
          · rw [if_pos q2] at z2; cases z2
          · rw [if_neg q2] at z2
            cases z2
            obtain ⟨x, hx⟩ := w2 as
            exact ⟨x, hx []⟩
      · exact fun h => absurd h (by omega)
      · intro _
        rw [if_neg t0] at z2
        cases e : ru_rd ch (min t 40) 300 0 0 [] 0 with
        | inl e2 => unfold rres at z2; rw [e] at z2; cases z2
        | inr y =>
          obtain ⟨c', q'⟩ := y
          obtain ⟨w1, w2⟩ := ru_snd b1 h256 hM e
          unfold rres at z2
          rw [e] at z2
          dsimp only at z2
          by_cases q2 : q' < min t 40
          · rw [if_pos q2] at z2; cases z2
          · rw [if_neg q2] at z2
            cases z2
            rw [show min t 40 = t by omega] at e w1 q2
            rw [e, show q' = t by omega]
    · rw [if_neg r0] at x2 y3
      have e36 : M2.1 36 = M.1 36 := funext fun i => by rw [n36, x2.2]
      have e195 : M2.1 195 = M.1 195 := funext fun i => by
        rw [y3.2, rd_I, if_neg (by decide)]; exact x1.1 _ _ (by unfold pX pU; omega)
      have e30 : M2.1 182 30 = M.1 182 30 := by
        rw [y3.1, rd_I, if_neg (by decide)]; exact x1.1 _ _ (by unfold pX pU; omega)
      unfold iv_rule
      rw [n35, x2.1, e36, e195, e30]
      exact a6
