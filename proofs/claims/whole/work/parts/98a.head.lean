/-! ===== the law's loop ===== -/
section LP
variable {X : fd_X} {Q : State → Prop} {b L : Nat} {xs : Nat → Int32} {i d p : Nat} {cc : ByteArray} {own : String} {rt : Option FieldType}
theorem lp_sub {L : Nat} (h : L ≤ 2560) : (nI L - 5).toInt = (L : Int) - 5 := by
  rw [Int32.toInt_sub, nI_toInt (by omega)]
  show ((L : Int) - 5).bmod (2 ^ 32) = _
  exact fb_bmod (by omega) (by omega)
theorem lp_gt {L i : Nat} (h : L ≤ 2560) (hi : i ≤ 2600) : nI L - 5 < nI i ↔ L < i + 5 := by
  rw [fa_lt, lp_sub h, nI_toInt (by omega)]
  omega
/-- the comparison at the loop's head -/
theorem lp_head (F : fd_F X code RL 8 ret d) (S : dl_S X b L xs) (hLb : L ≤ 2560) (hi : i ≤ 2600) {M : fd_M} (kk : fd_W X 8 Q (if L < i + 5 then 1346 else 32) [] (dl_L0 b i, M)) : fd_W X 8 Q 23 [] (dl_L0 b i, M) := by
  refine fd_iload (k := 8) F dL_law_23 _ _ _ (nI i) (Nat.le_of_ble_eq_true rfl) rfl ?_
  have F' := F
  obtain ⟨g, pr, l, e, R, s, m, args, below, meth, c, cells, slots⟩ := X
  obtain ⟨hx, hb, hml, hown, hts, hK, hbs, hcl, hsl, hr, hlk, hfr, hlo⟩ := F
  obtain ⟨hX, hbl, hg⟩ := S
  intro H locs ls hW hS hLr
  refine lv_aload_n hx hb dL_law_25 rfl (hLr.2.2 0 (.retAddr (b + 1)) rfl (by intro h; cases h)) ?_
  refine va_slen (A := fd_A g) hx hb hX hbl (by show ¬ g.1 ≤ b; omega) hS dL_law_26 ?_
  refine lv_iconst hx hb dL_law_27 (v := 5) (by decide) ?_
  refine lv_isub hx hb dL_law_28 ?_
  revert H locs ls
  show fd_W (g, pr, l, e, R, s, m, args, below, meth, c, cells, slots) 8 Q 29 [.int (nI L - 5), .int (nI i)] (dl_L0 b i, M)
  refine fd_j2_gt_t (j := 1346) F' dL_law_29 rfl _ _ _ _ ?_
  have e : fd_p_gt (nI i) (nI L - 5) = decide (L < i + 5) := by
    unfold fd_p_gt
    exact decide_eq_decide.mpr (lp_gt hLb hi)
  rw [e]
  by_cases h : L < i + 5
  · rw [if_pos h] at kk
    rw [if_pos (decide_eq_true h)]
    exact kk
  · rw [if_neg h] at kk
    rw [if_neg (by simp [h])]
    exact kk
/-- which call it is -/
theorem lp_op (F : fd_F X code RL 8 ret d) (S : dl_S X b L xs) (hLb : L ≤ 2560) (hi : i + 5 ≤ L) {M : fd_M} (kk : fd_W X 8 Q 39 [.int (xs i &&& 63)] (dl_L0 b i, M)) : fd_W X 8 Q 32 [] (dl_L0 b i, M) := by
  have F' := F
  obtain ⟨g, pr, l, e, R, s, m, args, below, meth, c, cells, slots⟩ := X
  obtain ⟨hx, hb, hml, hown, hts, hK, hbs, hcl, hsl, hr, hlk, hfr, hlo⟩ := F
  obtain ⟨hX, hbl, hg⟩ := S
  intro H locs ls hW hS hLr
  refine lv_aload_n hx hb dL_law_32 rfl (hLr.2.2 0 (.retAddr (b + 1)) rfl (by intro h; cases h)) ?_
  refine lv_iload hx hb dL_law_33 (hLr.2.2 4 (.int (nI i)) rfl (by intro h; cases h)) ?_
  refine va_sld (A := fd_A g) hx hb hX hbl (by show ¬ g.1 ≤ b; omega) hS (nI_in (show i < L by omega) (by omega)) dL_law_35 ?_
  rw [nI_clamp (show i < 2 ^ 31 by omega)]
  revert H locs ls
  show fd_W (g, pr, l, e, R, s, m, args, below, meth, c, cells, slots) 8 Q 36 [.int (xs i)] (dl_L0 b i, M)
  refine fd_bipush (k := 8) F' dL_law_36 kb_63 _ _ _ 63 (Nat.le_of_ble_eq_true rfl) rfl ?_
  exact fd_o_iand F' dL_law_38 _ _ _ _ kk
def lp_tg : List Nat := [212, 237, 262, 275, 288, 301, 369, 437, 474, 535, 560, 585, 598, 635, 648, 661, 698, 711, 736, 761, 786, 811, 824, 861, 886, 911, 948, 973, 986, 1023, 1036, 1049, 1062, 1099, 1148, 1173, 1210, 1235, 1260, 1285]
theorem lp_sw (F : fd_F X code RL 8 ret d) {k : Nat} (hk : k < 64) {σ : fd_S} (kk : fd_W X 8 Q (if k < 40 then lp_tg.getD k 0 else 1340) [] σ) : fd_W X 8 Q 39 [.int (nI k)] σ := by
  obtain ⟨g, pr, l, e, R, s, m, args, below, meth, c, cells, slots⟩ := X
  obtain ⟨hx, hb, hml, hown, hts, hK, hbs, hcl, hsl, hr, hlk, hfr, hlo⟩ := F
  have e : (nI k).toInt = (k : Int) := nI_toInt (by omega)
  intro H locs ls hW hS hLr
  by_cases h : k < 40
  · rw [if_pos h] at kk
    have ho : (#[173, 198, 223, 236, 249, 262, 330, 398, 435, 496, 521, 546, 559, 596, 609, 622, 659, 672, 697, 722, 747, 772, 785, 822, 847, 872, 909, 934, 947, 984, 997, 1010, 1023, 1060, 1109, 1134, 1171, 1196, 1221, 1246] : Array Int)[((nI k).toInt - 0).toNat]? = some ((lp_tg.getD k 0 : Int) - 39) := by
      rw [e]
      have : ∀ k : Nat, k < 40 → (#[173, 198, 223, 236, 249, 262, 330, 398, 435, 496, 521, 546, 559, 596, 609, 622, 659, 672, 697, 722, 747, 772, 785, 822, 847, 872, 909, 934, 947, 984, 997, 1010, 1023, 1060, 1109, 1134, 1171, 1196, 1221, 1246] : Array Int)[((k : Int) - 0).toNat]? = some ((lp_tg.getD k 0 : Int) - 39) := by decide
      exact this k h
    exact lv_tableIn hx hb dL_law_39 (by rw [e]; omega) (by rw [e]; omega) ho (by omega) (kk H locs ls hW hS hLr)
  · rw [if_neg h] at kk
    exact lv_tableOut hx hb dL_law_39 (by rw [e]; omega) (by decide) (kk H locs ls hW hS hLr)
theorem lp_63 (x : Int32) : ∃ k, k < 64 ∧ x &&& 63 = nI k := by
  refine ⟨(x.toBitVec &&& 63#32).toNat, ?_, ?_⟩
  · rw [BitVec.toNat_and]
    exact Nat.lt_of_le_of_lt Nat.and_le_right (by decide)
  · apply Int32.toBitVec_inj.1
    show x.toBitVec &&& 63#32 = BitVec.ofNat 32 _
    simp
/-- the step to the next call -/
theorem lp_next (F : fd_F X code RL 8 ret d) {M : fd_M} (kk : fd_W X 8 Q 23 [] (dl_L0 b (i + 5), M)) : fd_W X 8 Q 1340 [] (dl_L0 b i, M) := by
  refine fd_iinc (Rt := fun _ _ => False) (qb := 0) (qc := 0) (y := 5) F dL_law_1340 (by decide) (by decide) (dl_L0 b i, M) (dl_L0 b (i + 5), M) 0 fd_jk ?_ ?_
  · show some ((0, fd_jk), (fd_st1 (dl_L0 b i) 4 (.int (nI i + 5)), M)) = _
    rw [show nI i + 5 = nI (i + 5) from nI_add i 5]
    rfl
  · unfold fd_Ex
    rw [if_pos rfl]
    exact fd_go F dL_law_1343 rfl _ _ kk
end LP
