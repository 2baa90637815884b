/-! ===== String.charAt over the one literal ===== -/
section FDS
variable {X : fd_X} {n d : Nat} {Q : State → Prop} {cc : ByteArray} {own : String} {rt : Option FieldType} {k p q r : Nat} {Rt : Value → fd_M → Prop} {qb qc : Nat}
theorem fd_oldk {g : fd_G} {s : State} (hbs : g.1 ≤ s.heap.size) (hK : fd_K g s) : ∀ a : Nat, a < g.2.2.2.1.size → ¬ fd_A g a → s.heap[a]? = g.2.2.2.1[a]? := fun a _ h => hK.2.2.1 a (Nat.not_le.mp h)
theorem fd_strs {g : fd_G} {s : State} (hbs : g.1 ≤ s.heap.size) (hK : fd_K g s) : vk_S 1 [6] [[109, 116, 102, 100, 110, 115]] (fun _ => g.2.2.2.2.1) (fun _ => g.2.2.2.2.2) (fd_A g) s s.heap := vk_S.kept hK.2.2.2.2.1 (fd_oldk hbs hK)
theorem fd_snone : fd_St X n Q Rt p q qb qc (fun _ => none) := fun σ σ' z v he _ => by cases he
/-- a place that the JDK looks at: it returns it -/
def x_chk : fd_T := fd_iff (fd_and (fd_cmz fd_p_ge (fd_ld 0)) (fd_cmp fd_p_lt (fd_ld 0) (fd_ld 1))) (fd_rI (fd_ld 0)) (fun _ => none)
theorem c_chk (l : Launch) (g : fd_G) : fd_Con l g yJ3_checkIndex_8e157 cJ3_checkIndex_8e157 3 (some .int) 1 1 (fd_fn 3 x_chk) := fd_mk (q := 0) (qb := 0) (qc := 0) (by decide) (fun X z h1 h2 F => by
  subst h1; subst h2
  exact fd_sif (fd_cand (fd_cj1 (fd_iload_n (i := 0) F dJ3_checkIndex_8e157_0 rfl) (fd_j1_lt_f (j := 9) F dJ3_checkIndex_8e157_1 rfl)) (fd_cj2 (fd_iload_n (i := 0) F dJ3_checkIndex_8e157_4 rfl) (fd_iload_n (i := 1) F dJ3_checkIndex_8e157_5 rfl) (fd_j2_lt_t (j := 16) F dJ3_checkIndex_8e157_6 rfl))) (fd_srI F (fd_iload_n (i := 0) F dJ3_checkIndex_8e157_16 rfl) dJ3_checkIndex_8e157_17) fd_go0 fd_snone)
theorem m_chk {i m : Int32} {v : Value} {M : fd_M} (hv : v ≠ .long 0) (h : ∀ x, v ≠ .long x) (h2 : ∀ x, v ≠ .double x) (h0 : ¬ i < 0) (h1 : i < m) : fd_fn 3 x_chk [.int i, .int m, v] M = some (.int i, M) := by
  have h3 : 0 ≤ i := Int32.not_lt.mp h0
  have e : fd_in0 3 [.int i, .int m, v] = [.int i, .int m, v] := by
    cases v <;> first | rfl | exact absurd rfl (h _) | exact absurd rfl (h2 _)
  simp [fd_fn, e, x_chk, fd_iff, fd_and, fd_cmz, fd_cmp, fd_ld, fd_p_ge, fd_p_lt, fd_rI, h3, h1]
theorem yv_chk : fd_Ys yJ3_checkIndex_8e157 cJ3_checkIndex_8e157 3 (some .int) 3 := ⟨fd_tbi 695 (by decide +kernel) rfl, fd_tbi 119 (by decide +kernel) rfl, fd_tbi 696 (by decide +kernel) rfl, by decide, by decide, by decide, by decide +kernel⟩
theorem yv_ck2 : fd_Ys yJ0_checkIndex_df160 cJ0_checkIndex_df160 2 none 2 := ⟨fd_tbi 690 (by decide +kernel) rfl, fd_tbi 117 (by decide +kernel) rfl, fd_tbi 691 (by decide +kernel) rfl, by decide, by decide, by decide, by decide +kernel⟩
theorem yv_lat : fd_Ys yJ1_charAt_3b067 cJ1_charAt_3b067 2 (some .char) 2 := ⟨fd_tbi 687 (by decide +kernel) rfl, fd_tbi 118 (by decide +kernel) rfl, fd_tbi 688 (by decide +kernel) rfl, by decide, by decide, by decide, by decide +kernel⟩
theorem yv_isL : fd_Yv yJ0_isLatin1_aae02 cJ0_isLatin1_aae02 1 (some .boolean) RJ0 0 := ⟨fd_tbi 681 (by decide +kernel) rfl, fd_tbi 682 (by decide +kernel) rfl, fd_tbi 117 (by decide +kernel) rfl, fd_tbi 683 (by decide +kernel) rfl, by decide, rfl, by decide, by decide, by decide +kernel⟩
theorem yv_chr : fd_Yv yJ0_charAt_5068e cJ0_charAt_5068e 2 (some .char) RJ0 1 := ⟨fd_tbi 677 (by decide +kernel) rfl, fd_tbi 678 (by decide +kernel) rfl, fd_tbi 117 (by decide +kernel) rfl, fd_tbi 679 (by decide +kernel) rfl, by decide, rfl, by decide, by decide, by decide +kernel⟩
theorem ml_chk : Cond.methodLink RJ0 1059 yJ3_checkIndex_8e157 ∈ fd_TB := fd_tbi 694 (by decide +kernel) rfl
theorem ml_ck2 : Cond.methodLink RJ1 9 yJ0_checkIndex_df160 ∈ fd_TB := fd_tbi 689 (by decide +kernel) rfl
theorem ml_lat : Cond.methodLink RJ0 495 yJ1_charAt_3b067 ∈ fd_TB := fd_tbi 686 (by decide +kernel) rfl
theorem ml_isL : Cond.methodLink RJ0 492 yJ0_isLatin1_aae02 ∈ fd_TB := fd_tbi 680 (by decide +kernel) rfl
theorem ml_chr : Cond.methodLink RX2 97 yJ0_charAt_5068e ∈ fd_TB := fd_tbi 676 (by decide +kernel) rfl
theorem fl_cs : Cond.fieldLink RJ0 38 "java/lang/String" "COMPACT_STRINGS" "Z" ∈ fd_TB := fd_tbi 684 (by decide +kernel) rfl
theorem fl_cod : Cond.fieldLink RJ0 15 "java/lang/String" "coder" "B" ∈ fd_TB := fd_tbi 2035 (by decide +kernel) rfl
theorem fl_val : Cond.fieldLink RJ0 9 "java/lang/String" "value" "[B" ∈ fd_TB := fd_tbi 2036 (by decide +kernel) rfl
theorem fl_fmt : Cond.fieldLink RJ0 1053 "jdk/internal/util/Preconditions" "SIOOBE_FORMATTER" "Ljava/util/function/BiFunction;" ∈ fd_TB := fd_tbi 692 (by decide +kernel) rfl
/-- String.checkIndex -/
def x_ck2 : fd_T := fun σ => (fd_ld 0 σ).bind fun a => (fd_ld 1 σ).bind fun b => if ¬ a.1 < 0 ∧ a.1 < b.1 then some ((1, fd_jk), σ) else none
theorem c_ck2 (l : Launch) (g : fd_G) : fd_Con l g yJ0_checkIndex_df160 cJ0_checkIndex_df160 2 none 2 0 (fd_fn 2 x_ck2) := fd_mk (q := 0) (qb := 0) (qc := 0) (by decide) (fun X z h1 h2 F => by
  subst h1; subst h2
  intro σ σ' z0 v he kk
  obtain ⟨⟨a, σ1⟩, e1, e2⟩ := fd_bind_of he
  obtain ⟨⟨b, σ2⟩, e3, e4⟩ := fd_bind_of e2
  obtain ⟨⟨h1, h2⟩, e5⟩ := fd_if_of e4
  dsimp only at h1 h2
  cases e5
  have f1 := (fd_ld_of e1).2
  have f2 := (fd_ld_of e3).2
  subst f1
  refine fd_iload_n (i := 0) F dJ0_checkIndex_df160_0 rfl [] _ _ a (Nat.le_refl 0) e1 (fd_iload_n (i := 1) (k := 1) F dJ0_checkIndex_df160_1 rfl _ _ _ b (Nat.le_refl 1) (by rw [f2] at e3; exact e3) ?_)
  have go : ∀ w : Value, (∀ x, w ≠ .long x) → (∀ x, w ≠ .double x) → fd_W X 2 (fd_MQ X 0 z) 5 (fd_re (fd_b X) w :: .int b :: .int a :: []) σ1 := fun w hw1 hw2 => by
    have := fd_rcs (st := []) (σ := σ1) (as := [.int a, .int b, w]) (p := 5) (Q := fd_MQ X 0 z) F (c_chk X.2.2.1 X.1) yv_chk ml_chk (by omega) dJ0_checkIndex_df160_5 (Nat.zero_le 8) rfl (m_chk (M := σ1.2) (hw1 0) hw1 hw2 h1 h2) (by
      show fd_W X 2 (fd_MQ X 0 z) 8 [.int a] (σ1.1, σ1.2)
      exact fd_rpop F dJ0_checkIndex_df160_8 rfl (fd_srV (r := 0) (qb := 0) (qc := 0) F dJ0_checkIndex_df160_9 σ1 σ1 1 fd_jk rfl kk))
    exact this
  obtain ⟨g, pr, l, e, R, s, m, args, below, meth, c, cells, slots⟩ := X
  obtain ⟨hx, hb, hml, hown, hts, hK, hbs, hcl, hsl, hr, hlk, hfr, hlo⟩ := F
  intro H locs ls hW hS hL
  rcases va_Zq.kept hK.2.2.2.2.2.2.1 (fd_oldk hbs hK) with hz | ⟨t, hz⟩
  · exact va_gets hx hb hz hS hown (hts _ fl_fmt) (fun _ z => z) dJ0_checkIndex_df160_2 (go .null (fun x h => by cases h) (fun x h => by cases h) H locs ls hW hS hL)
  · exact va_gets hx hb hz hS hown (hts _ fl_fmt) (fun _ z => z) dJ0_checkIndex_df160_2 (go (.retAddr (t + 1)) (fun x h => by cases h) (fun x h => by cases h) H locs ls hW hS hL))
/-- isLatin1 of the literal -/
def x_isL (g : fd_G) : fd_T := fun σ => if σ.1[0]? = some (.retAddr (g.2.2.2.2.1 + 1)) then some ((1, .int 1), σ) else none
theorem c_isL (l : Launch) (g : fd_G) : fd_Con l g yJ0_isLatin1_aae02 cJ0_isLatin1_aae02 1 (some .boolean) 1 1 (fd_fn 1 (x_isL g)) := fd_mk (q := 0) (qb := 0) (qc := 0) (by decide) (fun X z h1 h2 F => by
  subst h1; subst h2
  intro σ σ' z0 v he kk
  obtain ⟨h1, e1⟩ := fd_if_of he
  cases e1
  have hz := fd_Ex1 kk
  subst hz
  obtain ⟨g, pr, l, e, R, s, m, args, below, meth, c, cells, slots⟩ := X
  obtain ⟨hx, hb, hml, hown, hts, hK, hbs, hcl, hsl, hr, hlk, hfr, hlo⟩ := F
  intro H locs ls hW hS hL
  have hs := fd_strs hbs hK
  refine va_gets hx hb (va_Z.kept hK.2.2.2.2.2.1 (fd_oldk hbs hK)) hS hown (hts _ fl_cs) (fun _ z => z) dJ0_isLatin1_aae02_0 ?_
  refine lv_if_eq (tgt := 17) hx hb dJ0_isLatin1_aae02_3 rfl (fun h => absurd h (by decide)) (fun _ => ?_)
  refine lv_aload_n (x := g.2.2.2.2.1) hx hb dJ0_isLatin1_aae02_6 rfl (hL.2.2 0 _ h1 (by simp [fd_jk])) ?_
  refine vk_getf (v := .int 0) hx hb (hs.1 0 (by decide)).2.1 hS hown (hts _ fl_cod) (fun _ z => z) dJ0_isLatin1_aae02_7 ?_
  refine lv_if_ne (tgt := 17) hx hb dJ0_isLatin1_aae02_10 rfl (fun h => absurd rfl h) (fun _ => ?_)
  refine lv_iconst (v := 1) hx hb dJ0_isLatin1_aae02_13 (by decide) ?_
  refine lv_goto (tgt := 18) hx hb dJ0_isLatin1_aae02_14 rfl ?_
  exact W.zret hx hb hr rfl (fun t ht hw => ⟨rfl, by rw [ht]; exact hW, hS.F ht⟩) hS.2.2 dJ0_isLatin1_aae02_18 hlk)
def x_chs (i : Int32) : Int32 := ([109, 116, 102, 100, 110, 115] : List Int32).getD i.toNatClampNeg 0
/-- StringLatin1.charAt of the literal's signs -/
def x_lat (g : fd_G) : fd_T := fun σ => if σ.1[0]? = some (.retAddr (g.2.2.2.2.2 + 1)) then (fd_ld 1 σ).bind fun a => if ¬ a.1 < 0 ∧ a.1.toNatClampNeg < 6 then some ((1, .int (x_chs a.1)), σ) else none else none
theorem x_chs_ok (i : Int32) (h : i.toNatClampNeg < 6) : ((x_chs i &&& 255).toUInt32 % 65536).toInt32 = x_chs i ∧ narrow .char (.int (x_chs i)) = .int (x_chs i) := by
  unfold x_chs
  have : ∀ j : Nat, j < 6 → ((([109, 116, 102, 100, 110, 115] : List Int32).getD j 0 &&& 255).toUInt32 % 65536).toInt32 = ([109, 116, 102, 100, 110, 115] : List Int32).getD j 0 ∧ narrow .char (.int (([109, 116, 102, 100, 110, 115] : List Int32).getD j 0)) = .int (([109, 116, 102, 100, 110, 115] : List Int32).getD j 0) := by decide
  exact this _ h
theorem x_lt6 {i : Int32} (h0 : ¬ i < 0) (h : i.toNatClampNeg < 6) : i < 6 := by
  obtain ⟨j, hj, rfl⟩ := nI_of h0
  rw [nI_clamp hj] at h
  exact (nI_ltI (a := j) (b := 6) hj (by omega)).mpr h
theorem c_lat (l : Launch) (g : fd_G) : fd_Con l g yJ1_charAt_3b067 cJ1_charAt_3b067 2 (some .char) 3 1 (fd_fn 2 (x_lat g)) := fd_mk (q := 0) (qb := 0) (qc := 0) (by decide) (fun X z h1 h2 F => by
  subst h1; subst h2
  intro σ σ' z0 v he kk
  obtain ⟨h1, e1⟩ := fd_if_of he
  obtain ⟨⟨a, σ1⟩, e2, e3⟩ := fd_bind_of e1
  obtain ⟨⟨h2, h3⟩, e4⟩ := fd_if_of e3
  dsimp only at h2 h3
  cases e4
  have hz := fd_Ex1 kk
  subst hz
  have f1 := (fd_ld_of e2).2
  subst f1
  have F0 := F
  refine fd_iload_n (i := 1) F dJ1_charAt_3b067_0 rfl [] _ _ a (Nat.le_refl 0) e2 ?_
  have back : fd_W X 2 (fd_MQ X 1 (.int (x_chs a), σ1.2)) 6 [] σ1 := by
    obtain ⟨g, pr, l, e, R, s, m, args, below, meth, c, cells, slots⟩ := X
    obtain ⟨hx, hb, hml, hown, hts, hK, hbs, hcl, hsl, hr, hlk, hfr, hlo⟩ := F
    intro H locs ls hW hS hL
    have hs := fd_strs hbs hK
    refine lv_aload_n (x := g.2.2.2.2.2) hx hb dJ1_charAt_3b067_6 rfl (hL.2.2 0 _ h1 (by simp [fd_jk])) ?_
    refine lv_iload_n hx hb dJ1_charAt_3b067_7 rfl (hL.2.2 1 _ (fd_ld_of e2).1 (by simp [fd_jk])) ?_
    refine va_tb hx hb (hs.1 0 (by decide)).2.2.2 hS (fun z => z.elim h2 (fun z => by simp at z; omega)) (v := .int (x_chs a)) rfl dJ1_charAt_3b067_8 ?_
    refine lv_sipush (v := 255) hx hb dJ1_charAt_3b067_9 (by decide) ?_
    refine lv_iand hx hb dJ1_charAt_3b067_12 ?_
    refine lv_i2c (v := x_chs a) hx hb dJ1_charAt_3b067_13 (x_chs_ok a h3).1 ?_
    exact W.zret hx hb hr (x_chs_ok a h3).2 (fun t ht hw => ⟨rfl, by rw [ht]; exact hW, hS.F ht⟩) hS.2.2 dJ1_charAt_3b067_14 hlk
  have mid : fd_W X 2 (fd_MQ X 1 (.int (x_chs a), σ1.2)) 3 (.int 6 :: .int a :: []) σ1 := by
    have hm : fd_fn 2 x_ck2 [.int a, .int 6] σ1.2 = some (fd_jk, σ1.2) := by
      simp [fd_fn, fd_in0, fd_sl, x_ck2, fd_ld, h2, x_lt6 h2 h3, Int32.not_lt.mp h2]
    exact fd_rcs (st := []) (σ := σ1) (as := [.int a, .int 6]) (p := 3) (Q := fd_MQ X 1 (.int (x_chs a), σ1.2)) F (c_ck2 X.2.2.1 X.1) yv_ck2 ml_ck2 (by omega) dJ1_charAt_3b067_3 (Nat.zero_le 8) rfl hm back
  obtain ⟨g, pr, l, e, R, s, m, args, below, meth, c, cells, slots⟩ := X
  obtain ⟨hx, hb, hml, hown, hts, hK, hbs, hcl, hsl, hr, hlk, hfr, hlo⟩ := F
  intro H locs ls hW hS hL
  have hs := fd_strs hbs hK
  refine lv_aload_n (x := g.2.2.2.2.2) hx hb dJ1_charAt_3b067_1 rfl (hL.2.2 0 _ h1 (by simp [fd_jk])) ?_
  exact va_tlen (v := 6) hx hb (hs.1 0 (by decide)).2.2.2 hS (by decide) dJ1_charAt_3b067_2 (mid H locs ls hW hS hL))
/-- a call whose receiver is the literal -/
theorem fd_rcvS (F : fd_F X cc own n rt d) {y : MethodName} {cy : ByteArray} {ny dy rk na idx : Nat} {ry : Option FieldType} {f : List Value → fd_M → Option (Value × fd_M)} {st as : List Value} {σ : fd_S} {z : Value × fd_M} (hcon : fd_Con X.2.2.1 X.1 y cy ny ry dy rk f) (hy : fd_Yv y cy ny ry RJ0 na) (hl : Cond.methodLink own idx y ∈ fd_TB) (hdd : dy + 1 ≤ d) (hd : decode cc p = .ok (.invokevirtual idx, 3))
    (hst : fd_ct st ≤ 8) (hlen : as.length = na) (he : f (.retAddr (X.1.2.2.2.2.1 + 1) :: as) σ.2 = some z) (kk : fd_W X n Q (p + 3) (fd_rv (fd_b X) rk z.1 ++ st) (σ.1, z.2)) : fd_W X n Q p ((as.map (fd_re (fd_b X))).reverse ++ .ref X.1.2.2.2.2.1 :: st) σ := by
  obtain ⟨g, pr, l, e, R, s, m, args, below, meth, c, cells, slots⟩ := X
  obtain ⟨hx, hb, hml, hown, hts, hK, hbs, hcl, hsl, hr, hlk, hfr, hlo⟩ := F
  obtain ⟨y1, y2, y3, y4, y5, y6, y7, y8, y9⟩ := hy
  intro H locs ls hW hS hL
  have hrun := va_runV (e := e) (below := below) (meth := meth) (H := H) (locs := locs) (cells := cells) (slots := slots) (b := g.2.2.2.2.1) (As := as.map (fd_re g.1)) (rest := st) (g := F0 m p ls ((as.map (fd_re g.1)).reverse ++ .ref g.2.2.2.2.1 :: st)) ⟨hx, hb, hml, hown, hts⟩ (hcon _ _ _ he)
    (cwV (own := own) (C := RJ0) (index := idx) (R := R) na hts (fd_good (fun w hw => by
      rcases List.mem_append.mp hw with hw | hw
      · rcases List.mem_cons.mp hw with rfl | hw
        · exact hl
        rcases List.mem_cons.mp hw with rfl | hw
        · exact y1
        rcases List.mem_cons.mp hw with rfl | hw
        · exact y2
        rcases List.mem_cons.mp hw with rfl | hw
        · exact y3
        · cases hw
      · exact fd_w_in y4 w hw)) rfl rfl rfl ⟨y6, y7, y8, y9⟩ ⟨by show dy + 1 ≤ _; omega, by show 8 + (ny + 11) + 64 * dy ≤ _; omega⟩)
    ⟨fd_blind, vk_recv (i := 0) (fd_strs hbs hK) (by decide) hS, fun U hU hWm => ⟨rfl, by rw [hU]; exact hW, fd_K.warm hWm (fun q hq => by rw [hU]; exact fd_old hS hbs hK q hq) hK, by rw [hU]; exact Nat.le_trans hbs hS.1⟩⟩ rfl (by rw [List.length_map]; exact hlen) hL.1 rfl (lv_room hst) hd ⟨hcl, hsl⟩
  exact fd_back hrun hbs hS hL kk
/-- charAt of the literal -/
def x_chr (g : fd_G) : fd_T := fun σ => if σ.1[0]? = some (.retAddr (g.2.2.2.2.1 + 1)) then (fd_ld 1 σ).bind fun a => if ¬ a.1 < 0 ∧ a.1.toNatClampNeg < 6 then some ((1, .int (x_chs a.1)), σ) else none else none
theorem c_chr (l : Launch) (g : fd_G) : fd_Con l g yJ0_charAt_5068e cJ0_charAt_5068e 2 (some .char) 4 1 (fd_fn 2 (x_chr g)) := fd_mk (q := 0) (qb := 0) (qc := 0) (by decide) (fun X z h1 h2 F => by
  subst h1; subst h2
  intro σ σ' z0 v he kk
  obtain ⟨h1, e1⟩ := fd_if_of he
  obtain ⟨⟨a, σ1⟩, e2, e3⟩ := fd_bind_of e1
  obtain ⟨⟨h2, h3⟩, e4⟩ := fd_if_of e3
  dsimp only at h2 h3
  cases e4
  have hz := fd_Ex1 kk
  subst hz
  have f1 := (fd_ld_of e2).2
  subst f1
  have p3 : fd_W X 2 (fd_MQ X 1 (.int (x_chs a), σ1.2)) 15 [.int (x_chs a)] σ1 := by
    obtain ⟨g, pr, l, e, R, s, m, args, below, meth, c, cells, slots⟩ := X
    obtain ⟨hx, hb, hml, hown, hts, hK, hbs, hcl, hsl, hr, hlk, hfr, hlo⟩ := F
    intro H locs ls hW hS hL
    exact W.zret hx hb hr (x_chs_ok a h3).2 (fun t ht hw => ⟨rfl, by rw [ht]; exact hW, hS.F ht⟩) hS.2.2 dJ0_charAt_5068e_15 hlk
  have p2 : fd_W X 2 (fd_MQ X 1 (.int (x_chs a), σ1.2)) 12 (.int a :: .ref X.1.2.2.2.2.2 :: []) σ1 := by
    have hm : fd_fn 2 (x_lat X.1) [.retAddr (X.1.2.2.2.2.2 + 1), .int a] σ1.2 = some (.int (x_chs a), σ1.2) := by
      simp [fd_fn, fd_in0, fd_sl, x_lat, fd_ld, h2, h3, Int32.not_lt.mp h2]
    exact fd_rcs (st := []) (σ := σ1) (as := [.retAddr (X.1.2.2.2.2.2 + 1), .int a]) (p := 12) (Q := fd_MQ X 1 (.int (x_chs a), σ1.2)) F (c_lat X.2.2.1 X.1) yv_lat ml_lat (by omega) dJ0_charAt_5068e_12 (Nat.zero_le 8) rfl hm p3
  have p1 : fd_W X 2 (fd_MQ X 1 (.int (x_chs a), σ1.2)) 4 [.int 1] σ1 := by
    obtain ⟨g, pr, l, e, R, s, m, args, below, meth, c, cells, slots⟩ := X
    obtain ⟨hx, hb, hml, hown, hts, hK, hbs, hcl, hsl, hr, hlk, hfr, hlo⟩ := F
    intro H locs ls hW hS hL
    have hs := fd_strs hbs hK
    refine lv_if_eq (tgt := 16) hx hb dJ0_charAt_5068e_4 rfl (fun h => absurd h (by decide)) (fun _ => ?_)
    refine lv_aload_n (x := g.2.2.2.2.1) hx hb dJ0_charAt_5068e_7 rfl (hL.2.2 0 _ h1 (by simp [fd_jk])) ?_
    refine vk_getf (v := .ref g.2.2.2.2.2) hx hb (hs.1 0 (by decide)).2.2.1 hS hown (hts _ fl_val) (fun _ z => z) dJ0_charAt_5068e_8 ?_
    refine lv_iload_n hx hb dJ0_charAt_5068e_11 rfl (hL.2.2 1 _ (fd_ld_of e2).1 (by simp [fd_jk])) ?_
    exact p2 H locs ls hW hS hL
  have p0 : fd_W X 2 (fd_MQ X 1 (.int (x_chs a), σ1.2)) 1 [.ref X.1.2.2.2.2.1] σ1 := by
    have hm : fd_fn 1 (x_isL X.1) [.retAddr (X.1.2.2.2.2.1 + 1)] σ1.2 = some (.int 1, σ1.2) := by
      simp [fd_fn, fd_in0, fd_sl, x_isL]
    exact fd_rcvS (st := []) (σ := σ1) (as := []) (p := 1) (Q := fd_MQ X 1 (.int (x_chs a), σ1.2)) F (c_isL X.2.2.1 X.1) yv_isL ml_isL (by omega) dJ0_charAt_5068e_1 (Nat.zero_le 8) rfl hm p1
  obtain ⟨g, pr, l, e, R, s, m, args, below, meth, c, cells, slots⟩ := X
  obtain ⟨hx, hb, hml, hown, hts, hK, hbs, hcl, hsl, hr, hlk, hfr, hlo⟩ := F
  intro H locs ls hW hS hL
  exact lv_aload_n (x := g.2.2.2.2.1) hx hb dJ0_charAt_5068e_0 rfl (hL.2.2 0 _ h1 (by simp [fd_jk])) (p0 H locs ls hW hS hL))
/-! the letters of THE RULE -/
def fd_ltr (a : fd_D Int32) : fd_D Int32 := fun σ => (a σ).bind fun u => if ¬ u.1 < 0 ∧ u.1.toNatClampNeg < 6 then some (([109, 116, 102, 100, 110, 115] : List Int32).getD u.1.toNatClampNeg 0, u.2) else none
theorem fd_charAt (F : fd_F X cc RX2 n rt d) (hd5 : 5 ≤ d) {a : fd_D Int32} (hd1 : decode cc p = .ok (.ldc 95, 2)) (he : fd_Ev X n Q fd_i (k + 1) (p + 2) q a) (hd2 : decode cc q = .ok (.invokevirtual 97, 3)) (hk : k ≤ 8) : fd_Ev X n Q fd_i k p (q + 3) (fd_ltr a) := by
  intro st σ σ' v hct he0 kk
  obtain ⟨⟨u, σ1⟩, e1, e2⟩ := fd_bind_of he0
  obtain ⟨⟨h2, h3⟩, e3⟩ := fd_if_of e2
  dsimp only at h2 h3
  cases e3
  have hm : fd_fn 2 (x_chr X.1) [.retAddr (X.1.2.2.2.2.1 + 1), .int u] σ1.2 = some (.int (x_chs u), σ1.2) := by
    simp [fd_fn, fd_in0, fd_sl, x_chr, fd_ld, h2, h3, Int32.not_lt.mp h2]
  have p1 : fd_W X n Q q (.int u :: .ref X.1.2.2.2.2.1 :: st) σ1 := fd_rcvS (σ := σ1) (as := [.int u]) F (c_chr X.2.2.1 X.1) yv_chr ml_chr (by omega) hd2 (Nat.le_trans hct hk) rfl hm kk
  have p2 : fd_W X n Q (p + 2) (.ref X.1.2.2.2.2.1 :: st) σ := he (.ref X.1.2.2.2.2.1 :: st) σ σ1 u (by rw [fd_ct_cons]; show 1 + _ ≤ _; omega) e1 p1
  obtain ⟨g, pr, l, e, R, s, m, args, below, meth, c, cells, slots⟩ := X
  obtain ⟨hx, hb, hml, hown, hts, hK, hbs, hcl, hsl, hr, hlk, hfr, hlo⟩ := F
  intro H locs ls hW hS hL
  exact va_ldcS hx hb hown hK.2.2.2.1 hd1 (p2 H locs ls hW hS hL)
end FDS
