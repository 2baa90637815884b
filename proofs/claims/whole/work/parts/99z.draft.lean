-- FILE 98b.all
/-! ===== the law's loop, call after call ===== -/
section LA
variable {g : fd_G} {pr : Program} {l : Launch} {e : Env} {R : Room} {s : State} {m : MethodId} {args : Array Value} {below : List Frame} {meth : Method} {c : Code} {Q : State → Prop} {b L : Nat} {xs : Nat → Int32}
theorem fd_F.at {cc : ByteArray} {own : String} {n d ca sl k q : Nat} {rt : Option FieldType} (F : fd_F (g, pr, l, e, R, s, m, args, below, meth, c, ca, sl) cc own n rt d) (h1 : k ≤ R.cells) (h2 : q ≤ R.slots) : fd_F (g, pr, l, e, R, s, m, args, below, meth, c, k, q) cc own n rt d := by
  obtain ⟨f1, f2, f3, f4, f5, f6, f7, f8, f9, f10, f11, f12, f13⟩ := F
  exact ⟨f1, f2, f3, f4, f5, f6, f7, h1, h2, f10, f11, f12, f13⟩
theorem fd_W.wd {n ca sl k q pc : Nat} {st : List Value} {σ : fd_S} (h1 : ca ≤ k) (h2 : sl ≤ q) (kk : fd_W (g, pr, l, e, R, s, m, args, below, meth, c, k, q) n Q pc st σ) : fd_W (g, pr, l, e, R, s, m, args, below, meth, c, ca, sl) n Q pc st σ := fun H locs ls a1 a2 a3 => W.widen h1 h2 (kk H locs ls a1 a2 a3)
/-- one call of the script -/
theorem lp_one (hfl : l.stackTraces = false) {ca sl k : Nat} (F : fd_F (g, pr, l, e, R, s, m, args, below, meth, c, 0, 0) code RL 8 ret (712 + 600)) (S : dl_S (g, pr, l, e, R, s, m, args, below, meth, c, ca, sl) b L xs) (hL : L ≤ 2560) (k512 : k ≤ 512) (hi : 5 * k + 5 ≤ L) (hRk : ca + 1 ≤ R.cells ∧ sl + 6 ≤ R.slots) {M : fd_M} (hI : Inv k M) (nx1 : ∀ Mm, Inv (k + 1) Mm → fd_W (g, pr, l, e, R, s, m, args, below, meth, c, ca + 1, sl + 6) 8 Q 1340 [] (dl_L0 b (5 * k), Mm)) : ∀ o, o < 40 → fd_W (g, pr, l, e, R, s, m, args, below, meth, c, ca, sl) 8 Q (lp_tg.getD o 0) [] (dl_L0 b (5 * k), M) := by
  have Fk : fd_F (g, pr, l, e, R, s, m, args, below, meth, c, ca, sl) code RL 8 ret (712 + 600) := F.at (by omega) (by omega)
  have Fk1 : fd_F (g, pr, l, e, R, s, m, args, below, meth, c, ca + 1, sl + 6) code RL 8 ret (712 + 600) := F.at hRk.1 hRk.2
  have nx : ∀ Mm, Inv (k + 1) Mm → fd_W (g, pr, l, e, R, s, m, args, below, meth, c, ca, sl) 8 Q 1340 [] (dl_L0 b (5 * k), Mm) := fun Mm h => (nx1 Mm h).wd (by omega) (by omega)
  intro o ho
  exact match o, ho with
  | 0, _ => by
    obtain ⟨v, Mx, Mm, h1, h2, h3⟩ := (call_sign (xs (5 * k + 1))) k M k512 hI
    exact dk_0 Fk S hi hL h1 h2 (nx Mm h3)
  | 1, _ => by
    obtain ⟨v, Mx, Mm, h1, h2, h3⟩ := (call_end (xs (5 * k + 1))) k M k512 hI
    exact dk_1 Fk S hi hL h1 h2 (nx Mm h3)
  | 2, _ => by
    obtain ⟨v, Mx, Mm, h1, h2, h3⟩ := (call_hills) k M k512 hI
    exact dk_2 Fk S hi hL h1 h2 (nx Mm h3)
  | 3, _ => by
    obtain ⟨v, Mx, Mm, h1, h2, h3⟩ := (call_feasts) k M k512 hI
    exact dk_3 Fk S hi hL h1 h2 (nx Mm h3)
  | 4, _ => by
    obtain ⟨v, Mx, Mm, h1, h2, h3⟩ := (call_rule) k M k512 hI
    exact dk_4 Fk S hi hL h1 h2 (nx Mm h3)
  | 5, _ => by
    obtain ⟨kv, bv, Mx, Mm, h1, h2, h3, h4, h5, h6⟩ := (call_village (xs (5 * k + 1)) (xs (5 * k + 2))) k M k512 hI
    exact dk_5 hfl Fk Fk1 S ⟨hRk.1, hRk.2⟩ hi hL h1 h2 (by rw [s_X12_thrown, h3]) h5 (nx1 Mm h6)
  | 6, _ => by
    obtain ⟨kv, bv, Mx, Mm, h1, h2, h3, h4, h5, h6⟩ := (call_feast (xs (5 * k + 1)) (xs (5 * k + 2))) k M k512 hI
    exact dk_6 hfl Fk Fk1 S ⟨hRk.1, hRk.2⟩ hi hL h1 h2 (by rw [s_X12_thrown, h3]) h5 (nx1 Mm h6)
  | 7, _ => by
    obtain ⟨v, Mx, Mm, h1, h2, h3⟩ := (call_set (xs (5 * k + 1)) (xs (5 * k + 2))) k M k512 hI
    exact dk_7 Fk S hi hL h1 h2 (nx Mm h3)
  | 8, _ => by
    obtain ⟨v, Mx, Mm, h1, h2, h3⟩ := (call_sheet (xs (5 * k + 1)) (xs (5 * k + 2)) (xs (5 * k + 3)) (xs (5 * k + 4))) k M k512 hI
    exact dk_8 Fk S hi hL h1 h2 (nx Mm h3)
  | 9, _ => by
    obtain ⟨v, Mx, Mm, h1, h2, h3⟩ := (call_night (xs (5 * k + 1))) k M k512 hI
    exact dk_9 Fk S hi hL h1 h2 (nx Mm h3)
  | 10, _ => by
    obtain ⟨v, Mx, Mm, h1, h2, h3⟩ := (call_stay (xs (5 * k + 1))) k M k512 hI
    exact dk_10 Fk S hi hL h1 h2 (nx Mm h3)
  | 11, _ => by
    obtain ⟨v, Mx, Mm, h1, h2, h3⟩ := (call_mend) k M k512 hI
    exact dk_11 Fk S hi hL h1 h2 (nx Mm h3)
  | 12, _ => by
    obtain ⟨v, Mx, Mm, h1, h2, h3⟩ := (call_move (xs (5 * k + 1)) (xs (5 * k + 2))) k M k512 hI
    exact dk_12 Fk S hi hL h1 h2 (nx Mm h3)
  | 13, _ => by
    obtain ⟨v, Mx, Mm, h1, h2, h3⟩ := (call_season) k M k512 hI
    exact dk_13 Fk S hi hL h1 h2 (nx Mm h3)
  | 14, _ => by
    obtain ⟨v, Mx, Mm, h1, h2, h3⟩ := (call_undo) k M k512 hI
    exact dk_14 Fk S hi hL h1 h2 (nx Mm h3)
  | 15, _ => by
    obtain ⟨v, Mx, Mm, h1, h2, h3⟩ := (call_far (xs (5 * k + 1)) (xs (5 * k + 2))) k M k512 hI
    exact dk_15 Fk S hi hL h1 h2 (nx Mm h3)
  | 16, _ => by
    obtain ⟨v, Mx, Mm, h1, h2, h3⟩ := (call_reach) k M k512 hI
    exact dk_16 Fk S hi hL h1 h2 (nx Mm h3)
  | 17, _ => by
    obtain ⟨v, Mx, Mm, h1, h2, h3⟩ := (call_comes (xs (5 * k + 1))) k M k512 hI
    exact dk_17 Fk S hi hL h1 h2 (nx Mm h3)
  | 18, _ => by
    obtain ⟨v, Mx, Mm, h1, h2, h3⟩ := (call_round (xs (5 * k + 1))) k M k512 hI
    exact dk_18 Fk S hi hL h1 h2 (nx Mm h3)
  | 19, _ => by
    obtain ⟨v, Mx, Mm, h1, h2, h3⟩ := (call_richest (xs (5 * k + 1))) k M k512 hI
    exact dk_19 Fk S hi hL h1 h2 (nx Mm h3)
  | 20, _ => by
    obtain ⟨v, Mx, Mm, h1, h2, h3⟩ := (call_all (xs (5 * k + 1))) k M k512 hI
    exact dk_20 Fk S hi hL h1 h2 (nx Mm h3)
  | 21, _ => by
    obtain ⟨v, Mx, Mm, h1, h2, h3⟩ := (call_clash) k M k512 hI
    exact dk_21 Fk S hi hL h1 h2 (nx Mm h3)
  | 22, _ => by
    obtain ⟨v, Mx, Mm, h1, h2, h3⟩ := (call_worth (xs (5 * k + 1)) (xs (5 * k + 2))) k M k512 hI
    exact dk_22 Fk S hi hL h1 h2 (nx Mm h3)
  | 23, _ => by
    obtain ⟨v, Mx, Mm, h1, h2, h3⟩ := (call_longer (xs (5 * k + 1))) k M k512 hI
    exact dk_23 Fk S hi hL h1 h2 (nx Mm h3)
  | 24, _ => by
    obtain ⟨v, Mx, Mm, h1, h2, h3⟩ := (call_learns (xs (5 * k + 1))) k M k512 hI
    exact dk_24 Fk S hi hL h1 h2 (nx Mm h3)
  | 25, _ => by
    obtain ⟨v, Mx, Mm, h1, h2, h3⟩ := (call_second (xs (5 * k + 1)) (xs (5 * k + 2))) k M k512 hI
    exact dk_25 Fk S hi hL h1 h2 (nx Mm h3)
  | 26, _ => by
    obtain ⟨v, Mx, Mm, h1, h2, h3⟩ := (call_tune (xs (5 * k + 1))) k M k512 hI
    exact dk_26 Fk S hi hL h1 h2 (nx Mm h3)
  | 27, _ => by
    obtain ⟨v, Mx, Mm, h1, h2, h3⟩ := (call_hush) k M k512 hI
    exact dk_27 Fk S hi hL h1 h2 (nx Mm h3)
  | 28, _ => by
    obtain ⟨v, Mx, Mm, h1, h2, h3⟩ := (call_differ (xs (5 * k + 1)) (xs (5 * k + 2))) k M k512 hI
    exact dk_28 Fk S hi hL h1 h2 (nx Mm h3)
  | 29, _ => by
    obtain ⟨v, Mx, Mm, h1, h2, h3⟩ := (call_whence) k M k512 hI
    exact dk_29 Fk S hi hL h1 h2 (nx Mm h3)
  | 30, _ => by
    obtain ⟨v, Mx, Mm, h1, h2, h3⟩ := (call_tree) k M k512 hI
    exact dk_30 Fk S hi hL h1 h2 (nx Mm h3)
  | 31, _ => by
    obtain ⟨v, Mx, Mm, h1, h2, h3⟩ := (call_got) k M k512 hI
    exact dk_31 Fk S hi hL h1 h2 (nx Mm h3)
  | 32, _ => by
    obtain ⟨v, Mx, Mm, h1, h2, h3⟩ := (call_breaks (xs (5 * k + 1)) (xs (5 * k + 2))) k M k512 hI
    exact dk_32 Fk S hi hL h1 h2 (nx Mm h3)
  | 33, _ => by
    obtain ⟨v, Mx, Mm, h1, h2, h3⟩ := (call_bids (xs (5 * k + 1)) (xs (5 * k + 2)) (xs (5 * k + 3))) k M k512 hI
    exact dk_33 Fk S hi hL h1 h2 (nx Mm h3)
  | 34, _ => by
    obtain ⟨v, Mx, Mm, h1, h2, h3⟩ := (call_kinds (xs (5 * k + 1))) k M k512 hI
    exact dk_34 Fk S hi hL h1 h2 (nx Mm h3)
  | 35, _ => by
    obtain ⟨v, Mx, Mm, h1, h2, h3⟩ := (call_years (xs (5 * k + 1)) (xs (5 * k + 2))) k M k512 hI
    exact dk_35 Fk S hi hL h1 h2 (nx Mm h3)
  | 36, _ => by
    obtain ⟨v, Mx, Mm, h1, h2, h3⟩ := (call_keep (xs (5 * k + 1))) k M k512 hI
    exact dk_36 Fk S hi hL h1 h2 (nx Mm h3)
  | 37, _ => by
    obtain ⟨v, Mx, Mm, h1, h2, h3⟩ := (call_again (xs (5 * k + 1))) k M k512 hI
    exact dk_37 Fk S hi hL h1 h2 (nx Mm h3)
  | 38, _ => by
    obtain ⟨v, Mx, Mm, h1, h2, h3⟩ := (call_count (xs (5 * k + 1))) k M k512 hI
    exact dk_38 Fk S hi hL h1 h2 (nx Mm h3)
  | 39, _ => by
    obtain ⟨kv, bv, Mx, Mm, h1, h2, h3, h4, h5, h6⟩ := (call_row (xs (5 * k + 1))) k M k512 hI
    exact dk_39 hfl Fk Fk1 S ⟨hRk.1, hRk.2⟩ hi hL h1 h2 (by rw [s_X12_thrown, h3]) h5 (nx1 Mm h6)
  | o + 40, h => absurd h (by omega)
theorem lp_all (hfl : l.stackTraces = false) (F : fd_F (g, pr, l, e, R, s, m, args, below, meth, c, 0, 0) code RL 8 ret (712 + 600)) (S : ∀ ca sl, dl_S (g, pr, l, e, R, s, m, args, below, meth, c, ca, sl) b L xs) (hL : L ≤ 2560) {k0 s0 : Nat} (hR : k0 + 512 ≤ R.cells ∧ s0 + 3072 ≤ R.slots) (hend : ∀ (M : fd_M) (i : Nat), fd_W (g, pr, l, e, R, s, m, args, below, meth, c, k0 + 512, s0 + 3072) 8 Q 1346 [] (dl_L0 b i, M)) : ∀ r k, k + r = 512 → ∀ M, 5 * k ≤ L → Inv k M → fd_W (g, pr, l, e, R, s, m, args, below, meth, c, k0 + k, s0 + 6 * k) 8 Q 23 [] (dl_L0 b (5 * k), M) := by
  intro r
  induction r with
  | zero =>
    intro k hk M h5 hI
    refine lp_head (F.at (by omega) (by omega)) (S _ _) hL (by omega) ?_
    rw [if_pos (by omega)]
    exact (hend M _).wd (by omega) (by omega)
  | succ r ih =>
    intro k hk M h5 hI
    have Fk : fd_F (g, pr, l, e, R, s, m, args, below, meth, c, k0 + k, s0 + 6 * k) code RL 8 ret (712 + 600) := F.at (by omega) (by omega)
    have Fk1 : fd_F (g, pr, l, e, R, s, m, args, below, meth, c, k0 + k + 1, s0 + 6 * k + 6) code RL 8 ret (712 + 600) := F.at (by omega) (by omega)
    refine lp_head Fk (S _ _) hL (by omega) ?_
    by_cases h : L < 5 * k + 5
    · rw [if_pos h]
      exact (hend M _).wd (by omega) (by omega)
    · rw [if_neg h]
      have nx1 : ∀ Mm, Inv (k + 1) Mm → fd_W (g, pr, l, e, R, s, m, args, below, meth, c, k0 + k + 1, s0 + 6 * k + 6) 8 Q 1340 [] (dl_L0 b (5 * k), Mm) := fun Mm hm => lp_next Fk1 (ih (k + 1) (by omega) Mm (by omega) hm)
      refine lp_op Fk (S _ _) hL (by omega) ?_
      obtain ⟨o, o64, eo⟩ := lp_63 (xs (5 * k))
      rw [eo]
      refine lp_sw Fk o64 ?_
      by_cases h4 : o < 40
      · rw [if_pos h4]
        exact lp_one hfl F (S _ _) hL (by omega) (by omega) ⟨by omega, by omega⟩ hI nx1 o h4
      · rw [if_neg h4]
        refine fd_W.wd (k := k0 + k + 1) (q := s0 + 6 * k + 6) (by omega) (by omega) (nx1 M ?_)
        exact Inv_sm hI fd_sm.rf
end LA
