/-! ===== the first memory ===== -/
def fd_i0 (k : Nat) : Nat → Int32 := if k = 30 then (fun j => if j = 0 then 20 else if j = 2 then 99 else 0) else if k = 182 then (fun j => if j = 9 then 20 else if j = 11 then 99 else 0) else if k = 183 then upd (fun _ => 0) (3 : Int32).toNatClampNeg 4 else if k = 185 then zm 81 else if (fd_sh k).1 = 0 ∧ (fd_sh k).2.1 = 10 then (fun j => if j = 4 then 4 else 0) else fun _ => 0
def fd_M0 : fd_M := (fd_i0, fun _ _ => 0)
def cq0 (g : fd_G) : Nat → Nat → List va_E
  | _, 0 => []
  | a, n + 1 => fd_ce g fd_M0 a :: cq0 g (a + 1) n
theorem cq0_app (g : fd_G) : ∀ (m n a : Nat), cq0 g a m ++ cq0 g (a + m) n = cq0 g a (m + n)
  | 0, n, a => by simp [cq0]
  | m + 1, n, a => by
    rw [show m + 1 + n = (m + n) + 1 by omega]
    show _ :: (cq0 g (a + 1) m ++ cq0 g (a + (m + 1)) n) = _ :: _
    rw [show a + (m + 1) = a + 1 + m by omega, cq0_app g m n (a + 1)]
theorem cq0_len (g : fd_G) : ∀ (n a : Nat), (cq0 g a n).length = n
  | 0, _ => rfl
  | n + 1, a => congrArg (· + 1) (cq0_len g n (a + 1))
theorem cq0_at (g : fd_G) : ∀ (n a k : Nat), k < n → (cq0 g a n)[k]? = some (fd_ce g fd_M0 (a + k))
  | 0, _, k, h => absurd h (by omega)
  | n + 1, a, 0, _ => rfl
  | n + 1, a, k + 1, h => by
    show (cq0 g (a + 1) n)[k]? = _
    rw [cq0_at g n (a + 1) k (by omega), show a + 1 + k = a + (k + 1) by omega]
theorem cs {α : Type} {a b : α} {l m : List α} (h : a = b) (h2 : l = m) : a :: l = b :: m := by rw [h, h2]
def va_E_rr (g : fd_G) (o N : Nat) : va_E := .inl (g.2.1 5, N, .inr (.inr (.inr (.inr fun i => if i < N then some (g.1 + o + 1 + i) else none))))
theorem ce_rr {g : fd_G} {M : fd_M} {k o N : Nat} (h : fd_sh k = (3, 5, N, List.range' (o + 1) N)) : va_E_rr g o N = fd_ce g M k := by
  unfold fd_ce va_E_rr
  rw [h]
  refine congrArg (fun f => (.inl (g.2.1 5, N, .inr (.inr (.inr (.inr f)))) : va_E)) (funext fun j => ?_)
  dsimp only
  by_cases hj : j < N
  · rw [if_pos hj, List.getElem?_range' hj]
    simp [Nat.add_assoc]
  · rw [if_neg hj, List.getElem?_eq_none (by rw [List.length_range']; omega)]
    rfl
theorem ce_pq {g : fd_G} {M : fd_M} {k n o N : Nat} (h : fd_sh k = (3, 6, N, (List.range N).map fun j => n + (o + 3 * j))) : pq g n o N N = fd_ce g M k := by
  unfold fd_ce pq
  rw [h]
  refine congrArg (fun f => (.inl (g.2.1 6, N, .inr (.inr (.inr (.inr f)))) : va_E)) (funext fun j => ?_)
  dsimp only
  by_cases hj : j < N
  · rw [if_pos hj]
    simp [hj]
  · rw [if_neg hj, List.getElem?_eq_none (by simp; omega)]
    rfl

theorem fb_1 (g : fd_G) : (.inr (7, zf_X7 g (1 + 1)) :: zt_X7 g (1 + 1) : List va_E) = cq0 g 1 2 := cs rfl (cs rfl (rfl))
theorem fb_3 (g : fd_G) : (.inr (4, zf_X4 g (1 + 3)) :: zt_X4 g (1 + 3) : List va_E) = cq0 g 3 2 := cs rfl (cs rfl (rfl))
theorem fb_5 (g : fd_G) : (.inr (3, zf_X3 g (1 + 5)) :: zt_X3 g (1 + 5) : List va_E) = cq0 g 5 25 := cs rfl (cs rfl (cs rfl (cs rfl (cs rfl (cs (ce_rr (by decide)) (cs rfl (cs rfl (cs rfl (cs rfl (cs rfl (cs rfl (cs rfl (cs rfl (cs rfl (cs (ce_rr (by decide)) (cs rfl (cs rfl (cs rfl (cs rfl (cs rfl (cs rfl (cs rfl (cs rfl (cs rfl (rfl)))))))))))))))))))))))))
theorem fb_30 (g : fd_G) : (.inr (8, zf_X8 g (1 + 30)) :: zt_X8 g (1 + 30) : List va_E) = cq0 g 30 1 := cs rfl (rfl)
theorem fb_31 (g : fd_G) : (.inr (1, zf_X1 g (1 + 31)) :: zt_X1 g (1 + 31) : List va_E) = cq0 g 31 4 := cs rfl (cs rfl (cs rfl (cs rfl (rfl))))
theorem fb_35 (g : fd_G) : (.inr (2, zf_X2 g (1 + 35)) :: zt_X2 g (1 + 35) : List va_E) = cq0 g 35 7 := cs rfl (cs rfl (cs rfl (cs rfl (cs rfl (cs rfl (cs rfl (rfl)))))))
theorem fb_42 (g : fd_G) : (.inr (10, zf_X10 g (1 + 42)) :: zt_X10 g (1 + 42) : List va_E) = cq0 g 42 3 := cs rfl (cs rfl (cs rfl (rfl)))
theorem fb_45 (g : fd_G) : (.inr (10, zf_X10 g (1 + 45)) :: zt_X10 g (1 + 45) : List va_E) = cq0 g 45 3 := cs rfl (cs rfl (cs rfl (rfl)))
theorem fb_48 (g : fd_G) : (.inr (5, zf_X5 g (1 + 48)) :: zt_X5 g (1 + 48) : List va_E) = cq0 g 48 46 := cs rfl (cs (ce_pq (by decide)) (cs (ce_pq (by decide)) (cs rfl (cs rfl (cs rfl (cs rfl (cs rfl (cs rfl (cs rfl (cs rfl (cs rfl (cs rfl (cs rfl (cs rfl (cs rfl (cs rfl (cs rfl (cs rfl (cs rfl (cs rfl (cs rfl (cs rfl (cs rfl (cs rfl (cs rfl (cs rfl (cs rfl (cs rfl (cs rfl (cs rfl (cs rfl (cs rfl (cs rfl (cs rfl (cs rfl (cs rfl (cs rfl (cs rfl (cs rfl (cs rfl (cs rfl (cs rfl (cs rfl (cs rfl (cs rfl (rfl))))))))))))))))))))))))))))))))))))))))))))))
theorem fb_94 (g : fd_G) : (.inr (0, zf_X0 g (1 + 94)) :: zt_X0 g (1 + 94) : List va_E) = cq0 g 94 3 := cs rfl (cs rfl (cs rfl (rfl)))
theorem fb_97 (g : fd_G) : (.inr (6, zf_X6 g (1 + 97)) :: zt_X6 g (1 + 97) : List va_E) = cq0 g 97 59 := cs rfl (cs (ce_rr (by decide)) (cs rfl (cs rfl (cs rfl (cs rfl (cs rfl (cs rfl (cs rfl (cs rfl (cs rfl (cs rfl (cs rfl (cs rfl (cs (ce_rr (by decide)) (cs rfl (cs rfl (cs rfl (cs rfl (cs rfl (cs rfl (cs rfl (cs rfl (cs rfl (cs rfl (cs rfl (cs rfl (cs (ce_rr (by decide)) (cs rfl (cs rfl (cs rfl (cs rfl (cs rfl (cs rfl (cs rfl (cs rfl (cs rfl (cs rfl (cs rfl (cs rfl (cs rfl (cs (ce_rr (by decide)) (cs rfl (cs rfl (cs rfl (cs rfl (cs rfl (cs rfl (cs rfl (cs rfl (cs rfl (cs rfl (cs rfl (cs rfl (cs rfl (cs rfl (cs rfl (cs rfl (cs rfl (rfl)))))))))))))))))))))))))))))))))))))))))))))))))))))))))))
theorem fb_156 (g : fd_G) : (.inr (9, zf_X9 g (1 + 156)) :: zt_X9 g (1 + 156) : List va_E) = cq0 g 156 26 := cs rfl (cs (ce_rr (by decide)) (cs rfl (cs rfl (cs rfl (cs rfl (cs rfl (cs rfl (cs rfl (cs rfl (cs rfl (cs rfl (cs rfl (cs rfl (cs rfl (cs rfl (cs rfl (cs (ce_rr (by decide)) (cs rfl (cs rfl (cs rfl (cs rfl (cs rfl (cs rfl (cs rfl (cs rfl (rfl))))))))))))))))))))))))))
theorem fb_mo (g : fd_G) : (.inr (12, zf_X12 g (1 + (181 + 1))) : va_E) = fd_ce g fd_M0 182 := by
  rw [fd_ce_obj (k := 182) (ci := 12) rfl rfl]
  refine congrArg (fun l => (.inr (12, l) : va_E)) (List.ext_getElem? fun j => ?_)
  unfold fd_fs
  rw [List.getElem?_mapIdx]
  exact match j with
    | 0 => rfl
    | 1 => rfl
    | 2 => rfl
    | 3 => rfl
    | 4 => rfl
    | 5 => rfl
    | 6 => rfl
    | 7 => rfl
    | 8 => rfl
    | 9 => rfl
    | 10 => rfl
    | 11 => rfl
    | 12 => rfl
    | 13 => rfl
    | 14 => rfl
    | 15 => rfl
    | 16 => rfl
    | 17 => rfl
    | 18 => rfl
    | 19 => rfl
    | 20 => rfl
    | 21 => rfl
    | 22 => rfl
    | 23 => rfl
    | 24 => rfl
    | 25 => rfl
    | 26 => rfl
    | 27 => rfl
    | 28 => rfl
    | 29 => rfl
    | 30 => rfl
    | 31 => rfl
    | 32 => rfl
    | 33 => rfl
    | 34 => rfl
    | 35 => rfl
    | 36 => rfl
    | 37 => rfl
    | 38 => rfl
    | 39 => rfl
    | 40 => rfl
    | 41 => rfl
    | 42 => rfl
    | 43 => rfl
    | 44 => rfl
    | 45 => rfl
    | 46 => rfl
    | 47 => rfl
    | 48 => rfl
    | 49 => rfl
    | 50 => rfl
    | 51 => rfl
    | 52 => rfl
    | 53 => rfl
    | 54 => rfl
    | 55 => rfl
    | 56 => rfl
    | 57 => rfl
    | 58 => rfl
    | 59 => rfl
    | 60 => rfl
    | 61 => rfl
    | j + 62 => rfl
theorem fb_mt (g : fd_G) : zt_X12 g (1 + (181 + 1)) = cq0 g 183 34 := cs rfl (cs rfl (cs rfl (cs rfl (cs rfl (cs rfl (cs rfl (cs rfl (cs rfl (cs rfl (cs rfl (cs rfl (cs rfl (cs rfl (cs rfl (cs rfl (cs rfl (cs rfl (cs rfl (cs rfl (cs rfl (cs rfl (cs rfl (cs rfl (cs rfl (cs rfl (cs rfl (cs rfl (cs rfl (cs rfl (cs rfl (cs rfl (cs rfl (cs rfl (rfl))))))))))))))))))))))))))))))))))
theorem fb_model (g : fd_G) : (.inr (12, zf_X12 g (1 + (181 + 1))) :: zt_X12 g (1 + (181 + 1)) : List va_E) = cq0 g 182 35 := cs (fb_mo g) (fb_mt g)
theorem fb_11 (g : fd_G) : zt_X11 g 1 = cq0 g 1 181 := by
  unfold zt_X11
  rw [List.nil_append, fb_1 g, fb_3 g, fb_5 g, fb_30 g, fb_31 g, fb_35 g, fb_42 g, fb_45 g, fb_48 g, fb_94 g, fb_97 g, fb_156 g]
  rw [show cq0 g 1 2 ++ cq0 g 3 2 = cq0 g 1 4 from cq0_app g 2 2 1]
  rw [show cq0 g 1 4 ++ cq0 g 5 25 = cq0 g 1 29 from cq0_app g 4 25 1]
  rw [show cq0 g 1 29 ++ cq0 g 30 1 = cq0 g 1 30 from cq0_app g 29 1 1]
  rw [show cq0 g 1 30 ++ cq0 g 31 4 = cq0 g 1 34 from cq0_app g 30 4 1]
  rw [show cq0 g 1 34 ++ cq0 g 35 7 = cq0 g 1 41 from cq0_app g 34 7 1]
  rw [show cq0 g 1 41 ++ cq0 g 42 3 = cq0 g 1 44 from cq0_app g 41 3 1]
  rw [show cq0 g 1 44 ++ cq0 g 45 3 = cq0 g 1 47 from cq0_app g 44 3 1]
  rw [show cq0 g 1 47 ++ cq0 g 48 46 = cq0 g 1 93 from cq0_app g 47 46 1]
  rw [show cq0 g 1 93 ++ cq0 g 94 3 = cq0 g 1 96 from cq0_app g 93 3 1]
  rw [show cq0 g 1 96 ++ cq0 g 97 59 = cq0 g 1 155 from cq0_app g 96 59 1]
  rw [show cq0 g 1 155 ++ cq0 g 156 26 = cq0 g 1 181 from cq0_app g 155 26 1]
theorem fd_first {g : fd_G} {H : Heap} {es : List va_E} {fs : List Value} {c9 : Nat} (hes : es = [.inr (c9, fs)]) (h : fd_We g (fd_zs es 0 11 (zf_X11 g 1) (zt_X11 g 1 ++ .inr (12, zf_X12 g (1 + (181 + 1))) :: zt_X12 g (1 + (181 + 1)) ++ [fd_na g 4 1])) H) : fd_Wd g fd_M0 H := by
  subst hes
  have e1 : fd_zs [.inr (c9, fs)] 0 11 (zf_X11 g 1) (zt_X11 g 1 ++ .inr (12, zf_X12 g (1 + (181 + 1))) :: zt_X12 g (1 + (181 + 1)) ++ [fd_na g 4 1]) = cq0 g 0 218 := by
    rw [fb_11, fb_model]
    have e2 : cq0 g 1 181 ++ cq0 g 182 35 = cq0 g 1 216 := cq0_app g 181 35 1
    have e3 : [fd_na g 4 1] = cq0 g 217 1 := cs rfl rfl
    have e4 : cq0 g 1 216 ++ cq0 g 217 1 = cq0 g 1 217 := cq0_app g 216 1 1
    rw [e2, e3, e4]
    show [.inr (11, zf_X11 g 1)] ++ cq0 g 1 217 = _
    rw [show [.inr (11, zf_X11 g 1)] = cq0 g 0 1 from cs rfl rfl]
    exact cq0_app g 1 217 0
  rw [e1] at h
  have e5 : fd_ww g.1 (cq0 g 0 218) = fd_ws g fd_M0 := by
    apply List.ext_getElem?
    intro k
    by_cases hk : k < 218
    · rw [fd_ww_at (cq0_at g 218 0 k hk), fd_ws_at hk, Nat.zero_add]
    · rw [List.getElem?_eq_none (by simp [fd_ww, cq0_len]; omega), List.getElem?_eq_none (by simp [fd_ws, fd_N]; omega)]
  have := h.1
  rw [e5] at this
  exact this
