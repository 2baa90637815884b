/-! the cells, in the order in which they are made: what each is: (0 an object, its class, number of fields, what each field holds: 0 an int, 1 the one reference that changes, c + 2 the cell c), (1 an array of ints in the wide sense, its type, size), (2 longs), (3 references, and to which cells) -/
def fd_tab0 : List (Nat × Nat × Nat × List Nat) := [(0, 11, 13, [3, 5, 7, 32, 33, 37, 44, 47, 50, 96, 99, 158, 0]), (0, 7, 4, [4, 0, 0, 0]), (1, 3, 80, []), (0, 4, 2, [6, 0]), (2, 4, 16, []), (0, 3, 10, [0, 0, 8, 9, 10, 11, 12, 22, 0, 0]), (1, 0, 9, []), (1, 0, 24, []), (1, 0, 24, []), (1, 0, 24, []), (3, 5, 9, [11, 12, 13, 14, 15, 16, 17, 18, 19]), (1, 0, 9, []), (1, 0, 9, []), (1, 0, 9, []), (1, 0, 9, []), (1, 0, 9, []), (1, 0, 9, []), (1, 0, 9, []), (1, 0, 9, []), (1, 0, 9, []), (3, 5, 9, [21, 22, 23, 24, 25, 26, 27, 28, 29]), (1, 0, 9, []), (1, 0, 9, []), (1, 0, 9, []), (1, 0, 9, []), (1, 0, 9, []), (1, 0, 9, []), (1, 0, 9, []), (1, 0, 9, []), (1, 0, 9, []), (0, 8, 4, [0, 0, 0, 0]), (0, 1, 5, [0, 0, 34, 35, 36]), (1, 0, 8, []), (1, 0, 8, []), (1, 0, 8, []), (0, 2, 11, [38, 0, 39, 0, 40, 0, 0, 41, 0, 42, 43]), (1, 0, 40, []), (1, 0, 40, []), (1, 0, 40, []), (1, 2, 5, [])]
def fd_tab1 : List (Nat × Nat × Nat × List Nat) := [(1, 0, 40, []), (1, 0, 6, []), (0, 10, 10, [0, 0, 0, 0, 0, 0, 0, 0, 45, 46]), (1, 0, 8, []), (1, 0, 8, []), (0, 10, 10, [0, 0, 0, 0, 0, 0, 0, 0, 48, 49]), (1, 0, 8, []), (1, 0, 8, []), (0, 5, 5, [51, 0, 0, 52, 53]), (3, 6, 12, [52, 55, 58, 61, 64, 67, 70, 73, 76, 79, 82, 85]), (3, 6, 2, [88, 91]), (1, 2, 2, []), (0, 10, 10, [0, 0, 0, 0, 0, 0, 0, 0, 55, 56]), (1, 0, 8, []), (1, 0, 8, []), (0, 10, 10, [0, 0, 0, 0, 0, 0, 0, 0, 58, 59]), (1, 0, 8, []), (1, 0, 8, []), (0, 10, 10, [0, 0, 0, 0, 0, 0, 0, 0, 61, 62]), (1, 0, 8, []), (1, 0, 8, []), (0, 10, 10, [0, 0, 0, 0, 0, 0, 0, 0, 64, 65]), (1, 0, 8, []), (1, 0, 8, []), (0, 10, 10, [0, 0, 0, 0, 0, 0, 0, 0, 67, 68]), (1, 0, 8, []), (1, 0, 8, []), (0, 10, 10, [0, 0, 0, 0, 0, 0, 0, 0, 70, 71]), (1, 0, 8, []), (1, 0, 8, []), (0, 10, 10, [0, 0, 0, 0, 0, 0, 0, 0, 73, 74]), (1, 0, 8, []), (1, 0, 8, []), (0, 10, 10, [0, 0, 0, 0, 0, 0, 0, 0, 76, 77]), (1, 0, 8, []), (1, 0, 8, []), (0, 10, 10, [0, 0, 0, 0, 0, 0, 0, 0, 79, 80]), (1, 0, 8, []), (1, 0, 8, []), (0, 10, 10, [0, 0, 0, 0, 0, 0, 0, 0, 82, 83])]
def fd_tab2 : List (Nat × Nat × Nat × List Nat) := [(1, 0, 8, []), (1, 0, 8, []), (0, 10, 10, [0, 0, 0, 0, 0, 0, 0, 0, 85, 86]), (1, 0, 8, []), (1, 0, 8, []), (0, 10, 10, [0, 0, 0, 0, 0, 0, 0, 0, 88, 89]), (1, 0, 8, []), (1, 0, 8, []), (0, 10, 10, [0, 0, 0, 0, 0, 0, 0, 0, 91, 92]), (1, 0, 8, []), (1, 0, 8, []), (0, 10, 10, [0, 0, 0, 0, 0, 0, 0, 0, 94, 95]), (1, 0, 8, []), (1, 0, 8, []), (0, 0, 2, [97, 98]), (1, 0, 60, []), (1, 0, 60, []), (0, 6, 13, [0, 0, 0, 0, 100, 113, 126, 140, 154, 155, 156, 157, 0]), (3, 5, 12, [99, 100, 101, 102, 103, 104, 105, 106, 107, 108, 109, 110]), (1, 0, 9, []), (1, 0, 9, []), (1, 0, 9, []), (1, 0, 9, []), (1, 0, 9, []), (1, 0, 9, []), (1, 0, 9, []), (1, 0, 9, []), (1, 0, 9, []), (1, 0, 9, []), (1, 0, 9, []), (1, 0, 9, []), (3, 5, 12, [112, 113, 114, 115, 116, 117, 118, 119, 120, 121, 122, 123]), (1, 0, 9, []), (1, 0, 9, []), (1, 0, 9, []), (1, 0, 9, []), (1, 0, 9, []), (1, 0, 9, []), (1, 0, 9, []), (1, 0, 9, [])]
def fd_tab3 : List (Nat × Nat × Nat × List Nat) := [(1, 0, 9, []), (1, 0, 9, []), (1, 0, 9, []), (1, 0, 9, []), (3, 5, 13, [125, 126, 127, 128, 129, 130, 131, 132, 133, 134, 135, 136, 137]), (1, 0, 256, []), (1, 0, 256, []), (1, 0, 256, []), (1, 0, 256, []), (1, 0, 256, []), (1, 0, 256, []), (1, 0, 256, []), (1, 0, 256, []), (1, 0, 256, []), (1, 0, 256, []), (1, 0, 256, []), (1, 0, 256, []), (1, 0, 256, []), (3, 5, 13, [139, 140, 141, 142, 143, 144, 145, 146, 147, 148, 149, 150, 151]), (1, 0, 256, []), (1, 0, 256, []), (1, 0, 256, []), (1, 0, 256, []), (1, 0, 256, []), (1, 0, 256, []), (1, 0, 256, []), (1, 0, 256, []), (1, 0, 256, []), (1, 0, 256, []), (1, 0, 256, []), (1, 0, 256, []), (1, 0, 256, []), (1, 0, 256, []), (1, 2, 256, []), (1, 0, 12, []), (1, 0, 13, []), (0, 9, 9, [0, 159, 169, 170, 171, 172, 173, 174, 175]), (3, 5, 9, [158, 159, 160, 161, 162, 163, 164, 165, 166]), (1, 0, 12, []), (1, 0, 12, [])]
def fd_tab4 : List (Nat × Nat × Nat × List Nat) := [(1, 0, 12, []), (1, 0, 12, []), (1, 0, 12, []), (1, 0, 12, []), (1, 0, 12, []), (1, 0, 12, []), (1, 0, 12, []), (1, 0, 9, []), (1, 0, 8, []), (1, 0, 13, []), (1, 0, 13, []), (1, 2, 8, []), (1, 0, 8, []), (3, 5, 8, [174, 175, 176, 177, 178, 179, 180, 181]), (1, 0, 8, []), (1, 0, 8, []), (1, 0, 8, []), (1, 0, 8, []), (1, 0, 8, []), (1, 0, 8, []), (1, 0, 8, []), (1, 0, 8, []), (0, 12, 62, [185, 0, 186, 0, 187, 0, 188, 189, 190, 0, 0, 0, 0, 191, 0, 192, 0, 0, 1, 0, 0, 0, 0, 193, 194, 0, 0, 195, 196, 197, 0, 0, 198, 199, 0, 200, 0, 0, 0, 0, 0, 201, 202, 203, 204, 205, 206, 0, 207, 208, 209, 210, 211, 0, 212, 213, 214, 215, 0, 216, 217, 218]), (1, 0, 23, []), (1, 0, 9, []), (1, 0, 81, []), (1, 0, 8, []), (1, 0, 8, []), (1, 0, 8, []), (1, 1, 80, []), (2, 4, 20, []), (1, 0, 9, []), (1, 0, 72, []), (1, 0, 81, []), (1, 0, 40, []), (1, 1, 40, []), (1, 0, 6, []), (1, 0, 276, []), (1, 0, 23, []), (1, 0, 160, [])]
def fd_tab5 : List (Nat × Nat × Nat × List Nat) := [(1, 0, 13, []), (1, 0, 25344, []), (1, 0, 8, []), (1, 0, 8, []), (1, 0, 10, []), (1, 2, 2304, []), (1, 2, 2304, []), (1, 1, 96, []), (1, 0, 9, []), (1, 0, 8, []), (1, 1, 12, []), (1, 0, 169, []), (1, 0, 8, []), (1, 0, 23, []), (1, 0, 46, []), (1, 2, 2, []), (1, 0, 2, []), (2, 4, 1, [])]
def fd_sh (k : Nat) : Nat × Nat × Nat × List Nat := if k < 40 then (fd_tab0).getD (k - 0) (9, 0, 0, []) else if k < 80 then (fd_tab1).getD (k - 40) (9, 0, 0, []) else if k < 120 then (fd_tab2).getD (k - 80) (9, 0, 0, []) else if k < 160 then (fd_tab3).getD (k - 120) (9, 0, 0, []) else if k < 200 then (fd_tab4).getD (k - 160) (9, 0, 0, []) else if k < 240 then (fd_tab5).getD (k - 200) (9, 0, 0, []) else (9, 0, 0, [])
def fd_N : Nat := 218
abbrev o_TEXT : Nat := 1
abbrev o_ROW : Nat := 3
abbrev o_LAND : Nat := 5
abbrev o_SKY : Nat := 30
abbrev o_FAIRS : Nat := 31
abbrev o_FATIGUE : Nat := 35
abbrev o_STORY : Nat := 42
abbrev o_SPARE : Nat := 45
abbrev o_PAST : Nat := 48
abbrev o_ACTS : Nat := 94
abbrev o_ROUNDS : Nat := 97
abbrev o_SONGS : Nat := 156
abbrev o_FIDDLE : Nat := 0
abbrev o_MODEL : Nat := 182
abbrev o_OUT : Nat := 217
/-! ===== THE FOUNDATION: one memory for all cells; what an expression, a condition, a statement of the bytecode does to it, as functions; each instruction once ===== -/
def fd_TB : List Cond := lw_tbl.filter goodWord
theorem fd_tb {w : Cond} (h : w ∈ lw_tbl) (h2 : goodWord w = true) : w ∈ fd_TB := List.mem_filter.mpr ⟨h, h2⟩
theorem fd_tbi {w : Cond} (i : Nat) (h : lw_tbl[i]? = some w) (h2 : goodWord w = true) : w ∈ fd_TB := fd_tb (List.mem_of_getElem? h) h2
abbrev fd_M : Type := (Nat → Nat → Int32) × (Nat → Nat → Int64)
abbrev fd_S : Type := List Value × fd_M
/-- where the cells begin; the classes of arrays; the classes; the heap as it was at first; a String constant's cell, its signs' cell -/
abbrev fd_G : Type := Nat × (Nat → ClassId) × va_G × Heap × Nat × Nat
abbrev fd_jk : Value := .retAddr 0
def fd_re (b : Nat) : Value → Value
  | .ref k => .ref (b + k)
  | .retAddr (k + 1) => .ref k
  | v => v
theorem fd_re_cat (b : Nat) (v : Value) : (fd_re b v).category = v.category := by
  cases v with
  | retAddr k => cases k <;> rfl
  | _ => rfl
def fd_uI (M : fd_M) (k j : Nat) (x : Int32) : fd_M := (fun a i => if a = k then (if i = j then x else M.1 k i) else M.1 a i, M.2)
def fd_uL (M : fd_M) (k j : Nat) (x : Int64) : fd_M := (M.1, fun a i => if a = k then (if i = j then x else M.2 k i) else M.2 a i)
/-- what a field holds: an int; the one reference that changes; a reference that stays -/
def fd_fv (b : Nat) (x : Int32) : Nat → Value
  | 0 => .int x
  | 1 => if x = 0 then .null else .ref (b + (x.toNatClampNeg - 1))
  | c + 2 => .ref (b + c)
def fd_ce (g : fd_G) (M : fd_M) (k : Nat) : va_E :=
  if (fd_sh k).1 = 0 then .inr ((fd_sh k).2.1, (fd_sh k).2.2.2.mapIdx fun j c => fd_fv g.1 (M.1 k j) c)
  else if (fd_sh k).1 = 1 then .inl (g.2.1 (fd_sh k).2.1, (fd_sh k).2.2.1, .inl (M.1 k))
  else if (fd_sh k).1 = 2 then .inl (g.2.1 (fd_sh k).2.1, (fd_sh k).2.2.1, .inr (.inl (M.2 k)))
  else .inl (g.2.1 (fd_sh k).2.1, (fd_sh k).2.2.1, .inr (.inr (.inr (.inr fun j => ((fd_sh k).2.2.2[j]?).map (g.1 + ·)))))
def fd_ws (g : fd_G) (M : fd_M) : va_W := (List.range fd_N).map fun k => (g.1 + k, fd_ce g M k)
theorem fd_ws_at {g : fd_G} {M : fd_M} {k : Nat} (h : k < fd_N) : (fd_ws g M)[k]? = some (g.1 + k, fd_ce g M k) := by
  simp [fd_ws, h]
theorem fd_ws_of {g : fd_G} {M : fd_M} {k : Nat} {q : Nat × va_E} (h : (fd_ws g M)[k]? = some q) : k < fd_N ∧ q = (g.1 + k, fd_ce g M k) := by
  simp only [fd_ws, List.getElem?_map, Option.map_eq_some_iff] at h
  obtain ⟨a, ha, hq⟩ := h
  have h1 := (List.getElem?_eq_some_iff.mp ha)
  obtain ⟨h2, h3⟩ := h1
  rw [List.getElem_range] at h3
  subst h3
  exact ⟨by simpa using h2, hq.symm⟩
theorem fd_ws_set {g : fd_G} {M M' : fd_M} {k : Nat} {e : va_E} (he : fd_ce g M' k = e) (ho : ∀ j, j ≠ k → fd_ce g M' j = fd_ce g M j) : (fd_ws g M).set k (g.1 + k, e) = fd_ws g M' := by
  apply List.ext_getElem?
  intro i
  rw [List.getElem?_set]
  by_cases hk : k = i
  · subst hk
    by_cases hl : k < fd_N
    · simp [fd_ws, hl, he]
    · simp [fd_ws, hl]
  · rw [if_neg hk]
    by_cases hl : i < fd_N
    · rw [fd_ws_at hl, fd_ws_at hl, ho i (Ne.symm hk)]
    · simp [fd_ws, hl]
def fd_tys (g : fd_G) : List (ClassId × FieldType) := [(g.2.1 0, .int), (g.2.1 1, .byte), (g.2.1 2, .boolean), (g.2.1 3, .char), (g.2.1 4, .long), (g.2.1 5, .array .int), (g.2.1 6, .object RX10)]
def fd_cl : List vw_C := [(RX0, TX0, 2), (RX1, TX1, 5), (RX2, TX2, 11), (RX3, TX3, 10), (RX4, TX4, 2), (RX5, TX5, 5), (RX6, TX6, 13), (RX7, TX7, 4), (RX8, TX8, 4), (RX9, TX9, 9), (RX10, TX10, 10), (RX11, TX11, 13), (RX12, TX12, 62)]
def fd_A (g : fd_G) : Nat → Prop := fun q => g.1 ≤ q
theorem fd_D_ok (g : fd_G) (M : fd_M) : va_D (fd_A g) (fd_ws g M) := by
  refine ⟨fun i j p q hi hj h => ?_, fun k q hk => ?_⟩
  · obtain ⟨-, rfl⟩ := fd_ws_of hi
    obtain ⟨-, rfl⟩ := fd_ws_of hj
    exact Nat.add_left_cancel h
  · obtain ⟨-, rfl⟩ := fd_ws_of hk
    exact Nat.le_add_right _ _
def fd_Wd (g : fd_G) (M : fd_M) (H : Heap) : Prop := va_P g.2.2.1 fd_cl (fd_ws g M) H
def fd_isN : Cond → Bool
  | .fieldLinkNest _ _ _ _ _ _ => true
  | .methodLinkNest _ _ _ _ => true
  | .castable _ _ => true
  | .declares _ => true
  | _ => false
/-- the words of nest mates, which are kept from state to state one by one -/
def fd_NW : List Cond := tables_1.filter fd_isN
theorem fd_nwi {w : Cond} (i : Nat) (h : tables_1[i]? = some w) (h2 : fd_isN w = true) : w ∈ fd_NW := List.mem_filter.mpr ⟨List.mem_of_getElem? h, h2⟩
/-- what stays of the JDK's: the String constant, statics -/
def fd_Sp (g : fd_G) (U : State) : Prop := vk_R RX2 95 "mtfdns" g.2.2.2.2.1 U ∧ vk_S 1 [6] [[109, 116, 102, 100, 110, 115]] (fun _ => g.2.2.2.2.1) (fun _ => g.2.2.2.2.2) (fd_A g) U g.2.2.2.1 ∧ va_Z "java/lang/String" "COMPACT_STRINGS" "Z" (.int 1) (fd_A g) U g.2.2.2.1 ∧ va_Zq "jdk/internal/util/Preconditions" "SIOOBE_FORMATTER" "Ljava/util/function/BiFunction;" (fd_A g) U g.2.2.2.1 ∧ vx_Zq Bundle.tN "UNASSIGNED_STACK" Bundle.steD (fd_A g) U g.2.2.2.1 ∧ vx_Zq Bundle.tN "SUPPRESSED_SENTINEL" Bundle.listD (fd_A g) U g.2.2.2.1
def fd_K (g : fd_G) (U : State) : Prop := va_K g.2.2.1 fd_cl (fd_tys g) U ∧ (∀ w ∈ fd_NW, va_Nw w U) ∧ (∀ q : Nat, q < g.1 → U.heap[q]? = g.2.2.2.1[q]?) ∧ fd_Sp g U
theorem fd_K.warm {g : fd_G} {s U : State} (hW : s.WarmedH U.vm) (ho : ∀ q : Nat, q < g.1 → U.heap[q]? = g.2.2.2.1[q]?) (h : fd_K g s) : fd_K g U := ⟨va_K.moved hW.alike h.1, fun w hw => by
  have h1 := h.2.1 w hw
  have h2 := (List.mem_filter.mp hw).2
  cases w with
  | fieldLinkNest => exact va_Nw.warmF hW h1
  | methodLinkNest => exact va_Nw.warmM hW h1
  | castable => exact va_Nw.warmC hW h1
  | declares => exact va_Nw.warmD hW h1
  | _ => exact absurd h2 (by simp [fd_isN]), ho, h.2.2.2.1.warm hW, vk_S.moved hW.alike h.2.2.2.2.1, va_Z.moved hW.alike h.2.2.2.2.2.1, va_Zq.moved hW.alike h.2.2.2.2.2.2.1, vx_Zq.moved hW.alike h.2.2.2.2.2.2.2.1, vx_Zq.moved hW.alike h.2.2.2.2.2.2.2.2⟩
theorem fd_K.same {g : fd_G} {u U : State} (hv : u.vm = U.vm) (hh : u.heap = U.heap) (h : fd_K g u) : fd_K g U :=
  have al : u.vm.Alike U.vm := by rw [← hv]; exact Vm.Alike.refl u.vm
  ⟨va_K.moved al h.1, fun w hw => by
  have h1 := h.2.1 w hw
  have h2 := (List.mem_filter.mp hw).2
  cases w with
  | fieldLinkNest => exact va_Nw.same rfl hv h1
  | methodLinkNest => exact va_Nw.same rfl hv h1
  | castable => exact va_Nw.same rfl hv h1
  | declares => exact va_Nw.same rfl hv h1
  | _ => exact absurd h2 (by simp [fd_isN]), fun q hq => by rw [← hh]; exact h.2.2.1 q hq, h.2.2.2.1.same hv.symm, vk_S.moved al h.2.2.2.2.1, va_Z.moved al h.2.2.2.2.2.1, va_Zq.moved al h.2.2.2.2.2.2.1, vx_Zq.moved al h.2.2.2.2.2.2.2.1, vx_Zq.moved al h.2.2.2.2.2.2.2.2⟩
theorem fd_old {g : fd_G} {s : State} {H : Heap} {locs : List Loc} (hS : va_S (fd_A g) s.heap H locs) (hbs : g.1 ≤ s.heap.size) (hK : fd_K g s) : ∀ q : Nat, q < g.1 → H[q]? = g.2.2.2.1[q]? := fun q hq => by
  rw [hS.2.1 q (Nat.lt_of_lt_of_le hq hbs) (Nat.not_le.mpr hq)]
  exact hK.2.2.1 q hq
theorem fd_places {big ws : List Cond} (ps : List Nat) (h : ws.map some = ps.map (fun i => big[i]?)) (hg : ws.all goodWord = true) : ∀ w ∈ ws, w ∈ big.filter goodWord := by
  intro w hw
  have h1 : some w ∈ ps.map (fun i => big[i]?) := by rw [← h]; exact List.mem_map.mpr ⟨w, hw, rfl⟩
  obtain ⟨i, -, hi⟩ := List.mem_map.mp h1
  exact List.mem_filter.mpr ⟨List.mem_of_getElem? hi, List.all_eq_true.mp hg w hw⟩
/-! locals -/
def fd_lr (b n : Nat) (L : List Value) (ls : Array Slot) : Prop := ls.size = n ∧ lv_wf ls ∧ ∀ (i : Nat) (v : Value), L[i]? = some v → v ≠ fd_jk → ls[i]? = some (.val (fd_re b v))
def fd_al (b : Nat) (L : List Value) : List (Nat × Value) := (List.range L.length).filterMap fun j => match L[j]? with
  | some v => if v = fd_jk then none else some (j, fd_re b v)
  | none => none
theorem fd_al_in {b : Nat} {L : List Value} {j : Nat} {v : Value} (h : L[j]? = some v) (hv : v ≠ fd_jk) : (j, fd_re b v) ∈ fd_al b L := by
  refine List.mem_filterMap.mpr ⟨j, List.mem_range.mpr (List.getElem?_eq_some_iff.mp h).1, ?_⟩
  rw [h]
  exact if_neg hv
theorem fd_al_of {b : Nat} {L : List Value} {q : Nat × Value} (h : q ∈ fd_al b L) : ∃ v, L[q.1]? = some v ∧ v ≠ fd_jk ∧ q.2 = fd_re b v := by
  obtain ⟨j, -, hj⟩ := List.mem_filterMap.mp h
  cases hL : L[j]? with
  | none => rw [hL] at hj; cases hj
  | some v =>
    rw [hL] at hj
    by_cases hv : v = fd_jk
    · simp [hv] at hj
    · simp only [if_neg hv, Option.some.injEq] at hj
      subst hj
      exact ⟨v, hL, hv, rfl⟩
theorem fd_lr.has {b n : Nat} {L : List Value} {ls : Array Slot} (h : fd_lr b n L ls) : lv_has ls n (fd_al b L) := ⟨h.1, h.2.1, fun q hq => by
  obtain ⟨v, h1, h2, h3⟩ := fd_al_of hq
  rw [h3]
  exact h.2.2 q.1 v h1 h2⟩
def fd_kl (L : List Value) : Nat → List Value
  | 0 => L
  | j + 1 => match L[j]? with
    | some (.long _) => L.set j fd_jk
    | some (.double _) => L.set j fd_jk
    | _ => L
def fd_st1 (L : List Value) (i : Nat) (v : Value) : List Value := (fd_kl L i).set i v
def fd_st2 (L : List Value) (i : Nat) (v : Value) : List Value := ((fd_kl L i).set (i + 1) fd_jk).set i v
theorem fd_kl_at {L : List Value} {i j : Nat} {v : Value} (h : (fd_kl L i)[j]? = some v) (hv : v ≠ fd_jk) : L[j]? = some v ∧ ¬ (j + 1 = i ∧ v.category = 2) := by
  cases i with
  | zero => exact ⟨h, fun q => by omega⟩
  | succ i =>
    by_cases hji : j = i
    · subst hji
      simp only [fd_kl] at h
      cases hL : L[j]? with
      | none => rw [hL] at h; simp [hL] at h
      | some w =>
        rw [hL] at h
        have hl := (List.getElem?_eq_some_iff.mp hL).1
        have one : L[j]? = some v → w.category ≠ 2 → L[j]? = some v ∧ ¬ (j + 1 = j + 1 ∧ v.category = 2) := fun h0 hc => by
          rw [hL] at h0
          cases h0
          exact ⟨hL, fun q => hc q.2⟩
        have two : (L.set j fd_jk)[j]? = some v → L[j]? = some v ∧ ¬ (j + 1 = j + 1 ∧ v.category = 2) := fun h0 => by
          rw [List.getElem?_set_self hl] at h0
          cases h0
          exact absurd rfl hv
        cases w with
        | long x => rw [← hL]; exact two h
        | double x => rw [← hL]; exact two h
        | int x => rw [← hL]; exact one h (by simp [Value.category])
        | float x => rw [← hL]; exact one h (by simp [Value.category])
        | null => rw [← hL]; exact one h (by simp [Value.category])
        | ref x => rw [← hL]; exact one h (by simp [Value.category])
        | retAddr x => rw [← hL]; exact one h (by simp [Value.category])
    · have h2 : L[j]? = some v := by
        simp only [fd_kl] at h
        split at h <;> first | exact h | (rw [List.getElem?_set_ne (Ne.symm hji)] at h; exact h)
      exact ⟨h2, fun q => by omega⟩
theorem fd_lr_of1 {b n i : Nat} {L : List Value} {v : Value} {ls' : Array Slot} (h' : lv_has ls' n ((i, fd_re b v) :: (fd_al b L).filter (fun q => !(q.1 == i) && !(q.1 + 1 == i && q.2.category == 2)))) : fd_lr b n (fd_st1 L i v) ls' := by
  refine ⟨h'.1, h'.2.1, fun j w hj hw => ?_⟩
  unfold fd_st1 at hj
  rw [List.getElem?_set] at hj
  by_cases hij : i = j
  · subst hij
    rw [if_pos rfl] at hj
    split at hj
    · cases hj
      exact h'.2.2 (i, fd_re b v) List.mem_cons_self
    · cases hj
  · rw [if_neg hij] at hj
    obtain ⟨h1, h2⟩ := fd_kl_at hj hw
    refine h'.2.2 (j, fd_re b w) (List.mem_cons_of_mem _ (List.mem_filter.mpr ⟨fd_al_in h1 hw, ?_⟩))
    have e1 : (j == i) = false := by simp [Ne.symm hij]
    simp only [e1, Bool.not_false, Bool.true_and, Bool.not_eq_true', Bool.and_eq_false_iff, beq_eq_false_iff_ne, fd_re_cat]
    by_cases hq : j + 1 = i
    · exact Or.inr (fun z => h2 ⟨hq, z⟩)
    · exact Or.inl hq
theorem fd_lr_of2 {b n i : Nat} {L : List Value} {v : Value} {ls' : Array Slot} (h' : lv_has ls' n ((i, fd_re b v) :: (fd_al b L).filter (fun q => !(q.1 == i) && (!(q.1 == i + 1) && !(q.1 + 1 == i && q.2.category == 2))))) : fd_lr b n (fd_st2 L i v) ls' := by
  refine ⟨h'.1, h'.2.1, fun j w hj hw => ?_⟩
  unfold fd_st2 at hj
  rw [List.getElem?_set] at hj
  by_cases hij : i = j
  · subst hij
    rw [if_pos rfl] at hj
    split at hj
    · cases hj
      exact h'.2.2 (i, fd_re b v) List.mem_cons_self
    · cases hj
  · rw [if_neg hij, List.getElem?_set] at hj
    by_cases hij2 : i + 1 = j
    · rw [if_pos hij2] at hj
      split at hj
      · cases hj
        exact absurd rfl hw
      · cases hj
    · rw [if_neg hij2] at hj
      obtain ⟨h1, h2⟩ := fd_kl_at hj hw
      refine h'.2.2 (j, fd_re b w) (List.mem_cons_of_mem _ (List.mem_filter.mpr ⟨fd_al_in h1 hw, ?_⟩))
      have e1 : (j == i) = false := by simp [Ne.symm hij]
      have e2 : (j == i + 1) = false := by simp [Ne.symm hij2]
      simp only [e1, e2, Bool.not_false, Bool.true_and, Bool.not_eq_true', Bool.and_eq_false_iff, beq_eq_false_iff_ne, fd_re_cat]
      by_cases hq : j + 1 = i
      · exact Or.inr (fun z => h2 ⟨hq, z⟩)
      · exact Or.inl hq
def fd_sl : List Value → List Value
  | [] => []
  | .long x :: r => .long x :: fd_jk :: fd_sl r
  | .double x :: r => .double x :: fd_jk :: fd_sl r
  | v :: r => v :: fd_sl r
def fd_in0 (n : Nat) (av : List Value) : List Value := fd_sl av ++ List.replicate (n - (fd_sl av).length) fd_jk
theorem fd_sl_in (b : Nat) : ∀ (av : List Value) (o j : Nat) (v : Value), (fd_sl av)[j]? = some v → v ≠ fd_jk → (o + j, fd_re b v) ∈ lv_args o (av.map (fd_re b)) := by
  intro av
  induction av with
  | nil => intro o j v h; simp [fd_sl] at h
  | cons a r ih =>
    have one : a.category ≠ 2 → fd_sl (a :: r) = a :: fd_sl r → ∀ (o j : Nat) (v : Value), (fd_sl (a :: r))[j]? = some v → v ≠ fd_jk → (o + j, fd_re b v) ∈ lv_args o ((a :: r).map (fd_re b)) := by
      intro hc he o j v h hv
      rw [he] at h
      show _ ∈ (o, fd_re b a) :: lv_args (if (fd_re b a).category = 2 then o + 2 else o + 1) (r.map (fd_re b))
      rw [fd_re_cat, if_neg hc]
      cases j with
      | zero => simp at h; subst h; exact List.mem_cons_self
      | succ j =>
        rw [List.getElem?_cons_succ] at h
        have := ih (o + 1) j v h hv
        rw [show o + (j + 1) = o + 1 + j by omega]
        exact List.mem_cons_of_mem _ this
    have two : a.category = 2 → fd_sl (a :: r) = a :: fd_jk :: fd_sl r → ∀ (o j : Nat) (v : Value), (fd_sl (a :: r))[j]? = some v → v ≠ fd_jk → (o + j, fd_re b v) ∈ lv_args o ((a :: r).map (fd_re b)) := by
      intro hc he o j v h hv
      rw [he] at h
      show _ ∈ (o, fd_re b a) :: lv_args (if (fd_re b a).category = 2 then o + 2 else o + 1) (r.map (fd_re b))
      rw [fd_re_cat, if_pos hc]
      match j, h with
      | 0, h => simp at h; subst h; exact List.mem_cons_self
      | 1, h => simp at h; exact absurd h.symm hv
      | j + 2, h =>
        rw [List.getElem?_cons_succ, List.getElem?_cons_succ] at h
        have := ih (o + 2) j v h hv
        rw [show o + (j + 2) = o + 2 + j by omega]
        exact List.mem_cons_of_mem _ this
    cases a with
    | long x => exact two rfl rfl
    | double x => exact two rfl rfl
    | _ => exact one (by simp [Value.category]) rfl
theorem fd_in0_ok (b n : Nat) (av : List Value) (h : (lg_sl (av.map (fd_re b))).length ≤ n) : fd_lr b n (fd_in0 n av) ((lg_sl (av.map (fd_re b)) ++ List.replicate (n - (lg_sl (av.map (fd_re b))).length) Slot.unset).toArray) := by
  have hl := lv_entry (av.map (fd_re b)) h
  refine ⟨hl.1, hl.2.1, fun i v hi hv => ?_⟩
  unfold fd_in0 at hi
  by_cases hl2 : i < (fd_sl av).length
  · rw [List.getElem?_append_left hl2] at hi
    have := fd_sl_in b av 0 i v hi hv
    rw [Nat.zero_add] at this
    exact hl.2.2 (i, fd_re b v) this
  · rw [List.getElem?_append_right (by omega), List.getElem?_replicate] at hi
    split at hi
    · cases hi; exact absurd rfl hv
    · cases hi
/-! the frame of a walk -/
abbrev fd_X : Type := fd_G × Program × Launch × Env × Room × State × MethodId × Array Value × List Frame × Method × Code × Nat × Nat
def fd_V (X : fd_X) (H : Heap) (locs : List Loc) (Q : State → Prop) (fr : JFrame) : Prop := match X with
  | (_, p, l, e, R, s, m, args, below, meth, c, cells, slots) => W p l e R s m args below meth c H locs cells slots Q fr
def fd_W (X : fd_X) (n : Nat) (Q : State → Prop) (pc : Nat) (st : List Value) (σ : fd_S) : Prop := match X with
  | (g, p, l, e, R, s, m, args, below, meth, c, cells, slots) => ∀ (H : Heap) (locs : List Loc) (ls : Array Slot), fd_Wd g σ.2 H → va_S (fd_A g) s.heap H locs → fd_lr g.1 n σ.1 ls → W p l e R s m args below meth c H locs cells slots Q (F0 m pc ls st)
/-- what a walk may use: the machine, the code, the words, the classes, the room for calls of height below d -/
def fd_F (X : fd_X) (cc : ByteArray) (own : String) (n : Nat) (rt : Option FieldType) (d : Nat) : Prop := match X with
  | (g, p, _, _, R, s, m, args, _, meth, c, cells, slots) => p.tables.exec = Jvm.exec ∧ c.code = cc ∧ c.maxLocals = n ∧ s.vm.findClass own = some m.cls ∧ (∀ w ∈ fd_TB, w.before args s = true) ∧ fd_K g s ∧ g.1 ≤ s.heap.size ∧ cells ≤ R.cells ∧ slots ≤ R.slots ∧ meth.sig.returnType = rt ∧ meth.locks = false ∧ d ≤ R.frames ∧ 64 * d ≤ R.locals
abbrev fd_b (X : fd_X) : Nat := X.1.1
abbrev fd_D (α : Type) : Type := fd_S → Option (α × fd_S)
abbrev fd_T : Type := fd_D (Nat × Value)
def fd_ct (st : List Value) : Nat := (st.map fun v => v.category).sum
def fd_Ev {α : Type} (X : fd_X) (n : Nat) (Q : State → Prop) (inj : α → Value) (k p q : Nat) (e : fd_D α) : Prop := ∀ (st : List Value) (σ σ' : fd_S) (v : α), fd_ct st ≤ k → e σ = some (v, σ') → fd_W X n Q q (inj v :: st) σ' → fd_W X n Q p st σ
def fd_Cj (X : fd_X) (n : Nat) (Q : State → Prop) (k p t f : Nat) (e : fd_D Bool) : Prop := ∀ (st : List Value) (σ σ' : fd_S) (v : Bool), fd_ct st ≤ k → e σ = some (v, σ') → fd_W X n Q (if v then t else f) st σ' → fd_W X n Q p st σ
def fd_Ex (X : fd_X) (n : Nat) (Q : State → Prop) (Rt : Value → fd_M → Prop) (q qb qc : Nat) (z : Nat) (v : Value) (σ : fd_S) : Prop := if z = 0 then fd_W X n Q q [] σ else if z = 1 then Rt v σ.2 else if z = 2 then fd_W X n Q qb [] σ else if z = 3 then fd_W X n Q qc [] σ else False
def fd_St (X : fd_X) (n : Nat) (Q : State → Prop) (Rt : Value → fd_M → Prop) (p q qb qc : Nat) (s : fd_T) : Prop := ∀ (σ σ' : fd_S) (z : Nat) (v : Value), s σ = some ((z, v), σ') → fd_Ex X n Q Rt q qb qc z v σ' → fd_W X n Q p [] σ
abbrev fd_i : Int32 → Value := Value.int
abbrev fd_l : Int64 → Value := Value.long
abbrev fd_r (b : Nat) : Nat → Value := fun k => .ref (b + k)
abbrev fd_n (b : Nat) : Option Nat → Value := fun k => va_rf (k.map (b + ·))
