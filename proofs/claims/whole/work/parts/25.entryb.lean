/-! ===== the law's entry: words of nest mates, the String constant, statics ===== -/
theorem en_NW {args : Array Value} {s : State} (hts : ∀ w ∈ lw_tbl, w.before args s = true) : ∀ w ∈ fd_NW, va_Nw w s := fun w hw => va_Nw.of (fd_isN_on (List.mem_filter.mp hw).2) (hts w (List.mem_append_right _ (List.mem_filter.mp hw).1))
theorem en_Sp {args : Array Value} {s : State} (hts : ∀ w ∈ lw_tbl, w.before args s = true) (hgv : (Jvm.Cond.and given_1 narrow_1).before args s = true) : ∃ q1 q2 : Nat, ∀ (ca : Nat → ClassId) (D : va_G), fd_Sp (s.heap.size, ca, D, s.heap, q1, q2) s := by
  have hs := flat_of_before _ hgv
  have w675 : Cond.stringRef RX2 95 "mtfdns" ∈ lw_tbl := List.mem_of_getElem? (i := 675) (by decide +kernel)
  have w685 : Cond.laysStatic "java/lang/String" "COMPACT_STRINGS" "Z" ∈ lw_tbl := List.mem_of_getElem? (i := 685) (by decide +kernel)
  have w117 : Cond.initialized "java/lang/String" ∈ lw_tbl := List.mem_of_getElem? (i := 117) (by decide +kernel)
  have w119 : Cond.initialized "jdk/internal/util/Preconditions" ∈ lw_tbl := List.mem_of_getElem? (i := 119) (by decide +kernel)
  have w121 : Cond.initialized Bundle.tN ∈ lw_tbl := List.mem_of_getElem? (i := 121) (by decide +kernel)
  have w693 : Cond.laysStatic "jdk/internal/util/Preconditions" "SIOOBE_FORMATTER" "Ljava/util/function/BiFunction;" ∈ lw_tbl := List.mem_of_getElem? (i := 693) (by decide +kernel)
  have w1344 : Cond.laysStatic Bundle.tN "UNASSIGNED_STACK" Bundle.steD ∈ lw_tbl := List.mem_of_getElem? (i := 1344) (by decide +kernel)
  have w1346 : Cond.laysStatic Bundle.tN "SUPPRESSED_SENTINEL" Bundle.listD ∈ lw_tbl := List.mem_of_getElem? (i := 1346) (by decide +kernel)
  have hA : ∀ a : Nat, a < s.heap.size → ¬ (s.heap.size ≤ a) := fun a h => Nat.not_le.mpr h
  obtain ⟨adK, adV, hS, hK⟩ := vk_Sof (N := 1) (tm := fun _ => .string "OneFiddle$Fatigue" 95) (len := [6]) (byt := [[109, 116, 102, 100, 110, 115]]) (A := fun q => s.heap.size ≤ q) (args := args) (s := s) (fun i hi => by rw [show i = 0 by omega]; decide) (fun i hi => hs _ (by decide +kernel)) (fun i hi => hs _ (by decide +kernel)) (fun i hi => hs _ (by decide +kernel)) (fun i hi => by rw [show i = 0 by omega]; exact hs _ (by decide +kernel)) (fun i hi j hj => by
    rw [show i = 0 by omega] at hj ⊢
    have hj6 : j < 6 := hj
    rcases (show j = 0 ∨ j = 1 ∨ j = 2 ∨ j = 3 ∨ j = 4 ∨ j = 5 by omega) with rfl | rfl | rfl | rfl | rfl | rfl <;> exact hs _ (by decide +kernel)) (fun i j hi hj h => absurd (show i = j by omega) h) hA
  refine ⟨adK 0, adV 0, fun ca D => ⟨vk_R.of (hts _ w675) (hK 0 (by omega)), ⟨fun i hi => ?_, fun i j hi hj _ => by omega⟩, ?_, ?_, ?_, ?_⟩⟩
  · have := hS.1 i hi
    rw [show i = 0 by omega] at this ⊢
    exact this
  · exact va_Zof (hts _ w685) (hts _ w117) (va_eqi (hs _ (by decide +kernel))) hA
  · exact va_Zqof (hts _ w693) (hts _ w119) (hs _ (by decide +kernel)) hA
  · exact vx_Zqof (hts _ w1344) (hts _ w121) (hs _ (by decide +kernel)) hA
  · exact vx_Zqof (hts _ w1346) (hts _ w121) (hs _ (by decide +kernel)) hA
