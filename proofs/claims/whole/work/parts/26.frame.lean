/-! ===== the law's own frame ===== -/
theorem en_F {p : Program} {l : Launch} {e : Env} {s : State} {m : MethodId} {below : List Frame} {meth : Method} {c : Code} {b : Nat} (hx : p.tables.exec = Jvm.exec) (hc : c.code = code) (hr : meth.sig.returnType = ret) (hml : c.maxLocals = 8) (hown : s.vm.findClass RL = some m.cls) (hts : ∀ w ∈ lw_tbl, w.before #[Value.ref b] s = true) (hlk : meth.locks = false) (hgv : (Jvm.Cond.and given_1 narrow_1).before #[Value.ref b] s = true) : ∃ g : fd_G, g.1 = s.heap.size ∧ g.2.2.2.1 = s.heap ∧ fd_F (g, p, l, e, room_1, s, m, #[Value.ref b], below, meth, c, 0, 0) code RL 8 ret 1312 ∧ fd_AO s := by
  have wo : Cond.arrayOver (.object RX10) ∈ lw_tbl := List.mem_of_getElem? (i := 358) (by decide +kernel)
  have wa : Cond.arrayOver (.array .int) ∈ lw_tbl := List.mem_of_getElem? (i := 177) (by decide +kernel)
  have htb : ∀ w ∈ fd_TB, w.before #[Value.ref b] s = true := fun w hw => hts w (List.mem_filter.mp hw).1
  obtain ⟨ca, D, hK⟩ := en_K htb (hts _ wo) (hts _ wa)
  obtain ⟨q1, q2, hSp⟩ := en_Sp hts hgv
  exact ⟨(s.heap.size, ca, D, s.heap, q1, q2), rfl, rfl, ⟨hx, hc, hml, hown, htb, ⟨hK _ _ _ _, en_NW hts, fun _ _ => rfl, hSp ca D⟩, Nat.le_refl _, Nat.zero_le _, Nat.zero_le _, hr, hlk, by decide, by decide⟩, va_AO.of (hts _ wo), va_AOA.of (hts _ wa)⟩
