/-! ===== the words of the start, among the tables ===== -/
theorem inTs {ws : List Cond} (ps : List (Nat × Nat)) (hp : ws = ps.filterMap (fun q => (tbl q.1)[q.2]?)) : ∀ w ∈ ws, w ∈ lw_tbl := by
  intro w hw
  rw [hp] at hw
  obtain ⟨q, -, hi⟩ := List.mem_filterMap.mp hw
  exact tbl_in q.1 w (List.mem_of_getElem? hi)
theorem iw_X0 : ∀ w ∈ wsX00, w ∈ lw_tbl := inTs [(1, 108), (1, 110)] (by decide +kernel)
theorem it_X0 : Cond.instantiable RX0 2 ∈ lw_tbl := inT 1 99 (by decide +kernel)
theorem iw_X1 : ∀ w ∈ wsX10, w ∈ lw_tbl := inTs [(1, 142), (1, 144), (1, 146)] (by decide +kernel)
theorem it_X1 : Cond.instantiable RX1 3 ∈ lw_tbl := inT 1 132 (by decide +kernel)
theorem iw_X2 : ∀ w ∈ wsX20, w ∈ lw_tbl := inTs [(1, 89), (1, 91), (1, 93)] (by decide +kernel)
theorem it_X2 : Cond.instantiable RX2 3 ∈ lw_tbl := inT 1 79 (by decide +kernel)
theorem iw_X3 : ∀ w ∈ wsX30, w ∈ lw_tbl := inTs [(1, 42)] (by decide +kernel)
theorem it_X3 : Cond.instantiable RX3 1 ∈ lw_tbl := inT 1 33 (by decide +kernel)
theorem iw_X4 : ∀ w ∈ wsX40, w ∈ lw_tbl := inTs [(1, 73), (1, 75)] (by decide +kernel)
theorem it_X4 : Cond.instantiable RX4 2 ∈ lw_tbl := inT 1 64 (by decide +kernel)
theorem iw_X5 : ∀ w ∈ wsX50, w ∈ lw_tbl := inTs [(1, 56), (1, 58), (1, 60)] (by decide +kernel)
theorem it_X5 : Cond.instantiable RX5 3 ∈ lw_tbl := inT 1 27 (by decide +kernel)
theorem iw_X6 : ∀ w ∈ wsX60, w ∈ lw_tbl := inTs [(1, 124), (1, 126), (1, 128)] (by decide +kernel)
theorem it_X6 : Cond.instantiable RX6 3 ∈ lw_tbl := inT 1 114 (by decide +kernel)
theorem iw_X7 : ∀ w ∈ wsX70, w ∈ lw_tbl := inTs [(1, 157), (1, 159), (1, 161), (1, 163), (1, 165), (1, 167), (1, 169), (1, 171)] (by decide +kernel)
theorem it_X7 : Cond.instantiable RX7 8 ∈ lw_tbl := inT 1 19 (by decide +kernel)
theorem cl_X7 : Cond.classLink RL 9 RX7 ∈ lw_tbl := inT 1 18 (by decide +kernel)
theorem ini_X7 : Cond.initialized RX7 ∈ lw_tbl := inT 1 1 (by decide +kernel)
theorem ml_X7 : Cond.methodLink RL 115 yX7_init ∈ lw_tbl := inT 1 20 (by decide +kernel)
theorem im_X7 : Cond.instanceMethod yX7_init ∈ lw_tbl := inT 1 21 (by decide +kernel)
theorem ac_I : Cond.arrayClass .int ∈ lw_tbl := inT 1 45 (by decide +kernel)
theorem nf_in : ∀ w ∈ nestF.map (fun q => Cond.fieldLinkNest q.1 q.2.1 q.2.2.1 q.2.2.2.1 q.2.2.2.2.1 q.2.2.2.2.2), w ∈ lw_tbl := inTs [(1, 48), (1, 54), (1, 52), (1, 49), (1, 47), (1, 53), (1, 50)] (by decide +kernel)
theorem nm_in : ∀ w ∈ nestM.map (fun q => Cond.methodLinkNest q.1 q.2.1 q.2.2.1 q.2.2.2), w ∈ lw_tbl := inTs [(1, 28), (1, 65), (1, 80), (3, 13), (3, 15), (3, 16), (3, 101), (3, 98), (3, 99), (2, 133), (2, 109), (2, 91), (3, 146), (3, 145), (3, 147)] (by decide +kernel)
