/-! the facts of the tables, one by one: by program -/
theorem gm_uw {C : String} {T : u_T} {N : Nat} (ps : List Nat) (h : ∀ k, k < N → lw_tbl[ps.getD k 0]? = some (u_lay C T k)) : ∀ w ∈ u_ws C T N, w ∈ gm_big := by
  intro w hw
  obtain ⟨k, hk, rfl⟩ := List.mem_map.mp hw
  refine gm_in (h k (List.mem_range.mp hk)) ?_
  unfold u_lay
  split <;> rfl
abbrev mX10_init : gm_M := (yX10_init, (cX10_init, (1, (none, []))))
theorem mt_X10_init : gm_mt mX10_init 0 := ⟨rfl, gm_in (i := 133) (by decide +kernel) (by decide +kernel), gm_in (i := 78) (by decide +kernel) (by decide +kernel), ⟨by decide, by decide⟩, by decide +kernel, by decide⟩
theorem mi_X10_init : Cond.instanceMethod mX10_init.1 ∈ gm_big ∧ mX10_init.1.name = "<init>" ∧ mX10_init.2.2.2.1 = none := ⟨gm_in (i := 132) (by decide +kernel) (by decide +kernel), rfl, rfl⟩
abbrev mX9_init : gm_M := (yX9_init, (cX9_init, (1, (none, []))))
theorem mt_X9_init : gm_mt mX9_init 0 := ⟨rfl, gm_in (i := 141) (by decide +kernel) (by decide +kernel), gm_in (i := 79) (by decide +kernel) (by decide +kernel), ⟨by decide, by decide⟩, by decide +kernel, by decide⟩
theorem mi_X9_init : Cond.instanceMethod mX9_init.1 ∈ gm_big ∧ mX9_init.1.name = "<init>" ∧ mX9_init.2.2.2.1 = none := ⟨gm_in (i := 140) (by decide +kernel) (by decide +kernel), rfl, rfl⟩
abbrev mX3_init : gm_M := (yX3_init, (cX3_init, (1, (none, []))))
theorem mt_X3_init : gm_mt mX3_init 0 := ⟨rfl, gm_in (i := 147) (by decide +kernel) (by decide +kernel), gm_in (i := 80) (by decide +kernel) (by decide +kernel), ⟨by decide, by decide⟩, by decide +kernel, by decide⟩
theorem mi_X3_init : Cond.instanceMethod mX3_init.1 ∈ gm_big ∧ mX3_init.1.name = "<init>" ∧ mX3_init.2.2.2.1 = none := ⟨gm_in (i := 146) (by decide +kernel) (by decide +kernel), rfl, rfl⟩
abbrev mX5_init : gm_M := (yX5_init, (cX5_init, (1, (none, []))))
theorem mt_X5_init : gm_mt mX5_init 0 := ⟨rfl, gm_in (i := 176) (by decide +kernel) (by decide +kernel), gm_in (i := 81) (by decide +kernel) (by decide +kernel), ⟨by decide, by decide⟩, by decide +kernel, by decide⟩
theorem mi_X5_init : Cond.instanceMethod mX5_init.1 ∈ gm_big ∧ mX5_init.1.name = "<init>" ∧ mX5_init.2.2.2.1 = none := ⟨gm_in (i := 175) (by decide +kernel) (by decide +kernel), rfl, rfl⟩
abbrev mX2_init : gm_M := (yX2_init, (cX2_init, (2, (none, []))))
theorem mt_X2_init : gm_mt mX2_init 0 := ⟨rfl, gm_in (i := 233) (by decide +kernel) (by decide +kernel), gm_in (i := 82) (by decide +kernel) (by decide +kernel), ⟨by decide, by decide⟩, by decide +kernel, by decide⟩
theorem mi_X2_init : Cond.instanceMethod mX2_init.1 ∈ gm_big ∧ mX2_init.1.name = "<init>" ∧ mX2_init.2.2.2.1 = none := ⟨gm_in (i := 232) (by decide +kernel) (by decide +kernel), rfl, rfl⟩
abbrev mX6_init : gm_M := (yX6_init, (cX6_init, (1, (none, []))))
theorem mt_X6_init : gm_mt mX6_init 0 := ⟨rfl, gm_in (i := 253) (by decide +kernel) (by decide +kernel), gm_in (i := 83) (by decide +kernel) (by decide +kernel), ⟨by decide, by decide⟩, by decide +kernel, by decide⟩
theorem mi_X6_init : Cond.instanceMethod mX6_init.1 ∈ gm_big ∧ mX6_init.1.name = "<init>" ∧ mX6_init.2.2.2.1 = none := ⟨gm_in (i := 252) (by decide +kernel) (by decide +kernel), rfl, rfl⟩
abbrev mX4_init : gm_M := (yX4_init, (cX4_init, (1, (none, []))))
theorem mt_X4_init : gm_mt mX4_init 0 := ⟨rfl, gm_in (i := 266) (by decide +kernel) (by decide +kernel), gm_in (i := 84) (by decide +kernel) (by decide +kernel), ⟨by decide, by decide⟩, by decide +kernel, by decide⟩
theorem mi_X4_init : Cond.instanceMethod mX4_init.1 ∈ gm_big ∧ mX4_init.1.name = "<init>" ∧ mX4_init.2.2.2.1 = none := ⟨gm_in (i := 265) (by decide +kernel) (by decide +kernel), rfl, rfl⟩
abbrev mJ4_init_da8c8 : gm_M := (yJ4_init_da8c8, (cJ4_init_da8c8, (1, (none, []))))
theorem mt_J4_init_da8c8 : gm_mt mJ4_init_da8c8 0 := ⟨rfl, gm_in (i := 276) (by decide +kernel) (by decide +kernel), gm_in (i := 86) (by decide +kernel) (by decide +kernel), ⟨by decide, by decide⟩, by decide +kernel, by decide⟩
theorem mi_J4_init_da8c8 : Cond.instanceMethod mJ4_init_da8c8.1 ∈ gm_big ∧ mJ4_init_da8c8.1.name = "<init>" ∧ mJ4_init_da8c8.2.2.2.1 = none := ⟨gm_in (i := 275) (by decide +kernel) (by decide +kernel), rfl, rfl⟩
abbrev mJ5_init_d00df : gm_M := (yJ5_init_d00df, (cJ5_init_d00df, (2, (none, []))))
theorem mt_J5_init_d00df : gm_mt mJ5_init_d00df 1 := ⟨rfl, gm_in (i := 279) (by decide +kernel) (by decide +kernel), gm_in (i := 85) (by decide +kernel) (by decide +kernel), ⟨by decide, by decide⟩, by decide +kernel, by decide⟩
theorem mi_J5_init_d00df : Cond.instanceMethod mJ5_init_d00df.1 ∈ gm_big ∧ mJ5_init_d00df.1.name = "<init>" ∧ mJ5_init_d00df.2.2.2.1 = none := ⟨gm_in (i := 278) (by decide +kernel) (by decide +kernel), rfl, rfl⟩
abbrev mJ2_newBytesFor_77867 : gm_M := (yJ2_newBytesFor_77867, (cJ2_newBytesFor_77867, (1, ((some (.array .byte)), []))))
theorem mt_J2_newBytesFor_77867 : gm_mt mJ2_newBytesFor_77867 1 := ⟨rfl, gm_in (i := 285) (by decide +kernel) (by decide +kernel), gm_in (i := 88) (by decide +kernel) (by decide +kernel), ⟨by decide, by decide⟩, by decide +kernel, by decide⟩
theorem ms_J2_newBytesFor_77867 : Cond.static mJ2_newBytesFor_77867.1 ∈ gm_big := gm_in (i := 284) (by decide +kernel) (by decide +kernel)
abbrev mJ2_newBytesLength_0f7a4 : gm_M := (yJ2_newBytesLength_0f7a4, (cJ2_newBytesLength_0f7a4, (1, ((some .int), []))))
theorem mt_J2_newBytesLength_0f7a4 : gm_mt mJ2_newBytesLength_0f7a4 1 := ⟨rfl, gm_in (i := 288) (by decide +kernel) (by decide +kernel), gm_in (i := 88) (by decide +kernel) (by decide +kernel), ⟨by decide, by decide⟩, by decide +kernel, by decide⟩
theorem ms_J2_newBytesLength_0f7a4 : Cond.static mJ2_newBytesLength_0f7a4.1 ∈ gm_big := gm_in (i := 287) (by decide +kernel) (by decide +kernel)
abbrev mX7_init : gm_M := (yX7_init, (cX7_init, (1, (none, []))))
theorem mt_X7_init : gm_mt mX7_init 0 := ⟨rfl, gm_in (i := 309) (by decide +kernel) (by decide +kernel), gm_in (i := 89) (by decide +kernel) (by decide +kernel), ⟨by decide, by decide⟩, by decide +kernel, by decide⟩
theorem mi_X7_init : Cond.instanceMethod mX7_init.1 ∈ gm_big ∧ mX7_init.1.name = "<init>" ∧ mX7_init.2.2.2.1 = none := ⟨gm_in (i := 308) (by decide +kernel) (by decide +kernel), rfl, rfl⟩
abbrev mX10_tolerance : gm_M := (yX10_tolerance, (cX10_tolerance, (1, ((some .int), []))))
theorem mt_X10_tolerance : gm_mt mX10_tolerance 0 := ⟨rfl, gm_in (i := 374) (by decide +kernel) (by decide +kernel), gm_in (i := 78) (by decide +kernel) (by decide +kernel), ⟨by decide, by decide⟩, by decide +kernel, by decide⟩
theorem mv_X10_tolerance : gm_mv mX10_tolerance RX10 := ⟨gm_in (i := 372) (by decide +kernel) (by decide +kernel), gm_in (i := 373) (by decide +kernel) (by decide +kernel)⟩
abbrev mX10_leastDifference : gm_M := (yX10_leastDifference, (cX10_leastDifference, (1, ((some .int), []))))
theorem mt_X10_leastDifference : gm_mt mX10_leastDifference 0 := ⟨rfl, gm_in (i := 378) (by decide +kernel) (by decide +kernel), gm_in (i := 78) (by decide +kernel) (by decide +kernel), ⟨by decide, by decide⟩, by decide +kernel, by decide⟩
theorem mv_X10_leastDifference : gm_mv mX10_leastDifference RX10 := ⟨gm_in (i := 376) (by decide +kernel) (by decide +kernel), gm_in (i := 377) (by decide +kernel) (by decide +kernel)⟩
abbrev mX6_leastBySets : gm_M := (yX6_leastBySets, (cX6_leastBySets, (4, ((some .int), []))))
theorem mt_X6_leastBySets : gm_mt mX6_leastBySets 1 := ⟨rfl, gm_in (i := 382) (by decide +kernel) (by decide +kernel), gm_in (i := 83) (by decide +kernel) (by decide +kernel), ⟨by decide, by decide⟩, by decide +kernel, by decide⟩
theorem mv_X6_leastBySets : gm_mv mX6_leastBySets RX6 := ⟨gm_in (i := 381) (by decide +kernel) (by decide +kernel), gm_in (i := 0) (by decide +kernel) (by decide +kernel)⟩
abbrev mX3_goodSet : gm_M := (yX3_goodSet, (cX3_goodSet, (3, ((some .int), []))))
theorem mt_X3_goodSet : gm_mt mX3_goodSet 0 := ⟨rfl, gm_in (i := 386) (by decide +kernel) (by decide +kernel), gm_in (i := 80) (by decide +kernel) (by decide +kernel), ⟨by decide, by decide⟩, by decide +kernel, by decide⟩
theorem mv_X3_goodSet : gm_mv mX3_goodSet RX3 := ⟨gm_in (i := 385) (by decide +kernel) (by decide +kernel), gm_in (i := 1) (by decide +kernel) (by decide +kernel)⟩
abbrev mX3_isOut : gm_M := (yX3_isOut, (cX3_isOut, (2, ((some .boolean), []))))
theorem mt_X3_isOut : gm_mt mX3_isOut 1 := ⟨rfl, gm_in (i := 390) (by decide +kernel) (by decide +kernel), gm_in (i := 80) (by decide +kernel) (by decide +kernel), ⟨by decide, by decide⟩, by decide +kernel, by decide⟩
theorem mv_X3_isOut : gm_mv mX3_isOut RX3 := ⟨gm_in (i := 389) (by decide +kernel) (by decide +kernel), gm_in (i := 2) (by decide +kernel) (by decide +kernel)⟩
abbrev mX10_holds : gm_M := (yX10_holds, (cX10_holds, (2, ((some .boolean), []))))
theorem mt_X10_holds : gm_mt mX10_holds 2 := ⟨rfl, gm_in (i := 393) (by decide +kernel) (by decide +kernel), gm_in (i := 78) (by decide +kernel) (by decide +kernel), ⟨by decide, by decide⟩, by decide +kernel, by decide⟩
theorem ms_X10_holds : Cond.static mX10_holds.1 ∈ gm_big := gm_in (i := 392) (by decide +kernel) (by decide +kernel)
abbrev mX3_isTooWide : gm_M := (yX3_isTooWide, (cX3_isTooWide, (3, ((some .boolean), []))))
theorem mt_X3_isTooWide : gm_mt mX3_isTooWide 1 := ⟨rfl, gm_in (i := 397) (by decide +kernel) (by decide +kernel), gm_in (i := 80) (by decide +kernel) (by decide +kernel), ⟨by decide, by decide⟩, by decide +kernel, by decide⟩
theorem mv_X3_isTooWide : gm_mv mX3_isTooWide RX3 := ⟨gm_in (i := 396) (by decide +kernel) (by decide +kernel), gm_in (i := 3) (by decide +kernel) (by decide +kernel)⟩
abbrev mX3_at : gm_M := (yX3_at, (cX3_at, (3, ((some .int), []))))
theorem mt_X3_at : gm_mt mX3_at 2 := ⟨rfl, gm_in (i := 401) (by decide +kernel) (by decide +kernel), gm_in (i := 80) (by decide +kernel) (by decide +kernel), ⟨by decide, by decide⟩, by decide +kernel, by decide⟩
theorem mv_X3_at : gm_mv mX3_at RX3 := ⟨gm_in (i := 400) (by decide +kernel) (by decide +kernel), gm_in (i := 4) (by decide +kernel) (by decide +kernel)⟩
abbrev mX10_outside : gm_M := (yX10_outside, (cX10_outside, (3, ((some .boolean), []))))
theorem mt_X10_outside : gm_mt mX10_outside 3 := ⟨rfl, gm_in (i := 404) (by decide +kernel) (by decide +kernel), gm_in (i := 78) (by decide +kernel) (by decide +kernel), ⟨by decide, by decide⟩, by decide +kernel, by decide⟩
theorem ms_X10_outside : Cond.static mX10_outside.1 ∈ gm_big := gm_in (i := 403) (by decide +kernel) (by decide +kernel)
abbrev mX6_leastForSet : gm_M := (yX6_leastForSet, (cX6_leastForSet, (8, ((some .int), []))))
theorem mt_X6_leastForSet : gm_mt mX6_leastForSet 2 := ⟨rfl, gm_in (i := 408) (by decide +kernel) (by decide +kernel), gm_in (i := 83) (by decide +kernel) (by decide +kernel), ⟨by decide, by decide⟩, by decide +kernel, by decide⟩
theorem mv_X6_leastForSet : gm_mv mX6_leastForSet RX6 := ⟨gm_in (i := 407) (by decide +kernel) (by decide +kernel), gm_in (i := 5) (by decide +kernel) (by decide +kernel)⟩
abbrev mX6_lowestOf : gm_M := (yX6_lowestOf, (cX6_lowestOf, (3, ((some .int), []))))
theorem mt_X6_lowestOf : gm_mt mX6_lowestOf 1 := ⟨rfl, gm_in (i := 411) (by decide +kernel) (by decide +kernel), gm_in (i := 83) (by decide +kernel) (by decide +kernel), ⟨by decide, by decide⟩, by decide +kernel, by decide⟩
theorem ms_X6_lowestOf : Cond.static mX6_lowestOf.1 ∈ gm_big := gm_in (i := 410) (by decide +kernel) (by decide +kernel)
abbrev mJ6_bitCount_0f7a4 : gm_M := (yJ6_bitCount_0f7a4, (cJ6_bitCount_0f7a4, (1, ((some .int), []))))
theorem mt_J6_bitCount_0f7a4 : gm_mt mJ6_bitCount_0f7a4 1 := ⟨rfl, gm_in (i := 415) (by decide +kernel) (by decide +kernel), gm_in (i := 106) (by decide +kernel) (by decide +kernel), ⟨by decide, by decide⟩, by decide +kernel, by decide⟩
theorem ms_J6_bitCount_0f7a4 : Cond.static mJ6_bitCount_0f7a4.1 ∈ gm_big := gm_in (i := 414) (by decide +kernel) (by decide +kernel)
abbrev mX6_withPair : gm_M := (yX6_withPair, (cX6_withPair, (6, ((some .int), []))))
theorem mt_X6_withPair : gm_mt mX6_withPair 4 := ⟨rfl, gm_in (i := 423) (by decide +kernel) (by decide +kernel), gm_in (i := 83) (by decide +kernel) (by decide +kernel), ⟨by decide, by decide⟩, by decide +kernel, by decide⟩
theorem mv_X6_withPair : gm_mv mX6_withPair RX6 := ⟨gm_in (i := 422) (by decide +kernel) (by decide +kernel), gm_in (i := 6) (by decide +kernel) (by decide +kernel)⟩
abbrev mJ9_abs_0f7a4 : gm_M := (yJ9_abs_0f7a4, (cJ9_abs_0f7a4, (1, ((some .int), []))))
theorem mt_J9_abs_0f7a4 : gm_mt mJ9_abs_0f7a4 1 := ⟨rfl, gm_in (i := 426) (by decide +kernel) (by decide +kernel), gm_in (i := 101) (by decide +kernel) (by decide +kernel), ⟨by decide, by decide⟩, by decide +kernel, by decide⟩
theorem ms_J9_abs_0f7a4 : Cond.static mJ9_abs_0f7a4.1 ∈ gm_big := gm_in (i := 425) (by decide +kernel) (by decide +kernel)
abbrev mJ9_min_7cf53 : gm_M := (yJ9_min_7cf53, (cJ9_min_7cf53, (2, ((some .int), []))))
theorem mt_J9_min_7cf53 : gm_mt mJ9_min_7cf53 2 := ⟨rfl, gm_in (i := 429) (by decide +kernel) (by decide +kernel), gm_in (i := 101) (by decide +kernel) (by decide +kernel), ⟨by decide, by decide⟩, by decide +kernel, by decide⟩
theorem ms_J9_min_7cf53 : Cond.static mJ9_min_7cf53.1 ∈ gm_big := gm_in (i := 428) (by decide +kernel) (by decide +kernel)
abbrev mX10_leastLateness : gm_M := (yX10_leastLateness, (cX10_leastLateness, (1, ((some .int), []))))
theorem mt_X10_leastLateness : gm_mt mX10_leastLateness 0 := ⟨rfl, gm_in (i := 433) (by decide +kernel) (by decide +kernel), gm_in (i := 78) (by decide +kernel) (by decide +kernel), ⟨by decide, by decide⟩, by decide +kernel, by decide⟩
theorem mv_X10_leastLateness : gm_mv mX10_leastLateness RX10 := ⟨gm_in (i := 431) (by decide +kernel) (by decide +kernel), gm_in (i := 432) (by decide +kernel) (by decide +kernel)⟩
abbrev mX4_leastBySets : gm_M := (yX4_leastBySets, (cX4_leastBySets, (8, ((some .int), []))))
theorem mt_X4_leastBySets : gm_mt mX4_leastBySets 1 := ⟨rfl, gm_in (i := 437) (by decide +kernel) (by decide +kernel), gm_in (i := 84) (by decide +kernel) (by decide +kernel), ⟨by decide, by decide⟩, by decide +kernel, by decide⟩
theorem mv_X4_leastBySets : gm_mv mX4_leastBySets RX4 := ⟨gm_in (i := 436) (by decide +kernel) (by decide +kernel), gm_in (i := 7) (by decide +kernel) (by decide +kernel)⟩
abbrev mX4_minutesOf : gm_M := (yX4_minutesOf, (cX4_minutesOf, (4, ((some .int), []))))
theorem mt_X4_minutesOf : gm_mt mX4_minutesOf 2 := ⟨rfl, gm_in (i := 440) (by decide +kernel) (by decide +kernel), gm_in (i := 84) (by decide +kernel) (by decide +kernel), ⟨by decide, by decide⟩, by decide +kernel, by decide⟩
theorem ms_X4_minutesOf : Cond.static mX4_minutesOf.1 ∈ gm_big := gm_in (i := 439) (by decide +kernel) (by decide +kernel)
abbrev mX4_beginningWith : gm_M := (yX4_beginningWith, (cX4_beginningWith, (5, ((some .int), []))))
theorem mt_X4_beginningWith : gm_mt mX4_beginningWith 4 := ⟨rfl, gm_in (i := 446) (by decide +kernel) (by decide +kernel), gm_in (i := 84) (by decide +kernel) (by decide +kernel), ⟨by decide, by decide⟩, by decide +kernel, by decide⟩
theorem mv_X4_beginningWith : gm_mv mX4_beginningWith RX4 := ⟨gm_in (i := 445) (by decide +kernel) (by decide +kernel), gm_in (i := 8) (by decide +kernel) (by decide +kernel)⟩
abbrev mX5_latenessFrom : gm_M := (yX5_latenessFrom, (cX5_latenessFrom, (4, ((some .int), []))))
theorem mt_X5_latenessFrom : gm_mt mX5_latenessFrom 2 := ⟨rfl, gm_in (i := 450) (by decide +kernel) (by decide +kernel), gm_in (i := 81) (by decide +kernel) (by decide +kernel), ⟨by decide, by decide⟩, by decide +kernel, by decide⟩
theorem mv_X5_latenessFrom : gm_mv mX5_latenessFrom RX5 := ⟨gm_in (i := 449) (by decide +kernel) (by decide +kernel), gm_in (i := 9) (by decide +kernel) (by decide +kernel)⟩
abbrev mX11_init : gm_M := (yX11_init, (cX11_init, (2, (none, []))))
theorem mt_X11_init : gm_mt mX11_init 1 := ⟨rfl, gm_in (i := 456) (by decide +kernel) (by decide +kernel), gm_in (i := 113) (by decide +kernel) (by decide +kernel), ⟨by decide, by decide⟩, by decide +kernel, by decide⟩
theorem mi_X11_init : Cond.instanceMethod mX11_init.1 ∈ gm_big ∧ mX11_init.1.name = "<init>" ∧ mX11_init.2.2.2.1 = none := ⟨gm_in (i := 455) (by decide +kernel) (by decide +kernel), rfl, rfl⟩
abbrev mX11_next : gm_M := (yX11_next, (cX11_next, (2, ((some .int), []))))
theorem mt_X11_next : gm_mt mX11_next 1 := ⟨rfl, gm_in (i := 465) (by decide +kernel) (by decide +kernel), gm_in (i := 113) (by decide +kernel) (by decide +kernel), ⟨by decide, by decide⟩, by decide +kernel, by decide⟩
theorem mv_X11_next : gm_mv mX11_next RX11 := ⟨gm_in (i := 463) (by decide +kernel) (by decide +kernel), gm_in (i := 464) (by decide +kernel) (by decide +kernel)⟩
abbrev mL_cell : gm_M := (yL_cell, (cL_cell, (2, ((some .int), []))))
theorem mt_L_cell : gm_mt mL_cell 2 := ⟨rfl, gm_in (i := 469) (by decide +kernel) (by decide +kernel), gm_in (i := 77) (by decide +kernel) (by decide +kernel), ⟨by decide, by decide⟩, by decide +kernel, by decide⟩
theorem ms_L_cell : Cond.static mL_cell.1 ∈ gm_big := gm_in (i := 468) (by decide +kernel) (by decide +kernel)
abbrev mX10_addNeedle : gm_M := (yX10_addNeedle, (cX10_addNeedle, (2, ((some .int), []))))
theorem mt_X10_addNeedle : gm_mt mX10_addNeedle 1 := ⟨rfl, gm_in (i := 478) (by decide +kernel) (by decide +kernel), gm_in (i := 78) (by decide +kernel) (by decide +kernel), ⟨by decide, by decide⟩, by decide +kernel, by decide⟩
theorem mv_X10_addNeedle : gm_mv mX10_addNeedle RX10 := ⟨gm_in (i := 476) (by decide +kernel) (by decide +kernel), gm_in (i := 477) (by decide +kernel) (by decide +kernel)⟩
abbrev mX10_modify : gm_M := (yX10_modify, (cX10_modify, (5, ((some .int), []))))
theorem mt_X10_modify : gm_mt mX10_modify 4 := ⟨rfl, gm_in (i := 483) (by decide +kernel) (by decide +kernel), gm_in (i := 78) (by decide +kernel) (by decide +kernel), ⟨by decide, by decide⟩, by decide +kernel, by decide⟩
theorem mv_X10_modify : gm_mv mX10_modify RX10 := ⟨gm_in (i := 482) (by decide +kernel) (by decide +kernel), gm_in (i := 10) (by decide +kernel) (by decide +kernel)⟩
abbrev mX9_whyNot : gm_M := (yX9_whyNot, (cX9_whyNot, (5, ((some (.object "NeedleBakery$Refusal")), []))))
theorem mt_X9_whyNot : gm_mt mX9_whyNot 4 := ⟨rfl, gm_in (i := 487) (by decide +kernel) (by decide +kernel), gm_in (i := 79) (by decide +kernel) (by decide +kernel), ⟨by decide, by decide⟩, by decide +kernel, by decide⟩
theorem mv_X9_whyNot : gm_mv mX9_whyNot RX9 := ⟨gm_in (i := 486) (by decide +kernel) (by decide +kernel), gm_in (i := 11) (by decide +kernel) (by decide +kernel)⟩
abbrev mJx29ce0_ordinal_8abf5 : gm_M := (yJx29ce0_ordinal_8abf5, (cJx29ce0_ordinal_8abf5, (1, ((some .int), []))))
theorem mt_Jx29ce0_ordinal_8abf5 : gm_mt mJx29ce0_ordinal_8abf5 0 := ⟨rfl, gm_in (i := 495) (by decide +kernel) (by decide +kernel), gm_in (i := 90) (by decide +kernel) (by decide +kernel), ⟨by decide, by decide⟩, by decide +kernel, by decide⟩
abbrev mX3_whyNotAdd : gm_M := (yX3_whyNotAdd, (cX3_whyNotAdd, (2, ((some (.object "NeedleBakery$Refusal")), []))))
theorem mt_X3_whyNotAdd : gm_mt mX3_whyNotAdd 1 := ⟨rfl, gm_in (i := 499) (by decide +kernel) (by decide +kernel), gm_in (i := 80) (by decide +kernel) (by decide +kernel), ⟨by decide, by decide⟩, by decide +kernel, by decide⟩
theorem mv_X3_whyNotAdd : gm_mv mX3_whyNotAdd RX3 := ⟨gm_in (i := 498) (by decide +kernel) (by decide +kernel), gm_in (i := 12) (by decide +kernel) (by decide +kernel)⟩
abbrev mX3_whyNotPut : gm_M := (yX3_whyNotPut, (cX3_whyNotPut, (4, ((some (.object "NeedleBakery$Refusal")), []))))
theorem mt_X3_whyNotPut : gm_mt mX3_whyNotPut 3 := ⟨rfl, gm_in (i := 509) (by decide +kernel) (by decide +kernel), gm_in (i := 80) (by decide +kernel) (by decide +kernel), ⟨by decide, by decide⟩, by decide +kernel, by decide⟩
theorem mv_X3_whyNotPut : gm_mv mX3_whyNotPut RX3 := ⟨gm_in (i := 508) (by decide +kernel) (by decide +kernel), gm_in (i := 13) (by decide +kernel) (by decide +kernel)⟩
abbrev mX3_has : gm_M := (yX3_has, (cX3_has, (2, ((some .boolean), []))))
theorem mt_X3_has : gm_mt mX3_has 1 := ⟨rfl, gm_in (i := 513) (by decide +kernel) (by decide +kernel), gm_in (i := 80) (by decide +kernel) (by decide +kernel), ⟨by decide, by decide⟩, by decide +kernel, by decide⟩
theorem mv_X3_has : gm_mv mX3_has RX3 := ⟨gm_in (i := 512) (by decide +kernel) (by decide +kernel), gm_in (i := 14) (by decide +kernel) (by decide +kernel)⟩
abbrev mX3_whyNotShift : gm_M := (yX3_whyNotShift, (cX3_whyNotShift, (3, ((some (.object "NeedleBakery$Refusal")), []))))
theorem mt_X3_whyNotShift : gm_mt mX3_whyNotShift 2 := ⟨rfl, gm_in (i := 521) (by decide +kernel) (by decide +kernel), gm_in (i := 80) (by decide +kernel) (by decide +kernel), ⟨by decide, by decide⟩, by decide +kernel, by decide⟩
theorem mv_X3_whyNotShift : gm_mv mX3_whyNotShift RX3 := ⟨gm_in (i := 520) (by decide +kernel) (by decide +kernel), gm_in (i := 15) (by decide +kernel) (by decide +kernel)⟩
abbrev mX3_whyNotMove : gm_M := (yX3_whyNotMove, (cX3_whyNotMove, (4, ((some (.object "NeedleBakery$Refusal")), []))))
theorem mt_X3_whyNotMove : gm_mt mX3_whyNotMove 2 := ⟨rfl, gm_in (i := 525) (by decide +kernel) (by decide +kernel), gm_in (i := 80) (by decide +kernel) (by decide +kernel), ⟨by decide, by decide⟩, by decide +kernel, by decide⟩
theorem mv_X3_whyNotMove : gm_mv mX3_whyNotMove RX3 := ⟨gm_in (i := 524) (by decide +kernel) (by decide +kernel), gm_in (i := 16) (by decide +kernel) (by decide +kernel)⟩
abbrev mX3_whyNotCorrect : gm_M := (yX3_whyNotCorrect, (cX3_whyNotCorrect, (2, ((some (.object "NeedleBakery$Refusal")), []))))
theorem mt_X3_whyNotCorrect : gm_mt mX3_whyNotCorrect 1 := ⟨rfl, gm_in (i := 531) (by decide +kernel) (by decide +kernel), gm_in (i := 80) (by decide +kernel) (by decide +kernel), ⟨by decide, by decide⟩, by decide +kernel, by decide⟩
theorem mv_X3_whyNotCorrect : gm_mv mX3_whyNotCorrect RX3 := ⟨gm_in (i := 530) (by decide +kernel) (by decide +kernel), gm_in (i := 17) (by decide +kernel) (by decide +kernel)⟩
abbrev mX3_shiftFromSum : gm_M := (yX3_shiftFromSum, (cX3_shiftFromSum, (4, ((some .int), []))))
theorem mt_X3_shiftFromSum : gm_mt mX3_shiftFromSum 1 := ⟨rfl, gm_in (i := 535) (by decide +kernel) (by decide +kernel), gm_in (i := 80) (by decide +kernel) (by decide +kernel), ⟨by decide, by decide⟩, by decide +kernel, by decide⟩
theorem mv_X3_shiftFromSum : gm_mv mX3_shiftFromSum RX3 := ⟨gm_in (i := 534) (by decide +kernel) (by decide +kernel), gm_in (i := 18) (by decide +kernel) (by decide +kernel)⟩
abbrev mX3_whyNotThrowOut : gm_M := (yX3_whyNotThrowOut, (cX3_whyNotThrowOut, (2, ((some (.object "NeedleBakery$Refusal")), []))))
theorem mt_X3_whyNotThrowOut : gm_mt mX3_whyNotThrowOut 1 := ⟨rfl, gm_in (i := 540) (by decide +kernel) (by decide +kernel), gm_in (i := 80) (by decide +kernel) (by decide +kernel), ⟨by decide, by decide⟩, by decide +kernel, by decide⟩
theorem mv_X3_whyNotThrowOut : gm_mv mX3_whyNotThrowOut RX3 := ⟨gm_in (i := 539) (by decide +kernel) (by decide +kernel), gm_in (i := 19) (by decide +kernel) (by decide +kernel)⟩
abbrev mX5_whyNotAdd : gm_M := (yX5_whyNotAdd, (cX5_whyNotAdd, (4, ((some (.object "NeedleBakery$Refusal")), []))))
theorem mt_X5_whyNotAdd : gm_mt mX5_whyNotAdd 3 := ⟨rfl, gm_in (i := 547) (by decide +kernel) (by decide +kernel), gm_in (i := 81) (by decide +kernel) (by decide +kernel), ⟨by decide, by decide⟩, by decide +kernel, by decide⟩
theorem mv_X5_whyNotAdd : gm_mv mX5_whyNotAdd RX5 := ⟨gm_in (i := 546) (by decide +kernel) (by decide +kernel), gm_in (i := 20) (by decide +kernel) (by decide +kernel)⟩
abbrev mX5_placeOf : gm_M := (yX5_placeOf, (cX5_placeOf, (3, ((some .int), []))))
theorem mt_X5_placeOf : gm_mt mX5_placeOf 1 := ⟨rfl, gm_in (i := 555) (by decide +kernel) (by decide +kernel), gm_in (i := 81) (by decide +kernel) (by decide +kernel), ⟨by decide, by decide⟩, by decide +kernel, by decide⟩
theorem mv_X5_placeOf : gm_mv mX5_placeOf RX5 := ⟨gm_in (i := 554) (by decide +kernel) (by decide +kernel), gm_in (i := 21) (by decide +kernel) (by decide +kernel)⟩
abbrev mX10_refuse : gm_M := (yX10_refuse, (cX10_refuse, (1, (none, []))))
theorem mt_X10_refuse : gm_mt mX10_refuse 1 := ⟨rfl, gm_in (i := 560) (by decide +kernel) (by decide +kernel), gm_in (i := 78) (by decide +kernel) (by decide +kernel), ⟨by decide, by decide⟩, by decide +kernel, by decide⟩
theorem ms_X10_refuse : Cond.static mX10_refuse.1 ∈ gm_big := gm_in (i := 559) (by decide +kernel) (by decide +kernel)
abbrev mX2_prepare : gm_M := (yX2_prepare, (cX2_prepare, (2, (none, []))))
theorem mt_X2_prepare : gm_mt mX2_prepare 1 := ⟨rfl, gm_in (i := 707) (by decide +kernel) (by decide +kernel), gm_in (i := 82) (by decide +kernel) (by decide +kernel), ⟨by decide, by decide⟩, by decide +kernel, by decide⟩
theorem mv_X2_prepare : gm_mv mX2_prepare RX2 := ⟨gm_in (i := 706) (by decide +kernel) (by decide +kernel), gm_in (i := 23) (by decide +kernel) (by decide +kernel)⟩
abbrev mX9_copyFrom : gm_M := (yX9_copyFrom, (cX9_copyFrom, (2, (none, []))))
theorem mt_X9_copyFrom : gm_mt mX9_copyFrom 1 := ⟨rfl, gm_in (i := 711) (by decide +kernel) (by decide +kernel), gm_in (i := 79) (by decide +kernel) (by decide +kernel), ⟨by decide, by decide⟩, by decide +kernel, by decide⟩
theorem mv_X9_copyFrom : gm_mv mX9_copyFrom RX9 := ⟨gm_in (i := 710) (by decide +kernel) (by decide +kernel), gm_in (i := 24) (by decide +kernel) (by decide +kernel)⟩
abbrev mX3_copyFrom : gm_M := (yX3_copyFrom, (cX3_copyFrom, (2, (none, []))))
theorem mt_X3_copyFrom : gm_mt mX3_copyFrom 1 := ⟨rfl, gm_in (i := 715) (by decide +kernel) (by decide +kernel), gm_in (i := 80) (by decide +kernel) (by decide +kernel), ⟨by decide, by decide⟩, by decide +kernel, by decide⟩
theorem mv_X3_copyFrom : gm_mv mX3_copyFrom RX3 := ⟨gm_in (i := 714) (by decide +kernel) (by decide +kernel), gm_in (i := 25) (by decide +kernel) (by decide +kernel)⟩
abbrev mX5_copyFrom : gm_M := (yX5_copyFrom, (cX5_copyFrom, (2, (none, []))))
theorem mt_X5_copyFrom : gm_mt mX5_copyFrom 1 := ⟨rfl, gm_in (i := 722) (by decide +kernel) (by decide +kernel), gm_in (i := 81) (by decide +kernel) (by decide +kernel), ⟨by decide, by decide⟩, by decide +kernel, by decide⟩
theorem mv_X5_copyFrom : gm_mv mX5_copyFrom RX5 := ⟨gm_in (i := 721) (by decide +kernel) (by decide +kernel), gm_in (i := 26) (by decide +kernel) (by decide +kernel)⟩
abbrev mX2_keepPrepared : gm_M := (yX2_keepPrepared, (cX2_keepPrepared, (1, (none, []))))
theorem mt_X2_keepPrepared : gm_mt mX2_keepPrepared 0 := ⟨rfl, gm_in (i := 727) (by decide +kernel) (by decide +kernel), gm_in (i := 82) (by decide +kernel) (by decide +kernel), ⟨by decide, by decide⟩, by decide +kernel, by decide⟩
theorem mv_X2_keepPrepared : gm_mv mX2_keepPrepared RX2 := ⟨gm_in (i := 726) (by decide +kernel) (by decide +kernel), gm_in (i := 27) (by decide +kernel) (by decide +kernel)⟩
abbrev mX9_perform : gm_M := (yX9_perform, (cX9_perform, (5, ((some .int), []))))
theorem mt_X9_perform : gm_mt mX9_perform 4 := ⟨rfl, gm_in (i := 731) (by decide +kernel) (by decide +kernel), gm_in (i := 79) (by decide +kernel) (by decide +kernel), ⟨by decide, by decide⟩, by decide +kernel, by decide⟩
theorem mv_X9_perform : gm_mv mX9_perform RX9 := ⟨gm_in (i := 730) (by decide +kernel) (by decide +kernel), gm_in (i := 28) (by decide +kernel) (by decide +kernel)⟩
abbrev mX3_add : gm_M := (yX3_add, (cX3_add, (3, ((some .int), []))))
theorem mt_X3_add : gm_mt mX3_add 1 := ⟨rfl, gm_in (i := 735) (by decide +kernel) (by decide +kernel), gm_in (i := 80) (by decide +kernel) (by decide +kernel), ⟨by decide, by decide⟩, by decide +kernel, by decide⟩
theorem mv_X3_add : gm_mv mX3_add RX3 := ⟨gm_in (i := 734) (by decide +kernel) (by decide +kernel), gm_in (i := 29) (by decide +kernel) (by decide +kernel)⟩
abbrev mX3_put : gm_M := (yX3_put, (cX3_put, (5, ((some .int), []))))
theorem mt_X3_put : gm_mt mX3_put 3 := ⟨rfl, gm_in (i := 739) (by decide +kernel) (by decide +kernel), gm_in (i := 80) (by decide +kernel) (by decide +kernel), ⟨by decide, by decide⟩, by decide +kernel, by decide⟩
theorem mv_X3_put : gm_mv mX3_put RX3 := ⟨gm_in (i := 738) (by decide +kernel) (by decide +kernel), gm_in (i := 30) (by decide +kernel) (by decide +kernel)⟩
abbrev mX3_move : gm_M := (yX3_move, (cX3_move, (4, (none, []))))
theorem mt_X3_move : gm_mt mX3_move 2 := ⟨rfl, gm_in (i := 743) (by decide +kernel) (by decide +kernel), gm_in (i := 80) (by decide +kernel) (by decide +kernel), ⟨by decide, by decide⟩, by decide +kernel, by decide⟩
theorem mv_X3_move : gm_mv mX3_move RX3 := ⟨gm_in (i := 742) (by decide +kernel) (by decide +kernel), gm_in (i := 31) (by decide +kernel) (by decide +kernel)⟩
abbrev mX3_errorShiftedBy : gm_M := (yX3_errorShiftedBy, (cX3_errorShiftedBy, (6, ((some .int), []))))
theorem mt_X3_errorShiftedBy : gm_mt mX3_errorShiftedBy 2 := ⟨rfl, gm_in (i := 747) (by decide +kernel) (by decide +kernel), gm_in (i := 80) (by decide +kernel) (by decide +kernel), ⟨by decide, by decide⟩, by decide +kernel, by decide⟩
theorem mv_X3_errorShiftedBy : gm_mv mX3_errorShiftedBy RX3 := ⟨gm_in (i := 746) (by decide +kernel) (by decide +kernel), gm_in (i := 32) (by decide +kernel) (by decide +kernel)⟩
abbrev mX3_moveByBest : gm_M := (yX3_moveByBest, (cX3_moveByBest, (3, ((some .int), []))))
theorem mt_X3_moveByBest : gm_mt mX3_moveByBest 1 := ⟨rfl, gm_in (i := 751) (by decide +kernel) (by decide +kernel), gm_in (i := 80) (by decide +kernel) (by decide +kernel), ⟨by decide, by decide⟩, by decide +kernel, by decide⟩
theorem mv_X3_moveByBest : gm_mv mX3_moveByBest RX3 := ⟨gm_in (i := 750) (by decide +kernel) (by decide +kernel), gm_in (i := 33) (by decide +kernel) (by decide +kernel)⟩
abbrev mX3_throwOut : gm_M := (yX3_throwOut, (cX3_throwOut, (2, ((some .int), []))))
theorem mt_X3_throwOut : gm_mt mX3_throwOut 1 := ⟨rfl, gm_in (i := 756) (by decide +kernel) (by decide +kernel), gm_in (i := 80) (by decide +kernel) (by decide +kernel), ⟨by decide, by decide⟩, by decide +kernel, by decide⟩
theorem mv_X3_throwOut : gm_mv mX3_throwOut RX3 := ⟨gm_in (i := 755) (by decide +kernel) (by decide +kernel), gm_in (i := 34) (by decide +kernel) (by decide +kernel)⟩
abbrev mX3_countTooWide : gm_M := (yX3_countTooWide, (cX3_countTooWide, (3, ((some .int), []))))
theorem mt_X3_countTooWide : gm_mt mX3_countTooWide 0 := ⟨rfl, gm_in (i := 761) (by decide +kernel) (by decide +kernel), gm_in (i := 80) (by decide +kernel) (by decide +kernel), ⟨by decide, by decide⟩, by decide +kernel, by decide⟩
theorem mv_X3_countTooWide : gm_mv mX3_countTooWide RX3 := ⟨gm_in (i := 760) (by decide +kernel) (by decide +kernel), gm_in (i := 35) (by decide +kernel) (by decide +kernel)⟩
abbrev mX5_add : gm_M := (yX5_add, (cX5_add, (4, ((some .int), []))))
theorem mt_X5_add : gm_mt mX5_add 3 := ⟨rfl, gm_in (i := 765) (by decide +kernel) (by decide +kernel), gm_in (i := 81) (by decide +kernel) (by decide +kernel), ⟨by decide, by decide⟩, by decide +kernel, by decide⟩
theorem mv_X5_add : gm_mv mX5_add RX5 := ⟨gm_in (i := 764) (by decide +kernel) (by decide +kernel), gm_in (i := 36) (by decide +kernel) (by decide +kernel)⟩
abbrev mX5_takeOut : gm_M := (yX5_takeOut, (cX5_takeOut, (3, (none, []))))
theorem mt_X5_takeOut : gm_mt mX5_takeOut 1 := ⟨rfl, gm_in (i := 769) (by decide +kernel) (by decide +kernel), gm_in (i := 81) (by decide +kernel) (by decide +kernel), ⟨by decide, by decide⟩, by decide +kernel, by decide⟩
theorem mv_X5_takeOut : gm_mv mX5_takeOut RX5 := ⟨gm_in (i := 768) (by decide +kernel) (by decide +kernel), gm_in (i := 37) (by decide +kernel) (by decide +kernel)⟩
abbrev mX5_finish : gm_M := (yX5_finish, (cX5_finish, (3, ((some .int), []))))
theorem mt_X5_finish : gm_mt mX5_finish 1 := ⟨rfl, gm_in (i := 773) (by decide +kernel) (by decide +kernel), gm_in (i := 81) (by decide +kernel) (by decide +kernel), ⟨by decide, by decide⟩, by decide +kernel, by decide⟩
theorem mv_X5_finish : gm_mv mX5_finish RX5 := ⟨gm_in (i := 772) (by decide +kernel) (by decide +kernel), gm_in (i := 38) (by decide +kernel) (by decide +kernel)⟩
abbrev mJx00060_init_a7421 : gm_M := (yJx00060_init_a7421, (cJx00060_init_a7421, (2, (none, []))))
theorem mt_Jx00060_init_a7421 : gm_mt mJx00060_init_a7421 1 := ⟨rfl, gm_in (i := 782) (by decide +kernel) (by decide +kernel), gm_in (i := 108) (by decide +kernel) (by decide +kernel), ⟨by decide, by decide⟩, by decide +kernel, by decide⟩
theorem mi_Jx00060_init_a7421 : Cond.instanceMethod mJx00060_init_a7421.1 ∈ gm_big ∧ mJx00060_init_a7421.1.name = "<init>" ∧ mJx00060_init_a7421.2.2.2.1 = none := ⟨gm_in (i := 781) (by decide +kernel) (by decide +kernel), rfl, rfl⟩
abbrev mX10_setDeviation : gm_M := (yX10_setDeviation, (cX10_setDeviation, (4, ((some .int), []))))
theorem mt_X10_setDeviation : gm_mt mX10_setDeviation 3 := ⟨rfl, gm_in (i := 803) (by decide +kernel) (by decide +kernel), gm_in (i := 78) (by decide +kernel) (by decide +kernel), ⟨by decide, by decide⟩, by decide +kernel, by decide⟩
theorem mv_X10_setDeviation : gm_mv mX10_setDeviation RX10 := ⟨gm_in (i := 801) (by decide +kernel) (by decide +kernel), gm_in (i := 802) (by decide +kernel) (by decide +kernel)⟩
abbrev mX10_shift : gm_M := (yX10_shift, (cX10_shift, (3, ((some .int), []))))
theorem mt_X10_shift : gm_mt mX10_shift 2 := ⟨rfl, gm_in (i := 813) (by decide +kernel) (by decide +kernel), gm_in (i := 78) (by decide +kernel) (by decide +kernel), ⟨by decide, by decide⟩, by decide +kernel, by decide⟩
theorem mv_X10_shift : gm_mv mX10_shift RX10 := ⟨gm_in (i := 811) (by decide +kernel) (by decide +kernel), gm_in (i := 812) (by decide +kernel) (by decide +kernel)⟩
abbrev mX10_correct : gm_M := (yX10_correct, (cX10_correct, (2, ((some .int), []))))
theorem mt_X10_correct : gm_mt mX10_correct 1 := ⟨rfl, gm_in (i := 822) (by decide +kernel) (by decide +kernel), gm_in (i := 78) (by decide +kernel) (by decide +kernel), ⟨by decide, by decide⟩, by decide +kernel, by decide⟩
theorem mv_X10_correct : gm_mv mX10_correct RX10 := ⟨gm_in (i := 820) (by decide +kernel) (by decide +kernel), gm_in (i := 821) (by decide +kernel) (by decide +kernel)⟩
abbrev mX10_discard : gm_M := (yX10_discard, (cX10_discard, (2, ((some .int), []))))
theorem mt_X10_discard : gm_mt mX10_discard 1 := ⟨rfl, gm_in (i := 831) (by decide +kernel) (by decide +kernel), gm_in (i := 78) (by decide +kernel) (by decide +kernel), ⟨by decide, by decide⟩, by decide +kernel, by decide⟩
theorem mv_X10_discard : gm_mv mX10_discard RX10 := ⟨gm_in (i := 829) (by decide +kernel) (by decide +kernel), gm_in (i := 830) (by decide +kernel) (by decide +kernel)⟩
abbrev mX10_setTolerance : gm_M := (yX10_setTolerance, (cX10_setTolerance, (2, ((some .int), []))))
theorem mt_X10_setTolerance : gm_mt mX10_setTolerance 1 := ⟨rfl, gm_in (i := 840) (by decide +kernel) (by decide +kernel), gm_in (i := 78) (by decide +kernel) (by decide +kernel), ⟨by decide, by decide⟩, by decide +kernel, by decide⟩
theorem mv_X10_setTolerance : gm_mv mX10_setTolerance RX10 := ⟨gm_in (i := 838) (by decide +kernel) (by decide +kernel), gm_in (i := 839) (by decide +kernel) (by decide +kernel)⟩
abbrev mX10_needleAtRank : gm_M := (yX10_needleAtRank, (cX10_needleAtRank, (4, ((some .int), []))))
theorem mt_X10_needleAtRank : gm_mt mX10_needleAtRank 1 := ⟨rfl, gm_in (i := 850) (by decide +kernel) (by decide +kernel), gm_in (i := 78) (by decide +kernel) (by decide +kernel), ⟨by decide, by decide⟩, by decide +kernel, by decide⟩
theorem mv_X10_needleAtRank : gm_mv mX10_needleAtRank RX10 := ⟨gm_in (i := 848) (by decide +kernel) (by decide +kernel), gm_in (i := 849) (by decide +kernel) (by decide +kernel)⟩
abbrev mX3_countAheadOf : gm_M := (yX3_countAheadOf, (cX3_countAheadOf, (4, ((some .int), []))))
theorem mt_X3_countAheadOf : gm_mt mX3_countAheadOf 1 := ⟨rfl, gm_in (i := 854) (by decide +kernel) (by decide +kernel), gm_in (i := 80) (by decide +kernel) (by decide +kernel), ⟨by decide, by decide⟩, by decide +kernel, by decide⟩
theorem mv_X3_countAheadOf : gm_mv mX3_countAheadOf RX3 := ⟨gm_in (i := 853) (by decide +kernel) (by decide +kernel), gm_in (i := 39) (by decide +kernel) (by decide +kernel)⟩
abbrev mX3_isAhead : gm_M := (yX3_isAhead, (cX3_isAhead, (5, ((some .boolean), []))))
theorem mt_X3_isAhead : gm_mt mX3_isAhead 2 := ⟨rfl, gm_in (i := 858) (by decide +kernel) (by decide +kernel), gm_in (i := 80) (by decide +kernel) (by decide +kernel), ⟨by decide, by decide⟩, by decide +kernel, by decide⟩
theorem mv_X3_isAhead : gm_mv mX3_isAhead RX3 := ⟨gm_in (i := 857) (by decide +kernel) (by decide +kernel), gm_in (i := 40) (by decide +kernel) (by decide +kernel)⟩
abbrev mX10_meanError : gm_M := (yX10_meanError, (cX10_meanError, (6, ((some .double), []))))
theorem mt_X10_meanError : gm_mt mX10_meanError 0 := ⟨rfl, gm_in (i := 881) (by decide +kernel) (by decide +kernel), gm_in (i := 78) (by decide +kernel) (by decide +kernel), ⟨by decide, by decide⟩, by decide +kernel, by decide⟩
theorem mv_X10_meanError : gm_mv mX10_meanError RX10 := ⟨gm_in (i := 879) (by decide +kernel) (by decide +kernel), gm_in (i := 880) (by decide +kernel) (by decide +kernel)⟩
abbrev mX10_partnerOf : gm_M := (yX10_partnerOf, (cX10_partnerOf, (3, ((some .int), []))))
theorem mt_X10_partnerOf : gm_mt mX10_partnerOf 1 := ⟨rfl, gm_in (i := 896) (by decide +kernel) (by decide +kernel), gm_in (i := 78) (by decide +kernel) (by decide +kernel), ⟨by decide, by decide⟩, by decide +kernel, by decide⟩
theorem mv_X10_partnerOf : gm_mv mX10_partnerOf RX10 := ⟨gm_in (i := 894) (by decide +kernel) (by decide +kernel), gm_in (i := 895) (by decide +kernel) (by decide +kernel)⟩
abbrev mX10_needNeedle : gm_M := (yX10_needNeedle, (cX10_needNeedle, (2, (none, []))))
theorem mt_X10_needNeedle : gm_mt mX10_needNeedle 1 := ⟨rfl, gm_in (i := 900) (by decide +kernel) (by decide +kernel), gm_in (i := 78) (by decide +kernel) (by decide +kernel), ⟨by decide, by decide⟩, by decide +kernel, by decide⟩
theorem mv_X10_needNeedle : gm_mv mX10_needNeedle RX10 := ⟨gm_in (i := 899) (by decide +kernel) (by decide +kernel), gm_in (i := 41) (by decide +kernel) (by decide +kernel)⟩
abbrev mX6_lowestPartner : gm_M := (yX6_lowestPartner, (cX6_lowestPartner, (7, ((some .int), []))))
theorem mt_X6_lowestPartner : gm_mt mX6_lowestPartner 2 := ⟨rfl, gm_in (i := 906) (by decide +kernel) (by decide +kernel), gm_in (i := 83) (by decide +kernel) (by decide +kernel), ⟨by decide, by decide⟩, by decide +kernel, by decide⟩
theorem mv_X6_lowestPartner : gm_mv mX6_lowestPartner RX6 := ⟨gm_in (i := 905) (by decide +kernel) (by decide +kernel), gm_in (i := 42) (by decide +kernel) (by decide +kernel)⟩
abbrev mX10_addBatch : gm_M := (yX10_addBatch, (cX10_addBatch, (4, ((some .int), []))))
theorem mt_X10_addBatch : gm_mt mX10_addBatch 3 := ⟨rfl, gm_in (i := 915) (by decide +kernel) (by decide +kernel), gm_in (i := 78) (by decide +kernel) (by decide +kernel), ⟨by decide, by decide⟩, by decide +kernel, by decide⟩
theorem mv_X10_addBatch : gm_mv mX10_addBatch RX10 := ⟨gm_in (i := 913) (by decide +kernel) (by decide +kernel), gm_in (i := 914) (by decide +kernel) (by decide +kernel)⟩
abbrev mX10_dropBatch : gm_M := (yX10_dropBatch, (cX10_dropBatch, (2, ((some .int), []))))
theorem mt_X10_dropBatch : gm_mt mX10_dropBatch 1 := ⟨rfl, gm_in (i := 924) (by decide +kernel) (by decide +kernel), gm_in (i := 78) (by decide +kernel) (by decide +kernel), ⟨by decide, by decide⟩, by decide +kernel, by decide⟩
theorem mv_X10_dropBatch : gm_mv mX10_dropBatch RX10 := ⟨gm_in (i := 922) (by decide +kernel) (by decide +kernel), gm_in (i := 923) (by decide +kernel) (by decide +kernel)⟩
abbrev mX10_bake : gm_M := (yX10_bake, (cX10_bake, (2, ((some .int), []))))
theorem mt_X10_bake : gm_mt mX10_bake 1 := ⟨rfl, gm_in (i := 933) (by decide +kernel) (by decide +kernel), gm_in (i := 78) (by decide +kernel) (by decide +kernel), ⟨by decide, by decide⟩, by decide +kernel, by decide⟩
theorem mv_X10_bake : gm_mv mX10_bake RX10 := ⟨gm_in (i := 931) (by decide +kernel) (by decide +kernel), gm_in (i := 932) (by decide +kernel) (by decide +kernel)⟩
abbrev mX10_rest : gm_M := (yX10_rest, (cX10_rest, (2, ((some .int), []))))
theorem mt_X10_rest : gm_mt mX10_rest 1 := ⟨rfl, gm_in (i := 942) (by decide +kernel) (by decide +kernel), gm_in (i := 78) (by decide +kernel) (by decide +kernel), ⟨by decide, by decide⟩, by decide +kernel, by decide⟩
theorem mv_X10_rest : gm_mv mX10_rest RX10 := ⟨gm_in (i := 940) (by decide +kernel) (by decide +kernel), gm_in (i := 941) (by decide +kernel) (by decide +kernel)⟩
abbrev mX10_bestFirst : gm_M := (yX10_bestFirst, (cX10_bestFirst, (2, ((some .int), []))))
theorem mt_X10_bestFirst : gm_mt mX10_bestFirst 0 := ⟨rfl, gm_in (i := 951) (by decide +kernel) (by decide +kernel), gm_in (i := 78) (by decide +kernel) (by decide +kernel), ⟨by decide, by decide⟩, by decide +kernel, by decide⟩
theorem mv_X10_bestFirst : gm_mv mX10_bestFirst RX10 := ⟨gm_in (i := 949) (by decide +kernel) (by decide +kernel), gm_in (i := 950) (by decide +kernel) (by decide +kernel)⟩
abbrev mX4_bestFirstPlace : gm_M := (yX4_bestFirstPlace, (cX4_bestFirstPlace, (5, ((some .int), []))))
theorem mt_X4_bestFirstPlace : gm_mt mX4_bestFirstPlace 1 := ⟨rfl, gm_in (i := 955) (by decide +kernel) (by decide +kernel), gm_in (i := 84) (by decide +kernel) (by decide +kernel), ⟨by decide, by decide⟩, by decide +kernel, by decide⟩
theorem mv_X4_bestFirstPlace : gm_mv mX4_bestFirstPlace RX4 := ⟨gm_in (i := 954) (by decide +kernel) (by decide +kernel), gm_in (i := 43) (by decide +kernel) (by decide +kernel)⟩
abbrev mX10_bakingShare : gm_M := (yX10_bakingShare, (cX10_bakingShare, (1, ((some .float), []))))
theorem mt_X10_bakingShare : gm_mt mX10_bakingShare 0 := ⟨rfl, gm_in (i := 964) (by decide +kernel) (by decide +kernel), gm_in (i := 78) (by decide +kernel) (by decide +kernel), ⟨by decide, by decide⟩, by decide +kernel, by decide⟩
theorem mv_X10_bakingShare : gm_mv mX10_bakingShare RX10 := ⟨gm_in (i := 962) (by decide +kernel) (by decide +kernel), gm_in (i := 963) (by decide +kernel) (by decide +kernel)⟩
abbrev mX10_writeLabel : gm_M := (yX10_writeLabel, (cX10_writeLabel, (4, ((some .int), []))))
theorem mt_X10_writeLabel : gm_mt mX10_writeLabel 1 := ⟨rfl, gm_in (i := 973) (by decide +kernel) (by decide +kernel), gm_in (i := 78) (by decide +kernel) (by decide +kernel), ⟨by decide, by decide⟩, by decide +kernel, by decide⟩
theorem mv_X10_writeLabel : gm_mv mX10_writeLabel RX10 := ⟨gm_in (i := 971) (by decide +kernel) (by decide +kernel), gm_in (i := 972) (by decide +kernel) (by decide +kernel)⟩
abbrev mJ4_setLength_d00df : gm_M := (yJ4_setLength_d00df, (cJ4_setLength_d00df, (2, (none, []))))
theorem mt_J4_setLength_d00df : gm_mt mJ4_setLength_d00df 1 := ⟨rfl, gm_in (i := 977) (by decide +kernel) (by decide +kernel), gm_in (i := 86) (by decide +kernel) (by decide +kernel), ⟨by decide, by decide⟩, by decide +kernel, by decide⟩
theorem mv_J4_setLength_d00df : gm_mv mJ4_setLength_d00df RJ4 := ⟨gm_in (i := 975) (by decide +kernel) (by decide +kernel), gm_in (i := 976) (by decide +kernel) (by decide +kernel)⟩
abbrev mJ5_setLength_d00df : gm_M := (yJ5_setLength_d00df, (cJ5_setLength_d00df, (2, (none, []))))
theorem mt_J5_setLength_d00df : gm_mt mJ5_setLength_d00df 1 := ⟨rfl, gm_in (i := 980) (by decide +kernel) (by decide +kernel), gm_in (i := 85) (by decide +kernel) (by decide +kernel), ⟨by decide, by decide⟩, by decide +kernel, by decide⟩
abbrev mJx7c733_init_d00df : gm_M := (yJx7c733_init_d00df, (cJx7c733_init_d00df, (2, (none, []))))
theorem mt_Jx7c733_init_d00df : gm_mt mJx7c733_init_d00df 1 := ⟨rfl, gm_in (i := 985) (by decide +kernel) (by decide +kernel), gm_in (i := 111) (by decide +kernel) (by decide +kernel), ⟨by decide, by decide⟩, by decide +kernel, by decide⟩
theorem mi_Jx7c733_init_d00df : Cond.instanceMethod mJx7c733_init_d00df.1 ∈ gm_big ∧ mJx7c733_init_d00df.1.name = "<init>" ∧ mJx7c733_init_d00df.2.2.2.1 = none := ⟨gm_in (i := 984) (by decide +kernel) (by decide +kernel), rfl, rfl⟩
abbrev mJ4_append_15ec4 : gm_M := (yJ4_append_15ec4, (cJ4_append_15ec4, (2, ((some (.object "java/lang/StringBuilder")), []))))
theorem mt_J4_append_15ec4 : gm_mt mJ4_append_15ec4 1 := ⟨rfl, gm_in (i := 992) (by decide +kernel) (by decide +kernel), gm_in (i := 86) (by decide +kernel) (by decide +kernel), ⟨by decide, by decide⟩, by decide +kernel, by decide⟩
theorem mv_J4_append_15ec4 : gm_mv mJ4_append_15ec4 RJ4 := ⟨gm_in (i := 990) (by decide +kernel) (by decide +kernel), gm_in (i := 991) (by decide +kernel) (by decide +kernel)⟩
abbrev mJ5_append_cf1ce : gm_M := (yJ5_append_cf1ce, (cJ5_append_cf1ce, (3, ((some (.object "java/lang/AbstractStringBuilder")), []))))
theorem mt_J5_append_cf1ce : gm_mt mJ5_append_cf1ce 1 := ⟨rfl, gm_in (i := 995) (by decide +kernel) (by decide +kernel), gm_in (i := 85) (by decide +kernel) (by decide +kernel), ⟨by decide, by decide⟩, by decide +kernel, by decide⟩
abbrev mJ5_appendNull_278bc : gm_M := (yJ5_appendNull_278bc, (cJ5_appendNull_278bc, (3, ((some (.object "java/lang/AbstractStringBuilder")), []))))
theorem mt_J5_appendNull_278bc : gm_mt mJ5_appendNull_278bc 0 := ⟨rfl, gm_in (i := 999) (by decide +kernel) (by decide +kernel), gm_in (i := 85) (by decide +kernel) (by decide +kernel), ⟨by decide, by decide⟩, by decide +kernel, by decide⟩
abbrev mJ5_ensureCapacityInternal_d00df : gm_M := (yJ5_ensureCapacityInternal_d00df, (cJ5_ensureCapacityInternal_d00df, (3, (none, []))))
theorem mt_J5_ensureCapacityInternal_d00df : gm_mt mJ5_ensureCapacityInternal_d00df 1 := ⟨rfl, gm_in (i := 1003) (by decide +kernel) (by decide +kernel), gm_in (i := 85) (by decide +kernel) (by decide +kernel), ⟨by decide, by decide⟩, by decide +kernel, by decide⟩
abbrev mJ5_newCapacity_0f7a4 : gm_M := (yJ5_newCapacity_0f7a4, (cJ5_newCapacity_0f7a4, (6, ((some .int), []))))
theorem mt_J5_newCapacity_0f7a4 : gm_mt mJ5_newCapacity_0f7a4 1 := ⟨rfl, gm_in (i := 1007) (by decide +kernel) (by decide +kernel), gm_in (i := 85) (by decide +kernel) (by decide +kernel), ⟨by decide, by decide⟩, by decide +kernel, by decide⟩
abbrev mJ8_newLength_cabcc : gm_M := (yJ8_newLength_cabcc, (cJ8_newLength_cabcc, (4, ((some .int), []))))
theorem mt_J8_newLength_cabcc : gm_mt mJ8_newLength_cabcc 3 := ⟨rfl, gm_in (i := 1010) (by decide +kernel) (by decide +kernel), gm_in (i := 112) (by decide +kernel) (by decide +kernel), ⟨by decide, by decide⟩, by decide +kernel, by decide⟩
theorem ms_J8_newLength_cabcc : Cond.static mJ8_newLength_cabcc.1 ∈ gm_big := gm_in (i := 1009) (by decide +kernel) (by decide +kernel)
abbrev mJ9_max_7cf53 : gm_M := (yJ9_max_7cf53, (cJ9_max_7cf53, (2, ((some .int), []))))
theorem mt_J9_max_7cf53 : gm_mt mJ9_max_7cf53 2 := ⟨rfl, gm_in (i := 1013) (by decide +kernel) (by decide +kernel), gm_in (i := 101) (by decide +kernel) (by decide +kernel), ⟨by decide, by decide⟩, by decide +kernel, by decide⟩
theorem ms_J9_max_7cf53 : Cond.static mJ9_max_7cf53.1 ∈ gm_big := gm_in (i := 1012) (by decide +kernel) (by decide +kernel)
abbrev mJ8_hugeLength_7cf53 : gm_M := (yJ8_hugeLength_7cf53, (cJ8_hugeLength_7cf53, (3, ((some .int), []))))
theorem mt_J8_hugeLength_7cf53 : gm_mt mJ8_hugeLength_7cf53 2 := ⟨rfl, gm_in (i := 1017) (by decide +kernel) (by decide +kernel), gm_in (i := 112) (by decide +kernel) (by decide +kernel), ⟨by decide, by decide⟩, by decide +kernel, by decide⟩
theorem ms_J8_hugeLength_7cf53 : Cond.static mJ8_hugeLength_7cf53.1 ∈ gm_big := gm_in (i := 1016) (by decide +kernel) (by decide +kernel)
abbrev mJ7_copyOf_9075b : gm_M := (yJ7_copyOf_9075b, (cJ7_copyOf_9075b, (3, ((some (.array .byte)), []))))
theorem mt_J7_copyOf_9075b : gm_mt mJ7_copyOf_9075b 2 := ⟨rfl, gm_in (i := 1021) (by decide +kernel) (by decide +kernel), gm_in (i := 98) (by decide +kernel) (by decide +kernel), ⟨by decide, by decide⟩, by decide +kernel, by decide⟩
theorem ms_J7_copyOf_9075b : Cond.static mJ7_copyOf_9075b.1 ∈ gm_big := gm_in (i := 1020) (by decide +kernel) (by decide +kernel)
abbrev mJ5_isLatin1_aae02 : gm_M := (yJ5_isLatin1_aae02, (cJ5_isLatin1_aae02, (1, ((some .boolean), []))))
theorem mt_J5_isLatin1_aae02 : gm_mt mJ5_isLatin1_aae02 0 := ⟨rfl, gm_in (i := 1035) (by decide +kernel) (by decide +kernel), gm_in (i := 85) (by decide +kernel) (by decide +kernel), ⟨by decide, by decide⟩, by decide +kernel, by decide⟩
abbrev mJ2_putCharsAt_cd4e5 : gm_M := (yJ2_putCharsAt_cd4e5, (cJ2_putCharsAt_cd4e5, (7, ((some .int), []))))
theorem mt_J2_putCharsAt_cd4e5 : gm_mt mJ2_putCharsAt_cd4e5 6 := ⟨rfl, gm_in (i := 1038) (by decide +kernel) (by decide +kernel), gm_in (i := 88) (by decide +kernel) (by decide +kernel), ⟨by decide, by decide⟩, by decide +kernel, by decide⟩
theorem ms_J2_putCharsAt_cd4e5 : Cond.static mJ2_putCharsAt_cd4e5.1 ∈ gm_big := gm_in (i := 1037) (by decide +kernel) (by decide +kernel)
abbrev mJ2_checkBoundsBeginEnd_d044e : gm_M := (yJ2_checkBoundsBeginEnd_d044e, (cJ2_checkBoundsBeginEnd_d044e, (3, (none, []))))
theorem mt_J2_checkBoundsBeginEnd_d044e : gm_mt mJ2_checkBoundsBeginEnd_d044e 3 := ⟨rfl, gm_in (i := 1041) (by decide +kernel) (by decide +kernel), gm_in (i := 88) (by decide +kernel) (by decide +kernel), ⟨by decide, by decide⟩, by decide +kernel, by decide⟩
theorem ms_J2_checkBoundsBeginEnd_d044e : Cond.static mJ2_checkBoundsBeginEnd_d044e.1 ∈ gm_big := gm_in (i := 1040) (by decide +kernel) (by decide +kernel)
abbrev mJ2_length_9d52b : gm_M := (yJ2_length_9d52b, (cJ2_length_9d52b, (1, ((some .int), []))))
theorem mt_J2_length_9d52b : gm_mt mJ2_length_9d52b 1 := ⟨rfl, gm_in (i := 1044) (by decide +kernel) (by decide +kernel), gm_in (i := 88) (by decide +kernel) (by decide +kernel), ⟨by decide, by decide⟩, by decide +kernel, by decide⟩
theorem ms_J2_length_9d52b : Cond.static mJ2_length_9d52b.1 ∈ gm_big := gm_in (i := 1043) (by decide +kernel) (by decide +kernel)
abbrev mJ0_checkBoundsBeginEnd_23922 : gm_M := (yJ0_checkBoundsBeginEnd_23922, (cJ0_checkBoundsBeginEnd_23922, (3, (none, []))))
theorem mt_J0_checkBoundsBeginEnd_23922 : gm_mt mJ0_checkBoundsBeginEnd_23922 3 := ⟨rfl, gm_in (i := 1047) (by decide +kernel) (by decide +kernel), gm_in (i := 87) (by decide +kernel) (by decide +kernel), ⟨by decide, by decide⟩, by decide +kernel, by decide⟩
theorem ms_J0_checkBoundsBeginEnd_23922 : Cond.static mJ0_checkBoundsBeginEnd_23922.1 ∈ gm_big := gm_in (i := 1046) (by decide +kernel) (by decide +kernel)
abbrev mJ3_checkFromToIndex_8c36e : gm_M := (yJ3_checkFromToIndex_8c36e, (cJ3_checkFromToIndex_8c36e, (4, ((some .int), []))))
theorem mt_J3_checkFromToIndex_8c36e : gm_mt mJ3_checkFromToIndex_8c36e 4 := ⟨rfl, gm_in (i := 1052) (by decide +kernel) (by decide +kernel), gm_in (i := 100) (by decide +kernel) (by decide +kernel), ⟨by decide, by decide⟩, by decide +kernel, by decide⟩
theorem ms_J3_checkFromToIndex_8c36e : Cond.static mJ3_checkFromToIndex_8c36e.1 ∈ gm_big := gm_in (i := 1051) (by decide +kernel) (by decide +kernel)
abbrev mJ2_putChar_b72d1 : gm_M := (yJ2_putChar_b72d1, (cJ2_putChar_b72d1, (3, (none, []))))
theorem mt_J2_putChar_b72d1 : gm_mt mJ2_putChar_b72d1 3 := ⟨rfl, gm_in (i := 1055) (by decide +kernel) (by decide +kernel), gm_in (i := 88) (by decide +kernel) (by decide +kernel), ⟨by decide, by decide⟩, by decide +kernel, by decide⟩
theorem ms_J2_putChar_b72d1 : Cond.static mJ2_putChar_b72d1.1 ∈ gm_big := gm_in (i := 1054) (by decide +kernel) (by decide +kernel)
abbrev mJ0_length_8abf5 : gm_M := (yJ0_length_8abf5, (cJ0_length_8abf5, (1, ((some .int), []))))
theorem mt_J0_length_8abf5 : gm_mt mJ0_length_8abf5 0 := ⟨rfl, gm_in (i := 1065) (by decide +kernel) (by decide +kernel), gm_in (i := 87) (by decide +kernel) (by decide +kernel), ⟨by decide, by decide⟩, by decide +kernel, by decide⟩
theorem mv_J0_length_8abf5 : gm_mv mJ0_length_8abf5 RJ0 := ⟨gm_in (i := 1063) (by decide +kernel) (by decide +kernel), gm_in (i := 1064) (by decide +kernel) (by decide +kernel)⟩
abbrev mJ0_coder_7d493 : gm_M := (yJ0_coder_7d493, (cJ0_coder_7d493, (1, ((some .byte), []))))
theorem mt_J0_coder_7d493 : gm_mt mJ0_coder_7d493 0 := ⟨rfl, gm_in (i := 1069) (by decide +kernel) (by decide +kernel), gm_in (i := 87) (by decide +kernel) (by decide +kernel), ⟨by decide, by decide⟩, by decide +kernel, by decide⟩
theorem mv_J0_coder_7d493 : gm_mv mJ0_coder_7d493 RJ0 := ⟨gm_in (i := 1067) (by decide +kernel) (by decide +kernel), gm_in (i := 1068) (by decide +kernel) (by decide +kernel)⟩
abbrev mJ5_putStringAt_47b60 : gm_M := (yJ5_putStringAt_47b60, (cJ5_putStringAt_47b60, (3, (none, []))))
theorem mt_J5_putStringAt_47b60 : gm_mt mJ5_putStringAt_47b60 2 := ⟨rfl, gm_in (i := 1074) (by decide +kernel) (by decide +kernel), gm_in (i := 85) (by decide +kernel) (by decide +kernel), ⟨by decide, by decide⟩, by decide +kernel, by decide⟩
abbrev mJ5_inflateIfNeededFor_a7421 : gm_M := (yJ5_inflateIfNeededFor_a7421, (cJ5_inflateIfNeededFor_a7421, (2, (none, []))))
theorem mt_J5_inflateIfNeededFor_a7421 : gm_mt mJ5_inflateIfNeededFor_a7421 1 := ⟨rfl, gm_in (i := 1078) (by decide +kernel) (by decide +kernel), gm_in (i := 85) (by decide +kernel) (by decide +kernel), ⟨by decide, by decide⟩, by decide +kernel, by decide⟩
abbrev mJ5_inflate_da8c8 : gm_M := (yJ5_inflate_da8c8, (cJ5_inflate_da8c8, (2, (none, []))))
theorem mt_J5_inflate_da8c8 : gm_mt mJ5_inflate_da8c8 0 := ⟨rfl, gm_in (i := 1083) (by decide +kernel) (by decide +kernel), gm_in (i := 85) (by decide +kernel) (by decide +kernel), ⟨by decide, by decide⟩, by decide +kernel, by decide⟩
abbrev mJ1_inflate_0e8fd : gm_M := (yJ1_inflate_0e8fd, (cJ1_inflate_0e8fd, (5, (none, []))))
theorem mt_J1_inflate_0e8fd : gm_mt mJ1_inflate_0e8fd 5 := ⟨rfl, gm_in (i := 1086) (by decide +kernel) (by decide +kernel), gm_in (i := 99) (by decide +kernel) (by decide +kernel), ⟨by decide, by decide⟩, by decide +kernel, by decide⟩
theorem ms_J1_inflate_0e8fd : Cond.static mJ1_inflate_0e8fd.1 ∈ gm_big := gm_in (i := 1085) (by decide +kernel) (by decide +kernel)
abbrev mJ2_inflate_0e8fd : gm_M := (yJ2_inflate_0e8fd, (cJ2_inflate_0e8fd, (6, (none, []))))
theorem mt_J2_inflate_0e8fd : gm_mt mJ2_inflate_0e8fd 5 := ⟨rfl, gm_in (i := 1089) (by decide +kernel) (by decide +kernel), gm_in (i := 88) (by decide +kernel) (by decide +kernel), ⟨by decide, by decide⟩, by decide +kernel, by decide⟩
theorem ms_J2_inflate_0e8fd : Cond.static mJ2_inflate_0e8fd.1 ∈ gm_big := gm_in (i := 1088) (by decide +kernel) (by decide +kernel)
abbrev mJ2_checkBoundsOffCount_d044e : gm_M := (yJ2_checkBoundsOffCount_d044e, (cJ2_checkBoundsOffCount_d044e, (3, (none, []))))
theorem mt_J2_checkBoundsOffCount_d044e : gm_mt mJ2_checkBoundsOffCount_d044e 3 := ⟨rfl, gm_in (i := 1092) (by decide +kernel) (by decide +kernel), gm_in (i := 88) (by decide +kernel) (by decide +kernel), ⟨by decide, by decide⟩, by decide +kernel, by decide⟩
theorem ms_J2_checkBoundsOffCount_d044e : Cond.static mJ2_checkBoundsOffCount_d044e.1 ∈ gm_big := gm_in (i := 1091) (by decide +kernel) (by decide +kernel)
abbrev mJ0_checkBoundsOffCount_cabcc : gm_M := (yJ0_checkBoundsOffCount_cabcc, (cJ0_checkBoundsOffCount_cabcc, (3, ((some .int), []))))
theorem mt_J0_checkBoundsOffCount_cabcc : gm_mt mJ0_checkBoundsOffCount_cabcc 3 := ⟨rfl, gm_in (i := 1095) (by decide +kernel) (by decide +kernel), gm_in (i := 87) (by decide +kernel) (by decide +kernel), ⟨by decide, by decide⟩, by decide +kernel, by decide⟩
theorem ms_J0_checkBoundsOffCount_cabcc : Cond.static mJ0_checkBoundsOffCount_cabcc.1 ∈ gm_big := gm_in (i := 1094) (by decide +kernel) (by decide +kernel)
abbrev mJ3_checkFromIndexSize_8c36e : gm_M := (yJ3_checkFromIndexSize_8c36e, (cJ3_checkFromIndexSize_8c36e, (4, ((some .int), []))))
theorem mt_J3_checkFromIndexSize_8c36e : gm_mt mJ3_checkFromIndexSize_8c36e 4 := ⟨rfl, gm_in (i := 1098) (by decide +kernel) (by decide +kernel), gm_in (i := 100) (by decide +kernel) (by decide +kernel), ⟨by decide, by decide⟩, by decide +kernel, by decide⟩
theorem ms_J3_checkFromIndexSize_8c36e : Cond.static mJ3_checkFromIndexSize_8c36e.1 ∈ gm_big := gm_in (i := 1097) (by decide +kernel) (by decide +kernel)
abbrev mJ0_getBytes_840e7 : gm_M := (yJ0_getBytes_840e7, (cJ0_getBytes_840e7, (4, (none, []))))
theorem mt_J0_getBytes_840e7 : gm_mt mJ0_getBytes_840e7 3 := ⟨rfl, gm_in (i := 1102) (by decide +kernel) (by decide +kernel), gm_in (i := 87) (by decide +kernel) (by decide +kernel), ⟨by decide, by decide⟩, by decide +kernel, by decide⟩
theorem mv_J0_getBytes_840e7 : gm_mv mJ0_getBytes_840e7 RJ0 := ⟨gm_in (i := 1100) (by decide +kernel) (by decide +kernel), gm_in (i := 1101) (by decide +kernel) (by decide +kernel)⟩
abbrev mJ4_append_bf812 : gm_M := (yJ4_append_bf812, (cJ4_append_bf812, (2, ((some (.object "java/lang/StringBuilder")), []))))
theorem mt_J4_append_bf812 : gm_mt mJ4_append_bf812 1 := ⟨rfl, gm_in (i := 1108) (by decide +kernel) (by decide +kernel), gm_in (i := 86) (by decide +kernel) (by decide +kernel), ⟨by decide, by decide⟩, by decide +kernel, by decide⟩
theorem mv_J4_append_bf812 : gm_mv mJ4_append_bf812 RJ4 := ⟨gm_in (i := 1106) (by decide +kernel) (by decide +kernel), gm_in (i := 1107) (by decide +kernel) (by decide +kernel)⟩
abbrev mJ5_append_c97b9 : gm_M := (yJ5_append_c97b9, (cJ5_append_c97b9, (4, ((some (.object "java/lang/AbstractStringBuilder")), []))))
theorem mt_J5_append_c97b9 : gm_mt mJ5_append_c97b9 1 := ⟨rfl, gm_in (i := 1111) (by decide +kernel) (by decide +kernel), gm_in (i := 85) (by decide +kernel) (by decide +kernel), ⟨by decide, by decide⟩, by decide +kernel, by decide⟩
abbrev mJ6_stringSize_0f7a4 : gm_M := (yJ6_stringSize_0f7a4, (cJ6_stringSize_0f7a4, (4, ((some .int), []))))
theorem mt_J6_stringSize_0f7a4 : gm_mt mJ6_stringSize_0f7a4 1 := ⟨rfl, gm_in (i := 1114) (by decide +kernel) (by decide +kernel), gm_in (i := 106) (by decide +kernel) (by decide +kernel), ⟨by decide, by decide⟩, by decide +kernel, by decide⟩
theorem ms_J6_stringSize_0f7a4 : Cond.static mJ6_stringSize_0f7a4.1 ∈ gm_big := gm_in (i := 1113) (by decide +kernel) (by decide +kernel)
abbrev mJ6_getChars_ba4f3 : gm_M := (yJ6_getChars_ba4f3, (cJ6_getChars_ba4f3, (7, ((some .int), []))))
theorem mt_J6_getChars_ba4f3 : gm_mt mJ6_getChars_ba4f3 3 := ⟨rfl, gm_in (i := 1117) (by decide +kernel) (by decide +kernel), gm_in (i := 106) (by decide +kernel) (by decide +kernel), ⟨by decide, by decide⟩, by decide +kernel, by decide⟩
theorem ms_J6_getChars_ba4f3 : Cond.static mJ6_getChars_ba4f3.1 ∈ gm_big := gm_in (i := 1116) (by decide +kernel) (by decide +kernel)
abbrev mJ2_getChars_46870 : gm_M := (yJ2_getChars_46870, (cJ2_getChars_46870, (5, ((some .int), []))))
theorem mt_J2_getChars_46870 : gm_mt mJ2_getChars_46870 4 := ⟨rfl, gm_in (i := 1124) (by decide +kernel) (by decide +kernel), gm_in (i := 88) (by decide +kernel) (by decide +kernel), ⟨by decide, by decide⟩, by decide +kernel, by decide⟩
theorem ms_J2_getChars_46870 : Cond.static mJ2_getChars_46870.1 ∈ gm_big := gm_in (i := 1123) (by decide +kernel) (by decide +kernel)
abbrev mJ2_getChars_ba4f3 : gm_M := (yJ2_getChars_ba4f3, (cJ2_getChars_ba4f3, (7, ((some .int), []))))
theorem mt_J2_getChars_ba4f3 : gm_mt mJ2_getChars_ba4f3 3 := ⟨rfl, gm_in (i := 1127) (by decide +kernel) (by decide +kernel), gm_in (i := 88) (by decide +kernel) (by decide +kernel), ⟨by decide, by decide⟩, by decide +kernel, by decide⟩
theorem ms_J2_getChars_ba4f3 : Cond.static mJ2_getChars_ba4f3.1 ∈ gm_big := gm_in (i := 1126) (by decide +kernel) (by decide +kernel)
abbrev mJ4_toString_0e30d : gm_M := (yJ4_toString_0e30d, (cJ4_toString_0e30d, (1, ((some (.object "java/lang/String")), []))))
theorem mt_J4_toString_0e30d : gm_mt mJ4_toString_0e30d 0 := ⟨rfl, gm_in (i := 1133) (by decide +kernel) (by decide +kernel), gm_in (i := 86) (by decide +kernel) (by decide +kernel), ⟨by decide, by decide⟩, by decide +kernel, by decide⟩
theorem mv_J4_toString_0e30d : gm_mv mJ4_toString_0e30d RJ4 := ⟨gm_in (i := 1131) (by decide +kernel) (by decide +kernel), gm_in (i := 1132) (by decide +kernel) (by decide +kernel)⟩
abbrev mJ0_init_81219 : gm_M := (yJ0_init_81219, (cJ0_init_81219, (2, (none, []))))
theorem mt_J0_init_81219 : gm_mt mJ0_init_81219 1 := ⟨rfl, gm_in (i := 1137) (by decide +kernel) (by decide +kernel), gm_in (i := 87) (by decide +kernel) (by decide +kernel), ⟨by decide, by decide⟩, by decide +kernel, by decide⟩
theorem mi_J0_init_81219 : Cond.instanceMethod mJ0_init_81219.1 ∈ gm_big ∧ mJ0_init_81219.1.name = "<init>" ∧ mJ0_init_81219.2.2.2.1 = none := ⟨gm_in (i := 1136) (by decide +kernel) (by decide +kernel), rfl, rfl⟩
abbrev mJ0_init_db425 : gm_M := (yJ0_init_db425, (cJ0_init_db425, (5, (none, []))))
theorem mt_J0_init_db425 : gm_mt mJ0_init_db425 2 := ⟨rfl, gm_in (i := 1140) (by decide +kernel) (by decide +kernel), gm_in (i := 87) (by decide +kernel) (by decide +kernel), ⟨by decide, by decide⟩, by decide +kernel, by decide⟩
theorem mi_J0_init_db425 : Cond.instanceMethod mJ0_init_db425.1 ∈ gm_big ∧ mJ0_init_db425.1.name = "<init>" ∧ mJ0_init_db425.2.2.2.1 = none := ⟨gm_in (i := 1139) (by decide +kernel) (by decide +kernel), rfl, rfl⟩
abbrev mJ5_getValue_6d5f1 : gm_M := (yJ5_getValue_6d5f1, (cJ5_getValue_6d5f1, (1, ((some (.array .byte)), []))))
theorem mt_J5_getValue_6d5f1 : gm_mt mJ5_getValue_6d5f1 0 := ⟨rfl, gm_in (i := 1146) (by decide +kernel) (by decide +kernel), gm_in (i := 85) (by decide +kernel) (by decide +kernel), ⟨by decide, by decide⟩, by decide +kernel, by decide⟩
abbrev mJ4_length_8abf5 : gm_M := (yJ4_length_8abf5, (cJ4_length_8abf5, (1, ((some .int), []))))
theorem mt_J4_length_8abf5 : gm_mt mJ4_length_8abf5 0 := ⟨rfl, gm_in (i := 1152) (by decide +kernel) (by decide +kernel), gm_in (i := 86) (by decide +kernel) (by decide +kernel), ⟨by decide, by decide⟩, by decide +kernel, by decide⟩
theorem mv_J4_length_8abf5 : gm_mv mJ4_length_8abf5 RJ4 := ⟨gm_in (i := 1151) (by decide +kernel) (by decide +kernel), gm_in (i := 2190) (by decide +kernel) (by decide +kernel)⟩
abbrev mJ5_length_8abf5 : gm_M := (yJ5_length_8abf5, (cJ5_length_8abf5, (1, ((some .int), []))))
theorem mt_J5_length_8abf5 : gm_mt mJ5_length_8abf5 0 := ⟨rfl, gm_in (i := 1154) (by decide +kernel) (by decide +kernel), gm_in (i := 85) (by decide +kernel) (by decide +kernel), ⟨by decide, by decide⟩, by decide +kernel, by decide⟩
abbrev mJ7_copyOfRange_39247 : gm_M := (yJ7_copyOfRange_39247, (cJ7_copyOfRange_39247, (3, ((some (.array .byte)), []))))
theorem mt_J7_copyOfRange_39247 : gm_mt mJ7_copyOfRange_39247 3 := ⟨rfl, gm_in (i := 1158) (by decide +kernel) (by decide +kernel), gm_in (i := 98) (by decide +kernel) (by decide +kernel), ⟨by decide, by decide⟩, by decide +kernel, by decide⟩
theorem ms_J7_copyOfRange_39247 : Cond.static mJ7_copyOfRange_39247.1 ∈ gm_big := gm_in (i := 1157) (by decide +kernel) (by decide +kernel)
abbrev mJ7_copyOfRangeByte_39247 : gm_M := (yJ7_copyOfRangeByte_39247, (cJ7_copyOfRangeByte_39247, (5, ((some (.array .byte)), []))))
theorem mt_J7_copyOfRangeByte_39247 : gm_mt mJ7_copyOfRangeByte_39247 3 := ⟨rfl, gm_in (i := 1161) (by decide +kernel) (by decide +kernel), gm_in (i := 98) (by decide +kernel) (by decide +kernel), ⟨by decide, by decide⟩, by decide +kernel, by decide⟩
theorem ms_J7_copyOfRangeByte_39247 : Cond.static mJ7_copyOfRangeByte_39247.1 ∈ gm_big := gm_in (i := 1160) (by decide +kernel) (by decide +kernel)
abbrev mJ7_checkLength_df160 : gm_M := (yJ7_checkLength_df160, (cJ7_checkLength_df160, (2, (none, []))))
theorem mt_J7_checkLength_df160 : gm_mt mJ7_checkLength_df160 2 := ⟨rfl, gm_in (i := 1164) (by decide +kernel) (by decide +kernel), gm_in (i := 98) (by decide +kernel) (by decide +kernel), ⟨by decide, by decide⟩, by decide +kernel, by decide⟩
theorem ms_J7_checkLength_df160 : Cond.static mJ7_checkLength_df160.1 ∈ gm_big := gm_in (i := 1163) (by decide +kernel) (by decide +kernel)
abbrev mJ2_compress_39247 : gm_M := (yJ2_compress_39247, (cJ2_compress_39247, (6, ((some (.array .byte)), []))))
theorem mt_J2_compress_39247 : gm_mt mJ2_compress_39247 3 := ⟨rfl, gm_in (i := 1175) (by decide +kernel) (by decide +kernel), gm_in (i := 88) (by decide +kernel) (by decide +kernel), ⟨by decide, by decide⟩, by decide +kernel, by decide⟩
theorem ms_J2_compress_39247 : Cond.static mJ2_compress_39247.1 ∈ gm_big := gm_in (i := 1174) (by decide +kernel) (by decide +kernel)
abbrev mJ2_compress_5af95 : gm_M := (yJ2_compress_5af95, (cJ2_compress_5af95, (7, ((some .int), []))))
theorem mt_J2_compress_5af95 : gm_mt mJ2_compress_5af95 5 := ⟨rfl, gm_in (i := 1178) (by decide +kernel) (by decide +kernel), gm_in (i := 88) (by decide +kernel) (by decide +kernel), ⟨by decide, by decide⟩, by decide +kernel, by decide⟩
theorem ms_J2_compress_5af95 : Cond.static mJ2_compress_5af95.1 ∈ gm_big := gm_in (i := 1177) (by decide +kernel) (by decide +kernel)
abbrev mJ2_getChar_3b067 : gm_M := (yJ2_getChar_3b067, (cJ2_getChar_3b067, (2, ((some .char), []))))
theorem mt_J2_getChar_3b067 : gm_mt mJ2_getChar_3b067 2 := ⟨rfl, gm_in (i := 1181) (by decide +kernel) (by decide +kernel), gm_in (i := 88) (by decide +kernel) (by decide +kernel), ⟨by decide, by decide⟩, by decide +kernel, by decide⟩
theorem ms_J2_getChar_3b067 : Cond.static mJ2_getChar_3b067.1 ∈ gm_big := gm_in (i := 1180) (by decide +kernel) (by decide +kernel)
abbrev mJ2_coderFromArrayLen_85cad : gm_M := (yJ2_coderFromArrayLen_85cad, (cJ2_coderFromArrayLen_85cad, (2, ((some .byte), []))))
theorem mt_J2_coderFromArrayLen_85cad : gm_mt mJ2_coderFromArrayLen_85cad 2 := ⟨rfl, gm_in (i := 1185) (by decide +kernel) (by decide +kernel), gm_in (i := 88) (by decide +kernel) (by decide +kernel), ⟨by decide, by decide⟩, by decide +kernel, by decide⟩
theorem ms_J2_coderFromArrayLen_85cad : Cond.static mJ2_coderFromArrayLen_85cad.1 ∈ gm_big := gm_in (i := 1184) (by decide +kernel) (by decide +kernel)
abbrev mJ1_fillNull_b72d1 : gm_M := (yJ1_fillNull_b72d1, (cJ1_fillNull_b72d1, (3, (none, []))))
theorem mt_J1_fillNull_b72d1 : gm_mt mJ1_fillNull_b72d1 3 := ⟨rfl, gm_in (i := 1203) (by decide +kernel) (by decide +kernel), gm_in (i := 99) (by decide +kernel) (by decide +kernel), ⟨by decide, by decide⟩, by decide +kernel, by decide⟩
theorem ms_J1_fillNull_b72d1 : Cond.static mJ1_fillNull_b72d1.1 ∈ gm_big := gm_in (i := 1202) (by decide +kernel) (by decide +kernel)
abbrev mJ7_fill_eb02e : gm_M := (yJ7_fill_eb02e, (cJ7_fill_eb02e, (5, (none, []))))
theorem mt_J7_fill_eb02e : gm_mt mJ7_fill_eb02e 4 := ⟨rfl, gm_in (i := 1206) (by decide +kernel) (by decide +kernel), gm_in (i := 98) (by decide +kernel) (by decide +kernel), ⟨by decide, by decide⟩, by decide +kernel, by decide⟩
theorem ms_J7_fill_eb02e : Cond.static mJ7_fill_eb02e.1 ∈ gm_big := gm_in (i := 1205) (by decide +kernel) (by decide +kernel)
abbrev mJ7_rangeCheck_23922 : gm_M := (yJ7_rangeCheck_23922, (cJ7_rangeCheck_23922, (3, (none, []))))
theorem mt_J7_rangeCheck_23922 : gm_mt mJ7_rangeCheck_23922 3 := ⟨rfl, gm_in (i := 1209) (by decide +kernel) (by decide +kernel), gm_in (i := 98) (by decide +kernel) (by decide +kernel), ⟨by decide, by decide⟩, by decide +kernel, by decide⟩
theorem ms_J7_rangeCheck_23922 : Cond.static mJ7_rangeCheck_23922.1 ∈ gm_big := gm_in (i := 1208) (by decide +kernel) (by decide +kernel)
abbrev mJx00060_init_d00df : gm_M := (yJx00060_init_d00df, (cJx00060_init_d00df, (2, (none, []))))
theorem mt_Jx00060_init_d00df : gm_mt mJx00060_init_d00df 1 := ⟨rfl, gm_in (i := 1216) (by decide +kernel) (by decide +kernel), gm_in (i := 108) (by decide +kernel) (by decide +kernel), ⟨by decide, by decide⟩, by decide +kernel, by decide⟩
theorem mi_Jx00060_init_d00df : Cond.instanceMethod mJx00060_init_d00df.1 ∈ gm_big ∧ mJx00060_init_d00df.1.name = "<init>" ∧ mJx00060_init_d00df.2.2.2.1 = none := ⟨gm_in (i := 1215) (by decide +kernel) (by decide +kernel), rfl, rfl⟩
abbrev mJ2_fillNull_b72d1 : gm_M := (yJ2_fillNull_b72d1, (cJ2_fillNull_b72d1, (3, (none, []))))
theorem mt_J2_fillNull_b72d1 : gm_mt mJ2_fillNull_b72d1 3 := ⟨rfl, gm_in (i := 1225) (by decide +kernel) (by decide +kernel), gm_in (i := 88) (by decide +kernel) (by decide +kernel), ⟨by decide, by decide⟩, by decide +kernel, by decide⟩
theorem ms_J2_fillNull_b72d1 : Cond.static mJ2_fillNull_b72d1.1 ∈ gm_big := gm_in (i := 1224) (by decide +kernel) (by decide +kernel)
abbrev mJ4_append_cf468 : gm_M := (yJ4_append_cf468, (cJ4_append_cf468, (2, ((some (.object "java/lang/StringBuilder")), []))))
theorem mt_J4_append_cf468 : gm_mt mJ4_append_cf468 1 := ⟨rfl, gm_in (i := 1231) (by decide +kernel) (by decide +kernel), gm_in (i := 86) (by decide +kernel) (by decide +kernel), ⟨by decide, by decide⟩, by decide +kernel, by decide⟩
theorem mv_J4_append_cf468 : gm_mv mJ4_append_cf468 RJ4 := ⟨gm_in (i := 1229) (by decide +kernel) (by decide +kernel), gm_in (i := 1230) (by decide +kernel) (by decide +kernel)⟩
abbrev mJ5_append_3fe6f : gm_M := (yJ5_append_3fe6f, (cJ5_append_3fe6f, (2, ((some (.object "java/lang/AbstractStringBuilder")), []))))
theorem mt_J5_append_3fe6f : gm_mt mJ5_append_3fe6f 1 := ⟨rfl, gm_in (i := 1234) (by decide +kernel) (by decide +kernel), gm_in (i := 85) (by decide +kernel) (by decide +kernel), ⟨by decide, by decide⟩, by decide +kernel, by decide⟩
abbrev mJ1_canEncode_fc78d : gm_M := (yJ1_canEncode_fc78d, (cJ1_canEncode_fc78d, (1, ((some .boolean), []))))
theorem mt_J1_canEncode_fc78d : gm_mt mJ1_canEncode_fc78d 1 := ⟨rfl, gm_in (i := 1237) (by decide +kernel) (by decide +kernel), gm_in (i := 99) (by decide +kernel) (by decide +kernel), ⟨by decide, by decide⟩, by decide +kernel, by decide⟩
theorem ms_J1_canEncode_fc78d : Cond.static mJ1_canEncode_fc78d.1 ∈ gm_big := gm_in (i := 1236) (by decide +kernel) (by decide +kernel)
abbrev mJ2_putCharSB_b72d1 : gm_M := (yJ2_putCharSB_b72d1, (cJ2_putCharSB_b72d1, (3, (none, []))))
theorem mt_J2_putCharSB_b72d1 : gm_mt mJ2_putCharSB_b72d1 3 := ⟨rfl, gm_in (i := 1240) (by decide +kernel) (by decide +kernel), gm_in (i := 88) (by decide +kernel) (by decide +kernel), ⟨by decide, by decide⟩, by decide +kernel, by decide⟩
theorem ms_J2_putCharSB_b72d1 : Cond.static mJ2_putCharSB_b72d1.1 ∈ gm_big := gm_in (i := 1239) (by decide +kernel) (by decide +kernel)
abbrev mJ2_checkIndex_2214a : gm_M := (yJ2_checkIndex_2214a, (cJ2_checkIndex_2214a, (2, (none, []))))
theorem mt_J2_checkIndex_2214a : gm_mt mJ2_checkIndex_2214a 2 := ⟨rfl, gm_in (i := 1243) (by decide +kernel) (by decide +kernel), gm_in (i := 88) (by decide +kernel) (by decide +kernel), ⟨by decide, by decide⟩, by decide +kernel, by decide⟩
theorem ms_J2_checkIndex_2214a : Cond.static mJ2_checkIndex_2214a.1 ∈ gm_big := gm_in (i := 1242) (by decide +kernel) (by decide +kernel)
abbrev mJ0_checkIndex_df160 : gm_M := (yJ0_checkIndex_df160, (cJ0_checkIndex_df160, (2, (none, []))))
theorem mt_J0_checkIndex_df160 : gm_mt mJ0_checkIndex_df160 2 := ⟨rfl, gm_in (i := 1246) (by decide +kernel) (by decide +kernel), gm_in (i := 87) (by decide +kernel) (by decide +kernel), ⟨by decide, by decide⟩, by decide +kernel, by decide⟩
theorem ms_J0_checkIndex_df160 : Cond.static mJ0_checkIndex_df160.1 ∈ gm_big := gm_in (i := 1245) (by decide +kernel) (by decide +kernel)
abbrev mJ3_checkIndex_8e157 : gm_M := (yJ3_checkIndex_8e157, (cJ3_checkIndex_8e157, (3, ((some .int), []))))
theorem mt_J3_checkIndex_8e157 : gm_mt mJ3_checkIndex_8e157 3 := ⟨rfl, gm_in (i := 1249) (by decide +kernel) (by decide +kernel), gm_in (i := 100) (by decide +kernel) (by decide +kernel), ⟨by decide, by decide⟩, by decide +kernel, by decide⟩
theorem ms_J3_checkIndex_8e157 : Cond.static mJ3_checkIndex_8e157.1 ∈ gm_big := gm_in (i := 1248) (by decide +kernel) (by decide +kernel)
abbrev mX10_labelAt : gm_M := (yX10_labelAt, (cX10_labelAt, (2, ((some .char), []))))
theorem mt_X10_labelAt : gm_mt mX10_labelAt 1 := ⟨rfl, gm_in (i := 1263) (by decide +kernel) (by decide +kernel), gm_in (i := 78) (by decide +kernel) (by decide +kernel), ⟨by decide, by decide⟩, by decide +kernel, by decide⟩
theorem mv_X10_labelAt : gm_mv mX10_labelAt RX10 := ⟨gm_in (i := 1261) (by decide +kernel) (by decide +kernel), gm_in (i := 1262) (by decide +kernel) (by decide +kernel)⟩
abbrev mJ4_charAt_5068e : gm_M := (yJ4_charAt_5068e, (cJ4_charAt_5068e, (2, ((some .char), []))))
theorem mt_J4_charAt_5068e : gm_mt mJ4_charAt_5068e 1 := ⟨rfl, gm_in (i := 1268) (by decide +kernel) (by decide +kernel), gm_in (i := 86) (by decide +kernel) (by decide +kernel), ⟨by decide, by decide⟩, by decide +kernel, by decide⟩
theorem mv_J4_charAt_5068e : gm_mv mJ4_charAt_5068e RJ4 := ⟨gm_in (i := 1266) (by decide +kernel) (by decide +kernel), gm_in (i := 1267) (by decide +kernel) (by decide +kernel)⟩
abbrev mJ5_charAt_5068e : gm_M := (yJ5_charAt_5068e, (cJ5_charAt_5068e, (5, ((some .char), []))))
theorem mt_J5_charAt_5068e : gm_mt mJ5_charAt_5068e 1 := ⟨rfl, gm_in (i := 1271) (by decide +kernel) (by decide +kernel), gm_in (i := 85) (by decide +kernel) (by decide +kernel), ⟨by decide, by decide⟩, by decide +kernel, by decide⟩
abbrev mX10_type : gm_M := (yX10_type, (cX10_type, (2, ((some .int), []))))
theorem mt_X10_type : gm_mt mX10_type 1 := ⟨rfl, gm_in (i := 1281) (by decide +kernel) (by decide +kernel), gm_in (i := 78) (by decide +kernel) (by decide +kernel), ⟨by decide, by decide⟩, by decide +kernel, by decide⟩
theorem mv_X10_type : gm_mv mX10_type RX10 := ⟨gm_in (i := 1279) (by decide +kernel) (by decide +kernel), gm_in (i := 1280) (by decide +kernel) (by decide +kernel)⟩
abbrev mX7_append : gm_M := (yX7_append, (cX7_append, (2, (none, []))))
theorem mt_X7_append : gm_mt mX7_append 1 := ⟨rfl, gm_in (i := 1288) (by decide +kernel) (by decide +kernel), gm_in (i := 89) (by decide +kernel) (by decide +kernel), ⟨by decide, by decide⟩, by decide +kernel, by decide⟩
theorem mv_X7_append : gm_mv mX7_append RX7 := ⟨gm_in (i := 1287) (by decide +kernel) (by decide +kernel), gm_in (i := 44) (by decide +kernel) (by decide +kernel)⟩
abbrev mX10_execute : gm_M := (yX10_execute, (cX10_execute, (3, ((some .int), []))))
theorem mt_X10_execute : gm_mt mX10_execute 0 := ⟨rfl, gm_in (i := 1295) (by decide +kernel) (by decide +kernel), gm_in (i := 78) (by decide +kernel) (by decide +kernel), ⟨by decide, by decide⟩, by decide +kernel, by decide⟩
theorem mv_X10_execute : gm_mv mX10_execute RX10 := ⟨gm_in (i := 1293) (by decide +kernel) (by decide +kernel), gm_in (i := 1294) (by decide +kernel) (by decide +kernel)⟩
abbrev mX7_countCommands : gm_M := (yX7_countCommands, (cX7_countCommands, (2, ((some .int), []))))
theorem mt_X7_countCommands : gm_mt mX7_countCommands 0 := ⟨rfl, gm_in (i := 1299) (by decide +kernel) (by decide +kernel), gm_in (i := 89) (by decide +kernel) (by decide +kernel), ⟨by decide, by decide⟩, by decide +kernel, by decide⟩
theorem mv_X7_countCommands : gm_mv mX7_countCommands RX7 := ⟨gm_in (i := 1298) (by decide +kernel) (by decide +kernel), gm_in (i := 45) (by decide +kernel) (by decide +kernel)⟩
abbrev mX7_readsCommand : gm_M := (yX7_readsCommand, (cX7_readsCommand, (4, ((some .boolean), []))))
theorem mt_X7_readsCommand : gm_mt mX7_readsCommand 0 := ⟨rfl, gm_in (i := 1303) (by decide +kernel) (by decide +kernel), gm_in (i := 89) (by decide +kernel) (by decide +kernel), ⟨by decide, by decide⟩, by decide +kernel, by decide⟩
theorem mv_X7_readsCommand : gm_mv mX7_readsCommand RX7 := ⟨gm_in (i := 1302) (by decide +kernel) (by decide +kernel), gm_in (i := 46) (by decide +kernel) (by decide +kernel)⟩
abbrev mX7_follows : gm_M := (yX7_follows, (cX7_follows, (3, ((some .boolean), []))))
theorem mt_X7_follows : gm_mt mX7_follows 1 := ⟨rfl, gm_in (i := 1309) (by decide +kernel) (by decide +kernel), gm_in (i := 89) (by decide +kernel) (by decide +kernel), ⟨by decide, by decide⟩, by decide +kernel, by decide⟩
theorem mv_X7_follows : gm_mv mX7_follows RX7 := ⟨gm_in (i := 1308) (by decide +kernel) (by decide +kernel), gm_in (i := 47) (by decide +kernel) (by decide +kernel)⟩
abbrev mJ7_fill_53178 : gm_M := (yJ7_fill_53178, (cJ7_fill_53178, (4, (none, []))))
theorem mt_J7_fill_53178 : gm_mt mJ7_fill_53178 2 := ⟨rfl, gm_in (i := 1312) (by decide +kernel) (by decide +kernel), gm_in (i := 98) (by decide +kernel) (by decide +kernel), ⟨by decide, by decide⟩, by decide +kernel, by decide⟩
theorem ms_J7_fill_53178 : Cond.static mJ7_fill_53178.1 ∈ gm_big := gm_in (i := 1311) (by decide +kernel) (by decide +kernel)
abbrev mJ0_charAt_5068e : gm_M := (yJ0_charAt_5068e, (cJ0_charAt_5068e, (2, ((some .char), []))))
theorem mt_J0_charAt_5068e : gm_mt mJ0_charAt_5068e 1 := ⟨rfl, gm_in (i := 1317) (by decide +kernel) (by decide +kernel), gm_in (i := 87) (by decide +kernel) (by decide +kernel), ⟨by decide, by decide⟩, by decide +kernel, by decide⟩
theorem mv_J0_charAt_5068e : gm_mv mJ0_charAt_5068e RJ0 := ⟨gm_in (i := 1315) (by decide +kernel) (by decide +kernel), gm_in (i := 1316) (by decide +kernel) (by decide +kernel)⟩
abbrev mJ0_isLatin1_aae02 : gm_M := (yJ0_isLatin1_aae02, (cJ0_isLatin1_aae02, (1, ((some .boolean), []))))
theorem mt_J0_isLatin1_aae02 : gm_mt mJ0_isLatin1_aae02 0 := ⟨rfl, gm_in (i := 1321) (by decide +kernel) (by decide +kernel), gm_in (i := 87) (by decide +kernel) (by decide +kernel), ⟨by decide, by decide⟩, by decide +kernel, by decide⟩
theorem mv_J0_isLatin1_aae02 : gm_mv mJ0_isLatin1_aae02 RJ0 := ⟨gm_in (i := 1319) (by decide +kernel) (by decide +kernel), gm_in (i := 1320) (by decide +kernel) (by decide +kernel)⟩
abbrev mJ1_charAt_3b067 : gm_M := (yJ1_charAt_3b067, (cJ1_charAt_3b067, (2, ((some .char), []))))
theorem mt_J1_charAt_3b067 : gm_mt mJ1_charAt_3b067 2 := ⟨rfl, gm_in (i := 1324) (by decide +kernel) (by decide +kernel), gm_in (i := 99) (by decide +kernel) (by decide +kernel), ⟨by decide, by decide⟩, by decide +kernel, by decide⟩
theorem ms_J1_charAt_3b067 : Cond.static mJ1_charAt_3b067.1 ∈ gm_big := gm_in (i := 1323) (by decide +kernel) (by decide +kernel)
abbrev mJ2_charAt_3b067 : gm_M := (yJ2_charAt_3b067, (cJ2_charAt_3b067, (2, ((some .char), []))))
theorem mt_J2_charAt_3b067 : gm_mt mJ2_charAt_3b067 2 := ⟨rfl, gm_in (i := 1328) (by decide +kernel) (by decide +kernel), gm_in (i := 88) (by decide +kernel) (by decide +kernel), ⟨by decide, by decide⟩, by decide +kernel, by decide⟩
theorem ms_J2_charAt_3b067 : Cond.static mJ2_charAt_3b067.1 ∈ gm_big := gm_in (i := 1327) (by decide +kernel) (by decide +kernel)
abbrev mX7_takesPart : gm_M := (yX7_takesPart, (cX7_takesPart, (2, ((some .boolean), []))))
theorem mt_X7_takesPart : gm_mt mX7_takesPart 1 := ⟨rfl, gm_in (i := 1332) (by decide +kernel) (by decide +kernel), gm_in (i := 89) (by decide +kernel) (by decide +kernel), ⟨by decide, by decide⟩, by decide +kernel, by decide⟩
theorem mv_X7_takesPart : gm_mv mX7_takesPart RX7 := ⟨gm_in (i := 1331) (by decide +kernel) (by decide +kernel), gm_in (i := 48) (by decide +kernel) (by decide +kernel)⟩
abbrev mX7_takesNumber : gm_M := (yX7_takesNumber, (cX7_takesNumber, (5, ((some .boolean), []))))
theorem mt_X7_takesNumber : gm_mt mX7_takesNumber 2 := ⟨rfl, gm_in (i := 1336) (by decide +kernel) (by decide +kernel), gm_in (i := 89) (by decide +kernel) (by decide +kernel), ⟨by decide, by decide⟩, by decide +kernel, by decide⟩
theorem mv_X7_takesNumber : gm_mv mX7_takesNumber RX7 := ⟨gm_in (i := 1335) (by decide +kernel) (by decide +kernel), gm_in (i := 49) (by decide +kernel) (by decide +kernel)⟩
abbrev mX7_atDigit : gm_M := (yX7_atDigit, (cX7_atDigit, (1, ((some .boolean), []))))
theorem mt_X7_atDigit : gm_mt mX7_atDigit 0 := ⟨rfl, gm_in (i := 1340) (by decide +kernel) (by decide +kernel), gm_in (i := 89) (by decide +kernel) (by decide +kernel), ⟨by decide, by decide⟩, by decide +kernel, by decide⟩
theorem mv_X7_atDigit : gm_mv mX7_atDigit RX7 := ⟨gm_in (i := 1339) (by decide +kernel) (by decide +kernel), gm_in (i := 50) (by decide +kernel) (by decide +kernel)⟩
abbrev mX7_takesSign : gm_M := (yX7_takesSign, (cX7_takesSign, (2, ((some .boolean), []))))
theorem mt_X7_takesSign : gm_mt mX7_takesSign 1 := ⟨rfl, gm_in (i := 1344) (by decide +kernel) (by decide +kernel), gm_in (i := 89) (by decide +kernel) (by decide +kernel), ⟨by decide, by decide⟩, by decide +kernel, by decide⟩
theorem mv_X7_takesSign : gm_mv mX7_takesSign RX7 := ⟨gm_in (i := 1343) (by decide +kernel) (by decide +kernel), gm_in (i := 51) (by decide +kernel) (by decide +kernel)⟩
abbrev mX7_empty : gm_M := (yX7_empty, (cX7_empty, (1, (none, []))))
theorem mt_X7_empty : gm_mt mX7_empty 0 := ⟨rfl, gm_in (i := 1349) (by decide +kernel) (by decide +kernel), gm_in (i := 89) (by decide +kernel) (by decide +kernel), ⟨by decide, by decide⟩, by decide +kernel, by decide⟩
theorem mv_X7_empty : gm_mv mX7_empty RX7 := ⟨gm_in (i := 1348) (by decide +kernel) (by decide +kernel), gm_in (i := 52) (by decide +kernel) (by decide +kernel)⟩
abbrev mX10_performProgram : gm_M := (yX10_performProgram, (cX10_performProgram, (7, ((some .int), []))))
theorem mt_X10_performProgram : gm_mt mX10_performProgram 1 := ⟨rfl, gm_in (i := 1354) (by decide +kernel) (by decide +kernel), gm_in (i := 78) (by decide +kernel) (by decide +kernel), ⟨by decide, by decide⟩, by decide +kernel, by decide⟩
theorem mv_X10_performProgram : gm_mv mX10_performProgram RX10 := ⟨gm_in (i := 1353) (by decide +kernel) (by decide +kernel), gm_in (i := 53) (by decide +kernel) (by decide +kernel)⟩
abbrev mX2_putBack : gm_M := (yX2_putBack, (cX2_putBack, (2, (none, []))))
theorem mt_X2_putBack : gm_mt mX2_putBack 1 := ⟨rfl, gm_in (i := 1360) (by decide +kernel) (by decide +kernel), gm_in (i := 82) (by decide +kernel) (by decide +kernel), ⟨by decide, by decide⟩, by decide +kernel, by decide⟩
theorem mv_X2_putBack : gm_mv mX2_putBack RX2 := ⟨gm_in (i := 1359) (by decide +kernel) (by decide +kernel), gm_in (i := 54) (by decide +kernel) (by decide +kernel)⟩
abbrev mX10_errorPosition : gm_M := (yX10_errorPosition, (cX10_errorPosition, (1, ((some .int), []))))
theorem mt_X10_errorPosition : gm_mt mX10_errorPosition 0 := ⟨rfl, gm_in (i := 1368) (by decide +kernel) (by decide +kernel), gm_in (i := 78) (by decide +kernel) (by decide +kernel), ⟨by decide, by decide⟩, by decide +kernel, by decide⟩
theorem mv_X10_errorPosition : gm_mv mX10_errorPosition RX10 := ⟨gm_in (i := 1366) (by decide +kernel) (by decide +kernel), gm_in (i := 1367) (by decide +kernel) (by decide +kernel)⟩
abbrev mX10_failedCommand : gm_M := (yX10_failedCommand, (cX10_failedCommand, (1, ((some .int), []))))
theorem mt_X10_failedCommand : gm_mt mX10_failedCommand 0 := ⟨rfl, gm_in (i := 1376) (by decide +kernel) (by decide +kernel), gm_in (i := 78) (by decide +kernel) (by decide +kernel), ⟨by decide, by decide⟩, by decide +kernel, by decide⟩
theorem mv_X10_failedCommand : gm_mv mX10_failedCommand RX10 := ⟨gm_in (i := 1374) (by decide +kernel) (by decide +kernel), gm_in (i := 1375) (by decide +kernel) (by decide +kernel)⟩
abbrev mX10_undo : gm_M := (yX10_undo, (cX10_undo, (1, ((some .int), []))))
theorem mt_X10_undo : gm_mt mX10_undo 0 := ⟨rfl, gm_in (i := 1384) (by decide +kernel) (by decide +kernel), gm_in (i := 78) (by decide +kernel) (by decide +kernel), ⟨by decide, by decide⟩, by decide +kernel, by decide⟩
theorem mv_X10_undo : gm_mv mX10_undo RX10 := ⟨gm_in (i := 1382) (by decide +kernel) (by decide +kernel), gm_in (i := 1383) (by decide +kernel) (by decide +kernel)⟩
abbrev mX2_takeBack : gm_M := (yX2_takeBack, (cX2_takeBack, (2, (none, []))))
theorem mt_X2_takeBack : gm_mt mX2_takeBack 1 := ⟨rfl, gm_in (i := 1389) (by decide +kernel) (by decide +kernel), gm_in (i := 82) (by decide +kernel) (by decide +kernel), ⟨by decide, by decide⟩, by decide +kernel, by decide⟩
theorem mv_X2_takeBack : gm_mv mX2_takeBack RX2 := ⟨gm_in (i := 1388) (by decide +kernel) (by decide +kernel), gm_in (i := 55) (by decide +kernel) (by decide +kernel)⟩
abbrev mX10_restore : gm_M := (yX10_restore, (cX10_restore, (1, ((some .int), []))))
theorem mt_X10_restore : gm_mt mX10_restore 0 := ⟨rfl, gm_in (i := 1397) (by decide +kernel) (by decide +kernel), gm_in (i := 78) (by decide +kernel) (by decide +kernel), ⟨by decide, by decide⟩, by decide +kernel, by decide⟩
theorem mv_X10_restore : gm_mv mX10_restore RX10 := ⟨gm_in (i := 1395) (by decide +kernel) (by decide +kernel), gm_in (i := 1396) (by decide +kernel) (by decide +kernel)⟩
abbrev mX2_forget : gm_M := (yX2_forget, (cX2_forget, (1, (none, []))))
theorem mt_X2_forget : gm_mt mX2_forget 0 := ⟨rfl, gm_in (i := 1403) (by decide +kernel) (by decide +kernel), gm_in (i := 82) (by decide +kernel) (by decide +kernel), ⟨by decide, by decide⟩, by decide +kernel, by decide⟩
theorem mv_X2_forget : gm_mv mX2_forget RX2 := ⟨gm_in (i := 1402) (by decide +kernel) (by decide +kernel), gm_in (i := 56) (by decide +kernel) (by decide +kernel)⟩
abbrev mL_acts : gm_M := (yL_acts, (cL_acts, (4, ((some .int), []))))
theorem mt_L_acts : gm_mt mL_acts 3 := ⟨rfl, gm_in (i := 1406) (by decide +kernel) (by decide +kernel), gm_in (i := 77) (by decide +kernel) (by decide +kernel), ⟨by decide, by decide⟩, by decide +kernel, by decide⟩
theorem ms_L_acts : Cond.static mL_acts.1 ∈ gm_big := gm_in (i := 1405) (by decide +kernel) (by decide +kernel)
abbrev mX10_needleCount : gm_M := (yX10_needleCount, (cX10_needleCount, (1, ((some .int), []))))
theorem mt_X10_needleCount : gm_mt mX10_needleCount 0 := ⟨rfl, gm_in (i := 1410) (by decide +kernel) (by decide +kernel), gm_in (i := 78) (by decide +kernel) (by decide +kernel), ⟨by decide, by decide⟩, by decide +kernel, by decide⟩
theorem mv_X10_needleCount : gm_mv mX10_needleCount RX10 := ⟨gm_in (i := 1408) (by decide +kernel) (by decide +kernel), gm_in (i := 1409) (by decide +kernel) (by decide +kernel)⟩
abbrev mL_some : gm_M := (yL_some, (cL_some, (2, ((some .int), []))))
theorem mt_L_some : gm_mt mL_some 2 := ⟨rfl, gm_in (i := 1413) (by decide +kernel) (by decide +kernel), gm_in (i := 77) (by decide +kernel) (by decide +kernel), ⟨by decide, by decide⟩, by decide +kernel, by decide⟩
theorem ms_L_some : Cond.static mL_some.1 ∈ gm_big := gm_in (i := 1412) (by decide +kernel) (by decide +kernel)
abbrev mL_degrees : gm_M := (yL_degrees, (cL_degrees, (1, ((some .int), []))))
theorem mt_L_degrees : gm_mt mL_degrees 1 := ⟨rfl, gm_in (i := 1417) (by decide +kernel) (by decide +kernel), gm_in (i := 77) (by decide +kernel) (by decide +kernel), ⟨by decide, by decide⟩, by decide +kernel, by decide⟩
theorem ms_L_degrees : Cond.static mL_degrees.1 ∈ gm_big := gm_in (i := 1416) (by decide +kernel) (by decide +kernel)
abbrev mX10_clock : gm_M := (yX10_clock, (cX10_clock, (1, ((some .int), []))))
theorem mt_X10_clock : gm_mt mX10_clock 0 := ⟨rfl, gm_in (i := 1421) (by decide +kernel) (by decide +kernel), gm_in (i := 78) (by decide +kernel) (by decide +kernel), ⟨by decide, by decide⟩, by decide +kernel, by decide⟩
theorem mv_X10_clock : gm_mv mX10_clock RX10 := ⟨gm_in (i := 1419) (by decide +kernel) (by decide +kernel), gm_in (i := 1420) (by decide +kernel) (by decide +kernel)⟩
abbrev mL_batch : gm_M := (yL_batch, (cL_batch, (3, ((some .int), []))))
theorem mt_L_batch : gm_mt mL_batch 2 := ⟨rfl, gm_in (i := 1424) (by decide +kernel) (by decide +kernel), gm_in (i := 77) (by decide +kernel) (by decide +kernel), ⟨by decide, by decide⟩, by decide +kernel, by decide⟩
theorem ms_L_batch : Cond.static mL_batch.1 ∈ gm_big := gm_in (i := 1423) (by decide +kernel) (by decide +kernel)
abbrev mX10_batchCount : gm_M := (yX10_batchCount, (cX10_batchCount, (1, ((some .int), []))))
theorem mt_X10_batchCount : gm_mt mX10_batchCount 0 := ⟨rfl, gm_in (i := 1428) (by decide +kernel) (by decide +kernel), gm_in (i := 78) (by decide +kernel) (by decide +kernel), ⟨by decide, by decide⟩, by decide +kernel, by decide⟩
theorem mv_X10_batchCount : gm_mv mX10_batchCount RX10 := ⟨gm_in (i := 1426) (by decide +kernel) (by decide +kernel), gm_in (i := 1427) (by decide +kernel) (by decide +kernel)⟩
abbrev mX10_batchAt : gm_M := (yX10_batchAt, (cX10_batchAt, (2, ((some .int), []))))
theorem mt_X10_batchAt : gm_mt mX10_batchAt 1 := ⟨rfl, gm_in (i := 1435) (by decide +kernel) (by decide +kernel), gm_in (i := 78) (by decide +kernel) (by decide +kernel), ⟨by decide, by decide⟩, by decide +kernel, by decide⟩
theorem mv_X10_batchAt : gm_mv mX10_batchAt RX10 := ⟨gm_in (i := 1433) (by decide +kernel) (by decide +kernel), gm_in (i := 1434) (by decide +kernel) (by decide +kernel)⟩
abbrev mL_told : gm_M := (yL_told, (cL_told, (4, ((some (.object "java/lang/String")), []))))
theorem mt_L_told : gm_mt mL_told 1 := ⟨rfl, gm_in (i := 1439) (by decide +kernel) (by decide +kernel), gm_in (i := 77) (by decide +kernel) (by decide +kernel), ⟨by decide, by decide⟩, by decide +kernel, by decide⟩
theorem ms_L_told : Cond.static mL_told.1 ∈ gm_big := gm_in (i := 1438) (by decide +kernel) (by decide +kernel)
abbrev mL_said : gm_M := (yL_said, (cL_said, (4, ((some (.object "java/lang/String")), []))))
theorem mt_L_said : gm_mt mL_said 2 := ⟨rfl, gm_in (i := 1444) (by decide +kernel) (by decide +kernel), gm_in (i := 77) (by decide +kernel) (by decide +kernel), ⟨by decide, by decide⟩, by decide +kernel, by decide⟩
theorem ms_L_said : Cond.static mL_said.1 ∈ gm_big := gm_in (i := 1443) (by decide +kernel) (by decide +kernel)
abbrev mX10_latenessNow : gm_M := (yX10_latenessNow, (cX10_latenessNow, (3, ((some .int), []))))
theorem mt_X10_latenessNow : gm_mt mX10_latenessNow 1 := ⟨rfl, gm_in (i := 1455) (by decide +kernel) (by decide +kernel), gm_in (i := 78) (by decide +kernel) (by decide +kernel), ⟨by decide, by decide⟩, by decide +kernel, by decide⟩
theorem mv_X10_latenessNow : gm_mv mX10_latenessNow RX10 := ⟨gm_in (i := 1453) (by decide +kernel) (by decide +kernel), gm_in (i := 1454) (by decide +kernel) (by decide +kernel)⟩
abbrev mX10_bakedCount : gm_M := (yX10_bakedCount, (cX10_bakedCount, (1, ((some .int), []))))
theorem mt_X10_bakedCount : gm_mt mX10_bakedCount 0 := ⟨rfl, gm_in (i := 1461) (by decide +kernel) (by decide +kernel), gm_in (i := 78) (by decide +kernel) (by decide +kernel), ⟨by decide, by decide⟩, by decide +kernel, by decide⟩
theorem mv_X10_bakedCount : gm_mv mX10_bakedCount RX10 := ⟨gm_in (i := 1459) (by decide +kernel) (by decide +kernel), gm_in (i := 1460) (by decide +kernel) (by decide +kernel)⟩
abbrev mX10_latenessTotal : gm_M := (yX10_latenessTotal, (cX10_latenessTotal, (1, ((some .long), []))))
theorem mt_X10_latenessTotal : gm_mt mX10_latenessTotal 0 := ⟨rfl, gm_in (i := 1465) (by decide +kernel) (by decide +kernel), gm_in (i := 78) (by decide +kernel) (by decide +kernel), ⟨by decide, by decide⟩, by decide +kernel, by decide⟩
theorem mv_X10_latenessTotal : gm_mv mX10_latenessTotal RX10 := ⟨gm_in (i := 1463) (by decide +kernel) (by decide +kernel), gm_in (i := 1464) (by decide +kernel) (by decide +kernel)⟩
abbrev mJ4_append_f7089 : gm_M := (yJ4_append_f7089, (cJ4_append_f7089, (3, ((some (.object "java/lang/StringBuilder")), []))))
theorem mt_J4_append_f7089 : gm_mt mJ4_append_f7089 1 := ⟨rfl, gm_in (i := 1469) (by decide +kernel) (by decide +kernel), gm_in (i := 86) (by decide +kernel) (by decide +kernel), ⟨by decide, by decide⟩, by decide +kernel, by decide⟩
theorem mv_J4_append_f7089 : gm_mv mJ4_append_f7089 RJ4 := ⟨gm_in (i := 1467) (by decide +kernel) (by decide +kernel), gm_in (i := 1468) (by decide +kernel) (by decide +kernel)⟩
abbrev mJ5_append_66267 : gm_M := (yJ5_append_66267, (cJ5_append_66267, (5, ((some (.object "java/lang/AbstractStringBuilder")), []))))
theorem mt_J5_append_66267 : gm_mt mJ5_append_66267 1 := ⟨rfl, gm_in (i := 1472) (by decide +kernel) (by decide +kernel), gm_in (i := 85) (by decide +kernel) (by decide +kernel), ⟨by decide, by decide⟩, by decide +kernel, by decide⟩
abbrev mJ13_stringSize_95d88 : gm_M := (yJ13_stringSize_95d88, (cJ13_stringSize_95d88, (6, ((some .int), []))))
theorem mt_J13_stringSize_95d88 : gm_mt mJ13_stringSize_95d88 1 := ⟨rfl, gm_in (i := 1475) (by decide +kernel) (by decide +kernel), gm_in (i := 114) (by decide +kernel) (by decide +kernel), ⟨by decide, by decide⟩, by decide +kernel, by decide⟩
theorem ms_J13_stringSize_95d88 : Cond.static mJ13_stringSize_95d88.1 ∈ gm_big := gm_in (i := 1474) (by decide +kernel) (by decide +kernel)
abbrev mJ13_getChars_11360 : gm_M := (yJ13_getChars_11360, (cJ13_getChars_11360, (11, ((some .int), []))))
theorem mt_J13_getChars_11360 : gm_mt mJ13_getChars_11360 3 := ⟨rfl, gm_in (i := 1480) (by decide +kernel) (by decide +kernel), gm_in (i := 114) (by decide +kernel) (by decide +kernel), ⟨by decide, by decide⟩, by decide +kernel, by decide⟩
theorem ms_J13_getChars_11360 : Cond.static mJ13_getChars_11360.1 ∈ gm_big := gm_in (i := 1479) (by decide +kernel) (by decide +kernel)
abbrev mJ2_getChars_1ba55 : gm_M := (yJ2_getChars_1ba55, (cJ2_getChars_1ba55, (6, ((some .int), []))))
theorem mt_J2_getChars_1ba55 : gm_mt mJ2_getChars_1ba55 4 := ⟨rfl, gm_in (i := 1487) (by decide +kernel) (by decide +kernel), gm_in (i := 88) (by decide +kernel) (by decide +kernel), ⟨by decide, by decide⟩, by decide +kernel, by decide⟩
theorem ms_J2_getChars_1ba55 : Cond.static mJ2_getChars_1ba55.1 ∈ gm_big := gm_in (i := 1486) (by decide +kernel) (by decide +kernel)
abbrev mJ2_getChars_11360 : gm_M := (yJ2_getChars_11360, (cJ2_getChars_11360, (11, ((some .int), []))))
theorem mt_J2_getChars_11360 : gm_mt mJ2_getChars_11360 3 := ⟨rfl, gm_in (i := 1490) (by decide +kernel) (by decide +kernel), gm_in (i := 88) (by decide +kernel) (by decide +kernel), ⟨by decide, by decide⟩, by decide +kernel, by decide⟩
theorem ms_J2_getChars_11360 : Cond.static mJ2_getChars_11360.1 ∈ gm_big := gm_in (i := 1489) (by decide +kernel) (by decide +kernel)
abbrev mX10_latenessByIds : gm_M := (yX10_latenessByIds, (cX10_latenessByIds, (1, ((some .int), []))))
theorem mt_X10_latenessByIds : gm_mt mX10_latenessByIds 0 := ⟨rfl, gm_in (i := 1496) (by decide +kernel) (by decide +kernel), gm_in (i := 78) (by decide +kernel) (by decide +kernel), ⟨by decide, by decide⟩, by decide +kernel, by decide⟩
theorem mv_X10_latenessByIds : gm_mv mX10_latenessByIds RX10 := ⟨gm_in (i := 1494) (by decide +kernel) (by decide +kernel), gm_in (i := 1495) (by decide +kernel) (by decide +kernel)⟩
abbrev mX4_latenessInOrderOfIds : gm_M := (yX4_latenessInOrderOfIds, (cX4_latenessInOrderOfIds, (5, ((some .int), []))))
theorem mt_X4_latenessInOrderOfIds : gm_mt mX4_latenessInOrderOfIds 1 := ⟨rfl, gm_in (i := 1500) (by decide +kernel) (by decide +kernel), gm_in (i := 84) (by decide +kernel) (by decide +kernel), ⟨by decide, by decide⟩, by decide +kernel, by decide⟩
theorem mv_X4_latenessInOrderOfIds : gm_mv mX4_latenessInOrderOfIds RX4 := ⟨gm_in (i := 1499) (by decide +kernel) (by decide +kernel), gm_in (i := 57) (by decide +kernel) (by decide +kernel)⟩
abbrev mL_stock : gm_M := (yL_stock, (cL_stock, (2, ((some .int), []))))
theorem mt_L_stock : gm_mt mL_stock 1 := ⟨rfl, gm_in (i := 1503) (by decide +kernel) (by decide +kernel), gm_in (i := 77) (by decide +kernel) (by decide +kernel), ⟨by decide, by decide⟩, by decide +kernel, by decide⟩
theorem ms_L_stock : Cond.static mL_stock.1 ∈ gm_big := gm_in (i := 1502) (by decide +kernel) (by decide +kernel)
abbrev mL_needles : gm_M := (yL_needles, (cL_needles, (15, ((some .boolean), []))))
theorem mt_L_needles : gm_mt mL_needles 1 := ⟨rfl, gm_in (i := 1506) (by decide +kernel) (by decide +kernel), gm_in (i := 77) (by decide +kernel) (by decide +kernel), ⟨by decide, by decide⟩, by decide +kernel, by decide⟩
theorem ms_L_needles : Cond.static mL_needles.1 ∈ gm_big := gm_in (i := 1505) (by decide +kernel) (by decide +kernel)
abbrev mX10_strengthOf : gm_M := (yX10_strengthOf, (cX10_strengthOf, (2, ((some .int), []))))
theorem mt_X10_strengthOf : gm_mt mX10_strengthOf 1 := ⟨rfl, gm_in (i := 1514) (by decide +kernel) (by decide +kernel), gm_in (i := 78) (by decide +kernel) (by decide +kernel), ⟨by decide, by decide⟩, by decide +kernel, by decide⟩
theorem mv_X10_strengthOf : gm_mv mX10_strengthOf RX10 := ⟨gm_in (i := 1512) (by decide +kernel) (by decide +kernel), gm_in (i := 1513) (by decide +kernel) (by decide +kernel)⟩
abbrev mJ4_init_a7421 : gm_M := (yJ4_init_a7421, (cJ4_init_a7421, (2, (none, []))))
theorem mt_J4_init_a7421 : gm_mt mJ4_init_a7421 1 := ⟨rfl, gm_in (i := 1517) (by decide +kernel) (by decide +kernel), gm_in (i := 86) (by decide +kernel) (by decide +kernel), ⟨by decide, by decide⟩, by decide +kernel, by decide⟩
theorem mi_J4_init_a7421 : Cond.instanceMethod mJ4_init_a7421.1 ∈ gm_big ∧ mJ4_init_a7421.1.name = "<init>" ∧ mJ4_init_a7421.2.2.2.1 = none := ⟨gm_in (i := 1516) (by decide +kernel) (by decide +kernel), rfl, rfl⟩
abbrev mJ5_init_a7421 : gm_M := (yJ5_init_a7421, (cJ5_init_a7421, (5, (none, []))))
theorem mt_J5_init_a7421 : gm_mt mJ5_init_a7421 1 := ⟨rfl, gm_in (i := 1520) (by decide +kernel) (by decide +kernel), gm_in (i := 85) (by decide +kernel) (by decide +kernel), ⟨by decide, by decide⟩, by decide +kernel, by decide⟩
theorem mi_J5_init_a7421 : Cond.instanceMethod mJ5_init_a7421.1 ∈ gm_big ∧ mJ5_init_a7421.1.name = "<init>" ∧ mJ5_init_a7421.2.2.2.1 = none := ⟨gm_in (i := 1519) (by decide +kernel) (by decide +kernel), rfl, rfl⟩
abbrev mJ4_append_cf1ce : gm_M := (yJ4_append_cf1ce, (cJ4_append_cf1ce, (2, ((some (.object "java/lang/AbstractStringBuilder")), []))))
theorem mt_J4_append_cf1ce : gm_mt mJ4_append_cf1ce 1 := ⟨rfl, gm_in (i := 1524) (by decide +kernel) (by decide +kernel), gm_in (i := 86) (by decide +kernel) (by decide +kernel), ⟨by decide, by decide⟩, by decide +kernel, by decide⟩
abbrev mX10_deviationAt : gm_M := (yX10_deviationAt, (cX10_deviationAt, (3, ((some .int), []))))
theorem mt_X10_deviationAt : gm_mt mX10_deviationAt 2 := ⟨rfl, gm_in (i := 1532) (by decide +kernel) (by decide +kernel), gm_in (i := 78) (by decide +kernel) (by decide +kernel), ⟨by decide, by decide⟩, by decide +kernel, by decide⟩
theorem mv_X10_deviationAt : gm_mv mX10_deviationAt RX10 := ⟨gm_in (i := 1530) (by decide +kernel) (by decide +kernel), gm_in (i := 1531) (by decide +kernel) (by decide +kernel)⟩
abbrev mX10_needCourse : gm_M := (yX10_needCourse, (cX10_needCourse, (1, (none, []))))
theorem mt_X10_needCourse : gm_mt mX10_needCourse 1 := ⟨rfl, gm_in (i := 1535) (by decide +kernel) (by decide +kernel), gm_in (i := 78) (by decide +kernel) (by decide +kernel), ⟨by decide, by decide⟩, by decide +kernel, by decide⟩
theorem ms_X10_needCourse : Cond.static mX10_needCourse.1 ∈ gm_big := gm_in (i := 1534) (by decide +kernel) (by decide +kernel)
abbrev mX3_interpolated : gm_M := (yX3_interpolated, (cX3_interpolated, (6, ((some .int), []))))
theorem mt_X3_interpolated : gm_mt mX3_interpolated 2 := ⟨rfl, gm_in (i := 1540) (by decide +kernel) (by decide +kernel), gm_in (i := 80) (by decide +kernel) (by decide +kernel), ⟨by decide, by decide⟩, by decide +kernel, by decide⟩
theorem mv_X3_interpolated : gm_mv mX3_interpolated RX3 := ⟨gm_in (i := 1539) (by decide +kernel) (by decide +kernel), gm_in (i := 58) (by decide +kernel) (by decide +kernel)⟩
abbrev mJ9_floorDiv_7cf53 : gm_M := (yJ9_floorDiv_7cf53, (cJ9_floorDiv_7cf53, (3, ((some .int), []))))
theorem mt_J9_floorDiv_7cf53 : gm_mt mJ9_floorDiv_7cf53 2 := ⟨rfl, gm_in (i := 1543) (by decide +kernel) (by decide +kernel), gm_in (i := 101) (by decide +kernel) (by decide +kernel), ⟨by decide, by decide⟩, by decide +kernel, by decide⟩
theorem ms_J9_floorDiv_7cf53 : Cond.static mJ9_floorDiv_7cf53.1 ∈ gm_big := gm_in (i := 1542) (by decide +kernel) (by decide +kernel)
abbrev mX10_isDiscarded : gm_M := (yX10_isDiscarded, (cX10_isDiscarded, (2, ((some .boolean), []))))
theorem mt_X10_isDiscarded : gm_mt mX10_isDiscarded 1 := ⟨rfl, gm_in (i := 1551) (by decide +kernel) (by decide +kernel), gm_in (i := 78) (by decide +kernel) (by decide +kernel), ⟨by decide, by decide⟩, by decide +kernel, by decide⟩
theorem mv_X10_isDiscarded : gm_mv mX10_isDiscarded RX10 := ⟨gm_in (i := 1549) (by decide +kernel) (by decide +kernel), gm_in (i := 1550) (by decide +kernel) (by decide +kernel)⟩
abbrev mX10_bestShift : gm_M := (yX10_bestShift, (cX10_bestShift, (2, ((some .int), []))))
theorem mt_X10_bestShift : gm_mt mX10_bestShift 1 := ⟨rfl, gm_in (i := 1561) (by decide +kernel) (by decide +kernel), gm_in (i := 78) (by decide +kernel) (by decide +kernel), ⟨by decide, by decide⟩, by decide +kernel, by decide⟩
theorem mv_X10_bestShift : gm_mv mX10_bestShift RX10 := ⟨gm_in (i := 1559) (by decide +kernel) (by decide +kernel), gm_in (i := 1560) (by decide +kernel) (by decide +kernel)⟩
abbrev mX3_shiftByTrying : gm_M := (yX3_shiftByTrying, (cX3_shiftByTrying, (7, ((some .int), []))))
theorem mt_X3_shiftByTrying : gm_mt mX3_shiftByTrying 1 := ⟨rfl, gm_in (i := 1565) (by decide +kernel) (by decide +kernel), gm_in (i := 80) (by decide +kernel) (by decide +kernel), ⟨by decide, by decide⟩, by decide +kernel, by decide⟩
theorem mv_X3_shiftByTrying : gm_mv mX3_shiftByTrying RX3 := ⟨gm_in (i := 1564) (by decide +kernel) (by decide +kernel), gm_in (i := 59) (by decide +kernel) (by decide +kernel)⟩
abbrev mX10_errorOf : gm_M := (yX10_errorOf, (cX10_errorOf, (2, ((some .int), []))))
theorem mt_X10_errorOf : gm_mt mX10_errorOf 1 := ⟨rfl, gm_in (i := 1572) (by decide +kernel) (by decide +kernel), gm_in (i := 78) (by decide +kernel) (by decide +kernel), ⟨by decide, by decide⟩, by decide +kernel, by decide⟩
theorem mv_X10_errorOf : gm_mv mX10_errorOf RX10 := ⟨gm_in (i := 1570) (by decide +kernel) (by decide +kernel), gm_in (i := 1571) (by decide +kernel) (by decide +kernel)⟩
abbrev mX10_isReject : gm_M := (yX10_isReject, (cX10_isReject, (2, ((some .boolean), []))))
theorem mt_X10_isReject : gm_mt mX10_isReject 1 := ⟨rfl, gm_in (i := 1579) (by decide +kernel) (by decide +kernel), gm_in (i := 78) (by decide +kernel) (by decide +kernel), ⟨by decide, by decide⟩, by decide +kernel, by decide⟩
theorem mv_X10_isReject : gm_mv mX10_isReject RX10 := ⟨gm_in (i := 1577) (by decide +kernel) (by decide +kernel), gm_in (i := 1578) (by decide +kernel) (by decide +kernel)⟩
abbrev mX10_bestShiftBySum : gm_M := (yX10_bestShiftBySum, (cX10_bestShiftBySum, (2, ((some .int), []))))
theorem mt_X10_bestShiftBySum : gm_mt mX10_bestShiftBySum 1 := ⟨rfl, gm_in (i := 1586) (by decide +kernel) (by decide +kernel), gm_in (i := 78) (by decide +kernel) (by decide +kernel), ⟨by decide, by decide⟩, by decide +kernel, by decide⟩
theorem mv_X10_bestShiftBySum : gm_mv mX10_bestShiftBySum RX10 := ⟨gm_in (i := 1584) (by decide +kernel) (by decide +kernel), gm_in (i := 1585) (by decide +kernel) (by decide +kernel)⟩
abbrev mJ0_equals_9ea2d : gm_M := (yJ0_equals_9ea2d, (cJ0_equals_9ea2d, (3, ((some .boolean), []))))
theorem mt_J0_equals_9ea2d : gm_mt mJ0_equals_9ea2d 1 := ⟨rfl, gm_in (i := 1591) (by decide +kernel) (by decide +kernel), gm_in (i := 87) (by decide +kernel) (by decide +kernel), ⟨by decide, by decide⟩, by decide +kernel, by decide⟩
theorem mv_J0_equals_9ea2d : gm_mv mJ0_equals_9ea2d RJ0 := ⟨gm_in (i := 1589) (by decide +kernel) (by decide +kernel), gm_in (i := 1590) (by decide +kernel) (by decide +kernel)⟩
abbrev mJ1_equals_b5fdf : gm_M := (yJ1_equals_b5fdf, (cJ1_equals_b5fdf, (3, ((some .boolean), []))))
theorem mt_J1_equals_b5fdf : gm_mt mJ1_equals_b5fdf 2 := ⟨rfl, gm_in (i := 1595) (by decide +kernel) (by decide +kernel), gm_in (i := 99) (by decide +kernel) (by decide +kernel), ⟨by decide, by decide⟩, by decide +kernel, by decide⟩
theorem ms_J1_equals_b5fdf : Cond.static mJ1_equals_b5fdf.1 ∈ gm_big := gm_in (i := 1594) (by decide +kernel) (by decide +kernel)
abbrev mX10_goodCount : gm_M := (yX10_goodCount, (cX10_goodCount, (1, ((some .int), []))))
theorem mt_X10_goodCount : gm_mt mX10_goodCount 0 := ⟨rfl, gm_in (i := 1599) (by decide +kernel) (by decide +kernel), gm_in (i := 78) (by decide +kernel) (by decide +kernel), ⟨by decide, by decide⟩, by decide +kernel, by decide⟩
theorem mv_X10_goodCount : gm_mv mX10_goodCount RX10 := ⟨gm_in (i := 1597) (by decide +kernel) (by decide +kernel), gm_in (i := 1598) (by decide +kernel) (by decide +kernel)⟩
abbrev mL_courses : gm_M := (yL_courses, (cL_courses, (11, ((some .boolean), []))))
theorem mt_L_courses : gm_mt mL_courses 2 := ⟨rfl, gm_in (i := 1602) (by decide +kernel) (by decide +kernel), gm_in (i := 77) (by decide +kernel) (by decide +kernel), ⟨by decide, by decide⟩, by decide +kernel, by decide⟩
theorem ms_L_courses : Cond.static mL_courses.1 ∈ gm_big := gm_in (i := 1601) (by decide +kernel) (by decide +kernel)
abbrev mX10_trueCourse : gm_M := (yX10_trueCourse, (cX10_trueCourse, (3, ((some .int), []))))
theorem mt_X10_trueCourse : gm_mt mX10_trueCourse 2 := ⟨rfl, gm_in (i := 1609) (by decide +kernel) (by decide +kernel), gm_in (i := 78) (by decide +kernel) (by decide +kernel), ⟨by decide, by decide⟩, by decide +kernel, by decide⟩
theorem mv_X10_trueCourse : gm_mv mX10_trueCourse RX10 := ⟨gm_in (i := 1607) (by decide +kernel) (by decide +kernel), gm_in (i := 1608) (by decide +kernel) (by decide +kernel)⟩
abbrev mX3_corrected : gm_M := (yX3_corrected, (cX3_corrected, (3, ((some .int), []))))
theorem mt_X3_corrected : gm_mt mX3_corrected 2 := ⟨rfl, gm_in (i := 1613) (by decide +kernel) (by decide +kernel), gm_in (i := 80) (by decide +kernel) (by decide +kernel), ⟨by decide, by decide⟩, by decide +kernel, by decide⟩
theorem mv_X3_corrected : gm_mv mX3_corrected RX3 := ⟨gm_in (i := 1612) (by decide +kernel) (by decide +kernel), gm_in (i := 60) (by decide +kernel) (by decide +kernel)⟩
abbrev mJ9_floorMod_7cf53 : gm_M := (yJ9_floorMod_7cf53, (cJ9_floorMod_7cf53, (3, ((some .int), []))))
theorem mt_J9_floorMod_7cf53 : gm_mt mJ9_floorMod_7cf53 2 := ⟨rfl, gm_in (i := 1617) (by decide +kernel) (by decide +kernel), gm_in (i := 101) (by decide +kernel) (by decide +kernel), ⟨by decide, by decide⟩, by decide +kernel, by decide⟩
theorem ms_J9_floorMod_7cf53 : Cond.static mJ9_floorMod_7cf53.1 ∈ gm_big := gm_in (i := 1616) (by decide +kernel) (by decide +kernel)
abbrev mX10_courseFor : gm_M := (yX10_courseFor, (cX10_courseFor, (3, ((some .int), []))))
theorem mt_X10_courseFor : gm_mt mX10_courseFor 2 := ⟨rfl, gm_in (i := 1626) (by decide +kernel) (by decide +kernel), gm_in (i := 78) (by decide +kernel) (by decide +kernel), ⟨by decide, by decide⟩, by decide +kernel, by decide⟩
theorem mv_X10_courseFor : gm_mv mX10_courseFor RX10 := ⟨gm_in (i := 1624) (by decide +kernel) (by decide +kernel), gm_in (i := 1625) (by decide +kernel) (by decide +kernel)⟩
abbrev mX3_lowestCourse : gm_M := (yX3_lowestCourse, (cX3_lowestCourse, (4, ((some .int), []))))
theorem mt_X3_lowestCourse : gm_mt mX3_lowestCourse 2 := ⟨rfl, gm_in (i := 1630) (by decide +kernel) (by decide +kernel), gm_in (i := 80) (by decide +kernel) (by decide +kernel), ⟨by decide, by decide⟩, by decide +kernel, by decide⟩
theorem mv_X3_lowestCourse : gm_mv mX3_lowestCourse RX3 := ⟨gm_in (i := 1629) (by decide +kernel) (by decide +kernel), gm_in (i := 61) (by decide +kernel) (by decide +kernel)⟩
abbrev mX10_found : gm_M := (yX10_found, (cX10_found, (1, ((some .int), []))))
theorem mt_X10_found : gm_mt mX10_found 1 := ⟨rfl, gm_in (i := 1634) (by decide +kernel) (by decide +kernel), gm_in (i := 78) (by decide +kernel) (by decide +kernel), ⟨by decide, by decide⟩, by decide +kernel, by decide⟩
theorem ms_X10_found : Cond.static mX10_found.1 ∈ gm_big := gm_in (i := 1633) (by decide +kernel) (by decide +kernel)
abbrev mX10_courseForNearby : gm_M := (yX10_courseForNearby, (cX10_courseForNearby, (3, ((some .int), []))))
theorem mt_X10_courseForNearby : gm_mt mX10_courseForNearby 2 := ⟨rfl, gm_in (i := 1642) (by decide +kernel) (by decide +kernel), gm_in (i := 78) (by decide +kernel) (by decide +kernel), ⟨by decide, by decide⟩, by decide +kernel, by decide⟩
theorem mv_X10_courseForNearby : gm_mv mX10_courseForNearby RX10 := ⟨gm_in (i := 1640) (by decide +kernel) (by decide +kernel), gm_in (i := 1641) (by decide +kernel) (by decide +kernel)⟩
abbrev mX3_lowestNearbyCourse : gm_M := (yX3_lowestNearbyCourse, (cX3_lowestNearbyCourse, (7, ((some .int), []))))
theorem mt_X3_lowestNearbyCourse : gm_mt mX3_lowestNearbyCourse 2 := ⟨rfl, gm_in (i := 1646) (by decide +kernel) (by decide +kernel), gm_in (i := 80) (by decide +kernel) (by decide +kernel), ⟨by decide, by decide⟩, by decide +kernel, by decide⟩
theorem mv_X3_lowestNearbyCourse : gm_mv mX3_lowestNearbyCourse RX3 := ⟨gm_in (i := 1645) (by decide +kernel) (by decide +kernel), gm_in (i := 62) (by decide +kernel) (by decide +kernel)⟩
abbrev mX10_missedCourses : gm_M := (yX10_missedCourses, (cX10_missedCourses, (4, ((some .int), []))))
theorem mt_X10_missedCourses : gm_mt mX10_missedCourses 1 := ⟨rfl, gm_in (i := 1653) (by decide +kernel) (by decide +kernel), gm_in (i := 78) (by decide +kernel) (by decide +kernel), ⟨by decide, by decide⟩, by decide +kernel, by decide⟩
theorem mv_X10_missedCourses : gm_mv mX10_missedCourses RX10 := ⟨gm_in (i := 1651) (by decide +kernel) (by decide +kernel), gm_in (i := 1652) (by decide +kernel) (by decide +kernel)⟩
abbrev mL_pairs : gm_M := (yL_pairs, (cL_pairs, (9, ((some .boolean), []))))
theorem mt_L_pairs : gm_mt mL_pairs 1 := ⟨rfl, gm_in (i := 1658) (by decide +kernel) (by decide +kernel), gm_in (i := 77) (by decide +kernel) (by decide +kernel), ⟨by decide, by decide⟩, by decide +kernel, by decide⟩
theorem ms_L_pairs : Cond.static mL_pairs.1 ∈ gm_big := gm_in (i := 1657) (by decide +kernel) (by decide +kernel)
abbrev mJx4a65c_init_da8c8 : gm_M := (yJx4a65c_init_da8c8, (cJx4a65c_init_da8c8, (1, (none, []))))
theorem mt_Jx4a65c_init_da8c8 : gm_mt mJx4a65c_init_da8c8 0 := ⟨rfl, gm_in (i := 1663) (by decide +kernel) (by decide +kernel), gm_in (i := 117) (by decide +kernel) (by decide +kernel), ⟨by decide, by decide⟩, by decide +kernel, by decide⟩
theorem mi_Jx4a65c_init_da8c8 : Cond.instanceMethod mJx4a65c_init_da8c8.1 ∈ gm_big ∧ mJx4a65c_init_da8c8.1.name = "<init>" ∧ mJx4a65c_init_da8c8.2.2.2.1 = none := ⟨gm_in (i := 1662) (by decide +kernel) (by decide +kernel), rfl, rfl⟩
abbrev mJxc12de_init_da8c8 : gm_M := (yJxc12de_init_da8c8, (cJxc12de_init_da8c8, (1, (none, []))))
theorem mt_Jxc12de_init_da8c8 : gm_mt mJxc12de_init_da8c8 0 := ⟨rfl, gm_in (i := 1666) (by decide +kernel) (by decide +kernel), gm_in (i := 116) (by decide +kernel) (by decide +kernel), ⟨by decide, by decide⟩, by decide +kernel, by decide⟩
theorem mi_Jxc12de_init_da8c8 : Cond.instanceMethod mJxc12de_init_da8c8.1 ∈ gm_big ∧ mJxc12de_init_da8c8.1.name = "<init>" ∧ mJxc12de_init_da8c8.2.2.2.1 = none := ⟨gm_in (i := 1665) (by decide +kernel) (by decide +kernel), rfl, rfl⟩
abbrev mJxa1e45_init_da8c8 : gm_M := (yJxa1e45_init_da8c8, (cJxa1e45_init_da8c8, (1, (none, []))))
theorem mt_Jxa1e45_init_da8c8 : gm_mt mJxa1e45_init_da8c8 0 := ⟨rfl, gm_in (i := 1669) (by decide +kernel) (by decide +kernel), gm_in (i := 115) (by decide +kernel) (by decide +kernel), ⟨by decide, by decide⟩, by decide +kernel, by decide⟩
theorem mi_Jxa1e45_init_da8c8 : Cond.instanceMethod mJxa1e45_init_da8c8.1 ∈ gm_big ∧ mJxa1e45_init_da8c8.1.name = "<init>" ∧ mJxa1e45_init_da8c8.2.2.2.1 = none := ⟨gm_in (i := 1668) (by decide +kernel) (by decide +kernel), rfl, rfl⟩
abbrev mL_isGood : gm_M := (yL_isGood, (cL_isGood, (2, ((some .boolean), []))))
theorem mt_L_isGood : gm_mt mL_isGood 2 := ⟨rfl, gm_in (i := 1690) (by decide +kernel) (by decide +kernel), gm_in (i := 77) (by decide +kernel) (by decide +kernel), ⟨by decide, by decide⟩, by decide +kernel, by decide⟩
theorem ms_L_isGood : Cond.static mL_isGood.1 ∈ gm_big := gm_in (i := 1689) (by decide +kernel) (by decide +kernel)
abbrev mJ6_valueOf_2dffe : gm_M := (yJ6_valueOf_2dffe, (cJ6_valueOf_2dffe, (1, ((some (.object "java/lang/Integer")), []))))
theorem mt_J6_valueOf_2dffe : gm_mt mJ6_valueOf_2dffe 1 := ⟨rfl, gm_in (i := 1693) (by decide +kernel) (by decide +kernel), gm_in (i := 106) (by decide +kernel) (by decide +kernel), ⟨by decide, by decide⟩, by decide +kernel, by decide⟩
theorem ms_J6_valueOf_2dffe : Cond.static mJ6_valueOf_2dffe.1 ∈ gm_big := gm_in (i := 1692) (by decide +kernel) (by decide +kernel)
abbrev mJ6_init_d00df : gm_M := (yJ6_init_d00df, (cJ6_init_d00df, (2, (none, []))))
theorem mt_J6_init_d00df : gm_mt mJ6_init_d00df 1 := ⟨rfl, gm_in (i := 1702) (by decide +kernel) (by decide +kernel), gm_in (i := 106) (by decide +kernel) (by decide +kernel), ⟨by decide, by decide⟩, by decide +kernel, by decide⟩
theorem mi_J6_init_d00df : Cond.instanceMethod mJ6_init_d00df.1 ∈ gm_big ∧ mJ6_init_d00df.1.name = "<init>" ∧ mJ6_init_d00df.2.2.2.1 = none := ⟨gm_in (i := 1701) (by decide +kernel) (by decide +kernel), rfl, rfl⟩
abbrev mJxd2413_init_da8c8 : gm_M := (yJxd2413_init_da8c8, (cJxd2413_init_da8c8, (1, (none, []))))
theorem mt_Jxd2413_init_da8c8 : gm_mt mJxd2413_init_da8c8 0 := ⟨rfl, gm_in (i := 1705) (by decide +kernel) (by decide +kernel), gm_in (i := 105) (by decide +kernel) (by decide +kernel), ⟨by decide, by decide⟩, by decide +kernel, by decide⟩
theorem mi_Jxd2413_init_da8c8 : Cond.instanceMethod mJxd2413_init_da8c8.1 ∈ gm_big ∧ mJxd2413_init_da8c8.1.name = "<init>" ∧ mJxd2413_init_da8c8.2.2.2.1 = none := ⟨gm_in (i := 1704) (by decide +kernel) (by decide +kernel), rfl, rfl⟩
abbrev mJx4a65c_add_9ea2d : gm_M := (yJx4a65c_add_9ea2d, (cJx4a65c_add_9ea2d, (2, ((some .boolean), []))))
theorem mt_Jx4a65c_add_9ea2d : gm_mt mJx4a65c_add_9ea2d 1 := ⟨rfl, gm_in (i := 1714) (by decide +kernel) (by decide +kernel), gm_in (i := 117) (by decide +kernel) (by decide +kernel), ⟨by decide, by decide⟩, by decide +kernel, by decide⟩
theorem mv_Jx4a65c_add_9ea2d : gm_mv mJx4a65c_add_9ea2d RJx4a65c := ⟨gm_in (i := 1712) (by decide +kernel) (by decide +kernel), gm_in (i := 1713) (by decide +kernel) (by decide +kernel)⟩
abbrev mJx4a65c_add_72be8 : gm_M := (yJx4a65c_add_72be8, (cJx4a65c_add_72be8, (4, (none, []))))
theorem mt_Jx4a65c_add_72be8 : gm_mt mJx4a65c_add_72be8 3 := ⟨rfl, gm_in (i := 1718) (by decide +kernel) (by decide +kernel), gm_in (i := 117) (by decide +kernel) (by decide +kernel), ⟨by decide, by decide⟩, by decide +kernel, by decide⟩
theorem mv_Jx4a65c_add_72be8 : gm_mv mJx4a65c_add_72be8 RJx4a65c := ⟨gm_in (i := 1717) (by decide +kernel) (by decide +kernel), gm_in (i := 63) (by decide +kernel) (by decide +kernel)⟩
abbrev mJx4a65c_grow_d5877 : gm_M := (yJx4a65c_grow_d5877, (cJx4a65c_grow_d5877, (1, ((some (.array (.object "java/lang/Object"))), []))))
theorem mt_Jx4a65c_grow_d5877 : gm_mt mJx4a65c_grow_d5877 0 := ⟨rfl, gm_in (i := 1722) (by decide +kernel) (by decide +kernel), gm_in (i := 117) (by decide +kernel) (by decide +kernel), ⟨by decide, by decide⟩, by decide +kernel, by decide⟩
theorem mv_Jx4a65c_grow_d5877 : gm_mv mJx4a65c_grow_d5877 RJx4a65c := ⟨gm_in (i := 1721) (by decide +kernel) (by decide +kernel), gm_in (i := 64) (by decide +kernel) (by decide +kernel)⟩
abbrev mJx4a65c_grow_92f84 : gm_M := (yJx4a65c_grow_92f84, (cJx4a65c_grow_92f84, (4, ((some (.array (.object "java/lang/Object"))), []))))
theorem mt_Jx4a65c_grow_92f84 : gm_mt mJx4a65c_grow_92f84 1 := ⟨rfl, gm_in (i := 1726) (by decide +kernel) (by decide +kernel), gm_in (i := 117) (by decide +kernel) (by decide +kernel), ⟨by decide, by decide⟩, by decide +kernel, by decide⟩
theorem mv_Jx4a65c_grow_92f84 : gm_mv mJx4a65c_grow_92f84 RJx4a65c := ⟨gm_in (i := 1725) (by decide +kernel) (by decide +kernel), gm_in (i := 65) (by decide +kernel) (by decide +kernel)⟩
abbrev mJ7_copyOf_1904c : gm_M := (yJ7_copyOf_1904c, (cJ7_copyOf_1904c, (2, ((some (.array (.object "java/lang/Object"))), []))))
theorem mt_J7_copyOf_1904c : gm_mt mJ7_copyOf_1904c 2 := ⟨rfl, gm_in (i := 1730) (by decide +kernel) (by decide +kernel), gm_in (i := 98) (by decide +kernel) (by decide +kernel), ⟨by decide, by decide⟩, by decide +kernel, by decide⟩
theorem ms_J7_copyOf_1904c : Cond.static mJ7_copyOf_1904c.1 ∈ gm_big := gm_in (i := 1729) (by decide +kernel) (by decide +kernel)
abbrev mJ7_copyOf_6403c : gm_M := (yJ7_copyOf_6403c, (cJ7_copyOf_6403c, (4, ((some (.array (.object "java/lang/Object"))), []))))
theorem mt_J7_copyOf_6403c : gm_mt mJ7_copyOf_6403c 3 := ⟨rfl, gm_in (i := 1764) (by decide +kernel) (by decide +kernel), gm_in (i := 98) (by decide +kernel) (by decide +kernel), ⟨by decide, by decide⟩, by decide +kernel, by decide⟩
theorem ms_J7_copyOf_6403c : Cond.static mJ7_copyOf_6403c.1 ∈ gm_big := gm_in (i := 1763) (by decide +kernel) (by decide +kernel)
abbrev mJxd5e46_sort_2ec40 : gm_M := (yJxd5e46_sort_2ec40, (cJxd5e46_sort_2ec40, (1, (none, []))))
theorem mt_Jxd5e46_sort_2ec40 : gm_mt mJxd5e46_sort_2ec40 1 := ⟨rfl, gm_in (i := 1772) (by decide +kernel) (by decide +kernel), gm_in (i := 119) (by decide +kernel) (by decide +kernel), ⟨by decide, by decide⟩, by decide +kernel, by decide⟩
theorem ms_Jxd5e46_sort_2ec40 : Cond.static mJxd5e46_sort_2ec40.1 ∈ gm_big := gm_in (i := 1771) (by decide +kernel) (by decide +kernel)
abbrev mJx4a65c_sort_a3821 : gm_M := (yJx4a65c_sort_a3821, (cJx4a65c_sort_a3821, (3, (none, []))))
theorem mt_Jx4a65c_sort_a3821 : gm_mt mJx4a65c_sort_a3821 1 := ⟨rfl, gm_in (i := 1782) (by decide +kernel) (by decide +kernel), gm_in (i := 117) (by decide +kernel) (by decide +kernel), ⟨by decide, by decide⟩, by decide +kernel, by decide⟩
abbrev mJ7_sort_a871f : gm_M := (yJ7_sort_a871f, (cJ7_sort_a871f, (4, (none, []))))
theorem mt_J7_sort_a871f : gm_mt mJ7_sort_a871f 4 := ⟨rfl, gm_in (i := 1785) (by decide +kernel) (by decide +kernel), gm_in (i := 98) (by decide +kernel) (by decide +kernel), ⟨by decide, by decide⟩, by decide +kernel, by decide⟩
theorem ms_J7_sort_a871f : Cond.static mJ7_sort_a871f.1 ∈ gm_big := gm_in (i := 1784) (by decide +kernel) (by decide +kernel)
abbrev mJ7_sort_ec627 : gm_M := (yJ7_sort_ec627, (cJ7_sort_ec627, (3, (none, []))))
theorem mt_J7_sort_ec627 : gm_mt mJ7_sort_ec627 3 := ⟨rfl, gm_in (i := 1788) (by decide +kernel) (by decide +kernel), gm_in (i := 98) (by decide +kernel) (by decide +kernel), ⟨by decide, by decide⟩, by decide +kernel, by decide⟩
theorem ms_J7_sort_ec627 : Cond.static mJ7_sort_ec627.1 ∈ gm_big := gm_in (i := 1787) (by decide +kernel) (by decide +kernel)
abbrev mJx2f0ea_sort_50963 : gm_M := (yJx2f0ea_sort_50963, (cJx2f0ea_sort_50963, (11, (none, []))))
theorem mt_Jx2f0ea_sort_50963 : gm_mt mJx2f0ea_sort_50963 6 := ⟨rfl, gm_in (i := 1793) (by decide +kernel) (by decide +kernel), gm_in (i := 121) (by decide +kernel) (by decide +kernel), ⟨by decide, by decide⟩, by decide +kernel, by decide⟩
theorem ms_Jx2f0ea_sort_50963 : Cond.static mJx2f0ea_sort_50963.1 ∈ gm_big := gm_in (i := 1792) (by decide +kernel) (by decide +kernel)
abbrev mJx2f0ea_countRunAndMakeAscending_0373e : gm_M := (yJx2f0ea_countRunAndMakeAscending_0373e, (cJx2f0ea_countRunAndMakeAscending_0373e, (4, ((some .int), []))))
theorem mt_Jx2f0ea_countRunAndMakeAscending_0373e : gm_mt mJx2f0ea_countRunAndMakeAscending_0373e 3 := ⟨rfl, gm_in (i := 1798) (by decide +kernel) (by decide +kernel), gm_in (i := 121) (by decide +kernel) (by decide +kernel), ⟨by decide, by decide⟩, by decide +kernel, by decide⟩
theorem ms_Jx2f0ea_countRunAndMakeAscending_0373e : Cond.static mJx2f0ea_countRunAndMakeAscending_0373e.1 ∈ gm_big := gm_in (i := 1797) (by decide +kernel) (by decide +kernel)
abbrev mJx29ce0_compareTo_e47da : gm_M := (yJx29ce0_compareTo_e47da, (cJx29ce0_compareTo_e47da, (2, ((some .int), []))))
theorem mt_Jx29ce0_compareTo_e47da : gm_mt mJx29ce0_compareTo_e47da 1 := ⟨rfl, gm_in (i := 1809) (by decide +kernel) (by decide +kernel), gm_in (i := 90) (by decide +kernel) (by decide +kernel), ⟨by decide, by decide⟩, by decide +kernel, by decide⟩
abbrev mJx29ce0_compareTo_18f91 : gm_M := (yJx29ce0_compareTo_18f91, (cJx29ce0_compareTo_18f91, (4, ((some .int), []))))
theorem mt_Jx29ce0_compareTo_18f91 : gm_mt mJx29ce0_compareTo_18f91 1 := ⟨rfl, gm_in (i := 1816) (by decide +kernel) (by decide +kernel), gm_in (i := 90) (by decide +kernel) (by decide +kernel), ⟨by decide, by decide⟩, by decide +kernel, by decide⟩
abbrev mJx29ce0_getDeclaringClass_d423e : gm_M := (yJx29ce0_getDeclaringClass_d423e, (cJx29ce0_getDeclaringClass_d423e, (3, ((some (.object "java/lang/Class")), []))))
theorem mt_Jx29ce0_getDeclaringClass_d423e : gm_mt mJx29ce0_getDeclaringClass_d423e 0 := ⟨rfl, gm_in (i := 1823) (by decide +kernel) (by decide +kernel), gm_in (i := 90) (by decide +kernel) (by decide +kernel), ⟨by decide, by decide⟩, by decide +kernel, by decide⟩
abbrev mJ6_compareTo_e47da : gm_M := (yJ6_compareTo_e47da, (cJ6_compareTo_e47da, (2, ((some .int), []))))
theorem mt_J6_compareTo_e47da : gm_mt mJ6_compareTo_e47da 1 := ⟨rfl, gm_in (i := 1832) (by decide +kernel) (by decide +kernel), gm_in (i := 106) (by decide +kernel) (by decide +kernel), ⟨by decide, by decide⟩, by decide +kernel, by decide⟩
abbrev mJ6_compareTo_e8194 : gm_M := (yJ6_compareTo_e8194, (cJ6_compareTo_e8194, (2, ((some .int), []))))
theorem mt_J6_compareTo_e8194 : gm_mt mJ6_compareTo_e8194 1 := ⟨rfl, gm_in (i := 1836) (by decide +kernel) (by decide +kernel), gm_in (i := 106) (by decide +kernel) (by decide +kernel), ⟨by decide, by decide⟩, by decide +kernel, by decide⟩
theorem mv_J6_compareTo_e8194 : gm_mv mJ6_compareTo_e8194 RJ6 := ⟨gm_in (i := 1834) (by decide +kernel) (by decide +kernel), gm_in (i := 1835) (by decide +kernel) (by decide +kernel)⟩
abbrev mJ6_compare_7cf53 : gm_M := (yJ6_compare_7cf53, (cJ6_compare_7cf53, (2, ((some .int), []))))
theorem mt_J6_compare_7cf53 : gm_mt mJ6_compare_7cf53 2 := ⟨rfl, gm_in (i := 1839) (by decide +kernel) (by decide +kernel), gm_in (i := 106) (by decide +kernel) (by decide +kernel), ⟨by decide, by decide⟩, by decide +kernel, by decide⟩
theorem ms_J6_compare_7cf53 : Cond.static mJ6_compare_7cf53.1 ∈ gm_big := gm_in (i := 1838) (by decide +kernel) (by decide +kernel)
abbrev mJ0_compareTo_e47da : gm_M := (yJ0_compareTo_e47da, (cJ0_compareTo_e47da, (2, ((some .int), []))))
theorem mt_J0_compareTo_e47da : gm_mt mJ0_compareTo_e47da 1 := ⟨rfl, gm_in (i := 1845) (by decide +kernel) (by decide +kernel), gm_in (i := 87) (by decide +kernel) (by decide +kernel), ⟨by decide, by decide⟩, by decide +kernel, by decide⟩
abbrev mJ0_compareTo_2f485 : gm_M := (yJ0_compareTo_2f485, (cJ0_compareTo_2f485, (5, ((some .int), []))))
theorem mt_J0_compareTo_2f485 : gm_mt mJ0_compareTo_2f485 1 := ⟨rfl, gm_in (i := 1849) (by decide +kernel) (by decide +kernel), gm_in (i := 87) (by decide +kernel) (by decide +kernel), ⟨by decide, by decide⟩, by decide +kernel, by decide⟩
theorem mv_J0_compareTo_2f485 : gm_mv mJ0_compareTo_2f485 RJ0 := ⟨gm_in (i := 1847) (by decide +kernel) (by decide +kernel), gm_in (i := 1848) (by decide +kernel) (by decide +kernel)⟩
abbrev mJ1_compareTo_b82b6 : gm_M := (yJ1_compareTo_b82b6, (cJ1_compareTo_b82b6, (4, ((some .int), []))))
theorem mt_J1_compareTo_b82b6 : gm_mt mJ1_compareTo_b82b6 2 := ⟨rfl, gm_in (i := 1852) (by decide +kernel) (by decide +kernel), gm_in (i := 99) (by decide +kernel) (by decide +kernel), ⟨by decide, by decide⟩, by decide +kernel, by decide⟩
theorem ms_J1_compareTo_b82b6 : Cond.static mJ1_compareTo_b82b6.1 ∈ gm_big := gm_in (i := 1851) (by decide +kernel) (by decide +kernel)
abbrev mJ1_compareTo_66405 : gm_M := (yJ1_compareTo_66405, (cJ1_compareTo_66405, (6, ((some .int), []))))
theorem mt_J1_compareTo_66405 : gm_mt mJ1_compareTo_66405 4 := ⟨rfl, gm_in (i := 1855) (by decide +kernel) (by decide +kernel), gm_in (i := 99) (by decide +kernel) (by decide +kernel), ⟨by decide, by decide⟩, by decide +kernel, by decide⟩
theorem ms_J1_compareTo_66405 : Cond.static mJ1_compareTo_66405.1 ∈ gm_big := gm_in (i := 1854) (by decide +kernel) (by decide +kernel)
abbrev mJ8_mismatch_cb723 : gm_M := (yJ8_mismatch_cb723, (cJ8_mismatch_cb723, (4, ((some .int), []))))
theorem mt_J8_mismatch_cb723 : gm_mt mJ8_mismatch_cb723 3 := ⟨rfl, gm_in (i := 1859) (by decide +kernel) (by decide +kernel), gm_in (i := 112) (by decide +kernel) (by decide +kernel), ⟨by decide, by decide⟩, by decide +kernel, by decide⟩
theorem ms_J8_mismatch_cb723 : Cond.static mJ8_mismatch_cb723.1 ∈ gm_big := gm_in (i := 1858) (by decide +kernel) (by decide +kernel)
abbrev mJ8_vectorizedMismatch_456ae : gm_M := (yJ8_vectorizedMismatch_456ae, (cJ8_vectorizedMismatch_456ae, (19, ((some .int), []))))
theorem mt_J8_vectorizedMismatch_456ae : gm_mt mJ8_vectorizedMismatch_456ae 6 := ⟨rfl, gm_in (i := 1866) (by decide +kernel) (by decide +kernel), gm_in (i := 112) (by decide +kernel) (by decide +kernel), ⟨by decide, by decide⟩, by decide +kernel, by decide⟩
theorem ms_J8_vectorizedMismatch_456ae : Cond.static mJ8_vectorizedMismatch_456ae.1 ∈ gm_big := gm_in (i := 1865) (by decide +kernel) (by decide +kernel)
abbrev mJx9a822_getLongUnaligned_f02c6 : gm_M := (yJx9a822_getLongUnaligned_f02c6, (cJx9a822_getLongUnaligned_f02c6, (4, ((some .long), []))))
theorem mt_Jx9a822_getLongUnaligned_f02c6 : gm_mt mJx9a822_getLongUnaligned_f02c6 2 := ⟨rfl, gm_in (i := 1874) (by decide +kernel) (by decide +kernel), gm_in (i := 122) (by decide +kernel) (by decide +kernel), ⟨by decide, by decide⟩, by decide +kernel, by decide⟩
theorem mv_Jx9a822_getLongUnaligned_f02c6 : gm_mv mJx9a822_getLongUnaligned_f02c6 RJx9a822 := ⟨gm_in (i := 1872) (by decide +kernel) (by decide +kernel), gm_in (i := 1873) (by decide +kernel) (by decide +kernel)⟩
abbrev mJx9a822_makeLong_a216e : gm_M := (yJx9a822_makeLong_a216e, (cJx9a822_makeLong_a216e, (2, ((some .long), []))))
theorem mt_Jx9a822_makeLong_a216e : gm_mt mJx9a822_makeLong_a216e 2 := ⟨rfl, gm_in (i := 1888) (by decide +kernel) (by decide +kernel), gm_in (i := 122) (by decide +kernel) (by decide +kernel), ⟨by decide, by decide⟩, by decide +kernel, by decide⟩
theorem ms_Jx9a822_makeLong_a216e : Cond.static mJx9a822_makeLong_a216e.1 ∈ gm_big := gm_in (i := 1887) (by decide +kernel) (by decide +kernel)
abbrev mJx9a822_toUnsignedLong_3e8ac : gm_M := (yJx9a822_toUnsignedLong_3e8ac, (cJx9a822_toUnsignedLong_3e8ac, (1, ((some .long), []))))
theorem mt_Jx9a822_toUnsignedLong_3e8ac : gm_mt mJx9a822_toUnsignedLong_3e8ac 1 := ⟨rfl, gm_in (i := 1891) (by decide +kernel) (by decide +kernel), gm_in (i := 122) (by decide +kernel) (by decide +kernel), ⟨by decide, by decide⟩, by decide +kernel, by decide⟩
theorem ms_Jx9a822_toUnsignedLong_3e8ac : Cond.static mJx9a822_toUnsignedLong_3e8ac.1 ∈ gm_big := gm_in (i := 1890) (by decide +kernel) (by decide +kernel)
abbrev mJx9a822_pickPos_7cf53 : gm_M := (yJx9a822_pickPos_7cf53, (cJx9a822_pickPos_7cf53, (2, ((some .int), []))))
theorem mt_Jx9a822_pickPos_7cf53 : gm_mt mJx9a822_pickPos_7cf53 2 := ⟨rfl, gm_in (i := 1895) (by decide +kernel) (by decide +kernel), gm_in (i := 122) (by decide +kernel) (by decide +kernel), ⟨by decide, by decide⟩, by decide +kernel, by decide⟩
theorem ms_Jx9a822_pickPos_7cf53 : Cond.static mJx9a822_pickPos_7cf53.1 ∈ gm_big := gm_in (i := 1894) (by decide +kernel) (by decide +kernel)
abbrev mJx9a822_makeLong_4b46d : gm_M := (yJx9a822_makeLong_4b46d, (cJx9a822_makeLong_4b46d, (4, ((some .long), []))))
theorem mt_Jx9a822_makeLong_4b46d : gm_mt mJx9a822_makeLong_4b46d 4 := ⟨rfl, gm_in (i := 1906) (by decide +kernel) (by decide +kernel), gm_in (i := 122) (by decide +kernel) (by decide +kernel), ⟨by decide, by decide⟩, by decide +kernel, by decide⟩
theorem ms_Jx9a822_makeLong_4b46d : Cond.static mJx9a822_makeLong_4b46d.1 ∈ gm_big := gm_in (i := 1905) (by decide +kernel) (by decide +kernel)
abbrev mJx9a822_toUnsignedLong_51cfc : gm_M := (yJx9a822_toUnsignedLong_51cfc, (cJx9a822_toUnsignedLong_51cfc, (1, ((some .long), []))))
theorem mt_Jx9a822_toUnsignedLong_51cfc : gm_mt mJx9a822_toUnsignedLong_51cfc 1 := ⟨rfl, gm_in (i := 1909) (by decide +kernel) (by decide +kernel), gm_in (i := 122) (by decide +kernel) (by decide +kernel), ⟨by decide, by decide⟩, by decide +kernel, by decide⟩
theorem ms_Jx9a822_toUnsignedLong_51cfc : Cond.static mJx9a822_toUnsignedLong_51cfc.1 ∈ gm_big := gm_in (i := 1908) (by decide +kernel) (by decide +kernel)
abbrev mJx9a822_makeLong_0477f : gm_M := (yJx9a822_makeLong_0477f, (cJx9a822_makeLong_0477f, (8, ((some .long), []))))
theorem mt_Jx9a822_makeLong_0477f : gm_mt mJx9a822_makeLong_0477f 8 := ⟨rfl, gm_in (i := 1918) (by decide +kernel) (by decide +kernel), gm_in (i := 122) (by decide +kernel) (by decide +kernel), ⟨by decide, by decide⟩, by decide +kernel, by decide⟩
theorem ms_Jx9a822_makeLong_0477f : Cond.static mJx9a822_makeLong_0477f.1 ∈ gm_big := gm_in (i := 1917) (by decide +kernel) (by decide +kernel)
abbrev mJx9a822_toUnsignedLong_c5be9 : gm_M := (yJx9a822_toUnsignedLong_c5be9, (cJx9a822_toUnsignedLong_c5be9, (1, ((some .long), []))))
theorem mt_Jx9a822_toUnsignedLong_c5be9 : gm_mt mJx9a822_toUnsignedLong_c5be9 1 := ⟨rfl, gm_in (i := 1921) (by decide +kernel) (by decide +kernel), gm_in (i := 122) (by decide +kernel) (by decide +kernel), ⟨by decide, by decide⟩, by decide +kernel, by decide⟩
theorem ms_Jx9a822_toUnsignedLong_c5be9 : Cond.static mJx9a822_toUnsignedLong_c5be9.1 ∈ gm_big := gm_in (i := 1920) (by decide +kernel) (by decide +kernel)
abbrev mJ13_numberOfLeadingZeros_95d88 : gm_M := (yJ13_numberOfLeadingZeros_95d88, (cJ13_numberOfLeadingZeros_95d88, (3, ((some .int), []))))
theorem mt_J13_numberOfLeadingZeros_95d88 : gm_mt mJ13_numberOfLeadingZeros_95d88 1 := ⟨rfl, gm_in (i := 1927) (by decide +kernel) (by decide +kernel), gm_in (i := 114) (by decide +kernel) (by decide +kernel), ⟨by decide, by decide⟩, by decide +kernel, by decide⟩
theorem ms_J13_numberOfLeadingZeros_95d88 : Cond.static mJ13_numberOfLeadingZeros_95d88.1 ∈ gm_big := gm_in (i := 1926) (by decide +kernel) (by decide +kernel)
abbrev mJ6_numberOfLeadingZeros_0f7a4 : gm_M := (yJ6_numberOfLeadingZeros_0f7a4, (cJ6_numberOfLeadingZeros_0f7a4, (2, ((some .int), []))))
theorem mt_J6_numberOfLeadingZeros_0f7a4 : gm_mt mJ6_numberOfLeadingZeros_0f7a4 1 := ⟨rfl, gm_in (i := 1930) (by decide +kernel) (by decide +kernel), gm_in (i := 106) (by decide +kernel) (by decide +kernel), ⟨by decide, by decide⟩, by decide +kernel, by decide⟩
theorem ms_J6_numberOfLeadingZeros_0f7a4 : Cond.static mJ6_numberOfLeadingZeros_0f7a4.1 ∈ gm_big := gm_in (i := 1929) (by decide +kernel) (by decide +kernel)
abbrev mJ13_numberOfTrailingZeros_95d88 : gm_M := (yJ13_numberOfTrailingZeros_95d88, (cJ13_numberOfTrailingZeros_95d88, (3, ((some .int), []))))
theorem mt_J13_numberOfTrailingZeros_95d88 : gm_mt mJ13_numberOfTrailingZeros_95d88 1 := ⟨rfl, gm_in (i := 1936) (by decide +kernel) (by decide +kernel), gm_in (i := 114) (by decide +kernel) (by decide +kernel), ⟨by decide, by decide⟩, by decide +kernel, by decide⟩
theorem ms_J13_numberOfTrailingZeros_95d88 : Cond.static mJ13_numberOfTrailingZeros_95d88.1 ∈ gm_big := gm_in (i := 1935) (by decide +kernel) (by decide +kernel)
abbrev mJ6_numberOfTrailingZeros_0f7a4 : gm_M := (yJ6_numberOfTrailingZeros_0f7a4, (cJ6_numberOfTrailingZeros_0f7a4, (2, ((some .int), []))))
theorem mt_J6_numberOfTrailingZeros_0f7a4 : gm_mt mJ6_numberOfTrailingZeros_0f7a4 1 := ⟨rfl, gm_in (i := 1939) (by decide +kernel) (by decide +kernel), gm_in (i := 106) (by decide +kernel) (by decide +kernel), ⟨by decide, by decide⟩, by decide +kernel, by decide⟩
theorem ms_J6_numberOfTrailingZeros_0f7a4 : Cond.static mJ6_numberOfTrailingZeros_0f7a4.1 ∈ gm_big := gm_in (i := 1938) (by decide +kernel) (by decide +kernel)
abbrev mJx9a822_getIntUnaligned_25a47 : gm_M := (yJx9a822_getIntUnaligned_25a47, (cJx9a822_getIntUnaligned_25a47, (4, ((some .int), []))))
theorem mt_Jx9a822_getIntUnaligned_25a47 : gm_mt mJx9a822_getIntUnaligned_25a47 2 := ⟨rfl, gm_in (i := 1945) (by decide +kernel) (by decide +kernel), gm_in (i := 122) (by decide +kernel) (by decide +kernel), ⟨by decide, by decide⟩, by decide +kernel, by decide⟩
theorem mv_Jx9a822_getIntUnaligned_25a47 : gm_mv mJx9a822_getIntUnaligned_25a47 RJx9a822 := ⟨gm_in (i := 1943) (by decide +kernel) (by decide +kernel), gm_in (i := 1944) (by decide +kernel) (by decide +kernel)⟩
abbrev mJx9a822_makeInt_4e28c : gm_M := (yJx9a822_makeInt_4e28c, (cJx9a822_makeInt_4e28c, (2, ((some .int), []))))
theorem mt_Jx9a822_makeInt_4e28c : gm_mt mJx9a822_makeInt_4e28c 2 := ⟨rfl, gm_in (i := 1948) (by decide +kernel) (by decide +kernel), gm_in (i := 122) (by decide +kernel) (by decide +kernel), ⟨by decide, by decide⟩, by decide +kernel, by decide⟩
theorem ms_Jx9a822_makeInt_4e28c : Cond.static mJx9a822_makeInt_4e28c.1 ∈ gm_big := gm_in (i := 1947) (by decide +kernel) (by decide +kernel)
abbrev mJx9a822_toUnsignedInt_f1ed4 : gm_M := (yJx9a822_toUnsignedInt_f1ed4, (cJx9a822_toUnsignedInt_f1ed4, (1, ((some .int), []))))
theorem mt_Jx9a822_toUnsignedInt_f1ed4 : gm_mt mJx9a822_toUnsignedInt_f1ed4 1 := ⟨rfl, gm_in (i := 1951) (by decide +kernel) (by decide +kernel), gm_in (i := 122) (by decide +kernel) (by decide +kernel), ⟨by decide, by decide⟩, by decide +kernel, by decide⟩
theorem ms_Jx9a822_toUnsignedInt_f1ed4 : Cond.static mJx9a822_toUnsignedInt_f1ed4.1 ∈ gm_big := gm_in (i := 1950) (by decide +kernel) (by decide +kernel)
abbrev mJx9a822_makeInt_86272 : gm_M := (yJx9a822_makeInt_86272, (cJx9a822_makeInt_86272, (4, ((some .int), []))))
theorem mt_Jx9a822_makeInt_86272 : gm_mt mJx9a822_makeInt_86272 4 := ⟨rfl, gm_in (i := 1955) (by decide +kernel) (by decide +kernel), gm_in (i := 122) (by decide +kernel) (by decide +kernel), ⟨by decide, by decide⟩, by decide +kernel, by decide⟩
theorem ms_Jx9a822_makeInt_86272 : Cond.static mJx9a822_makeInt_86272.1 ∈ gm_big := gm_in (i := 1954) (by decide +kernel) (by decide +kernel)
abbrev mJx9a822_toUnsignedInt_4d018 : gm_M := (yJx9a822_toUnsignedInt_4d018, (cJx9a822_toUnsignedInt_4d018, (1, ((some .int), []))))
theorem mt_Jx9a822_toUnsignedInt_4d018 : gm_mt mJx9a822_toUnsignedInt_4d018 1 := ⟨rfl, gm_in (i := 1958) (by decide +kernel) (by decide +kernel), gm_in (i := 122) (by decide +kernel) (by decide +kernel), ⟨by decide, by decide⟩, by decide +kernel, by decide⟩
theorem ms_Jx9a822_toUnsignedInt_4d018 : Cond.static mJx9a822_toUnsignedInt_4d018.1 ∈ gm_big := gm_in (i := 1957) (by decide +kernel) (by decide +kernel)
abbrev mJ1_getChar_3b067 : gm_M := (yJ1_getChar_3b067, (cJ1_getChar_3b067, (2, ((some .char), []))))
theorem mt_J1_getChar_3b067 : gm_mt mJ1_getChar_3b067 2 := ⟨rfl, gm_in (i := 1963) (by decide +kernel) (by decide +kernel), gm_in (i := 99) (by decide +kernel) (by decide +kernel), ⟨by decide, by decide⟩, by decide +kernel, by decide⟩
theorem ms_J1_getChar_3b067 : Cond.static mJ1_getChar_3b067.1 ∈ gm_big := gm_in (i := 1962) (by decide +kernel) (by decide +kernel)
abbrev mJ2_compareTo_b82b6 : gm_M := (yJ2_compareTo_b82b6, (cJ2_compareTo_b82b6, (4, ((some .int), []))))
theorem mt_J2_compareTo_b82b6 : gm_mt mJ2_compareTo_b82b6 2 := ⟨rfl, gm_in (i := 1966) (by decide +kernel) (by decide +kernel), gm_in (i := 88) (by decide +kernel) (by decide +kernel), ⟨by decide, by decide⟩, by decide +kernel, by decide⟩
theorem ms_J2_compareTo_b82b6 : Cond.static mJ2_compareTo_b82b6.1 ∈ gm_big := gm_in (i := 1965) (by decide +kernel) (by decide +kernel)
abbrev mJ2_compareValues_66405 : gm_M := (yJ2_compareValues_66405, (cJ2_compareValues_66405, (8, ((some .int), []))))
theorem mt_J2_compareValues_66405 : gm_mt mJ2_compareValues_66405 4 := ⟨rfl, gm_in (i := 1969) (by decide +kernel) (by decide +kernel), gm_in (i := 88) (by decide +kernel) (by decide +kernel), ⟨by decide, by decide⟩, by decide +kernel, by decide⟩
theorem ms_J2_compareValues_66405 : Cond.static mJ2_compareValues_66405.1 ∈ gm_big := gm_in (i := 1968) (by decide +kernel) (by decide +kernel)
abbrev mJ1_compareToUTF16_b82b6 : gm_M := (yJ1_compareToUTF16_b82b6, (cJ1_compareToUTF16_b82b6, (4, ((some .int), []))))
theorem mt_J1_compareToUTF16_b82b6 : gm_mt mJ1_compareToUTF16_b82b6 2 := ⟨rfl, gm_in (i := 1973) (by decide +kernel) (by decide +kernel), gm_in (i := 99) (by decide +kernel) (by decide +kernel), ⟨by decide, by decide⟩, by decide +kernel, by decide⟩
theorem ms_J1_compareToUTF16_b82b6 : Cond.static mJ1_compareToUTF16_b82b6.1 ∈ gm_big := gm_in (i := 1972) (by decide +kernel) (by decide +kernel)
abbrev mJ1_length_9d52b : gm_M := (yJ1_length_9d52b, (cJ1_length_9d52b, (1, ((some .int), []))))
theorem mt_J1_length_9d52b : gm_mt mJ1_length_9d52b 1 := ⟨rfl, gm_in (i := 1976) (by decide +kernel) (by decide +kernel), gm_in (i := 99) (by decide +kernel) (by decide +kernel), ⟨by decide, by decide⟩, by decide +kernel, by decide⟩
theorem ms_J1_length_9d52b : Cond.static mJ1_length_9d52b.1 ∈ gm_big := gm_in (i := 1975) (by decide +kernel) (by decide +kernel)
abbrev mJ1_compareToUTF16Values_66405 : gm_M := (yJ1_compareToUTF16Values_66405, (cJ1_compareToUTF16Values_66405, (8, ((some .int), []))))
theorem mt_J1_compareToUTF16Values_66405 : gm_mt mJ1_compareToUTF16Values_66405 4 := ⟨rfl, gm_in (i := 1980) (by decide +kernel) (by decide +kernel), gm_in (i := 99) (by decide +kernel) (by decide +kernel), ⟨by decide, by decide⟩, by decide +kernel, by decide⟩
theorem ms_J1_compareToUTF16Values_66405 : Cond.static mJ1_compareToUTF16Values_66405.1 ∈ gm_big := gm_in (i := 1979) (by decide +kernel) (by decide +kernel)
abbrev mJ2_compareToLatin1_b82b6 : gm_M := (yJ2_compareToLatin1_b82b6, (cJ2_compareToLatin1_b82b6, (2, ((some .int), []))))
theorem mt_J2_compareToLatin1_b82b6 : gm_mt mJ2_compareToLatin1_b82b6 2 := ⟨rfl, gm_in (i := 1984) (by decide +kernel) (by decide +kernel), gm_in (i := 88) (by decide +kernel) (by decide +kernel), ⟨by decide, by decide⟩, by decide +kernel, by decide⟩
theorem ms_J2_compareToLatin1_b82b6 : Cond.static mJ2_compareToLatin1_b82b6.1 ∈ gm_big := gm_in (i := 1983) (by decide +kernel) (by decide +kernel)
abbrev mJ4_compareTo_e47da : gm_M := (yJ4_compareTo_e47da, (cJ4_compareTo_e47da, (2, ((some .int), []))))
theorem mt_J4_compareTo_e47da : gm_mt mJ4_compareTo_e47da 1 := ⟨rfl, gm_in (i := 1991) (by decide +kernel) (by decide +kernel), gm_in (i := 86) (by decide +kernel) (by decide +kernel), ⟨by decide, by decide⟩, by decide +kernel, by decide⟩
abbrev mJ4_compareTo_93759 : gm_M := (yJ4_compareTo_93759, (cJ4_compareTo_93759, (2, ((some .int), []))))
theorem mt_J4_compareTo_93759 : gm_mt mJ4_compareTo_93759 1 := ⟨rfl, gm_in (i := 1996) (by decide +kernel) (by decide +kernel), gm_in (i := 86) (by decide +kernel) (by decide +kernel), ⟨by decide, by decide⟩, by decide +kernel, by decide⟩
theorem mv_J4_compareTo_93759 : gm_mv mJ4_compareTo_93759 RJ4 := ⟨gm_in (i := 1994) (by decide +kernel) (by decide +kernel), gm_in (i := 1995) (by decide +kernel) (by decide +kernel)⟩
abbrev mJ5_compareTo_759ea : gm_M := (yJ5_compareTo_759ea, (cJ5_compareTo_759ea, (6, ((some .int), []))))
theorem mt_J5_compareTo_759ea : gm_mt mJ5_compareTo_759ea 1 := ⟨rfl, gm_in (i := 1999) (by decide +kernel) (by decide +kernel), gm_in (i := 85) (by decide +kernel) (by decide +kernel), ⟨by decide, by decide⟩, by decide +kernel, by decide⟩
abbrev mJ2_compareTo_66405 : gm_M := (yJ2_compareTo_66405, (cJ2_compareTo_66405, (4, ((some .int), []))))
theorem mt_J2_compareTo_66405 : gm_mt mJ2_compareTo_66405 4 := ⟨rfl, gm_in (i := 2003) (by decide +kernel) (by decide +kernel), gm_in (i := 88) (by decide +kernel) (by decide +kernel), ⟨by decide, by decide⟩, by decide +kernel, by decide⟩
theorem ms_J2_compareTo_66405 : Cond.static mJ2_compareTo_66405.1 ∈ gm_big := gm_in (i := 2002) (by decide +kernel) (by decide +kernel)
abbrev mJ2_checkOffset_2214a : gm_M := (yJ2_checkOffset_2214a, (cJ2_checkOffset_2214a, (2, (none, []))))
theorem mt_J2_checkOffset_2214a : gm_mt mJ2_checkOffset_2214a 2 := ⟨rfl, gm_in (i := 2006) (by decide +kernel) (by decide +kernel), gm_in (i := 88) (by decide +kernel) (by decide +kernel), ⟨by decide, by decide⟩, by decide +kernel, by decide⟩
theorem ms_J2_checkOffset_2214a : Cond.static mJ2_checkOffset_2214a.1 ∈ gm_big := gm_in (i := 2005) (by decide +kernel) (by decide +kernel)
abbrev mJ0_checkOffset_df160 : gm_M := (yJ0_checkOffset_df160, (cJ0_checkOffset_df160, (2, (none, []))))
theorem mt_J0_checkOffset_df160 : gm_mt mJ0_checkOffset_df160 2 := ⟨rfl, gm_in (i := 2009) (by decide +kernel) (by decide +kernel), gm_in (i := 87) (by decide +kernel) (by decide +kernel), ⟨by decide, by decide⟩, by decide +kernel, by decide⟩
theorem ms_J0_checkOffset_df160 : Cond.static mJ0_checkOffset_df160.1 ∈ gm_big := gm_in (i := 2008) (by decide +kernel) (by decide +kernel)
abbrev mJ1_compareToUTF16_66405 : gm_M := (yJ1_compareToUTF16_66405, (cJ1_compareToUTF16_66405, (4, ((some .int), []))))
theorem mt_J1_compareToUTF16_66405 : gm_mt mJ1_compareToUTF16_66405 4 := ⟨rfl, gm_in (i := 2012) (by decide +kernel) (by decide +kernel), gm_in (i := 99) (by decide +kernel) (by decide +kernel), ⟨by decide, by decide⟩, by decide +kernel, by decide⟩
theorem ms_J1_compareToUTF16_66405 : Cond.static mJ1_compareToUTF16_66405.1 ∈ gm_big := gm_in (i := 2011) (by decide +kernel) (by decide +kernel)
abbrev mJ2_compareToLatin1_66405 : gm_M := (yJ2_compareToLatin1_66405, (cJ2_compareToLatin1_66405, (4, ((some .int), []))))
theorem mt_J2_compareToLatin1_66405 : gm_mt mJ2_compareToLatin1_66405 4 := ⟨rfl, gm_in (i := 2016) (by decide +kernel) (by decide +kernel), gm_in (i := 88) (by decide +kernel) (by decide +kernel), ⟨by decide, by decide⟩, by decide +kernel, by decide⟩
theorem ms_J2_compareToLatin1_66405 : Cond.static mJ2_compareToLatin1_66405.1 ∈ gm_big := gm_in (i := 2015) (by decide +kernel) (by decide +kernel)
abbrev mJx2f0ea_reverseRange_ec627 : gm_M := (yJx2f0ea_reverseRange_ec627, (cJx2f0ea_reverseRange_ec627, (4, (none, []))))
theorem mt_Jx2f0ea_reverseRange_ec627 : gm_mt mJx2f0ea_reverseRange_ec627 3 := ⟨rfl, gm_in (i := 2020) (by decide +kernel) (by decide +kernel), gm_in (i := 121) (by decide +kernel) (by decide +kernel), ⟨by decide, by decide⟩, by decide +kernel, by decide⟩
theorem ms_Jx2f0ea_reverseRange_ec627 : Cond.static mJx2f0ea_reverseRange_ec627.1 ∈ gm_big := gm_in (i := 2019) (by decide +kernel) (by decide +kernel)
abbrev mJx2f0ea_binarySort_cb36d : gm_M := (yJx2f0ea_binarySort_cb36d, (cJx2f0ea_binarySort_cb36d, (8, (none, []))))
theorem mt_Jx2f0ea_binarySort_cb36d : gm_mt mJx2f0ea_binarySort_cb36d 4 := ⟨rfl, gm_in (i := 2023) (by decide +kernel) (by decide +kernel), gm_in (i := 121) (by decide +kernel) (by decide +kernel), ⟨by decide, by decide⟩, by decide +kernel, by decide⟩
theorem ms_Jx2f0ea_binarySort_cb36d : Cond.static mJx2f0ea_binarySort_cb36d.1 ∈ gm_big := gm_in (i := 2022) (by decide +kernel) (by decide +kernel)
abbrev mJx2f0ea_init_5bcab : gm_M := (yJx2f0ea_init_5bcab, (cJx2f0ea_init_5bcab, (8, (none, []))))
theorem mt_Jx2f0ea_init_5bcab : gm_mt mJx2f0ea_init_5bcab 4 := ⟨rfl, gm_in (i := 2029) (by decide +kernel) (by decide +kernel), gm_in (i := 121) (by decide +kernel) (by decide +kernel), ⟨by decide, by decide⟩, by decide +kernel, by decide⟩
theorem mi_Jx2f0ea_init_5bcab : Cond.instanceMethod mJx2f0ea_init_5bcab.1 ∈ gm_big ∧ mJx2f0ea_init_5bcab.1.name = "<init>" ∧ mJx2f0ea_init_5bcab.2.2.2.1 = none := ⟨gm_in (i := 2028) (by decide +kernel) (by decide +kernel), rfl, rfl⟩
abbrev mJx2f0ea_minRunLength_0f7a4 : gm_M := (yJx2f0ea_minRunLength_0f7a4, (cJx2f0ea_minRunLength_0f7a4, (2, ((some .int), []))))
theorem mt_Jx2f0ea_minRunLength_0f7a4 : gm_mt mJx2f0ea_minRunLength_0f7a4 1 := ⟨rfl, gm_in (i := 2060) (by decide +kernel) (by decide +kernel), gm_in (i := 121) (by decide +kernel) (by decide +kernel), ⟨by decide, by decide⟩, by decide +kernel, by decide⟩
theorem ms_Jx2f0ea_minRunLength_0f7a4 : Cond.static mJx2f0ea_minRunLength_0f7a4.1 ∈ gm_big := gm_in (i := 2059) (by decide +kernel) (by decide +kernel)
abbrev mJx2f0ea_pushRun_df160 : gm_M := (yJx2f0ea_pushRun_df160, (cJx2f0ea_pushRun_df160, (3, (none, []))))
theorem mt_Jx2f0ea_pushRun_df160 : gm_mt mJx2f0ea_pushRun_df160 2 := ⟨rfl, gm_in (i := 2064) (by decide +kernel) (by decide +kernel), gm_in (i := 121) (by decide +kernel) (by decide +kernel), ⟨by decide, by decide⟩, by decide +kernel, by decide⟩
theorem mv_Jx2f0ea_pushRun_df160 : gm_mv mJx2f0ea_pushRun_df160 RJx2f0ea := ⟨gm_in (i := 2063) (by decide +kernel) (by decide +kernel), gm_in (i := 66) (by decide +kernel) (by decide +kernel)⟩
abbrev mJx2f0ea_mergeCollapse_da8c8 : gm_M := (yJx2f0ea_mergeCollapse_da8c8, (cJx2f0ea_mergeCollapse_da8c8, (2, (none, []))))
theorem mt_Jx2f0ea_mergeCollapse_da8c8 : gm_mt mJx2f0ea_mergeCollapse_da8c8 0 := ⟨rfl, gm_in (i := 2068) (by decide +kernel) (by decide +kernel), gm_in (i := 121) (by decide +kernel) (by decide +kernel), ⟨by decide, by decide⟩, by decide +kernel, by decide⟩
theorem mv_Jx2f0ea_mergeCollapse_da8c8 : gm_mv mJx2f0ea_mergeCollapse_da8c8 RJx2f0ea := ⟨gm_in (i := 2067) (by decide +kernel) (by decide +kernel), gm_in (i := 67) (by decide +kernel) (by decide +kernel)⟩
abbrev mJx2f0ea_mergeAt_d00df : gm_M := (yJx2f0ea_mergeAt_d00df, (cJx2f0ea_mergeAt_d00df, (7, (none, []))))
theorem mt_Jx2f0ea_mergeAt_d00df : gm_mt mJx2f0ea_mergeAt_d00df 1 := ⟨rfl, gm_in (i := 2072) (by decide +kernel) (by decide +kernel), gm_in (i := 121) (by decide +kernel) (by decide +kernel), ⟨by decide, by decide⟩, by decide +kernel, by decide⟩
theorem mv_Jx2f0ea_mergeAt_d00df : gm_mv mJx2f0ea_mergeAt_d00df RJx2f0ea := ⟨gm_in (i := 2071) (by decide +kernel) (by decide +kernel), gm_in (i := 68) (by decide +kernel) (by decide +kernel)⟩
abbrev mJx2f0ea_gallopRight_017de : gm_M := (yJx2f0ea_gallopRight_017de, (cJx2f0ea_gallopRight_017de, (9, ((some .int), []))))
theorem mt_Jx2f0ea_gallopRight_017de : gm_mt mJx2f0ea_gallopRight_017de 5 := ⟨rfl, gm_in (i := 2075) (by decide +kernel) (by decide +kernel), gm_in (i := 121) (by decide +kernel) (by decide +kernel), ⟨by decide, by decide⟩, by decide +kernel, by decide⟩
theorem ms_Jx2f0ea_gallopRight_017de : Cond.static mJx2f0ea_gallopRight_017de.1 ∈ gm_big := gm_in (i := 2074) (by decide +kernel) (by decide +kernel)
abbrev mJx2f0ea_gallopLeft_017de : gm_M := (yJx2f0ea_gallopLeft_017de, (cJx2f0ea_gallopLeft_017de, (9, ((some .int), []))))
theorem mt_Jx2f0ea_gallopLeft_017de : gm_mt mJx2f0ea_gallopLeft_017de 5 := ⟨rfl, gm_in (i := 2078) (by decide +kernel) (by decide +kernel), gm_in (i := 121) (by decide +kernel) (by decide +kernel), ⟨by decide, by decide⟩, by decide +kernel, by decide⟩
theorem ms_Jx2f0ea_gallopLeft_017de : Cond.static mJx2f0ea_gallopLeft_017de.1 ∈ gm_big := gm_in (i := 2077) (by decide +kernel) (by decide +kernel)
abbrev mJx2f0ea_mergeLo_42cf8 : gm_M := (yJx2f0ea_mergeLo_42cf8, (cJx2f0ea_mergeLo_42cf8, (13, (none, []))))
theorem mt_Jx2f0ea_mergeLo_42cf8 : gm_mt mJx2f0ea_mergeLo_42cf8 4 := ⟨rfl, gm_in (i := 2082) (by decide +kernel) (by decide +kernel), gm_in (i := 121) (by decide +kernel) (by decide +kernel), ⟨by decide, by decide⟩, by decide +kernel, by decide⟩
theorem mv_Jx2f0ea_mergeLo_42cf8 : gm_mv mJx2f0ea_mergeLo_42cf8 RJx2f0ea := ⟨gm_in (i := 2081) (by decide +kernel) (by decide +kernel), gm_in (i := 69) (by decide +kernel) (by decide +kernel)⟩
abbrev mJx2f0ea_ensureCapacity_92f84 : gm_M := (yJx2f0ea_ensureCapacity_92f84, (cJx2f0ea_ensureCapacity_92f84, (4, ((some (.array (.object "java/lang/Object"))), []))))
theorem mt_Jx2f0ea_ensureCapacity_92f84 : gm_mt mJx2f0ea_ensureCapacity_92f84 1 := ⟨rfl, gm_in (i := 2086) (by decide +kernel) (by decide +kernel), gm_in (i := 121) (by decide +kernel) (by decide +kernel), ⟨by decide, by decide⟩, by decide +kernel, by decide⟩
theorem mv_Jx2f0ea_ensureCapacity_92f84 : gm_mv mJx2f0ea_ensureCapacity_92f84 RJx2f0ea := ⟨gm_in (i := 2085) (by decide +kernel) (by decide +kernel), gm_in (i := 70) (by decide +kernel) (by decide +kernel)⟩
abbrev mJx2f0ea_mergeHi_42cf8 : gm_M := (yJx2f0ea_mergeHi_42cf8, (cJx2f0ea_mergeHi_42cf8, (14, (none, []))))
theorem mt_Jx2f0ea_mergeHi_42cf8 : gm_mt mJx2f0ea_mergeHi_42cf8 4 := ⟨rfl, gm_in (i := 2095) (by decide +kernel) (by decide +kernel), gm_in (i := 121) (by decide +kernel) (by decide +kernel), ⟨by decide, by decide⟩, by decide +kernel, by decide⟩
theorem mv_Jx2f0ea_mergeHi_42cf8 : gm_mv mJx2f0ea_mergeHi_42cf8 RJx2f0ea := ⟨gm_in (i := 2094) (by decide +kernel) (by decide +kernel), gm_in (i := 71) (by decide +kernel) (by decide +kernel)⟩
abbrev mJx2f0ea_mergeForceCollapse_da8c8 : gm_M := (yJx2f0ea_mergeForceCollapse_da8c8, (cJx2f0ea_mergeForceCollapse_da8c8, (2, (none, []))))
theorem mt_Jx2f0ea_mergeForceCollapse_da8c8 : gm_mt mJx2f0ea_mergeForceCollapse_da8c8 0 := ⟨rfl, gm_in (i := 2099) (by decide +kernel) (by decide +kernel), gm_in (i := 121) (by decide +kernel) (by decide +kernel), ⟨by decide, by decide⟩, by decide +kernel, by decide⟩
theorem mv_Jx2f0ea_mergeForceCollapse_da8c8 : gm_mv mJx2f0ea_mergeForceCollapse_da8c8 RJx2f0ea := ⟨gm_in (i := 2098) (by decide +kernel) (by decide +kernel), gm_in (i := 72) (by decide +kernel) (by decide +kernel)⟩
abbrev mJxfee68_sort_c7964 : gm_M := (yJxfee68_sort_c7964, (cJxfee68_sort_c7964, (12, (none, []))))
theorem mt_Jxfee68_sort_c7964 : gm_mt mJxfee68_sort_c7964 7 := ⟨rfl, gm_in (i := 2102) (by decide +kernel) (by decide +kernel), gm_in (i := 124) (by decide +kernel) (by decide +kernel), ⟨by decide, by decide⟩, by decide +kernel, by decide⟩
theorem ms_Jxfee68_sort_c7964 : Cond.static mJxfee68_sort_c7964.1 ∈ gm_big := gm_in (i := 2101) (by decide +kernel) (by decide +kernel)
abbrev mJxfee68_countRunAndMakeAscending_9f01e : gm_M := (yJxfee68_countRunAndMakeAscending_9f01e, (cJxfee68_countRunAndMakeAscending_9f01e, (5, ((some .int), []))))
theorem mt_Jxfee68_countRunAndMakeAscending_9f01e : gm_mt mJxfee68_countRunAndMakeAscending_9f01e 4 := ⟨rfl, gm_in (i := 2107) (by decide +kernel) (by decide +kernel), gm_in (i := 124) (by decide +kernel) (by decide +kernel), ⟨by decide, by decide⟩, by decide +kernel, by decide⟩
theorem ms_Jxfee68_countRunAndMakeAscending_9f01e : Cond.static mJxfee68_countRunAndMakeAscending_9f01e.1 ∈ gm_big := gm_in (i := 2106) (by decide +kernel) (by decide +kernel)
abbrev mJxfee68_reverseRange_ec627 : gm_M := (yJxfee68_reverseRange_ec627, (cJxfee68_reverseRange_ec627, (4, (none, []))))
theorem mt_Jxfee68_reverseRange_ec627 : gm_mt mJxfee68_reverseRange_ec627 3 := ⟨rfl, gm_in (i := 2114) (by decide +kernel) (by decide +kernel), gm_in (i := 124) (by decide +kernel) (by decide +kernel), ⟨by decide, by decide⟩, by decide +kernel, by decide⟩
theorem ms_Jxfee68_reverseRange_ec627 : Cond.static mJxfee68_reverseRange_ec627.1 ∈ gm_big := gm_in (i := 2113) (by decide +kernel) (by decide +kernel)
abbrev mJxfee68_binarySort_68778 : gm_M := (yJxfee68_binarySort_68778, (cJxfee68_binarySort_68778, (9, (none, []))))
theorem mt_Jxfee68_binarySort_68778 : gm_mt mJxfee68_binarySort_68778 5 := ⟨rfl, gm_in (i := 2117) (by decide +kernel) (by decide +kernel), gm_in (i := 124) (by decide +kernel) (by decide +kernel), ⟨by decide, by decide⟩, by decide +kernel, by decide⟩
theorem ms_Jxfee68_binarySort_68778 : Cond.static mJxfee68_binarySort_68778.1 ∈ gm_big := gm_in (i := 2116) (by decide +kernel) (by decide +kernel)
abbrev mJx4a65c_size_8abf5 : gm_M := (yJx4a65c_size_8abf5, (cJx4a65c_size_8abf5, (1, ((some .int), []))))
theorem mt_Jx4a65c_size_8abf5 : gm_mt mJx4a65c_size_8abf5 0 := ⟨rfl, gm_in (i := 2122) (by decide +kernel) (by decide +kernel), gm_in (i := 117) (by decide +kernel) (by decide +kernel), ⟨by decide, by decide⟩, by decide +kernel, by decide⟩
theorem mv_Jx4a65c_size_8abf5 : gm_mv mJx4a65c_size_8abf5 RJx4a65c := ⟨gm_in (i := 2120) (by decide +kernel) (by decide +kernel), gm_in (i := 2121) (by decide +kernel) (by decide +kernel)⟩
abbrev mJx4a65c_get_915e3 : gm_M := (yJx4a65c_get_915e3, (cJx4a65c_get_915e3, (2, ((some (.object "java/lang/Object")), []))))
theorem mt_Jx4a65c_get_915e3 : gm_mt mJx4a65c_get_915e3 1 := ⟨rfl, gm_in (i := 2127) (by decide +kernel) (by decide +kernel), gm_in (i := 117) (by decide +kernel) (by decide +kernel), ⟨by decide, by decide⟩, by decide +kernel, by decide⟩
theorem mv_Jx4a65c_get_915e3 : gm_mv mJx4a65c_get_915e3 RJx4a65c := ⟨gm_in (i := 2125) (by decide +kernel) (by decide +kernel), gm_in (i := 2126) (by decide +kernel) (by decide +kernel)⟩
abbrev mJ15_checkIndex_7cf53 : gm_M := (yJ15_checkIndex_7cf53, (cJ15_checkIndex_7cf53, (2, ((some .int), []))))
theorem mt_J15_checkIndex_7cf53 : gm_mt mJ15_checkIndex_7cf53 2 := ⟨rfl, gm_in (i := 2130) (by decide +kernel) (by decide +kernel), gm_in (i := 127) (by decide +kernel) (by decide +kernel), ⟨by decide, by decide⟩, by decide +kernel, by decide⟩
theorem ms_J15_checkIndex_7cf53 : Cond.static mJ15_checkIndex_7cf53.1 ∈ gm_big := gm_in (i := 2129) (by decide +kernel) (by decide +kernel)
abbrev mJx4a65c_elementData_915e3 : gm_M := (yJx4a65c_elementData_915e3, (cJx4a65c_elementData_915e3, (2, ((some (.object "java/lang/Object")), []))))
theorem mt_Jx4a65c_elementData_915e3 : gm_mt mJx4a65c_elementData_915e3 1 := ⟨rfl, gm_in (i := 2135) (by decide +kernel) (by decide +kernel), gm_in (i := 117) (by decide +kernel) (by decide +kernel), ⟨by decide, by decide⟩, by decide +kernel, by decide⟩
theorem mv_Jx4a65c_elementData_915e3 : gm_mv mJx4a65c_elementData_915e3 RJx4a65c := ⟨gm_in (i := 2133) (by decide +kernel) (by decide +kernel), gm_in (i := 2134) (by decide +kernel) (by decide +kernel)⟩
abbrev mJ6_intValue_8abf5 : gm_M := (yJ6_intValue_8abf5, (cJ6_intValue_8abf5, (1, ((some .int), []))))
theorem mt_J6_intValue_8abf5 : gm_mt mJ6_intValue_8abf5 0 := ⟨rfl, gm_in (i := 2140) (by decide +kernel) (by decide +kernel), gm_in (i := 106) (by decide +kernel) (by decide +kernel), ⟨by decide, by decide⟩, by decide +kernel, by decide⟩
theorem mv_J6_intValue_8abf5 : gm_mv mJ6_intValue_8abf5 RJ6 := ⟨gm_in (i := 2138) (by decide +kernel) (by decide +kernel), gm_in (i := 2139) (by decide +kernel) (by decide +kernel)⟩
abbrev mX10_leastDifferenceByOrder : gm_M := (yX10_leastDifferenceByOrder, (cX10_leastDifferenceByOrder, (1, ((some .int), []))))
theorem mt_X10_leastDifferenceByOrder : gm_mt mX10_leastDifferenceByOrder 0 := ⟨rfl, gm_in (i := 2145) (by decide +kernel) (by decide +kernel), gm_in (i := 78) (by decide +kernel) (by decide +kernel), ⟨by decide, by decide⟩, by decide +kernel, by decide⟩
theorem mv_X10_leastDifferenceByOrder : gm_mv mX10_leastDifferenceByOrder RX10 := ⟨gm_in (i := 2143) (by decide +kernel) (by decide +kernel), gm_in (i := 2144) (by decide +kernel) (by decide +kernel)⟩
abbrev mX6_leastByStrengths : gm_M := (yX6_leastByStrengths, (cX6_leastByStrengths, (5, ((some .int), []))))
theorem mt_X6_leastByStrengths : gm_mt mX6_leastByStrengths 1 := ⟨rfl, gm_in (i := 2149) (by decide +kernel) (by decide +kernel), gm_in (i := 83) (by decide +kernel) (by decide +kernel), ⟨by decide, by decide⟩, by decide +kernel, by decide⟩
theorem mv_X6_leastByStrengths : gm_mv mX6_leastByStrengths RX6 := ⟨gm_in (i := 2148) (by decide +kernel) (by decide +kernel), gm_in (i := 73) (by decide +kernel) (by decide +kernel)⟩
abbrev mX6_sortStrengths : gm_M := (yX6_sortStrengths, (cX6_sortStrengths, (6, ((some .int), []))))
theorem mt_X6_sortStrengths : gm_mt mX6_sortStrengths 1 := ⟨rfl, gm_in (i := 2153) (by decide +kernel) (by decide +kernel), gm_in (i := 83) (by decide +kernel) (by decide +kernel), ⟨by decide, by decide⟩, by decide +kernel, by decide⟩
theorem mv_X6_sortStrengths : gm_mv mX6_sortStrengths RX6 := ⟨gm_in (i := 2152) (by decide +kernel) (by decide +kernel), gm_in (i := 74) (by decide +kernel) (by decide +kernel)⟩
abbrev mX6_differenceWithout : gm_M := (yX6_differenceWithout, (cX6_differenceWithout, (6, ((some .int), []))))
theorem mt_X6_differenceWithout : gm_mt mX6_differenceWithout 2 := ⟨rfl, gm_in (i := 2157) (by decide +kernel) (by decide +kernel), gm_in (i := 83) (by decide +kernel) (by decide +kernel), ⟨by decide, by decide⟩, by decide +kernel, by decide⟩
theorem mv_X6_differenceWithout : gm_mv mX6_differenceWithout RX6 := ⟨gm_in (i := 2156) (by decide +kernel) (by decide +kernel), gm_in (i := 75) (by decide +kernel) (by decide +kernel)⟩
abbrev mL_batches : gm_M := (yL_batches, (cL_batches, (6, ((some .boolean), []))))
theorem mt_L_batches : gm_mt mL_batches 1 := ⟨rfl, gm_in (i := 2160) (by decide +kernel) (by decide +kernel), gm_in (i := 77) (by decide +kernel) (by decide +kernel), ⟨by decide, by decide⟩, by decide +kernel, by decide⟩
theorem ms_L_batches : Cond.static mL_batches.1 ∈ gm_big := gm_in (i := 2159) (by decide +kernel) (by decide +kernel)
abbrev mX10_leastLatenessByOrders : gm_M := (yX10_leastLatenessByOrders, (cX10_leastLatenessByOrders, (1, ((some .int), []))))
theorem mt_X10_leastLatenessByOrders : gm_mt mX10_leastLatenessByOrders 0 := ⟨rfl, gm_in (i := 2164) (by decide +kernel) (by decide +kernel), gm_in (i := 78) (by decide +kernel) (by decide +kernel), ⟨by decide, by decide⟩, by decide +kernel, by decide⟩
theorem mv_X10_leastLatenessByOrders : gm_mv mX10_leastLatenessByOrders RX10 := ⟨gm_in (i := 2162) (by decide +kernel) (by decide +kernel), gm_in (i := 2163) (by decide +kernel) (by decide +kernel)⟩
abbrev mX4_leastByTrying : gm_M := (yX4_leastByTrying, (cX4_leastByTrying, (2, ((some .int), []))))
theorem mt_X4_leastByTrying : gm_mt mX4_leastByTrying 1 := ⟨rfl, gm_in (i := 2168) (by decide +kernel) (by decide +kernel), gm_in (i := 84) (by decide +kernel) (by decide +kernel), ⟨by decide, by decide⟩, by decide +kernel, by decide⟩
theorem mv_X4_leastByTrying : gm_mv mX4_leastByTrying RX4 := ⟨gm_in (i := 2167) (by decide +kernel) (by decide +kernel), gm_in (i := 76) (by decide +kernel) (by decide +kernel)⟩
abbrev mX4_bestFrom : gm_M := (yX4_bestFrom, (cX4_bestFrom, (10, ((some .int), []))))
theorem mt_X4_bestFrom : gm_mt mX4_bestFrom 6 := ⟨rfl, gm_in (i := 2171) (by decide +kernel) (by decide +kernel), gm_in (i := 84) (by decide +kernel) (by decide +kernel), ⟨by decide, by decide⟩, by decide +kernel, by decide⟩
theorem ms_X4_bestFrom : Cond.static mX4_bestFrom.1 ∈ gm_big := gm_in (i := 2170) (by decide +kernel) (by decide +kernel)
abbrev mL_foretold : gm_M := (yL_foretold, (cL_foretold, (14, ((some .boolean), []))))
theorem mt_L_foretold : gm_mt mL_foretold 1 := ⟨rfl, gm_in (i := 2174) (by decide +kernel) (by decide +kernel), gm_in (i := 77) (by decide +kernel) (by decide +kernel), ⟨by decide, by decide⟩, by decide +kernel, by decide⟩
theorem ms_L_foretold : Cond.static mL_foretold.1 ∈ gm_big := gm_in (i := 2173) (by decide +kernel) (by decide +kernel)
abbrev mX10_save : gm_M := (yX10_save, (cX10_save, (1, ((some .int), []))))
theorem mt_X10_save : gm_mt mX10_save 0 := ⟨rfl, gm_in (i := 2178) (by decide +kernel) (by decide +kernel), gm_in (i := 78) (by decide +kernel) (by decide +kernel), ⟨by decide, by decide⟩, by decide +kernel, by decide⟩
theorem mv_X10_save : gm_mv mX10_save RX10 := ⟨gm_in (i := 2176) (by decide +kernel) (by decide +kernel), gm_in (i := 2177) (by decide +kernel) (by decide +kernel)⟩
abbrev mL_addNeedle : gm_M := (yL_addNeedle, (cL_addNeedle, (3, ((some .int), [(0, 5, 6, 13), (0, 5, 9, 15)]))))
theorem mx_L_addNeedle : gm_mx mL_addNeedle 2 := ⟨by decide, gm_in (i := 472) (by decide +kernel) (by decide +kernel), gm_in (i := 77) (by decide +kernel) (by decide +kernel), ⟨by decide, by decide⟩, by decide +kernel, by decide⟩
theorem ms_L_addNeedle : Cond.static mL_addNeedle.1 ∈ gm_big := gm_in (i := 471) (by decide +kernel) (by decide +kernel)
abbrev mL_setDeviation : gm_M := (yL_setDeviation, (cL_setDeviation, (5, ((some .int), [(0, 10, 11, 21), (0, 10, 15, 13), (0, 10, 20, 15)]))))
theorem mx_L_setDeviation : gm_mx mL_setDeviation 4 := ⟨by decide, gm_in (i := 778) (by decide +kernel) (by decide +kernel), gm_in (i := 77) (by decide +kernel) (by decide +kernel), ⟨by decide, by decide⟩, by decide +kernel, by decide⟩
theorem ms_L_setDeviation : Cond.static mL_setDeviation.1 ∈ gm_big := gm_in (i := 777) (by decide +kernel) (by decide +kernel)
abbrev mL_shift : gm_M := (yL_shift, (cL_shift, (4, ((some .int), [(0, 6, 7, 21), (0, 6, 10, 13), (0, 6, 14, 15), (0, 6, 18, 27)]))))
theorem mx_L_shift : gm_mx mL_shift 3 := ⟨by decide, gm_in (i := 808) (by decide +kernel) (by decide +kernel), gm_in (i := 77) (by decide +kernel) (by decide +kernel), ⟨by decide, by decide⟩, by decide +kernel, by decide⟩
theorem ms_L_shift : Cond.static mL_shift.1 ∈ gm_big := gm_in (i := 807) (by decide +kernel) (by decide +kernel)
abbrev mL_correct : gm_M := (yL_correct, (cL_correct, (3, ((some .int), [(0, 8, 9, 21), (0, 8, 12, 15), (0, 8, 16, 27)]))))
theorem mx_L_correct : gm_mx mL_correct 2 := ⟨by decide, gm_in (i := 818) (by decide +kernel) (by decide +kernel), gm_in (i := 77) (by decide +kernel) (by decide +kernel), ⟨by decide, by decide⟩, by decide +kernel, by decide⟩
theorem ms_L_correct : Cond.static mL_correct.1 ∈ gm_big := gm_in (i := 817) (by decide +kernel) (by decide +kernel)
abbrev mL_discard : gm_M := (yL_discard, (cL_discard, (3, ((some .int), [(0, 5, 6, 21), (0, 5, 9, 15)]))))
theorem mx_L_discard : gm_mx mL_discard 2 := ⟨by decide, gm_in (i := 827) (by decide +kernel) (by decide +kernel), gm_in (i := 77) (by decide +kernel) (by decide +kernel), ⟨by decide, by decide⟩, by decide +kernel, by decide⟩
theorem ms_L_discard : Cond.static mL_discard.1 ∈ gm_big := gm_in (i := 826) (by decide +kernel) (by decide +kernel)
abbrev mL_setTolerance : gm_M := (yL_setTolerance, (cL_setTolerance, (3, ((some .int), [(0, 5, 6, 13)]))))
theorem mx_L_setTolerance : gm_mx mL_setTolerance 2 := ⟨by decide, gm_in (i := 836) (by decide +kernel) (by decide +kernel), gm_in (i := 77) (by decide +kernel) (by decide +kernel), ⟨by decide, by decide⟩, by decide +kernel, by decide⟩
theorem ms_L_setTolerance : Cond.static mL_setTolerance.1 ∈ gm_big := gm_in (i := 835) (by decide +kernel) (by decide +kernel)
abbrev mL_needleAtRank : gm_M := (yL_needleAtRank, (cL_needleAtRank, (3, ((some .int), [(0, 5, 6, 57)]))))
theorem mx_L_needleAtRank : gm_mx mL_needleAtRank 2 := ⟨by decide, gm_in (i := 845) (by decide +kernel) (by decide +kernel), gm_in (i := 77) (by decide +kernel) (by decide +kernel), ⟨by decide, by decide⟩, by decide +kernel, by decide⟩
theorem ms_L_needleAtRank : Cond.static mL_needleAtRank.1 ∈ gm_big := gm_in (i := 844) (by decide +kernel) (by decide +kernel)
abbrev mL_meanError : gm_M := (yL_meanError, (cL_meanError, (2, ((some .double), [(0, 4, 5, 81)]))))
theorem mx_L_meanError : gm_mx mL_meanError 1 := ⟨by decide, gm_in (i := 863) (by decide +kernel) (by decide +kernel), gm_in (i := 77) (by decide +kernel) (by decide +kernel), ⟨by decide, by decide⟩, by decide +kernel, by decide⟩
theorem ms_L_meanError : Cond.static mL_meanError.1 ∈ gm_big := gm_in (i := 862) (by decide +kernel) (by decide +kernel)
abbrev mL_partnerOf : gm_M := (yL_partnerOf, (cL_partnerOf, (3, ((some .int), [(0, 5, 6, 21), (0, 5, 9, 57)]))))
theorem mx_L_partnerOf : gm_mx mL_partnerOf 2 := ⟨by decide, gm_in (i := 892) (by decide +kernel) (by decide +kernel), gm_in (i := 77) (by decide +kernel) (by decide +kernel), ⟨by decide, by decide⟩, by decide +kernel, by decide⟩
theorem ms_L_partnerOf : Cond.static mL_partnerOf.1 ∈ gm_big := gm_in (i := 891) (by decide +kernel) (by decide +kernel)
abbrev mL_addBatch : gm_M := (yL_addBatch, (cL_addBatch, (5, ((some .int), [(0, 7, 8, 13), (0, 7, 12, 15)]))))
theorem mx_L_addBatch : gm_mx mL_addBatch 4 := ⟨by decide, gm_in (i := 911) (by decide +kernel) (by decide +kernel), gm_in (i := 77) (by decide +kernel) (by decide +kernel), ⟨by decide, by decide⟩, by decide +kernel, by decide⟩
theorem ms_L_addBatch : Cond.static mL_addBatch.1 ∈ gm_big := gm_in (i := 910) (by decide +kernel) (by decide +kernel)
abbrev mL_dropBatch : gm_M := (yL_dropBatch, (cL_dropBatch, (3, ((some .int), [(0, 5, 6, 57)]))))
theorem mx_L_dropBatch : gm_mx mL_dropBatch 2 := ⟨by decide, gm_in (i := 920) (by decide +kernel) (by decide +kernel), gm_in (i := 77) (by decide +kernel) (by decide +kernel), ⟨by decide, by decide⟩, by decide +kernel, by decide⟩
theorem ms_L_dropBatch : Cond.static mL_dropBatch.1 ∈ gm_big := gm_in (i := 919) (by decide +kernel) (by decide +kernel)
abbrev mL_bake : gm_M := (yL_bake, (cL_bake, (3, ((some .int), [(0, 5, 6, 57)]))))
theorem mx_L_bake : gm_mx mL_bake 2 := ⟨by decide, gm_in (i := 929) (by decide +kernel) (by decide +kernel), gm_in (i := 77) (by decide +kernel) (by decide +kernel), ⟨by decide, by decide⟩, by decide +kernel, by decide⟩
theorem ms_L_bake : Cond.static mL_bake.1 ∈ gm_big := gm_in (i := 928) (by decide +kernel) (by decide +kernel)
abbrev mL_rest : gm_M := (yL_rest, (cL_rest, (3, ((some .int), [(0, 5, 6, 13)]))))
theorem mx_L_rest : gm_mx mL_rest 2 := ⟨by decide, gm_in (i := 938) (by decide +kernel) (by decide +kernel), gm_in (i := 77) (by decide +kernel) (by decide +kernel), ⟨by decide, by decide⟩, by decide +kernel, by decide⟩
theorem ms_L_rest : Cond.static mL_rest.1 ∈ gm_big := gm_in (i := 937) (by decide +kernel) (by decide +kernel)
abbrev mL_bestFirst : gm_M := (yL_bestFirst, (cL_bestFirst, (2, ((some .int), [(0, 4, 5, 57)]))))
theorem mx_L_bestFirst : gm_mx mL_bestFirst 1 := ⟨by decide, gm_in (i := 947) (by decide +kernel) (by decide +kernel), gm_in (i := 77) (by decide +kernel) (by decide +kernel), ⟨by decide, by decide⟩, by decide +kernel, by decide⟩
theorem ms_L_bestFirst : Cond.static mL_bestFirst.1 ∈ gm_big := gm_in (i := 946) (by decide +kernel) (by decide +kernel)
abbrev mL_bakingShare : gm_M := (yL_bakingShare, (cL_bakingShare, (2, ((some .float), [(0, 4, 5, 81)]))))
theorem mx_L_bakingShare : gm_mx mL_bakingShare 1 := ⟨by decide, gm_in (i := 960) (by decide +kernel) (by decide +kernel), gm_in (i := 77) (by decide +kernel) (by decide +kernel), ⟨by decide, by decide⟩, by decide +kernel, by decide⟩
theorem ms_L_bakingShare : Cond.static mL_bakingShare.1 ∈ gm_big := gm_in (i := 959) (by decide +kernel) (by decide +kernel)
abbrev mL_writeLabel : gm_M := (yL_writeLabel, (cL_writeLabel, (3, ((some .int), [(0, 5, 6, 21)]))))
theorem mx_L_writeLabel : gm_mx mL_writeLabel 2 := ⟨by decide, gm_in (i := 969) (by decide +kernel) (by decide +kernel), gm_in (i := 77) (by decide +kernel) (by decide +kernel), ⟨by decide, by decide⟩, by decide +kernel, by decide⟩
theorem ms_L_writeLabel : Cond.static mL_writeLabel.1 ∈ gm_big := gm_in (i := 968) (by decide +kernel) (by decide +kernel)
abbrev mL_labelAt : gm_M := (yL_labelAt, (cL_labelAt, (3, ((some .int), [(0, 5, 6, 21)]))))
theorem mx_L_labelAt : gm_mx mL_labelAt 2 := ⟨by decide, gm_in (i := 1259) (by decide +kernel) (by decide +kernel), gm_in (i := 77) (by decide +kernel) (by decide +kernel), ⟨by decide, by decide⟩, by decide +kernel, by decide⟩
theorem ms_L_labelAt : Cond.static mL_labelAt.1 ∈ gm_big := gm_in (i := 1258) (by decide +kernel) (by decide +kernel)
abbrev mL_type : gm_M := (yL_type, (cL_type, (3, ((some .int), [(0, 5, 6, 13), (0, 5, 9, 15)]))))
theorem mx_L_type : gm_mx mL_type 2 := ⟨by decide, gm_in (i := 1277) (by decide +kernel) (by decide +kernel), gm_in (i := 77) (by decide +kernel) (by decide +kernel), ⟨by decide, by decide⟩, by decide +kernel, by decide⟩
theorem ms_L_type : Cond.static mL_type.1 ∈ gm_big := gm_in (i := 1276) (by decide +kernel) (by decide +kernel)
abbrev mL_execute : gm_M := (yL_execute, (cL_execute, (2, ((some .int), [(0, 4, 5, 13), (0, 4, 8, 15)]))))
theorem mx_L_execute : gm_mx mL_execute 1 := ⟨by decide, gm_in (i := 1291) (by decide +kernel) (by decide +kernel), gm_in (i := 77) (by decide +kernel) (by decide +kernel), ⟨by decide, by decide⟩, by decide +kernel, by decide⟩
theorem ms_L_execute : Cond.static mL_execute.1 ∈ gm_big := gm_in (i := 1290) (by decide +kernel) (by decide +kernel)
abbrev mL_errorPosition : gm_M := (yL_errorPosition, (cL_errorPosition, (2, ((some .int), [(0, 4, 5, 57)]))))
theorem mx_L_errorPosition : gm_mx mL_errorPosition 1 := ⟨by decide, gm_in (i := 1364) (by decide +kernel) (by decide +kernel), gm_in (i := 77) (by decide +kernel) (by decide +kernel), ⟨by decide, by decide⟩, by decide +kernel, by decide⟩
theorem ms_L_errorPosition : Cond.static mL_errorPosition.1 ∈ gm_big := gm_in (i := 1363) (by decide +kernel) (by decide +kernel)
abbrev mL_failedCommand : gm_M := (yL_failedCommand, (cL_failedCommand, (2, ((some .int), [(0, 4, 5, 57)]))))
theorem mx_L_failedCommand : gm_mx mL_failedCommand 1 := ⟨by decide, gm_in (i := 1372) (by decide +kernel) (by decide +kernel), gm_in (i := 77) (by decide +kernel) (by decide +kernel), ⟨by decide, by decide⟩, by decide +kernel, by decide⟩
theorem ms_L_failedCommand : Cond.static mL_failedCommand.1 ∈ gm_big := gm_in (i := 1371) (by decide +kernel) (by decide +kernel)
abbrev mL_undo : gm_M := (yL_undo, (cL_undo, (2, ((some .int), [(0, 4, 5, 15)]))))
theorem mx_L_undo : gm_mx mL_undo 1 := ⟨by decide, gm_in (i := 1380) (by decide +kernel) (by decide +kernel), gm_in (i := 77) (by decide +kernel) (by decide +kernel), ⟨by decide, by decide⟩, by decide +kernel, by decide⟩
theorem ms_L_undo : Cond.static mL_undo.1 ∈ gm_big := gm_in (i := 1379) (by decide +kernel) (by decide +kernel)
abbrev mL_restore : gm_M := (yL_restore, (cL_restore, (2, ((some .int), [(0, 4, 5, 15)]))))
theorem mx_L_restore : gm_mx mL_restore 1 := ⟨by decide, gm_in (i := 1393) (by decide +kernel) (by decide +kernel), gm_in (i := 77) (by decide +kernel) (by decide +kernel), ⟨by decide, by decide⟩, by decide +kernel, by decide⟩
theorem ms_L_restore : Cond.static mL_restore.1 ∈ gm_big := gm_in (i := 1392) (by decide +kernel) (by decide +kernel)
abbrev mL_batchAt : gm_M := (yL_batchAt, (cL_batchAt, (3, ((some .int), [(0, 5, 6, 21)]))))
theorem mx_L_batchAt : gm_mx mL_batchAt 2 := ⟨by decide, gm_in (i := 1431) (by decide +kernel) (by decide +kernel), gm_in (i := 77) (by decide +kernel) (by decide +kernel), ⟨by decide, by decide⟩, by decide +kernel, by decide⟩
theorem ms_L_batchAt : Cond.static mL_batchAt.1 ∈ gm_big := gm_in (i := 1430) (by decide +kernel) (by decide +kernel)
abbrev mL_latenessNow : gm_M := (yL_latenessNow, (cL_latenessNow, (3, ((some .int), [(0, 5, 6, 57)]))))
theorem mx_L_latenessNow : gm_mx mL_latenessNow 2 := ⟨by decide, gm_in (i := 1451) (by decide +kernel) (by decide +kernel), gm_in (i := 77) (by decide +kernel) (by decide +kernel), ⟨by decide, by decide⟩, by decide +kernel, by decide⟩
theorem ms_L_latenessNow : Cond.static mL_latenessNow.1 ∈ gm_big := gm_in (i := 1450) (by decide +kernel) (by decide +kernel)
abbrev mL_strengthOf : gm_M := (yL_strengthOf, (cL_strengthOf, (3, ((some .int), [(0, 5, 6, 21)]))))
theorem mx_L_strengthOf : gm_mx mL_strengthOf 2 := ⟨by decide, gm_in (i := 1510) (by decide +kernel) (by decide +kernel), gm_in (i := 77) (by decide +kernel) (by decide +kernel), ⟨by decide, by decide⟩, by decide +kernel, by decide⟩
theorem ms_L_strengthOf : Cond.static mL_strengthOf.1 ∈ gm_big := gm_in (i := 1509) (by decide +kernel) (by decide +kernel)
abbrev mL_deviationAt : gm_M := (yL_deviationAt, (cL_deviationAt, (4, ((some .int), [(0, 9, 10, 21), (0, 9, 13, 13)]))))
theorem mx_L_deviationAt : gm_mx mL_deviationAt 3 := ⟨by decide, gm_in (i := 1528) (by decide +kernel) (by decide +kernel), gm_in (i := 77) (by decide +kernel) (by decide +kernel), ⟨by decide, by decide⟩, by decide +kernel, by decide⟩
theorem ms_L_deviationAt : Cond.static mL_deviationAt.1 ∈ gm_big := gm_in (i := 1527) (by decide +kernel) (by decide +kernel)
abbrev mL_isDiscarded : gm_M := (yL_isDiscarded, (cL_isDiscarded, (3, ((some .int), [(0, 13, 14, 21)]))))
theorem mx_L_isDiscarded : gm_mx mL_isDiscarded 2 := ⟨by decide, gm_in (i := 1547) (by decide +kernel) (by decide +kernel), gm_in (i := 77) (by decide +kernel) (by decide +kernel), ⟨by decide, by decide⟩, by decide +kernel, by decide⟩
theorem ms_L_isDiscarded : Cond.static mL_isDiscarded.1 ∈ gm_big := gm_in (i := 1546) (by decide +kernel) (by decide +kernel)
abbrev mL_bestShift : gm_M := (yL_bestShift, (cL_bestShift, (3, ((some .int), [(0, 8, 9, 21)]))))
theorem mx_L_bestShift : gm_mx mL_bestShift 2 := ⟨by decide, gm_in (i := 1557) (by decide +kernel) (by decide +kernel), gm_in (i := 77) (by decide +kernel) (by decide +kernel), ⟨by decide, by decide⟩, by decide +kernel, by decide⟩
theorem ms_L_bestShift : Cond.static mL_bestShift.1 ∈ gm_big := gm_in (i := 1556) (by decide +kernel) (by decide +kernel)
abbrev mL_errorOf : gm_M := (yL_errorOf, (cL_errorOf, (3, ((some .int), [(0, 5, 6, 21)]))))
theorem mx_L_errorOf : gm_mx mL_errorOf 2 := ⟨by decide, gm_in (i := 1568) (by decide +kernel) (by decide +kernel), gm_in (i := 77) (by decide +kernel) (by decide +kernel), ⟨by decide, by decide⟩, by decide +kernel, by decide⟩
theorem ms_L_errorOf : Cond.static mL_errorOf.1 ∈ gm_big := gm_in (i := 1567) (by decide +kernel) (by decide +kernel)
abbrev mL_isReject : gm_M := (yL_isReject, (cL_isReject, (3, ((some .int), [(0, 13, 14, 21)]))))
theorem mx_L_isReject : gm_mx mL_isReject 2 := ⟨by decide, gm_in (i := 1575) (by decide +kernel) (by decide +kernel), gm_in (i := 77) (by decide +kernel) (by decide +kernel), ⟨by decide, by decide⟩, by decide +kernel, by decide⟩
theorem ms_L_isReject : Cond.static mL_isReject.1 ∈ gm_big := gm_in (i := 1574) (by decide +kernel) (by decide +kernel)
abbrev mL_bestShiftBySum : gm_M := (yL_bestShiftBySum, (cL_bestShiftBySum, (3, ((some .int), [(0, 8, 9, 21)]))))
theorem mx_L_bestShiftBySum : gm_mx mL_bestShiftBySum 2 := ⟨by decide, gm_in (i := 1582) (by decide +kernel) (by decide +kernel), gm_in (i := 77) (by decide +kernel) (by decide +kernel), ⟨by decide, by decide⟩, by decide +kernel, by decide⟩
theorem ms_L_bestShiftBySum : Cond.static mL_bestShiftBySum.1 ∈ gm_big := gm_in (i := 1581) (by decide +kernel) (by decide +kernel)
abbrev mL_trueCourse : gm_M := (yL_trueCourse, (cL_trueCourse, (4, ((some .int), [(0, 6, 7, 21), (0, 6, 10, 13)]))))
theorem mx_L_trueCourse : gm_mx mL_trueCourse 3 := ⟨by decide, gm_in (i := 1605) (by decide +kernel) (by decide +kernel), gm_in (i := 77) (by decide +kernel) (by decide +kernel), ⟨by decide, by decide⟩, by decide +kernel, by decide⟩
theorem ms_L_trueCourse : Cond.static mL_trueCourse.1 ∈ gm_big := gm_in (i := 1604) (by decide +kernel) (by decide +kernel)
abbrev mL_courseFor : gm_M := (yL_courseFor, (cL_courseFor, (4, ((some .int), [(0, 6, 7, 21), (0, 6, 10, 13), (0, 6, 14, 57)]))))
theorem mx_L_courseFor : gm_mx mL_courseFor 3 := ⟨by decide, gm_in (i := 1622) (by decide +kernel) (by decide +kernel), gm_in (i := 77) (by decide +kernel) (by decide +kernel), ⟨by decide, by decide⟩, by decide +kernel, by decide⟩
theorem ms_L_courseFor : Cond.static mL_courseFor.1 ∈ gm_big := gm_in (i := 1621) (by decide +kernel) (by decide +kernel)
abbrev mL_courseForNearby : gm_M := (yL_courseForNearby, (cL_courseForNearby, (4, ((some .int), [(0, 6, 7, 21), (0, 6, 10, 13), (0, 6, 14, 57)]))))
theorem mx_L_courseForNearby : gm_mx mL_courseForNearby 3 := ⟨by decide, gm_in (i := 1638) (by decide +kernel) (by decide +kernel), gm_in (i := 77) (by decide +kernel) (by decide +kernel), ⟨by decide, by decide⟩, by decide +kernel, by decide⟩
theorem ms_L_courseForNearby : Cond.static mL_courseForNearby.1 ∈ gm_big := gm_in (i := 1637) (by decide +kernel) (by decide +kernel)
abbrev mL_missedCourses : gm_M := (yL_missedCourses, (cL_missedCourses, (3, ((some .int), [(0, 5, 6, 21)]))))
theorem mx_L_missedCourses : gm_mx mL_missedCourses 2 := ⟨by decide, gm_in (i := 1649) (by decide +kernel) (by decide +kernel), gm_in (i := 77) (by decide +kernel) (by decide +kernel), ⟨by decide, by decide⟩, by decide +kernel, by decide⟩
theorem ms_L_missedCourses : Cond.static mL_missedCourses.1 ∈ gm_big := gm_in (i := 1648) (by decide +kernel) (by decide +kernel)
theorem lk_L_368 {M : gm_M} (h : M.1.cls = RL) : gm_lk M 368 mX10_init := Or.inl (by rw [h]; exact gm_in (i := 131) (by decide +kernel) (by decide +kernel))
theorem lk_X10_46 {M : gm_M} (h : M.1.cls = RX10) : gm_lk M 46 mJ4_init_da8c8 := Or.inl (by rw [h]; exact gm_in (i := 274) (by decide +kernel) (by decide +kernel))
theorem lk_J4_1 {M : gm_M} (h : M.1.cls = RJ4) : gm_lk M 1 mJ5_init_d00df := Or.inl (by rw [h]; exact gm_in (i := 277) (by decide +kernel) (by decide +kernel))
theorem lk_J5_26 {M : gm_M} (h : M.1.cls = RJ5) : gm_lk M 26 mJ2_newBytesFor_77867 := Or.inl (by rw [h]; exact gm_in (i := 283) (by decide +kernel) (by decide +kernel))
theorem lk_J2_11 {M : gm_M} (h : M.1.cls = RJ2) : gm_lk M 11 mJ2_newBytesLength_0f7a4 := Or.inl (by rw [h]; exact gm_in (i := 286) (by decide +kernel) (by decide +kernel))
theorem lk_L_232 {M : gm_M} (h : M.1.cls = RL) : gm_lk M 232 mX10_tolerance := Or.inl (by rw [h]; exact gm_in (i := 371) (by decide +kernel) (by decide +kernel))
theorem lk_L_348 {M : gm_M} (h : M.1.cls = RL) : gm_lk M 348 mX10_leastDifference := Or.inl (by rw [h]; exact gm_in (i := 375) (by decide +kernel) (by decide +kernel))
theorem lk_X3_50 {M : gm_M} (h : M.1.cls = RX3) : gm_lk M 50 mX3_isOut := Or.inl (by rw [h]; exact gm_in (i := 387) (by decide +kernel) (by decide +kernel))
theorem lk_X3_46 {M : gm_M} (h : M.1.cls = RX3) : gm_lk M 46 mX3_isTooWide := Or.inl (by rw [h]; exact gm_in (i := 394) (by decide +kernel) (by decide +kernel))
theorem lk_X3_38 {M : gm_M} (h : M.1.cls = RX3) : gm_lk M 38 mX3_at := Or.inl (by rw [h]; exact gm_in (i := 398) (by decide +kernel) (by decide +kernel))
theorem lk_X6_24 {M : gm_M} (h : M.1.cls = RX6) : gm_lk M 24 mX6_leastForSet := Or.inl (by rw [h]; exact gm_in (i := 405) (by decide +kernel) (by decide +kernel))
theorem lk_X6_28 {M : gm_M} (h : M.1.cls = RX6) : gm_lk M 28 mX6_lowestOf := Or.inl (by rw [h]; exact gm_in (i := 409) (by decide +kernel) (by decide +kernel))
theorem lk_X6_32 {M : gm_M} (h : M.1.cls = RX6) : gm_lk M 32 mJ6_bitCount_0f7a4 := Or.inl (by rw [h]; exact gm_in (i := 413) (by decide +kernel) (by decide +kernel))
theorem lk_X6_42 {M : gm_M} (h : M.1.cls = RX6) : gm_lk M 42 mX6_withPair := Or.inl (by rw [h]; exact gm_in (i := 420) (by decide +kernel) (by decide +kernel))
theorem lk_X6_55 {M : gm_M} (h : M.1.cls = RX6) : gm_lk M 55 mJ9_abs_0f7a4 := Or.inl (by rw [h]; exact gm_in (i := 424) (by decide +kernel) (by decide +kernel))
theorem lk_X6_46 {M : gm_M} (h : M.1.cls = RX6) : gm_lk M 46 mJ9_min_7cf53 := Or.inl (by rw [h]; exact gm_in (i := 427) (by decide +kernel) (by decide +kernel))
theorem lk_L_253 {M : gm_M} (h : M.1.cls = RL) : gm_lk M 253 mX10_leastLateness := Or.inl (by rw [h]; exact gm_in (i := 430) (by decide +kernel) (by decide +kernel))
theorem lk_X4_24 {M : gm_M} (h : M.1.cls = RX4) : gm_lk M 24 mX4_minutesOf := Or.inl (by rw [h]; exact gm_in (i := 438) (by decide +kernel) (by decide +kernel))
theorem lk_X4_33 {M : gm_M} (h : M.1.cls = RX4) : gm_lk M 33 mX4_beginningWith := Or.inl (by rw [h]; exact gm_in (i := 443) (by decide +kernel) (by decide +kernel))
theorem lk_X4_37 {M : gm_M} (h : M.1.cls = RX4) : gm_lk M 37 mJ9_min_7cf53 := Or.inl (by rw [h]; exact gm_in (i := 451) (by decide +kernel) (by decide +kernel))
theorem lk_L_384 {M : gm_M} (h : M.1.cls = RL) : gm_lk M 384 mX11_init := Or.inl (by rw [h]; exact gm_in (i := 454) (by decide +kernel) (by decide +kernel))
theorem lk_L_168 {M : gm_M} (h : M.1.cls = RL) : gm_lk M 168 mX11_next := Or.inl (by rw [h]; exact gm_in (i := 462) (by decide +kernel) (by decide +kernel))
theorem lk_L_380 {M : gm_M} (h : M.1.cls = RL) : gm_lk M 380 mL_cell := Or.inl (by rw [h]; exact gm_in (i := 467) (by decide +kernel) (by decide +kernel))
theorem lk_L_190 {M : gm_M} (h : M.1.cls = RL) : gm_lk M 190 mL_addNeedle := Or.inl (by rw [h]; exact gm_in (i := 470) (by decide +kernel) (by decide +kernel))
theorem lk_L_7 {M : gm_M} (h : M.1.cls = RL) : gm_lk M 7 mX10_addNeedle := Or.inl (by rw [h]; exact gm_in (i := 475) (by decide +kernel) (by decide +kernel))
theorem lk_X10_71 {M : gm_M} (h : M.1.cls = RX10) : gm_lk M 71 mX10_modify := Or.inl (by rw [h]; exact gm_in (i := 480) (by decide +kernel) (by decide +kernel))
theorem lk_X3_65 {M : gm_M} (h : M.1.cls = RX3) : gm_lk M 65 mX3_has := Or.inl (by rw [h]; exact gm_in (i := 510) (by decide +kernel) (by decide +kernel))
theorem lk_X3_74 {M : gm_M} (h : M.1.cls = RX3) : gm_lk M 74 mX3_whyNotMove := Or.inl (by rw [h]; exact gm_in (i := 522) (by decide +kernel) (by decide +kernel))
theorem lk_X3_78 {M : gm_M} (h : M.1.cls = RX3) : gm_lk M 78 mX3_shiftFromSum := Or.inl (by rw [h]; exact gm_in (i := 532) (by decide +kernel) (by decide +kernel))
theorem lk_X3_111 {M : gm_M} (h : M.1.cls = RX3) : gm_lk M 111 mJ9_abs_0f7a4 := Or.inl (by rw [h]; exact gm_in (i := 536) (by decide +kernel) (by decide +kernel))
theorem lk_X10_356 {M : gm_M} (h : M.1.cls = RX10) : gm_lk M 356 mX10_refuse := Or.inl (by rw [h]; exact gm_in (i := 558) (by decide +kernel) (by decide +kernel))
theorem lk_X3_85 {M : gm_M} (h : M.1.cls = RX3) : gm_lk M 85 mX3_move := Or.inl (by rw [h]; exact gm_in (i := 752) (by decide +kernel) (by decide +kernel))
theorem lk_X3_89 {M : gm_M} (h : M.1.cls = RX3) : gm_lk M 89 mJ6_bitCount_0f7a4 := Or.inl (by rw [h]; exact gm_in (i := 757) (by decide +kernel) (by decide +kernel))
theorem lk_X5_66 {M : gm_M} (h : M.1.cls = RX5) : gm_lk M 66 mX5_latenessFrom := Or.inl (by rw [h]; exact gm_in (i := 774) (by decide +kernel) (by decide +kernel))
theorem lk_X5_70 {M : gm_M} (h : M.1.cls = RX5) : gm_lk M 70 mX5_takeOut := Or.inl (by rw [h]; exact gm_in (i := 775) (by decide +kernel) (by decide +kernel))
theorem lk_L_196 {M : gm_M} (h : M.1.cls = RL) : gm_lk M 196 mL_setDeviation := Or.inl (by rw [h]; exact gm_in (i := 776) (by decide +kernel) (by decide +kernel))
theorem lk_L_17 {M : gm_M} (h : M.1.cls = RL) : gm_lk M 17 mX10_setDeviation := Or.inl (by rw [h]; exact gm_in (i := 800) (by decide +kernel) (by decide +kernel))
theorem lk_L_199 {M : gm_M} (h : M.1.cls = RL) : gm_lk M 199 mL_shift := Or.inl (by rw [h]; exact gm_in (i := 806) (by decide +kernel) (by decide +kernel))
theorem lk_L_23 {M : gm_M} (h : M.1.cls = RL) : gm_lk M 23 mX10_shift := Or.inl (by rw [h]; exact gm_in (i := 810) (by decide +kernel) (by decide +kernel))
theorem lk_L_202 {M : gm_M} (h : M.1.cls = RL) : gm_lk M 202 mL_correct := Or.inl (by rw [h]; exact gm_in (i := 816) (by decide +kernel) (by decide +kernel))
theorem lk_L_29 {M : gm_M} (h : M.1.cls = RL) : gm_lk M 29 mX10_correct := Or.inl (by rw [h]; exact gm_in (i := 819) (by decide +kernel) (by decide +kernel))
theorem lk_L_204 {M : gm_M} (h : M.1.cls = RL) : gm_lk M 204 mL_discard := Or.inl (by rw [h]; exact gm_in (i := 825) (by decide +kernel) (by decide +kernel))
theorem lk_L_32 {M : gm_M} (h : M.1.cls = RL) : gm_lk M 32 mX10_discard := Or.inl (by rw [h]; exact gm_in (i := 828) (by decide +kernel) (by decide +kernel))
theorem lk_L_206 {M : gm_M} (h : M.1.cls = RL) : gm_lk M 206 mL_setTolerance := Or.inl (by rw [h]; exact gm_in (i := 834) (by decide +kernel) (by decide +kernel))
theorem lk_L_35 {M : gm_M} (h : M.1.cls = RL) : gm_lk M 35 mX10_setTolerance := Or.inl (by rw [h]; exact gm_in (i := 837) (by decide +kernel) (by decide +kernel))
theorem lk_L_288 {M : gm_M} (h : M.1.cls = RL) : gm_lk M 288 mL_needleAtRank := Or.inl (by rw [h]; exact gm_in (i := 843) (by decide +kernel) (by decide +kernel))
theorem lk_L_74 {M : gm_M} (h : M.1.cls = RL) : gm_lk M 74 mX10_needleAtRank := Or.inl (by rw [h]; exact gm_in (i := 847) (by decide +kernel) (by decide +kernel))
theorem lk_X3_114 {M : gm_M} (h : M.1.cls = RX3) : gm_lk M 114 mX3_isAhead := Or.inl (by rw [h]; exact gm_in (i := 855) (by decide +kernel) (by decide +kernel))
theorem lk_X3_108 {M : gm_M} (h : M.1.cls = RX3) : gm_lk M 108 mX3_errorShiftedBy := Or.inl (by rw [h]; exact gm_in (i := 859) (by decide +kernel) (by decide +kernel))
theorem lk_L_293 {M : gm_M} (h : M.1.cls = RL) : gm_lk M 293 mL_meanError := Or.inl (by rw [h]; exact gm_in (i := 861) (by decide +kernel) (by decide +kernel))
theorem lk_L_77 {M : gm_M} (h : M.1.cls = RL) : gm_lk M 77 mX10_meanError := Or.inl (by rw [h]; exact gm_in (i := 878) (by decide +kernel) (by decide +kernel))
theorem lk_X10_165 {M : gm_M} (h : M.1.cls = RX10) : gm_lk M 165 mJ6_bitCount_0f7a4 := Or.inl (by rw [h]; exact gm_in (i := 883) (by decide +kernel) (by decide +kernel))
theorem lk_X10_175 {M : gm_M} (h : M.1.cls = RX10) : gm_lk M 175 mX10_holds := Or.inl (by rw [h]; exact gm_in (i := 887) (by decide +kernel) (by decide +kernel))
theorem lk_L_346 {M : gm_M} (h : M.1.cls = RL) : gm_lk M 346 mL_partnerOf := Or.inl (by rw [h]; exact gm_in (i := 890) (by decide +kernel) (by decide +kernel))
theorem lk_L_85 {M : gm_M} (h : M.1.cls = RL) : gm_lk M 85 mX10_partnerOf := Or.inl (by rw [h]; exact gm_in (i := 893) (by decide +kernel) (by decide +kernel))
theorem lk_X10_99 {M : gm_M} (h : M.1.cls = RX10) : gm_lk M 99 mX10_needNeedle := Or.inl (by rw [h]; exact gm_in (i := 897) (by decide +kernel) (by decide +kernel))
theorem lk_X6_69 {M : gm_M} (h : M.1.cls = RX6) : gm_lk M 69 mX6_leastBySets := Or.inl (by rw [h]; exact gm_in (i := 907) (by decide +kernel) (by decide +kernel))
theorem lk_L_211 {M : gm_M} (h : M.1.cls = RL) : gm_lk M 211 mL_addBatch := Or.inl (by rw [h]; exact gm_in (i := 909) (by decide +kernel) (by decide +kernel))
theorem lk_L_88 {M : gm_M} (h : M.1.cls = RL) : gm_lk M 88 mX10_addBatch := Or.inl (by rw [h]; exact gm_in (i := 912) (by decide +kernel) (by decide +kernel))
theorem lk_L_217 {M : gm_M} (h : M.1.cls = RL) : gm_lk M 217 mL_dropBatch := Or.inl (by rw [h]; exact gm_in (i := 918) (by decide +kernel) (by decide +kernel))
theorem lk_L_91 {M : gm_M} (h : M.1.cls = RL) : gm_lk M 91 mX10_dropBatch := Or.inl (by rw [h]; exact gm_in (i := 921) (by decide +kernel) (by decide +kernel))
theorem lk_L_221 {M : gm_M} (h : M.1.cls = RL) : gm_lk M 221 mL_bake := Or.inl (by rw [h]; exact gm_in (i := 927) (by decide +kernel) (by decide +kernel))
theorem lk_L_94 {M : gm_M} (h : M.1.cls = RL) : gm_lk M 94 mX10_bake := Or.inl (by rw [h]; exact gm_in (i := 930) (by decide +kernel) (by decide +kernel))
theorem lk_L_219 {M : gm_M} (h : M.1.cls = RL) : gm_lk M 219 mL_rest := Or.inl (by rw [h]; exact gm_in (i := 936) (by decide +kernel) (by decide +kernel))
theorem lk_L_97 {M : gm_M} (h : M.1.cls = RL) : gm_lk M 97 mX10_rest := Or.inl (by rw [h]; exact gm_in (i := 939) (by decide +kernel) (by decide +kernel))
theorem lk_L_354 {M : gm_M} (h : M.1.cls = RL) : gm_lk M 354 mL_bestFirst := Or.inl (by rw [h]; exact gm_in (i := 945) (by decide +kernel) (by decide +kernel))
theorem lk_L_106 {M : gm_M} (h : M.1.cls = RL) : gm_lk M 106 mX10_bestFirst := Or.inl (by rw [h]; exact gm_in (i := 948) (by decide +kernel) (by decide +kernel))
theorem lk_X4_49 {M : gm_M} (h : M.1.cls = RX4) : gm_lk M 49 mX4_leastBySets := Or.inl (by rw [h]; exact gm_in (i := 956) (by decide +kernel) (by decide +kernel))
theorem lk_L_357 {M : gm_M} (h : M.1.cls = RL) : gm_lk M 357 mL_bakingShare := Or.inl (by rw [h]; exact gm_in (i := 958) (by decide +kernel) (by decide +kernel))
theorem lk_L_110 {M : gm_M} (h : M.1.cls = RL) : gm_lk M 110 mX10_bakingShare := Or.inl (by rw [h]; exact gm_in (i := 961) (by decide +kernel) (by decide +kernel))
theorem lk_L_223 {M : gm_M} (h : M.1.cls = RL) : gm_lk M 223 mL_writeLabel := Or.inl (by rw [h]; exact gm_in (i := 967) (by decide +kernel) (by decide +kernel))
theorem lk_L_115 {M : gm_M} (h : M.1.cls = RL) : gm_lk M 115 mX10_writeLabel := Or.inl (by rw [h]; exact gm_in (i := 970) (by decide +kernel) (by decide +kernel))
theorem lk_X10_256 {M : gm_M} (h : M.1.cls = RX10) : gm_lk M 256 mJ4_setLength_d00df := Or.inl (by rw [h]; exact gm_in (i := 974) (by decide +kernel) (by decide +kernel))
theorem lk_J4_333 {M : gm_M} (h : M.1.cls = RJ4) : gm_lk M 333 mJ5_setLength_d00df := Or.inl (by rw [h]; exact gm_in (i := 978) (by decide +kernel) (by decide +kernel))
theorem lk_J5_131 {M : gm_M} (h : M.1.cls = RJ5) : gm_lk M 131 mJx7c733_init_d00df := Or.inl (by rw [h]; exact gm_in (i := 983) (by decide +kernel) (by decide +kernel))
theorem lk_Jx7c733_12 {M : gm_M} (h : M.1.cls = RJx7c733) : gm_lk M 12 mJ4_init_da8c8 := Or.inl (by rw [h]; exact gm_in (i := 987) (by decide +kernel) (by decide +kernel))
theorem lk_Jx7c733_15 {M : gm_M} (h : M.1.cls = RJx7c733) : gm_lk M 15 mJ4_append_15ec4 := Or.inl (by rw [h]; exact gm_in (i := 989) (by decide +kernel) (by decide +kernel))
theorem lk_J4_29 {M : gm_M} (h : M.1.cls = RJ4) : gm_lk M 29 mJ5_append_cf1ce := Or.inl (by rw [h]; exact gm_in (i := 993) (by decide +kernel) (by decide +kernel))
theorem lk_J5_204 {M : gm_M} (h : M.1.cls = RJ5) : gm_lk M 204 mJ5_appendNull_278bc := Or.inl (by rw [h]; exact gm_in (i := 996) (by decide +kernel) (by decide +kernel))
theorem lk_J5_100 {M : gm_M} (h : M.1.cls = RJ5) : gm_lk M 100 mJ5_ensureCapacityInternal_d00df := Or.inl (by rw [h]; exact gm_in (i := 1000) (by decide +kernel) (by decide +kernel))
theorem lk_J5_104 {M : gm_M} (h : M.1.cls = RJ5) : gm_lk M 104 mJ5_newCapacity_0f7a4 := Or.inl (by rw [h]; exact gm_in (i := 1004) (by decide +kernel) (by decide +kernel))
theorem lk_J5_114 {M : gm_M} (h : M.1.cls = RJ5) : gm_lk M 114 mJ8_newLength_cabcc := Or.inl (by rw [h]; exact gm_in (i := 1008) (by decide +kernel) (by decide +kernel))
theorem lk_J8_194 {M : gm_M} (h : M.1.cls = RJ8) : gm_lk M 194 mJ9_max_7cf53 := Or.inl (by rw [h]; exact gm_in (i := 1011) (by decide +kernel) (by decide +kernel))
theorem lk_J8_201 {M : gm_M} (h : M.1.cls = RJ8) : gm_lk M 201 mJ8_hugeLength_7cf53 := Or.inl (by rw [h]; exact gm_in (i := 1015) (by decide +kernel) (by decide +kernel))
theorem lk_J5_108 {M : gm_M} (h : M.1.cls = RJ5) : gm_lk M 108 mJ7_copyOf_9075b := Or.inl (by rw [h]; exact gm_in (i := 1019) (by decide +kernel) (by decide +kernel))
theorem lk_J7_304 {M : gm_M} (h : M.1.cls = RJ7) : gm_lk M 304 mJ9_min_7cf53 := Or.inl (by rw [h]; exact gm_in (i := 1029) (by decide +kernel) (by decide +kernel))
theorem lk_J5_83 {M : gm_M} (h : M.1.cls = RJ5) : gm_lk M 83 mJ5_isLatin1_aae02 := Or.inl (by rw [h]; exact gm_in (i := 1031) (by decide +kernel) (by decide +kernel))
theorem lk_J5_226 {M : gm_M} (h : M.1.cls = RJ5) : gm_lk M 226 mJ2_putCharsAt_cd4e5 := Or.inl (by rw [h]; exact gm_in (i := 1036) (by decide +kernel) (by decide +kernel))
theorem lk_J2_96 {M : gm_M} (h : M.1.cls = RJ2) : gm_lk M 96 mJ2_checkBoundsBeginEnd_d044e := Or.inl (by rw [h]; exact gm_in (i := 1039) (by decide +kernel) (by decide +kernel))
theorem lk_J2_48 {M : gm_M} (h : M.1.cls = RJ2) : gm_lk M 48 mJ2_length_9d52b := Or.inl (by rw [h]; exact gm_in (i := 1042) (by decide +kernel) (by decide +kernel))
theorem lk_J2_241 {M : gm_M} (h : M.1.cls = RJ2) : gm_lk M 241 mJ0_checkBoundsBeginEnd_23922 := Or.inl (by rw [h]; exact gm_in (i := 1045) (by decide +kernel) (by decide +kernel))
theorem lk_J0_1062 {M : gm_M} (h : M.1.cls = RJ0) : gm_lk M 1062 mJ3_checkFromToIndex_8c36e := Or.inl (by rw [h]; exact gm_in (i := 1050) (by decide +kernel) (by decide +kernel))
theorem lk_J2_111 {M : gm_M} (h : M.1.cls = RJ2) : gm_lk M 111 mJ2_putChar_b72d1 := Or.inl (by rw [h]; exact gm_in (i := 1053) (by decide +kernel) (by decide +kernel))
theorem lk_J5_32 {M : gm_M} (h : M.1.cls = RJ5) : gm_lk M 32 mJ0_length_8abf5 := Or.inl (by rw [h]; exact gm_in (i := 1062) (by decide +kernel) (by decide +kernel))
theorem lk_J0_335 {M : gm_M} (h : M.1.cls = RJ0) : gm_lk M 335 mJ0_coder_7d493 := Or.inl (by rw [h]; exact gm_in (i := 1066) (by decide +kernel) (by decide +kernel))
theorem lk_J5_208 {M : gm_M} (h : M.1.cls = RJ5) : gm_lk M 208 mJ5_putStringAt_47b60 := Or.inl (by rw [h]; exact gm_in (i := 1071) (by decide +kernel) (by decide +kernel))
theorem lk_J5_397 {M : gm_M} (h : M.1.cls = RJ5) : gm_lk M 397 mJ5_inflateIfNeededFor_a7421 := Or.inl (by rw [h]; exact gm_in (i := 1075) (by decide +kernel) (by decide +kernel))
theorem lk_J5_40 {M : gm_M} (h : M.1.cls = RJ5) : gm_lk M 40 mJ0_coder_7d493 := Or.inl (by rw [h]; exact gm_in (i := 1079) (by decide +kernel) (by decide +kernel))
theorem lk_J5_195 {M : gm_M} (h : M.1.cls = RJ5) : gm_lk M 195 mJ5_inflate_da8c8 := Or.inl (by rw [h]; exact gm_in (i := 1080) (by decide +kernel) (by decide +kernel))
theorem lk_J5_125 {M : gm_M} (h : M.1.cls = RJ5) : gm_lk M 125 mJ1_inflate_0e8fd := Or.inl (by rw [h]; exact gm_in (i := 1084) (by decide +kernel) (by decide +kernel))
theorem lk_J1_240 {M : gm_M} (h : M.1.cls = RJ1) : gm_lk M 240 mJ2_inflate_0e8fd := Or.inl (by rw [h]; exact gm_in (i := 1087) (by decide +kernel) (by decide +kernel))
theorem lk_J2_173 {M : gm_M} (h : M.1.cls = RJ2) : gm_lk M 173 mJ2_checkBoundsOffCount_d044e := Or.inl (by rw [h]; exact gm_in (i := 1090) (by decide +kernel) (by decide +kernel))
theorem lk_J2_419 {M : gm_M} (h : M.1.cls = RJ2) : gm_lk M 419 mJ0_checkBoundsOffCount_cabcc := Or.inl (by rw [h]; exact gm_in (i := 1093) (by decide +kernel) (by decide +kernel))
theorem lk_J0_1065 {M : gm_M} (h : M.1.cls = RJ0) : gm_lk M 1065 mJ3_checkFromIndexSize_8c36e := Or.inl (by rw [h]; exact gm_in (i := 1096) (by decide +kernel) (by decide +kernel))
theorem lk_J5_399 {M : gm_M} (h : M.1.cls = RJ5) : gm_lk M 399 mJ0_getBytes_840e7 := Or.inl (by rw [h]; exact gm_in (i := 1099) (by decide +kernel) (by decide +kernel))
theorem lk_J0_106 {M : gm_M} (h : M.1.cls = RJ0) : gm_lk M 106 mJ1_inflate_0e8fd := Or.inl (by rw [h]; exact gm_in (i := 1104) (by decide +kernel) (by decide +kernel))
theorem lk_Jx7c733_19 {M : gm_M} (h : M.1.cls = RJx7c733) : gm_lk M 19 mJ4_append_bf812 := Or.inl (by rw [h]; exact gm_in (i := 1105) (by decide +kernel) (by decide +kernel))
theorem lk_J4_53 {M : gm_M} (h : M.1.cls = RJ4) : gm_lk M 53 mJ5_append_c97b9 := Or.inl (by rw [h]; exact gm_in (i := 1109) (by decide +kernel) (by decide +kernel))
theorem lk_J5_245 {M : gm_M} (h : M.1.cls = RJ5) : gm_lk M 245 mJ6_stringSize_0f7a4 := Or.inl (by rw [h]; exact gm_in (i := 1112) (by decide +kernel) (by decide +kernel))
theorem lk_J5_248 {M : gm_M} (h : M.1.cls = RJ5) : gm_lk M 248 mJ6_getChars_ba4f3 := Or.inl (by rw [h]; exact gm_in (i := 1115) (by decide +kernel) (by decide +kernel))
theorem lk_J5_251 {M : gm_M} (h : M.1.cls = RJ5) : gm_lk M 251 mJ2_getChars_46870 := Or.inl (by rw [h]; exact gm_in (i := 1122) (by decide +kernel) (by decide +kernel))
theorem lk_J2_393 {M : gm_M} (h : M.1.cls = RJ2) : gm_lk M 393 mJ2_getChars_ba4f3 := Or.inl (by rw [h]; exact gm_in (i := 1125) (by decide +kernel) (by decide +kernel))
theorem lk_Jx7c733_22 {M : gm_M} (h : M.1.cls = RJx7c733) : gm_lk M 22 mJ4_toString_0e30d := Or.inl (by rw [h]; exact gm_in (i := 1130) (by decide +kernel) (by decide +kernel))
theorem lk_J4_137 {M : gm_M} (h : M.1.cls = RJ4) : gm_lk M 137 mJ0_init_81219 := Or.inl (by rw [h]; exact gm_in (i := 1135) (by decide +kernel) (by decide +kernel))
theorem lk_J0_489 {M : gm_M} (h : M.1.cls = RJ0) : gm_lk M 489 mJ0_init_db425 := Or.inl (by rw [h]; exact gm_in (i := 1138) (by decide +kernel) (by decide +kernel))
theorem lk_J0_552 {M : gm_M} (h : M.1.cls = RJ0) : gm_lk M 552 mJ5_getValue_6d5f1 := Or.inl (by rw [h]; exact gm_in (i := 1142) (by decide +kernel) (by decide +kernel))
theorem lk_J0_549 {M : gm_M} (h : M.1.cls = RJ0) : gm_lk M 549 mJ5_length_8abf5 := Or.inl (by rw [h]; exact gm_in (i := 1147) (by decide +kernel) (by decide +kernel))
theorem lk_J4_343 {M : gm_M} (h : M.1.cls = RJ4) : gm_lk M 343 mJ5_length_8abf5 := Or.inl (by rw [h]; exact gm_in (i := 1153) (by decide +kernel) (by decide +kernel))
theorem lk_J0_1047 {M : gm_M} (h : M.1.cls = RJ0) : gm_lk M 1047 mJ5_isLatin1_aae02 := Or.inl (by rw [h]; exact gm_in (i := 1155) (by decide +kernel) (by decide +kernel))
theorem lk_J0_54 {M : gm_M} (h : M.1.cls = RJ0) : gm_lk M 54 mJ7_copyOfRange_39247 := Or.inl (by rw [h]; exact gm_in (i := 1156) (by decide +kernel) (by decide +kernel))
theorem lk_J7_339 {M : gm_M} (h : M.1.cls = RJ7) : gm_lk M 339 mJ7_copyOfRangeByte_39247 := Or.inl (by rw [h]; exact gm_in (i := 1159) (by decide +kernel) (by decide +kernel))
theorem lk_J7_343 {M : gm_M} (h : M.1.cls = RJ7) : gm_lk M 343 mJ7_checkLength_df160 := Or.inl (by rw [h]; exact gm_in (i := 1162) (by decide +kernel) (by decide +kernel))
theorem lk_J7_47 {M : gm_M} (h : M.1.cls = RJ7) : gm_lk M 47 mJ4_init_da8c8 := Or.inl (by rw [h]; exact gm_in (i := 1167) (by decide +kernel) (by decide +kernel))
theorem lk_J7_54 {M : gm_M} (h : M.1.cls = RJ7) : gm_lk M 54 mJ4_append_bf812 := Or.inl (by rw [h]; exact gm_in (i := 1168) (by decide +kernel) (by decide +kernel))
theorem lk_J7_50 {M : gm_M} (h : M.1.cls = RJ7) : gm_lk M 50 mJ4_append_15ec4 := Or.inl (by rw [h]; exact gm_in (i := 1170) (by decide +kernel) (by decide +kernel))
theorem lk_J7_61 {M : gm_M} (h : M.1.cls = RJ7) : gm_lk M 61 mJ4_toString_0e30d := Or.inl (by rw [h]; exact gm_in (i := 1171) (by decide +kernel) (by decide +kernel))
theorem lk_J0_1051 {M : gm_M} (h : M.1.cls = RJ0) : gm_lk M 1051 mJ2_compress_39247 := Or.inl (by rw [h]; exact gm_in (i := 1173) (by decide +kernel) (by decide +kernel))
theorem lk_J2_123 {M : gm_M} (h : M.1.cls = RJ2) : gm_lk M 123 mJ2_compress_5af95 := Or.inl (by rw [h]; exact gm_in (i := 1176) (by decide +kernel) (by decide +kernel))
theorem lk_J2_71 {M : gm_M} (h : M.1.cls = RJ2) : gm_lk M 71 mJ2_getChar_3b067 := Or.inl (by rw [h]; exact gm_in (i := 1179) (by decide +kernel) (by decide +kernel))
theorem lk_J2_126 {M : gm_M} (h : M.1.cls = RJ2) : gm_lk M 126 mJ7_copyOfRange_39247 := Or.inl (by rw [h]; exact gm_in (i := 1182) (by decide +kernel) (by decide +kernel))
theorem lk_J0_47 {M : gm_M} (h : M.1.cls = RJ0) : gm_lk M 47 mJ2_coderFromArrayLen_85cad := Or.inl (by rw [h]; exact gm_in (i := 1183) (by decide +kernel) (by decide +kernel))
theorem lk_J5_133 {M : gm_M} (h : M.1.cls = RJ5) : gm_lk M 133 mJ1_fillNull_b72d1 := Or.inl (by rw [h]; exact gm_in (i := 1201) (by decide +kernel) (by decide +kernel))
theorem lk_J1_236 {M : gm_M} (h : M.1.cls = RJ1) : gm_lk M 236 mJ7_fill_eb02e := Or.inl (by rw [h]; exact gm_in (i := 1204) (by decide +kernel) (by decide +kernel))
theorem lk_J7_13 {M : gm_M} (h : M.1.cls = RJ7) : gm_lk M 13 mJ7_rangeCheck_23922 := Or.inl (by rw [h]; exact gm_in (i := 1207) (by decide +kernel) (by decide +kernel))
theorem lk_J7_70 {M : gm_M} (h : M.1.cls = RJ7) : gm_lk M 70 mJx00060_init_d00df := Or.inl (by rw [h]; exact gm_in (i := 1214) (by decide +kernel) (by decide +kernel))
theorem lk_Jx00060_12 {M : gm_M} (h : M.1.cls = RJx00060) : gm_lk M 12 mJ4_init_da8c8 := Or.inl (by rw [h]; exact gm_in (i := 1218) (by decide +kernel) (by decide +kernel))
theorem lk_Jx00060_15 {M : gm_M} (h : M.1.cls = RJx00060) : gm_lk M 15 mJ4_append_15ec4 := Or.inl (by rw [h]; exact gm_in (i := 1220) (by decide +kernel) (by decide +kernel))
theorem lk_Jx00060_19 {M : gm_M} (h : M.1.cls = RJx00060) : gm_lk M 19 mJ4_append_bf812 := Or.inl (by rw [h]; exact gm_in (i := 1221) (by decide +kernel) (by decide +kernel))
theorem lk_Jx00060_22 {M : gm_M} (h : M.1.cls = RJx00060) : gm_lk M 22 mJ4_toString_0e30d := Or.inl (by rw [h]; exact gm_in (i := 1222) (by decide +kernel) (by decide +kernel))
theorem lk_J5_137 {M : gm_M} (h : M.1.cls = RJ5) : gm_lk M 137 mJ2_fillNull_b72d1 := Or.inl (by rw [h]; exact gm_in (i := 1223) (by decide +kernel) (by decide +kernel))
theorem lk_J2_380 {M : gm_M} (h : M.1.cls = RJ2) : gm_lk M 380 mJ7_fill_eb02e := Or.inl (by rw [h]; exact gm_in (i := 1226) (by decide +kernel) (by decide +kernel))
theorem lk_X10_259 {M : gm_M} (h : M.1.cls = RX10) : gm_lk M 259 mJ4_append_bf812 := Or.inl (by rw [h]; exact gm_in (i := 1227) (by decide +kernel) (by decide +kernel))
theorem lk_X10_263 {M : gm_M} (h : M.1.cls = RX10) : gm_lk M 263 mJ4_append_cf468 := Or.inl (by rw [h]; exact gm_in (i := 1228) (by decide +kernel) (by decide +kernel))
theorem lk_J4_50 {M : gm_M} (h : M.1.cls = RJ4) : gm_lk M 50 mJ5_append_3fe6f := Or.inl (by rw [h]; exact gm_in (i := 1232) (by decide +kernel) (by decide +kernel))
theorem lk_J5_191 {M : gm_M} (h : M.1.cls = RJ5) : gm_lk M 191 mJ1_canEncode_fc78d := Or.inl (by rw [h]; exact gm_in (i := 1235) (by decide +kernel) (by decide +kernel))
theorem lk_J5_197 {M : gm_M} (h : M.1.cls = RJ5) : gm_lk M 197 mJ2_putCharSB_b72d1 := Or.inl (by rw [h]; exact gm_in (i := 1238) (by decide +kernel) (by decide +kernel))
theorem lk_J2_67 {M : gm_M} (h : M.1.cls = RJ2) : gm_lk M 67 mJ2_checkIndex_2214a := Or.inl (by rw [h]; exact gm_in (i := 1241) (by decide +kernel) (by decide +kernel))
theorem lk_J2_414 {M : gm_M} (h : M.1.cls = RJ2) : gm_lk M 414 mJ0_checkIndex_df160 := Or.inl (by rw [h]; exact gm_in (i := 1244) (by decide +kernel) (by decide +kernel))
theorem lk_J0_1059 {M : gm_M} (h : M.1.cls = RJ0) : gm_lk M 1059 mJ3_checkIndex_8e157 := Or.inl (by rw [h]; exact gm_in (i := 1247) (by decide +kernel) (by decide +kernel))
theorem lk_X10_271 {M : gm_M} (h : M.1.cls = RX10) : gm_lk M 271 mJ4_append_15ec4 := Or.inl (by rw [h]; exact gm_in (i := 1253) (by decide +kernel) (by decide +kernel))
theorem lk_X10_276 {M : gm_M} (h : M.1.cls = RX10) : gm_lk M 276 mJ4_length_8abf5 := Or.inl (by rw [h]; exact gm_in (i := 1256) (by decide +kernel) (by decide +kernel))
theorem lk_L_144 {M : gm_M} (h : M.1.cls = RL) : gm_lk M 144 mL_labelAt := Or.inl (by rw [h]; exact gm_in (i := 1257) (by decide +kernel) (by decide +kernel))
theorem lk_L_118 {M : gm_M} (h : M.1.cls = RL) : gm_lk M 118 mX10_labelAt := Or.inl (by rw [h]; exact gm_in (i := 1260) (by decide +kernel) (by decide +kernel))
theorem lk_X10_281 {M : gm_M} (h : M.1.cls = RX10) : gm_lk M 281 mJ4_charAt_5068e := Or.inl (by rw [h]; exact gm_in (i := 1265) (by decide +kernel) (by decide +kernel))
theorem lk_J4_329 {M : gm_M} (h : M.1.cls = RJ4) : gm_lk M 329 mJ5_charAt_5068e := Or.inl (by rw [h]; exact gm_in (i := 1269) (by decide +kernel) (by decide +kernel))
theorem lk_J5_138 {M : gm_M} (h : M.1.cls = RJ5) : gm_lk M 138 mJ9_min_7cf53 := Or.inl (by rw [h]; exact gm_in (i := 1272) (by decide +kernel) (by decide +kernel))
theorem lk_J5_144 {M : gm_M} (h : M.1.cls = RJ5) : gm_lk M 144 mJ0_checkIndex_df160 := Or.inl (by rw [h]; exact gm_in (i := 1273) (by decide +kernel) (by decide +kernel))
theorem lk_J5_148 {M : gm_M} (h : M.1.cls = RJ5) : gm_lk M 148 mJ2_getChar_3b067 := Or.inl (by rw [h]; exact gm_in (i := 1274) (by decide +kernel) (by decide +kernel))
theorem lk_L_165 {M : gm_M} (h : M.1.cls = RL) : gm_lk M 165 mL_type := Or.inl (by rw [h]; exact gm_in (i := 1275) (by decide +kernel) (by decide +kernel))
theorem lk_L_122 {M : gm_M} (h : M.1.cls = RL) : gm_lk M 122 mX10_type := Or.inl (by rw [h]; exact gm_in (i := 1278) (by decide +kernel) (by decide +kernel))
theorem lk_X10_285 {M : gm_M} (h : M.1.cls = RX10) : gm_lk M 285 mX10_outside := Or.inl (by rw [h]; exact gm_in (i := 1282) (by decide +kernel) (by decide +kernel))
theorem lk_L_375 {M : gm_M} (h : M.1.cls = RL) : gm_lk M 375 mL_execute := Or.inl (by rw [h]; exact gm_in (i := 1289) (by decide +kernel) (by decide +kernel))
theorem lk_L_126 {M : gm_M} (h : M.1.cls = RL) : gm_lk M 126 mX10_execute := Or.inl (by rw [h]; exact gm_in (i := 1292) (by decide +kernel) (by decide +kernel))
theorem lk_X7_35 {M : gm_M} (h : M.1.cls = RX7) : gm_lk M 35 mX7_readsCommand := Or.inl (by rw [h]; exact gm_in (i := 1300) (by decide +kernel) (by decide +kernel))
theorem lk_X7_51 {M : gm_M} (h : M.1.cls = RX7) : gm_lk M 51 mX7_follows := Or.inl (by rw [h]; exact gm_in (i := 1306) (by decide +kernel) (by decide +kernel))
theorem lk_X7_61 {M : gm_M} (h : M.1.cls = RX7) : gm_lk M 61 mJ7_fill_53178 := Or.inl (by rw [h]; exact gm_in (i := 1310) (by decide +kernel) (by decide +kernel))
theorem lk_X7_70 {M : gm_M} (h : M.1.cls = RX7) : gm_lk M 70 mJ0_length_8abf5 := Or.inl (by rw [h]; exact gm_in (i := 1313) (by decide +kernel) (by decide +kernel))
theorem lk_X7_75 {M : gm_M} (h : M.1.cls = RX7) : gm_lk M 75 mJ0_charAt_5068e := Or.inl (by rw [h]; exact gm_in (i := 1314) (by decide +kernel) (by decide +kernel))
theorem lk_J0_492 {M : gm_M} (h : M.1.cls = RJ0) : gm_lk M 492 mJ0_isLatin1_aae02 := Or.inl (by rw [h]; exact gm_in (i := 1318) (by decide +kernel) (by decide +kernel))
theorem lk_J0_495 {M : gm_M} (h : M.1.cls = RJ0) : gm_lk M 495 mJ1_charAt_3b067 := Or.inl (by rw [h]; exact gm_in (i := 1322) (by decide +kernel) (by decide +kernel))
theorem lk_J1_9 {M : gm_M} (h : M.1.cls = RJ1) : gm_lk M 9 mJ0_checkIndex_df160 := Or.inl (by rw [h]; exact gm_in (i := 1325) (by decide +kernel) (by decide +kernel))
theorem lk_J0_498 {M : gm_M} (h : M.1.cls = RJ0) : gm_lk M 498 mJ2_charAt_3b067 := Or.inl (by rw [h]; exact gm_in (i := 1326) (by decide +kernel) (by decide +kernel))
theorem lk_X7_79 {M : gm_M} (h : M.1.cls = RX7) : gm_lk M 79 mX7_takesPart := Or.inl (by rw [h]; exact gm_in (i := 1329) (by decide +kernel) (by decide +kernel))
theorem lk_X7_82 {M : gm_M} (h : M.1.cls = RX7) : gm_lk M 82 mX7_takesNumber := Or.inl (by rw [h]; exact gm_in (i := 1333) (by decide +kernel) (by decide +kernel))
theorem lk_X7_86 {M : gm_M} (h : M.1.cls = RX7) : gm_lk M 86 mX7_atDigit := Or.inl (by rw [h]; exact gm_in (i := 1337) (by decide +kernel) (by decide +kernel))
theorem lk_X7_39 {M : gm_M} (h : M.1.cls = RX7) : gm_lk M 39 mX7_takesSign := Or.inl (by rw [h]; exact gm_in (i := 1341) (by decide +kernel) (by decide +kernel))
theorem lk_X7_55 {M : gm_M} (h : M.1.cls = RX7) : gm_lk M 55 mJ9_max_7cf53 := Or.inl (by rw [h]; exact gm_in (i := 1345) (by decide +kernel) (by decide +kernel))
theorem lk_X10_319 {M : gm_M} (h : M.1.cls = RX10) : gm_lk M 319 mX10_performProgram := Or.inl (by rw [h]; exact gm_in (i := 1351) (by decide +kernel) (by decide +kernel))
theorem lk_L_371 {M : gm_M} (h : M.1.cls = RL) : gm_lk M 371 mL_errorPosition := Or.inl (by rw [h]; exact gm_in (i := 1362) (by decide +kernel) (by decide +kernel))
theorem lk_L_129 {M : gm_M} (h : M.1.cls = RL) : gm_lk M 129 mX10_errorPosition := Or.inl (by rw [h]; exact gm_in (i := 1365) (by decide +kernel) (by decide +kernel))
theorem lk_L_373 {M : gm_M} (h : M.1.cls = RL) : gm_lk M 373 mL_failedCommand := Or.inl (by rw [h]; exact gm_in (i := 1370) (by decide +kernel) (by decide +kernel))
theorem lk_L_132 {M : gm_M} (h : M.1.cls = RL) : gm_lk M 132 mX10_failedCommand := Or.inl (by rw [h]; exact gm_in (i := 1373) (by decide +kernel) (by decide +kernel))
theorem lk_L_369 {M : gm_M} (h : M.1.cls = RL) : gm_lk M 369 mL_undo := Or.inl (by rw [h]; exact gm_in (i := 1378) (by decide +kernel) (by decide +kernel))
theorem lk_L_135 {M : gm_M} (h : M.1.cls = RL) : gm_lk M 135 mX10_undo := Or.inl (by rw [h]; exact gm_in (i := 1381) (by decide +kernel) (by decide +kernel))
theorem lk_X2_29 {M : gm_M} (h : M.1.cls = RX2) : gm_lk M 29 mX2_putBack := Or.inl (by rw [h]; exact gm_in (i := 1390) (by decide +kernel) (by decide +kernel))
theorem lk_L_366 {M : gm_M} (h : M.1.cls = RL) : gm_lk M 366 mL_restore := Or.inl (by rw [h]; exact gm_in (i := 1391) (by decide +kernel) (by decide +kernel))
theorem lk_L_138 {M : gm_M} (h : M.1.cls = RL) : gm_lk M 138 mX10_restore := Or.inl (by rw [h]; exact gm_in (i := 1394) (by decide +kernel) (by decide +kernel))
theorem lk_L_391 {M : gm_M} (h : M.1.cls = RL) : gm_lk M 391 mL_acts := Or.inl (by rw [h]; exact gm_in (i := 1404) (by decide +kernel) (by decide +kernel))
theorem lk_L_183 {M : gm_M} (h : M.1.cls = RL) : gm_lk M 183 mX10_needleCount := Or.inl (by rw [h]; exact gm_in (i := 1407) (by decide +kernel) (by decide +kernel))
theorem lk_L_186 {M : gm_M} (h : M.1.cls = RL) : gm_lk M 186 mL_some := Or.inl (by rw [h]; exact gm_in (i := 1411) (by decide +kernel) (by decide +kernel))
theorem lk_L_173 {M : gm_M} (h : M.1.cls = RL) : gm_lk M 173 mJ9_max_7cf53 := Or.inl (by rw [h]; exact gm_in (i := 1414) (by decide +kernel) (by decide +kernel))
theorem lk_L_192 {M : gm_M} (h : M.1.cls = RL) : gm_lk M 192 mL_degrees := Or.inl (by rw [h]; exact gm_in (i := 1415) (by decide +kernel) (by decide +kernel))
theorem lk_L_208 {M : gm_M} (h : M.1.cls = RL) : gm_lk M 208 mX10_clock := Or.inl (by rw [h]; exact gm_in (i := 1418) (by decide +kernel) (by decide +kernel))
theorem lk_L_213 {M : gm_M} (h : M.1.cls = RL) : gm_lk M 213 mL_batch := Or.inl (by rw [h]; exact gm_in (i := 1422) (by decide +kernel) (by decide +kernel))
theorem lk_L_178 {M : gm_M} (h : M.1.cls = RL) : gm_lk M 178 mX10_batchCount := Or.inl (by rw [h]; exact gm_in (i := 1425) (by decide +kernel) (by decide +kernel))
theorem lk_L_181 {M : gm_M} (h : M.1.cls = RL) : gm_lk M 181 mL_batchAt := Or.inl (by rw [h]; exact gm_in (i := 1429) (by decide +kernel) (by decide +kernel))
theorem lk_L_100 {M : gm_M} (h : M.1.cls = RL) : gm_lk M 100 mX10_batchAt := Or.inl (by rw [h]; exact gm_in (i := 1432) (by decide +kernel) (by decide +kernel))
theorem lk_L_387 {M : gm_M} (h : M.1.cls = RL) : gm_lk M 387 mL_told := Or.inl (by rw [h]; exact gm_in (i := 1437) (by decide +kernel) (by decide +kernel))
theorem lk_L_143 {M : gm_M} (h : M.1.cls = RL) : gm_lk M 143 mJ4_init_da8c8 := Or.inl (by rw [h]; exact gm_in (i := 1441) (by decide +kernel) (by decide +kernel))
theorem lk_L_225 {M : gm_M} (h : M.1.cls = RL) : gm_lk M 225 mL_said := Or.inl (by rw [h]; exact gm_in (i := 1442) (by decide +kernel) (by decide +kernel))
theorem lk_L_149 {M : gm_M} (h : M.1.cls = RL) : gm_lk M 149 mJ4_append_cf468 := Or.inl (by rw [h]; exact gm_in (i := 1445) (by decide +kernel) (by decide +kernel))
theorem lk_L_153 {M : gm_M} (h : M.1.cls = RL) : gm_lk M 153 mJ4_toString_0e30d := Or.inl (by rw [h]; exact gm_in (i := 1446) (by decide +kernel) (by decide +kernel))
theorem lk_L_229 {M : gm_M} (h : M.1.cls = RL) : gm_lk M 229 mJ4_append_15ec4 := Or.inl (by rw [h]; exact gm_in (i := 1447) (by decide +kernel) (by decide +kernel))
theorem lk_L_235 {M : gm_M} (h : M.1.cls = RL) : gm_lk M 235 mJ4_append_bf812 := Or.inl (by rw [h]; exact gm_in (i := 1448) (by decide +kernel) (by decide +kernel))
theorem lk_L_238 {M : gm_M} (h : M.1.cls = RL) : gm_lk M 238 mL_latenessNow := Or.inl (by rw [h]; exact gm_in (i := 1449) (by decide +kernel) (by decide +kernel))
theorem lk_L_103 {M : gm_M} (h : M.1.cls = RL) : gm_lk M 103 mX10_latenessNow := Or.inl (by rw [h]; exact gm_in (i := 1452) (by decide +kernel) (by decide +kernel))
theorem lk_L_240 {M : gm_M} (h : M.1.cls = RL) : gm_lk M 240 mX10_bakedCount := Or.inl (by rw [h]; exact gm_in (i := 1458) (by decide +kernel) (by decide +kernel))
theorem lk_L_243 {M : gm_M} (h : M.1.cls = RL) : gm_lk M 243 mX10_latenessTotal := Or.inl (by rw [h]; exact gm_in (i := 1462) (by decide +kernel) (by decide +kernel))
theorem lk_L_247 {M : gm_M} (h : M.1.cls = RL) : gm_lk M 247 mJ4_append_f7089 := Or.inl (by rw [h]; exact gm_in (i := 1466) (by decide +kernel) (by decide +kernel))
theorem lk_J4_56 {M : gm_M} (h : M.1.cls = RJ4) : gm_lk M 56 mJ5_append_66267 := Or.inl (by rw [h]; exact gm_in (i := 1470) (by decide +kernel) (by decide +kernel))
theorem lk_J5_254 {M : gm_M} (h : M.1.cls = RJ5) : gm_lk M 254 mJ13_stringSize_95d88 := Or.inl (by rw [h]; exact gm_in (i := 1473) (by decide +kernel) (by decide +kernel))
theorem lk_J5_259 {M : gm_M} (h : M.1.cls = RJ5) : gm_lk M 259 mJ13_getChars_11360 := Or.inl (by rw [h]; exact gm_in (i := 1478) (by decide +kernel) (by decide +kernel))
theorem lk_J5_262 {M : gm_M} (h : M.1.cls = RJ5) : gm_lk M 262 mJ2_getChars_1ba55 := Or.inl (by rw [h]; exact gm_in (i := 1485) (by decide +kernel) (by decide +kernel))
theorem lk_J2_396 {M : gm_M} (h : M.1.cls = RJ2) : gm_lk M 396 mJ2_getChars_11360 := Or.inl (by rw [h]; exact gm_in (i := 1488) (by decide +kernel) (by decide +kernel))
theorem lk_L_250 {M : gm_M} (h : M.1.cls = RL) : gm_lk M 250 mX10_latenessByIds := Or.inl (by rw [h]; exact gm_in (i := 1493) (by decide +kernel) (by decide +kernel))
theorem lk_L_377 {M : gm_M} (h : M.1.cls = RL) : gm_lk M 377 mL_stock := Or.inl (by rw [h]; exact gm_in (i := 1501) (by decide +kernel) (by decide +kernel))
theorem lk_L_395 {M : gm_M} (h : M.1.cls = RL) : gm_lk M 395 mL_needles := Or.inl (by rw [h]; exact gm_in (i := 1504) (by decide +kernel) (by decide +kernel))
theorem lk_L_258 {M : gm_M} (h : M.1.cls = RL) : gm_lk M 258 mL_strengthOf := Or.inl (by rw [h]; exact gm_in (i := 1508) (by decide +kernel) (by decide +kernel))
theorem lk_L_38 {M : gm_M} (h : M.1.cls = RL) : gm_lk M 38 mX10_strengthOf := Or.inl (by rw [h]; exact gm_in (i := 1511) (by decide +kernel) (by decide +kernel))
theorem lk_L_260 {M : gm_M} (h : M.1.cls = RL) : gm_lk M 260 mJ4_init_a7421 := Or.inl (by rw [h]; exact gm_in (i := 1515) (by decide +kernel) (by decide +kernel))
theorem lk_J4_7 {M : gm_M} (h : M.1.cls = RJ4) : gm_lk M 7 mJ5_init_a7421 := Or.inl (by rw [h]; exact gm_in (i := 1518) (by decide +kernel) (by decide +kernel))
theorem lk_J5_43 {M : gm_M} (h : M.1.cls = RJ5) : gm_lk M 43 mJ5_append_cf1ce := Or.inl (by rw [h]; exact gm_in (i := 1522) (by decide +kernel) (by decide +kernel))
theorem lk_J4_23 {M : gm_M} (h : M.1.cls = RJ4) : gm_lk M 23 mJ4_append_15ec4 := Or.inl (by rw [h]; exact gm_in (i := 1525) (by decide +kernel) (by decide +kernel))
theorem lk_L_263 {M : gm_M} (h : M.1.cls = RL) : gm_lk M 263 mL_deviationAt := Or.inl (by rw [h]; exact gm_in (i := 1526) (by decide +kernel) (by decide +kernel))
theorem lk_L_48 {M : gm_M} (h : M.1.cls = RL) : gm_lk M 48 mX10_deviationAt := Or.inl (by rw [h]; exact gm_in (i := 1529) (by decide +kernel) (by decide +kernel))
theorem lk_X10_116 {M : gm_M} (h : M.1.cls = RX10) : gm_lk M 116 mX10_needCourse := Or.inl (by rw [h]; exact gm_in (i := 1533) (by decide +kernel) (by decide +kernel))
theorem lk_X3_94 {M : gm_M} (h : M.1.cls = RX3) : gm_lk M 94 mJ9_floorDiv_7cf53 := Or.inl (by rw [h]; exact gm_in (i := 1541) (by decide +kernel) (by decide +kernel))
theorem lk_L_265 {M : gm_M} (h : M.1.cls = RL) : gm_lk M 265 mJ9_abs_0f7a4 := Or.inl (by rw [h]; exact gm_in (i := 1544) (by decide +kernel) (by decide +kernel))
theorem lk_L_268 {M : gm_M} (h : M.1.cls = RL) : gm_lk M 268 mL_isDiscarded := Or.inl (by rw [h]; exact gm_in (i := 1545) (by decide +kernel) (by decide +kernel))
theorem lk_L_41 {M : gm_M} (h : M.1.cls = RL) : gm_lk M 41 mX10_isDiscarded := Or.inl (by rw [h]; exact gm_in (i := 1548) (by decide +kernel) (by decide +kernel))
theorem lk_L_276 {M : gm_M} (h : M.1.cls = RL) : gm_lk M 276 mL_bestShift := Or.inl (by rw [h]; exact gm_in (i := 1555) (by decide +kernel) (by decide +kernel))
theorem lk_L_68 {M : gm_M} (h : M.1.cls = RL) : gm_lk M 68 mX10_bestShift := Or.inl (by rw [h]; exact gm_in (i := 1558) (by decide +kernel) (by decide +kernel))
theorem lk_L_278 {M : gm_M} (h : M.1.cls = RL) : gm_lk M 278 mL_errorOf := Or.inl (by rw [h]; exact gm_in (i := 1566) (by decide +kernel) (by decide +kernel))
theorem lk_L_65 {M : gm_M} (h : M.1.cls = RL) : gm_lk M 65 mX10_errorOf := Or.inl (by rw [h]; exact gm_in (i := 1569) (by decide +kernel) (by decide +kernel))
theorem lk_L_280 {M : gm_M} (h : M.1.cls = RL) : gm_lk M 280 mL_isReject := Or.inl (by rw [h]; exact gm_in (i := 1573) (by decide +kernel) (by decide +kernel))
theorem lk_L_45 {M : gm_M} (h : M.1.cls = RL) : gm_lk M 45 mX10_isReject := Or.inl (by rw [h]; exact gm_in (i := 1576) (by decide +kernel) (by decide +kernel))
theorem lk_L_282 {M : gm_M} (h : M.1.cls = RL) : gm_lk M 282 mL_bestShiftBySum := Or.inl (by rw [h]; exact gm_in (i := 1580) (by decide +kernel) (by decide +kernel))
theorem lk_L_71 {M : gm_M} (h : M.1.cls = RL) : gm_lk M 71 mX10_bestShiftBySum := Or.inl (by rw [h]; exact gm_in (i := 1583) (by decide +kernel) (by decide +kernel))
theorem lk_L_284 {M : gm_M} (h : M.1.cls = RL) : gm_lk M 284 mJ0_equals_9ea2d := Or.inl (by rw [h]; exact gm_in (i := 1588) (by decide +kernel) (by decide +kernel))
theorem lk_J0_541 {M : gm_M} (h : M.1.cls = RJ0) : gm_lk M 541 mJ1_equals_b5fdf := Or.inl (by rw [h]; exact gm_in (i := 1593) (by decide +kernel) (by decide +kernel))
theorem lk_L_290 {M : gm_M} (h : M.1.cls = RL) : gm_lk M 290 mX10_goodCount := Or.inl (by rw [h]; exact gm_in (i := 1596) (by decide +kernel) (by decide +kernel))
theorem lk_L_405 {M : gm_M} (h : M.1.cls = RL) : gm_lk M 405 mL_courses := Or.inl (by rw [h]; exact gm_in (i := 1600) (by decide +kernel) (by decide +kernel))
theorem lk_L_296 {M : gm_M} (h : M.1.cls = RL) : gm_lk M 296 mL_trueCourse := Or.inl (by rw [h]; exact gm_in (i := 1603) (by decide +kernel) (by decide +kernel))
theorem lk_L_51 {M : gm_M} (h : M.1.cls = RL) : gm_lk M 51 mX10_trueCourse := Or.inl (by rw [h]; exact gm_in (i := 1606) (by decide +kernel) (by decide +kernel))
theorem lk_X3_99 {M : gm_M} (h : M.1.cls = RX3) : gm_lk M 99 mX3_interpolated := Or.inl (by rw [h]; exact gm_in (i := 1614) (by decide +kernel) (by decide +kernel))
theorem lk_X3_102 {M : gm_M} (h : M.1.cls = RX3) : gm_lk M 102 mJ9_floorMod_7cf53 := Or.inl (by rw [h]; exact gm_in (i := 1615) (by decide +kernel) (by decide +kernel))
theorem lk_L_298 {M : gm_M} (h : M.1.cls = RL) : gm_lk M 298 mJ9_floorDiv_7cf53 := Or.inl (by rw [h]; exact gm_in (i := 1618) (by decide +kernel) (by decide +kernel))
theorem lk_L_301 {M : gm_M} (h : M.1.cls = RL) : gm_lk M 301 mJ9_floorMod_7cf53 := Or.inl (by rw [h]; exact gm_in (i := 1619) (by decide +kernel) (by decide +kernel))
theorem lk_L_304 {M : gm_M} (h : M.1.cls = RL) : gm_lk M 304 mL_courseFor := Or.inl (by rw [h]; exact gm_in (i := 1620) (by decide +kernel) (by decide +kernel))
theorem lk_L_54 {M : gm_M} (h : M.1.cls = RL) : gm_lk M 54 mX10_courseFor := Or.inl (by rw [h]; exact gm_in (i := 1623) (by decide +kernel) (by decide +kernel))
theorem lk_X3_105 {M : gm_M} (h : M.1.cls = RX3) : gm_lk M 105 mX3_corrected := Or.inl (by rw [h]; exact gm_in (i := 1631) (by decide +kernel) (by decide +kernel))
theorem lk_X10_129 {M : gm_M} (h : M.1.cls = RX10) : gm_lk M 129 mX10_found := Or.inl (by rw [h]; exact gm_in (i := 1632) (by decide +kernel) (by decide +kernel))
theorem lk_L_306 {M : gm_M} (h : M.1.cls = RL) : gm_lk M 306 mL_courseForNearby := Or.inl (by rw [h]; exact gm_in (i := 1636) (by decide +kernel) (by decide +kernel))
theorem lk_L_59 {M : gm_M} (h : M.1.cls = RL) : gm_lk M 59 mX10_courseForNearby := Or.inl (by rw [h]; exact gm_in (i := 1639) (by decide +kernel) (by decide +kernel))
theorem lk_L_308 {M : gm_M} (h : M.1.cls = RL) : gm_lk M 308 mL_missedCourses := Or.inl (by rw [h]; exact gm_in (i := 1647) (by decide +kernel) (by decide +kernel))
theorem lk_L_62 {M : gm_M} (h : M.1.cls = RL) : gm_lk M 62 mX10_missedCourses := Or.inl (by rw [h]; exact gm_in (i := 1650) (by decide +kernel) (by decide +kernel))
theorem lk_X10_136 {M : gm_M} (h : M.1.cls = RX10) : gm_lk M 136 mJ7_fill_53178 := Or.inl (by rw [h]; exact gm_in (i := 1654) (by decide +kernel) (by decide +kernel))
theorem lk_L_399 {M : gm_M} (h : M.1.cls = RL) : gm_lk M 399 mL_pairs := Or.inl (by rw [h]; exact gm_in (i := 1656) (by decide +kernel) (by decide +kernel))
theorem lk_L_312 {M : gm_M} (h : M.1.cls = RL) : gm_lk M 312 mJx4a65c_init_da8c8 := Or.inl (by rw [h]; exact gm_in (i := 1661) (by decide +kernel) (by decide +kernel))
theorem lk_Jx4a65c_1 {M : gm_M} (h : M.1.cls = RJx4a65c) : gm_lk M 1 mJxc12de_init_da8c8 := Or.inl (by rw [h]; exact gm_in (i := 1664) (by decide +kernel) (by decide +kernel))
theorem lk_Jxc12de_1 {M : gm_M} (h : M.1.cls = RJxc12de) : gm_lk M 1 mJxa1e45_init_da8c8 := Or.inl (by rw [h]; exact gm_in (i := 1667) (by decide +kernel) (by decide +kernel))
theorem lk_L_313 {M : gm_M} (h : M.1.cls = RL) : gm_lk M 313 mL_isGood := Or.inl (by rw [h]; exact gm_in (i := 1688) (by decide +kernel) (by decide +kernel))
theorem lk_L_317 {M : gm_M} (h : M.1.cls = RL) : gm_lk M 317 mJ6_valueOf_2dffe := Or.inl (by rw [h]; exact gm_in (i := 1691) (by decide +kernel) (by decide +kernel))
theorem lk_J6_199 {M : gm_M} (h : M.1.cls = RJ6) : gm_lk M 199 mJ6_init_d00df := Or.inl (by rw [h]; exact gm_in (i := 1700) (by decide +kernel) (by decide +kernel))
theorem lk_J6_202 {M : gm_M} (h : M.1.cls = RJ6) : gm_lk M 202 mJxd2413_init_da8c8 := Or.inl (by rw [h]; exact gm_in (i := 1703) (by decide +kernel) (by decide +kernel))
theorem lk_L_323 {M : gm_M} (h : M.1.cls = RL) : gm_lk M 323 mJx4a65c_add_9ea2d := Or.inl (by rw [h]; exact gm_in (i := 1711) (by decide +kernel) (by decide +kernel))
theorem lk_Jx4a65c_131 {M : gm_M} (h : M.1.cls = RJx4a65c) : gm_lk M 131 mJx4a65c_add_72be8 := Or.inl (by rw [h]; exact gm_in (i := 1715) (by decide +kernel) (by decide +kernel))
theorem lk_Jx4a65c_129 {M : gm_M} (h : M.1.cls = RJx4a65c) : gm_lk M 129 mJx4a65c_grow_d5877 := Or.inl (by rw [h]; exact gm_in (i := 1719) (by decide +kernel) (by decide +kernel))
theorem lk_Jx4a65c_69 {M : gm_M} (h : M.1.cls = RJx4a65c) : gm_lk M 69 mJx4a65c_grow_92f84 := Or.inl (by rw [h]; exact gm_in (i := 1723) (by decide +kernel) (by decide +kernel))
theorem lk_Jx4a65c_73 {M : gm_M} (h : M.1.cls = RJx4a65c) : gm_lk M 73 mJ8_newLength_cabcc := Or.inl (by rw [h]; exact gm_in (i := 1727) (by decide +kernel) (by decide +kernel))
theorem lk_Jx4a65c_66 {M : gm_M} (h : M.1.cls = RJx4a65c) : gm_lk M 66 mJ7_copyOf_1904c := Or.inl (by rw [h]; exact gm_in (i := 1728) (by decide +kernel) (by decide +kernel))
theorem lk_J7_300 {M : gm_M} (h : M.1.cls = RJ7) : gm_lk M 300 mJ7_copyOf_6403c := Or.inl (by rw [h]; exact gm_in (i := 1762) (by decide +kernel) (by decide +kernel))
theorem lk_Jx4a65c_79 {M : gm_M} (h : M.1.cls = RJx4a65c) : gm_lk M 79 mJ9_max_7cf53 := Or.inl (by rw [h]; exact gm_in (i := 1768) (by decide +kernel) (by decide +kernel))
theorem lk_L_326 {M : gm_M} (h : M.1.cls = RL) : gm_lk M 326 mJxd5e46_sort_2ec40 := Or.inl (by rw [h]; exact gm_in (i := 1770) (by decide +kernel) (by decide +kernel))
theorem lk_Jx4a65c_325 {M : gm_M} (h : M.1.cls = RJx4a65c) : gm_lk M 325 mJ7_sort_a871f := Or.inl (by rw [h]; exact gm_in (i := 1783) (by decide +kernel) (by decide +kernel))
theorem lk_J7_164 {M : gm_M} (h : M.1.cls = RJ7) : gm_lk M 164 mJ7_sort_ec627 := Or.inl (by rw [h]; exact gm_in (i := 1786) (by decide +kernel) (by decide +kernel))
theorem lk_J7_122 {M : gm_M} (h : M.1.cls = RJ7) : gm_lk M 122 mJx2f0ea_sort_50963 := Or.inl (by rw [h]; exact gm_in (i := 1791) (by decide +kernel) (by decide +kernel))
theorem lk_Jx2f0ea_44 {M : gm_M} (h : M.1.cls = RJx2f0ea) : gm_lk M 44 mJx2f0ea_countRunAndMakeAscending_0373e := Or.inl (by rw [h]; exact gm_in (i := 1796) (by decide +kernel) (by decide +kernel))
theorem lk_Jx29ce0_101 {M : gm_M} (h : M.1.cls = RJx29ce0) : gm_lk M 101 mJx29ce0_compareTo_18f91 := Or.inl (by rw [h]; exact gm_in (i := 1811) (by decide +kernel) (by decide +kernel))
theorem lk_Jx29ce0_33 {M : gm_M} (h : M.1.cls = RJx29ce0) : gm_lk M 33 mJx29ce0_getDeclaringClass_d423e := Or.inl (by rw [h]; exact gm_in (i := 1818) (by decide +kernel) (by decide +kernel))
theorem lk_J6_284 {M : gm_M} (h : M.1.cls = RJ6) : gm_lk M 284 mJ6_compareTo_e8194 := Or.inl (by rw [h]; exact gm_in (i := 1833) (by decide +kernel) (by decide +kernel))
theorem lk_J6_259 {M : gm_M} (h : M.1.cls = RJ6) : gm_lk M 259 mJ6_compare_7cf53 := Or.inl (by rw [h]; exact gm_in (i := 1837) (by decide +kernel) (by decide +kernel))
theorem lk_J0_1084 {M : gm_M} (h : M.1.cls = RJ0) : gm_lk M 1084 mJ0_compareTo_2f485 := Or.inl (by rw [h]; exact gm_in (i := 1846) (by decide +kernel) (by decide +kernel))
theorem lk_J0_586 {M : gm_M} (h : M.1.cls = RJ0) : gm_lk M 586 mJ1_compareTo_b82b6 := Or.inl (by rw [h]; exact gm_in (i := 1850) (by decide +kernel) (by decide +kernel))
theorem lk_J1_34 {M : gm_M} (h : M.1.cls = RJ1) : gm_lk M 34 mJ1_compareTo_66405 := Or.inl (by rw [h]; exact gm_in (i := 1853) (by decide +kernel) (by decide +kernel))
theorem lk_J1_38 {M : gm_M} (h : M.1.cls = RJ1) : gm_lk M 38 mJ9_min_7cf53 := Or.inl (by rw [h]; exact gm_in (i := 1856) (by decide +kernel) (by decide +kernel))
theorem lk_J1_44 {M : gm_M} (h : M.1.cls = RJ1) : gm_lk M 44 mJ8_mismatch_cb723 := Or.inl (by rw [h]; exact gm_in (i := 1857) (by decide +kernel) (by decide +kernel))
theorem lk_J8_122 {M : gm_M} (h : M.1.cls = RJ8) : gm_lk M 122 mJ8_vectorizedMismatch_456ae := Or.inl (by rw [h]; exact gm_in (i := 1864) (by decide +kernel) (by decide +kernel))
theorem lk_J8_30 {M : gm_M} (h : M.1.cls = RJ8) : gm_lk M 30 mJx9a822_getLongUnaligned_f02c6 := Or.inl (by rw [h]; exact gm_in (i := 1871) (by decide +kernel) (by decide +kernel))
theorem lk_Jx9a822_698 {M : gm_M} (h : M.1.cls = RJx9a822) : gm_lk M 698 mJx9a822_makeLong_a216e := Or.inl (by rw [h]; exact gm_in (i := 1886) (by decide +kernel) (by decide +kernel))
theorem lk_Jx9a822_791 {M : gm_M} (h : M.1.cls = RJx9a822) : gm_lk M 791 mJx9a822_toUnsignedLong_3e8ac := Or.inl (by rw [h]; exact gm_in (i := 1889) (by decide +kernel) (by decide +kernel))
theorem lk_Jx9a822_784 {M : gm_M} (h : M.1.cls = RJx9a822) : gm_lk M 784 mJx9a822_pickPos_7cf53 := Or.inl (by rw [h]; exact gm_in (i := 1893) (by decide +kernel) (by decide +kernel))
theorem lk_Jx9a822_704 {M : gm_M} (h : M.1.cls = RJx9a822) : gm_lk M 704 mJx9a822_makeLong_4b46d := Or.inl (by rw [h]; exact gm_in (i := 1904) (by decide +kernel) (by decide +kernel))
theorem lk_Jx9a822_788 {M : gm_M} (h : M.1.cls = RJx9a822) : gm_lk M 788 mJx9a822_toUnsignedLong_51cfc := Or.inl (by rw [h]; exact gm_in (i := 1907) (by decide +kernel) (by decide +kernel))
theorem lk_Jx9a822_709 {M : gm_M} (h : M.1.cls = RJx9a822) : gm_lk M 709 mJx9a822_makeLong_0477f := Or.inl (by rw [h]; exact gm_in (i := 1916) (by decide +kernel) (by decide +kernel))
theorem lk_Jx9a822_781 {M : gm_M} (h : M.1.cls = RJx9a822) : gm_lk M 781 mJx9a822_toUnsignedLong_c5be9 := Or.inl (by rw [h]; exact gm_in (i := 1919) (by decide +kernel) (by decide +kernel))
theorem lk_J8_40 {M : gm_M} (h : M.1.cls = RJ8) : gm_lk M 40 mJ13_numberOfLeadingZeros_95d88 := Or.inl (by rw [h]; exact gm_in (i := 1925) (by decide +kernel) (by decide +kernel))
theorem lk_J13_308 {M : gm_M} (h : M.1.cls = RJ13) : gm_lk M 308 mJ6_numberOfLeadingZeros_0f7a4 := Or.inl (by rw [h]; exact gm_in (i := 1928) (by decide +kernel) (by decide +kernel))
theorem lk_J8_49 {M : gm_M} (h : M.1.cls = RJ8) : gm_lk M 49 mJ13_numberOfTrailingZeros_95d88 := Or.inl (by rw [h]; exact gm_in (i := 1934) (by decide +kernel) (by decide +kernel))
theorem lk_J13_311 {M : gm_M} (h : M.1.cls = RJ13) : gm_lk M 311 mJ6_numberOfTrailingZeros_0f7a4 := Or.inl (by rw [h]; exact gm_in (i := 1937) (by decide +kernel) (by decide +kernel))
theorem lk_J8_54 {M : gm_M} (h : M.1.cls = RJ8) : gm_lk M 54 mJx9a822_getIntUnaligned_25a47 := Or.inl (by rw [h]; exact gm_in (i := 1942) (by decide +kernel) (by decide +kernel))
theorem lk_Jx9a822_719 {M : gm_M} (h : M.1.cls = RJx9a822) : gm_lk M 719 mJx9a822_makeInt_4e28c := Or.inl (by rw [h]; exact gm_in (i := 1946) (by decide +kernel) (by decide +kernel))
theorem lk_Jx9a822_792 {M : gm_M} (h : M.1.cls = RJx9a822) : gm_lk M 792 mJx9a822_toUnsignedInt_f1ed4 := Or.inl (by rw [h]; exact gm_in (i := 1949) (by decide +kernel) (by decide +kernel))
theorem lk_Jx9a822_723 {M : gm_M} (h : M.1.cls = RJx9a822) : gm_lk M 723 mJx9a822_makeInt_86272 := Or.inl (by rw [h]; exact gm_in (i := 1953) (by decide +kernel) (by decide +kernel))
theorem lk_Jx9a822_796 {M : gm_M} (h : M.1.cls = RJx9a822) : gm_lk M 796 mJx9a822_toUnsignedInt_4d018 := Or.inl (by rw [h]; exact gm_in (i := 1956) (by decide +kernel) (by decide +kernel))
theorem lk_J8_58 {M : gm_M} (h : M.1.cls = RJ8) : gm_lk M 58 mJ6_numberOfLeadingZeros_0f7a4 := Or.inl (by rw [h]; exact gm_in (i := 1959) (by decide +kernel) (by decide +kernel))
theorem lk_J8_11 {M : gm_M} (h : M.1.cls = RJ8) : gm_lk M 11 mJ6_numberOfTrailingZeros_0f7a4 := Or.inl (by rw [h]; exact gm_in (i := 1960) (by decide +kernel) (by decide +kernel))
theorem lk_J1_50 {M : gm_M} (h : M.1.cls = RJ1) : gm_lk M 50 mJ1_getChar_3b067 := Or.inl (by rw [h]; exact gm_in (i := 1961) (by decide +kernel) (by decide +kernel))
theorem lk_J0_590 {M : gm_M} (h : M.1.cls = RJ0) : gm_lk M 590 mJ2_compareTo_b82b6 := Or.inl (by rw [h]; exact gm_in (i := 1964) (by decide +kernel) (by decide +kernel))
theorem lk_J2_176 {M : gm_M} (h : M.1.cls = RJ2) : gm_lk M 176 mJ2_compareValues_66405 := Or.inl (by rw [h]; exact gm_in (i := 1967) (by decide +kernel) (by decide +kernel))
theorem lk_J2_183 {M : gm_M} (h : M.1.cls = RJ2) : gm_lk M 183 mJ9_min_7cf53 := Or.inl (by rw [h]; exact gm_in (i := 1970) (by decide +kernel) (by decide +kernel))
theorem lk_J0_591 {M : gm_M} (h : M.1.cls = RJ0) : gm_lk M 591 mJ1_compareToUTF16_b82b6 := Or.inl (by rw [h]; exact gm_in (i := 1971) (by decide +kernel) (by decide +kernel))
theorem lk_J1_54 {M : gm_M} (h : M.1.cls = RJ1) : gm_lk M 54 mJ1_length_9d52b := Or.inl (by rw [h]; exact gm_in (i := 1974) (by decide +kernel) (by decide +kernel))
theorem lk_J1_58 {M : gm_M} (h : M.1.cls = RJ1) : gm_lk M 58 mJ2_length_9d52b := Or.inl (by rw [h]; exact gm_in (i := 1977) (by decide +kernel) (by decide +kernel))
theorem lk_J1_59 {M : gm_M} (h : M.1.cls = RJ1) : gm_lk M 59 mJ1_compareToUTF16Values_66405 := Or.inl (by rw [h]; exact gm_in (i := 1978) (by decide +kernel) (by decide +kernel))
theorem lk_J1_65 {M : gm_M} (h : M.1.cls = RJ1) : gm_lk M 65 mJ2_getChar_3b067 := Or.inl (by rw [h]; exact gm_in (i := 1981) (by decide +kernel) (by decide +kernel))
theorem lk_J0_594 {M : gm_M} (h : M.1.cls = RJ0) : gm_lk M 594 mJ2_compareToLatin1_b82b6 := Or.inl (by rw [h]; exact gm_in (i := 1982) (by decide +kernel) (by decide +kernel))
theorem lk_J2_189 {M : gm_M} (h : M.1.cls = RJ2) : gm_lk M 189 mJ1_compareToUTF16_b82b6 := Or.inl (by rw [h]; exact gm_in (i := 1985) (by decide +kernel) (by decide +kernel))
theorem lk_J4_346 {M : gm_M} (h : M.1.cls = RJ4) : gm_lk M 346 mJ4_compareTo_93759 := Or.inl (by rw [h]; exact gm_in (i := 1993) (by decide +kernel) (by decide +kernel))
theorem lk_J4_13 {M : gm_M} (h : M.1.cls = RJ4) : gm_lk M 13 mJ5_compareTo_759ea := Or.inl (by rw [h]; exact gm_in (i := 1997) (by decide +kernel) (by decide +kernel))
theorem lk_J5_87 {M : gm_M} (h : M.1.cls = RJ5) : gm_lk M 87 mJ1_compareTo_66405 := Or.inl (by rw [h]; exact gm_in (i := 2000) (by decide +kernel) (by decide +kernel))
theorem lk_J5_93 {M : gm_M} (h : M.1.cls = RJ5) : gm_lk M 93 mJ2_compareTo_66405 := Or.inl (by rw [h]; exact gm_in (i := 2001) (by decide +kernel) (by decide +kernel))
theorem lk_J2_180 {M : gm_M} (h : M.1.cls = RJ2) : gm_lk M 180 mJ2_checkOffset_2214a := Or.inl (by rw [h]; exact gm_in (i := 2004) (by decide +kernel) (by decide +kernel))
theorem lk_J2_417 {M : gm_M} (h : M.1.cls = RJ2) : gm_lk M 417 mJ0_checkOffset_df160 := Or.inl (by rw [h]; exact gm_in (i := 2007) (by decide +kernel) (by decide +kernel))
theorem lk_J5_94 {M : gm_M} (h : M.1.cls = RJ5) : gm_lk M 94 mJ1_compareToUTF16_66405 := Or.inl (by rw [h]; exact gm_in (i := 2010) (by decide +kernel) (by decide +kernel))
theorem lk_J1_62 {M : gm_M} (h : M.1.cls = RJ1) : gm_lk M 62 mJ0_checkOffset_df160 := Or.inl (by rw [h]; exact gm_in (i := 2013) (by decide +kernel) (by decide +kernel))
theorem lk_J5_97 {M : gm_M} (h : M.1.cls = RJ5) : gm_lk M 97 mJ2_compareToLatin1_66405 := Or.inl (by rw [h]; exact gm_in (i := 2014) (by decide +kernel) (by decide +kernel))
theorem lk_J2_193 {M : gm_M} (h : M.1.cls = RJ2) : gm_lk M 193 mJ1_compareToUTF16_66405 := Or.inl (by rw [h]; exact gm_in (i := 2017) (by decide +kernel) (by decide +kernel))
theorem lk_Jx2f0ea_81 {M : gm_M} (h : M.1.cls = RJx2f0ea) : gm_lk M 81 mJx2f0ea_reverseRange_ec627 := Or.inl (by rw [h]; exact gm_in (i := 2018) (by decide +kernel) (by decide +kernel))
theorem lk_Jx2f0ea_48 {M : gm_M} (h : M.1.cls = RJx2f0ea) : gm_lk M 48 mJx2f0ea_binarySort_cb36d := Or.inl (by rw [h]; exact gm_in (i := 2021) (by decide +kernel) (by decide +kernel))
theorem lk_Jx2f0ea_52 {M : gm_M} (h : M.1.cls = RJx2f0ea) : gm_lk M 52 mJx2f0ea_init_5bcab := Or.inl (by rw [h]; exact gm_in (i := 2027) (by decide +kernel) (by decide +kernel))
theorem lk_Jx2f0ea_55 {M : gm_M} (h : M.1.cls = RJx2f0ea) : gm_lk M 55 mJx2f0ea_minRunLength_0f7a4 := Or.inl (by rw [h]; exact gm_in (i := 2058) (by decide +kernel) (by decide +kernel))
theorem lk_Jx2f0ea_59 {M : gm_M} (h : M.1.cls = RJx2f0ea) : gm_lk M 59 mJx2f0ea_pushRun_df160 := Or.inl (by rw [h]; exact gm_in (i := 2061) (by decide +kernel) (by decide +kernel))
theorem lk_Jx2f0ea_63 {M : gm_M} (h : M.1.cls = RJx2f0ea) : gm_lk M 63 mJx2f0ea_mergeCollapse_da8c8 := Or.inl (by rw [h]; exact gm_in (i := 2065) (by decide +kernel) (by decide +kernel))
theorem lk_Jx2f0ea_85 {M : gm_M} (h : M.1.cls = RJx2f0ea) : gm_lk M 85 mJx2f0ea_mergeAt_d00df := Or.inl (by rw [h]; exact gm_in (i := 2069) (by decide +kernel) (by decide +kernel))
theorem lk_Jx2f0ea_89 {M : gm_M} (h : M.1.cls = RJx2f0ea) : gm_lk M 89 mJx2f0ea_gallopRight_017de := Or.inl (by rw [h]; exact gm_in (i := 2073) (by decide +kernel) (by decide +kernel))
theorem lk_Jx2f0ea_93 {M : gm_M} (h : M.1.cls = RJx2f0ea) : gm_lk M 93 mJx2f0ea_gallopLeft_017de := Or.inl (by rw [h]; exact gm_in (i := 2076) (by decide +kernel) (by decide +kernel))
theorem lk_Jx2f0ea_96 {M : gm_M} (h : M.1.cls = RJx2f0ea) : gm_lk M 96 mJx2f0ea_mergeLo_42cf8 := Or.inl (by rw [h]; exact gm_in (i := 2079) (by decide +kernel) (by decide +kernel))
theorem lk_Jx2f0ea_103 {M : gm_M} (h : M.1.cls = RJx2f0ea) : gm_lk M 103 mJx2f0ea_ensureCapacity_92f84 := Or.inl (by rw [h]; exact gm_in (i := 2083) (by decide +kernel) (by decide +kernel))
theorem lk_Jx2f0ea_114 {M : gm_M} (h : M.1.cls = RJx2f0ea) : gm_lk M 114 mJ6_numberOfLeadingZeros_0f7a4 := Or.inl (by rw [h]; exact gm_in (i := 2087) (by decide +kernel) (by decide +kernel))
theorem lk_Jx2f0ea_119 {M : gm_M} (h : M.1.cls = RJx2f0ea) : gm_lk M 119 mJ9_min_7cf53 := Or.inl (by rw [h]; exact gm_in (i := 2088) (by decide +kernel) (by decide +kernel))
theorem lk_Jx2f0ea_100 {M : gm_M} (h : M.1.cls = RJx2f0ea) : gm_lk M 100 mJx2f0ea_mergeHi_42cf8 := Or.inl (by rw [h]; exact gm_in (i := 2092) (by decide +kernel) (by decide +kernel))
theorem lk_Jx2f0ea_66 {M : gm_M} (h : M.1.cls = RJx2f0ea) : gm_lk M 66 mJx2f0ea_mergeForceCollapse_da8c8 := Or.inl (by rw [h]; exact gm_in (i := 2096) (by decide +kernel) (by decide +kernel))
theorem lk_J7_79 {M : gm_M} (h : M.1.cls = RJ7) : gm_lk M 79 mJxfee68_sort_c7964 := Or.inl (by rw [h]; exact gm_in (i := 2100) (by decide +kernel) (by decide +kernel))
theorem lk_Jxfee68_64 {M : gm_M} (h : M.1.cls = RJxfee68) : gm_lk M 64 mJxfee68_countRunAndMakeAscending_9f01e := Or.inl (by rw [h]; exact gm_in (i := 2105) (by decide +kernel) (by decide +kernel))
theorem lk_Jxfee68_101 {M : gm_M} (h : M.1.cls = RJxfee68) : gm_lk M 101 mJxfee68_reverseRange_ec627 := Or.inl (by rw [h]; exact gm_in (i := 2112) (by decide +kernel) (by decide +kernel))
theorem lk_Jxfee68_68 {M : gm_M} (h : M.1.cls = RJxfee68) : gm_lk M 68 mJxfee68_binarySort_68778 := Or.inl (by rw [h]; exact gm_in (i := 2115) (by decide +kernel) (by decide +kernel))
theorem lk_L_332 {M : gm_M} (h : M.1.cls = RL) : gm_lk M 332 mJx4a65c_size_8abf5 := Or.inl (by rw [h]; exact gm_in (i := 2119) (by decide +kernel) (by decide +kernel))
theorem lk_L_336 {M : gm_M} (h : M.1.cls = RL) : gm_lk M 336 mJx4a65c_get_915e3 := Or.inl (by rw [h]; exact gm_in (i := 2124) (by decide +kernel) (by decide +kernel))
theorem lk_Jx4a65c_118 {M : gm_M} (h : M.1.cls = RJx4a65c) : gm_lk M 118 mJ15_checkIndex_7cf53 := Or.inl (by rw [h]; exact gm_in (i := 2128) (by decide +kernel) (by decide +kernel))
theorem lk_J15_105 {M : gm_M} (h : M.1.cls = RJ15) : gm_lk M 105 mJ3_checkIndex_8e157 := Or.inl (by rw [h]; exact gm_in (i := 2131) (by decide +kernel) (by decide +kernel))
theorem lk_Jx4a65c_123 {M : gm_M} (h : M.1.cls = RJx4a65c) : gm_lk M 123 mJx4a65c_elementData_915e3 := Or.inl (by rw [h]; exact gm_in (i := 2132) (by decide +kernel) (by decide +kernel))
theorem lk_L_340 {M : gm_M} (h : M.1.cls = RL) : gm_lk M 340 mJ6_intValue_8abf5 := Or.inl (by rw [h]; exact gm_in (i := 2137) (by decide +kernel) (by decide +kernel))
theorem lk_L_343 {M : gm_M} (h : M.1.cls = RL) : gm_lk M 343 mJ9_min_7cf53 := Or.inl (by rw [h]; exact gm_in (i := 2141) (by decide +kernel) (by decide +kernel))
theorem lk_L_351 {M : gm_M} (h : M.1.cls = RL) : gm_lk M 351 mX10_leastDifferenceByOrder := Or.inl (by rw [h]; exact gm_in (i := 2142) (by decide +kernel) (by decide +kernel))
theorem lk_X6_58 {M : gm_M} (h : M.1.cls = RX6) : gm_lk M 58 mX6_sortStrengths := Or.inl (by rw [h]; exact gm_in (i := 2150) (by decide +kernel) (by decide +kernel))
theorem lk_X6_62 {M : gm_M} (h : M.1.cls = RX6) : gm_lk M 62 mX6_differenceWithout := Or.inl (by rw [h]; exact gm_in (i := 2154) (by decide +kernel) (by decide +kernel))
theorem lk_L_402 {M : gm_M} (h : M.1.cls = RL) : gm_lk M 402 mL_batches := Or.inl (by rw [h]; exact gm_in (i := 2158) (by decide +kernel) (by decide +kernel))
theorem lk_L_360 {M : gm_M} (h : M.1.cls = RL) : gm_lk M 360 mX10_leastLatenessByOrders := Or.inl (by rw [h]; exact gm_in (i := 2161) (by decide +kernel) (by decide +kernel))
theorem lk_X4_53 {M : gm_M} (h : M.1.cls = RX4) : gm_lk M 53 mX4_bestFrom := Or.inl (by rw [h]; exact gm_in (i := 2169) (by decide +kernel) (by decide +kernel))
theorem lk_L_409 {M : gm_M} (h : M.1.cls = RL) : gm_lk M 409 mL_foretold := Or.inl (by rw [h]; exact gm_in (i := 2172) (by decide +kernel) (by decide +kernel))
theorem lk_L_363 {M : gm_M} (h : M.1.cls = RL) : gm_lk M 363 mX10_save := Or.inl (by rw [h]; exact gm_in (i := 2175) (by decide +kernel) (by decide +kernel))
theorem lk_X10_9 {M : gm_M} (h : M.1.cls = RX10) : gm_lk M 9 mX9_init := Or.inr ⟨"NeedleBakery", by rw [h]; exact gm_in (i := 139) (by decide +kernel) (by decide +kernel)⟩
theorem lk_X9_11 {M : gm_M} (h : M.1.cls = RX9) : gm_lk M 11 mX3_init := Or.inr ⟨"NeedleBakery", by rw [h]; exact gm_in (i := 145) (by decide +kernel) (by decide +kernel)⟩
theorem lk_X9_20 {M : gm_M} (h : M.1.cls = RX9) : gm_lk M 20 mX5_init := Or.inr ⟨"NeedleBakery", by rw [h]; exact gm_in (i := 174) (by decide +kernel) (by decide +kernel)⟩
theorem lk_X10_21 {M : gm_M} (h : M.1.cls = RX10) : gm_lk M 21 mX2_init := Or.inr ⟨"NeedleBakery", by rw [h]; exact gm_in (i := 231) (by decide +kernel) (by decide +kernel)⟩
theorem lk_X2_17 {M : gm_M} (h : M.1.cls = RX2) : gm_lk M 17 mX9_init := Or.inr ⟨"NeedleBakery", by rw [h]; exact gm_in (i := 237) (by decide +kernel) (by decide +kernel)⟩
theorem lk_X10_28 {M : gm_M} (h : M.1.cls = RX10) : gm_lk M 28 mX6_init := Or.inr ⟨"NeedleBakery", by rw [h]; exact gm_in (i := 251) (by decide +kernel) (by decide +kernel)⟩
theorem lk_X10_35 {M : gm_M} (h : M.1.cls = RX10) : gm_lk M 35 mX4_init := Or.inr ⟨"NeedleBakery", by rw [h]; exact gm_in (i := 264) (by decide +kernel) (by decide +kernel)⟩
theorem lk_X10_53 {M : gm_M} (h : M.1.cls = RX10) : gm_lk M 53 mX7_init := Or.inr ⟨"NeedleBakery", by rw [h]; exact gm_in (i := 307) (by decide +kernel) (by decide +kernel)⟩
theorem lk_X10_179 {M : gm_M} (h : M.1.cls = RX10) : gm_lk M 179 mX6_leastBySets := Or.inr ⟨"NeedleBakery", by rw [h]; exact gm_in (i := 379) (by decide +kernel) (by decide +kernel)⟩
theorem lk_X6_18 {M : gm_M} (h : M.1.cls = RX6) : gm_lk M 18 mX3_goodSet := Or.inr ⟨"NeedleBakery", by rw [h]; exact gm_in (i := 383) (by decide +kernel) (by decide +kernel)⟩
theorem lk_X3_34 {M : gm_M} (h : M.1.cls = RX3) : gm_lk M 34 mX10_holds := Or.inr ⟨"NeedleBakery", by rw [h]; exact gm_in (i := 391) (by decide +kernel) (by decide +kernel)⟩
theorem lk_X3_42 {M : gm_M} (h : M.1.cls = RX3) : gm_lk M 42 mX10_outside := Or.inr ⟨"NeedleBakery", by rw [h]; exact gm_in (i := 402) (by decide +kernel) (by decide +kernel)⟩
theorem lk_X6_38 {M : gm_M} (h : M.1.cls = RX6) : gm_lk M 38 mX10_holds := Or.inr ⟨"NeedleBakery", by rw [h]; exact gm_in (i := 412) (by decide +kernel) (by decide +kernel)⟩
theorem lk_X10_230 {M : gm_M} (h : M.1.cls = RX10) : gm_lk M 230 mX4_leastBySets := Or.inr ⟨"NeedleBakery", by rw [h]; exact gm_in (i := 434) (by decide +kernel) (by decide +kernel)⟩
theorem lk_X4_29 {M : gm_M} (h : M.1.cls = RX4) : gm_lk M 29 mX10_holds := Or.inr ⟨"NeedleBakery", by rw [h]; exact gm_in (i := 441) (by decide +kernel) (by decide +kernel)⟩
theorem lk_X4_43 {M : gm_M} (h : M.1.cls = RX4) : gm_lk M 43 mX5_latenessFrom := Or.inr ⟨"NeedleBakery", by rw [h]; exact gm_in (i := 447) (by decide +kernel) (by decide +kernel)⟩
theorem lk_X10_352 {M : gm_M} (h : M.1.cls = RX10) : gm_lk M 352 mX9_whyNot := Or.inr ⟨"NeedleBakery", by rw [h]; exact gm_in (i := 484) (by decide +kernel) (by decide +kernel)⟩
theorem lk_X9_44 {M : gm_M} (h : M.1.cls = RX9) : gm_lk M 44 mX3_whyNotAdd := Or.inr ⟨"NeedleBakery", by rw [h]; exact gm_in (i := 496) (by decide +kernel) (by decide +kernel)⟩
theorem lk_X9_48 {M : gm_M} (h : M.1.cls = RX9) : gm_lk M 48 mX3_whyNotPut := Or.inr ⟨"NeedleBakery", by rw [h]; exact gm_in (i := 506) (by decide +kernel) (by decide +kernel)⟩
theorem lk_X9_52 {M : gm_M} (h : M.1.cls = RX9) : gm_lk M 52 mX3_whyNotShift := Or.inr ⟨"NeedleBakery", by rw [h]; exact gm_in (i := 518) (by decide +kernel) (by decide +kernel)⟩
theorem lk_X9_56 {M : gm_M} (h : M.1.cls = RX9) : gm_lk M 56 mX3_whyNotCorrect := Or.inr ⟨"NeedleBakery", by rw [h]; exact gm_in (i := 528) (by decide +kernel) (by decide +kernel)⟩
theorem lk_X9_59 {M : gm_M} (h : M.1.cls = RX9) : gm_lk M 59 mX3_whyNotThrowOut := Or.inr ⟨"NeedleBakery", by rw [h]; exact gm_in (i := 537) (by decide +kernel) (by decide +kernel)⟩
theorem lk_X9_62 {M : gm_M} (h : M.1.cls = RX9) : gm_lk M 62 mX10_outside := Or.inr ⟨"NeedleBakery", by rw [h]; exact gm_in (i := 541) (by decide +kernel) (by decide +kernel)⟩
theorem lk_X9_75 {M : gm_M} (h : M.1.cls = RX9) : gm_lk M 75 mX5_whyNotAdd := Or.inr ⟨"NeedleBakery", by rw [h]; exact gm_in (i := 544) (by decide +kernel) (by decide +kernel)⟩
theorem lk_X5_50 {M : gm_M} (h : M.1.cls = RX5) : gm_lk M 50 mX10_outside := Or.inr ⟨"NeedleBakery", by rw [h]; exact gm_in (i := 548) (by decide +kernel) (by decide +kernel)⟩
theorem lk_X9_77 {M : gm_M} (h : M.1.cls = RX9) : gm_lk M 77 mX5_placeOf := Or.inr ⟨"NeedleBakery", by rw [h]; exact gm_in (i := 552) (by decide +kernel) (by decide +kernel)⟩
theorem lk_X10_315 {M : gm_M} (h : M.1.cls = RX10) : gm_lk M 315 mX2_prepare := Or.inr ⟨"NeedleBakery", by rw [h]; exact gm_in (i := 704) (by decide +kernel) (by decide +kernel)⟩
theorem lk_X2_25 {M : gm_M} (h : M.1.cls = RX2) : gm_lk M 25 mX9_copyFrom := Or.inr ⟨"NeedleBakery", by rw [h]; exact gm_in (i := 708) (by decide +kernel) (by decide +kernel)⟩
theorem lk_X9_25 {M : gm_M} (h : M.1.cls = RX9) : gm_lk M 25 mX3_copyFrom := Or.inr ⟨"NeedleBakery", by rw [h]; exact gm_in (i := 712) (by decide +kernel) (by decide +kernel)⟩
theorem lk_X9_29 {M : gm_M} (h : M.1.cls = RX9) : gm_lk M 29 mX5_copyFrom := Or.inr ⟨"NeedleBakery", by rw [h]; exact gm_in (i := 719) (by decide +kernel) (by decide +kernel)⟩
theorem lk_X10_327 {M : gm_M} (h : M.1.cls = RX10) : gm_lk M 327 mX2_keepPrepared := Or.inr ⟨"NeedleBakery", by rw [h]; exact gm_in (i := 724) (by decide +kernel) (by decide +kernel)⟩
theorem lk_X10_360 {M : gm_M} (h : M.1.cls = RX10) : gm_lk M 360 mX9_perform := Or.inr ⟨"NeedleBakery", by rw [h]; exact gm_in (i := 728) (by decide +kernel) (by decide +kernel)⟩
theorem lk_X9_84 {M : gm_M} (h : M.1.cls = RX9) : gm_lk M 84 mX3_add := Or.inr ⟨"NeedleBakery", by rw [h]; exact gm_in (i := 732) (by decide +kernel) (by decide +kernel)⟩
theorem lk_X9_87 {M : gm_M} (h : M.1.cls = RX9) : gm_lk M 87 mX3_put := Or.inr ⟨"NeedleBakery", by rw [h]; exact gm_in (i := 736) (by decide +kernel) (by decide +kernel)⟩
theorem lk_X9_91 {M : gm_M} (h : M.1.cls = RX9) : gm_lk M 91 mX3_move := Or.inr ⟨"NeedleBakery", by rw [h]; exact gm_in (i := 740) (by decide +kernel) (by decide +kernel)⟩
theorem lk_X9_95 {M : gm_M} (h : M.1.cls = RX9) : gm_lk M 95 mX3_errorShiftedBy := Or.inr ⟨"NeedleBakery", by rw [h]; exact gm_in (i := 744) (by decide +kernel) (by decide +kernel)⟩
theorem lk_X9_99 {M : gm_M} (h : M.1.cls = RX9) : gm_lk M 99 mX3_moveByBest := Or.inr ⟨"NeedleBakery", by rw [h]; exact gm_in (i := 748) (by decide +kernel) (by decide +kernel)⟩
theorem lk_X9_102 {M : gm_M} (h : M.1.cls = RX9) : gm_lk M 102 mX3_throwOut := Or.inr ⟨"NeedleBakery", by rw [h]; exact gm_in (i := 753) (by decide +kernel) (by decide +kernel)⟩
theorem lk_X9_109 {M : gm_M} (h : M.1.cls = RX9) : gm_lk M 109 mX3_countTooWide := Or.inr ⟨"NeedleBakery", by rw [h]; exact gm_in (i := 758) (by decide +kernel) (by decide +kernel)⟩
theorem lk_X9_112 {M : gm_M} (h : M.1.cls = RX9) : gm_lk M 112 mX5_add := Or.inr ⟨"NeedleBakery", by rw [h]; exact gm_in (i := 762) (by decide +kernel) (by decide +kernel)⟩
theorem lk_X9_114 {M : gm_M} (h : M.1.cls = RX9) : gm_lk M 114 mX5_takeOut := Or.inr ⟨"NeedleBakery", by rw [h]; exact gm_in (i := 766) (by decide +kernel) (by decide +kernel)⟩
theorem lk_X9_121 {M : gm_M} (h : M.1.cls = RX9) : gm_lk M 121 mX5_finish := Or.inr ⟨"NeedleBakery", by rw [h]; exact gm_in (i := 770) (by decide +kernel) (by decide +kernel)⟩
theorem lk_X10_151 {M : gm_M} (h : M.1.cls = RX10) : gm_lk M 151 mX3_countAheadOf := Or.inr ⟨"NeedleBakery", by rw [h]; exact gm_in (i := 851) (by decide +kernel) (by decide +kernel)⟩
theorem lk_X10_161 {M : gm_M} (h : M.1.cls = RX10) : gm_lk M 161 mX3_goodSet := Or.inr ⟨"NeedleBakery", by rw [h]; exact gm_in (i := 882) (by decide +kernel) (by decide +kernel)⟩
theorem lk_X10_142 {M : gm_M} (h : M.1.cls = RX10) : gm_lk M 142 mX3_errorShiftedBy := Or.inr ⟨"NeedleBakery", by rw [h]; exact gm_in (i := 888) (by decide +kernel) (by decide +kernel)⟩
theorem lk_X10_379 {M : gm_M} (h : M.1.cls = RX10) : gm_lk M 379 mX3_has := Or.inr ⟨"NeedleBakery", by rw [h]; exact gm_in (i := 901) (by decide +kernel) (by decide +kernel)⟩
theorem lk_X10_186 {M : gm_M} (h : M.1.cls = RX10) : gm_lk M 186 mX6_lowestPartner := Or.inr ⟨"NeedleBakery", by rw [h]; exact gm_in (i := 903) (by decide +kernel) (by decide +kernel)⟩
theorem lk_X10_236 {M : gm_M} (h : M.1.cls = RX10) : gm_lk M 236 mX4_bestFirstPlace := Or.inr ⟨"NeedleBakery", by rw [h]; exact gm_in (i := 952) (by decide +kernel) (by decide +kernel)⟩
theorem lk_X10_266 {M : gm_M} (h : M.1.cls = RX10) : gm_lk M 266 mX3_at := Or.inr ⟨"NeedleBakery", by rw [h]; exact gm_in (i := 1250) (by decide +kernel) (by decide +kernel)⟩
theorem lk_X10_106 {M : gm_M} (h : M.1.cls = RX10) : gm_lk M 106 mX3_isOut := Or.inr ⟨"NeedleBakery", by rw [h]; exact gm_in (i := 1251) (by decide +kernel) (by decide +kernel)⟩
theorem lk_X10_110 {M : gm_M} (h : M.1.cls = RX10) : gm_lk M 110 mX3_isTooWide := Or.inr ⟨"NeedleBakery", by rw [h]; exact gm_in (i := 1254) (by decide +kernel) (by decide +kernel)⟩
theorem lk_X10_301 {M : gm_M} (h : M.1.cls = RX10) : gm_lk M 301 mX7_append := Or.inr ⟨"NeedleBakery", by rw [h]; exact gm_in (i := 1285) (by decide +kernel) (by decide +kernel)⟩
theorem lk_X10_304 {M : gm_M} (h : M.1.cls = RX10) : gm_lk M 304 mX7_countCommands := Or.inr ⟨"NeedleBakery", by rw [h]; exact gm_in (i := 1296) (by decide +kernel) (by decide +kernel)⟩
theorem lk_X10_310 {M : gm_M} (h : M.1.cls = RX10) : gm_lk M 310 mX7_empty := Or.inr ⟨"NeedleBakery", by rw [h]; exact gm_in (i := 1346) (by decide +kernel) (by decide +kernel)⟩
theorem lk_X10_363 {M : gm_M} (h : M.1.cls = RX10) : gm_lk M 363 mX7_readsCommand := Or.inr ⟨"NeedleBakery", by rw [h]; exact gm_in (i := 1355) (by decide +kernel) (by decide +kernel)⟩
theorem lk_X10_322 {M : gm_M} (h : M.1.cls = RX10) : gm_lk M 322 mX2_putBack := Or.inr ⟨"NeedleBakery", by rw [h]; exact gm_in (i := 1357) (by decide +kernel) (by decide +kernel)⟩
theorem lk_X10_337 {M : gm_M} (h : M.1.cls = RX10) : gm_lk M 337 mX2_takeBack := Or.inr ⟨"NeedleBakery", by rw [h]; exact gm_in (i := 1386) (by decide +kernel) (by decide +kernel)⟩
theorem lk_X10_340 {M : gm_M} (h : M.1.cls = RX10) : gm_lk M 340 mX9_copyFrom := Or.inr ⟨"NeedleBakery", by rw [h]; exact gm_in (i := 1399) (by decide +kernel) (by decide +kernel)⟩
theorem lk_X10_349 {M : gm_M} (h : M.1.cls = RX10) : gm_lk M 349 mX2_forget := Or.inr ⟨"NeedleBakery", by rw [h]; exact gm_in (i := 1400) (by decide +kernel) (by decide +kernel)⟩
theorem lk_X10_222 {M : gm_M} (h : M.1.cls = RX10) : gm_lk M 222 mX5_placeOf := Or.inr ⟨"NeedleBakery", by rw [h]; exact gm_in (i := 1456) (by decide +kernel) (by decide +kernel)⟩
theorem lk_X10_227 {M : gm_M} (h : M.1.cls = RX10) : gm_lk M 227 mX5_latenessFrom := Or.inr ⟨"NeedleBakery", by rw [h]; exact gm_in (i := 1457) (by decide +kernel) (by decide +kernel)⟩
theorem lk_X10_241 {M : gm_M} (h : M.1.cls = RX10) : gm_lk M 241 mX4_latenessInOrderOfIds := Or.inr ⟨"NeedleBakery", by rw [h]; exact gm_in (i := 1497) (by decide +kernel) (by decide +kernel)⟩
theorem lk_X10_119 {M : gm_M} (h : M.1.cls = RX10) : gm_lk M 119 mX3_interpolated := Or.inr ⟨"NeedleBakery", by rw [h]; exact gm_in (i := 1537) (by decide +kernel) (by decide +kernel)⟩
theorem lk_X10_145 {M : gm_M} (h : M.1.cls = RX10) : gm_lk M 145 mX3_shiftByTrying := Or.inr ⟨"NeedleBakery", by rw [h]; exact gm_in (i := 1562) (by decide +kernel) (by decide +kernel)⟩
theorem lk_X10_148 {M : gm_M} (h : M.1.cls = RX10) : gm_lk M 148 mX3_shiftFromSum := Or.inr ⟨"NeedleBakery", by rw [h]; exact gm_in (i := 1587) (by decide +kernel) (by decide +kernel)⟩
theorem lk_X10_123 {M : gm_M} (h : M.1.cls = RX10) : gm_lk M 123 mX3_corrected := Or.inr ⟨"NeedleBakery", by rw [h]; exact gm_in (i := 1610) (by decide +kernel) (by decide +kernel)⟩
theorem lk_X10_126 {M : gm_M} (h : M.1.cls = RX10) : gm_lk M 126 mX3_lowestCourse := Or.inr ⟨"NeedleBakery", by rw [h]; exact gm_in (i := 1627) (by decide +kernel) (by decide +kernel)⟩
theorem lk_X10_133 {M : gm_M} (h : M.1.cls = RX10) : gm_lk M 133 mX3_lowestNearbyCourse := Or.inr ⟨"NeedleBakery", by rw [h]; exact gm_in (i := 1643) (by decide +kernel) (by decide +kernel)⟩
theorem lk_X10_183 {M : gm_M} (h : M.1.cls = RX10) : gm_lk M 183 mX6_leastByStrengths := Or.inr ⟨"NeedleBakery", by rw [h]; exact gm_in (i := 2146) (by decide +kernel) (by decide +kernel)⟩
theorem lk_X10_233 {M : gm_M} (h : M.1.cls = RX10) : gm_lk M 233 mX4_leastByTrying := Or.inr ⟨"NeedleBakery", by rw [h]; exact gm_in (i := 2165) (by decide +kernel) (by decide +kernel)⟩
theorem uw_J0 : ∀ w ∈ u_ws RJ0 TJ0 4, w ∈ gm_big := gm_uw [796, 798, 1188, 1190] (by decide +kernel)
theorem uw_J4 : ∀ w ∈ u_ws RJ4 TJ4 4, w ∈ gm_big := gm_uw [295, 297, 299, 301] (by decide +kernel)
theorem uw_Jx00060 : ∀ w ∈ u_ws RJx00060 TJx00060 6, w ∈ gm_big := gm_uw [784, 785, 786, 787, 788, 789] (by decide +kernel)
theorem uw_Jx7c733 : ∀ w ∈ u_ws RJx7c733 TJx7c733 6, w ∈ gm_big := gm_uw [1194, 1195, 1196, 1197, 1198, 1199] (by decide +kernel)
theorem uw_X2 : ∀ w ∈ u_ws RX2 TX2 3, w ∈ gm_big := gm_uw [242, 244, 246] (by decide +kernel)
theorem uw_X3 : ∀ w ∈ u_ws RX3 TX3 5, w ∈ gm_big := gm_uw [160, 162, 164, 166, 168] (by decide +kernel)
theorem uw_X4 : ∀ w ∈ u_ws RX4 TX4 1, w ∈ gm_big := gm_uw [269] (by decide +kernel)
theorem uw_X5 : ∀ w ∈ u_ws RX5 TX5 10, w ∈ gm_big := gm_uw [199, 201, 203, 205, 207, 209, 211, 213, 215, 217] (by decide +kernel)
theorem uw_X6 : ∀ w ∈ u_ws RX6 TX6 2, w ∈ gm_big := gm_uw [257, 259] (by decide +kernel)
theorem uw_X7 : ∀ w ∈ u_ws RX7 TX7 6, w ∈ gm_big := gm_uw [323, 325, 327, 329, 331, 333] (by decide +kernel)
theorem uw_X9 : ∀ w ∈ u_ws RX9 TX9 2, w ∈ gm_big := gm_uw [224, 226] (by decide +kernel)
theorem uw_X10 : ∀ w ∈ u_ws RX10 TX10 11, w ∈ gm_big := gm_uw [348, 350, 352, 354, 356, 358, 360, 362, 364, 366, 368] (by decide +kernel)
theorem uw_J6 : ∀ w ∈ u_ws RJ6 TJ6 1, w ∈ gm_big := gm_uw [1708] (by decide +kernel)
theorem uw_Jx4a65c : ∀ w ∈ u_ws RJx4a65c TJx4a65c 3, w ∈ gm_big := gm_uw [1685, 1681, 1683] (by decide +kernel)
theorem uw_Jx2f0ea : ∀ w ∈ u_ws RJx2f0ea TJx2f0ea 8, w ∈ gm_big := gm_uw [2041, 2043, 2045, 2047, 2049, 2051, 2053, 2055] (by decide +kernel)
theorem uw_X11 : ∀ w ∈ u_ws RX11 TX11 1, w ∈ gm_big := gm_uw [459] (by decide +kernel)
theorem fl_X3_22 {M : gm_M} (h : M.1.cls = RX3) : gm_fl M 22 5 0 := ⟨RX3, TX3, 5, rfl, uw_X3, by decide, Or.inl (by rw [h]; exact gm_in (i := 149) (by decide +kernel) (by decide +kernel))⟩
theorem fp_X3_22 {M : gm_M} (h : M.1.cls = RX3) : gm_fp M 22 5 0 .int := ⟨RX3, TX3, 5, tyX3, rfl, uw_X3, by decide, tyX3_ok, nmX3, by decide +kernel, Or.inl ⟨by rw [h]; exact gm_in (i := 149) (by decide +kernel) (by decide +kernel), Or.inl rfl⟩⟩
theorem fl_X3_9 {M : gm_M} (h : M.1.cls = RX3) : gm_fl M 9 5 1 := ⟨RX3, TX3, 5, rfl, uw_X3, by decide, Or.inl (by rw [h]; exact gm_in (i := 152) (by decide +kernel) (by decide +kernel))⟩
theorem fp_X3_9 {M : gm_M} (h : M.1.cls = RX3) : gm_fp M 9 5 1 .int := ⟨RX3, TX3, 5, tyX3, rfl, uw_X3, by decide, tyX3_ok, nmX3, by decide +kernel, Or.inl ⟨by rw [h]; exact gm_in (i := 152) (by decide +kernel) (by decide +kernel), Or.inl rfl⟩⟩
theorem fl_X3_25 {M : gm_M} (h : M.1.cls = RX3) : gm_fl M 25 5 2 := ⟨RX3, TX3, 5, rfl, uw_X3, by decide, Or.inl (by rw [h]; exact gm_in (i := 155) (by decide +kernel) (by decide +kernel))⟩
theorem fp_X3_25 {M : gm_M} (h : M.1.cls = RX3) : gm_fp M 25 5 2 .int := ⟨RX3, TX3, 5, tyX3, rfl, uw_X3, by decide, tyX3_ok, nmX3, by decide +kernel, Or.inl ⟨by rw [h]; exact gm_in (i := 155) (by decide +kernel) (by decide +kernel), Or.inl rfl⟩⟩
theorem fl_X3_15 {M : gm_M} (h : M.1.cls = RX3) : gm_fl M 15 5 3 := ⟨RX3, TX3, 5, rfl, uw_X3, by decide, Or.inl (by rw [h]; exact gm_in (i := 156) (by decide +kernel) (by decide +kernel))⟩
theorem fp_X3_15 {M : gm_M} (h : M.1.cls = RX3) (hi : M.1.name = "<init>") : gm_fp M 15 5 3 (.array .int) := ⟨RX3, TX3, 5, tyX3, rfl, uw_X3, by decide, tyX3_ok, nmX3, by decide +kernel, Or.inl ⟨by rw [h]; exact gm_in (i := 156) (by decide +kernel) (by decide +kernel), Or.inr ⟨rfl, hi, by rw [h]; rfl⟩⟩⟩
theorem fl_X3_19 {M : gm_M} (h : M.1.cls = RX3) : gm_fl M 19 5 4 := ⟨RX3, TX3, 5, rfl, uw_X3, by decide, Or.inl (by rw [h]; exact gm_in (i := 159) (by decide +kernel) (by decide +kernel))⟩
theorem fp_X3_19 {M : gm_M} (h : M.1.cls = RX3) (hi : M.1.name = "<init>") : gm_fp M 19 5 4 (.array .int) := ⟨RX3, TX3, 5, tyX3, rfl, uw_X3, by decide, tyX3_ok, nmX3, by decide +kernel, Or.inl ⟨by rw [h]; exact gm_in (i := 159) (by decide +kernel) (by decide +kernel), Or.inr ⟨rfl, hi, by rw [h]; rfl⟩⟩⟩
theorem fl_X5_24 {M : gm_M} (h : M.1.cls = RX5) : gm_fl M 24 7 0 := ⟨RX5, TX5, 10, rfl, uw_X5, by decide, Or.inl (by rw [h]; exact gm_in (i := 178) (by decide +kernel) (by decide +kernel))⟩
theorem fp_X5_24 {M : gm_M} (h : M.1.cls = RX5) : gm_fp M 24 7 0 .int := ⟨RX5, TX5, 10, tyX5, rfl, uw_X5, by decide, tyX5_ok, nmX5, by decide +kernel, Or.inl ⟨by rw [h]; exact gm_in (i := 178) (by decide +kernel) (by decide +kernel), Or.inl rfl⟩⟩
theorem fl_X5_28 {M : gm_M} (h : M.1.cls = RX5) : gm_fl M 28 7 1 := ⟨RX5, TX5, 10, rfl, uw_X5, by decide, Or.inl (by rw [h]; exact gm_in (i := 183) (by decide +kernel) (by decide +kernel))⟩
theorem fp_X5_28 {M : gm_M} (h : M.1.cls = RX5) : gm_fp M 28 7 1 .int := ⟨RX5, TX5, 10, tyX5, rfl, uw_X5, by decide, tyX5_ok, nmX5, by decide +kernel, Or.inl ⟨by rw [h]; exact gm_in (i := 183) (by decide +kernel) (by decide +kernel), Or.inl rfl⟩⟩
theorem fl_X5_31 {M : gm_M} (h : M.1.cls = RX5) : gm_fl M 31 7 2 := ⟨RX5, TX5, 10, rfl, uw_X5, by decide, Or.inl (by rw [h]; exact gm_in (i := 186) (by decide +kernel) (by decide +kernel))⟩
theorem fp_X5_31 {M : gm_M} (h : M.1.cls = RX5) : gm_fp M 31 7 2 .int := ⟨RX5, TX5, 10, tyX5, rfl, uw_X5, by decide, tyX5_ok, nmX5, by decide +kernel, Or.inl ⟨by rw [h]; exact gm_in (i := 186) (by decide +kernel) (by decide +kernel), Or.inl rfl⟩⟩
theorem fl_X5_34 {M : gm_M} (h : M.1.cls = RX5) : gm_fl M 34 7 3 := ⟨RX5, TX5, 10, rfl, uw_X5, by decide, Or.inl (by rw [h]; exact gm_in (i := 187) (by decide +kernel) (by decide +kernel))⟩
theorem fp_X5_34 {M : gm_M} (h : M.1.cls = RX5) : gm_fp M 34 7 3 .int := ⟨RX5, TX5, 10, tyX5, rfl, uw_X5, by decide, tyX5_ok, nmX5, by decide +kernel, Or.inl ⟨by rw [h]; exact gm_in (i := 187) (by decide +kernel) (by decide +kernel), Or.inl rfl⟩⟩
theorem fl_X5_37 {M : gm_M} (h : M.1.cls = RX5) : gm_fl M 37 7 4 := ⟨RX5, TX5, 10, rfl, uw_X5, by decide, Or.inl (by rw [h]; exact gm_in (i := 189) (by decide +kernel) (by decide +kernel))⟩
theorem fp_X5_37 {M : gm_M} (h : M.1.cls = RX5) : gm_fp M 37 7 4 .int := ⟨RX5, TX5, 10, tyX5, rfl, uw_X5, by decide, tyX5_ok, nmX5, by decide +kernel, Or.inl ⟨by rw [h]; exact gm_in (i := 189) (by decide +kernel) (by decide +kernel), Or.inl rfl⟩⟩
theorem fl_X5_40 {M : gm_M} (h : M.1.cls = RX5) : gm_fl M 40 7 5 := ⟨RX5, TX5, 10, rfl, uw_X5, by decide, Or.inl (by rw [h]; exact gm_in (i := 191) (by decide +kernel) (by decide +kernel))⟩
theorem fp_X5_40 {M : gm_M} (h : M.1.cls = RX5) : gm_fp M 40 7 5 .long := ⟨RX5, TX5, 10, tyX5, rfl, uw_X5, by decide, tyX5_ok, nmX5, by decide +kernel, Or.inl ⟨by rw [h]; exact gm_in (i := 191) (by decide +kernel) (by decide +kernel), Or.inl rfl⟩⟩
theorem fl_X5_9 {M : gm_M} (h : M.1.cls = RX5) : gm_fl M 9 7 6 := ⟨RX5, TX5, 10, rfl, uw_X5, by decide, Or.inl (by rw [h]; exact gm_in (i := 193) (by decide +kernel) (by decide +kernel))⟩
theorem fp_X5_9 {M : gm_M} (h : M.1.cls = RX5) (hi : M.1.name = "<init>") : gm_fp M 9 7 6 (.array .int) := ⟨RX5, TX5, 10, tyX5, rfl, uw_X5, by decide, tyX5_ok, nmX5, by decide +kernel, Or.inl ⟨by rw [h]; exact gm_in (i := 193) (by decide +kernel) (by decide +kernel), Or.inr ⟨rfl, hi, by rw [h]; rfl⟩⟩⟩
theorem fl_X5_15 {M : gm_M} (h : M.1.cls = RX5) : gm_fl M 15 7 7 := ⟨RX5, TX5, 10, rfl, uw_X5, by decide, Or.inl (by rw [h]; exact gm_in (i := 195) (by decide +kernel) (by decide +kernel))⟩
theorem fp_X5_15 {M : gm_M} (h : M.1.cls = RX5) (hi : M.1.name = "<init>") : gm_fp M 15 7 7 (.array .int) := ⟨RX5, TX5, 10, tyX5, rfl, uw_X5, by decide, tyX5_ok, nmX5, by decide +kernel, Or.inl ⟨by rw [h]; exact gm_in (i := 195) (by decide +kernel) (by decide +kernel), Or.inr ⟨rfl, hi, by rw [h]; rfl⟩⟩⟩
theorem fl_X5_18 {M : gm_M} (h : M.1.cls = RX5) : gm_fl M 18 7 8 := ⟨RX5, TX5, 10, rfl, uw_X5, by decide, Or.inl (by rw [h]; exact gm_in (i := 197) (by decide +kernel) (by decide +kernel))⟩
theorem fp_X5_18 {M : gm_M} (h : M.1.cls = RX5) (hi : M.1.name = "<init>") : gm_fp M 18 7 8 (.array .int) := ⟨RX5, TX5, 10, tyX5, rfl, uw_X5, by decide, tyX5_ok, nmX5, by decide +kernel, Or.inl ⟨by rw [h]; exact gm_in (i := 197) (by decide +kernel) (by decide +kernel), Or.inr ⟨rfl, hi, by rw [h]; rfl⟩⟩⟩
theorem fl_X5_21 {M : gm_M} (h : M.1.cls = RX5) : gm_fl M 21 7 9 := ⟨RX5, TX5, 10, rfl, uw_X5, by decide, Or.inl (by rw [h]; exact gm_in (i := 198) (by decide +kernel) (by decide +kernel))⟩
theorem fp_X5_21 {M : gm_M} (h : M.1.cls = RX5) (hi : M.1.name = "<init>") : gm_fp M 21 7 9 (.array .int) := ⟨RX5, TX5, 10, tyX5, rfl, uw_X5, by decide, tyX5_ok, nmX5, by decide +kernel, Or.inl ⟨by rw [h]; exact gm_in (i := 198) (by decide +kernel) (by decide +kernel), Or.inr ⟨rfl, hi, by rw [h]; rfl⟩⟩⟩
theorem fl_X9_12 {M : gm_M} (h : M.1.cls = RX9) : gm_fl M 12 10 0 := ⟨RX9, TX9, 2, rfl, uw_X9, by decide, Or.inl (by rw [h]; exact gm_in (i := 220) (by decide +kernel) (by decide +kernel))⟩
theorem fp_X9_12 {M : gm_M} (h : M.1.cls = RX9) (hi : M.1.name = "<init>") : gm_fp M 12 10 0 (.object "NeedleBakery$Needles") := ⟨RX9, TX9, 2, tyX9, rfl, uw_X9, by decide, tyX9_ok, nmX9, by decide +kernel, Or.inl ⟨by rw [h]; exact gm_in (i := 220) (by decide +kernel) (by decide +kernel), Or.inr ⟨rfl, hi, by rw [h]; rfl⟩⟩⟩
theorem fl_X9_21 {M : gm_M} (h : M.1.cls = RX9) : gm_fl M 21 10 1 := ⟨RX9, TX9, 2, rfl, uw_X9, by decide, Or.inl (by rw [h]; exact gm_in (i := 222) (by decide +kernel) (by decide +kernel))⟩
theorem fp_X9_21 {M : gm_M} (h : M.1.cls = RX9) (hi : M.1.name = "<init>") : gm_fp M 21 10 1 (.object "NeedleBakery$Oven") := ⟨RX9, TX9, 2, tyX9, rfl, uw_X9, by decide, tyX9_ok, nmX9, by decide +kernel, Or.inl ⟨by rw [h]; exact gm_in (i := 222) (by decide +kernel) (by decide +kernel), Or.inr ⟨rfl, hi, by rw [h]; rfl⟩⟩⟩
theorem fl_X2_13 {M : gm_M} (h : M.1.cls = RX2) : gm_fl M 13 4 0 := ⟨RX2, TX2, 3, rfl, uw_X2, by decide, Or.inl (by rw [h]; exact gm_in (i := 238) (by decide +kernel) (by decide +kernel))⟩
theorem fp_X2_13 {M : gm_M} (h : M.1.cls = RX2) (hi : M.1.name = "<init>") : gm_fp M 13 4 0 (.array (.object "NeedleBakery$State")) := ⟨RX2, TX2, 3, tyX2, rfl, uw_X2, by decide, tyX2_ok, nmX2, by decide +kernel, Or.inl ⟨by rw [h]; exact gm_in (i := 238) (by decide +kernel) (by decide +kernel), Or.inr ⟨rfl, hi, by rw [h]; rfl⟩⟩⟩
theorem fl_X2_18 {M : gm_M} (h : M.1.cls = RX2) : gm_fl M 18 4 1 := ⟨RX2, TX2, 3, rfl, uw_X2, by decide, Or.inl (by rw [h]; exact gm_in (i := 239) (by decide +kernel) (by decide +kernel))⟩
theorem fp_X2_18 {M : gm_M} (h : M.1.cls = RX2) : gm_fp M 18 4 1 .int := ⟨RX2, TX2, 3, tyX2, rfl, uw_X2, by decide, tyX2_ok, nmX2, by decide +kernel, Or.inl ⟨by rw [h]; exact gm_in (i := 239) (by decide +kernel) (by decide +kernel), Or.inl rfl⟩⟩
theorem fl_X2_22 {M : gm_M} (h : M.1.cls = RX2) : gm_fl M 22 4 2 := ⟨RX2, TX2, 3, rfl, uw_X2, by decide, Or.inl (by rw [h]; exact gm_in (i := 240) (by decide +kernel) (by decide +kernel))⟩
theorem fp_X2_22 {M : gm_M} (h : M.1.cls = RX2) : gm_fp M 22 4 2 .int := ⟨RX2, TX2, 3, tyX2, rfl, uw_X2, by decide, tyX2_ok, nmX2, by decide +kernel, Or.inl ⟨by rw [h]; exact gm_in (i := 240) (by decide +kernel) (by decide +kernel), Or.inl rfl⟩⟩
theorem fl_X6_9 {M : gm_M} (h : M.1.cls = RX6) : gm_fl M 9 8 0 := ⟨RX6, TX6, 2, rfl, uw_X6, by decide, Or.inl (by rw [h]; exact gm_in (i := 255) (by decide +kernel) (by decide +kernel))⟩
theorem fp_X6_9 {M : gm_M} (h : M.1.cls = RX6) (hi : M.1.name = "<init>") : gm_fp M 9 8 0 (.array .int) := ⟨RX6, TX6, 2, tyX6, rfl, uw_X6, by decide, tyX6_ok, nmX6, by decide +kernel, Or.inl ⟨by rw [h]; exact gm_in (i := 255) (by decide +kernel) (by decide +kernel), Or.inr ⟨rfl, hi, by rw [h]; rfl⟩⟩⟩
theorem fl_X6_15 {M : gm_M} (h : M.1.cls = RX6) : gm_fl M 15 8 1 := ⟨RX6, TX6, 2, rfl, uw_X6, by decide, Or.inl (by rw [h]; exact gm_in (i := 256) (by decide +kernel) (by decide +kernel))⟩
theorem fp_X6_15 {M : gm_M} (h : M.1.cls = RX6) (hi : M.1.name = "<init>") : gm_fp M 15 8 1 (.array .int) := ⟨RX6, TX6, 2, tyX6, rfl, uw_X6, by decide, tyX6_ok, nmX6, by decide +kernel, Or.inl ⟨by rw [h]; exact gm_in (i := 256) (by decide +kernel) (by decide +kernel), Or.inr ⟨rfl, hi, by rw [h]; rfl⟩⟩⟩
theorem fl_X4_9 {M : gm_M} (h : M.1.cls = RX4) : gm_fl M 9 6 0 := ⟨RX4, TX4, 1, rfl, uw_X4, by decide, Or.inl (by rw [h]; exact gm_in (i := 268) (by decide +kernel) (by decide +kernel))⟩
theorem fp_X4_9 {M : gm_M} (h : M.1.cls = RX4) (hi : M.1.name = "<init>") : gm_fp M 9 6 0 (.array .int) := ⟨RX4, TX4, 1, tyX4, rfl, uw_X4, by decide, tyX4_ok, nmX4, by decide +kernel, Or.inl ⟨by rw [h]; exact gm_in (i := 268) (by decide +kernel) (by decide +kernel), Or.inr ⟨rfl, hi, by rw [h]; rfl⟩⟩⟩
theorem sl_J5_18 {M : gm_M} (h : M.1.cls = RJ5) : gm_sl M 18 "java/lang/String" "COMPACT_STRINGS" "Z" := Or.inl (by rw [h]; exact gm_in (i := 281) (by decide +kernel) (by decide +kernel))
theorem fl_J5_15 {M : gm_M} (h : M.1.cls = RJ5) : gm_fl M 15 1 0 := ⟨RJ4, TJ4, 4, rfl, uw_J4, by decide, Or.inl (by rw [h]; exact gm_in (i := 290) (by decide +kernel) (by decide +kernel))⟩
theorem fp_J5_15 {M : gm_M} (h : M.1.cls = RJ5) : gm_fp M 15 1 0 (.array .byte) := ⟨RJ4, TJ4, 4, tyJ4, rfl, uw_J4, by decide, tyJ4_ok, nmJ4, by decide +kernel, Or.inl ⟨by rw [h]; exact gm_in (i := 290) (by decide +kernel) (by decide +kernel), Or.inl rfl⟩⟩
theorem fl_J5_22 {M : gm_M} (h : M.1.cls = RJ5) : gm_fl M 22 1 1 := ⟨RJ4, TJ4, 4, rfl, uw_J4, by decide, Or.inl (by rw [h]; exact gm_in (i := 291) (by decide +kernel) (by decide +kernel))⟩
theorem fp_J5_22 {M : gm_M} (h : M.1.cls = RJ5) : gm_fp M 22 1 1 .byte := ⟨RJ4, TJ4, 4, tyJ4, rfl, uw_J4, by decide, tyJ4_ok, nmJ4, by decide +kernel, Or.inl ⟨by rw [h]; exact gm_in (i := 291) (by decide +kernel) (by decide +kernel), Or.inl rfl⟩⟩
theorem fl_J5_73 {M : gm_M} (h : M.1.cls = RJ5) : gm_fl M 73 1 2 := ⟨RJ4, TJ4, 4, rfl, uw_J4, by decide, Or.inl (by rw [h]; exact gm_in (i := 292) (by decide +kernel) (by decide +kernel))⟩
theorem fp_J5_73 {M : gm_M} (h : M.1.cls = RJ5) : gm_fp M 73 1 2 .boolean := ⟨RJ4, TJ4, 4, tyJ4, rfl, uw_J4, by decide, tyJ4_ok, nmJ4, by decide +kernel, Or.inl ⟨by rw [h]; exact gm_in (i := 292) (by decide +kernel) (by decide +kernel), Or.inl rfl⟩⟩
theorem fl_J0_1048 {M : gm_M} (h : M.1.cls = RJ0) : gm_fl M 1048 1 2 := ⟨RJ4, TJ4, 4, rfl, uw_J4, by decide, Or.inl (by rw [h]; exact gm_in (i := 293) (by decide +kernel) (by decide +kernel))⟩
theorem fp_J0_1048 {M : gm_M} (h : M.1.cls = RJ0) : gm_fp M 1048 1 2 .boolean := ⟨RJ4, TJ4, 4, tyJ4, rfl, uw_J4, by decide, tyJ4_ok, nmJ4, by decide +kernel, Or.inl ⟨by rw [h]; exact gm_in (i := 293) (by decide +kernel) (by decide +kernel), Or.inl rfl⟩⟩
theorem fl_J5_79 {M : gm_M} (h : M.1.cls = RJ5) : gm_fl M 79 1 3 := ⟨RJ4, TJ4, 4, rfl, uw_J4, by decide, Or.inl (by rw [h]; exact gm_in (i := 294) (by decide +kernel) (by decide +kernel))⟩
theorem fp_J5_79 {M : gm_M} (h : M.1.cls = RJ5) : gm_fp M 79 1 3 .int := ⟨RJ4, TJ4, 4, tyJ4, rfl, uw_J4, by decide, tyJ4_ok, nmJ4, by decide +kernel, Or.inl ⟨by rw [h]; exact gm_in (i := 294) (by decide +kernel) (by decide +kernel), Or.inl rfl⟩⟩
theorem sl_X7_15 {M : gm_M} (h : M.1.cls = RX7) : gm_sl M 15 "NeedleBakery$Change" "NEEDLE" "LNeedleBakery$Change;" := Or.inl (by rw [h]; exact gm_in (i := 311) (by decide +kernel) (by decide +kernel))
theorem fl_X7_9 {M : gm_M} (h : M.1.cls = RX7) : gm_fl M 9 9 0 := ⟨RX7, TX7, 6, rfl, uw_X7, by decide, Or.inl (by rw [h]; exact gm_in (i := 313) (by decide +kernel) (by decide +kernel))⟩
theorem fp_X7_9 {M : gm_M} (h : M.1.cls = RX7) (hi : M.1.name = "<init>") : gm_fp M 9 9 0 (.array .char) := ⟨RX7, TX7, 6, tyX7, rfl, uw_X7, by decide, tyX7_ok, nmX7, by decide +kernel, Or.inl ⟨by rw [h]; exact gm_in (i := 313) (by decide +kernel) (by decide +kernel), Or.inr ⟨rfl, hi, by rw [h]; rfl⟩⟩⟩
theorem fl_X7_28 {M : gm_M} (h : M.1.cls = RX7) : gm_fl M 28 9 1 := ⟨RX7, TX7, 6, rfl, uw_X7, by decide, Or.inl (by rw [h]; exact gm_in (i := 314) (by decide +kernel) (by decide +kernel))⟩
theorem fp_X7_28 {M : gm_M} (h : M.1.cls = RX7) : gm_fp M 28 9 1 .int := ⟨RX7, TX7, 6, tyX7, rfl, uw_X7, by decide, tyX7_ok, nmX7, by decide +kernel, Or.inl ⟨by rw [h]; exact gm_in (i := 314) (by decide +kernel) (by decide +kernel), Or.inl rfl⟩⟩
theorem fl_X7_32 {M : gm_M} (h : M.1.cls = RX7) : gm_fl M 32 9 2 := ⟨RX7, TX7, 6, rfl, uw_X7, by decide, Or.inl (by rw [h]; exact gm_in (i := 316) (by decide +kernel) (by decide +kernel))⟩
theorem fp_X7_32 {M : gm_M} (h : M.1.cls = RX7) : gm_fp M 32 9 2 .int := ⟨RX7, TX7, 6, tyX7, rfl, uw_X7, by decide, tyX7_ok, nmX7, by decide +kernel, Or.inl ⟨by rw [h]; exact gm_in (i := 316) (by decide +kernel) (by decide +kernel), Or.inl rfl⟩⟩
theorem fl_X7_21 {M : gm_M} (h : M.1.cls = RX7) : gm_fl M 21 9 3 := ⟨RX7, TX7, 6, rfl, uw_X7, by decide, Or.inl (by rw [h]; exact gm_in (i := 318) (by decide +kernel) (by decide +kernel))⟩
theorem fp_X7_21 {M : gm_M} (h : M.1.cls = RX7) : gm_fp M 21 9 3 (.object "NeedleBakery$Change") := ⟨RX7, TX7, 6, tyX7, rfl, uw_X7, by decide, tyX7_ok, nmX7, by decide +kernel, Or.inl ⟨by rw [h]; exact gm_in (i := 318) (by decide +kernel) (by decide +kernel), Or.inl rfl⟩⟩
theorem fl_X7_24 {M : gm_M} (h : M.1.cls = RX7) : gm_fl M 24 9 4 := ⟨RX7, TX7, 6, rfl, uw_X7, by decide, Or.inl (by rw [h]; exact gm_in (i := 320) (by decide +kernel) (by decide +kernel))⟩
theorem fp_X7_24 {M : gm_M} (h : M.1.cls = RX7) (hi : M.1.name = "<init>") : gm_fp M 24 9 4 (.array .int) := ⟨RX7, TX7, 6, tyX7, rfl, uw_X7, by decide, tyX7_ok, nmX7, by decide +kernel, Or.inl ⟨by rw [h]; exact gm_in (i := 320) (by decide +kernel) (by decide +kernel), Or.inr ⟨rfl, hi, by rw [h]; rfl⟩⟩⟩
theorem fl_X7_67 {M : gm_M} (h : M.1.cls = RX7) : gm_fl M 67 9 5 := ⟨RX7, TX7, 6, rfl, uw_X7, by decide, Or.inl (by rw [h]; exact gm_in (i := 322) (by decide +kernel) (by decide +kernel))⟩
theorem fp_X7_67 {M : gm_M} (h : M.1.cls = RX7) : gm_fp M 67 9 5 .int := ⟨RX7, TX7, 6, tyX7, rfl, uw_X7, by decide, tyX7_ok, nmX7, by decide +kernel, Or.inl ⟨by rw [h]; exact gm_in (i := 322) (by decide +kernel) (by decide +kernel), Or.inl rfl⟩⟩
theorem fl_X10_10 {M : gm_M} (h : M.1.cls = RX10) : gm_fl M 10 11 0 := ⟨RX10, TX10, 11, rfl, uw_X10, by decide, Or.inl (by rw [h]; exact gm_in (i := 337) (by decide +kernel) (by decide +kernel))⟩
theorem fp_X10_10 {M : gm_M} (h : M.1.cls = RX10) (hi : M.1.name = "<init>") : gm_fp M 10 11 0 (.object "NeedleBakery$State") := ⟨RX10, TX10, 11, tyX10, rfl, uw_X10, by decide, tyX10_ok, nmX10, by decide +kernel, Or.inl ⟨by rw [h]; exact gm_in (i := 337) (by decide +kernel) (by decide +kernel), Or.inr ⟨rfl, hi, by rw [h]; rfl⟩⟩⟩
theorem fl_X10_16 {M : gm_M} (h : M.1.cls = RX10) : gm_fl M 16 11 1 := ⟨RX10, TX10, 11, rfl, uw_X10, by decide, Or.inl (by rw [h]; exact gm_in (i := 338) (by decide +kernel) (by decide +kernel))⟩
theorem fp_X10_16 {M : gm_M} (h : M.1.cls = RX10) (hi : M.1.name = "<init>") : gm_fp M 16 11 1 (.object "NeedleBakery$State") := ⟨RX10, TX10, 11, tyX10, rfl, uw_X10, by decide, tyX10_ok, nmX10, by decide +kernel, Or.inl ⟨by rw [h]; exact gm_in (i := 338) (by decide +kernel) (by decide +kernel), Or.inr ⟨rfl, hi, by rw [h]; rfl⟩⟩⟩
theorem fl_X10_343 {M : gm_M} (h : M.1.cls = RX10) : gm_fl M 343 11 2 := ⟨RX10, TX10, 11, rfl, uw_X10, by decide, Or.inl (by rw [h]; exact gm_in (i := 339) (by decide +kernel) (by decide +kernel))⟩
theorem fp_X10_343 {M : gm_M} (h : M.1.cls = RX10) : gm_fp M 343 11 2 .boolean := ⟨RX10, TX10, 11, tyX10, rfl, uw_X10, by decide, tyX10_ok, nmX10, by decide +kernel, Or.inl ⟨by rw [h]; exact gm_in (i := 339) (by decide +kernel) (by decide +kernel), Or.inl rfl⟩⟩
theorem fl_X10_22 {M : gm_M} (h : M.1.cls = RX10) : gm_fl M 22 11 3 := ⟨RX10, TX10, 11, rfl, uw_X10, by decide, Or.inl (by rw [h]; exact gm_in (i := 340) (by decide +kernel) (by decide +kernel))⟩
theorem fp_X10_22 {M : gm_M} (h : M.1.cls = RX10) (hi : M.1.name = "<init>") : gm_fp M 22 11 3 (.object "NeedleBakery$History") := ⟨RX10, TX10, 11, tyX10, rfl, uw_X10, by decide, tyX10_ok, nmX10, by decide +kernel, Or.inl ⟨by rw [h]; exact gm_in (i := 340) (by decide +kernel) (by decide +kernel), Or.inr ⟨rfl, hi, by rw [h]; rfl⟩⟩⟩
theorem fl_X10_29 {M : gm_M} (h : M.1.cls = RX10) : gm_fl M 29 11 4 := ⟨RX10, TX10, 11, rfl, uw_X10, by decide, Or.inl (by rw [h]; exact gm_in (i := 341) (by decide +kernel) (by decide +kernel))⟩
theorem fp_X10_29 {M : gm_M} (h : M.1.cls = RX10) (hi : M.1.name = "<init>") : gm_fp M 29 11 4 (.object "NeedleBakery$Pairs") := ⟨RX10, TX10, 11, tyX10, rfl, uw_X10, by decide, tyX10_ok, nmX10, by decide +kernel, Or.inl ⟨by rw [h]; exact gm_in (i := 341) (by decide +kernel) (by decide +kernel), Or.inr ⟨rfl, hi, by rw [h]; rfl⟩⟩⟩
theorem fl_X10_36 {M : gm_M} (h : M.1.cls = RX10) : gm_fl M 36 11 5 := ⟨RX10, TX10, 11, rfl, uw_X10, by decide, Or.inl (by rw [h]; exact gm_in (i := 342) (by decide +kernel) (by decide +kernel))⟩
theorem fp_X10_36 {M : gm_M} (h : M.1.cls = RX10) (hi : M.1.name = "<init>") : gm_fp M 36 11 5 (.object "NeedleBakery$Orders") := ⟨RX10, TX10, 11, tyX10, rfl, uw_X10, by decide, tyX10_ok, nmX10, by decide +kernel, Or.inl ⟨by rw [h]; exact gm_in (i := 342) (by decide +kernel) (by decide +kernel), Or.inr ⟨rfl, hi, by rw [h]; rfl⟩⟩⟩
theorem fl_X10_40 {M : gm_M} (h : M.1.cls = RX10) : gm_fl M 40 11 6 := ⟨RX10, TX10, 11, rfl, uw_X10, by decide, Or.inl (by rw [h]; exact gm_in (i := 343) (by decide +kernel) (by decide +kernel))⟩
theorem fp_X10_40 {M : gm_M} (h : M.1.cls = RX10) (hi : M.1.name = "<init>") : gm_fp M 40 11 6 (.array .int) := ⟨RX10, TX10, 11, tyX10, rfl, uw_X10, by decide, tyX10_ok, nmX10, by decide +kernel, Or.inl ⟨by rw [h]; exact gm_in (i := 343) (by decide +kernel) (by decide +kernel), Or.inr ⟨rfl, hi, by rw [h]; rfl⟩⟩⟩
theorem fl_X10_47 {M : gm_M} (h : M.1.cls = RX10) : gm_fl M 47 11 7 := ⟨RX10, TX10, 11, rfl, uw_X10, by decide, Or.inl (by rw [h]; exact gm_in (i := 344) (by decide +kernel) (by decide +kernel))⟩
theorem fp_X10_47 {M : gm_M} (h : M.1.cls = RX10) (hi : M.1.name = "<init>") : gm_fp M 47 11 7 (.object "java/lang/StringBuilder") := ⟨RX10, TX10, 11, tyX10, rfl, uw_X10, by decide, tyX10_ok, nmX10, by decide +kernel, Or.inl ⟨by rw [h]; exact gm_in (i := 344) (by decide +kernel) (by decide +kernel), Or.inr ⟨rfl, hi, by rw [h]; rfl⟩⟩⟩
theorem fl_X10_54 {M : gm_M} (h : M.1.cls = RX10) : gm_fl M 54 11 8 := ⟨RX10, TX10, 11, rfl, uw_X10, by decide, Or.inl (by rw [h]; exact gm_in (i := 345) (by decide +kernel) (by decide +kernel))⟩
theorem fp_X10_54 {M : gm_M} (h : M.1.cls = RX10) (hi : M.1.name = "<init>") : gm_fp M 54 11 8 (.object "NeedleBakery$Program") := ⟨RX10, TX10, 11, tyX10, rfl, uw_X10, by decide, tyX10_ok, nmX10, by decide +kernel, Or.inl ⟨by rw [h]; exact gm_in (i := 345) (by decide +kernel) (by decide +kernel), Or.inr ⟨rfl, hi, by rw [h]; rfl⟩⟩⟩
theorem fl_X10_58 {M : gm_M} (h : M.1.cls = RX10) : gm_fl M 58 11 9 := ⟨RX10, TX10, 11, rfl, uw_X10, by decide, Or.inl (by rw [h]; exact gm_in (i := 346) (by decide +kernel) (by decide +kernel))⟩
theorem fp_X10_58 {M : gm_M} (h : M.1.cls = RX10) : gm_fp M 58 11 9 .int := ⟨RX10, TX10, 11, tyX10, rfl, uw_X10, by decide, tyX10_ok, nmX10, by decide +kernel, Or.inl ⟨by rw [h]; exact gm_in (i := 346) (by decide +kernel) (by decide +kernel), Or.inl rfl⟩⟩
theorem fl_X10_62 {M : gm_M} (h : M.1.cls = RX10) : gm_fl M 62 11 10 := ⟨RX10, TX10, 11, rfl, uw_X10, by decide, Or.inl (by rw [h]; exact gm_in (i := 347) (by decide +kernel) (by decide +kernel))⟩
theorem fp_X10_62 {M : gm_M} (h : M.1.cls = RX10) : gm_fp M 62 11 10 .int := ⟨RX10, TX10, 11, tyX10, rfl, uw_X10, by decide, tyX10_ok, nmX10, by decide +kernel, Or.inl ⟨by rw [h]; exact gm_in (i := 347) (by decide +kernel) (by decide +kernel), Or.inl rfl⟩⟩
theorem fl_X11_7 {M : gm_M} (h : M.1.cls = RX11) : gm_fl M 7 15 0 := ⟨RX11, TX11, 1, rfl, uw_X11, by decide, Or.inl (by rw [h]; exact gm_in (i := 458) (by decide +kernel) (by decide +kernel))⟩
theorem fp_X11_7 {M : gm_M} (h : M.1.cls = RX11) : gm_fp M 7 15 0 .int := ⟨RX11, TX11, 1, tyX11, rfl, uw_X11, by decide, tyX11_ok, nmX11, by decide +kernel, Or.inl ⟨by rw [h]; exact gm_in (i := 458) (by decide +kernel) (by decide +kernel), Or.inl rfl⟩⟩
theorem sl_X10_65 {M : gm_M} (h : M.1.cls = RX10) : gm_sl M 65 "NeedleBakery$Change" "NEEDLE" "LNeedleBakery$Change;" := Or.inl (by rw [h]; exact gm_in (i := 479) (by decide +kernel) (by decide +kernel))
theorem sl_X9_32 {M : gm_M} (h : M.1.cls = RX9) : gm_sl M 32 "NeedleBakery$1" "$SwitchMap$NeedleBakery$Change" "[I" := Or.inl (by rw [h]; exact gm_in (i := 488) (by decide +kernel) (by decide +kernel))
theorem sl_X3_53 {M : gm_M} (h : M.1.cls = RX3) : gm_sl M 53 "NeedleBakery$Refusal" "OUT_OF_RANGE" "LNeedleBakery$Refusal;" := Or.inl (by rw [h]; exact gm_in (i := 500) (by decide +kernel) (by decide +kernel))
theorem sl_X3_59 {M : gm_M} (h : M.1.cls = RX3) : gm_sl M 59 "NeedleBakery$Refusal" "NO_ROOM" "LNeedleBakery$Refusal;" := Or.inl (by rw [h]; exact gm_in (i := 502) (by decide +kernel) (by decide +kernel))
theorem sl_X3_62 {M : gm_M} (h : M.1.cls = RX3) : gm_sl M 62 "NeedleBakery$Refusal" "NONE" "LNeedleBakery$Refusal;" := Or.inl (by rw [h]; exact gm_in (i := 504) (by decide +kernel) (by decide +kernel))
theorem sl_X3_68 {M : gm_M} (h : M.1.cls = RX3) : gm_sl M 68 "NeedleBakery$Refusal" "NO_NEEDLE" "LNeedleBakery$Refusal;" := Or.inl (by rw [h]; exact gm_in (i := 514) (by decide +kernel) (by decide +kernel))
theorem sl_X3_71 {M : gm_M} (h : M.1.cls = RX3) : gm_sl M 71 "NeedleBakery$Refusal" "DISCARDED" "LNeedleBakery$Refusal;" := Or.inl (by rw [h]; exact gm_in (i := 516) (by decide +kernel) (by decide +kernel))
theorem sl_X3_82 {M : gm_M} (h : M.1.cls = RX3) : gm_sl M 82 "NeedleBakery$Refusal" "OFF_TABLE" "LNeedleBakery$Refusal;" := Or.inl (by rw [h]; exact gm_in (i := 526) (by decide +kernel) (by decide +kernel))
theorem sl_X9_66 {M : gm_M} (h : M.1.cls = RX9) : gm_sl M 66 "NeedleBakery$Refusal" "OUT_OF_RANGE" "LNeedleBakery$Refusal;" := Or.inl (by rw [h]; exact gm_in (i := 542) (by decide +kernel) (by decide +kernel))
theorem sl_X9_72 {M : gm_M} (h : M.1.cls = RX9) : gm_sl M 72 "NeedleBakery$Refusal" "NONE" "LNeedleBakery$Refusal;" := Or.inl (by rw [h]; exact gm_in (i := 543) (by decide +kernel) (by decide +kernel))
theorem sl_X5_54 {M : gm_M} (h : M.1.cls = RX5) : gm_sl M 54 "NeedleBakery$Refusal" "OUT_OF_RANGE" "LNeedleBakery$Refusal;" := Or.inl (by rw [h]; exact gm_in (i := 549) (by decide +kernel) (by decide +kernel))
theorem sl_X5_60 {M : gm_M} (h : M.1.cls = RX5) : gm_sl M 60 "NeedleBakery$Refusal" "NO_ROOM" "LNeedleBakery$Refusal;" := Or.inl (by rw [h]; exact gm_in (i := 550) (by decide +kernel) (by decide +kernel))
theorem sl_X5_63 {M : gm_M} (h : M.1.cls = RX5) : gm_sl M 63 "NeedleBakery$Refusal" "NONE" "LNeedleBakery$Refusal;" := Or.inl (by rw [h]; exact gm_in (i := 551) (by decide +kernel) (by decide +kernel))
theorem sl_X9_81 {M : gm_M} (h : M.1.cls = RX9) : gm_sl M 81 "NeedleBakery$Refusal" "NO_BATCH" "LNeedleBakery$Refusal;" := Or.inl (by rw [h]; exact gm_in (i := 556) (by decide +kernel) (by decide +kernel))
theorem sl_X10_389 {M : gm_M} (h : M.1.cls = RX10) : gm_sl M 389 "NeedleBakery$1" "$SwitchMap$NeedleBakery$Refusal" "[I" := Or.inl (by rw [h]; exact gm_in (i := 561) (by decide +kernel) (by decide +kernel))
theorem sl_X10_75 {M : gm_M} (h : M.1.cls = RX10) : gm_sl M 75 "NeedleBakery$Change" "SET" "LNeedleBakery$Change;" := Or.inl (by rw [h]; exact gm_in (i := 804) (by decide +kernel) (by decide +kernel))
theorem sl_X10_78 {M : gm_M} (h : M.1.cls = RX10) : gm_sl M 78 "NeedleBakery$Change" "SHIFT" "LNeedleBakery$Change;" := Or.inl (by rw [h]; exact gm_in (i := 814) (by decide +kernel) (by decide +kernel))
theorem sl_X10_81 {M : gm_M} (h : M.1.cls = RX10) : gm_sl M 81 "NeedleBakery$Change" "CORRECT" "LNeedleBakery$Change;" := Or.inl (by rw [h]; exact gm_in (i := 823) (by decide +kernel) (by decide +kernel))
theorem sl_X10_84 {M : gm_M} (h : M.1.cls = RX10) : gm_sl M 84 "NeedleBakery$Change" "DISCARD" "LNeedleBakery$Change;" := Or.inl (by rw [h]; exact gm_in (i := 832) (by decide +kernel) (by decide +kernel))
theorem sl_X10_87 {M : gm_M} (h : M.1.cls = RX10) : gm_sl M 87 "NeedleBakery$Change" "LIMIT" "LNeedleBakery$Change;" := Or.inl (by rw [h]; exact gm_in (i := 841) (by decide +kernel) (by decide +kernel))
theorem sl_X10_382 {M : gm_M} (h : M.1.cls = RX10) : gm_sl M 382 "NeedleBakery$Refusal" "NO_NEEDLE" "LNeedleBakery$Refusal;" := Or.inl (by rw [h]; exact gm_in (i := 902) (by decide +kernel) (by decide +kernel))
theorem sl_X10_192 {M : gm_M} (h : M.1.cls = RX10) : gm_sl M 192 "NeedleBakery$Change" "BATCH" "LNeedleBakery$Change;" := Or.inl (by rw [h]; exact gm_in (i := 916) (by decide +kernel) (by decide +kernel))
theorem sl_X10_195 {M : gm_M} (h : M.1.cls = RX10) : gm_sl M 195 "NeedleBakery$Change" "DROP" "LNeedleBakery$Change;" := Or.inl (by rw [h]; exact gm_in (i := 925) (by decide +kernel) (by decide +kernel))
theorem sl_X10_198 {M : gm_M} (h : M.1.cls = RX10) : gm_sl M 198 "NeedleBakery$Change" "BAKE" "LNeedleBakery$Change;" := Or.inl (by rw [h]; exact gm_in (i := 934) (by decide +kernel) (by decide +kernel))
theorem sl_X10_201 {M : gm_M} (h : M.1.cls = RX10) : gm_sl M 201 "NeedleBakery$Change" "REST" "LNeedleBakery$Change;" := Or.inl (by rw [h]; exact gm_in (i := 943) (by decide +kernel) (by decide +kernel))
theorem sl_J0_1053 {M : gm_M} (h : M.1.cls = RJ0) : gm_sl M 1053 "jdk/internal/util/Preconditions" "SIOOBE_FORMATTER" "Ljava/util/function/BiFunction;" := Or.inl (by rw [h]; exact gm_in (i := 1048) (by decide +kernel) (by decide +kernel))
theorem sl_J2_44 {M : gm_M} (h : M.1.cls = RJ2) : gm_sl M 44 "java/lang/StringUTF16" "$assertionsDisabled" "Z" := Or.inl (by rw [h]; exact gm_in (i := 1056) (by decide +kernel) (by decide +kernel))
theorem sl_J2_59 {M : gm_M} (h : M.1.cls = RJ2) : gm_sl M 59 "java/lang/StringUTF16" "HI_BYTE_SHIFT" "I" := Or.inl (by rw [h]; exact gm_in (i := 1058) (by decide +kernel) (by decide +kernel))
theorem sl_J2_63 {M : gm_M} (h : M.1.cls = RJ2) : gm_sl M 63 "java/lang/StringUTF16" "LO_BYTE_SHIFT" "I" := Or.inl (by rw [h]; exact gm_in (i := 1060) (by decide +kernel) (by decide +kernel))
theorem sl_J0_38 {M : gm_M} (h : M.1.cls = RJ0) : gm_sl M 38 "java/lang/String" "COMPACT_STRINGS" "Z" := Or.inl (by rw [h]; exact gm_in (i := 1070) (by decide +kernel) (by decide +kernel))
theorem sl_J6_83 {M : gm_M} (h : M.1.cls = RJ6) : gm_sl M 83 "java/lang/Integer" "DigitOnes" "[B" := Or.inl (by rw [h]; exact gm_in (i := 1118) (by decide +kernel) (by decide +kernel))
theorem sl_J6_87 {M : gm_M} (h : M.1.cls = RJ6) : gm_sl M 87 "java/lang/Integer" "DigitTens" "[B" := Or.inl (by rw [h]; exact gm_in (i := 1120) (by decide +kernel) (by decide +kernel))
theorem sl_J2_403 {M : gm_M} (h : M.1.cls = RJ2) : gm_sl M 403 "java/lang/Integer" "DigitOnes" "[B" := Or.inl (by rw [h]; exact gm_in (i := 1128) (by decide +kernel) (by decide +kernel))
theorem sl_J2_407 {M : gm_M} (h : M.1.cls = RJ2) : gm_sl M 407 "java/lang/Integer" "DigitTens" "[B" := Or.inl (by rw [h]; exact gm_in (i := 1129) (by decide +kernel) (by decide +kernel))
theorem fl_J0_9 {M : gm_M} (h : M.1.cls = RJ0) : gm_fl M 9 0 0 := ⟨RJ0, TJ0, 4, rfl, uw_J0, by decide, Or.inl (by rw [h]; exact gm_in (i := 1186) (by decide +kernel) (by decide +kernel))⟩
theorem fp_J0_9 {M : gm_M} (h : M.1.cls = RJ0) (hi : M.1.name = "<init>") : gm_fp M 9 0 0 (.array .byte) := ⟨RJ0, TJ0, 4, tyJ0, rfl, uw_J0, by decide, tyJ0_ok, nmJ0, by decide +kernel, Or.inl ⟨by rw [h]; exact gm_in (i := 1186) (by decide +kernel) (by decide +kernel), Or.inr ⟨rfl, hi, by rw [h]; rfl⟩⟩⟩
theorem fl_J0_15 {M : gm_M} (h : M.1.cls = RJ0) : gm_fl M 15 0 1 := ⟨RJ0, TJ0, 4, rfl, uw_J0, by decide, Or.inl (by rw [h]; exact gm_in (i := 1187) (by decide +kernel) (by decide +kernel))⟩
theorem fp_J0_15 {M : gm_M} (h : M.1.cls = RJ0) (hi : M.1.name = "<init>") : gm_fp M 15 0 1 .byte := ⟨RJ0, TJ0, 4, tyJ0, rfl, uw_J0, by decide, tyJ0_ok, nmJ0, by decide +kernel, Or.inl ⟨by rw [h]; exact gm_in (i := 1187) (by decide +kernel) (by decide +kernel), Or.inr ⟨rfl, hi, by rw [h]; rfl⟩⟩⟩
theorem sl_X10_373 {M : gm_M} (h : M.1.cls = RX10) : gm_sl M 373 "NeedleBakery$Refusal" "NONE" "LNeedleBakery$Refusal;" := Or.inl (by rw [h]; exact gm_in (i := 1356) (by decide +kernel) (by decide +kernel))
theorem sl_J13_133 {M : gm_M} (h : M.1.cls = RJ13) : gm_sl M 133 "java/lang/Integer" "DigitOnes" "[B" := Or.inl (by rw [h]; exact gm_in (i := 1483) (by decide +kernel) (by decide +kernel))
theorem sl_J13_137 {M : gm_M} (h : M.1.cls = RJ13) : gm_sl M 137 "java/lang/Integer" "DigitTens" "[B" := Or.inl (by rw [h]; exact gm_in (i := 1484) (by decide +kernel) (by decide +kernel))
theorem sl_Jx4a65c_39 {M : gm_M} (h : M.1.cls = RJx4a65c) : gm_sl M 39 "java/util/ArrayList" "DEFAULTCAPACITY_EMPTY_ELEMENTDATA" "[Ljava/lang/Object;" := Or.inl (by rw [h]; exact gm_in (i := 1671) (by decide +kernel) (by decide +kernel))
theorem fl_Jx4a65c_9 {M : gm_M} (h : M.1.cls = RJx4a65c) : gm_fl M 9 13 1 := ⟨RJx4a65c, TJx4a65c, 3, rfl, uw_Jx4a65c, by decide, Or.inl (by rw [h]; exact gm_in (i := 1673) (by decide +kernel) (by decide +kernel))⟩
theorem fp_Jx4a65c_9 {M : gm_M} (h : M.1.cls = RJx4a65c) : gm_fp M 9 13 1 (.array (.object "java/lang/Object")) := ⟨RJx4a65c, TJx4a65c, 3, tyJx4a65c, rfl, uw_Jx4a65c, by decide, tyJx4a65c_ok, nmJx4a65c, by decide +kernel, Or.inl ⟨by rw [h]; exact gm_in (i := 1673) (by decide +kernel) (by decide +kernel), Or.inl rfl⟩⟩
theorem fl_Jx35411_37 {M : gm_M} (h : M.1.cls = RJx35411) : gm_fl M 37 13 1 := ⟨RJx4a65c, TJx4a65c, 3, rfl, uw_Jx4a65c, by decide, Or.inl (by rw [h]; exact gm_in (i := 1674) (by decide +kernel) (by decide +kernel))⟩
theorem fp_Jx35411_37 {M : gm_M} (h : M.1.cls = RJx35411) : gm_fp M 37 13 1 (.array (.object "java/lang/Object")) := ⟨RJx4a65c, TJx4a65c, 3, tyJx4a65c, rfl, uw_Jx4a65c, by decide, tyJx4a65c_ok, nmJx4a65c, by decide +kernel, Or.inl ⟨by rw [h]; exact gm_in (i := 1674) (by decide +kernel) (by decide +kernel), Or.inl rfl⟩⟩
theorem fl_Jx4a65c_48 {M : gm_M} (h : M.1.cls = RJx4a65c) : gm_fl M 48 13 2 := ⟨RJx4a65c, TJx4a65c, 3, rfl, uw_Jx4a65c, by decide, Or.inl (by rw [h]; exact gm_in (i := 1676) (by decide +kernel) (by decide +kernel))⟩
theorem fp_Jx4a65c_48 {M : gm_M} (h : M.1.cls = RJx4a65c) : gm_fp M 48 13 2 .int := ⟨RJx4a65c, TJx4a65c, 3, tyJx4a65c, rfl, uw_Jx4a65c, by decide, tyJx4a65c_ok, nmJx4a65c, by decide +kernel, Or.inl ⟨by rw [h]; exact gm_in (i := 1676) (by decide +kernel) (by decide +kernel), Or.inl rfl⟩⟩
theorem fl_Jxc12de_7 {M : gm_M} (h : M.1.cls = RJxc12de) : gm_fl M 7 13 0 := ⟨RJx4a65c, TJx4a65c, 3, rfl, uw_Jx4a65c, by decide, Or.inl (by rw [h]; exact gm_in (i := 1677) (by decide +kernel) (by decide +kernel))⟩
theorem fp_Jxc12de_7 {M : gm_M} (h : M.1.cls = RJxc12de) : gm_fp M 7 13 0 .int := ⟨RJx4a65c, TJx4a65c, 3, tyJx4a65c, rfl, uw_Jx4a65c, by decide, tyJx4a65c_ok, nmJx4a65c, by decide +kernel, Or.inl ⟨by rw [h]; exact gm_in (i := 1677) (by decide +kernel) (by decide +kernel), Or.inl rfl⟩⟩
theorem sl_Jx35411_17 {M : gm_M} (h : M.1.cls = RJx35411) : gm_sl M 17 "java/util/ArrayList" "modCount" "I" := Or.inl (by rw [h]; exact gm_in (i := 1678) (by decide +kernel) (by decide +kernel))
theorem sl_Jx4a65c_63 {M : gm_M} (h : M.1.cls = RJx4a65c) : gm_sl M 63 "java/util/ArrayList" "modCount" "I" := Or.inl (by rw [h]; exact gm_in (i := 1680) (by decide +kernel) (by decide +kernel))
theorem sl_J6_191 {M : gm_M} (h : M.1.cls = RJ6) : gm_sl M 191 "java/lang/Integer$IntegerCache" "high" "I" := Or.inl (by rw [h]; exact gm_in (i := 1694) (by decide +kernel) (by decide +kernel))
theorem sl_J6_195 {M : gm_M} (h : M.1.cls = RJ6) : gm_sl M 195 "java/lang/Integer$IntegerCache" "cache" "[Ljava/lang/Integer;" := Or.inl (by rw [h]; exact gm_in (i := 1696) (by decide +kernel) (by decide +kernel))
theorem fl_J6_205 {M : gm_M} (h : M.1.cls = RJ6) : gm_fl M 205 12 0 := ⟨RJ6, TJ6, 1, rfl, uw_J6, by decide, Or.inl (by rw [h]; exact gm_in (i := 1707) (by decide +kernel) (by decide +kernel))⟩
theorem fp_J6_205 {M : gm_M} (h : M.1.cls = RJ6) (hi : M.1.name = "<init>") : gm_fp M 205 12 0 .int := ⟨RJ6, TJ6, 1, tyJ6, rfl, uw_J6, by decide, tyJ6_ok, nmJ6, by decide +kernel, Or.inl ⟨by rw [h]; exact gm_in (i := 1707) (by decide +kernel) (by decide +kernel), Or.inr ⟨rfl, hi, by rw [h]; rfl⟩⟩⟩
theorem sl_Jx2f0ea_37 {M : gm_M} (h : M.1.cls = RJx2f0ea) : gm_sl M 37 "java/util/ComparableTimSort" "$assertionsDisabled" "Z" := Or.inl (by rw [h]; exact gm_in (i := 1794) (by decide +kernel) (by decide +kernel))
theorem sl_J8_126 {M : gm_M} (h : M.1.cls = RJ8) : gm_sl M 126 "jdk/internal/misc/Unsafe" "ARRAY_BYTE_BASE_OFFSET" "I" := Or.inl (by rw [h]; exact gm_in (i := 1860) (by decide +kernel) (by decide +kernel))
theorem sl_J8_129 {M : gm_M} (h : M.1.cls = RJ8) : gm_sl M 129 "jdk/internal/util/ArraysSupport" "LOG2_ARRAY_BYTE_INDEX_SCALE" "I" := Or.inl (by rw [h]; exact gm_in (i := 1862) (by decide +kernel) (by decide +kernel))
theorem sl_J8_20 {M : gm_M} (h : M.1.cls = RJ8) : gm_sl M 20 "jdk/internal/util/ArraysSupport" "LOG2_ARRAY_LONG_INDEX_SCALE" "I" := Or.inl (by rw [h]; exact gm_in (i := 1867) (by decide +kernel) (by decide +kernel))
theorem sl_J8_26 {M : gm_M} (h : M.1.cls = RJ8) : gm_sl M 26 "jdk/internal/util/ArraysSupport" "U" "Ljdk/internal/misc/Unsafe;" := Or.inl (by rw [h]; exact gm_in (i := 1869) (by decide +kernel) (by decide +kernel))
theorem sl_Jx9a822_351 {M : gm_M} (h : M.1.cls = RJx9a822) : gm_sl M 351 "jdk/internal/misc/UnsafeConstants" "BIG_ENDIAN" "Z" := Or.inl (by rw [h]; exact gm_in (i := 1896) (by decide +kernel) (by decide +kernel))
theorem sl_J8_36 {M : gm_M} (h : M.1.cls = RJ8) : gm_sl M 36 "jdk/internal/util/ArraysSupport" "BIG_ENDIAN" "Z" := Or.inl (by rw [h]; exact gm_in (i := 1923) (by decide +kernel) (by decide +kernel))
theorem sl_J8_46 {M : gm_M} (h : M.1.cls = RJ8) : gm_sl M 46 "jdk/internal/util/ArraysSupport" "LOG2_BYTE_BIT_SIZE" "I" := Or.inl (by rw [h]; exact gm_in (i := 1932) (by decide +kernel) (by decide +kernel))
theorem sl_J8_51 {M : gm_M} (h : M.1.cls = RJ8) : gm_sl M 51 "jdk/internal/util/ArraysSupport" "LOG2_ARRAY_INT_INDEX_SCALE" "I" := Or.inl (by rw [h]; exact gm_in (i := 1940) (by decide +kernel) (by decide +kernel))
theorem fl_Jx2f0ea_16 {M : gm_M} (h : M.1.cls = RJx2f0ea) : gm_fl M 16 14 0 := ⟨RJx2f0ea, TJx2f0ea, 8, rfl, uw_Jx2f0ea, by decide, Or.inl (by rw [h]; exact gm_in (i := 2033) (by decide +kernel) (by decide +kernel))⟩
theorem fp_Jx2f0ea_16 {M : gm_M} (h : M.1.cls = RJx2f0ea) (hi : M.1.name = "<init>") : gm_fp M 16 14 0 (.array (.object "java/lang/Object")) := ⟨RJx2f0ea, TJx2f0ea, 8, tyJx2f0ea, rfl, uw_Jx2f0ea, by decide, tyJx2f0ea_ok, nmJx2f0ea, by decide +kernel, Or.inl ⟨by rw [h]; exact gm_in (i := 2033) (by decide +kernel) (by decide +kernel), Or.inr ⟨rfl, hi, by rw [h]; rfl⟩⟩⟩
theorem fl_Jx2f0ea_9 {M : gm_M} (h : M.1.cls = RJx2f0ea) : gm_fl M 9 14 1 := ⟨RJx2f0ea, TJx2f0ea, 8, rfl, uw_Jx2f0ea, by decide, Or.inl (by rw [h]; exact gm_in (i := 2034) (by decide +kernel) (by decide +kernel))⟩
theorem fp_Jx2f0ea_9 {M : gm_M} (h : M.1.cls = RJx2f0ea) : gm_fp M 9 14 1 .int := ⟨RJx2f0ea, TJx2f0ea, 8, tyJx2f0ea, rfl, uw_Jx2f0ea, by decide, tyJx2f0ea_ok, nmJx2f0ea, by decide +kernel, Or.inl ⟨by rw [h]; exact gm_in (i := 2034) (by decide +kernel) (by decide +kernel), Or.inl rfl⟩⟩
theorem fl_Jx2f0ea_20 {M : gm_M} (h : M.1.cls = RJx2f0ea) : gm_fl M 20 14 2 := ⟨RJx2f0ea, TJx2f0ea, 8, rfl, uw_Jx2f0ea, by decide, Or.inl (by rw [h]; exact gm_in (i := 2035) (by decide +kernel) (by decide +kernel))⟩
theorem fp_Jx2f0ea_20 {M : gm_M} (h : M.1.cls = RJx2f0ea) : gm_fp M 20 14 2 (.array (.object "java/lang/Object")) := ⟨RJx2f0ea, TJx2f0ea, 8, tyJx2f0ea, rfl, uw_Jx2f0ea, by decide, tyJx2f0ea_ok, nmJx2f0ea, by decide +kernel, Or.inl ⟨by rw [h]; exact gm_in (i := 2035) (by decide +kernel) (by decide +kernel), Or.inl rfl⟩⟩
theorem fl_Jx2f0ea_23 {M : gm_M} (h : M.1.cls = RJx2f0ea) : gm_fl M 23 14 3 := ⟨RJx2f0ea, TJx2f0ea, 8, rfl, uw_Jx2f0ea, by decide, Or.inl (by rw [h]; exact gm_in (i := 2036) (by decide +kernel) (by decide +kernel))⟩
theorem fp_Jx2f0ea_23 {M : gm_M} (h : M.1.cls = RJx2f0ea) : gm_fp M 23 14 3 .int := ⟨RJx2f0ea, TJx2f0ea, 8, tyJx2f0ea, rfl, uw_Jx2f0ea, by decide, tyJx2f0ea_ok, nmJx2f0ea, by decide +kernel, Or.inl ⟨by rw [h]; exact gm_in (i := 2036) (by decide +kernel) (by decide +kernel), Or.inl rfl⟩⟩
theorem fl_Jx2f0ea_26 {M : gm_M} (h : M.1.cls = RJx2f0ea) : gm_fl M 26 14 4 := ⟨RJx2f0ea, TJx2f0ea, 8, rfl, uw_Jx2f0ea, by decide, Or.inl (by rw [h]; exact gm_in (i := 2037) (by decide +kernel) (by decide +kernel))⟩
theorem fp_Jx2f0ea_26 {M : gm_M} (h : M.1.cls = RJx2f0ea) : gm_fp M 26 14 4 .int := ⟨RJx2f0ea, TJx2f0ea, 8, tyJx2f0ea, rfl, uw_Jx2f0ea, by decide, tyJx2f0ea_ok, nmJx2f0ea, by decide +kernel, Or.inl ⟨by rw [h]; exact gm_in (i := 2037) (by decide +kernel) (by decide +kernel), Or.inl rfl⟩⟩
theorem fl_Jx2f0ea_13 {M : gm_M} (h : M.1.cls = RJx2f0ea) : gm_fl M 13 14 5 := ⟨RJx2f0ea, TJx2f0ea, 8, rfl, uw_Jx2f0ea, by decide, Or.inl (by rw [h]; exact gm_in (i := 2038) (by decide +kernel) (by decide +kernel))⟩
theorem fp_Jx2f0ea_13 {M : gm_M} (h : M.1.cls = RJx2f0ea) : gm_fp M 13 14 5 .int := ⟨RJx2f0ea, TJx2f0ea, 8, tyJx2f0ea, rfl, uw_Jx2f0ea, by decide, tyJx2f0ea_ok, nmJx2f0ea, by decide +kernel, Or.inl ⟨by rw [h]; exact gm_in (i := 2038) (by decide +kernel) (by decide +kernel), Or.inl rfl⟩⟩
theorem fl_Jx2f0ea_30 {M : gm_M} (h : M.1.cls = RJx2f0ea) : gm_fl M 30 14 6 := ⟨RJx2f0ea, TJx2f0ea, 8, rfl, uw_Jx2f0ea, by decide, Or.inl (by rw [h]; exact gm_in (i := 2039) (by decide +kernel) (by decide +kernel))⟩
theorem fp_Jx2f0ea_30 {M : gm_M} (h : M.1.cls = RJx2f0ea) (hi : M.1.name = "<init>") : gm_fp M 30 14 6 (.array .int) := ⟨RJx2f0ea, TJx2f0ea, 8, tyJx2f0ea, rfl, uw_Jx2f0ea, by decide, tyJx2f0ea_ok, nmJx2f0ea, by decide +kernel, Or.inl ⟨by rw [h]; exact gm_in (i := 2039) (by decide +kernel) (by decide +kernel), Or.inr ⟨rfl, hi, by rw [h]; rfl⟩⟩⟩
theorem fl_Jx2f0ea_34 {M : gm_M} (h : M.1.cls = RJx2f0ea) : gm_fl M 34 14 7 := ⟨RJx2f0ea, TJx2f0ea, 8, rfl, uw_Jx2f0ea, by decide, Or.inl (by rw [h]; exact gm_in (i := 2040) (by decide +kernel) (by decide +kernel))⟩
theorem fp_Jx2f0ea_34 {M : gm_M} (h : M.1.cls = RJx2f0ea) (hi : M.1.name = "<init>") : gm_fp M 34 14 7 (.array .int) := ⟨RJx2f0ea, TJx2f0ea, 8, tyJx2f0ea, rfl, uw_Jx2f0ea, by decide, tyJx2f0ea_ok, nmJx2f0ea, by decide +kernel, Or.inl ⟨by rw [h]; exact gm_in (i := 2040) (by decide +kernel) (by decide +kernel), Or.inr ⟨rfl, hi, by rw [h]; rfl⟩⟩⟩
theorem sl_Jxfee68_57 {M : gm_M} (h : M.1.cls = RJxfee68) : gm_sl M 57 "java/util/TimSort" "$assertionsDisabled" "Z" := Or.inl (by rw [h]; exact gm_in (i := 2103) (by decide +kernel) (by decide +kernel))
theorem sl_Jx29ce0_7 {M : gm_M} (h : M.1.cls = RJx29ce0) : gm_sl M 7 "java/lang/Enum" "ordinal" "I" := Or.inl (by rw [h]; exact gm_in (i := 2238) (by decide +kernel) (by decide +kernel))
theorem sl_Jx8ef59_1 {M : gm_M} (h : M.1.cls = RJx8ef59) : gm_sl M 1 "java/util/ArrayList$ListItr" "this$0" "Ljava/util/ArrayList;" := Or.inl (by rw [h]; exact gm_in (i := 2239) (by decide +kernel) (by decide +kernel))
theorem sl_Jx35411_1 {M : gm_M} (h : M.1.cls = RJx35411) : gm_sl M 1 "java/util/ArrayList$Itr" "this$0" "Ljava/util/ArrayList;" := Or.inl (by rw [h]; exact gm_in (i := 2240) (by decide +kernel) (by decide +kernel))
theorem sl_Jx35411_13 {M : gm_M} (h : M.1.cls = RJx35411) : gm_sl M 13 "java/util/ArrayList$Itr" "lastRet" "I" := Or.inl (by rw [h]; exact gm_in (i := 2241) (by decide +kernel) (by decide +kernel))
theorem sl_Jx35411_22 {M : gm_M} (h : M.1.cls = RJx35411) : gm_sl M 22 "java/util/ArrayList$Itr" "expectedModCount" "I" := Or.inl (by rw [h]; exact gm_in (i := 2242) (by decide +kernel) (by decide +kernel))
theorem sl_Jx8ef59_13 {M : gm_M} (h : M.1.cls = RJx8ef59) : gm_sl M 13 "java/util/ArrayList$ListItr" "cursor" "I" := Or.inl (by rw [h]; exact gm_in (i := 2243) (by decide +kernel) (by decide +kernel))
theorem sl_Jx35411_25 {M : gm_M} (h : M.1.cls = RJx35411) : gm_sl M 25 "java/util/ArrayList$Itr" "cursor" "I" := Or.inl (by rw [h]; exact gm_in (i := 2245) (by decide +kernel) (by decide +kernel))
theorem sl_Jx8ef59_34 {M : gm_M} (h : M.1.cls = RJx8ef59) : gm_sl M 34 "java/util/ArrayList$ListItr" "lastRet" "I" := Or.inl (by rw [h]; exact gm_in (i := 2246) (by decide +kernel) (by decide +kernel))
theorem fl_X6_65 {M : gm_M} (h : M.1.cls = RX6) : gm_fl M 65 5 0 := ⟨RX3, TX3, 5, rfl, uw_X3, by decide, Or.inr ⟨"NeedleBakery", by rw [h]; exact gm_in (i := 150) (by decide +kernel) (by decide +kernel)⟩⟩
theorem fp_X6_65 {M : gm_M} (h : M.1.cls = RX6) : gm_fp M 65 5 0 .int := ⟨RX3, TX3, 5, tyX3, rfl, uw_X3, by decide, tyX3_ok, nmX3, by decide +kernel, Or.inr ⟨rfl, "NeedleBakery", by rw [h]; exact gm_in (i := 150) (by decide +kernel) (by decide +kernel)⟩⟩
theorem fl_X10_94 {M : gm_M} (h : M.1.cls = RX10) : gm_fl M 94 5 0 := ⟨RX3, TX3, 5, rfl, uw_X3, by decide, Or.inr ⟨"NeedleBakery", by rw [h]; exact gm_in (i := 151) (by decide +kernel) (by decide +kernel)⟩⟩
theorem fp_X10_94 {M : gm_M} (h : M.1.cls = RX10) : gm_fp M 94 5 0 .int := ⟨RX3, TX3, 5, tyX3, rfl, uw_X3, by decide, tyX3_ok, nmX3, by decide +kernel, Or.inr ⟨rfl, "NeedleBakery", by rw [h]; exact gm_in (i := 151) (by decide +kernel) (by decide +kernel)⟩⟩
theorem fl_X9_105 {M : gm_M} (h : M.1.cls = RX9) : gm_fl M 105 5 1 := ⟨RX3, TX3, 5, rfl, uw_X3, by decide, Or.inr ⟨"NeedleBakery", by rw [h]; exact gm_in (i := 153) (by decide +kernel) (by decide +kernel)⟩⟩
theorem fp_X9_105 {M : gm_M} (h : M.1.cls = RX9) : gm_fp M 105 5 1 .int := ⟨RX3, TX3, 5, tyX3, rfl, uw_X3, by decide, tyX3_ok, nmX3, by decide +kernel, Or.inr ⟨rfl, "NeedleBakery", by rw [h]; exact gm_in (i := 153) (by decide +kernel) (by decide +kernel)⟩⟩
theorem fl_X10_113 {M : gm_M} (h : M.1.cls = RX10) : gm_fl M 113 5 1 := ⟨RX3, TX3, 5, rfl, uw_X3, by decide, Or.inr ⟨"NeedleBakery", by rw [h]; exact gm_in (i := 154) (by decide +kernel) (by decide +kernel)⟩⟩
theorem fp_X10_113 {M : gm_M} (h : M.1.cls = RX10) : gm_fp M 113 5 1 .int := ⟨RX3, TX3, 5, tyX3, rfl, uw_X3, by decide, tyX3_ok, nmX3, by decide +kernel, Or.inr ⟨rfl, "NeedleBakery", by rw [h]; exact gm_in (i := 154) (by decide +kernel) (by decide +kernel)⟩⟩
theorem fl_X6_52 {M : gm_M} (h : M.1.cls = RX6) : gm_fl M 52 5 3 := ⟨RX3, TX3, 5, rfl, uw_X3, by decide, Or.inr ⟨"NeedleBakery", by rw [h]; exact gm_in (i := 157) (by decide +kernel) (by decide +kernel)⟩⟩
theorem fl_X10_103 {M : gm_M} (h : M.1.cls = RX10) : gm_fl M 103 5 3 := ⟨RX3, TX3, 5, rfl, uw_X3, by decide, Or.inr ⟨"NeedleBakery", by rw [h]; exact gm_in (i := 158) (by decide +kernel) (by decide +kernel)⟩⟩
theorem fl_X4_21 {M : gm_M} (h : M.1.cls = RX4) : gm_fl M 21 7 0 := ⟨RX5, TX5, 10, rfl, uw_X5, by decide, Or.inr ⟨"NeedleBakery", by rw [h]; exact gm_in (i := 179) (by decide +kernel) (by decide +kernel)⟩⟩
theorem fp_X4_21 {M : gm_M} (h : M.1.cls = RX4) : gm_fp M 21 7 0 .int := ⟨RX5, TX5, 10, tyX5, rfl, uw_X5, by decide, tyX5_ok, nmX5, by decide +kernel, Or.inr ⟨rfl, "NeedleBakery", by rw [h]; exact gm_in (i := 179) (by decide +kernel) (by decide +kernel)⟩⟩
theorem fl_X9_124 {M : gm_M} (h : M.1.cls = RX9) : gm_fl M 124 7 0 := ⟨RX5, TX5, 10, rfl, uw_X5, by decide, Or.inr ⟨"NeedleBakery", by rw [h]; exact gm_in (i := 180) (by decide +kernel) (by decide +kernel)⟩⟩
theorem fp_X9_124 {M : gm_M} (h : M.1.cls = RX9) : gm_fp M 124 7 0 .int := ⟨RX5, TX5, 10, tyX5, rfl, uw_X5, by decide, tyX5_ok, nmX5, by decide +kernel, Or.inr ⟨rfl, "NeedleBakery", by rw [h]; exact gm_in (i := 180) (by decide +kernel) (by decide +kernel)⟩⟩
theorem fl_X10_208 {M : gm_M} (h : M.1.cls = RX10) : gm_fl M 208 7 0 := ⟨RX5, TX5, 10, rfl, uw_X5, by decide, Or.inr ⟨"NeedleBakery", by rw [h]; exact gm_in (i := 181) (by decide +kernel) (by decide +kernel)⟩⟩
theorem fp_X10_208 {M : gm_M} (h : M.1.cls = RX10) : gm_fp M 208 7 0 .int := ⟨RX5, TX5, 10, tyX5, rfl, uw_X5, by decide, tyX5_ok, nmX5, by decide +kernel, Or.inr ⟨rfl, "NeedleBakery", by rw [h]; exact gm_in (i := 181) (by decide +kernel) (by decide +kernel)⟩⟩
theorem fl_X4_15 {M : gm_M} (h : M.1.cls = RX4) : gm_fl M 15 7 1 := ⟨RX5, TX5, 10, rfl, uw_X5, by decide, Or.inr ⟨"NeedleBakery", by rw [h]; exact gm_in (i := 182) (by decide +kernel) (by decide +kernel)⟩⟩
theorem fp_X4_15 {M : gm_M} (h : M.1.cls = RX4) : gm_fp M 15 7 1 .int := ⟨RX5, TX5, 10, tyX5, rfl, uw_X5, by decide, tyX5_ok, nmX5, by decide +kernel, Or.inr ⟨rfl, "NeedleBakery", by rw [h]; exact gm_in (i := 182) (by decide +kernel) (by decide +kernel)⟩⟩
theorem fl_X9_118 {M : gm_M} (h : M.1.cls = RX9) : gm_fl M 118 7 1 := ⟨RX5, TX5, 10, rfl, uw_X5, by decide, Or.inr ⟨"NeedleBakery", by rw [h]; exact gm_in (i := 184) (by decide +kernel) (by decide +kernel)⟩⟩
theorem fp_X9_118 {M : gm_M} (h : M.1.cls = RX9) : gm_fp M 118 7 1 .int := ⟨RX5, TX5, 10, tyX5, rfl, uw_X5, by decide, tyX5_ok, nmX5, by decide +kernel, Or.inr ⟨rfl, "NeedleBakery", by rw [h]; exact gm_in (i := 184) (by decide +kernel) (by decide +kernel)⟩⟩
theorem fl_X10_213 {M : gm_M} (h : M.1.cls = RX10) : gm_fl M 213 7 1 := ⟨RX5, TX5, 10, rfl, uw_X5, by decide, Or.inr ⟨"NeedleBakery", by rw [h]; exact gm_in (i := 185) (by decide +kernel) (by decide +kernel)⟩⟩
theorem fp_X10_213 {M : gm_M} (h : M.1.cls = RX10) : gm_fp M 213 7 1 .int := ⟨RX5, TX5, 10, tyX5, rfl, uw_X5, by decide, tyX5_ok, nmX5, by decide +kernel, Or.inr ⟨rfl, "NeedleBakery", by rw [h]; exact gm_in (i := 185) (by decide +kernel) (by decide +kernel)⟩⟩
theorem fl_X10_244 {M : gm_M} (h : M.1.cls = RX10) : gm_fl M 244 7 3 := ⟨RX5, TX5, 10, rfl, uw_X5, by decide, Or.inr ⟨"NeedleBakery", by rw [h]; exact gm_in (i := 188) (by decide +kernel) (by decide +kernel)⟩⟩
theorem fp_X10_244 {M : gm_M} (h : M.1.cls = RX10) : gm_fp M 244 7 3 .int := ⟨RX5, TX5, 10, tyX5, rfl, uw_X5, by decide, tyX5_ok, nmX5, by decide +kernel, Or.inr ⟨rfl, "NeedleBakery", by rw [h]; exact gm_in (i := 188) (by decide +kernel) (by decide +kernel)⟩⟩
theorem fl_X10_253 {M : gm_M} (h : M.1.cls = RX10) : gm_fl M 253 7 4 := ⟨RX5, TX5, 10, rfl, uw_X5, by decide, Or.inr ⟨"NeedleBakery", by rw [h]; exact gm_in (i := 190) (by decide +kernel) (by decide +kernel)⟩⟩
theorem fp_X10_253 {M : gm_M} (h : M.1.cls = RX10) : gm_fp M 253 7 4 .int := ⟨RX5, TX5, 10, tyX5, rfl, uw_X5, by decide, tyX5_ok, nmX5, by decide +kernel, Or.inr ⟨rfl, "NeedleBakery", by rw [h]; exact gm_in (i := 190) (by decide +kernel) (by decide +kernel)⟩⟩
theorem fl_X10_247 {M : gm_M} (h : M.1.cls = RX10) : gm_fl M 247 7 5 := ⟨RX5, TX5, 10, rfl, uw_X5, by decide, Or.inr ⟨"NeedleBakery", by rw [h]; exact gm_in (i := 192) (by decide +kernel) (by decide +kernel)⟩⟩
theorem fp_X10_247 {M : gm_M} (h : M.1.cls = RX10) : gm_fp M 247 7 5 .long := ⟨RX5, TX5, 10, tyX5, rfl, uw_X5, by decide, tyX5_ok, nmX5, by decide +kernel, Or.inr ⟨rfl, "NeedleBakery", by rw [h]; exact gm_in (i := 192) (by decide +kernel) (by decide +kernel)⟩⟩
theorem fl_X10_219 {M : gm_M} (h : M.1.cls = RX10) : gm_fl M 219 7 6 := ⟨RX5, TX5, 10, rfl, uw_X5, by decide, Or.inr ⟨"NeedleBakery", by rw [h]; exact gm_in (i := 194) (by decide +kernel) (by decide +kernel)⟩⟩
theorem fl_X4_46 {M : gm_M} (h : M.1.cls = RX4) : gm_fl M 46 7 7 := ⟨RX5, TX5, 10, rfl, uw_X5, by decide, Or.inr ⟨"NeedleBakery", by rw [h]; exact gm_in (i := 196) (by decide +kernel) (by decide +kernel)⟩⟩
theorem fl_X10_90 {M : gm_M} (h : M.1.cls = RX10) : gm_fl M 90 10 0 := ⟨RX9, TX9, 2, rfl, uw_X9, by decide, Or.inr ⟨"NeedleBakery", by rw [h]; exact gm_in (i := 221) (by decide +kernel) (by decide +kernel)⟩⟩
theorem fl_X10_204 {M : gm_M} (h : M.1.cls = RX10) : gm_fl M 204 10 1 := ⟨RX9, TX9, 2, rfl, uw_X9, by decide, Or.inr ⟨"NeedleBakery", by rw [h]; exact gm_in (i := 223) (by decide +kernel) (by decide +kernel)⟩⟩
theorem fl_X10_334 {M : gm_M} (h : M.1.cls = RX10) : gm_fl M 334 4 2 := ⟨RX2, TX2, 3, rfl, uw_X2, by decide, Or.inr ⟨"NeedleBakery", by rw [h]; exact gm_in (i := 241) (by decide +kernel) (by decide +kernel)⟩⟩
theorem fp_X10_334 {M : gm_M} (h : M.1.cls = RX10) : gm_fp M 334 4 2 .int := ⟨RX2, TX2, 3, tyX2, rfl, uw_X2, by decide, tyX2_ok, nmX2, by decide +kernel, Or.inr ⟨rfl, "NeedleBakery", by rw [h]; exact gm_in (i := 241) (by decide +kernel) (by decide +kernel)⟩⟩
theorem fl_X10_294 {M : gm_M} (h : M.1.cls = RX10) : gm_fl M 294 9 1 := ⟨RX7, TX7, 6, rfl, uw_X7, by decide, Or.inr ⟨"NeedleBakery", by rw [h]; exact gm_in (i := 315) (by decide +kernel) (by decide +kernel)⟩⟩
theorem fp_X10_294 {M : gm_M} (h : M.1.cls = RX10) : gm_fp M 294 9 1 .int := ⟨RX7, TX7, 6, tyX7, rfl, uw_X7, by decide, tyX7_ok, nmX7, by decide +kernel, Or.inr ⟨rfl, "NeedleBakery", by rw [h]; exact gm_in (i := 315) (by decide +kernel) (by decide +kernel)⟩⟩
theorem fl_X10_307 {M : gm_M} (h : M.1.cls = RX10) : gm_fl M 307 9 2 := ⟨RX7, TX7, 6, rfl, uw_X7, by decide, Or.inr ⟨"NeedleBakery", by rw [h]; exact gm_in (i := 317) (by decide +kernel) (by decide +kernel)⟩⟩
theorem fp_X10_307 {M : gm_M} (h : M.1.cls = RX10) : gm_fp M 307 9 2 .int := ⟨RX7, TX7, 6, tyX7, rfl, uw_X7, by decide, tyX7_ok, nmX7, by decide +kernel, Or.inr ⟨rfl, "NeedleBakery", by rw [h]; exact gm_in (i := 317) (by decide +kernel) (by decide +kernel)⟩⟩
theorem fl_X10_367 {M : gm_M} (h : M.1.cls = RX10) : gm_fl M 367 9 3 := ⟨RX7, TX7, 6, rfl, uw_X7, by decide, Or.inr ⟨"NeedleBakery", by rw [h]; exact gm_in (i := 319) (by decide +kernel) (by decide +kernel)⟩⟩
theorem fp_X10_367 {M : gm_M} (h : M.1.cls = RX10) : gm_fp M 367 9 3 (.object "NeedleBakery$Change") := ⟨RX7, TX7, 6, tyX7, rfl, uw_X7, by decide, tyX7_ok, nmX7, by decide +kernel, Or.inr ⟨rfl, "NeedleBakery", by rw [h]; exact gm_in (i := 319) (by decide +kernel) (by decide +kernel)⟩⟩
theorem fl_X10_370 {M : gm_M} (h : M.1.cls = RX10) : gm_fl M 370 9 4 := ⟨RX7, TX7, 6, rfl, uw_X7, by decide, Or.inr ⟨"NeedleBakery", by rw [h]; exact gm_in (i := 321) (by decide +kernel) (by decide +kernel)⟩⟩
theorem sl_X7_43 {M : gm_M} (h : M.1.cls = RX7) : gm_sl M 43 "NeedleBakery" "CHANGES" "[LNeedleBakery$Change;" := Or.inr ⟨"NeedleBakery", by rw [h]; exact gm_in (i := 1304) (by decide +kernel) (by decide +kernel)⟩
theorem fl_Jx35411_28 {M : gm_M} (h : M.1.cls = RJx35411) : gm_fl M 28 13 2 := ⟨RJx4a65c, TJx4a65c, 3, rfl, uw_Jx4a65c, by decide, Or.inr ⟨"java/util/ArrayList", by rw [h]; exact gm_in (i := 1675) (by decide +kernel) (by decide +kernel)⟩⟩
theorem fp_Jx35411_28 {M : gm_M} (h : M.1.cls = RJx35411) : gm_fp M 28 13 2 .int := ⟨RJx4a65c, TJx4a65c, 3, tyJx4a65c, rfl, uw_Jx4a65c, by decide, tyJx4a65c_ok, nmJx4a65c, by decide +kernel, Or.inr ⟨rfl, "java/util/ArrayList", by rw [h]; exact gm_in (i := 1675) (by decide +kernel) (by decide +kernel)⟩⟩
theorem sl_J7_112 {M : gm_M} (h : M.1.cls = RJ7) : gm_sl M 112 "java/util/Arrays$LegacyMergeSort" "userRequested" "Z" := Or.inr ⟨"java/util/Arrays", by rw [h]; exact gm_in (i := 1789) (by decide +kernel) (by decide +kernel)⟩
theorem sl_X7_47 {M : gm_M} (h : M.1.cls = RX7) : gm_sl M 47 "NeedleBakery$Change" "form" "Ljava/lang/String;" := Or.inr ⟨"NeedleBakery", by rw [h]; exact gm_in (i := 2237) (by decide +kernel) (by decide +kernel)⟩
