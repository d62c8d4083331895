set_option maxRecDepth 100000 in
set_option maxHeartbeats 4000000 in
theorem t_refuses : lw_tbl[822]? = some (Cond.code yL_refuses cL_refuses 9 (some .boolean)) := rfl
theorem k_L_224 : lkS RL 224 yL_refuses cL_refuses 9 (some .boolean) 2 := ⟨fun w hw => by
  simp only [List.mem_cons, List.not_mem_nil, or_false] at hw
  rcases hw with rfl | rfl | rfl | rfl
  · exact big_in (i := 820) (by decide +kernel) (by decide +kernel)
  · exact big_in (i := 821) (by decide +kernel) (by decide +kernel)
  · exact big_in (i := 5) (by decide +kernel) (by decide +kernel)
  · exact big_in (i := 822) t_refuses rfl, by decide +kernel⟩
set_option maxRecDepth 100000 in
set_option maxHeartbeats 4000000 in
theorem t_holds : lw_tbl[862]? = some (Cond.code yL_holds cL_holds 23 (some .boolean)) := rfl
theorem k_L_232 : lkS RL 232 yL_holds cL_holds 23 (some .boolean) 2 := ⟨fun w hw => by
  simp only [List.mem_cons, List.not_mem_nil, or_false] at hw
  rcases hw with rfl | rfl | rfl | rfl
  · exact big_in (i := 860) (by decide +kernel) (by decide +kernel)
  · exact big_in (i := 861) (by decide +kernel) (by decide +kernel)
  · exact big_in (i := 5) (by decide +kernel) (by decide +kernel)
  · exact big_in (i := 862) t_holds rfl, by decide +kernel⟩
