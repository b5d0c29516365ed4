def tabs : List (List Cond) := [k2_sels lw_privs, tables_1_1, tables_1_2, tables_1_3, tables_1_4, tables_1_5, tables_1_6, tables_1_7, tables_1_8, tables_1_9, tables_1_10, tables_1_11]

theorem tabs_in : ∀ t ∈ tabs, ∀ w ∈ t, w ∈ lw_tbl := by
  intro t ht w hw
  unfold lw_tbl tables_1
  simp only [tabs, List.mem_cons, List.not_mem_nil, or_false] at ht
  simp only [List.mem_append]
  rcases ht with rfl | rfl | rfl | rfl | rfl | rfl | rfl | rfl | rfl | rfl | rfl | rfl <;> simp only [hw, true_or, or_true]
def at2 (ps : List (Nat × Nat)) : List Cond := ps.filterMap (fun q => (tabs[q.1]?).bind (fun t => t[q.2]?))
theorem at2_in {ps : List (Nat × Nat)} : ∀ w ∈ at2 ps, w ∈ lw_tbl := by
  intro w hw
  obtain ⟨q, -, hq⟩ := List.mem_filterMap.mp hw
  obtain ⟨t, h1, h2⟩ := Option.bind_eq_some_iff.mp hq
  exact tabs_in t (List.mem_of_getElem? h1) w (List.mem_of_getElem? h2)
theorem at2_mem {ws : List Cond} (ps : List (Nat × Nat)) (h : ws = at2 ps) : ∀ w ∈ ws, w ∈ lw_tbl := fun w hw => at2_in w (h ▸ hw)
theorem good_at2 {ws : List Cond} (ps : List (Nat × Nat)) (h : ws = at2 ps) (hg : ws.all goodWord = true) : GoodIn lw_tbl ws := fun w hw => ⟨at2_mem ps h w hw, good_of_word (List.all_eq_true.mp hg w hw)⟩
