/-! a constant text's place, for part 16 -/
theorem x_ldk {c i q b : Nat} {ad : Nat → Nat} {U : State} {H : Heap} (hT : x_T b ad U H) (hq : xst c i = some q) : ∃ tx, vk_R (xR c) i tx (ad q) U := by
  have hm : (i, q) ∈ xSl c := x_find_mem hq
  by_cases hc : c < 10
  · rcases (show c = 0 ∨ c = 1 ∨ c = 2 ∨ c = 3 ∨ c = 4 ∨ c = 5 ∨ c = 6 ∨ c = 7 ∨ c = 8 ∨ c = 9 by omega) with e | e | e | e | e | e | e | e | e | e <;> subst e
    · exact absurd hm List.not_mem_nil
    · have hm' : (i, q) ∈ [(108, 0), (110, 1), (112, 2), (114, 3), (116, 4), (118, 5)] := hm
      simp only [List.mem_cons, Prod.mk.injEq, List.not_mem_nil, or_false] at hm'
      rcases hm' with ⟨rfl, rfl⟩ | ⟨rfl, rfl⟩ | ⟨rfl, rfl⟩ | ⟨rfl, rfl⟩ | ⟨rfl, rfl⟩ | ⟨rfl, rfl⟩
      · exact ⟨_, hT.2 0 (108, "hall") rfl⟩
      · exact ⟨_, hT.2 1 (110, "shelf") rfl⟩
      · exact ⟨_, hT.2 2 (112, "reader") rfl⟩
      · exact ⟨_, hT.2 3 (114, "lamp") rfl⟩
      · exact ⟨_, hT.2 4 (116, "oil") rfl⟩
      · exact ⟨_, hT.2 5 (118, "string") rfl⟩
    all_goals exact absurd hm List.not_mem_nil
  · have e : xSl c = [] := by
      unfold xSl
      rw [List.getD_eq_getElem?_getD, List.getElem?_eq_none (by show 10 ≤ c; omega)]
      rfl
    rw [e] at hm
    exact absurd hm List.not_mem_nil
