theorem TB_U {own C owner : String} {idx : Nat} {x y : MethodName} {cw : Cond} (h1 : Cond.methodLink own idx x ∈ TB) (h2 : Cond.sameMethod x.cls owner x.name x.desc ∈ TB) (h3 : Cond.selects C x y ∈ TB) (h4 : Cond.instanceMethod y ∈ TB) (h5 : Cond.initialized y.cls ∈ TB) (h6 : cw ∈ TB) : GoodIn TB (va_wsU own idx C owner x y (cw :: TB)) := by
  intro w h
  refine TB_good w ?_
  simp only [va_wsU, List.mem_append, List.mem_cons, List.not_mem_nil, or_false] at h
  rcases h with (h | h | h | h | h) | h | h
  · rw [h]; exact h1
  · rw [h]; exact h2
  · rw [h]; exact h3
  · rw [h]; exact h4
  · rw [h]; exact h5
  · rw [h]; exact h6
  · exact h
theorem TB_O {own C owner : String} {idx : Nat} {x y : MethodName} {cw : Cond} (h1 : Cond.methodLink own idx x ∈ TB) (h2 : Cond.sameMethod x.cls owner x.name x.desc ∈ TB) (h7 : Cond.instanceMethod ⟨owner, x.name, x.desc⟩ ∈ TB) (h3 : Cond.selects C x y ∈ TB) (h4 : Cond.instanceMethod y ∈ TB) (h5 : Cond.initialized y.cls ∈ TB) (h6 : cw ∈ TB) : GoodIn TB (va_wsO own idx C owner x y (cw :: TB)) := by
  intro w h
  refine TB_good w ?_
  simp only [va_wsO, List.mem_append, List.mem_cons, List.not_mem_nil, or_false] at h
  rcases h with (h | h | h | h | h | h) | h | h
  · rw [h]; exact h1
  · rw [h]; exact h2
  · rw [h]; exact h7
  · rw [h]; exact h3
  · rw [h]; exact h4
  · rw [h]; exact h5
  · rw [h]; exact h6
  · exact h
theorem TB_SU {own : String} {idx : Nat} {y : MethodName} {cw : Cond} (h1 : Cond.methodLink own idx y ∈ TB) (h2 : Cond.sameMethod y.cls y.cls y.name y.desc ∈ TB) (h3 : Cond.superclass own y.cls ∈ TB) (h4 : Cond.instanceMethod y ∈ TB) (h5 : Cond.initialized y.cls ∈ TB) (h6 : cw ∈ TB) : GoodIn TB (va_wsSU own idx y (cw :: TB)) := by
  intro w h
  refine TB_good w ?_
  simp only [va_wsSU, List.mem_append, List.mem_cons, List.not_mem_nil, or_false] at h
  rcases h with (h | h | h | h | h) | h | h
  · rw [h]; exact h1
  · rw [h]; exact h2
  · rw [h]; exact h3
  · rw [h]; exact h4
  · rw [h]; exact h5
  · rw [h]; exact h6
  · exact h
set_option maxRecDepth 20000 in
theorem tw_390 : (Cond.superclass "AnyOrder$ShuffleTable" "AnyOrder$EvenTable" : Cond) ∈ TB := TB_t 390 rfl rfl
set_option maxRecDepth 20000 in
theorem tw_397 : (Cond.superclass "AnyOrder$EvenTable" "AnyOrder$Table" : Cond) ∈ TB := TB_t 397 rfl rfl
