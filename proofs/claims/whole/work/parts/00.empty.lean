/-! What REPORT.md says of the tables' words at this commit: two of them say of one method (Statement.isPowerOfTwo, a static one, called by its inherited name) that it is static and that it isn't. No state meets both, so nothing that is claimed of the states that meet them says anything of the program. -/
theorem zz_isp_declared : Cond.declares ⟨"FoldedProof$Statement", "isPowerOfTwo", "(II)Z"⟩ ∈ tables_1_6 := List.mem_of_getElem? (i := 47) rfl
theorem zz_isp_static : Cond.static ⟨"FoldedProof$Statement", "isPowerOfTwo", "(II)Z"⟩ ∈ tables_1_6 := List.mem_of_getElem? (i := 48) rfl
theorem zz_six {w : Cond} (h : w ∈ tables_1_6) : w ∈ tables_1 := by
  unfold tables_1
  simp only [List.mem_append]
  exact Or.inr (Or.inr (Or.inr (Or.inr (Or.inr (Or.inl h)))))
/-- no state meets the words of the tables -/
theorem zz_empty (args : Array Value) (s : State) (h : ∀ w ∈ tables_1, w.before args s = true) : False := by
  have h1 := h _ (zz_six zz_isp_declared)
  have h2 := h _ (zz_six zz_isp_static)
  obtain ⟨m, meth, a1, a2, a3, -⟩ := Cond.declares_spec h1
  have h3 := Cond.static_spec a1 a2 h2
  rw [a3] at h3
  cases h3
