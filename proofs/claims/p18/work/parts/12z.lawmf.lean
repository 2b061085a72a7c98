/-! ===== the law's wrappers, that have tables of their own ===== -/
theorem mfH_rule : xMFH m_Law_rule := ⟨(by decide +kernel), rfl, by decide, by decide +kernel, by decide +kernel, by decide⟩
theorem mfH_build : xMFH m_Law_build := ⟨(by decide +kernel), rfl, by decide, by decide +kernel, by decide +kernel, by decide⟩
theorem mfH_count : xMFH m_Law_count := ⟨(by decide +kernel), rfl, by decide, by decide +kernel, by decide +kernel, by decide⟩
theorem mfH_token : xMFH m_Law_token := ⟨(by decide +kernel), rfl, by decide, by decide +kernel, by decide +kernel, by decide⟩
theorem mfH_parse : xMFH m_Law_parse := ⟨(by decide +kernel), rfl, by decide, by decide +kernel, by decide +kernel, by decide⟩
theorem mfH_node : xMFH m_Law_node := ⟨(by decide +kernel), rfl, by decide, by decide +kernel, by decide +kernel, by decide⟩
