/-! the JDK's own methods that have no entry of their own in the machine -/
theorem pf_min : plainFor y_JM_min.1 = true ∧ x_tab y_JM_min.1 = [] := ⟨by decide +kernel, rfl⟩
theorem pf_max : plainFor y_JM_max.1 = true ∧ x_tab y_JM_max.1 = [] := ⟨by decide +kernel, rfl⟩
theorem pf_abs : plainFor y_JM_abs.1 = true ∧ x_tab y_JM_abs.1 = [] := ⟨by decide +kernel, rfl⟩
theorem pf_fill : plainFor y_JA_fill.1 = true ∧ x_tab y_JA_fill.1 = [] := ⟨by decide +kernel, rfl⟩
theorem pf_bitCount : plainFor y_JI_bitCount.1 = true ∧ x_tab y_JI_bitCount.1 = [] := ⟨by decide +kernel, rfl⟩
theorem pf_compare : plainFor y_JI_compare.1 = true ∧ x_tab y_JI_compare.1 = [] := ⟨by decide +kernel, rfl⟩
