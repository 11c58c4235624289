theorem d_J9_abs_0f7a4_0 : pm_i e_J9_abs_0f7a4 0 .iload_n .iload 0 1 := Or.inl ⟨0, by decide +kernel, rfl, rfl⟩
theorem d_J9_abs_0f7a4_1 : pm_B e_J9_abs_0f7a4 1 (fun z => .ifCond .ge z) 9 4 := ⟨8, by decide +kernel, by decide, rfl⟩
theorem d_J9_abs_0f7a4_4 : pm_i e_J9_abs_0f7a4 4 .iload_n .iload 0 5 := Or.inl ⟨0, by decide +kernel, rfl, rfl⟩
theorem d_J9_abs_0f7a4_5 : pm_D e_J9_abs_0f7a4 5 1 (.ineg) 6 := ⟨by decide +kernel, rfl⟩
theorem d_J9_abs_0f7a4_6 : pm_B e_J9_abs_0f7a4 6 (fun z => .goto z) 10 9 := ⟨4, by decide +kernel, by decide, rfl⟩
theorem d_J9_abs_0f7a4_9 : pm_i e_J9_abs_0f7a4 9 .iload_n .iload 0 10 := Or.inl ⟨0, by decide +kernel, rfl, rfl⟩
theorem d_J9_abs_0f7a4_10 : pm_D e_J9_abs_0f7a4 10 1 (.ireturn) 11 := ⟨by decide +kernel, rfl⟩
