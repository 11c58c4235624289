theorem d_J7_fill_d0a16_0 : pm_P e_J7_fill_d0a16 0 0 1 := Or.inl ⟨0, by decide +kernel, by decide +kernel, rfl⟩
theorem d_J7_fill_d0a16_1 : pm_i e_J7_fill_d0a16 1 .istore_n .istore 3 2 := Or.inl ⟨3, by decide +kernel, rfl, rfl⟩
theorem d_J7_fill_d0a16_2 : pm_i e_J7_fill_d0a16 2 .aload_n .aload 0 3 := Or.inl ⟨0, by decide +kernel, rfl, rfl⟩
theorem d_J7_fill_d0a16_3 : pm_D e_J7_fill_d0a16 3 1 (.arraylength) 4 := ⟨by decide +kernel, rfl⟩
theorem d_J7_fill_d0a16_4 : pm_i e_J7_fill_d0a16 4 .istore_n .istore 4 6 := Or.inr ⟨by decide +kernel, rfl⟩
theorem d_J7_fill_d0a16_6 : pm_i e_J7_fill_d0a16 6 .iload_n .iload 3 7 := Or.inl ⟨3, by decide +kernel, rfl, rfl⟩
theorem d_J7_fill_d0a16_7 : pm_i e_J7_fill_d0a16 7 .iload_n .iload 4 9 := Or.inr ⟨by decide +kernel, rfl⟩
theorem d_J7_fill_d0a16_9 : pm_B e_J7_fill_d0a16 9 (fun z => .if_icmp .ge z) 22 12 := ⟨13, by decide +kernel, by decide, rfl⟩
theorem d_J7_fill_d0a16_12 : pm_i e_J7_fill_d0a16 12 .aload_n .aload 0 13 := Or.inl ⟨0, by decide +kernel, rfl, rfl⟩
theorem d_J7_fill_d0a16_13 : pm_i e_J7_fill_d0a16 13 .iload_n .iload 3 14 := Or.inl ⟨3, by decide +kernel, rfl, rfl⟩
theorem d_J7_fill_d0a16_14 : pm_i e_J7_fill_d0a16 14 .lload_n .lload 1 15 := Or.inl ⟨1, by decide +kernel, rfl, rfl⟩
theorem d_J7_fill_d0a16_15 : pm_D e_J7_fill_d0a16 15 1 (.lastore) 16 := ⟨by decide +kernel, rfl⟩
theorem d_J7_fill_d0a16_16 : pm_I e_J7_fill_d0a16 16 3 1 19 := ⟨1, by decide +kernel, by decide +kernel, rfl⟩
theorem d_J7_fill_d0a16_19 : pm_B e_J7_fill_d0a16 19 (fun z => .goto z) 6 22 := ⟨-13, by decide +kernel, by decide, rfl⟩
theorem d_J7_fill_d0a16_22 : pm_D e_J7_fill_d0a16 22 1 (.return_) 23 := ⟨by decide +kernel, rfl⟩
theorem d_J7_fill_53178_0 : pm_P e_J7_fill_53178 0 0 1 := Or.inl ⟨0, by decide +kernel, by decide +kernel, rfl⟩
theorem d_J7_fill_53178_1 : pm_i e_J7_fill_53178 1 .istore_n .istore 2 2 := Or.inl ⟨2, by decide +kernel, rfl, rfl⟩
theorem d_J7_fill_53178_2 : pm_i e_J7_fill_53178 2 .aload_n .aload 0 3 := Or.inl ⟨0, by decide +kernel, rfl, rfl⟩
theorem d_J7_fill_53178_3 : pm_D e_J7_fill_53178 3 1 (.arraylength) 4 := ⟨by decide +kernel, rfl⟩
theorem d_J7_fill_53178_4 : pm_i e_J7_fill_53178 4 .istore_n .istore 3 5 := Or.inl ⟨3, by decide +kernel, rfl, rfl⟩
theorem d_J7_fill_53178_5 : pm_i e_J7_fill_53178 5 .iload_n .iload 2 6 := Or.inl ⟨2, by decide +kernel, rfl, rfl⟩
theorem d_J7_fill_53178_6 : pm_i e_J7_fill_53178 6 .iload_n .iload 3 7 := Or.inl ⟨3, by decide +kernel, rfl, rfl⟩
theorem d_J7_fill_53178_7 : pm_B e_J7_fill_53178 7 (fun z => .if_icmp .ge z) 20 10 := ⟨13, by decide +kernel, by decide, rfl⟩
theorem d_J7_fill_53178_10 : pm_i e_J7_fill_53178 10 .aload_n .aload 0 11 := Or.inl ⟨0, by decide +kernel, rfl, rfl⟩
theorem d_J7_fill_53178_11 : pm_i e_J7_fill_53178 11 .iload_n .iload 2 12 := Or.inl ⟨2, by decide +kernel, rfl, rfl⟩
theorem d_J7_fill_53178_12 : pm_i e_J7_fill_53178 12 .iload_n .iload 1 13 := Or.inl ⟨1, by decide +kernel, rfl, rfl⟩
theorem d_J7_fill_53178_13 : pm_D e_J7_fill_53178 13 1 (.iastore) 14 := ⟨by decide +kernel, rfl⟩
theorem d_J7_fill_53178_14 : pm_I e_J7_fill_53178 14 2 1 17 := ⟨1, by decide +kernel, by decide +kernel, rfl⟩
theorem d_J7_fill_53178_17 : pm_B e_J7_fill_53178 17 (fun z => .goto z) 5 20 := ⟨-12, by decide +kernel, by decide, rfl⟩
theorem d_J7_fill_53178_20 : pm_D e_J7_fill_53178 20 1 (.return_) 21 := ⟨by decide +kernel, rfl⟩
theorem d_J7_fill_031fb_0 : pm_P e_J7_fill_031fb 0 0 1 := Or.inl ⟨0, by decide +kernel, by decide +kernel, rfl⟩
theorem d_J7_fill_031fb_1 : pm_i e_J7_fill_031fb 1 .istore_n .istore 2 2 := Or.inl ⟨2, by decide +kernel, rfl, rfl⟩
theorem d_J7_fill_031fb_2 : pm_i e_J7_fill_031fb 2 .aload_n .aload 0 3 := Or.inl ⟨0, by decide +kernel, rfl, rfl⟩
theorem d_J7_fill_031fb_3 : pm_D e_J7_fill_031fb 3 1 (.arraylength) 4 := ⟨by decide +kernel, rfl⟩
theorem d_J7_fill_031fb_4 : pm_i e_J7_fill_031fb 4 .istore_n .istore 3 5 := Or.inl ⟨3, by decide +kernel, rfl, rfl⟩
theorem d_J7_fill_031fb_5 : pm_i e_J7_fill_031fb 5 .iload_n .iload 2 6 := Or.inl ⟨2, by decide +kernel, rfl, rfl⟩
theorem d_J7_fill_031fb_6 : pm_i e_J7_fill_031fb 6 .iload_n .iload 3 7 := Or.inl ⟨3, by decide +kernel, rfl, rfl⟩
theorem d_J7_fill_031fb_7 : pm_B e_J7_fill_031fb 7 (fun z => .if_icmp .ge z) 20 10 := ⟨13, by decide +kernel, by decide, rfl⟩
theorem d_J7_fill_031fb_10 : pm_i e_J7_fill_031fb 10 .aload_n .aload 0 11 := Or.inl ⟨0, by decide +kernel, rfl, rfl⟩
theorem d_J7_fill_031fb_11 : pm_i e_J7_fill_031fb 11 .iload_n .iload 2 12 := Or.inl ⟨2, by decide +kernel, rfl, rfl⟩
theorem d_J7_fill_031fb_12 : pm_i e_J7_fill_031fb 12 .iload_n .iload 1 13 := Or.inl ⟨1, by decide +kernel, rfl, rfl⟩
theorem d_J7_fill_031fb_13 : pm_D e_J7_fill_031fb 13 1 (.bastore) 14 := ⟨by decide +kernel, rfl⟩
theorem d_J7_fill_031fb_14 : pm_I e_J7_fill_031fb 14 2 1 17 := ⟨1, by decide +kernel, by decide +kernel, rfl⟩
theorem d_J7_fill_031fb_17 : pm_B e_J7_fill_031fb 17 (fun z => .goto z) 5 20 := ⟨-12, by decide +kernel, by decide, rfl⟩
theorem d_J7_fill_031fb_20 : pm_D e_J7_fill_031fb 20 1 (.return_) 21 := ⟨by decide +kernel, rfl⟩
