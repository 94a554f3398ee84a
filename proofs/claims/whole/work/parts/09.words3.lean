theorem xw_AW_55 : ma_X R_AW 55 59 x_IO := ⟨cl_AW_55, List.mem_of_getElem? (i := 43) (by decide +kernel), by decide +kernel, by decide +kernel, by decide +kernel⟩
theorem xw_AW_66 : ma_X R_AW 66 70 x_UO := ⟨cl_AW_66, List.mem_of_getElem? (i := 44) (by decide +kernel), by decide +kernel, by decide +kernel, by decide +kernel⟩
theorem xw_AW_107 : ma_X R_AW 107 111 x_IS := ⟨cl_AW_107, List.mem_of_getElem? (i := 48) (by decide +kernel), by decide +kernel, by decide +kernel, by decide +kernel⟩
theorem xw_AW_246 : ma_X R_AW 246 250 x_IA := ⟨cl_AW_246, List.mem_of_getElem? (i := 47) (by decide +kernel), by decide +kernel, by decide +kernel, by decide +kernel⟩
