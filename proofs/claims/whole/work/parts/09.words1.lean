theorem cl_La_8 : Cond.classLink R_La 8 R_AW ∈ lw_tbl := List.mem_of_getElem? (i := 53) (by decide +kernel)
theorem mw_La_68 : ma_w R_La 68 y_AW_init c_AW_init 2 none 0 := ⟨Or.inl (List.mem_of_getElem? (i := 55) (by decide +kernel)), List.mem_of_getElem? (i := 34) (by decide +kernel), List.mem_of_getElem? (i := 57) (by decide +kernel), ⟨by decide +kernel, by decide +kernel⟩, by decide +kernel⟩
theorem ml_La_68 : Cond.methodLink R_La 68 y_AW_init ∈ lw_tbl := List.mem_of_getElem? (i := 55) (by decide +kernel)
theorem mi_AW_init : Cond.instanceMethod y_AW_init ∈ lw_tbl := List.mem_of_getElem? (i := 56) (by decide +kernel)
theorem ml_AW_1 : Cond.methodLink R_AW 1 objectInit ∈ lw_tbl := List.mem_of_getElem? (i := 58) (by decide +kernel)
theorem mi_obj : Cond.instanceMethod objectInit ∈ lw_tbl := List.mem_of_getElem? (i := 59) (by decide +kernel)
theorem mc_obj : Cond.code objectInit ⟨#[0xb1]⟩ 1 none ∈ lw_tbl := List.mem_of_getElem? (i := 60) (by decide +kernel)
theorem cl_AW_9 : Cond.classLink R_AW 9 R_St ∈ lw_tbl := List.mem_of_getElem? (i := 61) (by decide +kernel)
theorem ao_St : Cond.arrayOver (.object R_St) ∈ lw_tbl := List.mem_of_getElem? (i := 62) (by decide +kernel)
theorem cl_AW_15 : Cond.classLink R_AW 15 R_LM ∈ lw_tbl := List.mem_of_getElem? (i := 63) (by decide +kernel)
theorem ao_LM : Cond.arrayOver (.object R_LM) ∈ lw_tbl := List.mem_of_getElem? (i := 64) (by decide +kernel)
theorem cl_AW_21 : Cond.classLink R_AW 21 R_Co ∈ lw_tbl := List.mem_of_getElem? (i := 65) (by decide +kernel)
theorem ao_Co : Cond.arrayOver (.object R_Co) ∈ lw_tbl := List.mem_of_getElem? (i := 66) (by decide +kernel)
theorem cl_AW_27 : Cond.classLink R_AW 27 R_Sa ∈ lw_tbl := List.mem_of_getElem? (i := 67) (by decide +kernel)
theorem mw_AW_29 : ma_w R_AW 29 y_Sa_init c_Sa_init 1 none 0 := ⟨Or.inr ⟨"AddressWords", List.mem_of_getElem? (i := 69) (by decide +kernel)⟩, List.mem_of_getElem? (i := 35) (by decide +kernel), List.mem_of_getElem? (i := 71) (by decide +kernel), ⟨by decide +kernel, by decide +kernel⟩, by decide +kernel⟩
theorem mi_Sa_init : Cond.instanceMethod y_Sa_init ∈ lw_tbl := List.mem_of_getElem? (i := 70) (by decide +kernel)
theorem ml_Sa_3 : Cond.methodLink R_Sa 3 objectInit ∈ lw_tbl := List.mem_of_getElem? (i := 72) (by decide +kernel)
theorem fg_Sa_9 : ma_Fg R_Sa 9 8 0 := ⟨R_Sa, T_Sa, 8, rfl, by decide, in_Sa, Or.inl (List.mem_of_getElem? (i := 73) (by decide +kernel))⟩
theorem fp_Sa_9 : ma_F R_Sa 9 8 0 (.array .char) true := ⟨R_Sa, T_Sa, 8, ty_Sa, rfl, by decide, in_Sa, tyok_Sa, nm_Sa, rfl, rfl, (fun _ => rfl), Or.inl (List.mem_of_getElem? (i := 73) (by decide +kernel))⟩
theorem fg_AW_324 : ma_Fg R_AW 324 8 0 := ⟨R_Sa, T_Sa, 8, rfl, by decide, in_Sa, Or.inr ⟨"AddressWords", List.mem_of_getElem? (i := 74) (by decide +kernel)⟩⟩
theorem fg_Sa_22 : ma_Fg R_Sa 22 8 1 := ⟨R_Sa, T_Sa, 8, rfl, by decide, in_Sa, Or.inl (List.mem_of_getElem? (i := 75) (by decide +kernel))⟩
theorem fp_Sa_22 : ma_F R_Sa 22 8 1 (.int) false := ⟨R_Sa, T_Sa, 8, ty_Sa, rfl, by decide, in_Sa, tyok_Sa, nm_Sa, rfl, rfl, (fun h => by cases h), Or.inl (List.mem_of_getElem? (i := 75) (by decide +kernel))⟩
theorem fg_AW_218 : ma_Fg R_AW 218 8 1 := ⟨R_Sa, T_Sa, 8, rfl, by decide, in_Sa, Or.inr ⟨"AddressWords", List.mem_of_getElem? (i := 76) (by decide +kernel)⟩⟩
theorem fp_AW_218 : ma_F R_AW 218 8 1 (.int) false := ⟨R_Sa, T_Sa, 8, ty_Sa, rfl, by decide, in_Sa, tyok_Sa, nm_Sa, rfl, rfl, (fun h => by cases h), Or.inr ⟨rfl, "AddressWords", List.mem_of_getElem? (i := 76) (by decide +kernel)⟩⟩
theorem fg_Sa_15 : ma_Fg R_Sa 15 8 2 := ⟨R_Sa, T_Sa, 8, rfl, by decide, in_Sa, Or.inl (List.mem_of_getElem? (i := 77) (by decide +kernel))⟩
theorem fp_Sa_15 : ma_F R_Sa 15 8 2 (.array .int) true := ⟨R_Sa, T_Sa, 8, ty_Sa, rfl, by decide, in_Sa, tyok_Sa, nm_Sa, rfl, rfl, (fun _ => rfl), Or.inl (List.mem_of_getElem? (i := 77) (by decide +kernel))⟩
theorem fg_AW_328 : ma_Fg R_AW 328 8 2 := ⟨R_Sa, T_Sa, 8, rfl, by decide, in_Sa, Or.inr ⟨"AddressWords", List.mem_of_getElem? (i := 78) (by decide +kernel)⟩⟩
theorem fg_Sa_19 : ma_Fg R_Sa 19 8 3 := ⟨R_Sa, T_Sa, 8, rfl, by decide, in_Sa, Or.inl (List.mem_of_getElem? (i := 79) (by decide +kernel))⟩
theorem fp_Sa_19 : ma_F R_Sa 19 8 3 (.array .int) true := ⟨R_Sa, T_Sa, 8, ty_Sa, rfl, by decide, in_Sa, tyok_Sa, nm_Sa, rfl, rfl, (fun _ => rfl), Or.inl (List.mem_of_getElem? (i := 79) (by decide +kernel))⟩
theorem fg_AW_315 : ma_Fg R_AW 315 8 3 := ⟨R_Sa, T_Sa, 8, rfl, by decide, in_Sa, Or.inr ⟨"AddressWords", List.mem_of_getElem? (i := 80) (by decide +kernel)⟩⟩
theorem fg_Sa_30 : ma_Fg R_Sa 30 8 4 := ⟨R_Sa, T_Sa, 8, rfl, by decide, in_Sa, Or.inl (List.mem_of_getElem? (i := 81) (by decide +kernel))⟩
theorem fp_Sa_30 : ma_F R_Sa 30 8 4 (.int) false := ⟨R_Sa, T_Sa, 8, ty_Sa, rfl, by decide, in_Sa, tyok_Sa, nm_Sa, rfl, rfl, (fun h => by cases h), Or.inl (List.mem_of_getElem? (i := 81) (by decide +kernel))⟩
theorem fg_AW_312 : ma_Fg R_AW 312 8 4 := ⟨R_Sa, T_Sa, 8, rfl, by decide, in_Sa, Or.inr ⟨"AddressWords", List.mem_of_getElem? (i := 82) (by decide +kernel)⟩⟩
theorem fp_AW_312 : ma_F R_AW 312 8 4 (.int) false := ⟨R_Sa, T_Sa, 8, ty_Sa, rfl, by decide, in_Sa, tyok_Sa, nm_Sa, rfl, rfl, (fun h => by cases h), Or.inr ⟨rfl, "AddressWords", List.mem_of_getElem? (i := 82) (by decide +kernel)⟩⟩
theorem fg_Sa_33 : ma_Fg R_Sa 33 8 5 := ⟨R_Sa, T_Sa, 8, rfl, by decide, in_Sa, Or.inl (List.mem_of_getElem? (i := 83) (by decide +kernel))⟩
theorem fp_Sa_33 : ma_F R_Sa 33 8 5 (.int) false := ⟨R_Sa, T_Sa, 8, ty_Sa, rfl, by decide, in_Sa, tyok_Sa, nm_Sa, rfl, rfl, (fun h => by cases h), Or.inl (List.mem_of_getElem? (i := 83) (by decide +kernel))⟩
theorem fg_Sa_36 : ma_Fg R_Sa 36 8 6 := ⟨R_Sa, T_Sa, 8, rfl, by decide, in_Sa, Or.inl (List.mem_of_getElem? (i := 84) (by decide +kernel))⟩
theorem fp_Sa_36 : ma_F R_Sa 36 8 6 (.int) false := ⟨R_Sa, T_Sa, 8, ty_Sa, rfl, by decide, in_Sa, tyok_Sa, nm_Sa, rfl, rfl, (fun h => by cases h), Or.inl (List.mem_of_getElem? (i := 84) (by decide +kernel))⟩
theorem fg_Sa_39 : ma_Fg R_Sa 39 8 7 := ⟨R_Sa, T_Sa, 8, rfl, by decide, in_Sa, Or.inl (List.mem_of_getElem? (i := 85) (by decide +kernel))⟩
theorem fp_Sa_39 : ma_F R_Sa 39 8 7 (.int) false := ⟨R_Sa, T_Sa, 8, ty_Sa, rfl, by decide, in_Sa, tyok_Sa, nm_Sa, rfl, rfl, (fun h => by cases h), Or.inl (List.mem_of_getElem? (i := 85) (by decide +kernel))⟩
theorem fg_AW_350 : ma_Fg R_AW 350 8 7 := ⟨R_Sa, T_Sa, 8, rfl, by decide, in_Sa, Or.inr ⟨"AddressWords", List.mem_of_getElem? (i := 86) (by decide +kernel)⟩⟩
theorem fp_AW_350 : ma_F R_AW 350 8 7 (.int) false := ⟨R_Sa, T_Sa, 8, ty_Sa, rfl, by decide, in_Sa, tyok_Sa, nm_Sa, rfl, rfl, (fun h => by cases h), Or.inr ⟨rfl, "AddressWords", List.mem_of_getElem? (i := 86) (by decide +kernel)⟩⟩
theorem ac_char : Cond.arrayClass .char ∈ lw_tbl := List.mem_of_getElem? (i := 104) (by decide +kernel)
theorem ac_int : Cond.arrayClass .int ∈ lw_tbl := List.mem_of_getElem? (i := 105) (by decide +kernel)
theorem cl_AW_34 : Cond.classLink R_AW 34 R_Ed ∈ lw_tbl := List.mem_of_getElem? (i := 106) (by decide +kernel)
theorem mw_AW_36 : ma_w R_AW 36 y_Ed_init c_Ed_init 1 none 0 := ⟨Or.inr ⟨"AddressWords", List.mem_of_getElem? (i := 108) (by decide +kernel)⟩, List.mem_of_getElem? (i := 36) (by decide +kernel), List.mem_of_getElem? (i := 110) (by decide +kernel), ⟨by decide +kernel, by decide +kernel⟩, by decide +kernel⟩
theorem mi_Ed_init : Cond.instanceMethod y_Ed_init ∈ lw_tbl := List.mem_of_getElem? (i := 109) (by decide +kernel)
theorem ml_Ed_3 : Cond.methodLink R_Ed 3 objectInit ∈ lw_tbl := List.mem_of_getElem? (i := 111) (by decide +kernel)
theorem fg_Ed_9 : ma_Fg R_Ed 9 2 0 := ⟨R_Ed, T_Ed, 3, rfl, by decide, in_Ed, Or.inl (List.mem_of_getElem? (i := 112) (by decide +kernel))⟩
theorem fp_Ed_9 : ma_F R_Ed 9 2 0 (.array .int) false := ⟨R_Ed, T_Ed, 3, ty_Ed, rfl, by decide, in_Ed, tyok_Ed, nm_Ed, rfl, rfl, (fun h => by cases h), Or.inl (List.mem_of_getElem? (i := 112) (by decide +kernel))⟩
theorem fg_Ed_15 : ma_Fg R_Ed 15 2 1 := ⟨R_Ed, T_Ed, 3, rfl, by decide, in_Ed, Or.inl (List.mem_of_getElem? (i := 113) (by decide +kernel))⟩
theorem fp_Ed_15 : ma_F R_Ed 15 2 1 (.array .int) false := ⟨R_Ed, T_Ed, 3, ty_Ed, rfl, by decide, in_Ed, tyok_Ed, nm_Ed, rfl, rfl, (fun h => by cases h), Or.inl (List.mem_of_getElem? (i := 113) (by decide +kernel))⟩
theorem fg_Ed_18 : ma_Fg R_Ed 18 2 2 := ⟨R_Ed, T_Ed, 3, rfl, by decide, in_Ed, Or.inl (List.mem_of_getElem? (i := 114) (by decide +kernel))⟩
theorem fp_Ed_18 : ma_F R_Ed 18 2 2 (.array .int) false := ⟨R_Ed, T_Ed, 3, ty_Ed, rfl, by decide, in_Ed, tyok_Ed, nm_Ed, rfl, rfl, (fun h => by cases h), Or.inl (List.mem_of_getElem? (i := 114) (by decide +kernel))⟩
theorem cl_AW_41 : Cond.classLink R_AW 41 R_Ra ∈ lw_tbl := List.mem_of_getElem? (i := 122) (by decide +kernel)
theorem mw_AW_43 : ma_w R_AW 43 y_Ra_init c_Ra_init 1 none 0 := ⟨Or.inr ⟨"AddressWords", List.mem_of_getElem? (i := 124) (by decide +kernel)⟩, List.mem_of_getElem? (i := 37) (by decide +kernel), List.mem_of_getElem? (i := 126) (by decide +kernel), ⟨by decide +kernel, by decide +kernel⟩, by decide +kernel⟩
theorem mi_Ra_init : Cond.instanceMethod y_Ra_init ∈ lw_tbl := List.mem_of_getElem? (i := 125) (by decide +kernel)
theorem ml_Ra_3 : Cond.methodLink R_Ra 3 objectInit ∈ lw_tbl := List.mem_of_getElem? (i := 127) (by decide +kernel)
theorem fg_Ra_9 : ma_Fg R_Ra 9 7 0 := ⟨R_Ra, T_Ra, 4, rfl, by decide, in_Ra, Or.inl (List.mem_of_getElem? (i := 128) (by decide +kernel))⟩
theorem fp_Ra_9 : ma_F R_Ra 9 7 0 (.array .int) true := ⟨R_Ra, T_Ra, 4, ty_Ra, rfl, by decide, in_Ra, tyok_Ra, nm_Ra, rfl, rfl, (fun _ => rfl), Or.inl (List.mem_of_getElem? (i := 128) (by decide +kernel))⟩
theorem fg_AW_235 : ma_Fg R_AW 235 7 0 := ⟨R_Ra, T_Ra, 4, rfl, by decide, in_Ra, Or.inr ⟨"AddressWords", List.mem_of_getElem? (i := 129) (by decide +kernel)⟩⟩
theorem fg_Ra_15 : ma_Fg R_Ra 15 7 1 := ⟨R_Ra, T_Ra, 4, rfl, by decide, in_Ra, Or.inl (List.mem_of_getElem? (i := 130) (by decide +kernel))⟩
theorem fp_Ra_15 : ma_F R_Ra 15 7 1 (.array .int) true := ⟨R_Ra, T_Ra, 4, ty_Ra, rfl, by decide, in_Ra, tyok_Ra, nm_Ra, rfl, rfl, (fun _ => rfl), Or.inl (List.mem_of_getElem? (i := 130) (by decide +kernel))⟩
theorem fg_AW_239 : ma_Fg R_AW 239 7 1 := ⟨R_Ra, T_Ra, 4, rfl, by decide, in_Ra, Or.inr ⟨"AddressWords", List.mem_of_getElem? (i := 131) (by decide +kernel)⟩⟩
theorem fg_Ra_18 : ma_Fg R_Ra 18 7 2 := ⟨R_Ra, T_Ra, 4, rfl, by decide, in_Ra, Or.inl (List.mem_of_getElem? (i := 132) (by decide +kernel))⟩
theorem fp_Ra_18 : ma_F R_Ra 18 7 2 (.int) false := ⟨R_Ra, T_Ra, 4, ty_Ra, rfl, by decide, in_Ra, tyok_Ra, nm_Ra, rfl, rfl, (fun h => by cases h), Or.inl (List.mem_of_getElem? (i := 132) (by decide +kernel))⟩
theorem fg_Ra_22 : ma_Fg R_Ra 22 7 3 := ⟨R_Ra, T_Ra, 4, rfl, by decide, in_Ra, Or.inl (List.mem_of_getElem? (i := 133) (by decide +kernel))⟩
theorem fp_Ra_22 : ma_F R_Ra 22 7 3 (.int) false := ⟨R_Ra, T_Ra, 4, ty_Ra, rfl, by decide, in_Ra, tyok_Ra, nm_Ra, rfl, rfl, (fun h => by cases h), Or.inl (List.mem_of_getElem? (i := 133) (by decide +kernel))⟩
theorem fg_AW_229 : ma_Fg R_AW 229 7 3 := ⟨R_Ra, T_Ra, 4, rfl, by decide, in_Ra, Or.inr ⟨"AddressWords", List.mem_of_getElem? (i := 134) (by decide +kernel)⟩⟩
theorem fp_AW_229 : ma_F R_AW 229 7 3 (.int) false := ⟨R_Ra, T_Ra, 4, ty_Ra, rfl, by decide, in_Ra, tyok_Ra, nm_Ra, rfl, rfl, (fun h => by cases h), Or.inr ⟨rfl, "AddressWords", List.mem_of_getElem? (i := 134) (by decide +kernel)⟩⟩
theorem cl_AW_48 : Cond.classLink R_AW 48 R_Pl ∈ lw_tbl := List.mem_of_getElem? (i := 144) (by decide +kernel)
theorem ao_Pl : Cond.arrayOver (.object R_Pl) ∈ lw_tbl := List.mem_of_getElem? (i := 145) (by decide +kernel)
theorem mw_AW_54 : ma_w R_AW 54 y_Pl_init c_Pl_init 1 none 0 := ⟨Or.inr ⟨"AddressWords", List.mem_of_getElem? (i := 147) (by decide +kernel)⟩, List.mem_of_getElem? (i := 38) (by decide +kernel), List.mem_of_getElem? (i := 149) (by decide +kernel), ⟨by decide +kernel, by decide +kernel⟩, by decide +kernel⟩
theorem mi_Pl_init : Cond.instanceMethod y_Pl_init ∈ lw_tbl := List.mem_of_getElem? (i := 148) (by decide +kernel)
theorem ml_Pl_1 : Cond.methodLink R_Pl 1 objectInit ∈ lw_tbl := List.mem_of_getElem? (i := 150) (by decide +kernel)
theorem fg_AW_253 : ma_Fg R_AW 253 6 0 := ⟨R_Pl, T_Pl, 6, rfl, by decide, in_Pl, Or.inr ⟨"AddressWords", List.mem_of_getElem? (i := 151) (by decide +kernel)⟩⟩
theorem fp_AW_253 : ma_F R_AW 253 6 0 (.int) false := ⟨R_Pl, T_Pl, 6, ty_Pl, rfl, by decide, in_Pl, tyok_Pl, nm_Pl, rfl, rfl, (fun h => by cases h), Or.inr ⟨rfl, "AddressWords", List.mem_of_getElem? (i := 151) (by decide +kernel)⟩⟩
theorem fg_AW_256 : ma_Fg R_AW 256 6 1 := ⟨R_Pl, T_Pl, 6, rfl, by decide, in_Pl, Or.inr ⟨"AddressWords", List.mem_of_getElem? (i := 152) (by decide +kernel)⟩⟩
theorem fp_AW_256 : ma_F R_AW 256 6 1 (.int) false := ⟨R_Pl, T_Pl, 6, ty_Pl, rfl, by decide, in_Pl, tyok_Pl, nm_Pl, rfl, rfl, (fun h => by cases h), Or.inr ⟨rfl, "AddressWords", List.mem_of_getElem? (i := 152) (by decide +kernel)⟩⟩
theorem fg_AW_259 : ma_Fg R_AW 259 6 2 := ⟨R_Pl, T_Pl, 6, rfl, by decide, in_Pl, Or.inr ⟨"AddressWords", List.mem_of_getElem? (i := 153) (by decide +kernel)⟩⟩
theorem fp_AW_259 : ma_F R_AW 259 6 2 (.int) false := ⟨R_Pl, T_Pl, 6, ty_Pl, rfl, by decide, in_Pl, tyok_Pl, nm_Pl, rfl, rfl, (fun h => by cases h), Or.inr ⟨rfl, "AddressWords", List.mem_of_getElem? (i := 153) (by decide +kernel)⟩⟩
theorem fg_AW_262 : ma_Fg R_AW 262 6 3 := ⟨R_Pl, T_Pl, 6, rfl, by decide, in_Pl, Or.inr ⟨"AddressWords", List.mem_of_getElem? (i := 154) (by decide +kernel)⟩⟩
theorem fp_AW_262 : ma_F R_AW 262 6 3 (.int) false := ⟨R_Pl, T_Pl, 6, ty_Pl, rfl, by decide, in_Pl, tyok_Pl, nm_Pl, rfl, rfl, (fun h => by cases h), Or.inr ⟨rfl, "AddressWords", List.mem_of_getElem? (i := 154) (by decide +kernel)⟩⟩
theorem fg_AW_265 : ma_Fg R_AW 265 6 4 := ⟨R_Pl, T_Pl, 6, rfl, by decide, in_Pl, Or.inr ⟨"AddressWords", List.mem_of_getElem? (i := 155) (by decide +kernel)⟩⟩
theorem fp_AW_265 : ma_F R_AW 265 6 4 (.int) false := ⟨R_Pl, T_Pl, 6, ty_Pl, rfl, by decide, in_Pl, tyok_Pl, nm_Pl, rfl, rfl, (fun h => by cases h), Or.inr ⟨rfl, "AddressWords", List.mem_of_getElem? (i := 155) (by decide +kernel)⟩⟩
theorem fg_AW_268 : ma_Fg R_AW 268 6 5 := ⟨R_Pl, T_Pl, 6, rfl, by decide, in_Pl, Or.inr ⟨"AddressWords", List.mem_of_getElem? (i := 156) (by decide +kernel)⟩⟩
theorem fp_AW_268 : ma_F R_AW 268 6 5 (.int) false := ⟨R_Pl, T_Pl, 6, ty_Pl, rfl, by decide, in_Pl, tyok_Pl, nm_Pl, rfl, rfl, (fun h => by cases h), Or.inr ⟨rfl, "AddressWords", List.mem_of_getElem? (i := 156) (by decide +kernel)⟩⟩
theorem fg_AW_11 : ma_Fg R_AW 11 0 0 := ⟨R_AW, T_AW, 11, rfl, by decide, in_AW, Or.inl (List.mem_of_getElem? (i := 170) (by decide +kernel))⟩
theorem fp_AW_11 : ma_F R_AW 11 0 0 (.array (.object "AddressWords$Street")) true := ⟨R_AW, T_AW, 11, ty_AW, rfl, by decide, in_AW, tyok_AW, nm_AW, rfl, rfl, (fun _ => rfl), Or.inl (List.mem_of_getElem? (i := 170) (by decide +kernel))⟩
theorem fg_AW_62 : ma_Fg R_AW 62 0 1 := ⟨R_AW, T_AW, 11, rfl, by decide, in_AW, Or.inl (List.mem_of_getElem? (i := 171) (by decide +kernel))⟩
theorem fp_AW_62 : ma_F R_AW 62 0 1 (.int) false := ⟨R_AW, T_AW, 11, ty_AW, rfl, by decide, in_AW, tyok_AW, nm_AW, rfl, rfl, (fun h => by cases h), Or.inl (List.mem_of_getElem? (i := 171) (by decide +kernel))⟩
theorem fg_AW_17 : ma_Fg R_AW 17 0 2 := ⟨R_AW, T_AW, 11, rfl, by decide, in_AW, Or.inl (List.mem_of_getElem? (i := 172) (by decide +kernel))⟩
theorem fp_AW_17 : ma_F R_AW 17 0 2 (.array (.object "AddressWords$Landmark")) true := ⟨R_AW, T_AW, 11, ty_AW, rfl, by decide, in_AW, tyok_AW, nm_AW, rfl, rfl, (fun _ => rfl), Or.inl (List.mem_of_getElem? (i := 172) (by decide +kernel))⟩
theorem fg_AW_162 : ma_Fg R_AW 162 0 3 := ⟨R_AW, T_AW, 11, rfl, by decide, in_AW, Or.inl (List.mem_of_getElem? (i := 173) (by decide +kernel))⟩
theorem fp_AW_162 : ma_F R_AW 162 0 3 (.int) false := ⟨R_AW, T_AW, 11, ty_AW, rfl, by decide, in_AW, tyok_AW, nm_AW, rfl, rfl, (fun h => by cases h), Or.inl (List.mem_of_getElem? (i := 173) (by decide +kernel))⟩
theorem fg_AW_23 : ma_Fg R_AW 23 0 4 := ⟨R_AW, T_AW, 11, rfl, by decide, in_AW, Or.inl (List.mem_of_getElem? (i := 174) (by decide +kernel))⟩
theorem fp_AW_23 : ma_F R_AW 23 0 4 (.array (.object "AddressWords$Corner")) true := ⟨R_AW, T_AW, 11, ty_AW, rfl, by decide, in_AW, tyok_AW, nm_AW, rfl, rfl, (fun _ => rfl), Or.inl (List.mem_of_getElem? (i := 174) (by decide +kernel))⟩
theorem fg_AW_179 : ma_Fg R_AW 179 0 5 := ⟨R_AW, T_AW, 11, rfl, by decide, in_AW, Or.inl (List.mem_of_getElem? (i := 175) (by decide +kernel))⟩
theorem fp_AW_179 : ma_F R_AW 179 0 5 (.int) false := ⟨R_AW, T_AW, 11, ty_AW, rfl, by decide, in_AW, tyok_AW, nm_AW, rfl, rfl, (fun h => by cases h), Or.inl (List.mem_of_getElem? (i := 175) (by decide +kernel))⟩
theorem fg_AW_30 : ma_Fg R_AW 30 0 6 := ⟨R_AW, T_AW, 11, rfl, by decide, in_AW, Or.inl (List.mem_of_getElem? (i := 176) (by decide +kernel))⟩
theorem fp_AW_30 : ma_F R_AW 30 0 6 (.object "AddressWords$Said") true := ⟨R_AW, T_AW, 11, ty_AW, rfl, by decide, in_AW, tyok_AW, nm_AW, rfl, rfl, (fun _ => rfl), Or.inl (List.mem_of_getElem? (i := 176) (by decide +kernel))⟩
theorem fg_AW_37 : ma_Fg R_AW 37 0 7 := ⟨R_AW, T_AW, 11, rfl, by decide, in_AW, Or.inl (List.mem_of_getElem? (i := 177) (by decide +kernel))⟩
theorem fp_AW_37 : ma_F R_AW 37 0 7 (.object "AddressWords$Edits") true := ⟨R_AW, T_AW, 11, ty_AW, rfl, by decide, in_AW, tyok_AW, nm_AW, rfl, rfl, (fun _ => rfl), Or.inl (List.mem_of_getElem? (i := 177) (by decide +kernel))⟩
theorem fg_AW_44 : ma_Fg R_AW 44 0 8 := ⟨R_AW, T_AW, 11, rfl, by decide, in_AW, Or.inl (List.mem_of_getElem? (i := 178) (by decide +kernel))⟩
theorem fp_AW_44 : ma_F R_AW 44 0 8 (.object "AddressWords$Ranking") true := ⟨R_AW, T_AW, 11, ty_AW, rfl, by decide, in_AW, tyok_AW, nm_AW, rfl, rfl, (fun _ => rfl), Or.inl (List.mem_of_getElem? (i := 178) (by decide +kernel))⟩
theorem fg_AW_50 : ma_Fg R_AW 50 0 9 := ⟨R_AW, T_AW, 11, rfl, by decide, in_AW, Or.inl (List.mem_of_getElem? (i := 179) (by decide +kernel))⟩
theorem fp_AW_50 : ma_F R_AW 50 0 9 (.array (.object "AddressWords$Place")) true := ⟨R_AW, T_AW, 11, ty_AW, rfl, by decide, in_AW, tyok_AW, nm_AW, rfl, rfl, (fun _ => rfl), Or.inl (List.mem_of_getElem? (i := 179) (by decide +kernel))⟩
theorem fg_AW_232 : ma_Fg R_AW 232 0 10 := ⟨R_AW, T_AW, 11, rfl, by decide, in_AW, Or.inl (List.mem_of_getElem? (i := 180) (by decide +kernel))⟩
theorem fp_AW_232 : ma_F R_AW 232 0 10 (.int) false := ⟨R_AW, T_AW, 11, ty_AW, rfl, by decide, in_AW, tyok_AW, nm_AW, rfl, rfl, (fun h => by cases h), Or.inl (List.mem_of_getElem? (i := 180) (by decide +kernel))⟩
theorem mw_La_131 : ma_w R_La 131 y_AW_twice c_AW_twice 3 (some .int) 0 := ⟨Or.inl (List.mem_of_getElem? (i := 204) (by decide +kernel)), List.mem_of_getElem? (i := 34) (by decide +kernel), List.mem_of_getElem? (i := 207) (by decide +kernel), ⟨by decide +kernel, by decide +kernel⟩, by decide +kernel⟩
theorem ml_La_131 : Cond.methodLink R_La 131 y_AW_twice ∈ lw_tbl := List.mem_of_getElem? (i := 204) (by decide +kernel)
theorem mi_AW_twice : Cond.instanceMethod y_AW_twice ∈ lw_tbl := List.mem_of_getElem? (i := 205) (by decide +kernel)
theorem mw_AW_271 : ma_w R_AW 271 y_AW_sharesName c_AW_sharesName 4 (some .boolean) 1 := ⟨Or.inl (List.mem_of_getElem? (i := 208) (by decide +kernel)), List.mem_of_getElem? (i := 34) (by decide +kernel), List.mem_of_getElem? (i := 211) (by decide +kernel), ⟨by decide +kernel, by decide +kernel⟩, by decide +kernel⟩
theorem ml_AW_271 : Cond.methodLink R_AW 271 y_AW_sharesName ∈ lw_tbl := List.mem_of_getElem? (i := 208) (by decide +kernel)
theorem mi_AW_sharesName : Cond.instanceMethod y_AW_sharesName ∈ lw_tbl := List.mem_of_getElem? (i := 210) (by decide +kernel)
theorem mw_AW_290 : ma_w R_AW 290 y_St_sharesNameWith c_St_sharesNameWith 3 (some .boolean) 1 := ⟨Or.inl (List.mem_of_getElem? (i := 212) (by decide +kernel)), List.mem_of_getElem? (i := 45) (by decide +kernel), List.mem_of_getElem? (i := 215) (by decide +kernel), ⟨by decide +kernel, by decide +kernel⟩, by decide +kernel⟩
theorem ml_AW_290 : Cond.methodLink R_AW 290 y_St_sharesNameWith ∈ lw_tbl := List.mem_of_getElem? (i := 212) (by decide +kernel)
theorem mi_St_sharesNameWith : Cond.instanceMethod y_St_sharesNameWith ∈ lw_tbl := List.mem_of_getElem? (i := 213) (by decide +kernel)
theorem mw_St_76 : ma_w R_St 76 y_St_hasName c_St_hasName 3 (some .boolean) 1 := ⟨Or.inl (List.mem_of_getElem? (i := 216) (by decide +kernel)), List.mem_of_getElem? (i := 45) (by decide +kernel), List.mem_of_getElem? (i := 220) (by decide +kernel), ⟨by decide +kernel, by decide +kernel⟩, by decide +kernel⟩
theorem ml_St_76 : Cond.methodLink R_St 76 y_St_hasName ∈ lw_tbl := List.mem_of_getElem? (i := 216) (by decide +kernel)
theorem mi_St_hasName : Cond.instanceMethod y_St_hasName ∈ lw_tbl := List.mem_of_getElem? (i := 218) (by decide +kernel)
theorem mw_St_80 : ma_w R_St 80 y_Na_isEmpty c_Na_isEmpty 1 (some .boolean) 0 := ⟨Or.inl (List.mem_of_getElem? (i := 221) (by decide +kernel)), List.mem_of_getElem? (i := 46) (by decide +kernel), List.mem_of_getElem? (i := 224) (by decide +kernel), ⟨by decide +kernel, by decide +kernel⟩, by decide +kernel⟩
theorem ml_St_80 : Cond.methodLink R_St 80 y_Na_isEmpty ∈ lw_tbl := List.mem_of_getElem? (i := 221) (by decide +kernel)
theorem mi_Na_isEmpty : Cond.instanceMethod y_Na_isEmpty ∈ lw_tbl := List.mem_of_getElem? (i := 222) (by decide +kernel)
theorem mw_St_84 : ma_w R_St 84 y_Na_isSameAs c_Na_isSameAs 3 (some .boolean) 1 := ⟨Or.inl (List.mem_of_getElem? (i := 225) (by decide +kernel)), List.mem_of_getElem? (i := 46) (by decide +kernel), List.mem_of_getElem? (i := 228) (by decide +kernel), ⟨by decide +kernel, by decide +kernel⟩, by decide +kernel⟩
theorem ml_St_84 : Cond.methodLink R_St 84 y_Na_isSameAs ∈ lw_tbl := List.mem_of_getElem? (i := 225) (by decide +kernel)
theorem mi_Na_isSameAs : Cond.instanceMethod y_Na_isSameAs ∈ lw_tbl := List.mem_of_getElem? (i := 226) (by decide +kernel)
theorem mh_La_72 : ma_wh R_La 72 y_La_street c_La_street 4 (some .int) [(0, 9, 12, 13), (0, 9, 15, 15)] 3 := ⟨List.mem_of_getElem? (i := 229) (by decide +kernel), List.mem_of_getElem? (i := 33) (by decide +kernel), List.mem_of_getElem? (i := 231) (by decide +kernel), ⟨by decide +kernel, by decide +kernel⟩, by decide +kernel⟩
theorem ml_La_72 : Cond.methodLink R_La 72 y_La_street ∈ lw_tbl := List.mem_of_getElem? (i := 229) (by decide +kernel)
theorem mst_La_street : Cond.static y_La_street ∈ lw_tbl := List.mem_of_getElem? (i := 230) (by decide +kernel)
theorem cl_La_13 : Cond.classLink R_La 13 x_IO ∈ lw_tbl := List.mem_of_getElem? (i := 232) (by decide +kernel)
theorem cl_La_15 : Cond.classLink R_La 15 x_UO ∈ lw_tbl := List.mem_of_getElem? (i := 233) (by decide +kernel)
theorem mw_La_7 : ma_w R_La 7 y_AW_street c_AW_street 2 (some .int) 1 := ⟨Or.inl (List.mem_of_getElem? (i := 234) (by decide +kernel)), List.mem_of_getElem? (i := 34) (by decide +kernel), List.mem_of_getElem? (i := 237) (by decide +kernel), ⟨by decide +kernel, by decide +kernel⟩, by decide +kernel⟩
theorem ml_La_7 : Cond.methodLink R_La 7 y_AW_street ∈ lw_tbl := List.mem_of_getElem? (i := 234) (by decide +kernel)
theorem mi_AW_street : Cond.instanceMethod y_AW_street ∈ lw_tbl := List.mem_of_getElem? (i := 235) (by decide +kernel)
theorem cl_AW_55 : Cond.classLink R_AW 55 x_IO ∈ lw_tbl := List.mem_of_getElem? (i := 238) (by decide +kernel)
theorem ca_IO : Cond.castable x_IO x_IO ∈ lw_tbl := List.mem_of_getElem? (i := 240) (by decide +kernel)
theorem sr_AW_57 : Cond.stringRef R_AW 57 "no such area" ∈ lw_tbl := List.mem_of_getElem? (i := 280) (by decide +kernel)
theorem ac_byte : Cond.arrayClass .byte ∈ lw_tbl := List.mem_of_getElem? (i := 306) (by decide +kernel)
theorem cl_AW_66 : Cond.classLink R_AW 66 x_UO ∈ lw_tbl := List.mem_of_getElem? (i := 307) (by decide +kernel)
theorem ca_UO : Cond.castable x_UO x_UO ∈ lw_tbl := List.mem_of_getElem? (i := 309) (by decide +kernel)
theorem sr_AW_68 : Cond.stringRef R_AW 68 "no room for a street" ∈ lw_tbl := List.mem_of_getElem? (i := 316) (by decide +kernel)
theorem mw_AW_71 : ma_w R_AW 71 y_St_init c_St_init 3 none 1 := ⟨Or.inl (List.mem_of_getElem? (i := 323) (by decide +kernel)), List.mem_of_getElem? (i := 45) (by decide +kernel), List.mem_of_getElem? (i := 325) (by decide +kernel), ⟨by decide +kernel, by decide +kernel⟩, by decide +kernel⟩
theorem ml_AW_71 : Cond.methodLink R_AW 71 y_St_init ∈ lw_tbl := List.mem_of_getElem? (i := 323) (by decide +kernel)
theorem mi_St_init : Cond.instanceMethod y_St_init ∈ lw_tbl := List.mem_of_getElem? (i := 324) (by decide +kernel)
theorem ml_St_3 : Cond.methodLink R_St 3 objectInit ∈ lw_tbl := List.mem_of_getElem? (i := 326) (by decide +kernel)
theorem cl_St_9 : Cond.classLink R_St 9 R_Na ∈ lw_tbl := List.mem_of_getElem? (i := 327) (by decide +kernel)
theorem ao_Na : Cond.arrayOver (.object R_Na) ∈ lw_tbl := List.mem_of_getElem? (i := 328) (by decide +kernel)
theorem cl_St_21 : Cond.classLink R_St 21 R_HR ∈ lw_tbl := List.mem_of_getElem? (i := 329) (by decide +kernel)
theorem ao_HR : Cond.arrayOver (.object R_HR) ∈ lw_tbl := List.mem_of_getElem? (i := 330) (by decide +kernel)
theorem mw_St_30 : ma_w R_St 30 y_Na_init c_Na_init 1 none 0 := ⟨Or.inr ⟨"AddressWords", List.mem_of_getElem? (i := 332) (by decide +kernel)⟩, List.mem_of_getElem? (i := 46) (by decide +kernel), List.mem_of_getElem? (i := 334) (by decide +kernel), ⟨by decide +kernel, by decide +kernel⟩, by decide +kernel⟩
theorem mi_Na_init : Cond.instanceMethod y_Na_init ∈ lw_tbl := List.mem_of_getElem? (i := 333) (by decide +kernel)
theorem ml_Na_3 : Cond.methodLink R_Na 3 objectInit ∈ lw_tbl := List.mem_of_getElem? (i := 335) (by decide +kernel)
theorem fg_Na_9 : ma_Fg R_Na 9 5 0 := ⟨R_Na, T_Na, 2, rfl, by decide, in_Na, Or.inl (List.mem_of_getElem? (i := 336) (by decide +kernel))⟩
theorem fp_Na_9 : ma_F R_Na 9 5 0 (.array .char) true := ⟨R_Na, T_Na, 2, ty_Na, rfl, by decide, in_Na, tyok_Na, nm_Na, rfl, rfl, (fun _ => rfl), Or.inl (List.mem_of_getElem? (i := 336) (by decide +kernel))⟩
theorem fg_Ed_34 : ma_Fg R_Ed 34 5 0 := ⟨R_Na, T_Na, 2, rfl, by decide, in_Na, Or.inr ⟨"AddressWords", List.mem_of_getElem? (i := 337) (by decide +kernel)⟩⟩
theorem fg_Na_15 : ma_Fg R_Na 15 5 1 := ⟨R_Na, T_Na, 2, rfl, by decide, in_Na, Or.inl (List.mem_of_getElem? (i := 338) (by decide +kernel))⟩
theorem fp_Na_15 : ma_F R_Na 15 5 1 (.int) false := ⟨R_Na, T_Na, 2, ty_Na, rfl, by decide, in_Na, tyok_Na, nm_Na, rfl, rfl, (fun h => by cases h), Or.inl (List.mem_of_getElem? (i := 338) (by decide +kernel))⟩
theorem fg_Ed_21 : ma_Fg R_Ed 21 5 1 := ⟨R_Na, T_Na, 2, rfl, by decide, in_Na, Or.inr ⟨"AddressWords", List.mem_of_getElem? (i := 339) (by decide +kernel)⟩⟩
theorem fp_Ed_21 : ma_F R_Ed 21 5 1 (.int) false := ⟨R_Na, T_Na, 2, ty_Na, rfl, by decide, in_Na, tyok_Na, nm_Na, rfl, rfl, (fun h => by cases h), Or.inr ⟨rfl, "AddressWords", List.mem_of_getElem? (i := 339) (by decide +kernel)⟩⟩
theorem fg_AW_100 : ma_Fg R_AW 100 5 1 := ⟨R_Na, T_Na, 2, rfl, by decide, in_Na, Or.inr ⟨"AddressWords", List.mem_of_getElem? (i := 340) (by decide +kernel)⟩⟩
theorem fp_AW_100 : ma_F R_AW 100 5 1 (.int) false := ⟨R_Na, T_Na, 2, ty_Na, rfl, by decide, in_Na, tyok_Na, nm_Na, rfl, rfl, (fun h => by cases h), Or.inr ⟨rfl, "AddressWords", List.mem_of_getElem? (i := 340) (by decide +kernel)⟩⟩
theorem fg_St_27 : ma_Fg R_St 27 9 0 := ⟨R_St, T_St, 11, rfl, by decide, in_St, Or.inl (List.mem_of_getElem? (i := 346) (by decide +kernel))⟩
theorem fp_St_27 : ma_F R_St 27 9 0 (.int) true := ⟨R_St, T_St, 11, ty_St, rfl, by decide, in_St, tyok_St, nm_St, rfl, rfl, (fun _ => rfl), Or.inl (List.mem_of_getElem? (i := 346) (by decide +kernel))⟩
theorem fg_AW_289 : ma_Fg R_AW 289 9 0 := ⟨R_St, T_St, 11, rfl, by decide, in_St, Or.inr ⟨"AddressWords", List.mem_of_getElem? (i := 347) (by decide +kernel)⟩⟩
theorem fg_St_11 : ma_Fg R_St 11 9 1 := ⟨R_St, T_St, 11, rfl, by decide, in_St, Or.inl (List.mem_of_getElem? (i := 348) (by decide +kernel))⟩
theorem fp_St_11 : ma_F R_St 11 9 1 (.array (.object "AddressWords$Name")) true := ⟨R_St, T_St, 11, ty_St, rfl, by decide, in_St, tyok_St, nm_St, rfl, rfl, (fun _ => rfl), Or.inl (List.mem_of_getElem? (i := 348) (by decide +kernel))⟩
theorem fg_AW_308 : ma_Fg R_AW 308 9 1 := ⟨R_St, T_St, 11, rfl, by decide, in_St, Or.inr ⟨"AddressWords", List.mem_of_getElem? (i := 349) (by decide +kernel)⟩⟩
theorem fg_St_17 : ma_Fg R_St 17 9 2 := ⟨R_St, T_St, 11, rfl, by decide, in_St, Or.inl (List.mem_of_getElem? (i := 350) (by decide +kernel))⟩
theorem fp_St_17 : ma_F R_St 17 9 2 (.int) false := ⟨R_St, T_St, 11, ty_St, rfl, by decide, in_St, tyok_St, nm_St, rfl, rfl, (fun h => by cases h), Or.inl (List.mem_of_getElem? (i := 350) (by decide +kernel))⟩
theorem fg_AW_112 : ma_Fg R_AW 112 9 2 := ⟨R_St, T_St, 11, rfl, by decide, in_St, Or.inr ⟨"AddressWords", List.mem_of_getElem? (i := 351) (by decide +kernel)⟩⟩
theorem fp_AW_112 : ma_F R_AW 112 9 2 (.int) false := ⟨R_St, T_St, 11, ty_St, rfl, by decide, in_St, tyok_St, nm_St, rfl, rfl, (fun h => by cases h), Or.inr ⟨rfl, "AddressWords", List.mem_of_getElem? (i := 351) (by decide +kernel)⟩⟩
theorem fg_St_23 : ma_Fg R_St 23 9 3 := ⟨R_St, T_St, 11, rfl, by decide, in_St, Or.inl (List.mem_of_getElem? (i := 352) (by decide +kernel))⟩
theorem fp_St_23 : ma_F R_St 23 9 3 (.array (.object "AddressWords$HouseRange")) true := ⟨R_St, T_St, 11, ty_St, rfl, by decide, in_St, tyok_St, nm_St, rfl, rfl, (fun _ => rfl), Or.inl (List.mem_of_getElem? (i := 352) (by decide +kernel))⟩
theorem fg_AW_126 : ma_Fg R_AW 126 9 3 := ⟨R_St, T_St, 11, rfl, by decide, in_St, Or.inr ⟨"AddressWords", List.mem_of_getElem? (i := 353) (by decide +kernel)⟩⟩
theorem fg_St_60 : ma_Fg R_St 60 9 4 := ⟨R_St, T_St, 11, rfl, by decide, in_St, Or.inl (List.mem_of_getElem? (i := 354) (by decide +kernel))⟩
theorem fp_St_60 : ma_F R_St 60 9 4 (.int) false := ⟨R_St, T_St, 11, ty_St, rfl, by decide, in_St, tyok_St, nm_St, rfl, rfl, (fun h => by cases h), Or.inl (List.mem_of_getElem? (i := 354) (by decide +kernel))⟩
theorem fg_AW_121 : ma_Fg R_AW 121 9 4 := ⟨R_St, T_St, 11, rfl, by decide, in_St, Or.inr ⟨"AddressWords", List.mem_of_getElem? (i := 355) (by decide +kernel)⟩⟩
theorem fp_AW_121 : ma_F R_AW 121 9 4 (.int) false := ⟨R_St, T_St, 11, ty_St, rfl, by decide, in_St, tyok_St, nm_St, rfl, rfl, (fun h => by cases h), Or.inr ⟨rfl, "AddressWords", List.mem_of_getElem? (i := 355) (by decide +kernel)⟩⟩
theorem fg_St_31 : ma_Fg R_St 31 9 5 := ⟨R_St, T_St, 11, rfl, by decide, in_St, Or.inl (List.mem_of_getElem? (i := 356) (by decide +kernel))⟩
theorem fp_St_31 : ma_F R_St 31 9 5 (.int) false := ⟨R_St, T_St, 11, ty_St, rfl, by decide, in_St, tyok_St, nm_St, rfl, rfl, (fun h => by cases h), Or.inl (List.mem_of_getElem? (i := 356) (by decide +kernel))⟩
theorem fg_AW_186 : ma_Fg R_AW 186 9 5 := ⟨R_St, T_St, 11, rfl, by decide, in_St, Or.inr ⟨"AddressWords", List.mem_of_getElem? (i := 357) (by decide +kernel)⟩⟩
theorem fp_AW_186 : ma_F R_AW 186 9 5 (.int) false := ⟨R_St, T_St, 11, ty_St, rfl, by decide, in_St, tyok_St, nm_St, rfl, rfl, (fun h => by cases h), Or.inr ⟨rfl, "AddressWords", List.mem_of_getElem? (i := 357) (by decide +kernel)⟩⟩
theorem fg_St_34 : ma_Fg R_St 34 9 6 := ⟨R_St, T_St, 11, rfl, by decide, in_St, Or.inl (List.mem_of_getElem? (i := 358) (by decide +kernel))⟩
theorem fp_St_34 : ma_F R_St 34 9 6 (.int) false := ⟨R_St, T_St, 11, ty_St, rfl, by decide, in_St, tyok_St, nm_St, rfl, rfl, (fun h => by cases h), Or.inl (List.mem_of_getElem? (i := 358) (by decide +kernel))⟩
theorem fg_AW_196 : ma_Fg R_AW 196 9 6 := ⟨R_St, T_St, 11, rfl, by decide, in_St, Or.inr ⟨"AddressWords", List.mem_of_getElem? (i := 359) (by decide +kernel)⟩⟩
theorem fp_AW_196 : ma_F R_AW 196 9 6 (.int) false := ⟨R_St, T_St, 11, ty_St, rfl, by decide, in_St, tyok_St, nm_St, rfl, rfl, (fun h => by cases h), Or.inr ⟨rfl, "AddressWords", List.mem_of_getElem? (i := 359) (by decide +kernel)⟩⟩
theorem fg_St_37 : ma_Fg R_St 37 9 7 := ⟨R_St, T_St, 11, rfl, by decide, in_St, Or.inl (List.mem_of_getElem? (i := 360) (by decide +kernel))⟩
theorem fp_St_37 : ma_F R_St 37 9 7 (.int) false := ⟨R_St, T_St, 11, ty_St, rfl, by decide, in_St, tyok_St, nm_St, rfl, rfl, (fun h => by cases h), Or.inl (List.mem_of_getElem? (i := 360) (by decide +kernel))⟩
theorem fg_AW_189 : ma_Fg R_AW 189 9 7 := ⟨R_St, T_St, 11, rfl, by decide, in_St, Or.inr ⟨"AddressWords", List.mem_of_getElem? (i := 361) (by decide +kernel)⟩⟩
theorem fp_AW_189 : ma_F R_AW 189 9 7 (.int) false := ⟨R_St, T_St, 11, ty_St, rfl, by decide, in_St, tyok_St, nm_St, rfl, rfl, (fun h => by cases h), Or.inr ⟨rfl, "AddressWords", List.mem_of_getElem? (i := 361) (by decide +kernel)⟩⟩
theorem fg_St_40 : ma_Fg R_St 40 9 8 := ⟨R_St, T_St, 11, rfl, by decide, in_St, Or.inl (List.mem_of_getElem? (i := 362) (by decide +kernel))⟩
theorem fp_St_40 : ma_F R_St 40 9 8 (.int) false := ⟨R_St, T_St, 11, ty_St, rfl, by decide, in_St, tyok_St, nm_St, rfl, rfl, (fun h => by cases h), Or.inl (List.mem_of_getElem? (i := 362) (by decide +kernel))⟩
theorem fg_AW_199 : ma_Fg R_AW 199 9 8 := ⟨R_St, T_St, 11, rfl, by decide, in_St, Or.inr ⟨"AddressWords", List.mem_of_getElem? (i := 363) (by decide +kernel)⟩⟩
theorem fp_AW_199 : ma_F R_AW 199 9 8 (.int) false := ⟨R_St, T_St, 11, ty_St, rfl, by decide, in_St, tyok_St, nm_St, rfl, rfl, (fun h => by cases h), Or.inr ⟨rfl, "AddressWords", List.mem_of_getElem? (i := 363) (by decide +kernel)⟩⟩
theorem fg_St_51 : ma_Fg R_St 51 9 9 := ⟨R_St, T_St, 11, rfl, by decide, in_St, Or.inl (List.mem_of_getElem? (i := 364) (by decide +kernel))⟩
theorem fp_St_51 : ma_F R_St 51 9 9 (.int) false := ⟨R_St, T_St, 11, ty_St, rfl, by decide, in_St, tyok_St, nm_St, rfl, rfl, (fun h => by cases h), Or.inl (List.mem_of_getElem? (i := 364) (by decide +kernel))⟩
theorem fg_AW_142 : ma_Fg R_AW 142 9 9 := ⟨R_St, T_St, 11, rfl, by decide, in_St, Or.inr ⟨"AddressWords", List.mem_of_getElem? (i := 365) (by decide +kernel)⟩⟩
theorem fp_AW_142 : ma_F R_AW 142 9 9 (.int) false := ⟨R_St, T_St, 11, ty_St, rfl, by decide, in_St, tyok_St, nm_St, rfl, rfl, (fun h => by cases h), Or.inr ⟨rfl, "AddressWords", List.mem_of_getElem? (i := 365) (by decide +kernel)⟩⟩
theorem fg_AW_143 : ma_Fg R_AW 143 9 10 := ⟨R_St, T_St, 11, rfl, by decide, in_St, Or.inr ⟨"AddressWords", List.mem_of_getElem? (i := 366) (by decide +kernel)⟩⟩
theorem fp_AW_143 : ma_F R_AW 143 9 10 (.boolean) false := ⟨R_St, T_St, 11, ty_St, rfl, by decide, in_St, tyok_St, nm_St, rfl, rfl, (fun h => by cases h), Or.inr ⟨rfl, "AddressWords", List.mem_of_getElem? (i := 366) (by decide +kernel)⟩⟩
theorem mw_AW_74 : ma_w R_AW 74 y_AW_forgetPlaces c_AW_forgetPlaces 1 none 0 := ⟨Or.inl (List.mem_of_getElem? (i := 390) (by decide +kernel)), List.mem_of_getElem? (i := 34) (by decide +kernel), List.mem_of_getElem? (i := 393) (by decide +kernel), ⟨by decide +kernel, by decide +kernel⟩, by decide +kernel⟩
theorem ml_AW_74 : Cond.methodLink R_AW 74 y_AW_forgetPlaces ∈ lw_tbl := List.mem_of_getElem? (i := 390) (by decide +kernel)
theorem mi_AW_forgetPlaces : Cond.instanceMethod y_AW_forgetPlaces ∈ lw_tbl := List.mem_of_getElem? (i := 392) (by decide +kernel)
theorem mh_La_84 : ma_wh R_La 84 y_La_sign c_La_sign 7 (some .int) [(0, 13, 16, 21), (0, 13, 20, 13), (0, 13, 24, 15)] 5 := ⟨List.mem_of_getElem? (i := 394) (by decide +kernel), List.mem_of_getElem? (i := 33) (by decide +kernel), List.mem_of_getElem? (i := 396) (by decide +kernel), ⟨by decide +kernel, by decide +kernel⟩, by decide +kernel⟩
theorem ml_La_84 : Cond.methodLink R_La 84 y_La_sign ∈ lw_tbl := List.mem_of_getElem? (i := 394) (by decide +kernel)
theorem mst_La_sign : Cond.static y_La_sign ∈ lw_tbl := List.mem_of_getElem? (i := 395) (by decide +kernel)
theorem cl_La_21 : Cond.classLink R_La 21 x_IA ∈ lw_tbl := List.mem_of_getElem? (i := 397) (by decide +kernel)
theorem mw_La_17 : ma_w R_La 17 y_AW_sign c_AW_sign 6 (some .int) 3 := ⟨Or.inl (List.mem_of_getElem? (i := 398) (by decide +kernel)), List.mem_of_getElem? (i := 34) (by decide +kernel), List.mem_of_getElem? (i := 401) (by decide +kernel), ⟨by decide +kernel, by decide +kernel⟩, by decide +kernel⟩
theorem ml_La_17 : Cond.methodLink R_La 17 y_AW_sign ∈ lw_tbl := List.mem_of_getElem? (i := 398) (by decide +kernel)
theorem mi_AW_sign : Cond.instanceMethod y_AW_sign ∈ lw_tbl := List.mem_of_getElem? (i := 399) (by decide +kernel)
theorem mw_AW_77 : ma_w R_AW 77 y_AW_knownStreet c_AW_knownStreet 2 (some (.object "AddressWords$Street")) 1 := ⟨Or.inl (List.mem_of_getElem? (i := 402) (by decide +kernel)), List.mem_of_getElem? (i := 34) (by decide +kernel), List.mem_of_getElem? (i := 405) (by decide +kernel), ⟨by decide +kernel, by decide +kernel⟩, by decide +kernel⟩
theorem ml_AW_77 : Cond.methodLink R_AW 77 y_AW_knownStreet ∈ lw_tbl := List.mem_of_getElem? (i := 402) (by decide +kernel)
theorem mi_AW_knownStreet : Cond.instanceMethod y_AW_knownStreet ∈ lw_tbl := List.mem_of_getElem? (i := 404) (by decide +kernel)
theorem cl_AW_246 : Cond.classLink R_AW 246 x_IA ∈ lw_tbl := List.mem_of_getElem? (i := 406) (by decide +kernel)
theorem ca_IA : Cond.castable x_IA x_IA ∈ lw_tbl := List.mem_of_getElem? (i := 408) (by decide +kernel)
theorem sr_AW_274 : Cond.stringRef R_AW 274 "no such street" ∈ lw_tbl := List.mem_of_getElem? (i := 415) (by decide +kernel)
theorem mw_AW_81 : ma_w R_AW 81 y_St_latestName c_St_latestName 1 (some (.object "AddressWords$Name")) 0 := ⟨Or.inl (List.mem_of_getElem? (i := 422) (by decide +kernel)), List.mem_of_getElem? (i := 45) (by decide +kernel), List.mem_of_getElem? (i := 425) (by decide +kernel), ⟨by decide +kernel, by decide +kernel⟩, by decide +kernel⟩
theorem ml_AW_81 : Cond.methodLink R_AW 81 y_St_latestName ∈ lw_tbl := List.mem_of_getElem? (i := 422) (by decide +kernel)
theorem mi_St_latestName : Cond.instanceMethod y_St_latestName ∈ lw_tbl := List.mem_of_getElem? (i := 423) (by decide +kernel)
theorem mw_AW_85 : ma_w R_AW 85 y_AW_requireLetters c_AW_requireLetters 4 none 2 := ⟨Or.inl (List.mem_of_getElem? (i := 426) (by decide +kernel)), List.mem_of_getElem? (i := 34) (by decide +kernel), List.mem_of_getElem? (i := 428) (by decide +kernel), ⟨by decide +kernel, by decide +kernel⟩, by decide +kernel⟩
theorem ml_AW_85 : Cond.methodLink R_AW 85 y_AW_requireLetters ∈ lw_tbl := List.mem_of_getElem? (i := 426) (by decide +kernel)
theorem mst_AW_requireLetters : Cond.static y_AW_requireLetters ∈ lw_tbl := List.mem_of_getElem? (i := 427) (by decide +kernel)
theorem sr_AW_357 : Cond.stringRef R_AW 357 "not 1 to 8 letters" ∈ lw_tbl := List.mem_of_getElem? (i := 429) (by decide +kernel)
theorem mw_AW_359 : ma_w R_AW 359 y_AW_signAt c_AW_signAt 4 (some .char) 3 := ⟨Or.inl (List.mem_of_getElem? (i := 430) (by decide +kernel)), List.mem_of_getElem? (i := 34) (by decide +kernel), List.mem_of_getElem? (i := 432) (by decide +kernel), ⟨by decide +kernel, by decide +kernel⟩, by decide +kernel⟩
theorem ml_AW_359 : Cond.methodLink R_AW 359 y_AW_signAt ∈ lw_tbl := List.mem_of_getElem? (i := 430) (by decide +kernel)
theorem mst_AW_signAt : Cond.static y_AW_signAt ∈ lw_tbl := List.mem_of_getElem? (i := 431) (by decide +kernel)
theorem kc_AW_390 : Cond.constantLong R_AW 390 255 ∈ lw_tbl := List.mem_of_getElem? (i := 433) (by decide +kernel)
theorem mw_AW_363 : ma_w R_AW 363 y_AW_isLetter c_AW_isLetter 1 (some .boolean) 1 := ⟨Or.inl (List.mem_of_getElem? (i := 434) (by decide +kernel)), List.mem_of_getElem? (i := 34) (by decide +kernel), List.mem_of_getElem? (i := 436) (by decide +kernel), ⟨by decide +kernel, by decide +kernel⟩, by decide +kernel⟩
theorem ml_AW_363 : Cond.methodLink R_AW 363 y_AW_isLetter ∈ lw_tbl := List.mem_of_getElem? (i := 434) (by decide +kernel)
theorem mst_AW_isLetter : Cond.static y_AW_isLetter ∈ lw_tbl := List.mem_of_getElem? (i := 435) (by decide +kernel)
theorem sr_AW_367 : Cond.stringRef R_AW 367 "no letter" ∈ lw_tbl := List.mem_of_getElem? (i := 437) (by decide +kernel)
theorem mw_AW_89 : ma_w R_AW 89 y_Na_hasRoomFor c_Na_hasRoomFor 2 (some .boolean) 1 := ⟨Or.inl (List.mem_of_getElem? (i := 438) (by decide +kernel)), List.mem_of_getElem? (i := 46) (by decide +kernel), List.mem_of_getElem? (i := 441) (by decide +kernel), ⟨by decide +kernel, by decide +kernel⟩, by decide +kernel⟩
theorem ml_AW_89 : Cond.methodLink R_AW 89 y_Na_hasRoomFor ∈ lw_tbl := List.mem_of_getElem? (i := 438) (by decide +kernel)
theorem mi_Na_hasRoomFor : Cond.instanceMethod y_Na_hasRoomFor ∈ lw_tbl := List.mem_of_getElem? (i := 439) (by decide +kernel)
theorem sr_AW_95 : Cond.stringRef R_AW 95 "no room in the name" ∈ lw_tbl := List.mem_of_getElem? (i := 442) (by decide +kernel)
theorem mw_AW_97 : ma_w R_AW 97 y_Na_append c_Na_append 5 none 2 := ⟨Or.inl (List.mem_of_getElem? (i := 443) (by decide +kernel)), List.mem_of_getElem? (i := 46) (by decide +kernel), List.mem_of_getElem? (i := 446) (by decide +kernel), ⟨by decide +kernel, by decide +kernel⟩, by decide +kernel⟩
theorem ml_AW_97 : Cond.methodLink R_AW 97 y_Na_append ∈ lw_tbl := List.mem_of_getElem? (i := 443) (by decide +kernel)
theorem mi_Na_append : Cond.instanceMethod y_Na_append ∈ lw_tbl := List.mem_of_getElem? (i := 444) (by decide +kernel)
theorem mw_Na_19 : ma_w R_Na 19 y_AW_signAt c_AW_signAt 4 (some .char) 3 := ⟨Or.inr ⟨"AddressWords", List.mem_of_getElem? (i := 447) (by decide +kernel)⟩, List.mem_of_getElem? (i := 34) (by decide +kernel), List.mem_of_getElem? (i := 432) (by decide +kernel), ⟨by decide +kernel, by decide +kernel⟩, by decide +kernel⟩
theorem mh_La_88 : ma_wh R_La 88 y_La_alias c_La_alias 4 (some .int) [(0, 9, 12, 21), (0, 9, 15, 26), (0, 9, 18, 15)] 3 := ⟨List.mem_of_getElem? (i := 448) (by decide +kernel), List.mem_of_getElem? (i := 33) (by decide +kernel), List.mem_of_getElem? (i := 450) (by decide +kernel), ⟨by decide +kernel, by decide +kernel⟩, by decide +kernel⟩
theorem ml_La_88 : Cond.methodLink R_La 88 y_La_alias ∈ lw_tbl := List.mem_of_getElem? (i := 448) (by decide +kernel)
theorem mst_La_alias : Cond.static y_La_alias ∈ lw_tbl := List.mem_of_getElem? (i := 449) (by decide +kernel)
theorem cl_La_26 : Cond.classLink R_La 26 x_IS ∈ lw_tbl := List.mem_of_getElem? (i := 451) (by decide +kernel)
theorem mw_La_23 : ma_w R_La 23 y_AW_alias c_AW_alias 3 (some .int) 1 := ⟨Or.inl (List.mem_of_getElem? (i := 452) (by decide +kernel)), List.mem_of_getElem? (i := 34) (by decide +kernel), List.mem_of_getElem? (i := 455) (by decide +kernel), ⟨by decide +kernel, by decide +kernel⟩, by decide +kernel⟩
theorem ml_La_23 : Cond.methodLink R_La 23 y_AW_alias ∈ lw_tbl := List.mem_of_getElem? (i := 452) (by decide +kernel)
theorem mi_AW_alias : Cond.instanceMethod y_AW_alias ∈ lw_tbl := List.mem_of_getElem? (i := 453) (by decide +kernel)
theorem mw_AW_103 : ma_w R_AW 103 y_Na_isEmpty c_Na_isEmpty 1 (some .boolean) 0 := ⟨Or.inl (List.mem_of_getElem? (i := 456) (by decide +kernel)), List.mem_of_getElem? (i := 46) (by decide +kernel), List.mem_of_getElem? (i := 224) (by decide +kernel), ⟨by decide +kernel, by decide +kernel⟩, by decide +kernel⟩
theorem ml_AW_103 : Cond.methodLink R_AW 103 y_Na_isEmpty ∈ lw_tbl := List.mem_of_getElem? (i := 456) (by decide +kernel)
theorem cl_AW_107 : Cond.classLink R_AW 107 x_IS ∈ lw_tbl := List.mem_of_getElem? (i := 457) (by decide +kernel)
theorem ca_IS : Cond.castable x_IS x_IS ∈ lw_tbl := List.mem_of_getElem? (i := 459) (by decide +kernel)
theorem sr_AW_109 : Cond.stringRef R_AW 109 "the latest name is empty" ∈ lw_tbl := List.mem_of_getElem? (i := 466) (by decide +kernel)
theorem sr_AW_115 : Cond.stringRef R_AW 115 "no room for a name" ∈ lw_tbl := List.mem_of_getElem? (i := 473) (by decide +kernel)
theorem mh_La_91 : ma_wh R_La 91 y_La_range c_La_range 7 (some .int) [(0, 14, 17, 21), (0, 14, 21, 13), (0, 14, 25, 15)] 6 := ⟨List.mem_of_getElem? (i := 474) (by decide +kernel), List.mem_of_getElem? (i := 33) (by decide +kernel), List.mem_of_getElem? (i := 476) (by decide +kernel), ⟨by decide +kernel, by decide +kernel⟩, by decide +kernel⟩
theorem ml_La_91 : Cond.methodLink R_La 91 y_La_range ∈ lw_tbl := List.mem_of_getElem? (i := 474) (by decide +kernel)
theorem mst_La_range : Cond.static y_La_range ∈ lw_tbl := List.mem_of_getElem? (i := 475) (by decide +kernel)
theorem mw_La_28 : ma_w R_La 28 y_AW_range c_AW_range 6 (some .int) 4 := ⟨Or.inl (List.mem_of_getElem? (i := 477) (by decide +kernel)), List.mem_of_getElem? (i := 34) (by decide +kernel), List.mem_of_getElem? (i := 480) (by decide +kernel), ⟨by decide +kernel, by decide +kernel⟩, by decide +kernel⟩
theorem ml_La_28 : Cond.methodLink R_La 28 y_AW_range ∈ lw_tbl := List.mem_of_getElem? (i := 477) (by decide +kernel)
theorem mi_AW_range : Cond.instanceMethod y_AW_range ∈ lw_tbl := List.mem_of_getElem? (i := 478) (by decide +kernel)
theorem mw_AW_117 : ma_w R_AW 117 y_AW_requireHouses c_AW_requireHouses 3 none 3 := ⟨Or.inl (List.mem_of_getElem? (i := 481) (by decide +kernel)), List.mem_of_getElem? (i := 34) (by decide +kernel), List.mem_of_getElem? (i := 483) (by decide +kernel), ⟨by decide +kernel, by decide +kernel⟩, by decide +kernel⟩
theorem ml_AW_117 : Cond.methodLink R_AW 117 y_AW_requireHouses ∈ lw_tbl := List.mem_of_getElem? (i := 481) (by decide +kernel)
theorem mst_AW_requireHouses : Cond.static y_AW_requireHouses ∈ lw_tbl := List.mem_of_getElem? (i := 482) (by decide +kernel)
theorem sr_AW_374 : Cond.stringRef R_AW 374 "no such side" ∈ lw_tbl := List.mem_of_getElem? (i := 484) (by decide +kernel)
theorem mw_AW_147 : ma_w R_AW 147 y_AW_requireHouse c_AW_requireHouse 1 none 1 := ⟨Or.inl (List.mem_of_getElem? (i := 485) (by decide +kernel)), List.mem_of_getElem? (i := 34) (by decide +kernel), List.mem_of_getElem? (i := 487) (by decide +kernel), ⟨by decide +kernel, by decide +kernel⟩, by decide +kernel⟩
theorem ml_AW_147 : Cond.methodLink R_AW 147 y_AW_requireHouse ∈ lw_tbl := List.mem_of_getElem? (i := 485) (by decide +kernel)
theorem mst_AW_requireHouse : Cond.static y_AW_requireHouse ∈ lw_tbl := List.mem_of_getElem? (i := 486) (by decide +kernel)
theorem sr_AW_384 : Cond.stringRef R_AW 384 "no such house number" ∈ lw_tbl := List.mem_of_getElem? (i := 488) (by decide +kernel)
theorem mw_AW_376 : ma_w R_AW 376 y_HR_firstFrom c_HR_firstFrom 2 (some .int) 2 := ⟨Or.inl (List.mem_of_getElem? (i := 489) (by decide +kernel)), List.mem_of_getElem? (i := 49) (by decide +kernel), List.mem_of_getElem? (i := 491) (by decide +kernel), ⟨by decide +kernel, by decide +kernel⟩, by decide +kernel⟩
theorem ml_AW_376 : Cond.methodLink R_AW 376 y_HR_firstFrom ∈ lw_tbl := List.mem_of_getElem? (i := 489) (by decide +kernel)
theorem mst_HR_firstFrom : Cond.static y_HR_firstFrom ∈ lw_tbl := List.mem_of_getElem? (i := 490) (by decide +kernel)
theorem mw_HR_28 : ma_w R_HR 28 y_HR_isOnSide c_HR_isOnSide 2 (some .boolean) 2 := ⟨Or.inl (List.mem_of_getElem? (i := 492) (by decide +kernel)), List.mem_of_getElem? (i := 49) (by decide +kernel), List.mem_of_getElem? (i := 494) (by decide +kernel), ⟨by decide +kernel, by decide +kernel⟩, by decide +kernel⟩
theorem ml_HR_28 : Cond.methodLink R_HR 28 y_HR_isOnSide ∈ lw_tbl := List.mem_of_getElem? (i := 492) (by decide +kernel)
theorem mst_HR_isOnSide : Cond.static y_HR_isOnSide ∈ lw_tbl := List.mem_of_getElem? (i := 493) (by decide +kernel)
theorem mw_AW_379 : ma_w R_AW 379 y_HR_lastTo c_HR_lastTo 2 (some .int) 2 := ⟨Or.inl (List.mem_of_getElem? (i := 495) (by decide +kernel)), List.mem_of_getElem? (i := 49) (by decide +kernel), List.mem_of_getElem? (i := 497) (by decide +kernel), ⟨by decide +kernel, by decide +kernel⟩, by decide +kernel⟩
theorem ml_AW_379 : Cond.methodLink R_AW 379 y_HR_lastTo ∈ lw_tbl := List.mem_of_getElem? (i := 495) (by decide +kernel)
theorem mst_HR_lastTo : Cond.static y_HR_lastTo ∈ lw_tbl := List.mem_of_getElem? (i := 496) (by decide +kernel)
theorem sr_AW_382 : Cond.stringRef R_AW 382 "no house in it" ∈ lw_tbl := List.mem_of_getElem? (i := 498) (by decide +kernel)
theorem sr_AW_124 : Cond.stringRef R_AW 124 "no room for a range" ∈ lw_tbl := List.mem_of_getElem? (i := 499) (by decide +kernel)
theorem cl_AW_130 : Cond.classLink R_AW 130 R_HR ∈ lw_tbl := List.mem_of_getElem? (i := 500) (by decide +kernel)
theorem mw_AW_132 : ma_w R_AW 132 y_HR_init c_HR_init 4 none 3 := ⟨Or.inl (List.mem_of_getElem? (i := 502) (by decide +kernel)), List.mem_of_getElem? (i := 49) (by decide +kernel), List.mem_of_getElem? (i := 504) (by decide +kernel), ⟨by decide +kernel, by decide +kernel⟩, by decide +kernel⟩
theorem ml_AW_132 : Cond.methodLink R_AW 132 y_HR_init ∈ lw_tbl := List.mem_of_getElem? (i := 502) (by decide +kernel)
theorem mi_HR_init : Cond.instanceMethod y_HR_init ∈ lw_tbl := List.mem_of_getElem? (i := 503) (by decide +kernel)
theorem ml_HR_3 : Cond.methodLink R_HR 3 objectInit ∈ lw_tbl := List.mem_of_getElem? (i := 505) (by decide +kernel)
theorem mw_HR_15 : ma_w R_HR 15 y_HR_firstFrom c_HR_firstFrom 2 (some .int) 2 := ⟨Or.inl (List.mem_of_getElem? (i := 506) (by decide +kernel)), List.mem_of_getElem? (i := 49) (by decide +kernel), List.mem_of_getElem? (i := 491) (by decide +kernel), ⟨by decide +kernel, by decide +kernel⟩, by decide +kernel⟩
theorem ml_HR_15 : Cond.methodLink R_HR 15 y_HR_firstFrom ∈ lw_tbl := List.mem_of_getElem? (i := 506) (by decide +kernel)
theorem mw_HR_22 : ma_w R_HR 22 y_HR_lastTo c_HR_lastTo 2 (some .int) 2 := ⟨Or.inl (List.mem_of_getElem? (i := 507) (by decide +kernel)), List.mem_of_getElem? (i := 49) (by decide +kernel), List.mem_of_getElem? (i := 497) (by decide +kernel), ⟨by decide +kernel, by decide +kernel⟩, by decide +kernel⟩
theorem ml_HR_22 : Cond.methodLink R_HR 22 y_HR_lastTo ∈ lw_tbl := List.mem_of_getElem? (i := 507) (by decide +kernel)
theorem fg_HR_9 : ma_Fg R_HR 9 3 0 := ⟨R_HR, T_HR, 3, rfl, by decide, in_HR, Or.inl (List.mem_of_getElem? (i := 508) (by decide +kernel))⟩
theorem fp_HR_9 : ma_F R_HR 9 3 0 (.int) true := ⟨R_HR, T_HR, 3, ty_HR, rfl, by decide, in_HR, tyok_HR, nm_HR, rfl, rfl, (fun _ => rfl), Or.inl (List.mem_of_getElem? (i := 508) (by decide +kernel))⟩
theorem fg_HR_19 : ma_Fg R_HR 19 3 1 := ⟨R_HR, T_HR, 3, rfl, by decide, in_HR, Or.inl (List.mem_of_getElem? (i := 509) (by decide +kernel))⟩
theorem fp_HR_19 : ma_F R_HR 19 3 1 (.int) true := ⟨R_HR, T_HR, 3, ty_HR, rfl, by decide, in_HR, tyok_HR, nm_HR, rfl, rfl, (fun _ => rfl), Or.inl (List.mem_of_getElem? (i := 509) (by decide +kernel))⟩
theorem fg_HR_25 : ma_Fg R_HR 25 3 2 := ⟨R_HR, T_HR, 3, rfl, by decide, in_HR, Or.inl (List.mem_of_getElem? (i := 510) (by decide +kernel))⟩
theorem fp_HR_25 : ma_F R_HR 25 3 2 (.int) true := ⟨R_HR, T_HR, 3, ty_HR, rfl, by decide, in_HR, tyok_HR, nm_HR, rfl, rfl, (fun _ => rfl), Or.inl (List.mem_of_getElem? (i := 510) (by decide +kernel))⟩
theorem mh_La_95 : ma_wh R_La 95 y_La_line c_La_line 8 (some .int) [(0, 16, 19, 21), (0, 16, 23, 13)] 7 := ⟨List.mem_of_getElem? (i := 518) (by decide +kernel), List.mem_of_getElem? (i := 33) (by decide +kernel), List.mem_of_getElem? (i := 520) (by decide +kernel), ⟨by decide +kernel, by decide +kernel⟩, by decide +kernel⟩
theorem ml_La_95 : Cond.methodLink R_La 95 y_La_line ∈ lw_tbl := List.mem_of_getElem? (i := 518) (by decide +kernel)
theorem mst_La_line : Cond.static y_La_line ∈ lw_tbl := List.mem_of_getElem? (i := 519) (by decide +kernel)
theorem mw_La_32 : ma_w R_La 32 y_AW_line c_AW_line 7 (some .int) 5 := ⟨Or.inl (List.mem_of_getElem? (i := 521) (by decide +kernel)), List.mem_of_getElem? (i := 34) (by decide +kernel), List.mem_of_getElem? (i := 524) (by decide +kernel), ⟨by decide +kernel, by decide +kernel⟩, by decide +kernel⟩
theorem ml_La_32 : Cond.methodLink R_La 32 y_AW_line ∈ lw_tbl := List.mem_of_getElem? (i := 521) (by decide +kernel)
theorem mi_AW_line : Cond.instanceMethod y_AW_line ∈ lw_tbl := List.mem_of_getElem? (i := 522) (by decide +kernel)
theorem mw_AW_134 : ma_w R_AW 134 y_AW_requirePoint c_AW_requirePoint 2 none 2 := ⟨Or.inl (List.mem_of_getElem? (i := 525) (by decide +kernel)), List.mem_of_getElem? (i := 34) (by decide +kernel), List.mem_of_getElem? (i := 527) (by decide +kernel), ⟨by decide +kernel, by decide +kernel⟩, by decide +kernel⟩
theorem ml_AW_134 : Cond.methodLink R_AW 134 y_AW_requirePoint ∈ lw_tbl := List.mem_of_getElem? (i := 525) (by decide +kernel)
theorem mst_AW_requirePoint : Cond.static y_AW_requirePoint ∈ lw_tbl := List.mem_of_getElem? (i := 526) (by decide +kernel)
theorem sr_AW_386 : Cond.stringRef R_AW 386 "no such coordinate" ∈ lw_tbl := List.mem_of_getElem? (i := 528) (by decide +kernel)
theorem mw_AW_138 : ma_w R_AW 138 y_St_draw c_St_draw 5 none 4 := ⟨Or.inl (List.mem_of_getElem? (i := 529) (by decide +kernel)), List.mem_of_getElem? (i := 45) (by decide +kernel), List.mem_of_getElem? (i := 532) (by decide +kernel), ⟨by decide +kernel, by decide +kernel⟩, by decide +kernel⟩
theorem ml_AW_138 : Cond.methodLink R_AW 138 y_St_draw ∈ lw_tbl := List.mem_of_getElem? (i := 529) (by decide +kernel)
theorem mi_St_draw : Cond.instanceMethod y_St_draw ∈ lw_tbl := List.mem_of_getElem? (i := 530) (by decide +kernel)
theorem mw_St_43 : ma_w R_St 43 y_AW_squareOfWay c_AW_squareOfWay 6 (some .int) 4 := ⟨Or.inr ⟨"AddressWords", List.mem_of_getElem? (i := 533) (by decide +kernel)⟩, List.mem_of_getElem? (i := 34) (by decide +kernel), List.mem_of_getElem? (i := 535) (by decide +kernel), ⟨by decide +kernel, by decide +kernel⟩, by decide +kernel⟩
theorem mst_AW_squareOfWay : Cond.static y_AW_squareOfWay ∈ lw_tbl := List.mem_of_getElem? (i := 534) (by decide +kernel)
theorem mw_St_47 : ma_w R_St 47 y_AW_wholeRoot c_AW_wholeRoot 4 (some .int) 1 := ⟨Or.inr ⟨"AddressWords", List.mem_of_getElem? (i := 536) (by decide +kernel)⟩, List.mem_of_getElem? (i := 34) (by decide +kernel), List.mem_of_getElem? (i := 538) (by decide +kernel), ⟨by decide +kernel, by decide +kernel⟩, by decide +kernel⟩
theorem mst_AW_wholeRoot : Cond.static y_AW_wholeRoot ∈ lw_tbl := List.mem_of_getElem? (i := 537) (by decide +kernel)
theorem mh_La_99 : ma_wh R_La 99 y_La_close c_La_close 4 (some .int) [(0, 6, 9, 21)] 3 := ⟨List.mem_of_getElem? (i := 539) (by decide +kernel), List.mem_of_getElem? (i := 33) (by decide +kernel), List.mem_of_getElem? (i := 541) (by decide +kernel), ⟨by decide +kernel, by decide +kernel⟩, by decide +kernel⟩
theorem ml_La_99 : Cond.methodLink R_La 99 y_La_close ∈ lw_tbl := List.mem_of_getElem? (i := 539) (by decide +kernel)
theorem mst_La_close : Cond.static y_La_close ∈ lw_tbl := List.mem_of_getElem? (i := 540) (by decide +kernel)
theorem mw_La_36 : ma_w R_La 36 y_AW_close c_AW_close 3 none 2 := ⟨Or.inl (List.mem_of_getElem? (i := 542) (by decide +kernel)), List.mem_of_getElem? (i := 34) (by decide +kernel), List.mem_of_getElem? (i := 545) (by decide +kernel), ⟨by decide +kernel, by decide +kernel⟩, by decide +kernel⟩
theorem ml_La_36 : Cond.methodLink R_La 36 y_AW_close ∈ lw_tbl := List.mem_of_getElem? (i := 542) (by decide +kernel)
theorem mi_AW_close : Cond.instanceMethod y_AW_close ∈ lw_tbl := List.mem_of_getElem? (i := 543) (by decide +kernel)
theorem mh_La_103 : ma_wh R_La 103 y_La_landmark c_La_landmark 8 (some .int) [(0, 14, 17, 21), (0, 14, 21, 13), (0, 14, 25, 26), (0, 14, 29, 15)] 6 := ⟨List.mem_of_getElem? (i := 546) (by decide +kernel), List.mem_of_getElem? (i := 33) (by decide +kernel), List.mem_of_getElem? (i := 548) (by decide +kernel), ⟨by decide +kernel, by decide +kernel⟩, by decide +kernel⟩
theorem ml_La_103 : Cond.methodLink R_La 103 y_La_landmark ∈ lw_tbl := List.mem_of_getElem? (i := 546) (by decide +kernel)
theorem mst_La_landmark : Cond.static y_La_landmark ∈ lw_tbl := List.mem_of_getElem? (i := 547) (by decide +kernel)
theorem mw_La_40 : ma_w R_La 40 y_AW_landmark c_AW_landmark 7 (some .int) 4 := ⟨Or.inl (List.mem_of_getElem? (i := 549) (by decide +kernel)), List.mem_of_getElem? (i := 34) (by decide +kernel), List.mem_of_getElem? (i := 552) (by decide +kernel), ⟨by decide +kernel, by decide +kernel⟩, by decide +kernel⟩
theorem ml_La_40 : Cond.methodLink R_La 40 y_AW_landmark ∈ lw_tbl := List.mem_of_getElem? (i := 549) (by decide +kernel)
theorem mi_AW_landmark : Cond.instanceMethod y_AW_landmark ∈ lw_tbl := List.mem_of_getElem? (i := 550) (by decide +kernel)
theorem mw_AW_150 : ma_w R_AW 150 y_LM_init c_LM_init 3 none 2 := ⟨Or.inl (List.mem_of_getElem? (i := 554) (by decide +kernel)), List.mem_of_getElem? (i := 50) (by decide +kernel), List.mem_of_getElem? (i := 556) (by decide +kernel), ⟨by decide +kernel, by decide +kernel⟩, by decide +kernel⟩
theorem ml_AW_150 : Cond.methodLink R_AW 150 y_LM_init ∈ lw_tbl := List.mem_of_getElem? (i := 554) (by decide +kernel)
theorem mi_LM_init : Cond.instanceMethod y_LM_init ∈ lw_tbl := List.mem_of_getElem? (i := 555) (by decide +kernel)
theorem ml_LM_1 : Cond.methodLink R_LM 1 objectInit ∈ lw_tbl := List.mem_of_getElem? (i := 557) (by decide +kernel)
theorem cl_LM_7 : Cond.classLink R_LM 7 R_Na ∈ lw_tbl := List.mem_of_getElem? (i := 558) (by decide +kernel)
theorem mw_LM_9 : ma_w R_LM 9 y_Na_init c_Na_init 1 none 0 := ⟨Or.inr ⟨"AddressWords", List.mem_of_getElem? (i := 559) (by decide +kernel)⟩, List.mem_of_getElem? (i := 46) (by decide +kernel), List.mem_of_getElem? (i := 334) (by decide +kernel), ⟨by decide +kernel, by decide +kernel⟩, by decide +kernel⟩
theorem fg_LM_16 : ma_Fg R_LM 16 4 0 := ⟨R_LM, T_LM, 3, rfl, by decide, in_LM, Or.inl (List.mem_of_getElem? (i := 560) (by decide +kernel))⟩
theorem fp_LM_16 : ma_F R_LM 16 4 0 (.int) true := ⟨R_LM, T_LM, 3, ty_LM, rfl, by decide, in_LM, tyok_LM, nm_LM, rfl, rfl, (fun _ => rfl), Or.inl (List.mem_of_getElem? (i := 560) (by decide +kernel))⟩
theorem fg_AW_345 : ma_Fg R_AW 345 4 0 := ⟨R_LM, T_LM, 3, rfl, by decide, in_LM, Or.inr ⟨"AddressWords", List.mem_of_getElem? (i := 561) (by decide +kernel)⟩⟩
theorem fg_LM_20 : ma_Fg R_LM 20 4 1 := ⟨R_LM, T_LM, 3, rfl, by decide, in_LM, Or.inl (List.mem_of_getElem? (i := 562) (by decide +kernel))⟩
theorem fp_LM_20 : ma_F R_LM 20 4 1 (.int) true := ⟨R_LM, T_LM, 3, ty_LM, rfl, by decide, in_LM, tyok_LM, nm_LM, rfl, rfl, (fun _ => rfl), Or.inl (List.mem_of_getElem? (i := 562) (by decide +kernel))⟩
theorem fg_AW_349 : ma_Fg R_AW 349 4 1 := ⟨R_LM, T_LM, 3, rfl, by decide, in_LM, Or.inr ⟨"AddressWords", List.mem_of_getElem? (i := 563) (by decide +kernel)⟩⟩
theorem fg_LM_10 : ma_Fg R_LM 10 4 2 := ⟨R_LM, T_LM, 3, rfl, by decide, in_LM, Or.inl (List.mem_of_getElem? (i := 564) (by decide +kernel))⟩
theorem fp_LM_10 : ma_F R_LM 10 4 2 (.object "AddressWords$Name") true := ⟨R_LM, T_LM, 3, ty_LM, rfl, by decide, in_LM, tyok_LM, nm_LM, rfl, rfl, (fun _ => rfl), Or.inl (List.mem_of_getElem? (i := 564) (by decide +kernel))⟩
theorem fg_AW_152 : ma_Fg R_AW 152 4 2 := ⟨R_LM, T_LM, 3, rfl, by decide, in_LM, Or.inr ⟨"AddressWords", List.mem_of_getElem? (i := 565) (by decide +kernel)⟩⟩
theorem mw_AW_156 : ma_w R_AW 156 y_AW_hasLandmarkNamed c_AW_hasLandmarkNamed 3 (some .boolean) 1 := ⟨Or.inl (List.mem_of_getElem? (i := 573) (by decide +kernel)), List.mem_of_getElem? (i := 34) (by decide +kernel), List.mem_of_getElem? (i := 576) (by decide +kernel), ⟨by decide +kernel, by decide +kernel⟩, by decide +kernel⟩
theorem ml_AW_156 : Cond.methodLink R_AW 156 y_AW_hasLandmarkNamed ∈ lw_tbl := List.mem_of_getElem? (i := 573) (by decide +kernel)
theorem mi_AW_hasLandmarkNamed : Cond.instanceMethod y_AW_hasLandmarkNamed ∈ lw_tbl := List.mem_of_getElem? (i := 575) (by decide +kernel)
theorem mw_AW_276 : ma_w R_AW 276 y_Na_isSameAs c_Na_isSameAs 3 (some .boolean) 1 := ⟨Or.inl (List.mem_of_getElem? (i := 577) (by decide +kernel)), List.mem_of_getElem? (i := 46) (by decide +kernel), List.mem_of_getElem? (i := 228) (by decide +kernel), ⟨by decide +kernel, by decide +kernel⟩, by decide +kernel⟩
theorem ml_AW_276 : Cond.methodLink R_AW 276 y_Na_isSameAs ∈ lw_tbl := List.mem_of_getElem? (i := 577) (by decide +kernel)
theorem sr_AW_160 : Cond.stringRef R_AW 160 "a landmark has that name" ∈ lw_tbl := List.mem_of_getElem? (i := 578) (by decide +kernel)
theorem sr_AW_165 : Cond.stringRef R_AW 165 "no room for a landmark" ∈ lw_tbl := List.mem_of_getElem? (i := 579) (by decide +kernel)
theorem mh_La_107 : ma_wh R_La 107 y_La_meet c_La_meet 6 (some .int) [(0, 9, 12, 21), (0, 9, 16, 13), (0, 9, 20, 26), (0, 9, 24, 15)] 5 := ⟨List.mem_of_getElem? (i := 580) (by decide +kernel), List.mem_of_getElem? (i := 33) (by decide +kernel), List.mem_of_getElem? (i := 582) (by decide +kernel), ⟨by decide +kernel, by decide +kernel⟩, by decide +kernel⟩
theorem ml_La_107 : Cond.methodLink R_La 107 y_La_meet ∈ lw_tbl := List.mem_of_getElem? (i := 580) (by decide +kernel)
theorem mst_La_meet : Cond.static y_La_meet ∈ lw_tbl := List.mem_of_getElem? (i := 581) (by decide +kernel)
theorem mw_La_44 : ma_w R_La 44 y_AW_meet c_AW_meet 7 none 4 := ⟨Or.inl (List.mem_of_getElem? (i := 583) (by decide +kernel)), List.mem_of_getElem? (i := 34) (by decide +kernel), List.mem_of_getElem? (i := 586) (by decide +kernel), ⟨by decide +kernel, by decide +kernel⟩, by decide +kernel⟩
theorem ml_La_44 : Cond.methodLink R_La 44 y_AW_meet ∈ lw_tbl := List.mem_of_getElem? (i := 583) (by decide +kernel)
theorem mi_AW_meet : Cond.instanceMethod y_AW_meet ∈ lw_tbl := List.mem_of_getElem? (i := 584) (by decide +kernel)
theorem mw_AW_167 : ma_w R_AW 167 y_AW_requireMetres c_AW_requireMetres 2 none 2 := ⟨Or.inl (List.mem_of_getElem? (i := 587) (by decide +kernel)), List.mem_of_getElem? (i := 34) (by decide +kernel), List.mem_of_getElem? (i := 589) (by decide +kernel), ⟨by decide +kernel, by decide +kernel⟩, by decide +kernel⟩
theorem ml_AW_167 : Cond.methodLink R_AW 167 y_AW_requireMetres ∈ lw_tbl := List.mem_of_getElem? (i := 587) (by decide +kernel)
theorem mst_AW_requireMetres : Cond.static y_AW_requireMetres ∈ lw_tbl := List.mem_of_getElem? (i := 588) (by decide +kernel)
theorem sr_AW_388 : Cond.stringRef R_AW 388 "no such metres" ∈ lw_tbl := List.mem_of_getElem? (i := 590) (by decide +kernel)
theorem sr_AW_171 : Cond.stringRef R_AW 171 "a street does not meet itself" ∈ lw_tbl := List.mem_of_getElem? (i := 591) (by decide +kernel)
theorem mw_AW_173 : ma_w R_AW 173 y_AW_metresOfCorner c_AW_metresOfCorner 5 (some .int) 2 := ⟨Or.inl (List.mem_of_getElem? (i := 592) (by decide +kernel)), List.mem_of_getElem? (i := 34) (by decide +kernel), List.mem_of_getElem? (i := 595) (by decide +kernel), ⟨by decide +kernel, by decide +kernel⟩, by decide +kernel⟩
theorem ml_AW_173 : Cond.methodLink R_AW 173 y_AW_metresOfCorner ∈ lw_tbl := List.mem_of_getElem? (i := 592) (by decide +kernel)
theorem mi_AW_metresOfCorner : Cond.instanceMethod y_AW_metresOfCorner ∈ lw_tbl := List.mem_of_getElem? (i := 594) (by decide +kernel)
theorem sr_AW_177 : Cond.stringRef R_AW 177 "they meet already" ∈ lw_tbl := List.mem_of_getElem? (i := 596) (by decide +kernel)
theorem sr_AW_182 : Cond.stringRef R_AW 182 "no room for a corner" ∈ lw_tbl := List.mem_of_getElem? (i := 597) (by decide +kernel)
theorem mw_AW_184 : ma_w R_AW 184 y_Co_init c_Co_init 5 none 4 := ⟨Or.inl (List.mem_of_getElem? (i := 599) (by decide +kernel)), List.mem_of_getElem? (i := 51) (by decide +kernel), List.mem_of_getElem? (i := 601) (by decide +kernel), ⟨by decide +kernel, by decide +kernel⟩, by decide +kernel⟩
theorem ml_AW_184 : Cond.methodLink R_AW 184 y_Co_init ∈ lw_tbl := List.mem_of_getElem? (i := 599) (by decide +kernel)
theorem mi_Co_init : Cond.instanceMethod y_Co_init ∈ lw_tbl := List.mem_of_getElem? (i := 600) (by decide +kernel)
theorem ml_Co_1 : Cond.methodLink R_Co 1 objectInit ∈ lw_tbl := List.mem_of_getElem? (i := 602) (by decide +kernel)
theorem fg_Co_7 : ma_Fg R_Co 7 1 0 := ⟨R_Co, T_Co, 4, rfl, by decide, in_Co, Or.inl (List.mem_of_getElem? (i := 603) (by decide +kernel))⟩
theorem fp_Co_7 : ma_F R_Co 7 1 0 (.int) true := ⟨R_Co, T_Co, 4, ty_Co, rfl, by decide, in_Co, tyok_Co, nm_Co, rfl, rfl, (fun _ => rfl), Or.inl (List.mem_of_getElem? (i := 603) (by decide +kernel))⟩
theorem fg_AW_279 : ma_Fg R_AW 279 1 0 := ⟨R_Co, T_Co, 4, rfl, by decide, in_Co, Or.inr ⟨"AddressWords", List.mem_of_getElem? (i := 604) (by decide +kernel)⟩⟩
theorem fg_Co_13 : ma_Fg R_Co 13 1 1 := ⟨R_Co, T_Co, 4, rfl, by decide, in_Co, Or.inl (List.mem_of_getElem? (i := 605) (by decide +kernel))⟩
theorem fp_Co_13 : ma_F R_Co 13 1 1 (.int) true := ⟨R_Co, T_Co, 4, ty_Co, rfl, by decide, in_Co, tyok_Co, nm_Co, rfl, rfl, (fun _ => rfl), Or.inl (List.mem_of_getElem? (i := 605) (by decide +kernel))⟩
theorem fg_AW_280 : ma_Fg R_AW 280 1 1 := ⟨R_Co, T_Co, 4, rfl, by decide, in_Co, Or.inr ⟨"AddressWords", List.mem_of_getElem? (i := 606) (by decide +kernel)⟩⟩
theorem fg_Co_16 : ma_Fg R_Co 16 1 2 := ⟨R_Co, T_Co, 4, rfl, by decide, in_Co, Or.inl (List.mem_of_getElem? (i := 607) (by decide +kernel))⟩
theorem fp_Co_16 : ma_F R_Co 16 1 2 (.int) true := ⟨R_Co, T_Co, 4, ty_Co, rfl, by decide, in_Co, tyok_Co, nm_Co, rfl, rfl, (fun _ => rfl), Or.inl (List.mem_of_getElem? (i := 607) (by decide +kernel))⟩
theorem fg_AW_283 : ma_Fg R_AW 283 1 2 := ⟨R_Co, T_Co, 4, rfl, by decide, in_Co, Or.inr ⟨"AddressWords", List.mem_of_getElem? (i := 608) (by decide +kernel)⟩⟩
theorem fg_Co_19 : ma_Fg R_Co 19 1 3 := ⟨R_Co, T_Co, 4, rfl, by decide, in_Co, Or.inl (List.mem_of_getElem? (i := 609) (by decide +kernel))⟩
theorem fp_Co_19 : ma_F R_Co 19 1 3 (.int) true := ⟨R_Co, T_Co, 4, ty_Co, rfl, by decide, in_Co, tyok_Co, nm_Co, rfl, rfl, (fun _ => rfl), Or.inl (List.mem_of_getElem? (i := 609) (by decide +kernel))⟩
theorem fg_AW_286 : ma_Fg R_AW 286 1 3 := ⟨R_Co, T_Co, 4, rfl, by decide, in_Co, Or.inr ⟨"AddressWords", List.mem_of_getElem? (i := 610) (by decide +kernel)⟩⟩
theorem mh_La_111 : ma_wh R_La 111 y_La_corner c_La_corner 5 (some .int) [(0, 10, 13, 21)] 4 := ⟨List.mem_of_getElem? (i := 620) (by decide +kernel), List.mem_of_getElem? (i := 33) (by decide +kernel), List.mem_of_getElem? (i := 622) (by decide +kernel), ⟨by decide +kernel, by decide +kernel⟩, by decide +kernel⟩
theorem ml_La_111 : Cond.methodLink R_La 111 y_La_corner ∈ lw_tbl := List.mem_of_getElem? (i := 620) (by decide +kernel)
theorem mst_La_corner : Cond.static y_La_corner ∈ lw_tbl := List.mem_of_getElem? (i := 621) (by decide +kernel)
theorem mw_La_48 : ma_w R_La 48 y_AW_corner c_AW_corner 3 (some .int) 2 := ⟨Or.inl (List.mem_of_getElem? (i := 623) (by decide +kernel)), List.mem_of_getElem? (i := 34) (by decide +kernel), List.mem_of_getElem? (i := 626) (by decide +kernel), ⟨by decide +kernel, by decide +kernel⟩, by decide +kernel⟩
theorem ml_La_48 : Cond.methodLink R_La 48 y_AW_corner ∈ lw_tbl := List.mem_of_getElem? (i := 623) (by decide +kernel)
theorem mi_AW_corner : Cond.instanceMethod y_AW_corner ∈ lw_tbl := List.mem_of_getElem? (i := 624) (by decide +kernel)
theorem mh_La_115 : ma_wh R_La 115 y_La_post c_La_post 5 (some .int) [(0, 10, 13, 21), (0, 10, 17, 13)] 4 := ⟨List.mem_of_getElem? (i := 627) (by decide +kernel), List.mem_of_getElem? (i := 33) (by decide +kernel), List.mem_of_getElem? (i := 629) (by decide +kernel), ⟨by decide +kernel, by decide +kernel⟩, by decide +kernel⟩
theorem ml_La_115 : Cond.methodLink R_La 115 y_La_post ∈ lw_tbl := List.mem_of_getElem? (i := 627) (by decide +kernel)
theorem mst_La_post : Cond.static y_La_post ∈ lw_tbl := List.mem_of_getElem? (i := 628) (by decide +kernel)
theorem mw_La_52 : ma_w R_La 52 y_AW_post c_AW_post 6 (some .int) 2 := ⟨Or.inl (List.mem_of_getElem? (i := 630) (by decide +kernel)), List.mem_of_getElem? (i := 34) (by decide +kernel), List.mem_of_getElem? (i := 633) (by decide +kernel), ⟨by decide +kernel, by decide +kernel⟩, by decide +kernel⟩
theorem ml_La_52 : Cond.methodLink R_La 52 y_AW_post ∈ lw_tbl := List.mem_of_getElem? (i := 630) (by decide +kernel)
theorem mi_AW_post : Cond.instanceMethod y_AW_post ∈ lw_tbl := List.mem_of_getElem? (i := 631) (by decide +kernel)
theorem mw_AW_192 : ma_w R_AW 192 y_St_between c_St_between 4 (some .int) 3 := ⟨Or.inl (List.mem_of_getElem? (i := 634) (by decide +kernel)), List.mem_of_getElem? (i := 45) (by decide +kernel), List.mem_of_getElem? (i := 637) (by decide +kernel), ⟨by decide +kernel, by decide +kernel⟩, by decide +kernel⟩
theorem ml_AW_192 : Cond.methodLink R_AW 192 y_St_between ∈ lw_tbl := List.mem_of_getElem? (i := 634) (by decide +kernel)
theorem mi_St_between : Cond.instanceMethod y_St_between ∈ lw_tbl := List.mem_of_getElem? (i := 635) (by decide +kernel)
theorem ml_St_54 : Cond.methodLink R_St 54 ⟨"java/lang/Math", "floorDiv", "(II)I"⟩ ∈ lw_tbl := List.mem_of_getElem? (i := 638) (by decide +kernel)
theorem mst_Math_floorDiv : Cond.static ⟨"java/lang/Math", "floorDiv", "(II)I"⟩ ∈ lw_tbl := List.mem_of_getElem? (i := 639) (by decide +kernel)
