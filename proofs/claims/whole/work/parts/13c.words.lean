/-! More words of the tables: by program. -/
theorem k_code_X1_in : .code yX1_in cX1_in 6 (some .boolean) ∈ sd_WS := sd_in (List.mem_append_right _ (List.mem_of_getElem? (i := 257) rfl)) (by decide +kernel)
theorem k_constantLong_X1_34 : .constantLong RX1 34 2 ∈ sd_WS := sd_in (List.mem_append_right _ (List.mem_of_getElem? (i := 278) rfl)) (by decide +kernel)
theorem k_fieldLink_X1_13 : .fieldLink RX1 13 "ShareDeskModel" "weights" "[J" ∈ sd_WS := sd_in (List.mem_append_right _ (List.mem_of_getElem? (i := 227) rfl)) (by decide +kernel)
theorem k_fieldLink_X1_27 : .fieldLink RX1 27 "ShareDeskModel" "err" "I" ∈ sd_WS := sd_in (List.mem_append_right _ (List.mem_of_getElem? (i := 225) rfl)) (by decide +kernel)
theorem k_fieldLink_X1_7 : .fieldLink RX1 7 "ShareDeskModel" "parties" "I" ∈ sd_WS := sd_in (List.mem_append_right _ (List.mem_of_getElem? (i := 226) rfl)) (by decide +kernel)
theorem k_init_ShareDeskModel : .initialized RX1 ∈ sd_WS := sd_in (List.mem_append_right _ (List.mem_of_getElem? (i := 2) rfl)) (by decide +kernel)
theorem k_methodLink_X1_30 : .methodLink RX1 30 yX1_in ∈ sd_WS := sd_in (List.mem_append_right _ (List.mem_of_getElem? (i := 255) rfl)) (by decide +kernel)
theorem k_static_X1_in : .static yX1_in ∈ sd_WS := sd_in (List.mem_append_right _ (List.mem_of_getElem? (i := 256) rfl)) (by decide +kernel)
