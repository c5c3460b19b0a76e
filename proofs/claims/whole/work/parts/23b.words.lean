/-! More words of the tables: by program. -/
theorem k_classLink_L_40 : .classLink RL 40 RX1 ∈ sd_WS := sd_in (List.mem_append_right _ (List.mem_of_getElem? (i := 219) rfl)) (by decide +kernel)
theorem k_classLink_L_8 : .classLink RL 8 RX0 ∈ sd_WS := sd_in (List.mem_append_right _ (List.mem_of_getElem? (i := 8) rfl)) (by decide +kernel)
theorem k_code_X0_init : .code yX0_init cX0_init 1 none ∈ sd_WS := sd_in (List.mem_append_right _ (List.mem_of_getElem? (i := 12) rfl)) (by decide +kernel)
theorem k_code_X1_init : .code yX1_init cX1_init 1 none ∈ sd_WS := sd_in (List.mem_append_right _ (List.mem_of_getElem? (i := 223) rfl)) (by decide +kernel)
theorem k_instanceMethod_X0_init : .instanceMethod yX0_init ∈ sd_WS := sd_in (List.mem_append_right _ (List.mem_of_getElem? (i := 11) rfl)) (by decide +kernel)
theorem k_instanceMethod_X1_init : .instanceMethod yX1_init ∈ sd_WS := sd_in (List.mem_append_right _ (List.mem_of_getElem? (i := 222) rfl)) (by decide +kernel)
theorem k_methodLink_L_39 : .methodLink RL 39 yX0_init ∈ sd_WS := sd_in (List.mem_append_right _ (List.mem_of_getElem? (i := 10) rfl)) (by decide +kernel)
theorem k_methodLink_L_42 : .methodLink RL 42 yX1_init ∈ sd_WS := sd_in (List.mem_append_right _ (List.mem_of_getElem? (i := 221) rfl)) (by decide +kernel)
