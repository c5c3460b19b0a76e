/-! Words of the tables, by their places: by program. -/
theorem k_arrI : .arrayClass .int ∈ sd_WS := sd_in (List.mem_append_right _ (List.mem_of_getElem? (i := 26) rfl)) (by decide +kernel)
theorem k_classLink_X0_20 : .classLink RX0 20 "java/lang/IllegalArgumentException" ∈ sd_WS := sd_in (List.mem_append_right _ (List.mem_of_getElem? (i := 35) rfl)) (by decide +kernel)
theorem k_classLink_X0_72 : .classLink RX0 72 "java/lang/IllegalStateException" ∈ sd_WS := sd_in (List.mem_append_right _ (List.mem_of_getElem? (i := 136) rfl)) (by decide +kernel)
theorem k_code_X0_checkParty : .code yX0_checkParty cX0_checkParty 2 none ∈ sd_WS := sd_in (List.mem_append_right _ (List.mem_of_getElem? (i := 112) rfl)) (by decide +kernel)
theorem k_code_X0_checkTotal : .code yX0_checkTotal cX0_checkTotal 1 none ∈ sd_WS := sd_in (List.mem_append_right _ (List.mem_of_getElem? (i := 135) rfl)) (by decide +kernel)
theorem k_code_X0_checkUnits : .code yX0_checkUnits cX0_checkUnits 2 none ∈ sd_WS := sd_in (List.mem_append_right _ (List.mem_of_getElem? (i := 130) rfl)) (by decide +kernel)
theorem k_code_X0_checkWay : .code yX0_checkWay cX0_checkWay 1 none ∈ sd_WS := sd_in (List.mem_append_right _ (List.mem_of_getElem? (i := 126) rfl)) (by decide +kernel)
theorem k_code_X0_divisorOf : .code yX0_divisorOf cX0_divisorOf 2 (some .long) ∈ sd_WS := sd_in (List.mem_append_right _ (List.mem_of_getElem? (i := 178) rfl)) (by decide +kernel)
theorem k_code_X0_leastByRests : .code yX0_leastByRests cX0_leastByRests 7 (some .int) ∈ sd_WS := sd_in (List.mem_append_right _ (List.mem_of_getElem? (i := 205) rfl)) (by decide +kernel)
theorem k_code_X0_partiesWithWeight : .code yX0_partiesWithWeight cX0_partiesWithWeight 3 (some .int) ∈ sd_WS := sd_in (List.mem_append_right _ (List.mem_of_getElem? (i := 217) rfl)) (by decide +kernel)
theorem k_code_X0_restOf : .code yX0_restOf cX0_restOf 3 (some .long) ∈ sd_WS := sd_in (List.mem_append_right _ (List.mem_of_getElem? (i := 163) rfl)) (by decide +kernel)
theorem k_code_X0_turnOf : .code yX0_turnOf cX0_turnOf 7 (some .long) ∈ sd_WS := sd_in (List.mem_append_right _ (List.mem_of_getElem? (i := 171) rfl)) (by decide +kernel)
theorem k_code_X0_unitsBefore : .code yX0_unitsBefore cX0_unitsBefore 9 (some .long) ∈ sd_WS := sd_in (List.mem_append_right _ (List.mem_of_getElem? (i := 175) rfl)) (by decide +kernel)
theorem k_code_X0_unitsByRests : .code yX0_unitsByRests cX0_unitsByRests 11 (some .int) ∈ sd_WS := sd_in (List.mem_append_right _ (List.mem_of_getElem? (i := 159) rfl)) (by decide +kernel)
theorem k_code_X0_unitsByTurns : .code yX0_unitsByTurns cX0_unitsByTurns 6 (some .int) ∈ sd_WS := sd_in (List.mem_append_right _ (List.mem_of_getElem? (i := 167) rfl)) (by decide +kernel)
theorem k_code_X0_unitsOf : .code yX0_unitsOf cX0_unitsOf 4 (some .int) ∈ sd_WS := sd_in (List.mem_append_right _ (List.mem_of_getElem? (i := 155) rfl)) (by decide +kernel)
theorem k_constantLong_X0_58 : .constantLong RX0 58 10000 ∈ sd_WS := sd_in (List.mem_append_right _ (List.mem_of_getElem? (i := 206) rfl)) (by decide +kernel)
theorem k_constantLong_X0_94 : .constantLong RX0 94 2 ∈ sd_WS := sd_in (List.mem_append_right _ (List.mem_of_getElem? (i := 179) rfl)) (by decide +kernel)
theorem k_constant_X0_31 : .constant RX0 31 100000 ∈ sd_WS := sd_in (List.mem_append_right _ (List.mem_of_getElem? (i := 114) rfl)) (by decide +kernel)
theorem k_fieldLink_X0_13 : .fieldLink RX0 13 "ShareDesk" "parties" "I" ∈ sd_WS := sd_in (List.mem_append_right _ (List.mem_of_getElem? (i := 17) rfl)) (by decide +kernel)
theorem k_fieldLink_X0_17 : .fieldLink RX0 17 "ShareDesk" "total" "I" ∈ sd_WS := sd_in (List.mem_append_right _ (List.mem_of_getElem? (i := 18) rfl)) (by decide +kernel)
theorem k_fieldLink_X0_9 : .fieldLink RX0 9 "ShareDesk" "weights" "[I" ∈ sd_WS := sd_in (List.mem_append_right _ (List.mem_of_getElem? (i := 16) rfl)) (by decide +kernel)
theorem k_init_ShareDesk : .initialized RX0 ∈ sd_WS := sd_in (List.mem_append_right _ (List.mem_of_getElem? (i := 1) rfl)) (by decide +kernel)
theorem k_init_java_lang_IllegalArgumentException : .initialized "java/lang/IllegalArgumentException" ∈ sd_WS := sd_in (List.mem_append_right _ (List.mem_of_getElem? (i := 6) rfl)) (by decide +kernel)
theorem k_init_java_lang_IllegalStateException : .initialized "java/lang/IllegalStateException" ∈ sd_WS := sd_in (List.mem_append_right _ (List.mem_of_getElem? (i := 7) rfl)) (by decide +kernel)
theorem k_instanceMethod_X0_checkParty : .instanceMethod yX0_checkParty ∈ sd_WS := sd_in (List.mem_append_right _ (List.mem_of_getElem? (i := 111) rfl)) (by decide +kernel)
theorem k_instanceMethod_X0_checkTotal : .instanceMethod yX0_checkTotal ∈ sd_WS := sd_in (List.mem_append_right _ (List.mem_of_getElem? (i := 134) rfl)) (by decide +kernel)
theorem k_instanceMethod_X0_leastByRests : .instanceMethod yX0_leastByRests ∈ sd_WS := sd_in (List.mem_append_right _ (List.mem_of_getElem? (i := 204) rfl)) (by decide +kernel)
theorem k_instanceMethod_X0_partiesWithWeight : .instanceMethod yX0_partiesWithWeight ∈ sd_WS := sd_in (List.mem_append_right _ (List.mem_of_getElem? (i := 216) rfl)) (by decide +kernel)
theorem k_instanceMethod_X0_restOf : .instanceMethod yX0_restOf ∈ sd_WS := sd_in (List.mem_append_right _ (List.mem_of_getElem? (i := 162) rfl)) (by decide +kernel)
theorem k_instanceMethod_X0_turnOf : .instanceMethod yX0_turnOf ∈ sd_WS := sd_in (List.mem_append_right _ (List.mem_of_getElem? (i := 170) rfl)) (by decide +kernel)
theorem k_instanceMethod_X0_unitsBefore : .instanceMethod yX0_unitsBefore ∈ sd_WS := sd_in (List.mem_append_right _ (List.mem_of_getElem? (i := 174) rfl)) (by decide +kernel)
theorem k_instanceMethod_X0_unitsByRests : .instanceMethod yX0_unitsByRests ∈ sd_WS := sd_in (List.mem_append_right _ (List.mem_of_getElem? (i := 158) rfl)) (by decide +kernel)
theorem k_instanceMethod_X0_unitsByTurns : .instanceMethod yX0_unitsByTurns ∈ sd_WS := sd_in (List.mem_append_right _ (List.mem_of_getElem? (i := 166) rfl)) (by decide +kernel)
theorem k_instanceMethod_X0_unitsOf : .instanceMethod yX0_unitsOf ∈ sd_WS := sd_in (List.mem_append_right _ (List.mem_of_getElem? (i := 154) rfl)) (by decide +kernel)
theorem k_lays_X0_parties : .lays RX0 "ShareDesk" "parties" "I" ∈ sd_WS := sd_in (List.mem_append_right _ (List.mem_of_getElem? (i := 21) rfl)) (by decide +kernel)
theorem k_lays_X0_total : .lays RX0 "ShareDesk" "total" "I" ∈ sd_WS := sd_in (List.mem_append_right _ (List.mem_of_getElem? (i := 23) rfl)) (by decide +kernel)
theorem k_lays_X0_weights : .laysFinal RX0 "ShareDesk" "weights" "[I" ∈ sd_WS := sd_in (List.mem_append_right _ (List.mem_of_getElem? (i := 19) rfl)) (by decide +kernel)
theorem k_lays_X1_err : .lays RX1 "ShareDeskModel" "err" "I" ∈ sd_WS := sd_in (List.mem_append_right _ (List.mem_of_getElem? (i := 231) rfl)) (by decide +kernel)
theorem k_lays_X1_got : .laysFinal RX1 "ShareDeskModel" "got" "[Z" ∈ sd_WS := sd_in (List.mem_append_right _ (List.mem_of_getElem? (i := 241) rfl)) (by decide +kernel)
theorem k_lays_X1_kept : .laysFinal RX1 "ShareDeskModel" "kept" "[J" ∈ sd_WS := sd_in (List.mem_append_right _ (List.mem_of_getElem? (i := 239) rfl)) (by decide +kernel)
theorem k_lays_X1_parties : .lays RX1 "ShareDeskModel" "parties" "I" ∈ sd_WS := sd_in (List.mem_append_right _ (List.mem_of_getElem? (i := 233) rfl)) (by decide +kernel)
theorem k_lays_X1_shares : .laysFinal RX1 "ShareDeskModel" "shares" "[J" ∈ sd_WS := sd_in (List.mem_append_right _ (List.mem_of_getElem? (i := 237) rfl)) (by decide +kernel)
theorem k_lays_X1_weights : .laysFinal RX1 "ShareDeskModel" "weights" "[J" ∈ sd_WS := sd_in (List.mem_append_right _ (List.mem_of_getElem? (i := 235) rfl)) (by decide +kernel)
theorem k_methodLink_X0_1 : .methodLink RX0 1 objectInit ∈ sd_WS := sd_in (List.mem_append_right _ (List.mem_of_getElem? (i := 13) rfl)) (by decide +kernel)
theorem k_methodLink_X0_27 : .methodLink RX0 27 yX0_checkParty ∈ sd_WS := sd_in (List.mem_append_right _ (List.mem_of_getElem? (i := 109) rfl)) (by decide +kernel)
theorem k_methodLink_X0_34 : .methodLink RX0 34 yX0_checkWay ∈ sd_WS := sd_in (List.mem_append_right _ (List.mem_of_getElem? (i := 124) rfl)) (by decide +kernel)
theorem k_methodLink_X0_37 : .methodLink RX0 37 yX0_checkUnits ∈ sd_WS := sd_in (List.mem_append_right _ (List.mem_of_getElem? (i := 128) rfl)) (by decide +kernel)
theorem k_methodLink_X0_41 : .methodLink RX0 41 yX0_checkTotal ∈ sd_WS := sd_in (List.mem_append_right _ (List.mem_of_getElem? (i := 132) rfl)) (by decide +kernel)
theorem k_methodLink_X0_44 : .methodLink RX0 44 yX0_unitsOf ∈ sd_WS := sd_in (List.mem_append_right _ (List.mem_of_getElem? (i := 152) rfl)) (by decide +kernel)
theorem k_methodLink_X0_50 : .methodLink RX0 50 yX0_leastByRests ∈ sd_WS := sd_in (List.mem_append_right _ (List.mem_of_getElem? (i := 202) rfl)) (by decide +kernel)
theorem k_methodLink_X0_54 : .methodLink RX0 54 yX0_turnOf ∈ sd_WS := sd_in (List.mem_append_right _ (List.mem_of_getElem? (i := 168) rfl)) (by decide +kernel)
theorem k_methodLink_X0_60 : .methodLink RX0 60 yX0_partiesWithWeight ∈ sd_WS := sd_in (List.mem_append_right _ (List.mem_of_getElem? (i := 214) rfl)) (by decide +kernel)
theorem k_methodLink_X0_77 : .methodLink RX0 77 yX0_unitsByRests ∈ sd_WS := sd_in (List.mem_append_right _ (List.mem_of_getElem? (i := 156) rfl)) (by decide +kernel)
theorem k_methodLink_X0_80 : .methodLink RX0 80 yX0_unitsByTurns ∈ sd_WS := sd_in (List.mem_append_right _ (List.mem_of_getElem? (i := 164) rfl)) (by decide +kernel)
theorem k_methodLink_X0_83 : .methodLink RX0 83 yX0_restOf ∈ sd_WS := sd_in (List.mem_append_right _ (List.mem_of_getElem? (i := 160) rfl)) (by decide +kernel)
theorem k_methodLink_X0_87 : .methodLink RX0 87 yX0_unitsBefore ∈ sd_WS := sd_in (List.mem_append_right _ (List.mem_of_getElem? (i := 172) rfl)) (by decide +kernel)
theorem k_methodLink_X0_91 : .methodLink RX0 91 yX0_divisorOf ∈ sd_WS := sd_in (List.mem_append_right _ (List.mem_of_getElem? (i := 176) rfl)) (by decide +kernel)
theorem k_objC : .code objectInit ⟨#[0xb1]⟩ 1 none ∈ sd_WS := sd_in (List.mem_append_right _ (List.mem_of_getElem? (i := 15) rfl)) (by decide +kernel)
theorem k_objI : .instanceMethod objectInit ∈ sd_WS := sd_in (List.mem_append_right _ (List.mem_of_getElem? (i := 14) rfl)) (by decide +kernel)
theorem k_sel_X0_checkParty : .selects RX0 yX0_checkParty yX0_checkParty ∈ sd_WS := sd_in (List.mem_append_left _ (List.mem_of_getElem? (i := 1) rfl)) (by decide +kernel)
theorem k_sel_X0_checkTotal : .selects RX0 yX0_checkTotal yX0_checkTotal ∈ sd_WS := sd_in (List.mem_append_left _ (List.mem_of_getElem? (i := 2) rfl)) (by decide +kernel)
theorem k_sel_X0_leastByRests : .selects RX0 yX0_leastByRests yX0_leastByRests ∈ sd_WS := sd_in (List.mem_append_left _ (List.mem_of_getElem? (i := 9) rfl)) (by decide +kernel)
theorem k_sel_X0_partiesWithWeight : .selects RX0 yX0_partiesWithWeight yX0_partiesWithWeight ∈ sd_WS := sd_in (List.mem_append_left _ (List.mem_of_getElem? (i := 10) rfl)) (by decide +kernel)
theorem k_sel_X0_restOf : .selects RX0 yX0_restOf yX0_restOf ∈ sd_WS := sd_in (List.mem_append_left _ (List.mem_of_getElem? (i := 5) rfl)) (by decide +kernel)
theorem k_sel_X0_turnOf : .selects RX0 yX0_turnOf yX0_turnOf ∈ sd_WS := sd_in (List.mem_append_left _ (List.mem_of_getElem? (i := 7) rfl)) (by decide +kernel)
theorem k_sel_X0_unitsBefore : .selects RX0 yX0_unitsBefore yX0_unitsBefore ∈ sd_WS := sd_in (List.mem_append_left _ (List.mem_of_getElem? (i := 8) rfl)) (by decide +kernel)
theorem k_sel_X0_unitsByRests : .selects RX0 yX0_unitsByRests yX0_unitsByRests ∈ sd_WS := sd_in (List.mem_append_left _ (List.mem_of_getElem? (i := 4) rfl)) (by decide +kernel)
theorem k_sel_X0_unitsByTurns : .selects RX0 yX0_unitsByTurns yX0_unitsByTurns ∈ sd_WS := sd_in (List.mem_append_left _ (List.mem_of_getElem? (i := 6) rfl)) (by decide +kernel)
theorem k_sel_X0_unitsOf : .selects RX0 yX0_unitsOf yX0_unitsOf ∈ sd_WS := sd_in (List.mem_append_left _ (List.mem_of_getElem? (i := 3) rfl)) (by decide +kernel)
theorem k_static_X0_checkUnits : .static yX0_checkUnits ∈ sd_WS := sd_in (List.mem_append_right _ (List.mem_of_getElem? (i := 129) rfl)) (by decide +kernel)
theorem k_static_X0_checkWay : .static yX0_checkWay ∈ sd_WS := sd_in (List.mem_append_right _ (List.mem_of_getElem? (i := 125) rfl)) (by decide +kernel)
theorem k_static_X0_divisorOf : .static yX0_divisorOf ∈ sd_WS := sd_in (List.mem_append_right _ (List.mem_of_getElem? (i := 177) rfl)) (by decide +kernel)
theorem u_in_X0 : ∀ w ∈ u_ws RX0 TX0 3, w ∈ sd_WS := by
  intro w hw
  have h : u_ws RX0 TX0 3 = [.laysFinal RX0 "ShareDesk" "weights" "[I", .lays RX0 "ShareDesk" "parties" "I", .lays RX0 "ShareDesk" "total" "I"] := rfl
  rw [h] at hw
  simp only [List.mem_cons, List.not_mem_nil, or_false] at hw
  rcases hw with rfl | rfl | rfl
  · exact k_lays_X0_weights
  · exact k_lays_X0_parties
  · exact k_lays_X0_total
theorem u_in_X1 : ∀ w ∈ u_ws RX1 TX1 6, w ∈ sd_WS := by
  intro w hw
  have h : u_ws RX1 TX1 6 = [.lays RX1 "ShareDeskModel" "err" "I", .lays RX1 "ShareDeskModel" "parties" "I", .laysFinal RX1 "ShareDeskModel" "weights" "[J", .laysFinal RX1 "ShareDeskModel" "shares" "[J", .laysFinal RX1 "ShareDeskModel" "kept" "[J", .laysFinal RX1 "ShareDeskModel" "got" "[Z"] := rfl
  rw [h] at hw
  simp only [List.mem_cons, List.not_mem_nil, or_false] at hw
  rcases hw with rfl | rfl | rfl | rfl | rfl | rfl
  · exact k_lays_X1_err
  · exact k_lays_X1_parties
  · exact k_lays_X1_weights
  · exact k_lays_X1_shares
  · exact k_lays_X1_kept
  · exact k_lays_X1_got
/-- the desk, as cells -/
def sd_O (cA : ClassId) (h0 a0 n : Nat) (w : Nat → Nat) : va_W := [(h0, .inr (0, [.ref a0, .int (nI n), .int (nI (sd_sum w n))])), (a0, .inl (cA, 8, .inl (fun i => nI (w i))))]
