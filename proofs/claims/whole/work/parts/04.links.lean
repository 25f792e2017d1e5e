/-! links -/
theorem iw_Al : ∀ w ∈ u_ws "MailAgent$Aliases" T_Al 1, w ∈ jTG := by
  intro w hw
  obtain ⟨k, hk, rfl⟩ := List.mem_map.mp hw
  have hk := List.mem_range.mp hk
  match k, hk with
  | 0, _ => exact w_1_36
  | k + 1, h => exact absurd h (by omega)
theorem iw_De : ∀ w ∈ u_ws "MailAgent$Deliveries" T_De 4, w ∈ jTG := by
  intro w hw
  obtain ⟨k, hk, rfl⟩ := List.mem_map.mp hw
  have hk := List.mem_range.mp hk
  match k, hk with
  | 0, _ => exact w_1_175
  | 1, _ => exact w_1_177
  | 2, _ => exact w_1_179
  | 3, _ => exact w_1_181
  | k + 4, h => exact absurd h (by omega)
theorem iw_Me : ∀ w ∈ u_ws "MailAgent$Message" T_Me 8, w ∈ jTG := by
  intro w hw
  obtain ⟨k, hk, rfl⟩ := List.mem_map.mp hw
  have hk := List.mem_range.mp hk
  match k, hk with
  | 0, _ => exact w_1_135
  | 1, _ => exact w_1_137
  | 2, _ => exact w_1_139
  | 3, _ => exact w_1_141
  | 4, _ => exact w_1_143
  | 5, _ => exact w_1_145
  | 6, _ => exact w_1_147
  | 7, _ => exact w_1_149
  | k + 8, h => exact absurd h (by omega)
theorem iw_Qu : ∀ w ∈ u_ws "MailAgent$Queue" T_Qu 2, w ∈ jTG := by
  intro w hw
  obtain ⟨k, hk, rfl⟩ := List.mem_map.mp hw
  have hk := List.mem_range.mp hk
  match k, hk with
  | 0, _ => exact w_1_156
  | 1, _ => exact w_1_158
  | k + 2, h => exact absurd h (by omega)
theorem iw_Re : ∀ w ∈ u_ws "MailAgent$Recipients" T_Re 3, w ∈ jTG := by
  intro w hw
  obtain ⟨k, hk, rfl⟩ := List.mem_map.mp hw
  have hk := List.mem_range.mp hk
  match k, hk with
  | 0, _ => exact w_1_81
  | 1, _ => exact w_1_83
  | 2, _ => exact w_1_85
  | k + 3, h => exact absurd h (by omega)
theorem iw_Ro : ∀ w ∈ u_ws "MailAgent$Routes" T_Ro 3, w ∈ jTG := by
  intro w hw
  obtain ⟨k, hk, rfl⟩ := List.mem_map.mp hw
  have hk := List.mem_range.mp hk
  match k, hk with
  | 0, _ => exact w_1_52
  | 1, _ => exact w_1_54
  | 2, _ => exact w_1_56
  | k + 3, h => exact absurd h (by omega)
theorem iw_Tr : ∀ w ∈ u_ws "MailAgent$Transaction" T_Tr 3, w ∈ jTG := by
  intro w hw
  obtain ⟨k, hk, rfl⟩ := List.mem_map.mp hw
  have hk := List.mem_range.mp hk
  match k, hk with
  | 0, _ => exact w_1_95
  | 1, _ => exact w_1_97
  | 2, _ => exact w_1_99
  | k + 3, h => exact absurd h (by omega)
theorem iw_Ma : ∀ w ∈ u_ws "MailAgent" T_Ma 13, w ∈ jTG := by
  intro w hw
  obtain ⟨k, hk, rfl⟩ := List.mem_map.mp hw
  have hk := List.mem_range.mp hk
  match k, hk with
  | 0, _ => exact w_1_197
  | 1, _ => exact w_1_199
  | 2, _ => exact w_1_201
  | 3, _ => exact w_1_203
  | 4, _ => exact w_1_205
  | 5, _ => exact w_1_207
  | 6, _ => exact w_1_209
  | 7, _ => exact w_1_211
  | 8, _ => exact w_1_213
  | 9, _ => exact w_1_215
  | 10, _ => exact w_1_217
  | 11, _ => exact w_1_219
  | 12, _ => exact w_1_221
  | k + 13, h => exact absurd h (by omega)
theorem iw_Mo : ∀ w ∈ u_ws "MailAgentModel" T_Mo 24, w ∈ jTG := by
  intro w hw
  obtain ⟨k, hk, rfl⟩ := List.mem_map.mp hw
  have hk := List.mem_range.mp hk
  match k, hk with
  | 0, _ => exact w_3_15
  | 1, _ => exact w_3_17
  | 2, _ => exact w_3_19
  | 3, _ => exact w_3_21
  | 4, _ => exact w_3_23
  | 5, _ => exact w_3_25
  | 6, _ => exact w_3_27
  | 7, _ => exact w_3_29
  | 8, _ => exact w_3_31
  | 9, _ => exact w_3_33
  | 10, _ => exact w_3_35
  | 11, _ => exact w_3_37
  | 12, _ => exact w_3_39
  | 13, _ => exact w_3_41
  | 14, _ => exact w_3_43
  | 15, _ => exact w_3_45
  | 16, _ => exact w_3_47
  | 17, _ => exact w_3_49
  | 18, _ => exact w_3_51
  | 19, _ => exact w_3_53
  | 20, _ => exact w_3_55
  | 21, _ => exact w_3_57
  | 22, _ => exact w_3_59
  | 23, _ => exact w_3_61
  | k + 24, h => exact absurd h (by omega)
theorem nw_La_7 : jNW "MailAgentLaw" 7 7 13 [.int 0, .int 0, .int 0, .null, .null, .null, .null, .null, .null, .null, .int 0, .int 0, .int 0] := ⟨_, _, ty_Ma, rfl, iw_Ma, tyok_Ma, w_1_12, w_1_13, w_1_1, by
  intro j hj
  match j, hj with
  | 0, _ => rfl
  | 1, _ => rfl
  | 2, _ => rfl
  | 3, _ => rfl
  | 4, _ => rfl
  | 5, _ => rfl
  | 6, _ => rfl
  | 7, _ => rfl
  | 8, _ => rfl
  | 9, _ => rfl
  | 10, _ => rfl
  | 11, _ => rfl
  | 12, _ => rfl
  | j + 13, h => exact absurd h (by omega)⟩
theorem nw_Ma_23 : jNW "MailAgent" 23 0 1 [.null] := ⟨_, _, ty_Al, rfl, iw_Al, tyok_Al, w_1_29, w_1_30, w_1_3, by
  intro j hj
  match j, hj with
  | 0, _ => rfl
  | j + 1, h => exact absurd h (by omega)⟩
theorem fl_Al_9 : jFL "MailAgent$Aliases" 9 0 0 := ⟨_, _, _, rfl, by decide, iw_Al, w_1_35⟩
theorem fp_Al_9 : jFP "MailAgent$Aliases" 9 0 0 (.array .long) true := ⟨_, _, _, ty_Al, rfl, by decide, iw_Al, w_1_35, rfl, by decide +kernel, tyok_Al, nm_Al, fun _ => rfl⟩
theorem nw_Ma_30 : jNW "MailAgent" 30 5 3 [.null, .null, .int 0] := ⟨_, _, ty_Ro, rfl, iw_Ro, tyok_Ro, w_1_40, w_1_42, w_1_4, by
  intro j hj
  match j, hj with
  | 0, _ => rfl
  | 1, _ => rfl
  | 2, _ => rfl
  | j + 3, h => exact absurd h (by omega)⟩
theorem fl_Ro_9 : jFL "MailAgent$Routes" 9 5 0 := ⟨_, _, _, rfl, by decide, iw_Ro, w_1_47⟩
theorem fp_Ro_9 : jFP "MailAgent$Routes" 9 5 0 (.array .int) true := ⟨_, _, _, ty_Ro, rfl, by decide, iw_Ro, w_1_47, rfl, by decide +kernel, tyok_Ro, nm_Ro, fun _ => rfl⟩
theorem fl_Ma_240 : jFL "MailAgent" 240 5 0 := ⟨_, _, _, rfl, by decide, iw_Ro, w_1_48⟩
theorem fl_Ro_15 : jFL "MailAgent$Routes" 15 5 1 := ⟨_, _, _, rfl, by decide, iw_Ro, w_1_49⟩
theorem fp_Ro_15 : jFP "MailAgent$Routes" 15 5 1 (.array .int) true := ⟨_, _, _, ty_Ro, rfl, by decide, iw_Ro, w_1_49, rfl, by decide +kernel, tyok_Ro, nm_Ro, fun _ => rfl⟩
theorem fl_Ro_18 : jFL "MailAgent$Routes" 18 5 2 := ⟨_, _, _, rfl, by decide, iw_Ro, w_1_50⟩
theorem fp_Ro_18 : jFP "MailAgent$Routes" 18 5 2 (.int) false := ⟨_, _, _, ty_Ro, rfl, by decide, iw_Ro, w_1_50, rfl, by decide +kernel, tyok_Ro, nm_Ro, fun h => by cases h⟩
theorem fl_Ma_239 : jFL "MailAgent" 239 5 2 := ⟨_, _, _, rfl, by decide, iw_Ro, w_1_51⟩
theorem fp_Ma_239 : jFP "MailAgent" 239 5 2 (.int) false := ⟨_, _, _, ty_Ro, rfl, by decide, iw_Ro, w_1_51, rfl, by decide +kernel, tyok_Ro, nm_Ro, fun h => by cases h⟩
theorem nw_Ma_41 : jNW "MailAgent" 41 6 3 [.null, .int 0, .int 0] := ⟨_, _, ty_Tr, rfl, iw_Tr, tyok_Tr, w_1_60, w_1_61, w_1_5, by
  intro j hj
  match j, hj with
  | 0, _ => rfl
  | 1, _ => rfl
  | 2, _ => rfl
  | j + 3, h => exact absurd h (by omega)⟩
theorem nw_Tr_9 : jNW "MailAgent$Transaction" 9 4 3 [.null, .null, .int 0] := ⟨_, _, ty_Re, rfl, iw_Re, tyok_Re, w_1_66, w_1_67, w_1_6, by
  intro j hj
  match j, hj with
  | 0, _ => rfl
  | 1, _ => rfl
  | 2, _ => rfl
  | j + 3, h => exact absurd h (by omega)⟩
theorem fl_Re_9 : jFL "MailAgent$Recipients" 9 4 0 := ⟨_, _, _, rfl, by decide, iw_Re, w_1_72⟩
theorem fp_Re_9 : jFP "MailAgent$Recipients" 9 4 0 (.array .int) true := ⟨_, _, _, ty_Re, rfl, by decide, iw_Re, w_1_72, rfl, by decide +kernel, tyok_Re, nm_Re, fun _ => rfl⟩
theorem fl_Ma_229 : jFL "MailAgent" 229 4 0 := ⟨_, _, _, rfl, by decide, iw_Re, w_1_73⟩
theorem fl_Re_15 : jFL "MailAgent$Recipients" 15 4 1 := ⟨_, _, _, rfl, by decide, iw_Re, w_1_74⟩
theorem fp_Re_15 : jFP "MailAgent$Recipients" 15 4 1 (.array .int) true := ⟨_, _, _, ty_Re, rfl, by decide, iw_Re, w_1_74, rfl, by decide +kernel, tyok_Re, nm_Re, fun _ => rfl⟩
theorem fl_Ma_226 : jFL "MailAgent" 226 4 1 := ⟨_, _, _, rfl, by decide, iw_Re, w_1_75⟩
theorem fl_Re_18 : jFL "MailAgent$Recipients" 18 4 2 := ⟨_, _, _, rfl, by decide, iw_Re, w_1_76⟩
theorem fp_Re_18 : jFP "MailAgent$Recipients" 18 4 2 (.int) false := ⟨_, _, _, ty_Re, rfl, by decide, iw_Re, w_1_76, rfl, by decide +kernel, tyok_Re, nm_Re, fun h => by cases h⟩
theorem fl_Tr_26 : jFL "MailAgent$Transaction" 26 4 2 := ⟨_, _, _, rfl, by decide, iw_Re, w_1_77⟩
theorem fp_Tr_26 : jFP "MailAgent$Transaction" 26 4 2 (.int) false := ⟨_, _, _, ty_Re, rfl, by decide, iw_Re, w_1_77, rfl, by decide +kernel, tyok_Re, nm_Re, fun h => by cases h⟩
theorem fl_Me_55 : jFL "MailAgent$Message" 55 4 2 := ⟨_, _, _, rfl, by decide, iw_Re, w_1_78⟩
theorem fp_Me_55 : jFP "MailAgent$Message" 55 4 2 (.int) false := ⟨_, _, _, ty_Re, rfl, by decide, iw_Re, w_1_78, rfl, by decide +kernel, tyok_Re, nm_Re, fun h => by cases h⟩
theorem fl_Qu_30 : jFL "MailAgent$Queue" 30 4 2 := ⟨_, _, _, rfl, by decide, iw_Re, w_1_79⟩
theorem fp_Qu_30 : jFP "MailAgent$Queue" 30 4 2 (.int) false := ⟨_, _, _, ty_Re, rfl, by decide, iw_Re, w_1_79, rfl, by decide +kernel, tyok_Re, nm_Re, fun h => by cases h⟩
theorem fl_Ma_129 : jFL "MailAgent" 129 4 2 := ⟨_, _, _, rfl, by decide, iw_Re, w_1_80⟩
theorem fp_Ma_129 : jFP "MailAgent" 129 4 2 (.int) false := ⟨_, _, _, ty_Re, rfl, by decide, iw_Re, w_1_80, rfl, by decide +kernel, tyok_Re, nm_Re, fun h => by cases h⟩
theorem fl_Tr_12 : jFL "MailAgent$Transaction" 12 6 0 := ⟨_, _, _, rfl, by decide, iw_Tr, w_1_88⟩
theorem fp_Tr_12 : jFP "MailAgent$Transaction" 12 6 0 (.object "MailAgent$Recipients") true := ⟨_, _, _, ty_Tr, rfl, by decide, iw_Tr, w_1_88, rfl, by decide +kernel, tyok_Tr, nm_Tr, fun _ => rfl⟩
theorem fl_Me_35 : jFL "MailAgent$Message" 35 6 0 := ⟨_, _, _, rfl, by decide, iw_Tr, w_1_89⟩
theorem fl_Ma_111 : jFL "MailAgent" 111 6 0 := ⟨_, _, _, rfl, by decide, iw_Tr, w_1_90⟩
theorem fl_Tr_18 : jFL "MailAgent$Transaction" 18 6 1 := ⟨_, _, _, rfl, by decide, iw_Tr, w_1_91⟩
theorem fp_Tr_18 : jFP "MailAgent$Transaction" 18 6 1 (.boolean) false := ⟨_, _, _, ty_Tr, rfl, by decide, iw_Tr, w_1_91, rfl, by decide +kernel, tyok_Tr, nm_Tr, fun h => by cases h⟩
theorem fl_Ma_103 : jFL "MailAgent" 103 6 1 := ⟨_, _, _, rfl, by decide, iw_Tr, w_1_92⟩
theorem fp_Ma_103 : jFP "MailAgent" 103 6 1 (.boolean) false := ⟨_, _, _, ty_Tr, rfl, by decide, iw_Tr, w_1_92, rfl, by decide +kernel, tyok_Tr, nm_Tr, fun h => by cases h⟩
theorem fl_Tr_22 : jFL "MailAgent$Transaction" 22 6 2 := ⟨_, _, _, rfl, by decide, iw_Tr, w_1_93⟩
theorem fp_Tr_22 : jFP "MailAgent$Transaction" 22 6 2 (.int) false := ⟨_, _, _, ty_Tr, rfl, by decide, iw_Tr, w_1_93, rfl, by decide +kernel, tyok_Tr, nm_Tr, fun h => by cases h⟩
theorem fl_Me_22 : jFL "MailAgent$Message" 22 6 2 := ⟨_, _, _, rfl, by decide, iw_Tr, w_1_94⟩
theorem fp_Me_22 : jFP "MailAgent$Message" 22 6 2 (.int) false := ⟨_, _, _, ty_Tr, rfl, by decide, iw_Tr, w_1_94, rfl, by decide +kernel, tyok_Tr, nm_Tr, fun h => by cases h⟩
theorem nw_Ma_48 : jNW "MailAgent" 48 3 2 [.null, .int 0] := ⟨_, _, ty_Qu, rfl, iw_Qu, tyok_Qu, w_1_102, w_1_103, w_1_7, by
  intro j hj
  match j, hj with
  | 0, _ => rfl
  | 1, _ => rfl
  | j + 2, h => exact absurd h (by omega)⟩
theorem nw_Qu_9 : jNW "MailAgent$Queue" 9 2 8 [.null, .int 0, .int 0, .int 0, .int 0, .int 0, .int 0, .int 0] := ⟨_, _, ty_Me, rfl, iw_Me, tyok_Me, w_1_108, w_1_110, w_1_8, by
  intro j hj
  match j, hj with
  | 0, _ => rfl
  | 1, _ => rfl
  | 2, _ => rfl
  | 3, _ => rfl
  | 4, _ => rfl
  | 5, _ => rfl
  | 6, _ => rfl
  | 7, _ => rfl
  | j + 8, h => exact absurd h (by omega)⟩
theorem nw_Me_9 : jNW "MailAgent$Message" 9 4 3 [.null, .null, .int 0] := ⟨_, _, ty_Re, rfl, iw_Re, tyok_Re, w_1_115, w_1_67, w_1_6, by
  intro j hj
  match j, hj with
  | 0, _ => rfl
  | 1, _ => rfl
  | 2, _ => rfl
  | j + 3, h => exact absurd h (by omega)⟩
theorem fl_Me_12 : jFL "MailAgent$Message" 12 2 0 := ⟨_, _, _, rfl, by decide, iw_Me, w_1_117⟩
theorem fp_Me_12 : jFP "MailAgent$Message" 12 2 0 (.object "MailAgent$Recipients") true := ⟨_, _, _, ty_Me, rfl, by decide, iw_Me, w_1_117, rfl, by decide +kernel, tyok_Me, nm_Me, fun _ => rfl⟩
theorem fl_Qu_26 : jFL "MailAgent$Queue" 26 2 0 := ⟨_, _, _, rfl, by decide, iw_Me, w_1_118⟩
theorem fl_Ma_199 : jFL "MailAgent" 199 2 0 := ⟨_, _, _, rfl, by decide, iw_Me, w_1_119⟩
theorem fl_Me_18 : jFL "MailAgent$Message" 18 2 1 := ⟨_, _, _, rfl, by decide, iw_Me, w_1_120⟩
theorem fp_Me_18 : jFP "MailAgent$Message" 18 2 1 (.int) false := ⟨_, _, _, ty_Me, rfl, by decide, iw_Me, w_1_120, rfl, by decide +kernel, tyok_Me, nm_Me, fun h => by cases h⟩
theorem fl_De_30 : jFL "MailAgent$Deliveries" 30 2 1 := ⟨_, _, _, rfl, by decide, iw_Me, w_1_121⟩
theorem fp_De_30 : jFP "MailAgent$Deliveries" 30 2 1 (.int) false := ⟨_, _, _, ty_Me, rfl, by decide, iw_Me, w_1_121, rfl, by decide +kernel, tyok_Me, nm_Me, fun h => by cases h⟩
theorem fl_Qu_22 : jFL "MailAgent$Queue" 22 2 1 := ⟨_, _, _, rfl, by decide, iw_Me, w_1_122⟩
theorem fp_Qu_22 : jFP "MailAgent$Queue" 22 2 1 (.int) false := ⟨_, _, _, ty_Me, rfl, by decide, iw_Me, w_1_122, rfl, by decide +kernel, tyok_Me, nm_Me, fun h => by cases h⟩
theorem fl_Ma_196 : jFL "MailAgent" 196 2 1 := ⟨_, _, _, rfl, by decide, iw_Me, w_1_123⟩
theorem fp_Ma_196 : jFP "MailAgent" 196 2 1 (.int) false := ⟨_, _, _, ty_Me, rfl, by decide, iw_Me, w_1_123, rfl, by decide +kernel, tyok_Me, nm_Me, fun h => by cases h⟩
theorem fl_Me_27 : jFL "MailAgent$Message" 27 2 2 := ⟨_, _, _, rfl, by decide, iw_Me, w_1_124⟩
theorem fp_Me_27 : jFP "MailAgent$Message" 27 2 2 (.int) false := ⟨_, _, _, ty_Me, rfl, by decide, iw_Me, w_1_124, rfl, by decide +kernel, tyok_Me, nm_Me, fun h => by cases h⟩
theorem fl_Ma_203 : jFL "MailAgent" 203 2 2 := ⟨_, _, _, rfl, by decide, iw_Me, w_1_125⟩
theorem fp_Ma_203 : jFP "MailAgent" 203 2 2 (.int) false := ⟨_, _, _, ty_Me, rfl, by decide, iw_Me, w_1_125, rfl, by decide +kernel, tyok_Me, nm_Me, fun h => by cases h⟩
theorem fl_Me_28 : jFL "MailAgent$Message" 28 2 3 := ⟨_, _, _, rfl, by decide, iw_Me, w_1_126⟩
theorem fp_Me_28 : jFP "MailAgent$Message" 28 2 3 (.int) false := ⟨_, _, _, ty_Me, rfl, by decide, iw_Me, w_1_126, rfl, by decide +kernel, tyok_Me, nm_Me, fun h => by cases h⟩
theorem fl_Qu_25 : jFL "MailAgent$Queue" 25 2 3 := ⟨_, _, _, rfl, by decide, iw_Me, w_1_127⟩
theorem fp_Qu_25 : jFP "MailAgent$Queue" 25 2 3 (.int) false := ⟨_, _, _, ty_Me, rfl, by decide, iw_Me, w_1_127, rfl, by decide +kernel, tyok_Me, nm_Me, fun h => by cases h⟩
theorem fl_Me_40 : jFL "MailAgent$Message" 40 2 4 := ⟨_, _, _, rfl, by decide, iw_Me, w_1_128⟩
theorem fp_Me_40 : jFP "MailAgent$Message" 40 2 4 (.int) false := ⟨_, _, _, ty_Me, rfl, by decide, iw_Me, w_1_128, rfl, by decide +kernel, tyok_Me, nm_Me, fun h => by cases h⟩
theorem fl_Ma_243 : jFL "MailAgent" 243 2 4 := ⟨_, _, _, rfl, by decide, iw_Me, w_1_129⟩
theorem fp_Ma_243 : jFP "MailAgent" 243 2 4 (.int) false := ⟨_, _, _, ty_Me, rfl, by decide, iw_Me, w_1_129, rfl, by decide +kernel, tyok_Me, nm_Me, fun h => by cases h⟩
theorem fl_Me_43 : jFL "MailAgent$Message" 43 2 5 := ⟨_, _, _, rfl, by decide, iw_Me, w_1_130⟩
theorem fp_Me_43 : jFP "MailAgent$Message" 43 2 5 (.int) false := ⟨_, _, _, ty_Me, rfl, by decide, iw_Me, w_1_130, rfl, by decide +kernel, tyok_Me, nm_Me, fun h => by cases h⟩
theorem fl_Ma_165 : jFL "MailAgent" 165 2 5 := ⟨_, _, _, rfl, by decide, iw_Me, w_1_131⟩
theorem fp_Ma_165 : jFP "MailAgent" 165 2 5 (.int) false := ⟨_, _, _, ty_Me, rfl, by decide, iw_Me, w_1_131, rfl, by decide +kernel, tyok_Me, nm_Me, fun h => by cases h⟩
theorem fl_Me_46 : jFL "MailAgent$Message" 46 2 6 := ⟨_, _, _, rfl, by decide, iw_Me, w_1_132⟩
theorem fp_Me_46 : jFP "MailAgent$Message" 46 2 6 (.int) false := ⟨_, _, _, ty_Me, rfl, by decide, iw_Me, w_1_132, rfl, by decide +kernel, tyok_Me, nm_Me, fun h => by cases h⟩
theorem fl_De_24 : jFL "MailAgent$Deliveries" 24 2 7 := ⟨_, _, _, rfl, by decide, iw_Me, w_1_133⟩
theorem fp_De_24 : jFP "MailAgent$Deliveries" 24 2 7 (.boolean) false := ⟨_, _, _, ty_Me, rfl, by decide, iw_Me, w_1_133, rfl, by decide +kernel, tyok_Me, nm_Me, fun h => by cases h⟩
theorem fl_Me_31 : jFL "MailAgent$Message" 31 2 7 := ⟨_, _, _, rfl, by decide, iw_Me, w_1_134⟩
theorem fp_Me_31 : jFP "MailAgent$Message" 31 2 7 (.boolean) false := ⟨_, _, _, ty_Me, rfl, by decide, iw_Me, w_1_134, rfl, by decide +kernel, tyok_Me, nm_Me, fun h => by cases h⟩
theorem fl_Qu_11 : jFL "MailAgent$Queue" 11 3 0 := ⟨_, _, _, rfl, by decide, iw_Qu, w_1_152⟩
theorem fp_Qu_11 : jFP "MailAgent$Queue" 11 3 0 (.array (.object "MailAgent$Message")) true := ⟨_, _, _, ty_Qu, rfl, by decide, iw_Qu, w_1_152, rfl, by decide +kernel, tyok_Qu, nm_Qu, fun _ => rfl⟩
theorem fl_Ma_161 : jFL "MailAgent" 161 3 0 := ⟨_, _, _, rfl, by decide, iw_Qu, w_1_153⟩
theorem fl_Qu_17 : jFL "MailAgent$Queue" 17 3 1 := ⟨_, _, _, rfl, by decide, iw_Qu, w_1_154⟩
theorem fp_Qu_17 : jFP "MailAgent$Queue" 17 3 1 (.int) false := ⟨_, _, _, ty_Qu, rfl, by decide, iw_Qu, w_1_154, rfl, by decide +kernel, tyok_Qu, nm_Qu, fun h => by cases h⟩
theorem fl_Ma_139 : jFL "MailAgent" 139 3 1 := ⟨_, _, _, rfl, by decide, iw_Qu, w_1_155⟩
theorem fp_Ma_139 : jFP "MailAgent" 139 3 1 (.int) false := ⟨_, _, _, ty_Qu, rfl, by decide, iw_Qu, w_1_155, rfl, by decide +kernel, tyok_Qu, nm_Qu, fun h => by cases h⟩
theorem nw_Ma_58 : jNW "MailAgent" 58 1 4 [.null, .null, .null, .null] := ⟨_, _, ty_De, rfl, iw_De, tyok_De, w_1_161, w_1_162, w_1_9, by
  intro j hj
  match j, hj with
  | 0, _ => rfl
  | 1, _ => rfl
  | 2, _ => rfl
  | 3, _ => rfl
  | j + 4, h => exact absurd h (by omega)⟩
theorem fl_De_9 : jFL "MailAgent$Deliveries" 9 1 0 := ⟨_, _, _, rfl, by decide, iw_De, w_1_167⟩
theorem fp_De_9 : jFP "MailAgent$Deliveries" 9 1 0 (.array .int) true := ⟨_, _, _, ty_De, rfl, by decide, iw_De, w_1_167, rfl, by decide +kernel, tyok_De, nm_De, fun _ => rfl⟩
theorem fl_Ma_206 : jFL "MailAgent" 206 1 0 := ⟨_, _, _, rfl, by decide, iw_De, w_1_168⟩
theorem fl_De_15 : jFL "MailAgent$Deliveries" 15 1 1 := ⟨_, _, _, rfl, by decide, iw_De, w_1_169⟩
theorem fp_De_15 : jFP "MailAgent$Deliveries" 15 1 1 (.array .int) true := ⟨_, _, _, ty_De, rfl, by decide, iw_De, w_1_169, rfl, by decide +kernel, tyok_De, nm_De, fun _ => rfl⟩
theorem fl_Ma_209 : jFL "MailAgent" 209 1 1 := ⟨_, _, _, rfl, by decide, iw_De, w_1_170⟩
theorem fl_De_18 : jFL "MailAgent$Deliveries" 18 1 2 := ⟨_, _, _, rfl, by decide, iw_De, w_1_171⟩
theorem fp_De_18 : jFP "MailAgent$Deliveries" 18 1 2 (.array .int) true := ⟨_, _, _, ty_De, rfl, by decide, iw_De, w_1_171, rfl, by decide +kernel, tyok_De, nm_De, fun _ => rfl⟩
theorem fl_Ma_212 : jFL "MailAgent" 212 1 2 := ⟨_, _, _, rfl, by decide, iw_De, w_1_172⟩
theorem fl_De_21 : jFL "MailAgent$Deliveries" 21 1 3 := ⟨_, _, _, rfl, by decide, iw_De, w_1_173⟩
theorem fp_De_21 : jFP "MailAgent$Deliveries" 21 1 3 (.array .int) true := ⟨_, _, _, ty_De, rfl, by decide, iw_De, w_1_173, rfl, by decide +kernel, tyok_De, nm_De, fun _ => rfl⟩
theorem fl_Ma_215 : jFL "MailAgent" 215 1 3 := ⟨_, _, _, rfl, by decide, iw_De, w_1_174⟩
theorem fl_Ma_13 : jFL "MailAgent" 13 7 0 := ⟨_, _, _, rfl, by decide, iw_Ma, w_1_184⟩
theorem fp_Ma_13 : jFP "MailAgent" 13 7 0 (.int) true := ⟨_, _, _, ty_Ma, rfl, by decide, iw_Ma, w_1_184, rfl, by decide +kernel, tyok_Ma, nm_Ma, fun _ => rfl⟩
theorem fl_Ma_17 : jFL "MailAgent" 17 7 1 := ⟨_, _, _, rfl, by decide, iw_Ma, w_1_185⟩
theorem fp_Ma_17 : jFP "MailAgent" 17 7 1 (.int) true := ⟨_, _, _, ty_Ma, rfl, by decide, iw_Ma, w_1_185, rfl, by decide +kernel, tyok_Ma, nm_Ma, fun _ => rfl⟩
theorem fl_Ma_20 : jFL "MailAgent" 20 7 2 := ⟨_, _, _, rfl, by decide, iw_Ma, w_1_186⟩
theorem fp_Ma_20 : jFP "MailAgent" 20 7 2 (.int) true := ⟨_, _, _, ty_Ma, rfl, by decide, iw_Ma, w_1_186, rfl, by decide +kernel, tyok_Ma, nm_Ma, fun _ => rfl⟩
theorem fl_Ma_26 : jFL "MailAgent" 26 7 3 := ⟨_, _, _, rfl, by decide, iw_Ma, w_1_187⟩
theorem fp_Ma_26 : jFP "MailAgent" 26 7 3 (.object "MailAgent$Aliases") true := ⟨_, _, _, ty_Ma, rfl, by decide, iw_Ma, w_1_187, rfl, by decide +kernel, tyok_Ma, nm_Ma, fun _ => rfl⟩
theorem fl_Ma_32 : jFL "MailAgent" 32 7 4 := ⟨_, _, _, rfl, by decide, iw_Ma, w_1_188⟩
theorem fp_Ma_32 : jFP "MailAgent" 32 7 4 (.array (.object "MailAgent$Routes")) true := ⟨_, _, _, ty_Ma, rfl, by decide, iw_Ma, w_1_188, rfl, by decide +kernel, tyok_Ma, nm_Ma, fun _ => rfl⟩
theorem fl_Ma_37 : jFL "MailAgent" 37 7 5 := ⟨_, _, _, rfl, by decide, iw_Ma, w_1_189⟩
theorem fp_Ma_37 : jFP "MailAgent" 37 7 5 (.array .int) true := ⟨_, _, _, ty_Ma, rfl, by decide, iw_Ma, w_1_189, rfl, by decide +kernel, tyok_Ma, nm_Ma, fun _ => rfl⟩
theorem fl_Ma_44 : jFL "MailAgent" 44 7 6 := ⟨_, _, _, rfl, by decide, iw_Ma, w_1_190⟩
theorem fp_Ma_44 : jFP "MailAgent" 44 7 6 (.object "MailAgent$Transaction") true := ⟨_, _, _, ty_Ma, rfl, by decide, iw_Ma, w_1_190, rfl, by decide +kernel, tyok_Ma, nm_Ma, fun _ => rfl⟩
theorem fl_Ma_51 : jFL "MailAgent" 51 7 7 := ⟨_, _, _, rfl, by decide, iw_Ma, w_1_191⟩
theorem fp_Ma_51 : jFP "MailAgent" 51 7 7 (.object "MailAgent$Queue") true := ⟨_, _, _, ty_Ma, rfl, by decide, iw_Ma, w_1_191, rfl, by decide +kernel, tyok_Ma, nm_Ma, fun _ => rfl⟩
theorem fl_Ma_55 : jFL "MailAgent" 55 7 8 := ⟨_, _, _, rfl, by decide, iw_Ma, w_1_192⟩
theorem fp_Ma_55 : jFP "MailAgent" 55 7 8 (.object "MailAgent$Queue") true := ⟨_, _, _, ty_Ma, rfl, by decide, iw_Ma, w_1_192, rfl, by decide +kernel, tyok_Ma, nm_Ma, fun _ => rfl⟩
theorem fl_Ma_61 : jFL "MailAgent" 61 7 9 := ⟨_, _, _, rfl, by decide, iw_Ma, w_1_193⟩
theorem fp_Ma_61 : jFP "MailAgent" 61 7 9 (.object "MailAgent$Deliveries") true := ⟨_, _, _, ty_Ma, rfl, by decide, iw_Ma, w_1_193, rfl, by decide +kernel, tyok_Ma, nm_Ma, fun _ => rfl⟩
theorem fl_Ma_65 : jFL "MailAgent" 65 7 10 := ⟨_, _, _, rfl, by decide, iw_Ma, w_1_194⟩
theorem fp_Ma_65 : jFP "MailAgent" 65 7 10 (.int) false := ⟨_, _, _, ty_Ma, rfl, by decide, iw_Ma, w_1_194, rfl, by decide +kernel, tyok_Ma, nm_Ma, fun h => by cases h⟩
theorem fl_Ma_68 : jFL "MailAgent" 68 7 11 := ⟨_, _, _, rfl, by decide, iw_Ma, w_1_195⟩
theorem fp_Ma_68 : jFP "MailAgent" 68 7 11 (.int) false := ⟨_, _, _, ty_Ma, rfl, by decide, iw_Ma, w_1_195, rfl, by decide +kernel, tyok_Ma, nm_Ma, fun h => by cases h⟩
theorem fl_Ma_71 : jFL "MailAgent" 71 7 12 := ⟨_, _, _, rfl, by decide, iw_Ma, w_1_196⟩
theorem fp_Ma_71 : jFP "MailAgent" 71 7 12 (.int) false := ⟨_, _, _, ty_Ma, rfl, by decide, iw_Ma, w_1_196, rfl, by decide +kernel, tyok_Ma, nm_Ma, fun h => by cases h⟩
theorem nw_La_18 : jNW "MailAgentLaw" 18 8 24 [.int 0, .int 0, .int 0, .null, .null, .null, .null, .null, .null, .int 0, .int 0, .null, .int 0, .null, .int 0, .int 0, .int 0, .int 0, .null, .int 0, .null, .null, .null, .null] := ⟨_, _, ty_Mo, rfl, iw_Mo, tyok_Mo, w_2_222, w_2_223, w_1_10, by
  intro j hj
  match j, hj with
  | 0, _ => rfl
  | 1, _ => rfl
  | 2, _ => rfl
  | 3, _ => rfl
  | 4, _ => rfl
  | 5, _ => rfl
  | 6, _ => rfl
  | 7, _ => rfl
  | 8, _ => rfl
  | 9, _ => rfl
  | 10, _ => rfl
  | 11, _ => rfl
  | 12, _ => rfl
  | 13, _ => rfl
  | 14, _ => rfl
  | 15, _ => rfl
  | 16, _ => rfl
  | 17, _ => rfl
  | 18, _ => rfl
  | 19, _ => rfl
  | 20, _ => rfl
  | 21, _ => rfl
  | 22, _ => rfl
  | 23, _ => rfl
  | j + 24, h => exact absurd h (by omega)⟩
theorem fl_Mo_53 : jFL "MailAgentModel" 53 8 0 := ⟨_, _, _, rfl, by decide, iw_Mo, w_2_231⟩
theorem fp_Mo_53 : jFP "MailAgentModel" 53 8 0 (.int) true := ⟨_, _, _, ty_Mo, rfl, by decide, iw_Mo, w_2_231, rfl, by decide +kernel, tyok_Mo, nm_Mo, fun _ => rfl⟩
theorem fl_Mo_57 : jFL "MailAgentModel" 57 8 1 := ⟨_, _, _, rfl, by decide, iw_Mo, w_2_232⟩
theorem fp_Mo_57 : jFP "MailAgentModel" 57 8 1 (.int) true := ⟨_, _, _, ty_Mo, rfl, by decide, iw_Mo, w_2_232, rfl, by decide +kernel, tyok_Mo, nm_Mo, fun _ => rfl⟩
theorem fl_Mo_60 : jFL "MailAgentModel" 60 8 2 := ⟨_, _, _, rfl, by decide, iw_Mo, w_2_233⟩
theorem fp_Mo_60 : jFP "MailAgentModel" 60 8 2 (.int) true := ⟨_, _, _, ty_Mo, rfl, by decide, iw_Mo, w_2_233, rfl, by decide +kernel, tyok_Mo, nm_Mo, fun _ => rfl⟩
theorem fl_Mo_7 : jFL "MailAgentModel" 7 8 3 := ⟨_, _, _, rfl, by decide, iw_Mo, w_2_234⟩
theorem fp_Mo_7 : jFP "MailAgentModel" 7 8 3 (.array .int) true := ⟨_, _, _, ty_Mo, rfl, by decide, iw_Mo, w_2_234, rfl, by decide +kernel, tyok_Mo, nm_Mo, fun _ => rfl⟩
theorem fl_Mo_13 : jFL "MailAgentModel" 13 8 4 := ⟨_, _, _, rfl, by decide, iw_Mo, w_2_235⟩
theorem fp_Mo_13 : jFP "MailAgentModel" 13 8 4 (.array .int) true := ⟨_, _, _, ty_Mo, rfl, by decide, iw_Mo, w_2_235, rfl, by decide +kernel, tyok_Mo, nm_Mo, fun _ => rfl⟩
theorem fl_Mo_16 : jFL "MailAgentModel" 16 8 5 := ⟨_, _, _, rfl, by decide, iw_Mo, w_2_236⟩
theorem fp_Mo_16 : jFP "MailAgentModel" 16 8 5 (.array .int) true := ⟨_, _, _, ty_Mo, rfl, by decide, iw_Mo, w_2_236, rfl, by decide +kernel, tyok_Mo, nm_Mo, fun _ => rfl⟩
theorem fl_Mo_19 : jFL "MailAgentModel" 19 8 6 := ⟨_, _, _, rfl, by decide, iw_Mo, w_2_237⟩
theorem fp_Mo_19 : jFP "MailAgentModel" 19 8 6 (.array .int) true := ⟨_, _, _, ty_Mo, rfl, by decide, iw_Mo, w_2_237, rfl, by decide +kernel, tyok_Mo, nm_Mo, fun _ => rfl⟩
theorem fl_Mo_22 : jFL "MailAgentModel" 22 8 7 := ⟨_, _, _, rfl, by decide, iw_Mo, w_2_238⟩
theorem fp_Mo_22 : jFP "MailAgentModel" 22 8 7 (.array .int) true := ⟨_, _, _, ty_Mo, rfl, by decide, iw_Mo, w_2_238, rfl, by decide +kernel, tyok_Mo, nm_Mo, fun _ => rfl⟩
theorem fl_Mo_25 : jFL "MailAgentModel" 25 8 8 := ⟨_, _, _, rfl, by decide, iw_Mo, w_2_239⟩
theorem fp_Mo_25 : jFP "MailAgentModel" 25 8 8 (.array .int) true := ⟨_, _, _, ty_Mo, rfl, by decide, iw_Mo, w_2_239, rfl, by decide +kernel, tyok_Mo, nm_Mo, fun _ => rfl⟩
theorem fl_Mo_101 : jFL "MailAgentModel" 101 8 9 := ⟨_, _, _, rfl, by decide, iw_Mo, w_3_0⟩
theorem fp_Mo_101 : jFP "MailAgentModel" 101 8 9 (.int) false := ⟨_, _, _, ty_Mo, rfl, by decide, iw_Mo, w_3_0, rfl, by decide +kernel, tyok_Mo, nm_Mo, fun h => by cases h⟩
theorem fl_Mo_98 : jFL "MailAgentModel" 98 8 10 := ⟨_, _, _, rfl, by decide, iw_Mo, w_3_1⟩
theorem fp_Mo_98 : jFP "MailAgentModel" 98 8 10 (.int) false := ⟨_, _, _, ty_Mo, rfl, by decide, iw_Mo, w_3_1, rfl, by decide +kernel, tyok_Mo, nm_Mo, fun h => by cases h⟩
theorem fl_Mo_28 : jFL "MailAgentModel" 28 8 11 := ⟨_, _, _, rfl, by decide, iw_Mo, w_3_2⟩
theorem fp_Mo_28 : jFP "MailAgentModel" 28 8 11 (.array .int) true := ⟨_, _, _, ty_Mo, rfl, by decide, iw_Mo, w_3_2, rfl, by decide +kernel, tyok_Mo, nm_Mo, fun _ => rfl⟩
theorem fl_Mo_85 : jFL "MailAgentModel" 85 8 12 := ⟨_, _, _, rfl, by decide, iw_Mo, w_3_3⟩
theorem fp_Mo_85 : jFP "MailAgentModel" 85 8 12 (.int) false := ⟨_, _, _, ty_Mo, rfl, by decide, iw_Mo, w_3_3, rfl, by decide +kernel, tyok_Mo, nm_Mo, fun h => by cases h⟩
theorem fl_Mo_31 : jFL "MailAgentModel" 31 8 13 := ⟨_, _, _, rfl, by decide, iw_Mo, w_3_4⟩
theorem fp_Mo_31 : jFP "MailAgentModel" 31 8 13 (.array .int) true := ⟨_, _, _, ty_Mo, rfl, by decide, iw_Mo, w_3_4, rfl, by decide +kernel, tyok_Mo, nm_Mo, fun _ => rfl⟩
theorem fl_Mo_91 : jFL "MailAgentModel" 91 8 14 := ⟨_, _, _, rfl, by decide, iw_Mo, w_3_5⟩
theorem fp_Mo_91 : jFP "MailAgentModel" 91 8 14 (.int) false := ⟨_, _, _, ty_Mo, rfl, by decide, iw_Mo, w_3_5, rfl, by decide +kernel, tyok_Mo, nm_Mo, fun h => by cases h⟩
theorem fl_Mo_88 : jFL "MailAgentModel" 88 8 15 := ⟨_, _, _, rfl, by decide, iw_Mo, w_3_6⟩
theorem fp_Mo_88 : jFP "MailAgentModel" 88 8 15 (.int) false := ⟨_, _, _, ty_Mo, rfl, by decide, iw_Mo, w_3_6, rfl, by decide +kernel, tyok_Mo, nm_Mo, fun h => by cases h⟩
theorem fl_Mo_67 : jFL "MailAgentModel" 67 8 16 := ⟨_, _, _, rfl, by decide, iw_Mo, w_3_7⟩
theorem fp_Mo_67 : jFP "MailAgentModel" 67 8 16 (.boolean) false := ⟨_, _, _, ty_Mo, rfl, by decide, iw_Mo, w_3_7, rfl, by decide +kernel, tyok_Mo, nm_Mo, fun h => by cases h⟩
theorem fl_Mo_71 : jFL "MailAgentModel" 71 8 17 := ⟨_, _, _, rfl, by decide, iw_Mo, w_3_8⟩
theorem fp_Mo_71 : jFP "MailAgentModel" 71 8 17 (.int) false := ⟨_, _, _, ty_Mo, rfl, by decide, iw_Mo, w_3_8, rfl, by decide +kernel, tyok_Mo, nm_Mo, fun h => by cases h⟩
theorem fl_Mo_34 : jFL "MailAgentModel" 34 8 18 := ⟨_, _, _, rfl, by decide, iw_Mo, w_3_9⟩
theorem fp_Mo_34 : jFP "MailAgentModel" 34 8 18 (.array .int) true := ⟨_, _, _, ty_Mo, rfl, by decide, iw_Mo, w_3_9, rfl, by decide +kernel, tyok_Mo, nm_Mo, fun _ => rfl⟩
theorem fl_Mo_74 : jFL "MailAgentModel" 74 8 19 := ⟨_, _, _, rfl, by decide, iw_Mo, w_3_10⟩
theorem fp_Mo_74 : jFP "MailAgentModel" 74 8 19 (.int) false := ⟨_, _, _, ty_Mo, rfl, by decide, iw_Mo, w_3_10, rfl, by decide +kernel, tyok_Mo, nm_Mo, fun h => by cases h⟩
theorem fl_Mo_37 : jFL "MailAgentModel" 37 8 20 := ⟨_, _, _, rfl, by decide, iw_Mo, w_3_11⟩
theorem fp_Mo_37 : jFP "MailAgentModel" 37 8 20 (.array .int) true := ⟨_, _, _, ty_Mo, rfl, by decide, iw_Mo, w_3_11, rfl, by decide +kernel, tyok_Mo, nm_Mo, fun _ => rfl⟩
theorem fl_Mo_40 : jFL "MailAgentModel" 40 8 21 := ⟨_, _, _, rfl, by decide, iw_Mo, w_3_12⟩
theorem fp_Mo_40 : jFP "MailAgentModel" 40 8 21 (.array .int) true := ⟨_, _, _, ty_Mo, rfl, by decide, iw_Mo, w_3_12, rfl, by decide +kernel, tyok_Mo, nm_Mo, fun _ => rfl⟩
theorem fl_Mo_43 : jFL "MailAgentModel" 43 8 22 := ⟨_, _, _, rfl, by decide, iw_Mo, w_3_13⟩
theorem fp_Mo_43 : jFP "MailAgentModel" 43 8 22 (.array .int) true := ⟨_, _, _, ty_Mo, rfl, by decide, iw_Mo, w_3_13, rfl, by decide +kernel, tyok_Mo, nm_Mo, fun _ => rfl⟩
theorem fl_Mo_46 : jFL "MailAgentModel" 46 8 23 := ⟨_, _, _, rfl, by decide, iw_Mo, w_3_14⟩
theorem fp_Mo_46 : jFP "MailAgentModel" 46 8 23 (.array .int) true := ⟨_, _, _, ty_Mo, rfl, by decide, iw_Mo, w_3_14, rfl, by decide +kernel, tyok_Mo, nm_Mo, fun _ => rfl⟩
theorem cl_La_15 : jCL "MailAgentLaw" 15 M_Ma_init 3 := ⟨w_1_14, w_1_1, w_1_16, by decide +kernel⟩
theorem cl_La_15v : Cond.instanceMethod M_Ma_init.1 ∈ jTG := w_1_15
theorem cl_Ma_7 : jCL "MailAgent" 7 M_Ma_clamp 3 := ⟨w_1_20, w_1_1, w_1_22, by decide +kernel⟩
theorem cl_Ma_7v : Cond.static M_Ma_clamp.1 ∈ jTG := w_1_21
theorem cl_Ma_218 : jCL "MailAgent" 218 M_Mt_min 2 := ⟨w_1_23, w_1_2, w_1_25, by decide +kernel⟩
theorem cl_Ma_218v : Cond.static M_Mt_min.1 ∈ jTG := w_1_24
theorem cl_Ma_223 : jCL "MailAgent" 223 M_Mt_max 2 := ⟨w_1_26, w_1_2, w_1_28, by decide +kernel⟩
theorem cl_Ma_223v : Cond.static M_Mt_max.1 ∈ jTG := w_1_27
theorem cl_Ma_50 : jCL "MailAgent" 50 M_Qu_init 0 := ⟨w_1_104, w_1_7, w_1_106, by decide +kernel⟩
theorem cl_Ma_50v : Cond.instanceMethod M_Qu_init.1 ∈ jTG := w_1_105
theorem cl_La_21 : jCL "MailAgentLaw" 21 M_Ma_alias 2 := ⟨w_1_224, w_1_1, w_1_227, by decide +kernel⟩
theorem cl_La_21v : Cond.instanceMethod M_Ma_alias.1 ∈ jTG ∧ Cond.selects M_Ma_alias.1.cls M_Ma_alias.1 M_Ma_alias.1 ∈ jTG := ⟨w_1_225, w_1_226⟩
theorem cl_Ma_74 : jCL "MailAgent" 74 M_Ma_isBelow 2 := ⟨w_1_228, w_1_1, w_1_230, by decide +kernel⟩
theorem cl_Ma_74v : Cond.static M_Ma_isBelow.1 ∈ jTG := w_1_229
theorem cl_Ma_78 : jCL "MailAgent" 78 M_Al_hasRoomFor 2 := ⟨w_1_231, w_1_3, w_1_234, by decide +kernel⟩
theorem cl_Ma_78v : Cond.instanceMethod M_Al_hasRoomFor.1 ∈ jTG ∧ Cond.selects M_Al_hasRoomFor.1.cls M_Al_hasRoomFor.1 M_Al_hasRoomFor.1 ∈ jTG := ⟨w_1_232, w_1_233⟩
theorem cl_Al_15 : jCL "MailAgent$Aliases" 15 M_Lo_bitCount 1 := ⟨w_1_235, w_1_11, w_1_237, by decide +kernel⟩
theorem cl_Al_15v : Cond.static M_Lo_bitCount.1 ∈ jTG := w_1_236
theorem cl_Ma_81 : jCL "MailAgent" 81 M_Al_add 2 := ⟨w_2_1, w_1_3, w_2_4, by decide +kernel⟩
theorem cl_Ma_81v : Cond.instanceMethod M_Al_add.1 ∈ jTG ∧ Cond.selects M_Al_add.1.cls M_Al_add.1 M_Al_add.1 ∈ jTG := ⟨w_2_2, w_2_3⟩
theorem cl_La_26 : jCL "MailAgentLaw" 26 M_Ma_unalias 1 := ⟨w_2_5, w_1_1, w_2_8, by decide +kernel⟩
theorem cl_La_26v : Cond.instanceMethod M_Ma_unalias.1 ∈ jTG ∧ Cond.selects M_Ma_unalias.1.cls M_Ma_unalias.1 M_Ma_unalias.1 ∈ jTG := ⟨w_2_6, w_2_7⟩
theorem cl_Ma_85 : jCL "MailAgent" 85 M_Al_clear 1 := ⟨w_2_9, w_1_3, w_2_12, by decide +kernel⟩
theorem cl_Ma_85v : Cond.instanceMethod M_Al_clear.1 ∈ jTG ∧ Cond.selects M_Al_clear.1.cls M_Al_clear.1 M_Al_clear.1 ∈ jTG := ⟨w_2_10, w_2_11⟩
theorem cl_La_31 : jCL "MailAgentLaw" 31 M_Ma_route 3 := ⟨w_2_13, w_1_1, w_2_16, by decide +kernel⟩
theorem cl_La_31v : Cond.instanceMethod M_Ma_route.1 ∈ jTG ∧ Cond.selects M_Ma_route.1.cls M_Ma_route.1 M_Ma_route.1 ∈ jTG := ⟨w_2_14, w_2_15⟩
theorem cl_Ma_89 : jCL "MailAgent" 89 M_Ma_isForeign 1 := ⟨w_2_17, w_1_1, w_2_19, by decide +kernel⟩
theorem cl_Ma_89v : Cond.static M_Ma_isForeign.1 ∈ jTG := w_2_18
theorem cl_Ma_93 : jCL "MailAgent" 93 M_Ro_hasRoomFor 1 := ⟨w_2_20, w_1_4, w_2_23, by decide +kernel⟩
theorem cl_Ma_93v : Cond.instanceMethod M_Ro_hasRoomFor.1 ∈ jTG ∧ Cond.selects M_Ro_hasRoomFor.1.cls M_Ro_hasRoomFor.1 M_Ro_hasRoomFor.1 ∈ jTG := ⟨w_2_21, w_2_22⟩
theorem cl_Ma_95 : jCL "MailAgent" 95 M_Ro_add 2 := ⟨w_2_24, w_1_4, w_2_27, by decide +kernel⟩
theorem cl_Ma_95v : Cond.instanceMethod M_Ro_add.1 ∈ jTG ∧ Cond.selects M_Ro_add.1.cls M_Ro_add.1 M_Ro_add.1 ∈ jTG := ⟨w_2_25, w_2_26⟩
theorem cl_La_36 : jCL "MailAgentLaw" 36 M_Ma_unroute 1 := ⟨w_2_28, w_1_1, w_2_31, by decide +kernel⟩
theorem cl_La_36v : Cond.instanceMethod M_Ma_unroute.1 ∈ jTG ∧ Cond.selects M_Ma_unroute.1.cls M_Ma_unroute.1 M_Ma_unroute.1 ∈ jTG := ⟨w_2_29, w_2_30⟩
theorem cl_Ma_96 : jCL "MailAgent" 96 M_Ro_clear 0 := ⟨w_2_32, w_1_4, w_2_35, by decide +kernel⟩
theorem cl_Ma_96v : Cond.instanceMethod M_Ro_clear.1 ∈ jTG ∧ Cond.selects M_Ro_clear.1.cls M_Ro_clear.1 M_Ro_clear.1 ∈ jTG := ⟨w_2_33, w_2_34⟩
theorem cl_La_40 : jCL "MailAgentLaw" 40 M_Ma_host 2 := ⟨w_2_36, w_1_1, w_2_39, by decide +kernel⟩
theorem cl_La_40v : Cond.instanceMethod M_Ma_host.1 ∈ jTG ∧ Cond.selects M_Ma_host.1.cls M_Ma_host.1 M_Ma_host.1 ∈ jTG := ⟨w_2_37, w_2_38⟩
theorem cl_La_44 : jCL "MailAgentLaw" 44 M_Ma_from 1 := ⟨w_2_40, w_1_1, w_2_43, by decide +kernel⟩
theorem cl_La_44v : Cond.instanceMethod M_Ma_from.1 ∈ jTG ∧ Cond.selects M_Ma_from.1.cls M_Ma_from.1 M_Ma_from.1 ∈ jTG := ⟨w_2_41, w_2_42⟩
theorem cl_Ma_99 : jCL "MailAgent" 99 M_Tr_start 1 := ⟨w_2_44, w_1_5, w_2_47, by decide +kernel⟩
theorem cl_Ma_99v : Cond.instanceMethod M_Tr_start.1 ∈ jTG ∧ Cond.selects M_Tr_start.1.cls M_Tr_start.1 M_Tr_start.1 ∈ jTG := ⟨w_2_45, w_2_46⟩
theorem cl_La_48 : jCL "MailAgentLaw" 48 M_Ma_to 1 := ⟨w_2_48, w_1_1, w_2_51, by decide +kernel⟩
theorem cl_La_48v : Cond.instanceMethod M_Ma_to.1 ∈ jTG ∧ Cond.selects M_Ma_to.1.cls M_Ma_to.1 M_Ma_to.1 ∈ jTG := ⟨w_2_49, w_2_50⟩
theorem cl_Ma_107 : jCL "MailAgent" 107 M_Al_finalsOf 1 := ⟨w_2_52, w_1_3, w_2_55, by decide +kernel⟩
theorem cl_Ma_107v : Cond.instanceMethod M_Al_finalsOf.1 ∈ jTG ∧ Cond.selects M_Al_finalsOf.1.cls M_Al_finalsOf.1 M_Al_finalsOf.1 ∈ jTG := ⟨w_2_53, w_2_54⟩
theorem cl_Al_21 : jCL "MailAgent$Aliases" 21 M_Al_reachedFrom 1 := ⟨w_2_56, w_1_3, w_2_59, by decide +kernel⟩
theorem cl_Al_21v : Cond.instanceMethod M_Al_reachedFrom.1 ∈ jTG ∧ Cond.selects M_Al_reachedFrom.1.cls M_Al_reachedFrom.1 M_Al_reachedFrom.1 ∈ jTG := ⟨w_2_58, w_s_0⟩
theorem cl_Ma_115 : jCL "MailAgent" 115 M_Re_asBits 0 := ⟨w_2_61, w_1_6, w_2_64, by decide +kernel⟩
theorem cl_Ma_115v : Cond.instanceMethod M_Re_asBits.1 ∈ jTG ∧ Cond.selects M_Re_asBits.1.cls M_Re_asBits.1 M_Re_asBits.1 ∈ jTG := ⟨w_2_62, w_2_63⟩
theorem cl_Ma_123 : jCL "MailAgent" 123 M_Lo_bitCount 1 := ⟨w_2_66, w_1_11, w_1_237, by decide +kernel⟩
theorem cl_Ma_123v : Cond.static M_Lo_bitCount.1 ∈ jTG := w_1_236
theorem cl_Ma_132 : jCL "MailAgent" 132 M_Re_addRising 1 := ⟨w_2_67, w_1_6, w_2_70, by decide +kernel⟩
theorem cl_Ma_132v : Cond.instanceMethod M_Re_addRising.1 ∈ jTG ∧ Cond.selects M_Re_addRising.1.cls M_Re_addRising.1 M_Re_addRising.1 ∈ jTG := ⟨w_2_68, w_2_69⟩
theorem cl_Re_22 : jCL "MailAgent$Recipients" 22 M_Re_add 1 := ⟨w_2_71, w_1_6, w_2_74, by decide +kernel⟩
theorem cl_Re_22v : Cond.instanceMethod M_Re_add.1 ∈ jTG ∧ Cond.selects M_Re_add.1.cls M_Re_add.1 M_Re_add.1 ∈ jTG := ⟨w_2_72, w_2_73⟩
theorem cl_La_52 : jCL "MailAgentLaw" 52 M_Ma_data 1 := ⟨w_2_75, w_1_1, w_2_78, by decide +kernel⟩
theorem cl_La_52v : Cond.instanceMethod M_Ma_data.1 ∈ jTG ∧ Cond.selects M_Ma_data.1.cls M_Ma_data.1 M_Ma_data.1 ∈ jTG := ⟨w_2_76, w_2_77⟩
theorem cl_Ma_136 : jCL "MailAgent" 136 M_Ma_costOf 2 := ⟨w_2_79, w_1_1, w_2_81, by decide +kernel⟩
theorem cl_Ma_136v : Cond.static M_Ma_costOf.1 ∈ jTG := w_2_80
theorem cl_Ma_140 : jCL "MailAgent" 140 M_Qu_costs 0 := ⟨w_2_82, w_1_7, w_2_85, by decide +kernel⟩
theorem cl_Ma_140v : Cond.instanceMethod M_Qu_costs.1 ∈ jTG ∧ Cond.selects M_Qu_costs.1.cls M_Qu_costs.1 M_Qu_costs.1 ∈ jTG := ⟨w_2_83, w_2_84⟩
theorem cl_Ma_143 : jCL "MailAgent" 143 M_Qu_addSpare 0 := ⟨w_2_87, w_1_7, w_2_90, by decide +kernel⟩
theorem cl_Ma_143v : Cond.instanceMethod M_Qu_addSpare.1 ∈ jTG ∧ Cond.selects M_Qu_addSpare.1.cls M_Qu_addSpare.1 M_Qu_addSpare.1 ∈ jTG := ⟨w_2_88, w_2_89⟩
theorem cl_Ma_147 : jCL "MailAgent" 147 M_Me_accept 3 := ⟨w_2_91, w_1_8, w_2_94, by decide +kernel⟩
theorem cl_Ma_147v : Cond.instanceMethod M_Me_accept.1 ∈ jTG ∧ Cond.selects M_Me_accept.1.cls M_Me_accept.1 M_Me_accept.1 ∈ jTG := ⟨w_2_92, w_2_93⟩
theorem cl_Me_36 : jCL "MailAgent$Message" 36 M_Re_copyFrom 1 := ⟨w_2_95, w_1_6, w_2_98, by decide +kernel⟩
theorem cl_Me_36v : Cond.instanceMethod M_Re_copyFrom.1 ∈ jTG ∧ Cond.selects M_Re_copyFrom.1.cls M_Re_copyFrom.1 M_Re_copyFrom.1 ∈ jTG := ⟨w_2_96, w_2_97⟩
theorem cl_Ma_153 : jCL "MailAgent" 153 M_Me_schedule 2 := ⟨w_2_99, w_1_8, w_2_102, by decide +kernel⟩
theorem cl_Ma_153v : Cond.instanceMethod M_Me_schedule.1 ∈ jTG ∧ Cond.selects M_Me_schedule.1.cls M_Me_schedule.1 M_Me_schedule.1 ∈ jTG := ⟨w_2_100, w_2_101⟩
theorem cl_Ma_157 : jCL "MailAgent" 157 M_Ma_makeDurable 0 := ⟨w_2_103, w_1_1, w_2_106, by decide +kernel⟩
theorem cl_Ma_157v : Cond.instanceMethod M_Ma_makeDurable.1 ∈ jTG ∧ Cond.selects M_Ma_makeDurable.1.cls M_Ma_makeDurable.1 M_Ma_makeDurable.1 ∈ jTG := ⟨w_2_105, w_s_1⟩
theorem cl_Ma_186 : jCL "MailAgent" 186 M_Qu_copyFrom 1 := ⟨w_2_107, w_1_7, w_2_110, by decide +kernel⟩
theorem cl_Ma_186v : Cond.instanceMethod M_Qu_copyFrom.1 ∈ jTG ∧ Cond.selects M_Qu_copyFrom.1.cls M_Qu_copyFrom.1 M_Qu_copyFrom.1 ∈ jTG := ⟨w_2_108, w_2_109⟩
theorem cl_Qu_41 : jCL "MailAgent$Queue" 41 M_Me_copyFrom 1 := ⟨w_2_111, w_1_8, w_2_114, by decide +kernel⟩
theorem cl_Qu_41v : Cond.instanceMethod M_Me_copyFrom.1 ∈ jTG ∧ Cond.selects M_Me_copyFrom.1.cls M_Me_copyFrom.1 M_Me_copyFrom.1 ∈ jTG := ⟨w_2_112, w_2_113⟩
theorem cl_La_56 : jCL "MailAgentLaw" 56 M_Ma_tick 1 := ⟨w_2_115, w_1_1, w_2_118, by decide +kernel⟩
theorem cl_La_56v : Cond.instanceMethod M_Ma_tick.1 ∈ jTG ∧ Cond.selects M_Ma_tick.1.cls M_Ma_tick.1 M_Ma_tick.1 ∈ jTG := ⟨w_2_116, w_2_117⟩
theorem cl_Ma_168 : jCL "MailAgent" 168 M_Ma_tryRecipients 1 := ⟨w_2_120, w_1_1, w_2_123, by decide +kernel⟩
theorem cl_Ma_168v : Cond.instanceMethod M_Ma_tryRecipients.1 ∈ jTG ∧ Cond.selects M_Ma_tryRecipients.1.cls M_Ma_tryRecipients.1 M_Ma_tryRecipients.1 ∈ jTG := ⟨w_2_122, w_s_2⟩
theorem cl_Ma_232 : jCL "MailAgent" 232 M_Ma_carry 1 := ⟨w_2_124, w_1_1, w_2_127, by decide +kernel⟩
theorem cl_Ma_232v : Cond.instanceMethod M_Ma_carry.1 ∈ jTG ∧ Cond.selects M_Ma_carry.1.cls M_Ma_carry.1 M_Ma_carry.1 ∈ jTG := ⟨w_2_126, w_s_3⟩
theorem cl_Ma_235 : jCL "MailAgent" 235 M_De_note 2 := ⟨w_2_128, w_1_9, w_2_131, by decide +kernel⟩
theorem cl_Ma_235v : Cond.instanceMethod M_De_note.1 ∈ jTG ∧ Cond.selects M_De_note.1.cls M_De_note.1 M_De_note.1 ∈ jTG := ⟨w_2_129, w_2_130⟩
theorem cl_Ma_172 : jCL "MailAgent" 172 M_Ma_failOverdue 1 := ⟨w_2_132, w_1_1, w_2_135, by decide +kernel⟩
theorem cl_Ma_172v : Cond.instanceMethod M_Ma_failOverdue.1 ∈ jTG ∧ Cond.selects M_Ma_failOverdue.1.cls M_Ma_failOverdue.1 M_Ma_failOverdue.1 ∈ jTG := ⟨w_2_134, w_s_4⟩
theorem cl_Ma_245 : jCL "MailAgent" 245 M_Re_failWaiting 0 := ⟨w_2_136, w_1_6, w_2_139, by decide +kernel⟩
theorem cl_Ma_245v : Cond.instanceMethod M_Re_failWaiting.1 ∈ jTG ∧ Cond.selects M_Re_failWaiting.1.cls M_Re_failWaiting.1 M_Re_failWaiting.1 ∈ jTG := ⟨w_2_137, w_2_138⟩
theorem cl_Ma_176 : jCL "MailAgent" 176 M_Ma_settle 1 := ⟨w_2_140, w_1_1, w_2_143, by decide +kernel⟩
theorem cl_Ma_176v : Cond.instanceMethod M_Ma_settle.1 ∈ jTG ∧ Cond.selects M_Ma_settle.1.cls M_Ma_settle.1 M_Ma_settle.1 ∈ jTG := ⟨w_2_142, w_s_5⟩
theorem cl_Ma_248 : jCL "MailAgent" 248 M_Re_inState 1 := ⟨w_2_144, w_1_6, w_2_147, by decide +kernel⟩
theorem cl_Ma_248v : Cond.instanceMethod M_Re_inState.1 ∈ jTG ∧ Cond.selects M_Re_inState.1.cls M_Re_inState.1 M_Re_inState.1 ∈ jTG := ⟨w_2_145, w_2_146⟩
theorem cl_Ma_251 : jCL "MailAgent" 251 M_Me_putOff 2 := ⟨w_2_148, w_1_8, w_2_151, by decide +kernel⟩
theorem cl_Ma_251v : Cond.instanceMethod M_Me_putOff.1 ∈ jTG ∧ Cond.selects M_Me_putOff.1.cls M_Me_putOff.1 M_Me_putOff.1 ∈ jTG := ⟨w_2_149, w_2_150⟩
theorem cl_Me_49 : jCL "MailAgent$Message" 49 M_Mt_min 2 := ⟨w_2_152, w_1_2, w_1_25, by decide +kernel⟩
theorem cl_Me_49v : Cond.static M_Mt_min.1 ∈ jTG := w_1_24
theorem cl_Ma_254 : jCL "MailAgent" 254 M_Me_becomeReport 0 := ⟨w_2_153, w_1_8, w_2_156, by decide +kernel⟩
theorem cl_Ma_254v : Cond.instanceMethod M_Me_becomeReport.1 ∈ jTG ∧ Cond.selects M_Me_becomeReport.1.cls M_Me_becomeReport.1 M_Me_becomeReport.1 ∈ jTG := ⟨w_2_154, w_2_155⟩
theorem cl_Me_56 : jCL "MailAgent$Message" 56 M_Re_add 1 := ⟨w_2_157, w_1_6, w_2_74, by decide +kernel⟩
theorem cl_Me_56v : Cond.instanceMethod M_Re_add.1 ∈ jTG ∧ Cond.selects M_Re_add.1.cls M_Re_add.1 M_Re_add.1 ∈ jTG := ⟨w_2_72, w_2_73⟩
theorem cl_Ma_180 : jCL "MailAgent" 180 M_Qu_removeAt 1 := ⟨w_2_158, w_1_7, w_2_161, by decide +kernel⟩
theorem cl_Ma_180v : Cond.instanceMethod M_Qu_removeAt.1 ∈ jTG ∧ Cond.selects M_Qu_removeAt.1.cls M_Qu_removeAt.1 M_Qu_removeAt.1 ∈ jTG := ⟨w_2_159, w_2_160⟩
theorem cl_Ma_183 : jCL "MailAgent" 183 M_Ma_keepChangesFew 0 := ⟨w_2_162, w_1_1, w_2_165, by decide +kernel⟩
theorem cl_Ma_183v : Cond.instanceMethod M_Ma_keepChangesFew.1 ∈ jTG ∧ Cond.selects M_Ma_keepChangesFew.1.cls M_Ma_keepChangesFew.1 M_Ma_keepChangesFew.1 ∈ jTG := ⟨w_2_164, w_s_6⟩
theorem cl_La_60 : jCL "MailAgentLaw" 60 M_Ma_sync 0 := ⟨w_2_166, w_1_1, w_2_169, by decide +kernel⟩
theorem cl_La_60v : Cond.instanceMethod M_Ma_sync.1 ∈ jTG ∧ Cond.selects M_Ma_sync.1.cls M_Ma_sync.1 M_Ma_sync.1 ∈ jTG := ⟨w_2_167, w_2_168⟩
theorem cl_La_65 : jCL "MailAgentLaw" 65 M_Ma_crash 0 := ⟨w_2_170, w_1_1, w_2_173, by decide +kernel⟩
theorem cl_La_65v : Cond.instanceMethod M_Ma_crash.1 ∈ jTG ∧ Cond.selects M_Ma_crash.1.cls M_Ma_crash.1 M_Ma_crash.1 ∈ jTG := ⟨w_2_171, w_2_172⟩
theorem cl_La_69 : jCL "MailAgentLaw" 69 M_Ma_drop 1 := ⟨w_2_174, w_1_1, w_2_177, by decide +kernel⟩
theorem cl_La_69v : Cond.instanceMethod M_Ma_drop.1 ∈ jTG ∧ Cond.selects M_Ma_drop.1.cls M_Ma_drop.1 M_Ma_drop.1 ∈ jTG := ⟨w_2_175, w_2_176⟩
theorem cl_Ma_190 : jCL "MailAgent" 190 M_Qu_indexOf 1 := ⟨w_2_178, w_1_7, w_2_181, by decide +kernel⟩
theorem cl_Ma_190v : Cond.instanceMethod M_Qu_indexOf.1 ∈ jTG ∧ Cond.selects M_Qu_indexOf.1.cls M_Qu_indexOf.1 M_Qu_indexOf.1 ∈ jTG := ⟨w_2_179, w_2_180⟩
theorem cl_La_73 : jCL "MailAgentLaw" 73 M_Ma_hurry 1 := ⟨w_2_182, w_1_1, w_2_185, by decide +kernel⟩
theorem cl_La_73v : Cond.instanceMethod M_Ma_hurry.1 ∈ jTG ∧ Cond.selects M_Ma_hurry.1.cls M_Ma_hurry.1 M_Ma_hurry.1 ∈ jTG := ⟨w_2_183, w_2_184⟩
theorem cl_La_77 : jCL "MailAgentLaw" 77 M_Ma_count 1 := ⟨w_2_186, w_1_1, w_2_189, by decide +kernel⟩
theorem cl_La_77v : Cond.instanceMethod M_Ma_count.1 ∈ jTG ∧ Cond.selects M_Ma_count.1.cls M_Ma_count.1 M_Ma_count.1 ∈ jTG := ⟨w_2_187, w_2_188⟩
theorem cl_Ma_193 : jCL "MailAgent" 193 M_Qu_waitingRecipients 0 := ⟨w_2_190, w_1_7, w_2_193, by decide +kernel⟩
theorem cl_Ma_193v : Cond.instanceMethod M_Qu_waitingRecipients.1 ∈ jTG ∧ Cond.selects M_Qu_waitingRecipients.1.cls M_Qu_waitingRecipients.1 M_Qu_waitingRecipients.1 ∈ jTG := ⟨w_2_191, w_2_192⟩
theorem cl_Qu_37 : jCL "MailAgent$Queue" 37 M_Re_inState 1 := ⟨w_2_194, w_1_6, w_2_147, by decide +kernel⟩
theorem cl_Qu_37v : Cond.instanceMethod M_Re_inState.1 ∈ jTG ∧ Cond.selects M_Re_inState.1.cls M_Re_inState.1 M_Re_inState.1 ∈ jTG := ⟨w_2_145, w_2_146⟩
theorem cl_La_81 : jCL "MailAgentLaw" 81 M_Ma_message 1 := ⟨w_2_195, w_1_1, w_2_198, by decide +kernel⟩
theorem cl_La_81v : Cond.instanceMethod M_Ma_message.1 ∈ jTG ∧ Cond.selects M_Ma_message.1.cls M_Ma_message.1 M_Ma_message.1 ∈ jTG := ⟨w_2_196, w_2_197⟩
theorem cl_La_85 : jCL "MailAgentLaw" 85 M_Ma_status 2 := ⟨w_2_199, w_1_1, w_2_202, by decide +kernel⟩
theorem cl_La_85v : Cond.instanceMethod M_Ma_status.1 ∈ jTG ∧ Cond.selects M_Ma_status.1.cls M_Ma_status.1 M_Ma_status.1 ∈ jTG := ⟨w_2_200, w_2_201⟩
theorem cl_Ma_200 : jCL "MailAgent" 200 M_Re_stateOf 1 := ⟨w_2_203, w_1_6, w_2_206, by decide +kernel⟩
theorem cl_Ma_200v : Cond.instanceMethod M_Re_stateOf.1 ∈ jTG ∧ Cond.selects M_Re_stateOf.1.cls M_Re_stateOf.1 M_Re_stateOf.1 ∈ jTG := ⟨w_2_204, w_2_205⟩
theorem cl_La_89 : jCL "MailAgentLaw" 89 M_Ma_sender 1 := ⟨w_2_207, w_1_1, w_2_210, by decide +kernel⟩
theorem cl_La_89v : Cond.instanceMethod M_Ma_sender.1 ∈ jTG ∧ Cond.selects M_Ma_sender.1.cls M_Ma_sender.1 M_Ma_sender.1 ∈ jTG := ⟨w_2_208, w_2_209⟩
theorem cl_La_93 : jCL "MailAgentLaw" 93 M_Ma_due 1 := ⟨w_2_211, w_1_1, w_2_214, by decide +kernel⟩
theorem cl_La_93v : Cond.instanceMethod M_Ma_due.1 ∈ jTG ∧ Cond.selects M_Ma_due.1.cls M_Ma_due.1 M_Ma_due.1 ∈ jTG := ⟨w_2_212, w_2_213⟩
theorem cl_La_97 : jCL "MailAgentLaw" 97 M_Ma_received 2 := ⟨w_2_215, w_1_1, w_2_218, by decide +kernel⟩
theorem cl_La_97v : Cond.instanceMethod M_Ma_received.1 ∈ jTG ∧ Cond.selects M_Ma_received.1.cls M_Ma_received.1 M_Ma_received.1 ∈ jTG := ⟨w_2_216, w_2_217⟩
theorem cl_La_9 : jCL "MailAgentLaw" 9 M_La_cell 2 := ⟨w_2_219, w_1_0, w_2_221, by decide +kernel⟩
theorem cl_La_9v : Cond.static M_La_cell.1 ∈ jTG := w_2_220
theorem cl_La_20 : jCL "MailAgentLaw" 20 M_Mo_init 3 := ⟨w_2_224, w_1_10, w_2_226, by decide +kernel⟩
theorem cl_La_20v : Cond.instanceMethod M_Mo_init.1 ∈ jTG := w_2_225
theorem cl_Mo_49 : jCL "MailAgentModel" 49 M_Mo_within 3 := ⟨w_2_228, w_1_10, w_2_230, by decide +kernel⟩
theorem cl_Mo_49v : Cond.static M_Mo_within.1 ∈ jTG := w_2_229
theorem cl_La_25 : jCL "MailAgentLaw" 25 M_Mo_alias 2 := ⟨w_3_64, w_1_10, w_3_67, by decide +kernel⟩
theorem cl_La_25v : Cond.instanceMethod M_Mo_alias.1 ∈ jTG ∧ Cond.selects M_Mo_alias.1.cls M_Mo_alias.1 M_Mo_alias.1 ∈ jTG := ⟨w_3_65, w_3_66⟩
theorem cl_Mo_63 : jCL "MailAgentModel" 63 M_Mo_out 2 := ⟨w_3_68, w_1_10, w_3_70, by decide +kernel⟩
theorem cl_Mo_63v : Cond.static M_Mo_out.1 ∈ jTG := w_3_69
theorem cl_La_30 : jCL "MailAgentLaw" 30 M_Mo_unalias 1 := ⟨w_3_71, w_1_10, w_3_74, by decide +kernel⟩
theorem cl_La_30v : Cond.instanceMethod M_Mo_unalias.1 ∈ jTG ∧ Cond.selects M_Mo_unalias.1.cls M_Mo_unalias.1 M_Mo_unalias.1 ∈ jTG := ⟨w_3_72, w_3_73⟩
theorem cl_La_35 : jCL "MailAgentLaw" 35 M_Mo_route 3 := ⟨w_3_75, w_1_10, w_3_78, by decide +kernel⟩
theorem cl_La_35v : Cond.instanceMethod M_Mo_route.1 ∈ jTG ∧ Cond.selects M_Mo_route.1.cls M_Mo_route.1 M_Mo_route.1 ∈ jTG := ⟨w_3_76, w_3_77⟩
theorem cl_La_39 : jCL "MailAgentLaw" 39 M_Mo_unroute 1 := ⟨w_3_79, w_1_10, w_3_82, by decide +kernel⟩
theorem cl_La_39v : Cond.instanceMethod M_Mo_unroute.1 ∈ jTG ∧ Cond.selects M_Mo_unroute.1.cls M_Mo_unroute.1 M_Mo_unroute.1 ∈ jTG := ⟨w_3_80, w_3_81⟩
theorem cl_La_43 : jCL "MailAgentLaw" 43 M_Mo_host 2 := ⟨w_3_83, w_1_10, w_3_86, by decide +kernel⟩
theorem cl_La_43v : Cond.instanceMethod M_Mo_host.1 ∈ jTG ∧ Cond.selects M_Mo_host.1.cls M_Mo_host.1 M_Mo_host.1 ∈ jTG := ⟨w_3_84, w_3_85⟩
theorem cl_La_47 : jCL "MailAgentLaw" 47 M_Mo_from 1 := ⟨w_3_87, w_1_10, w_3_90, by decide +kernel⟩
theorem cl_La_47v : Cond.instanceMethod M_Mo_from.1 ∈ jTG ∧ Cond.selects M_Mo_from.1.cls M_Mo_from.1 M_Mo_from.1 ∈ jTG := ⟨w_3_88, w_3_89⟩
theorem cl_La_51 : jCL "MailAgentLaw" 51 M_Mo_to 1 := ⟨w_3_91, w_1_10, w_3_94, by decide +kernel⟩
theorem cl_La_51v : Cond.instanceMethod M_Mo_to.1 ∈ jTG ∧ Cond.selects M_Mo_to.1.cls M_Mo_to.1 M_Mo_to.1 ∈ jTG := ⟨w_3_92, w_3_93⟩
theorem cl_Mo_77 : jCL "MailAgentModel" 77 M_Mo_reached 1 := ⟨w_3_95, w_1_10, w_3_98, by decide +kernel⟩
theorem cl_Mo_77v : Cond.instanceMethod M_Mo_reached.1 ∈ jTG ∧ Cond.selects M_Mo_reached.1.cls M_Mo_reached.1 M_Mo_reached.1 ∈ jTG := ⟨w_3_97, w_s_7⟩
theorem cl_Mo_81 : jCL "MailAgentModel" 81 M_Mo_named 1 := ⟨w_3_99, w_1_10, w_3_102, by decide +kernel⟩
theorem cl_Mo_81v : Cond.instanceMethod M_Mo_named.1 ∈ jTG ∧ Cond.selects M_Mo_named.1.cls M_Mo_named.1 M_Mo_named.1 ∈ jTG := ⟨w_3_101, w_s_8⟩
theorem cl_La_55 : jCL "MailAgentLaw" 55 M_Mo_data 1 := ⟨w_3_103, w_1_10, w_3_106, by decide +kernel⟩
theorem cl_La_55v : Cond.instanceMethod M_Mo_data.1 ∈ jTG ∧ Cond.selects M_Mo_data.1.cls M_Mo_data.1 M_Mo_data.1 ∈ jTG := ⟨w_3_104, w_3_105⟩
theorem cl_Mo_94 : jCL "MailAgentModel" 94 M_Mo_costs 0 := ⟨w_3_107, w_1_10, w_3_110, by decide +kernel⟩
theorem cl_Mo_94v : Cond.instanceMethod M_Mo_costs.1 ∈ jTG ∧ Cond.selects M_Mo_costs.1.cls M_Mo_costs.1 M_Mo_costs.1 ∈ jTG := ⟨w_3_109, w_s_9⟩
theorem cl_Mo_104 : jCL "MailAgentModel" 104 M_Mo_settle 0 := ⟨w_3_111, w_1_10, w_3_114, by decide +kernel⟩
theorem cl_Mo_104v : Cond.instanceMethod M_Mo_settle.1 ∈ jTG ∧ Cond.selects M_Mo_settle.1.cls M_Mo_settle.1 M_Mo_settle.1 ∈ jTG := ⟨w_3_113, w_s_10⟩
theorem cl_La_59 : jCL "MailAgentLaw" 59 M_Mo_tick 1 := ⟨w_3_115, w_1_10, w_3_118, by decide +kernel⟩
theorem cl_La_59v : Cond.instanceMethod M_Mo_tick.1 ∈ jTG ∧ Cond.selects M_Mo_tick.1.cls M_Mo_tick.1 M_Mo_tick.1 ∈ jTG := ⟨w_3_116, w_3_117⟩
theorem cl_Mo_127 : jCL "MailAgentModel" 127 M_Mo_find 1 := ⟨w_3_120, w_1_10, w_3_123, by decide +kernel⟩
theorem cl_Mo_127v : Cond.instanceMethod M_Mo_find.1 ∈ jTG ∧ Cond.selects M_Mo_find.1.cls M_Mo_find.1 M_Mo_find.1 ∈ jTG := ⟨w_3_122, w_s_11⟩
theorem cl_Mo_130 : jCL "MailAgentModel" 130 M_Mo_attempt 1 := ⟨w_3_124, w_1_10, w_3_127, by decide +kernel⟩
theorem cl_Mo_130v : Cond.instanceMethod M_Mo_attempt.1 ∈ jTG ∧ Cond.selects M_Mo_attempt.1.cls M_Mo_attempt.1 M_Mo_attempt.1 ∈ jTG := ⟨w_3_126, w_s_12⟩
theorem cl_Mo_107 : jCL "MailAgentModel" 107 M_Mo_carrier 1 := ⟨w_3_128, w_1_10, w_3_131, by decide +kernel⟩
theorem cl_Mo_107v : Cond.instanceMethod M_Mo_carrier.1 ∈ jTG ∧ Cond.selects M_Mo_carrier.1.cls M_Mo_carrier.1 M_Mo_carrier.1 ∈ jTG := ⟨w_3_130, w_s_13⟩
theorem cl_Mo_111 : jCL "MailAgentModel" 111 M_Mo_mark 2 := ⟨w_3_132, w_1_10, w_3_135, by decide +kernel⟩
theorem cl_Mo_111v : Cond.instanceMethod M_Mo_mark.1 ∈ jTG ∧ Cond.selects M_Mo_mark.1.cls M_Mo_mark.1 M_Mo_mark.1 ∈ jTG := ⟨w_3_134, w_s_14⟩
theorem cl_Mo_115 : jCL "MailAgentModel" 115 M_Mo_deliver 2 := ⟨w_3_136, w_1_10, w_3_139, by decide +kernel⟩
theorem cl_Mo_115v : Cond.instanceMethod M_Mo_deliver.1 ∈ jTG ∧ Cond.selects M_Mo_deliver.1.cls M_Mo_deliver.1 M_Mo_deliver.1 ∈ jTG := ⟨w_3_138, w_s_15⟩
theorem cl_Mo_118 : jCL "MailAgentModel" 118 M_Mo_states 2 := ⟨w_3_140, w_1_10, w_3_143, by decide +kernel⟩
theorem cl_Mo_118v : Cond.instanceMethod M_Mo_states.1 ∈ jTG ∧ Cond.selects M_Mo_states.1.cls M_Mo_states.1 M_Mo_states.1 ∈ jTG := ⟨w_3_142, w_s_16⟩
theorem cl_Mo_122 : jCL "MailAgentModel" 122 M_Mo_remove 1 := ⟨w_3_144, w_1_10, w_3_147, by decide +kernel⟩
theorem cl_Mo_122v : Cond.instanceMethod M_Mo_remove.1 ∈ jTG ∧ Cond.selects M_Mo_remove.1.cls M_Mo_remove.1 M_Mo_remove.1 ∈ jTG := ⟨w_3_146, w_s_17⟩
theorem cl_Mo_133 : jCL "MailAgentModel" 133 M_Mo_close 0 := ⟨w_3_148, w_1_10, w_3_151, by decide +kernel⟩
theorem cl_Mo_133v : Cond.instanceMethod M_Mo_close.1 ∈ jTG ∧ Cond.selects M_Mo_close.1.cls M_Mo_close.1 M_Mo_close.1 ∈ jTG := ⟨w_3_150, w_s_18⟩
theorem cl_La_64 : jCL "MailAgentLaw" 64 M_Mo_sync 0 := ⟨w_3_152, w_1_10, w_3_155, by decide +kernel⟩
theorem cl_La_64v : Cond.instanceMethod M_Mo_sync.1 ∈ jTG ∧ Cond.selects M_Mo_sync.1.cls M_Mo_sync.1 M_Mo_sync.1 ∈ jTG := ⟨w_3_153, w_3_154⟩
theorem cl_La_68 : jCL "MailAgentLaw" 68 M_Mo_crash 0 := ⟨w_3_156, w_1_10, w_3_159, by decide +kernel⟩
theorem cl_La_68v : Cond.instanceMethod M_Mo_crash.1 ∈ jTG ∧ Cond.selects M_Mo_crash.1.cls M_Mo_crash.1 M_Mo_crash.1 ∈ jTG := ⟨w_3_157, w_3_158⟩
theorem cl_La_72 : jCL "MailAgentLaw" 72 M_Mo_drop 1 := ⟨w_3_160, w_1_10, w_3_163, by decide +kernel⟩
theorem cl_La_72v : Cond.instanceMethod M_Mo_drop.1 ∈ jTG ∧ Cond.selects M_Mo_drop.1.cls M_Mo_drop.1 M_Mo_drop.1 ∈ jTG := ⟨w_3_161, w_3_162⟩
theorem cl_La_76 : jCL "MailAgentLaw" 76 M_Mo_hurry 1 := ⟨w_3_164, w_1_10, w_3_167, by decide +kernel⟩
theorem cl_La_76v : Cond.instanceMethod M_Mo_hurry.1 ∈ jTG ∧ Cond.selects M_Mo_hurry.1.cls M_Mo_hurry.1 M_Mo_hurry.1 ∈ jTG := ⟨w_3_165, w_3_166⟩
theorem cl_La_80 : jCL "MailAgentLaw" 80 M_Mo_count 1 := ⟨w_3_168, w_1_10, w_3_171, by decide +kernel⟩
theorem cl_La_80v : Cond.instanceMethod M_Mo_count.1 ∈ jTG ∧ Cond.selects M_Mo_count.1.cls M_Mo_count.1 M_Mo_count.1 ∈ jTG := ⟨w_3_169, w_3_170⟩
theorem cl_La_84 : jCL "MailAgentLaw" 84 M_Mo_message 1 := ⟨w_3_172, w_1_10, w_3_175, by decide +kernel⟩
theorem cl_La_84v : Cond.instanceMethod M_Mo_message.1 ∈ jTG ∧ Cond.selects M_Mo_message.1.cls M_Mo_message.1 M_Mo_message.1 ∈ jTG := ⟨w_3_173, w_3_174⟩
theorem cl_La_88 : jCL "MailAgentLaw" 88 M_Mo_status 2 := ⟨w_3_176, w_1_10, w_3_179, by decide +kernel⟩
theorem cl_La_88v : Cond.instanceMethod M_Mo_status.1 ∈ jTG ∧ Cond.selects M_Mo_status.1.cls M_Mo_status.1 M_Mo_status.1 ∈ jTG := ⟨w_3_177, w_3_178⟩
theorem cl_La_92 : jCL "MailAgentLaw" 92 M_Mo_sender 1 := ⟨w_3_180, w_1_10, w_3_183, by decide +kernel⟩
theorem cl_La_92v : Cond.instanceMethod M_Mo_sender.1 ∈ jTG ∧ Cond.selects M_Mo_sender.1.cls M_Mo_sender.1 M_Mo_sender.1 ∈ jTG := ⟨w_3_181, w_3_182⟩
theorem cl_La_96 : jCL "MailAgentLaw" 96 M_Mo_due 1 := ⟨w_3_184, w_1_10, w_3_187, by decide +kernel⟩
theorem cl_La_96v : Cond.instanceMethod M_Mo_due.1 ∈ jTG ∧ Cond.selects M_Mo_due.1.cls M_Mo_due.1 M_Mo_due.1 ∈ jTG := ⟨w_3_185, w_3_186⟩
theorem cl_La_100 : jCL "MailAgentLaw" 100 M_Mo_received 2 := ⟨w_3_188, w_1_10, w_3_191, by decide +kernel⟩
theorem cl_La_100v : Cond.instanceMethod M_Mo_received.1 ∈ jTG ∧ Cond.selects M_Mo_received.1.cls M_Mo_received.1 M_Mo_received.1 ∈ jTG := ⟨w_3_189, w_3_190⟩
theorem cn_Ma_25 : jCN "MailAgent" 25 M_Al_init "MailAgent" 0 := ⟨List.mem_of_getElem? (i := 0) rfl, w_1_3, w_1_33, by decide +kernel⟩
theorem cn_Ma_25v : Cond.instanceMethod M_Al_init.1 ∈ jTG := w_1_32
theorem cn_Ma_36 : jCN "MailAgent" 36 M_Ro_init "MailAgent" 0 := ⟨List.mem_of_getElem? (i := 1) rfl, w_1_4, w_1_45, by decide +kernel⟩
theorem cn_Ma_36v : Cond.instanceMethod M_Ro_init.1 ∈ jTG := w_1_44
theorem cn_Ma_43 : jCN "MailAgent" 43 M_Tr_init "MailAgent" 0 := ⟨List.mem_of_getElem? (i := 2) rfl, w_1_5, w_1_64, by decide +kernel⟩
theorem cn_Ma_43v : Cond.instanceMethod M_Tr_init.1 ∈ jTG := w_1_63
theorem cn_Tr_11 : jCN "MailAgent$Transaction" 11 M_Re_init "MailAgent" 0 := ⟨List.mem_of_getElem? (i := 3) rfl, w_1_6, w_1_70, by decide +kernel⟩
theorem cn_Tr_11v : Cond.instanceMethod M_Re_init.1 ∈ jTG := w_1_69
theorem cn_Qu_21 : jCN "MailAgent$Queue" 21 M_Me_init "MailAgent" 0 := ⟨List.mem_of_getElem? (i := 4) rfl, w_1_8, w_1_113, by decide +kernel⟩
theorem cn_Qu_21v : Cond.instanceMethod M_Me_init.1 ∈ jTG := w_1_112
theorem cn_Me_11 : jCN "MailAgent$Message" 11 M_Re_init "MailAgent" 0 := ⟨List.mem_of_getElem? (i := 5) rfl, w_1_6, w_1_70, by decide +kernel⟩
theorem cn_Me_11v : Cond.instanceMethod M_Re_init.1 ∈ jTG := w_1_69
theorem cn_Ma_60 : jCN "MailAgent" 60 M_De_init "MailAgent" 0 := ⟨List.mem_of_getElem? (i := 6) rfl, w_1_9, w_1_165, by decide +kernel⟩
theorem cn_Ma_60v : Cond.instanceMethod M_De_init.1 ∈ jTG := w_1_164
theorem cn_Qu_33 : jCN "MailAgent$Queue" 33 M_Ma_costOf "MailAgent" 2 := ⟨List.mem_of_getElem? (i := 7) rfl, w_1_1, w_2_81, by decide +kernel⟩
theorem cn_Qu_33v : Cond.static M_Ma_costOf.1 ∈ jTG := w_2_80
