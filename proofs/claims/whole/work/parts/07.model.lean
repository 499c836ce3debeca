theorem inX11g : ∀ w ∈ u_ws RX11 TX11 45, w ∈ gw := fun w h => by
  have h1 := List.all_eq_true.mp (show (u_ws RX11 TX11 45).all (fun w => decide (w ∈ lw_tbl) && goodWord w) = true by decide +kernel) w h
  simp only [Bool.and_eq_true, decide_eq_true_eq] at h1
  exact gw_of h1.1 h1.2
theorem lkX11_95 : LkV RX11 95 RX11 yX11_lays cX11_lays 3 none 1 :=
  ⟨fun w hw => by
    rcases (show w = _ ∨ w = _ ∨ w = _ ∨ w = _ ∨ w = _ by simpa [wsV] using hw) with rfl | rfl | rfl | rfl | rfl
    · exact gw_of (List.mem_of_getElem? (i := 1045) (by decide +kernel)) (by decide +kernel)
    · exact gw_of (List.mem_of_getElem? (i := 1047) (by decide +kernel)) (by decide +kernel)
    · exact gw_of (List.mem_of_getElem? (i := 22) (by decide +kernel)) (by decide +kernel)
    · exact gw_of (List.mem_of_getElem? (i := 56) (by decide +kernel)) (by decide +kernel)
    · exact gw_of (List.mem_of_getElem? (i := 1048) (by decide +kernel)) (by decide +kernel), rfl, by decide, by decide, by decide +kernel⟩
theorem lkX11_127 : LkS RX11 127 yX11_tone cX11_tone 1 (some .int) 1 :=
  ⟨fun w hw => by
    rcases (show w = _ ∨ w = _ ∨ w = _ ∨ w = _ by simpa [va_wsS] using hw) with rfl | rfl | rfl | rfl
    · exact gw_of (List.mem_of_getElem? (i := 1134) (by decide +kernel)) (by decide +kernel)
    · exact gw_of (List.mem_of_getElem? (i := 1135) (by decide +kernel)) (by decide +kernel)
    · exact gw_of (List.mem_of_getElem? (i := 56) (by decide +kernel)) (by decide +kernel)
    · exact gw_of (List.mem_of_getElem? (i := 1136) (by decide +kernel)) (by decide +kernel), by decide, by decide, by decide +kernel⟩
theorem lkX11_131 : LkS RX11 131 yX11_tonesOf cX11_tonesOf 1 (some .int) 1 :=
  ⟨fun w hw => by
    rcases (show w = _ ∨ w = _ ∨ w = _ ∨ w = _ by simpa [va_wsS] using hw) with rfl | rfl | rfl | rfl
    · exact gw_of (List.mem_of_getElem? (i := 1137) (by decide +kernel)) (by decide +kernel)
    · exact gw_of (List.mem_of_getElem? (i := 1138) (by decide +kernel)) (by decide +kernel)
    · exact gw_of (List.mem_of_getElem? (i := 56) (by decide +kernel)) (by decide +kernel)
    · exact gw_of (List.mem_of_getElem? (i := 1139) (by decide +kernel)) (by decide +kernel), by decide, by decide, by decide +kernel⟩
theorem lkX11_143 : LkV RX11 143 RX11 yX11_byteAt cX11_byteAt 2 (some .int) 1 :=
  ⟨fun w hw => by
    rcases (show w = _ ∨ w = _ ∨ w = _ ∨ w = _ ∨ w = _ by simpa [wsV] using hw) with rfl | rfl | rfl | rfl | rfl
    · exact gw_of (List.mem_of_getElem? (i := 1073) (by decide +kernel)) (by decide +kernel)
    · exact gw_of (List.mem_of_getElem? (i := 1075) (by decide +kernel)) (by decide +kernel)
    · exact gw_of (List.mem_of_getElem? (i := 28) (by decide +kernel)) (by decide +kernel)
    · exact gw_of (List.mem_of_getElem? (i := 56) (by decide +kernel)) (by decide +kernel)
    · exact gw_of (List.mem_of_getElem? (i := 1076) (by decide +kernel)) (by decide +kernel), rfl, by decide, by decide, by decide +kernel⟩
theorem lkX11_146 : LkV RX11 146 RX11 yX11_wrong cX11_wrong 3 (some .boolean) 2 :=
  ⟨fun w hw => by
    rcases (show w = _ ∨ w = _ ∨ w = _ ∨ w = _ ∨ w = _ by simpa [wsV] using hw) with rfl | rfl | rfl | rfl | rfl
    · exact gw_of (List.mem_of_getElem? (i := 1061) (by decide +kernel)) (by decide +kernel)
    · exact gw_of (List.mem_of_getElem? (i := 1063) (by decide +kernel)) (by decide +kernel)
    · exact gw_of (List.mem_of_getElem? (i := 25) (by decide +kernel)) (by decide +kernel)
    · exact gw_of (List.mem_of_getElem? (i := 56) (by decide +kernel)) (by decide +kernel)
    · exact gw_of (List.mem_of_getElem? (i := 1064) (by decide +kernel)) (by decide +kernel), rfl, by decide, by decide, by decide +kernel⟩
theorem lkX11_150 : LkS RX11 150 yX11_placeOf cX11_placeOf 1 (some .int) 1 :=
  ⟨fun w hw => by
    rcases (show w = _ ∨ w = _ ∨ w = _ ∨ w = _ by simpa [va_wsS] using hw) with rfl | rfl | rfl | rfl
    · exact gw_of (List.mem_of_getElem? (i := 1077) (by decide +kernel)) (by decide +kernel)
    · exact gw_of (List.mem_of_getElem? (i := 1078) (by decide +kernel)) (by decide +kernel)
    · exact gw_of (List.mem_of_getElem? (i := 56) (by decide +kernel)) (by decide +kernel)
    · exact gw_of (List.mem_of_getElem? (i := 1079) (by decide +kernel)) (by decide +kernel), by decide, by decide, by decide +kernel⟩
theorem lkX11_156 : LkV RX11 156 RJ0 yJ0_length_8abf5 cJ0_length_8abf5 1 (some .int) 0 :=
  ⟨fun w hw => by
    rcases (show w = _ ∨ w = _ ∨ w = _ ∨ w = _ ∨ w = _ by simpa [wsV] using hw) with rfl | rfl | rfl | rfl | rfl
    · exact gw_of (List.mem_of_getElem? (i := 1101) (by decide +kernel)) (by decide +kernel)
    · exact gw_of (List.mem_of_getElem? (i := 425) (by decide +kernel)) (by decide +kernel)
    · exact gw_of (List.mem_of_getElem? (i := 426) (by decide +kernel)) (by decide +kernel)
    · exact gw_of (List.mem_of_getElem? (i := 63) (by decide +kernel)) (by decide +kernel)
    · exact gw_of (List.mem_of_getElem? (i := 427) (by decide +kernel)) (by decide +kernel), rfl, by decide, by decide, by decide +kernel⟩
theorem lkX11_162 : LkV RX11 162 RJ0 yJ0_charAt_5068e cJ0_charAt_5068e 2 (some .char) 1 :=
  ⟨fun w hw => by
    rcases (show w = _ ∨ w = _ ∨ w = _ ∨ w = _ ∨ w = _ by simpa [wsV] using hw) with rfl | rfl | rfl | rfl | rfl
    · exact gw_of (List.mem_of_getElem? (i := 1102) (by decide +kernel)) (by decide +kernel)
    · exact gw_of (List.mem_of_getElem? (i := 367) (by decide +kernel)) (by decide +kernel)
    · exact gw_of (List.mem_of_getElem? (i := 368) (by decide +kernel)) (by decide +kernel)
    · exact gw_of (List.mem_of_getElem? (i := 63) (by decide +kernel)) (by decide +kernel)
    · exact gw_of (List.mem_of_getElem? (i := 369) (by decide +kernel)) (by decide +kernel), rfl, by decide, by decide, by decide +kernel⟩
theorem lkX11_166 : LkV RX11 166 RX11 yX11_noted cX11_noted 4 (some .boolean) 0 :=
  ⟨fun w hw => by
    rcases (show w = _ ∨ w = _ ∨ w = _ ∨ w = _ ∨ w = _ by simpa [wsV] using hw) with rfl | rfl | rfl | rfl | rfl
    · exact gw_of (List.mem_of_getElem? (i := 1069) (by decide +kernel)) (by decide +kernel)
    · exact gw_of (List.mem_of_getElem? (i := 1071) (by decide +kernel)) (by decide +kernel)
    · exact gw_of (List.mem_of_getElem? (i := 27) (by decide +kernel)) (by decide +kernel)
    · exact gw_of (List.mem_of_getElem? (i := 56) (by decide +kernel)) (by decide +kernel)
    · exact gw_of (List.mem_of_getElem? (i := 1072) (by decide +kernel)) (by decide +kernel), rfl, by decide, by decide, by decide +kernel⟩
theorem lkX11_173 : LkS RX11 173 yX11_kindOf cX11_kindOf 1 (some (.object "java/lang/String")) 1 :=
  ⟨fun w hw => by
    rcases (show w = _ ∨ w = _ ∨ w = _ ∨ w = _ by simpa [va_wsS] using hw) with rfl | rfl | rfl | rfl
    · exact gw_of (List.mem_of_getElem? (i := 1080) (by decide +kernel)) (by decide +kernel)
    · exact gw_of (List.mem_of_getElem? (i := 1081) (by decide +kernel)) (by decide +kernel)
    · exact gw_of (List.mem_of_getElem? (i := 56) (by decide +kernel)) (by decide +kernel)
    · exact gw_of (List.mem_of_getElem? (i := 1082) (by decide +kernel)) (by decide +kernel), by decide, by decide, by decide +kernel⟩
theorem lkX11_177 : LkV RX11 177 RX11 yX11_isHere cX11_isHere 4 (some .boolean) 1 :=
  ⟨fun w hw => by
    rcases (show w = _ ∨ w = _ ∨ w = _ ∨ w = _ ∨ w = _ by simpa [wsV] using hw) with rfl | rfl | rfl | rfl | rfl
    · exact gw_of (List.mem_of_getElem? (i := 1097) (by decide +kernel)) (by decide +kernel)
    · exact gw_of (List.mem_of_getElem? (i := 1099) (by decide +kernel)) (by decide +kernel)
    · exact gw_of (List.mem_of_getElem? (i := 29) (by decide +kernel)) (by decide +kernel)
    · exact gw_of (List.mem_of_getElem? (i := 56) (by decide +kernel)) (by decide +kernel)
    · exact gw_of (List.mem_of_getElem? (i := 1100) (by decide +kernel)) (by decide +kernel), rfl, by decide, by decide, by decide +kernel⟩
theorem lkX11_187 : LkV RX11 187 RX11 yX11_named cX11_named 3 (some .boolean) 0 :=
  ⟨fun w hw => by
    rcases (show w = _ ∨ w = _ ∨ w = _ ∨ w = _ ∨ w = _ by simpa [wsV] using hw) with rfl | rfl | rfl | rfl | rfl
    · exact gw_of (List.mem_of_getElem? (i := 1065) (by decide +kernel)) (by decide +kernel)
    · exact gw_of (List.mem_of_getElem? (i := 1067) (by decide +kernel)) (by decide +kernel)
    · exact gw_of (List.mem_of_getElem? (i := 26) (by decide +kernel)) (by decide +kernel)
    · exact gw_of (List.mem_of_getElem? (i := 56) (by decide +kernel)) (by decide +kernel)
    · exact gw_of (List.mem_of_getElem? (i := 1068) (by decide +kernel)) (by decide +kernel), rfl, by decide, by decide, by decide +kernel⟩
theorem lkX11_190 : LkV RX11 190 RX11 yX11_right cX11_right 3 (some .boolean) 2 :=
  ⟨fun w hw => by
    rcases (show w = _ ∨ w = _ ∨ w = _ ∨ w = _ ∨ w = _ by simpa [wsV] using hw) with rfl | rfl | rfl | rfl | rfl
    · exact gw_of (List.mem_of_getElem? (i := 1053) (by decide +kernel)) (by decide +kernel)
    · exact gw_of (List.mem_of_getElem? (i := 1055) (by decide +kernel)) (by decide +kernel)
    · exact gw_of (List.mem_of_getElem? (i := 23) (by decide +kernel)) (by decide +kernel)
    · exact gw_of (List.mem_of_getElem? (i := 56) (by decide +kernel)) (by decide +kernel)
    · exact gw_of (List.mem_of_getElem? (i := 1056) (by decide +kernel)) (by decide +kernel), rfl, by decide, by decide, by decide +kernel⟩
theorem lkX11_194 : LkV RX11 194 RX11 yX11_reads cX11_reads 2 (some .boolean) 0 :=
  ⟨fun w hw => by
    rcases (show w = _ ∨ w = _ ∨ w = _ ∨ w = _ ∨ w = _ by simpa [wsV] using hw) with rfl | rfl | rfl | rfl | rfl
    · exact gw_of (List.mem_of_getElem? (i := 1057) (by decide +kernel)) (by decide +kernel)
    · exact gw_of (List.mem_of_getElem? (i := 1059) (by decide +kernel)) (by decide +kernel)
    · exact gw_of (List.mem_of_getElem? (i := 24) (by decide +kernel)) (by decide +kernel)
    · exact gw_of (List.mem_of_getElem? (i := 56) (by decide +kernel)) (by decide +kernel)
    · exact gw_of (List.mem_of_getElem? (i := 1060) (by decide +kernel)) (by decide +kernel), rfl, by decide, by decide, by decide +kernel⟩
theorem lkX11_210 : LkV RX11 210 RX11 yX11_changes cX11_changes 2 none 0 :=
  ⟨fun w hw => by
    rcases (show w = _ ∨ w = _ ∨ w = _ ∨ w = _ ∨ w = _ by simpa [wsV] using hw) with rfl | rfl | rfl | rfl | rfl
    · exact gw_of (List.mem_of_getElem? (i := 1103) (by decide +kernel)) (by decide +kernel)
    · exact gw_of (List.mem_of_getElem? (i := 1105) (by decide +kernel)) (by decide +kernel)
    · exact gw_of (List.mem_of_getElem? (i := 30) (by decide +kernel)) (by decide +kernel)
    · exact gw_of (List.mem_of_getElem? (i := 56) (by decide +kernel)) (by decide +kernel)
    · exact gw_of (List.mem_of_getElem? (i := 1106) (by decide +kernel)) (by decide +kernel), rfl, by decide, by decide, by decide +kernel⟩
theorem lkX11_216 : LkS RX11 216 yX11_within cX11_within 2 (some .int) 1 :=
  ⟨fun w hw => by
    rcases (show w = _ ∨ w = _ ∨ w = _ ∨ w = _ by simpa [va_wsS] using hw) with rfl | rfl | rfl | rfl
    · exact gw_of (List.mem_of_getElem? (i := 1119) (by decide +kernel)) (by decide +kernel)
    · exact gw_of (List.mem_of_getElem? (i := 1120) (by decide +kernel)) (by decide +kernel)
    · exact gw_of (List.mem_of_getElem? (i := 56) (by decide +kernel)) (by decide +kernel)
    · exact gw_of (List.mem_of_getElem? (i := 1121) (by decide +kernel)) (by decide +kernel), by decide, by decide, by decide +kernel⟩
theorem lkX11_219 : LkV RX11 219 RX11 yX11_isChord cX11_isChord 2 (some .boolean) 1 :=
  ⟨fun w hw => by
    rcases (show w = _ ∨ w = _ ∨ w = _ ∨ w = _ ∨ w = _ by simpa [wsV] using hw) with rfl | rfl | rfl | rfl | rfl
    · exact gw_of (List.mem_of_getElem? (i := 1126) (by decide +kernel)) (by decide +kernel)
    · exact gw_of (List.mem_of_getElem? (i := 1128) (by decide +kernel)) (by decide +kernel)
    · exact gw_of (List.mem_of_getElem? (i := 31) (by decide +kernel)) (by decide +kernel)
    · exact gw_of (List.mem_of_getElem? (i := 56) (by decide +kernel)) (by decide +kernel)
    · exact gw_of (List.mem_of_getElem? (i := 1129) (by decide +kernel)) (by decide +kernel), rfl, by decide, by decide, by decide +kernel⟩
theorem lkX11_223 : LkV RX11 223 RX11 yX11_tones cX11_tones 4 (some .int) 1 :=
  ⟨fun w hw => by
    rcases (show w = _ ∨ w = _ ∨ w = _ ∨ w = _ ∨ w = _ by simpa [wsV] using hw) with rfl | rfl | rfl | rfl | rfl
    · exact gw_of (List.mem_of_getElem? (i := 1130) (by decide +kernel)) (by decide +kernel)
    · exact gw_of (List.mem_of_getElem? (i := 1132) (by decide +kernel)) (by decide +kernel)
    · exact gw_of (List.mem_of_getElem? (i := 32) (by decide +kernel)) (by decide +kernel)
    · exact gw_of (List.mem_of_getElem? (i := 56) (by decide +kernel)) (by decide +kernel)
    · exact gw_of (List.mem_of_getElem? (i := 1133) (by decide +kernel)) (by decide +kernel), rfl, by decide, by decide, by decide +kernel⟩
theorem lkX11_231 : LkV RX11 231 RX11 yX11_add cX11_add 2 none 1 :=
  ⟨fun w hw => by
    rcases (show w = _ ∨ w = _ ∨ w = _ ∨ w = _ ∨ w = _ by simpa [wsV] using hw) with rfl | rfl | rfl | rfl | rfl
    · exact gw_of (List.mem_of_getElem? (i := 1153) (by decide +kernel)) (by decide +kernel)
    · exact gw_of (List.mem_of_getElem? (i := 1155) (by decide +kernel)) (by decide +kernel)
    · exact gw_of (List.mem_of_getElem? (i := 35) (by decide +kernel)) (by decide +kernel)
    · exact gw_of (List.mem_of_getElem? (i := 56) (by decide +kernel)) (by decide +kernel)
    · exact gw_of (List.mem_of_getElem? (i := 1156) (by decide +kernel)) (by decide +kernel), rfl, by decide, by decide, by decide +kernel⟩
theorem lkX11_234 : LkV RX11 234 RX11 yX11_addNote cX11_addNote 4 none 1 :=
  ⟨fun w hw => by
    rcases (show w = _ ∨ w = _ ∨ w = _ ∨ w = _ ∨ w = _ by simpa [wsV] using hw) with rfl | rfl | rfl | rfl | rfl
    · exact gw_of (List.mem_of_getElem? (i := 1148) (by decide +kernel)) (by decide +kernel)
    · exact gw_of (List.mem_of_getElem? (i := 1150) (by decide +kernel)) (by decide +kernel)
    · exact gw_of (List.mem_of_getElem? (i := 34) (by decide +kernel)) (by decide +kernel)
    · exact gw_of (List.mem_of_getElem? (i := 56) (by decide +kernel)) (by decide +kernel)
    · exact gw_of (List.mem_of_getElem? (i := 1151) (by decide +kernel)) (by decide +kernel), rfl, by decide, by decide, by decide +kernel⟩
theorem lkX11_240 : LkV RX11 240 RX11 yX11_names cX11_names 4 none 1 :=
  ⟨fun w hw => by
    rcases (show w = _ ∨ w = _ ∨ w = _ ∨ w = _ ∨ w = _ by simpa [wsV] using hw) with rfl | rfl | rfl | rfl | rfl
    · exact gw_of (List.mem_of_getElem? (i := 1144) (by decide +kernel)) (by decide +kernel)
    · exact gw_of (List.mem_of_getElem? (i := 1146) (by decide +kernel)) (by decide +kernel)
    · exact gw_of (List.mem_of_getElem? (i := 33) (by decide +kernel)) (by decide +kernel)
    · exact gw_of (List.mem_of_getElem? (i := 56) (by decide +kernel)) (by decide +kernel)
    · exact gw_of (List.mem_of_getElem? (i := 1147) (by decide +kernel)) (by decide +kernel), rfl, by decide, by decide, by decide +kernel⟩
theorem lkX11_243 : LkV RX11 243 RX11 yX11_says cX11_says 2 none 1 :=
  ⟨fun w hw => by
    rcases (show w = _ ∨ w = _ ∨ w = _ ∨ w = _ ∨ w = _ by simpa [wsV] using hw) with rfl | rfl | rfl | rfl | rfl
    · exact gw_of (List.mem_of_getElem? (i := 1157) (by decide +kernel)) (by decide +kernel)
    · exact gw_of (List.mem_of_getElem? (i := 1159) (by decide +kernel)) (by decide +kernel)
    · exact gw_of (List.mem_of_getElem? (i := 36) (by decide +kernel)) (by decide +kernel)
    · exact gw_of (List.mem_of_getElem? (i := 56) (by decide +kernel)) (by decide +kernel)
    · exact gw_of (List.mem_of_getElem? (i := 1160) (by decide +kernel)) (by decide +kernel), rfl, by decide, by decide, by decide +kernel⟩
theorem lkX11_252 : LkS RX11 252 yX11_isLetter cX11_isLetter 1 (some .boolean) 1 :=
  ⟨fun w hw => by
    rcases (show w = _ ∨ w = _ ∨ w = _ ∨ w = _ by simpa [va_wsS] using hw) with rfl | rfl | rfl | rfl
    · exact gw_of (List.mem_of_getElem? (i := 1169) (by decide +kernel)) (by decide +kernel)
    · exact gw_of (List.mem_of_getElem? (i := 1170) (by decide +kernel)) (by decide +kernel)
    · exact gw_of (List.mem_of_getElem? (i := 56) (by decide +kernel)) (by decide +kernel)
    · exact gw_of (List.mem_of_getElem? (i := 1171) (by decide +kernel)) (by decide +kernel), by decide, by decide, by decide +kernel⟩
theorem lkX11_255 : LkV RX11 255 RX11 yX11_nextWord cX11_nextWord 3 (some .int) 1 :=
  ⟨fun w hw => by
    rcases (show w = _ ∨ w = _ ∨ w = _ ∨ w = _ ∨ w = _ by simpa [wsV] using hw) with rfl | rfl | rfl | rfl | rfl
    · exact gw_of (List.mem_of_getElem? (i := 1172) (by decide +kernel)) (by decide +kernel)
    · exact gw_of (List.mem_of_getElem? (i := 1174) (by decide +kernel)) (by decide +kernel)
    · exact gw_of (List.mem_of_getElem? (i := 38) (by decide +kernel)) (by decide +kernel)
    · exact gw_of (List.mem_of_getElem? (i := 56) (by decide +kernel)) (by decide +kernel)
    · exact gw_of (List.mem_of_getElem? (i := 1175) (by decide +kernel)) (by decide +kernel), rfl, by decide, by decide, by decide +kernel⟩
theorem lkX11_258 : LkV RX11 258 RX11 yX11_writes cX11_writes 6 (some .int) 1 :=
  ⟨fun w hw => by
    rcases (show w = _ ∨ w = _ ∨ w = _ ∨ w = _ ∨ w = _ by simpa [wsV] using hw) with rfl | rfl | rfl | rfl | rfl
    · exact gw_of (List.mem_of_getElem? (i := 1165) (by decide +kernel)) (by decide +kernel)
    · exact gw_of (List.mem_of_getElem? (i := 1167) (by decide +kernel)) (by decide +kernel)
    · exact gw_of (List.mem_of_getElem? (i := 37) (by decide +kernel)) (by decide +kernel)
    · exact gw_of (List.mem_of_getElem? (i := 56) (by decide +kernel)) (by decide +kernel)
    · exact gw_of (List.mem_of_getElem? (i := 1168) (by decide +kernel)) (by decide +kernel), rfl, by decide, by decide, by decide +kernel⟩
theorem lkX11_261 : LkV RX11 261 RX11 yX11_kept cX11_kept 1 (some .int) 0 :=
  ⟨fun w hw => by
    rcases (show w = _ ∨ w = _ ∨ w = _ ∨ w = _ ∨ w = _ by simpa [wsV] using hw) with rfl | rfl | rfl | rfl | rfl
    · exact gw_of (List.mem_of_getElem? (i := 1180) (by decide +kernel)) (by decide +kernel)
    · exact gw_of (List.mem_of_getElem? (i := 1182) (by decide +kernel)) (by decide +kernel)
    · exact gw_of (List.mem_of_getElem? (i := 39) (by decide +kernel)) (by decide +kernel)
    · exact gw_of (List.mem_of_getElem? (i := 56) (by decide +kernel)) (by decide +kernel)
    · exact gw_of (List.mem_of_getElem? (i := 1183) (by decide +kernel)) (by decide +kernel), rfl, by decide, by decide, by decide +kernel⟩
theorem lkX11_267 : LkV RX11 267 RX11 yX11_strain cX11_strain 12 (some .int) 3 :=
  ⟨fun w hw => by
    rcases (show w = _ ∨ w = _ ∨ w = _ ∨ w = _ ∨ w = _ by simpa [wsV] using hw) with rfl | rfl | rfl | rfl | rfl
    · exact gw_of (List.mem_of_getElem? (i := 1203) (by decide +kernel)) (by decide +kernel)
    · exact gw_of (List.mem_of_getElem? (i := 1205) (by decide +kernel)) (by decide +kernel)
    · exact gw_of (List.mem_of_getElem? (i := 41) (by decide +kernel)) (by decide +kernel)
    · exact gw_of (List.mem_of_getElem? (i := 56) (by decide +kernel)) (by decide +kernel)
    · exact gw_of (List.mem_of_getElem? (i := 1206) (by decide +kernel)) (by decide +kernel), rfl, by decide, by decide, by decide +kernel⟩
theorem lkX11_272 : LkV RX11 272 RX11 yX11_comes cX11_comes 6 none 2 :=
  ⟨fun w hw => by
    rcases (show w = _ ∨ w = _ ∨ w = _ ∨ w = _ ∨ w = _ by simpa [wsV] using hw) with rfl | rfl | rfl | rfl | rfl
    · exact gw_of (List.mem_of_getElem? (i := 1211) (by decide +kernel)) (by decide +kernel)
    · exact gw_of (List.mem_of_getElem? (i := 1213) (by decide +kernel)) (by decide +kernel)
    · exact gw_of (List.mem_of_getElem? (i := 42) (by decide +kernel)) (by decide +kernel)
    · exact gw_of (List.mem_of_getElem? (i := 56) (by decide +kernel)) (by decide +kernel)
    · exact gw_of (List.mem_of_getElem? (i := 1214) (by decide +kernel)) (by decide +kernel), rfl, by decide, by decide, by decide +kernel⟩
theorem lkX11_276 : LkS RX11 276 yX11_many cX11_many 3 (some .int) 1 :=
  ⟨fun w hw => by
    rcases (show w = _ ∨ w = _ ∨ w = _ ∨ w = _ by simpa [va_wsS] using hw) with rfl | rfl | rfl | rfl
    · exact gw_of (List.mem_of_getElem? (i := 1208) (by decide +kernel)) (by decide +kernel)
    · exact gw_of (List.mem_of_getElem? (i := 1209) (by decide +kernel)) (by decide +kernel)
    · exact gw_of (List.mem_of_getElem? (i := 56) (by decide +kernel)) (by decide +kernel)
    · exact gw_of (List.mem_of_getElem? (i := 1210) (by decide +kernel)) (by decide +kernel), by decide, by decide, by decide +kernel⟩
theorem lkX11_279 : LkS RX11 279 yX11_isBar cX11_isBar 1 (some .boolean) 1 :=
  ⟨fun w hw => by
    rcases (show w = _ ∨ w = _ ∨ w = _ ∨ w = _ by simpa [va_wsS] using hw) with rfl | rfl | rfl | rfl
    · exact gw_of (List.mem_of_getElem? (i := 1196) (by decide +kernel)) (by decide +kernel)
    · exact gw_of (List.mem_of_getElem? (i := 1197) (by decide +kernel)) (by decide +kernel)
    · exact gw_of (List.mem_of_getElem? (i := 56) (by decide +kernel)) (by decide +kernel)
    · exact gw_of (List.mem_of_getElem? (i := 1198) (by decide +kernel)) (by decide +kernel), by decide, by decide, by decide +kernel⟩
theorem lkX11_282 : LkV RX11 282 RX11 yX11_find cX11_find 8 (some .int) 2 :=
  ⟨fun w hw => by
    rcases (show w = _ ∨ w = _ ∨ w = _ ∨ w = _ ∨ w = _ by simpa [wsV] using hw) with rfl | rfl | rfl | rfl | rfl
    · exact gw_of (List.mem_of_getElem? (i := 1199) (by decide +kernel)) (by decide +kernel)
    · exact gw_of (List.mem_of_getElem? (i := 1201) (by decide +kernel)) (by decide +kernel)
    · exact gw_of (List.mem_of_getElem? (i := 40) (by decide +kernel)) (by decide +kernel)
    · exact gw_of (List.mem_of_getElem? (i := 56) (by decide +kernel)) (by decide +kernel)
    · exact gw_of (List.mem_of_getElem? (i := 1202) (by decide +kernel)) (by decide +kernel), rfl, by decide, by decide, by decide +kernel⟩
theorem lkX11_286 : LkV RX11 286 RX11 yX11_change cX11_change 10 (some .int) 5 :=
  ⟨fun w hw => by
    rcases (show w = _ ∨ w = _ ∨ w = _ ∨ w = _ ∨ w = _ by simpa [wsV] using hw) with rfl | rfl | rfl | rfl | rfl
    · exact gw_of (List.mem_of_getElem? (i := 1227) (by decide +kernel)) (by decide +kernel)
    · exact gw_of (List.mem_of_getElem? (i := 1229) (by decide +kernel)) (by decide +kernel)
    · exact gw_of (List.mem_of_getElem? (i := 44) (by decide +kernel)) (by decide +kernel)
    · exact gw_of (List.mem_of_getElem? (i := 56) (by decide +kernel)) (by decide +kernel)
    · exact gw_of (List.mem_of_getElem? (i := 1230) (by decide +kernel)) (by decide +kernel), rfl, by decide, by decide, by decide +kernel⟩
theorem lkX11_290 : LkV RX11 290 RX11 yX11_sum cX11_sum 8 (some .int) 1 :=
  ⟨fun w hw => by
    rcases (show w = _ ∨ w = _ ∨ w = _ ∨ w = _ ∨ w = _ by simpa [wsV] using hw) with rfl | rfl | rfl | rfl | rfl
    · exact gw_of (List.mem_of_getElem? (i := 1223) (by decide +kernel)) (by decide +kernel)
    · exact gw_of (List.mem_of_getElem? (i := 1225) (by decide +kernel)) (by decide +kernel)
    · exact gw_of (List.mem_of_getElem? (i := 43) (by decide +kernel)) (by decide +kernel)
    · exact gw_of (List.mem_of_getElem? (i := 56) (by decide +kernel)) (by decide +kernel)
    · exact gw_of (List.mem_of_getElem? (i := 1226) (by decide +kernel)) (by decide +kernel), rfl, by decide, by decide, by decide +kernel⟩
theorem lkX11_293 : LkV RX11 293 RX11 yX11_plays cX11_plays 6 none 2 :=
  ⟨fun w hw => by
    rcases (show w = _ ∨ w = _ ∨ w = _ ∨ w = _ ∨ w = _ by simpa [wsV] using hw) with rfl | rfl | rfl | rfl | rfl
    · exact gw_of (List.mem_of_getElem? (i := 1231) (by decide +kernel)) (by decide +kernel)
    · exact gw_of (List.mem_of_getElem? (i := 1233) (by decide +kernel)) (by decide +kernel)
    · exact gw_of (List.mem_of_getElem? (i := 45) (by decide +kernel)) (by decide +kernel)
    · exact gw_of (List.mem_of_getElem? (i := 56) (by decide +kernel)) (by decide +kernel)
    · exact gw_of (List.mem_of_getElem? (i := 1234) (by decide +kernel)) (by decide +kernel), rfl, by decide, by decide, by decide +kernel⟩
abbrev sM : Type := (Nat → Int) × (Nat → Int → Int)
/-- the reference's cells: the object at ad 0, its rows at ad k, k the field's number -/
def wM (ad : Nat → Nat) (cI : ClassId) (u : sM) : va_W := [(ad 0, .inr (8, [.int (iZ (u.1 0)), .ref (ad 1), .int (iZ (u.1 2)), .int (iZ (u.1 3)), .int (iZ (u.1 4)), .int (iZ (u.1 5)), .int (iZ (u.1 6)), .int (iZ (u.1 7)), .int (iZ (u.1 8)), .int (iZ (u.1 9)), .int (iZ (u.1 10)), .ref (ad 11), .ref (ad 12), .ref (ad 13), .ref (ad 14), .ref (ad 15), .ref (ad 16), .ref (ad 17), .ref (ad 18), .ref (ad 19), .ref (ad 20), .int (iZ (u.1 21)), .int (iZ (u.1 22)), .ref (ad 23), .ref (ad 24), .ref (ad 25), .int (iZ (u.1 26)), .int (iZ (u.1 27)), .int (iZ (u.1 28)), .int (iZ (u.1 29)), .int (iZ (u.1 30)), .int (iZ (u.1 31)), .ref (ad 32), .int (iZ (u.1 33)), .ref (ad 34), .ref (ad 35), .int (iZ (u.1 36)), .int (iZ (u.1 37)), .ref (ad 38), .ref (ad 39), .ref (ad 40), .ref (ad 41), .ref (ad 42), .ref (ad 43), .ref (ad 44)])), (ad 1, .inl (cI, 1200, .inl (zrow (u.2 1)))), (ad 11, .inl (cI, 61, .inl (zrow (u.2 11)))), (ad 12, .inl (cI, 61, .inl (zrow (u.2 12)))), (ad 13, .inl (cI, 61, .inl (zrow (u.2 13)))), (ad 14, .inl (cI, 61, .inl (zrow (u.2 14)))), (ad 15, .inl (cI, 61, .inl (zrow (u.2 15)))), (ad 16, .inl (cI, 61, .inl (zrow (u.2 16)))), (ad 17, .inl (cI, 61, .inl (zrow (u.2 17)))), (ad 18, .inl (cI, 61, .inl (zrow (u.2 18)))), (ad 19, .inl (cI, 1200, .inl (zrow (u.2 19)))), (ad 20, .inl (cI, 1200, .inl (zrow (u.2 20)))), (ad 23, .inl (cI, 6, .inl (zrow (u.2 23)))), (ad 24, .inl (cI, 60, .inl (zrow (u.2 24)))), (ad 25, .inl (cI, 4000, .inl (zrow (u.2 25)))), (ad 32, .inl (cI, 16, .inl (zrow (u.2 32)))), (ad 34, .inl (cI, 4000, .inl (zrow (u.2 34)))), (ad 35, .inl (cI, 4000, .inl (zrow (u.2 35)))), (ad 38, .inl (cI, 480, .inl (zrow (u.2 38)))), (ad 39, .inl (cI, 17280, .inl (zrow (u.2 39)))), (ad 40, .inl (cI, 2880, .inl (zrow (u.2 40)))), (ad 41, .inl (cI, 6, .inl (zrow (u.2 41)))), (ad 42, .inl (cI, 7, .inl (zrow (u.2 42)))), (ad 43, .inl (cI, 7, .inl (zrow (u.2 43)))), (ad 44, .inl (cI, 360, .inl (zrow (u.2 44))))]
section MROWS
variable {l : Launch} {R : Room} {cc : ByteArray} {nL : Nat} {rt : Option FieldType} {D : va_G} {cI : ClassId} {ad : Nat → Nat} {O : OT} {post : Option Value → sM → Prop} {X : CtxT} {J : KT sM}
variable {pc : Nat} {lv : List (Option Value)} {st : List Value} {I : Nat → Int} {A : Nat → Int → Int}
theorem kX11_89 : Cond.fieldLink RX11 89 "ChordMoverModel" "thrown" "I" ∈ gw := gw_of (List.mem_of_getElem? (i := 901) (by decide +kernel)) (by decide +kernel)
theorem mg0 (hJ : Snd l R cc nL RX11 rt D [(cI, .int)] O (wM ad cI) post X J) (d : decode cc pc = .ok (.getfield 89, 3)) (k : J (pc + 3) lv (.int (iZ (I 0)) :: st) (I, A)) : J pc lv (.ref (ad 0) :: st) (I, A) := v_getf (q0 := 0) (ci := 8) (fk := 0) (v := .int (iZ (I 0))) hJ rfl rfl inX11g (by decide) kX11_89 rfl d k
theorem mp0 (hJ : Snd l R cc nL RX11 rt D [(cI, .int)] O (wM ad cI) post X J) {x : Int} (d : decode cc pc = .ok (.putfield 89, 3)) (k : J (pc + 3) lv st (va_up I 0 x, A)) : J pc lv (.int (iZ x) :: .ref (ad 0) :: st) (I, A) := v_putf (q0 := 0) (ci := 8) (fk := 0) hJ rfl rfl inX11g tyX11_ok nmX11 (by decide) kX11_89 rfl rfl rfl (Nat.le_of_ble_eq_true rfl) rfl d k
theorem kX11_7 : Cond.fieldLink RX11 7 "ChordMoverModel" "tape" "[I" ∈ gw := gw_of (List.mem_of_getElem? (i := 902) (by decide +kernel)) (by decide +kernel)
theorem mg1 (hJ : Snd l R cc nL RX11 rt D [(cI, .int)] O (wM ad cI) post X J) (d : decode cc pc = .ok (.getfield 7, 3)) (k : J (pc + 3) lv (.ref (ad 1) :: st) (I, A)) : J pc lv (.ref (ad 0) :: st) (I, A) := v_getf (q0 := 0) (ci := 8) (fk := 1) (v := .ref (ad 1)) hJ rfl rfl inX11g (by decide) kX11_7 rfl d k
theorem kX11_92 : Cond.fieldLink RX11 92 "ChordMoverModel" "taped" "I" ∈ gw := gw_of (List.mem_of_getElem? (i := 903) (by decide +kernel)) (by decide +kernel)
theorem mg2 (hJ : Snd l R cc nL RX11 rt D [(cI, .int)] O (wM ad cI) post X J) (d : decode cc pc = .ok (.getfield 92, 3)) (k : J (pc + 3) lv (.int (iZ (I 2)) :: st) (I, A)) : J pc lv (.ref (ad 0) :: st) (I, A) := v_getf (q0 := 0) (ci := 8) (fk := 2) (v := .int (iZ (I 2))) hJ rfl rfl inX11g (by decide) kX11_92 rfl d k
theorem mp2 (hJ : Snd l R cc nL RX11 rt D [(cI, .int)] O (wM ad cI) post X J) {x : Int} (d : decode cc pc = .ok (.putfield 92, 3)) (k : J (pc + 3) lv st (va_up I 2 x, A)) : J pc lv (.int (iZ x) :: .ref (ad 0) :: st) (I, A) := v_putf (q0 := 0) (ci := 8) (fk := 2) hJ rfl rfl inX11g tyX11_ok nmX11 (by decide) kX11_92 rfl rfl rfl (Nat.le_of_ble_eq_true rfl) rfl d k
theorem kX11_137 : Cond.fieldLink RX11 137 "ChordMoverModel" "faultKind" "I" ∈ gw := gw_of (List.mem_of_getElem? (i := 904) (by decide +kernel)) (by decide +kernel)
theorem mg3 (hJ : Snd l R cc nL RX11 rt D [(cI, .int)] O (wM ad cI) post X J) (d : decode cc pc = .ok (.getfield 137, 3)) (k : J (pc + 3) lv (.int (iZ (I 3)) :: st) (I, A)) : J pc lv (.ref (ad 0) :: st) (I, A) := v_getf (q0 := 0) (ci := 8) (fk := 3) (v := .int (iZ (I 3))) hJ rfl rfl inX11g (by decide) kX11_137 rfl d k
theorem mp3 (hJ : Snd l R cc nL RX11 rt D [(cI, .int)] O (wM ad cI) post X J) {x : Int} (d : decode cc pc = .ok (.putfield 137, 3)) (k : J (pc + 3) lv st (va_up I 3 x, A)) : J pc lv (.int (iZ x) :: .ref (ad 0) :: st) (I, A) := v_putf (q0 := 0) (ci := 8) (fk := 3) hJ rfl rfl inX11g tyX11_ok nmX11 (by decide) kX11_137 rfl rfl rfl (Nat.le_of_ble_eq_true rfl) rfl d k
theorem kX11_13 : Cond.fieldLink RX11 13 "ChordMoverModel" "faultPlace" "I" ∈ gw := gw_of (List.mem_of_getElem? (i := 905) (by decide +kernel)) (by decide +kernel)
theorem mg4 (hJ : Snd l R cc nL RX11 rt D [(cI, .int)] O (wM ad cI) post X J) (d : decode cc pc = .ok (.getfield 13, 3)) (k : J (pc + 3) lv (.int (iZ (I 4)) :: st) (I, A)) : J pc lv (.ref (ad 0) :: st) (I, A) := v_getf (q0 := 0) (ci := 8) (fk := 4) (v := .int (iZ (I 4))) hJ rfl rfl inX11g (by decide) kX11_13 rfl d k
theorem mp4 (hJ : Snd l R cc nL RX11 rt D [(cI, .int)] O (wM ad cI) post X J) {x : Int} (d : decode cc pc = .ok (.putfield 13, 3)) (k : J (pc + 3) lv st (va_up I 4 x, A)) : J pc lv (.int (iZ x) :: .ref (ad 0) :: st) (I, A) := v_putf (q0 := 0) (ci := 8) (fk := 4) hJ rfl rfl inX11g tyX11_ok nmX11 (by decide) kX11_13 rfl rfl rfl (Nat.le_of_ble_eq_true rfl) rfl d k
theorem kX11_206 : Cond.fieldLink RX11 206 "ChordMoverModel" "isSong" "Z" ∈ gw := gw_of (List.mem_of_getElem? (i := 906) (by decide +kernel)) (by decide +kernel)
theorem mg5 (hJ : Snd l R cc nL RX11 rt D [(cI, .int)] O (wM ad cI) post X J) (d : decode cc pc = .ok (.getfield 206, 3)) (k : J (pc + 3) lv (.int (iZ (I 5)) :: st) (I, A)) : J pc lv (.ref (ad 0) :: st) (I, A) := v_getf (q0 := 0) (ci := 8) (fk := 5) (v := .int (iZ (I 5))) hJ rfl rfl inX11g (by decide) kX11_206 rfl d k
theorem mp5 (hJ : Snd l R cc nL RX11 rt D [(cI, .int)] O (wM ad cI) post X J) (d : decode cc pc = .ok (.putfield 206, 3)) (k : J (pc + 3) lv st (va_up I 5 1, A)) : J pc lv (.int (iZ 1) :: .ref (ad 0) :: st) (I, A) := v_putf (q0 := 0) (ci := 8) (fk := 5) hJ rfl rfl inX11g tyX11_ok nmX11 (by decide) kX11_206 rfl rfl rfl (Nat.le_of_ble_eq_true rfl) rfl d k
theorem kX11_197 : Cond.fieldLink RX11 197 "ChordMoverModel" "chords" "I" ∈ gw := gw_of (List.mem_of_getElem? (i := 907) (by decide +kernel)) (by decide +kernel)
theorem mg6 (hJ : Snd l R cc nL RX11 rt D [(cI, .int)] O (wM ad cI) post X J) (d : decode cc pc = .ok (.getfield 197, 3)) (k : J (pc + 3) lv (.int (iZ (I 6)) :: st) (I, A)) : J pc lv (.ref (ad 0) :: st) (I, A) := v_getf (q0 := 0) (ci := 8) (fk := 6) (v := .int (iZ (I 6))) hJ rfl rfl inX11g (by decide) kX11_197 rfl d k
theorem mp6 (hJ : Snd l R cc nL RX11 rt D [(cI, .int)] O (wM ad cI) post X J) {x : Int} (d : decode cc pc = .ok (.putfield 197, 3)) (k : J (pc + 3) lv st (va_up I 6 x, A)) : J pc lv (.int (iZ x) :: .ref (ad 0) :: st) (I, A) := v_putf (q0 := 0) (ci := 8) (fk := 6) hJ rfl rfl inX11g tyX11_ok nmX11 (by decide) kX11_197 rfl rfl rfl (Nat.le_of_ble_eq_true rfl) rfl d k
theorem kX11_200 : Cond.fieldLink RX11 200 "ChordMoverModel" "lines" "I" ∈ gw := gw_of (List.mem_of_getElem? (i := 908) (by decide +kernel)) (by decide +kernel)
theorem mg7 (hJ : Snd l R cc nL RX11 rt D [(cI, .int)] O (wM ad cI) post X J) (d : decode cc pc = .ok (.getfield 200, 3)) (k : J (pc + 3) lv (.int (iZ (I 7)) :: st) (I, A)) : J pc lv (.ref (ad 0) :: st) (I, A) := v_getf (q0 := 0) (ci := 8) (fk := 7) (v := .int (iZ (I 7))) hJ rfl rfl inX11g (by decide) kX11_200 rfl d k
theorem mp7 (hJ : Snd l R cc nL RX11 rt D [(cI, .int)] O (wM ad cI) post X J) {x : Int} (d : decode cc pc = .ok (.putfield 200, 3)) (k : J (pc + 3) lv st (va_up I 7 x, A)) : J pc lv (.int (iZ x) :: .ref (ad 0) :: st) (I, A) := v_putf (q0 := 0) (ci := 8) (fk := 7) hJ rfl rfl inX11g tyX11_ok nmX11 (by decide) kX11_200 rfl rfl rfl (Nat.le_of_ble_eq_true rfl) rfl d k
theorem kX11_213 : Cond.fieldLink RX11 213 "ChordMoverModel" "key" "I" ∈ gw := gw_of (List.mem_of_getElem? (i := 909) (by decide +kernel)) (by decide +kernel)
theorem mg8 (hJ : Snd l R cc nL RX11 rt D [(cI, .int)] O (wM ad cI) post X J) (d : decode cc pc = .ok (.getfield 213, 3)) (k : J (pc + 3) lv (.int (iZ (I 8)) :: st) (I, A)) : J pc lv (.ref (ad 0) :: st) (I, A) := v_getf (q0 := 0) (ci := 8) (fk := 8) (v := .int (iZ (I 8))) hJ rfl rfl inX11g (by decide) kX11_213 rfl d k
theorem mp8 (hJ : Snd l R cc nL RX11 rt D [(cI, .int)] O (wM ad cI) post X J) {x : Int} (d : decode cc pc = .ok (.putfield 213, 3)) (k : J (pc + 3) lv st (va_up I 8 x, A)) : J pc lv (.int (iZ x) :: .ref (ad 0) :: st) (I, A) := v_putf (q0 := 0) (ci := 8) (fk := 8) hJ rfl rfl inX11g tyX11_ok nmX11 (by decide) kX11_213 rfl rfl rfl (Nat.le_of_ble_eq_true rfl) rfl d k
theorem kX11_264 : Cond.fieldLink RX11 264 "ChordMoverModel" "strings" "I" ∈ gw := gw_of (List.mem_of_getElem? (i := 910) (by decide +kernel)) (by decide +kernel)
theorem mg9 (hJ : Snd l R cc nL RX11 rt D [(cI, .int)] O (wM ad cI) post X J) (d : decode cc pc = .ok (.getfield 264, 3)) (k : J (pc + 3) lv (.int (iZ (I 9)) :: st) (I, A)) : J pc lv (.ref (ad 0) :: st) (I, A) := v_getf (q0 := 0) (ci := 8) (fk := 9) (v := .int (iZ (I 9))) hJ rfl rfl inX11g (by decide) kX11_264 rfl d k
theorem mp9 (hJ : Snd l R cc nL RX11 rt D [(cI, .int)] O (wM ad cI) post X J) {x : Int} (d : decode cc pc = .ok (.putfield 264, 3)) (k : J (pc + 3) lv st (va_up I 9 x, A)) : J pc lv (.int (iZ x) :: .ref (ad 0) :: st) (I, A) := v_putf (q0 := 0) (ci := 8) (fk := 9) hJ rfl rfl inX11g tyX11_ok nmX11 (by decide) kX11_264 rfl rfl rfl (Nat.le_of_ble_eq_true rfl) rfl d k
theorem kX11_17 : Cond.fieldLink RX11 17 "ChordMoverModel" "playedBar" "I" ∈ gw := gw_of (List.mem_of_getElem? (i := 911) (by decide +kernel)) (by decide +kernel)
theorem mg10 (hJ : Snd l R cc nL RX11 rt D [(cI, .int)] O (wM ad cI) post X J) (d : decode cc pc = .ok (.getfield 17, 3)) (k : J (pc + 3) lv (.int (iZ (I 10)) :: st) (I, A)) : J pc lv (.ref (ad 0) :: st) (I, A) := v_getf (q0 := 0) (ci := 8) (fk := 10) (v := .int (iZ (I 10))) hJ rfl rfl inX11g (by decide) kX11_17 rfl d k
theorem mp10 (hJ : Snd l R cc nL RX11 rt D [(cI, .int)] O (wM ad cI) post X J) {x : Int} (d : decode cc pc = .ok (.putfield 17, 3)) (k : J (pc + 3) lv st (va_up I 10 x, A)) : J pc lv (.int (iZ x) :: .ref (ad 0) :: st) (I, A) := v_putf (q0 := 0) (ci := 8) (fk := 10) hJ rfl rfl inX11g tyX11_ok nmX11 (by decide) kX11_17 rfl rfl rfl (Nat.le_of_ble_eq_true rfl) rfl d k
theorem kX11_20 : Cond.fieldLink RX11 20 "ChordMoverModel" "root" "[I" ∈ gw := gw_of (List.mem_of_getElem? (i := 912) (by decide +kernel)) (by decide +kernel)
theorem mg11 (hJ : Snd l R cc nL RX11 rt D [(cI, .int)] O (wM ad cI) post X J) (d : decode cc pc = .ok (.getfield 20, 3)) (k : J (pc + 3) lv (.ref (ad 11) :: st) (I, A)) : J pc lv (.ref (ad 0) :: st) (I, A) := v_getf (q0 := 0) (ci := 8) (fk := 11) (v := .ref (ad 11)) hJ rfl rfl inX11g (by decide) kX11_20 rfl d k
theorem kX11_23 : Cond.fieldLink RX11 23 "ChordMoverModel" "kind" "[I" ∈ gw := gw_of (List.mem_of_getElem? (i := 913) (by decide +kernel)) (by decide +kernel)
theorem mg12 (hJ : Snd l R cc nL RX11 rt D [(cI, .int)] O (wM ad cI) post X J) (d : decode cc pc = .ok (.getfield 23, 3)) (k : J (pc + 3) lv (.ref (ad 12) :: st) (I, A)) : J pc lv (.ref (ad 0) :: st) (I, A) := v_getf (q0 := 0) (ci := 8) (fk := 12) (v := .ref (ad 12)) hJ rfl rfl inX11g (by decide) kX11_23 rfl d k
theorem kX11_26 : Cond.fieldLink RX11 26 "ChordMoverModel" "bass" "[I" ∈ gw := gw_of (List.mem_of_getElem? (i := 914) (by decide +kernel)) (by decide +kernel)
theorem mg13 (hJ : Snd l R cc nL RX11 rt D [(cI, .int)] O (wM ad cI) post X J) (d : decode cc pc = .ok (.getfield 26, 3)) (k : J (pc + 3) lv (.ref (ad 13) :: st) (I, A)) : J pc lv (.ref (ad 0) :: st) (I, A) := v_getf (q0 := 0) (ci := 8) (fk := 13) (v := .ref (ad 13)) hJ rfl rfl inX11g (by decide) kX11_26 rfl d k
theorem kX11_29 : Cond.fieldLink RX11 29 "ChordMoverModel" "line" "[I" ∈ gw := gw_of (List.mem_of_getElem? (i := 915) (by decide +kernel)) (by decide +kernel)
theorem mg14 (hJ : Snd l R cc nL RX11 rt D [(cI, .int)] O (wM ad cI) post X J) (d : decode cc pc = .ok (.getfield 29, 3)) (k : J (pc + 3) lv (.ref (ad 14) :: st) (I, A)) : J pc lv (.ref (ad 0) :: st) (I, A) := v_getf (q0 := 0) (ci := 8) (fk := 14) (v := .ref (ad 14)) hJ rfl rfl inX11g (by decide) kX11_29 rfl d k
theorem kX11_32 : Cond.fieldLink RX11 32 "ChordMoverModel" "newRoot" "[I" ∈ gw := gw_of (List.mem_of_getElem? (i := 916) (by decide +kernel)) (by decide +kernel)
theorem mg15 (hJ : Snd l R cc nL RX11 rt D [(cI, .int)] O (wM ad cI) post X J) (d : decode cc pc = .ok (.getfield 32, 3)) (k : J (pc + 3) lv (.ref (ad 15) :: st) (I, A)) : J pc lv (.ref (ad 0) :: st) (I, A) := v_getf (q0 := 0) (ci := 8) (fk := 15) (v := .ref (ad 15)) hJ rfl rfl inX11g (by decide) kX11_32 rfl d k
theorem kX11_35 : Cond.fieldLink RX11 35 "ChordMoverModel" "newKind" "[I" ∈ gw := gw_of (List.mem_of_getElem? (i := 917) (by decide +kernel)) (by decide +kernel)
theorem mg16 (hJ : Snd l R cc nL RX11 rt D [(cI, .int)] O (wM ad cI) post X J) (d : decode cc pc = .ok (.getfield 35, 3)) (k : J (pc + 3) lv (.ref (ad 16) :: st) (I, A)) : J pc lv (.ref (ad 0) :: st) (I, A) := v_getf (q0 := 0) (ci := 8) (fk := 16) (v := .ref (ad 16)) hJ rfl rfl inX11g (by decide) kX11_35 rfl d k
theorem kX11_38 : Cond.fieldLink RX11 38 "ChordMoverModel" "newBass" "[I" ∈ gw := gw_of (List.mem_of_getElem? (i := 918) (by decide +kernel)) (by decide +kernel)
theorem mg17 (hJ : Snd l R cc nL RX11 rt D [(cI, .int)] O (wM ad cI) post X J) (d : decode cc pc = .ok (.getfield 38, 3)) (k : J (pc + 3) lv (.ref (ad 17) :: st) (I, A)) : J pc lv (.ref (ad 0) :: st) (I, A) := v_getf (q0 := 0) (ci := 8) (fk := 17) (v := .ref (ad 17)) hJ rfl rfl inX11g (by decide) kX11_38 rfl d k
theorem kX11_41 : Cond.fieldLink RX11 41 "ChordMoverModel" "newLine" "[I" ∈ gw := gw_of (List.mem_of_getElem? (i := 919) (by decide +kernel)) (by decide +kernel)
theorem mg18 (hJ : Snd l R cc nL RX11 rt D [(cI, .int)] O (wM ad cI) post X J) (d : decode cc pc = .ok (.getfield 41, 3)) (k : J (pc + 3) lv (.ref (ad 18) :: st) (I, A)) : J pc lv (.ref (ad 0) :: st) (I, A) := v_getf (q0 := 0) (ci := 8) (fk := 18) (v := .ref (ad 18)) hJ rfl rfl inX11g (by decide) kX11_41 rfl d k
theorem kX11_44 : Cond.fieldLink RX11 44 "ChordMoverModel" "song" "[I" ∈ gw := gw_of (List.mem_of_getElem? (i := 920) (by decide +kernel)) (by decide +kernel)
theorem mg19 (hJ : Snd l R cc nL RX11 rt D [(cI, .int)] O (wM ad cI) post X J) (d : decode cc pc = .ok (.getfield 44, 3)) (k : J (pc + 3) lv (.ref (ad 19) :: st) (I, A)) : J pc lv (.ref (ad 0) :: st) (I, A) := v_getf (q0 := 0) (ci := 8) (fk := 19) (v := .ref (ad 19)) hJ rfl rfl inX11g (by decide) kX11_44 rfl d k
theorem kX11_47 : Cond.fieldLink RX11 47 "ChordMoverModel" "newSong" "[I" ∈ gw := gw_of (List.mem_of_getElem? (i := 921) (by decide +kernel)) (by decide +kernel)
theorem mg20 (hJ : Snd l R cc nL RX11 rt D [(cI, .int)] O (wM ad cI) post X J) (d : decode cc pc = .ok (.getfield 47, 3)) (k : J (pc + 3) lv (.ref (ad 20) :: st) (I, A)) : J pc lv (.ref (ad 0) :: st) (I, A) := v_getf (q0 := 0) (ci := 8) (fk := 20) (v := .ref (ad 20)) hJ rfl rfl inX11g (by decide) kX11_47 rfl d k
theorem kX11_203 : Cond.fieldLink RX11 203 "ChordMoverModel" "size" "I" ∈ gw := gw_of (List.mem_of_getElem? (i := 922) (by decide +kernel)) (by decide +kernel)
theorem mg21 (hJ : Snd l R cc nL RX11 rt D [(cI, .int)] O (wM ad cI) post X J) (d : decode cc pc = .ok (.getfield 203, 3)) (k : J (pc + 3) lv (.int (iZ (I 21)) :: st) (I, A)) : J pc lv (.ref (ad 0) :: st) (I, A) := v_getf (q0 := 0) (ci := 8) (fk := 21) (v := .int (iZ (I 21))) hJ rfl rfl inX11g (by decide) kX11_203 rfl d k
theorem mp21 (hJ : Snd l R cc nL RX11 rt D [(cI, .int)] O (wM ad cI) post X J) {x : Int} (d : decode cc pc = .ok (.putfield 203, 3)) (k : J (pc + 3) lv st (va_up I 21 x, A)) : J pc lv (.int (iZ x) :: .ref (ad 0) :: st) (I, A) := v_putf (q0 := 0) (ci := 8) (fk := 21) hJ rfl rfl inX11g tyX11_ok nmX11 (by decide) kX11_203 rfl rfl rfl (Nat.le_of_ble_eq_true rfl) rfl d k
theorem kX11_184 : Cond.fieldLink RX11 184 "ChordMoverModel" "newSize" "I" ∈ gw := gw_of (List.mem_of_getElem? (i := 923) (by decide +kernel)) (by decide +kernel)
theorem mg22 (hJ : Snd l R cc nL RX11 rt D [(cI, .int)] O (wM ad cI) post X J) (d : decode cc pc = .ok (.getfield 184, 3)) (k : J (pc + 3) lv (.int (iZ (I 22)) :: st) (I, A)) : J pc lv (.ref (ad 0) :: st) (I, A) := v_getf (q0 := 0) (ci := 8) (fk := 22) (v := .int (iZ (I 22))) hJ rfl rfl inX11g (by decide) kX11_184 rfl d k
theorem mp22 (hJ : Snd l R cc nL RX11 rt D [(cI, .int)] O (wM ad cI) post X J) {x : Int} (d : decode cc pc = .ok (.putfield 184, 3)) (k : J (pc + 3) lv st (va_up I 22 x, A)) : J pc lv (.int (iZ x) :: .ref (ad 0) :: st) (I, A) := v_putf (q0 := 0) (ci := 8) (fk := 22) hJ rfl rfl inX11g tyX11_ok nmX11 (by decide) kX11_184 rfl rfl rfl (Nat.le_of_ble_eq_true rfl) rfl d k
theorem kX11_50 : Cond.fieldLink RX11 50 "ChordMoverModel" "pitch" "[I" ∈ gw := gw_of (List.mem_of_getElem? (i := 924) (by decide +kernel)) (by decide +kernel)
theorem mg23 (hJ : Snd l R cc nL RX11 rt D [(cI, .int)] O (wM ad cI) post X J) (d : decode cc pc = .ok (.getfield 50, 3)) (k : J (pc + 3) lv (.ref (ad 23) :: st) (I, A)) : J pc lv (.ref (ad 0) :: st) (I, A) := v_getf (q0 := 0) (ci := 8) (fk := 23) (v := .ref (ad 23)) hJ rfl rfl inX11g (by decide) kX11_50 rfl d k
theorem kX11_53 : Cond.fieldLink RX11 53 "ChordMoverModel" "played" "[I" ∈ gw := gw_of (List.mem_of_getElem? (i := 925) (by decide +kernel)) (by decide +kernel)
theorem mg24 (hJ : Snd l R cc nL RX11 rt D [(cI, .int)] O (wM ad cI) post X J) (d : decode cc pc = .ok (.getfield 53, 3)) (k : J (pc + 3) lv (.ref (ad 24) :: st) (I, A)) : J pc lv (.ref (ad 0) :: st) (I, A) := v_getf (q0 := 0) (ci := 8) (fk := 24) (v := .ref (ad 24)) hJ rfl rfl inX11g (by decide) kX11_53 rfl d k
theorem kX11_56 : Cond.fieldLink RX11 56 "ChordMoverModel" "out" "[I" ∈ gw := gw_of (List.mem_of_getElem? (i := 926) (by decide +kernel)) (by decide +kernel)
theorem mg25 (hJ : Snd l R cc nL RX11 rt D [(cI, .int)] O (wM ad cI) post X J) (d : decode cc pc = .ok (.getfield 56, 3)) (k : J (pc + 3) lv (.ref (ad 25) :: st) (I, A)) : J pc lv (.ref (ad 0) :: st) (I, A) := v_getf (q0 := 0) (ci := 8) (fk := 25) (v := .ref (ad 25)) hJ rfl rfl inX11g (by decide) kX11_56 rfl d k
theorem kX11_237 : Cond.fieldLink RX11 237 "ChordMoverModel" "outs" "I" ∈ gw := gw_of (List.mem_of_getElem? (i := 927) (by decide +kernel)) (by decide +kernel)
theorem mg26 (hJ : Snd l R cc nL RX11 rt D [(cI, .int)] O (wM ad cI) post X J) (d : decode cc pc = .ok (.getfield 237, 3)) (k : J (pc + 3) lv (.int (iZ (I 26)) :: st) (I, A)) : J pc lv (.ref (ad 0) :: st) (I, A) := v_getf (q0 := 0) (ci := 8) (fk := 26) (v := .int (iZ (I 26))) hJ rfl rfl inX11g (by decide) kX11_237 rfl d k
theorem mp26 (hJ : Snd l R cc nL RX11 rt D [(cI, .int)] O (wM ad cI) post X J) {x : Int} (d : decode cc pc = .ok (.putfield 237, 3)) (k : J (pc + 3) lv st (va_up I 26 x, A)) : J pc lv (.int (iZ x) :: .ref (ad 0) :: st) (I, A) := v_putf (q0 := 0) (ci := 8) (fk := 26) hJ rfl rfl inX11g tyX11_ok nmX11 (by decide) kX11_237 rfl rfl rfl (Nat.le_of_ble_eq_true rfl) rfl d k
theorem kX11_140 : Cond.fieldLink RX11 140 "ChordMoverModel" "at" "I" ∈ gw := gw_of (List.mem_of_getElem? (i := 928) (by decide +kernel)) (by decide +kernel)
theorem mg27 (hJ : Snd l R cc nL RX11 rt D [(cI, .int)] O (wM ad cI) post X J) (d : decode cc pc = .ok (.getfield 140, 3)) (k : J (pc + 3) lv (.int (iZ (I 27)) :: st) (I, A)) : J pc lv (.ref (ad 0) :: st) (I, A) := v_getf (q0 := 0) (ci := 8) (fk := 27) (v := .int (iZ (I 27))) hJ rfl rfl inX11g (by decide) kX11_140 rfl d k
theorem mp27 (hJ : Snd l R cc nL RX11 rt D [(cI, .int)] O (wM ad cI) post X J) {x : Int} (d : decode cc pc = .ok (.putfield 140, 3)) (k : J (pc + 3) lv st (va_up I 27 x, A)) : J pc lv (.int (iZ x) :: .ref (ad 0) :: st) (I, A) := v_putf (q0 := 0) (ci := 8) (fk := 27) hJ rfl rfl inX11g tyX11_ok nmX11 (by decide) kX11_140 rfl rfl rfl (Nat.le_of_ble_eq_true rfl) rfl d k
theorem kX11_134 : Cond.fieldLink RX11 134 "ChordMoverModel" "end" "I" ∈ gw := gw_of (List.mem_of_getElem? (i := 929) (by decide +kernel)) (by decide +kernel)
theorem mg28 (hJ : Snd l R cc nL RX11 rt D [(cI, .int)] O (wM ad cI) post X J) (d : decode cc pc = .ok (.getfield 134, 3)) (k : J (pc + 3) lv (.int (iZ (I 28)) :: st) (I, A)) : J pc lv (.ref (ad 0) :: st) (I, A) := v_getf (q0 := 0) (ci := 8) (fk := 28) (v := .int (iZ (I 28))) hJ rfl rfl inX11g (by decide) kX11_134 rfl d k
theorem mp28 (hJ : Snd l R cc nL RX11 rt D [(cI, .int)] O (wM ad cI) post X J) {x : Int} (d : decode cc pc = .ok (.putfield 134, 3)) (k : J (pc + 3) lv st (va_up I 28 x, A)) : J pc lv (.int (iZ x) :: .ref (ad 0) :: st) (I, A) := v_putf (q0 := 0) (ci := 8) (fk := 28) hJ rfl rfl inX11g tyX11_ok nmX11 (by decide) kX11_134 rfl rfl rfl (Nat.le_of_ble_eq_true rfl) rfl d k
theorem kX11_153 : Cond.fieldLink RX11 153 "ChordMoverModel" "note" "I" ∈ gw := gw_of (List.mem_of_getElem? (i := 930) (by decide +kernel)) (by decide +kernel)
theorem mg29 (hJ : Snd l R cc nL RX11 rt D [(cI, .int)] O (wM ad cI) post X J) (d : decode cc pc = .ok (.getfield 153, 3)) (k : J (pc + 3) lv (.int (iZ (I 29)) :: st) (I, A)) : J pc lv (.ref (ad 0) :: st) (I, A) := v_getf (q0 := 0) (ci := 8) (fk := 29) (v := .int (iZ (I 29))) hJ rfl rfl inX11g (by decide) kX11_153 rfl d k
theorem mp29 (hJ : Snd l R cc nL RX11 rt D [(cI, .int)] O (wM ad cI) post X J) {x : Int} (d : decode cc pc = .ok (.putfield 153, 3)) (k : J (pc + 3) lv st (va_up I 29 x, A)) : J pc lv (.int (iZ x) :: .ref (ad 0) :: st) (I, A) := v_putf (q0 := 0) (ci := 8) (fk := 29) hJ rfl rfl inX11g tyX11_ok nmX11 (by decide) kX11_153 rfl rfl rfl (Nat.le_of_ble_eq_true rfl) rfl d k
theorem kX11_170 : Cond.fieldLink RX11 170 "ChordMoverModel" "chordsRead" "I" ∈ gw := gw_of (List.mem_of_getElem? (i := 931) (by decide +kernel)) (by decide +kernel)
theorem mg30 (hJ : Snd l R cc nL RX11 rt D [(cI, .int)] O (wM ad cI) post X J) (d : decode cc pc = .ok (.getfield 170, 3)) (k : J (pc + 3) lv (.int (iZ (I 30)) :: st) (I, A)) : J pc lv (.ref (ad 0) :: st) (I, A) := v_getf (q0 := 0) (ci := 8) (fk := 30) (v := .int (iZ (I 30))) hJ rfl rfl inX11g (by decide) kX11_170 rfl d k
theorem mp30 (hJ : Snd l R cc nL RX11 rt D [(cI, .int)] O (wM ad cI) post X J) {x : Int} (d : decode cc pc = .ok (.putfield 170, 3)) (k : J (pc + 3) lv st (va_up I 30 x, A)) : J pc lv (.int (iZ x) :: .ref (ad 0) :: st) (I, A) := v_putf (q0 := 0) (ci := 8) (fk := 30) hJ rfl rfl inX11g tyX11_ok nmX11 (by decide) kX11_170 rfl rfl rfl (Nat.le_of_ble_eq_true rfl) rfl d k
theorem kX11_181 : Cond.fieldLink RX11 181 "ChordMoverModel" "linesRead" "I" ∈ gw := gw_of (List.mem_of_getElem? (i := 932) (by decide +kernel)) (by decide +kernel)
theorem mg31 (hJ : Snd l R cc nL RX11 rt D [(cI, .int)] O (wM ad cI) post X J) (d : decode cc pc = .ok (.getfield 181, 3)) (k : J (pc + 3) lv (.int (iZ (I 31)) :: st) (I, A)) : J pc lv (.ref (ad 0) :: st) (I, A) := v_getf (q0 := 0) (ci := 8) (fk := 31) (v := .int (iZ (I 31))) hJ rfl rfl inX11g (by decide) kX11_181 rfl d k
theorem mp31 (hJ : Snd l R cc nL RX11 rt D [(cI, .int)] O (wM ad cI) post X J) {x : Int} (d : decode cc pc = .ok (.putfield 181, 3)) (k : J (pc + 3) lv st (va_up I 31 x, A)) : J pc lv (.int (iZ x) :: .ref (ad 0) :: st) (I, A) := v_putf (q0 := 0) (ci := 8) (fk := 31) hJ rfl rfl inX11g tyX11_ok nmX11 (by decide) kX11_181 rfl rfl rfl (Nat.le_of_ble_eq_true rfl) rfl d k
theorem kX11_59 : Cond.fieldLink RX11 59 "ChordMoverModel" "name" "[I" ∈ gw := gw_of (List.mem_of_getElem? (i := 933) (by decide +kernel)) (by decide +kernel)
theorem mg32 (hJ : Snd l R cc nL RX11 rt D [(cI, .int)] O (wM ad cI) post X J) (d : decode cc pc = .ok (.getfield 59, 3)) (k : J (pc + 3) lv (.ref (ad 32) :: st) (I, A)) : J pc lv (.ref (ad 0) :: st) (I, A) := v_getf (q0 := 0) (ci := 8) (fk := 32) (v := .ref (ad 32)) hJ rfl rfl inX11g (by decide) kX11_59 rfl d k
theorem kX11_226 : Cond.fieldLink RX11 226 "ChordMoverModel" "nameSize" "I" ∈ gw := gw_of (List.mem_of_getElem? (i := 934) (by decide +kernel)) (by decide +kernel)
theorem mg33 (hJ : Snd l R cc nL RX11 rt D [(cI, .int)] O (wM ad cI) post X J) (d : decode cc pc = .ok (.getfield 226, 3)) (k : J (pc + 3) lv (.int (iZ (I 33)) :: st) (I, A)) : J pc lv (.ref (ad 0) :: st) (I, A) := v_getf (q0 := 0) (ci := 8) (fk := 33) (v := .int (iZ (I 33))) hJ rfl rfl inX11g (by decide) kX11_226 rfl d k
theorem mp33 (hJ : Snd l R cc nL RX11 rt D [(cI, .int)] O (wM ad cI) post X J) {x : Int} (d : decode cc pc = .ok (.putfield 226, 3)) (k : J (pc + 3) lv st (va_up I 33 x, A)) : J pc lv (.int (iZ x) :: .ref (ad 0) :: st) (I, A) := v_putf (q0 := 0) (ci := 8) (fk := 33) hJ rfl rfl inX11g tyX11_ok nmX11 (by decide) kX11_226 rfl rfl rfl (Nat.le_of_ble_eq_true rfl) rfl d k
theorem kX11_62 : Cond.fieldLink RX11 62 "ChordMoverModel" "upper" "[I" ∈ gw := gw_of (List.mem_of_getElem? (i := 935) (by decide +kernel)) (by decide +kernel)
theorem mg34 (hJ : Snd l R cc nL RX11 rt D [(cI, .int)] O (wM ad cI) post X J) (d : decode cc pc = .ok (.getfield 62, 3)) (k : J (pc + 3) lv (.ref (ad 34) :: st) (I, A)) : J pc lv (.ref (ad 0) :: st) (I, A) := v_getf (q0 := 0) (ci := 8) (fk := 34) (v := .ref (ad 34)) hJ rfl rfl inX11g (by decide) kX11_62 rfl d k
theorem kX11_65 : Cond.fieldLink RX11 65 "ChordMoverModel" "lower" "[I" ∈ gw := gw_of (List.mem_of_getElem? (i := 936) (by decide +kernel)) (by decide +kernel)
theorem mg35 (hJ : Snd l R cc nL RX11 rt D [(cI, .int)] O (wM ad cI) post X J) (d : decode cc pc = .ok (.getfield 65, 3)) (k : J (pc + 3) lv (.ref (ad 35) :: st) (I, A)) : J pc lv (.ref (ad 0) :: st) (I, A) := v_getf (q0 := 0) (ci := 8) (fk := 35) (v := .ref (ad 35)) hJ rfl rfl inX11g (by decide) kX11_65 rfl d k
theorem kX11_246 : Cond.fieldLink RX11 246 "ChordMoverModel" "uppers" "I" ∈ gw := gw_of (List.mem_of_getElem? (i := 937) (by decide +kernel)) (by decide +kernel)
theorem mg36 (hJ : Snd l R cc nL RX11 rt D [(cI, .int)] O (wM ad cI) post X J) (d : decode cc pc = .ok (.getfield 246, 3)) (k : J (pc + 3) lv (.int (iZ (I 36)) :: st) (I, A)) : J pc lv (.ref (ad 0) :: st) (I, A) := v_getf (q0 := 0) (ci := 8) (fk := 36) (v := .int (iZ (I 36))) hJ rfl rfl inX11g (by decide) kX11_246 rfl d k
theorem mp36 (hJ : Snd l R cc nL RX11 rt D [(cI, .int)] O (wM ad cI) post X J) {x : Int} (d : decode cc pc = .ok (.putfield 246, 3)) (k : J (pc + 3) lv st (va_up I 36 x, A)) : J pc lv (.int (iZ x) :: .ref (ad 0) :: st) (I, A) := v_putf (q0 := 0) (ci := 8) (fk := 36) hJ rfl rfl inX11g tyX11_ok nmX11 (by decide) kX11_246 rfl rfl rfl (Nat.le_of_ble_eq_true rfl) rfl d k
theorem kX11_249 : Cond.fieldLink RX11 249 "ChordMoverModel" "lowers" "I" ∈ gw := gw_of (List.mem_of_getElem? (i := 938) (by decide +kernel)) (by decide +kernel)
theorem mg37 (hJ : Snd l R cc nL RX11 rt D [(cI, .int)] O (wM ad cI) post X J) (d : decode cc pc = .ok (.getfield 249, 3)) (k : J (pc + 3) lv (.int (iZ (I 37)) :: st) (I, A)) : J pc lv (.ref (ad 0) :: st) (I, A) := v_getf (q0 := 0) (ci := 8) (fk := 37) (v := .int (iZ (I 37))) hJ rfl rfl inX11g (by decide) kX11_249 rfl d k
theorem mp37 (hJ : Snd l R cc nL RX11 rt D [(cI, .int)] O (wM ad cI) post X J) {x : Int} (d : decode cc pc = .ok (.putfield 249, 3)) (k : J (pc + 3) lv st (va_up I 37 x, A)) : J pc lv (.int (iZ x) :: .ref (ad 0) :: st) (I, A) := v_putf (q0 := 0) (ci := 8) (fk := 37) hJ rfl rfl inX11g tyX11_ok nmX11 (by decide) kX11_249 rfl rfl rfl (Nat.le_of_ble_eq_true rfl) rfl d k
theorem kX11_68 : Cond.fieldLink RX11 68 "ChordMoverModel" "handMany" "[I" ∈ gw := gw_of (List.mem_of_getElem? (i := 939) (by decide +kernel)) (by decide +kernel)
theorem mg38 (hJ : Snd l R cc nL RX11 rt D [(cI, .int)] O (wM ad cI) post X J) (d : decode cc pc = .ok (.getfield 68, 3)) (k : J (pc + 3) lv (.ref (ad 38) :: st) (I, A)) : J pc lv (.ref (ad 0) :: st) (I, A) := v_getf (q0 := 0) (ci := 8) (fk := 38) (v := .ref (ad 38)) hJ rfl rfl inX11g (by decide) kX11_68 rfl d k
theorem kX11_71 : Cond.fieldLink RX11 71 "ChordMoverModel" "handFret" "[I" ∈ gw := gw_of (List.mem_of_getElem? (i := 940) (by decide +kernel)) (by decide +kernel)
theorem mg39 (hJ : Snd l R cc nL RX11 rt D [(cI, .int)] O (wM ad cI) post X J) (d : decode cc pc = .ok (.getfield 71, 3)) (k : J (pc + 3) lv (.ref (ad 39) :: st) (I, A)) : J pc lv (.ref (ad 0) :: st) (I, A) := v_getf (q0 := 0) (ci := 8) (fk := 39) (v := .ref (ad 39)) hJ rfl rfl inX11g (by decide) kX11_71 rfl d k
theorem kX11_74 : Cond.fieldLink RX11 74 "ChordMoverModel" "handStrain" "[I" ∈ gw := gw_of (List.mem_of_getElem? (i := 941) (by decide +kernel)) (by decide +kernel)
theorem mg40 (hJ : Snd l R cc nL RX11 rt D [(cI, .int)] O (wM ad cI) post X J) (d : decode cc pc = .ok (.getfield 74, 3)) (k : J (pc + 3) lv (.ref (ad 40) :: st) (I, A)) : J pc lv (.ref (ad 0) :: st) (I, A) := v_getf (q0 := 0) (ci := 8) (fk := 40) (v := .ref (ad 40)) hJ rfl rfl inX11g (by decide) kX11_74 rfl d k
theorem kX11_77 : Cond.fieldLink RX11 77 "ChordMoverModel" "fret" "[I" ∈ gw := gw_of (List.mem_of_getElem? (i := 942) (by decide +kernel)) (by decide +kernel)
theorem mg41 (hJ : Snd l R cc nL RX11 rt D [(cI, .int)] O (wM ad cI) post X J) (d : decode cc pc = .ok (.getfield 77, 3)) (k : J (pc + 3) lv (.ref (ad 41) :: st) (I, A)) : J pc lv (.ref (ad 0) :: st) (I, A) := v_getf (q0 := 0) (ci := 8) (fk := 41) (v := .ref (ad 41)) hJ rfl rfl inX11g (by decide) kX11_77 rfl d k
theorem kX11_80 : Cond.fieldLink RX11 80 "ChordMoverModel" "least" "[I" ∈ gw := gw_of (List.mem_of_getElem? (i := 943) (by decide +kernel)) (by decide +kernel)
theorem mg42 (hJ : Snd l R cc nL RX11 rt D [(cI, .int)] O (wM ad cI) post X J) (d : decode cc pc = .ok (.getfield 80, 3)) (k : J (pc + 3) lv (.ref (ad 42) :: st) (I, A)) : J pc lv (.ref (ad 0) :: st) (I, A) := v_getf (q0 := 0) (ci := 8) (fk := 42) (v := .ref (ad 42)) hJ rfl rfl inX11g (by decide) kX11_80 rfl d k
theorem kX11_83 : Cond.fieldLink RX11 83 "ChordMoverModel" "most" "[I" ∈ gw := gw_of (List.mem_of_getElem? (i := 944) (by decide +kernel)) (by decide +kernel)
theorem mg43 (hJ : Snd l R cc nL RX11 rt D [(cI, .int)] O (wM ad cI) post X J) (d : decode cc pc = .ok (.getfield 83, 3)) (k : J (pc + 3) lv (.ref (ad 43) :: st) (I, A)) : J pc lv (.ref (ad 0) :: st) (I, A) := v_getf (q0 := 0) (ci := 8) (fk := 43) (v := .ref (ad 43)) hJ rfl rfl inX11g (by decide) kX11_83 rfl d k
theorem kX11_86 : Cond.fieldLink RX11 86 "ChordMoverModel" "rest" "[I" ∈ gw := gw_of (List.mem_of_getElem? (i := 945) (by decide +kernel)) (by decide +kernel)
theorem mg44 (hJ : Snd l R cc nL RX11 rt D [(cI, .int)] O (wM ad cI) post X J) (d : decode cc pc = .ok (.getfield 86, 3)) (k : J (pc + 3) lv (.ref (ad 44) :: st) (I, A)) : J pc lv (.ref (ad 0) :: st) (I, A) := v_getf (q0 := 0) (ci := 8) (fk := 44) (v := .ref (ad 44)) hJ rfl rfl inX11g (by decide) kX11_86 rfl d k
theorem ma1 (hJ : Snd l R cc nL RX11 rt D [(cI, .int)] O (wM ad cI) post X J) {i : Int} (h0 : 0 ≤ i) (h1 : i < 1200) (d : decode cc pc = .ok (.iaload, 1)) (k : J (pc + 1) lv (.int (iZ (A 1 i)) :: st) (I, A)) : J pc lv (.int (iZ i) :: .ref (ad 1) :: st) (I, A) := v_iald (q0 := 1) (t0 := 0) (n := 1200) (f := A 1) hJ rfl rfl (by decide) h0 h1 d k
theorem ms1 (hJ : Snd l R cc nL RX11 rt D [(cI, .int)] O (wM ad cI) post X J) {i x : Int} (h0 : 0 ≤ i) (h1 : i < 1200) (d : decode cc pc = .ok (.iastore, 1)) (k : J (pc + 1) lv st (I, va_up A 1 (zu (A 1) i x))) : J pc lv (.int (iZ x) :: .int (iZ i) :: .ref (ad 1) :: st) (I, A) := v_iast (q0 := 1) (t0 := 0) (n := 1200) (f := A 1) hJ rfl rfl (by decide) h0 h1 rfl d k
theorem ma11 (hJ : Snd l R cc nL RX11 rt D [(cI, .int)] O (wM ad cI) post X J) {i : Int} (h0 : 0 ≤ i) (h1 : i < 61) (d : decode cc pc = .ok (.iaload, 1)) (k : J (pc + 1) lv (.int (iZ (A 11 i)) :: st) (I, A)) : J pc lv (.int (iZ i) :: .ref (ad 11) :: st) (I, A) := v_iald (q0 := 2) (t0 := 0) (n := 61) (f := A 11) hJ rfl rfl (by decide) h0 h1 d k
theorem ms11 (hJ : Snd l R cc nL RX11 rt D [(cI, .int)] O (wM ad cI) post X J) {i x : Int} (h0 : 0 ≤ i) (h1 : i < 61) (d : decode cc pc = .ok (.iastore, 1)) (k : J (pc + 1) lv st (I, va_up A 11 (zu (A 11) i x))) : J pc lv (.int (iZ x) :: .int (iZ i) :: .ref (ad 11) :: st) (I, A) := v_iast (q0 := 2) (t0 := 0) (n := 61) (f := A 11) hJ rfl rfl (by decide) h0 h1 rfl d k
theorem ma12 (hJ : Snd l R cc nL RX11 rt D [(cI, .int)] O (wM ad cI) post X J) {i : Int} (h0 : 0 ≤ i) (h1 : i < 61) (d : decode cc pc = .ok (.iaload, 1)) (k : J (pc + 1) lv (.int (iZ (A 12 i)) :: st) (I, A)) : J pc lv (.int (iZ i) :: .ref (ad 12) :: st) (I, A) := v_iald (q0 := 3) (t0 := 0) (n := 61) (f := A 12) hJ rfl rfl (by decide) h0 h1 d k
theorem ms12 (hJ : Snd l R cc nL RX11 rt D [(cI, .int)] O (wM ad cI) post X J) {i x : Int} (h0 : 0 ≤ i) (h1 : i < 61) (d : decode cc pc = .ok (.iastore, 1)) (k : J (pc + 1) lv st (I, va_up A 12 (zu (A 12) i x))) : J pc lv (.int (iZ x) :: .int (iZ i) :: .ref (ad 12) :: st) (I, A) := v_iast (q0 := 3) (t0 := 0) (n := 61) (f := A 12) hJ rfl rfl (by decide) h0 h1 rfl d k
theorem ma13 (hJ : Snd l R cc nL RX11 rt D [(cI, .int)] O (wM ad cI) post X J) {i : Int} (h0 : 0 ≤ i) (h1 : i < 61) (d : decode cc pc = .ok (.iaload, 1)) (k : J (pc + 1) lv (.int (iZ (A 13 i)) :: st) (I, A)) : J pc lv (.int (iZ i) :: .ref (ad 13) :: st) (I, A) := v_iald (q0 := 4) (t0 := 0) (n := 61) (f := A 13) hJ rfl rfl (by decide) h0 h1 d k
theorem ms13 (hJ : Snd l R cc nL RX11 rt D [(cI, .int)] O (wM ad cI) post X J) {i x : Int} (h0 : 0 ≤ i) (h1 : i < 61) (d : decode cc pc = .ok (.iastore, 1)) (k : J (pc + 1) lv st (I, va_up A 13 (zu (A 13) i x))) : J pc lv (.int (iZ x) :: .int (iZ i) :: .ref (ad 13) :: st) (I, A) := v_iast (q0 := 4) (t0 := 0) (n := 61) (f := A 13) hJ rfl rfl (by decide) h0 h1 rfl d k
theorem ma14 (hJ : Snd l R cc nL RX11 rt D [(cI, .int)] O (wM ad cI) post X J) {i : Int} (h0 : 0 ≤ i) (h1 : i < 61) (d : decode cc pc = .ok (.iaload, 1)) (k : J (pc + 1) lv (.int (iZ (A 14 i)) :: st) (I, A)) : J pc lv (.int (iZ i) :: .ref (ad 14) :: st) (I, A) := v_iald (q0 := 5) (t0 := 0) (n := 61) (f := A 14) hJ rfl rfl (by decide) h0 h1 d k
theorem ms14 (hJ : Snd l R cc nL RX11 rt D [(cI, .int)] O (wM ad cI) post X J) {i x : Int} (h0 : 0 ≤ i) (h1 : i < 61) (d : decode cc pc = .ok (.iastore, 1)) (k : J (pc + 1) lv st (I, va_up A 14 (zu (A 14) i x))) : J pc lv (.int (iZ x) :: .int (iZ i) :: .ref (ad 14) :: st) (I, A) := v_iast (q0 := 5) (t0 := 0) (n := 61) (f := A 14) hJ rfl rfl (by decide) h0 h1 rfl d k
theorem ma15 (hJ : Snd l R cc nL RX11 rt D [(cI, .int)] O (wM ad cI) post X J) {i : Int} (h0 : 0 ≤ i) (h1 : i < 61) (d : decode cc pc = .ok (.iaload, 1)) (k : J (pc + 1) lv (.int (iZ (A 15 i)) :: st) (I, A)) : J pc lv (.int (iZ i) :: .ref (ad 15) :: st) (I, A) := v_iald (q0 := 6) (t0 := 0) (n := 61) (f := A 15) hJ rfl rfl (by decide) h0 h1 d k
theorem ms15 (hJ : Snd l R cc nL RX11 rt D [(cI, .int)] O (wM ad cI) post X J) {i x : Int} (h0 : 0 ≤ i) (h1 : i < 61) (d : decode cc pc = .ok (.iastore, 1)) (k : J (pc + 1) lv st (I, va_up A 15 (zu (A 15) i x))) : J pc lv (.int (iZ x) :: .int (iZ i) :: .ref (ad 15) :: st) (I, A) := v_iast (q0 := 6) (t0 := 0) (n := 61) (f := A 15) hJ rfl rfl (by decide) h0 h1 rfl d k
theorem ma16 (hJ : Snd l R cc nL RX11 rt D [(cI, .int)] O (wM ad cI) post X J) {i : Int} (h0 : 0 ≤ i) (h1 : i < 61) (d : decode cc pc = .ok (.iaload, 1)) (k : J (pc + 1) lv (.int (iZ (A 16 i)) :: st) (I, A)) : J pc lv (.int (iZ i) :: .ref (ad 16) :: st) (I, A) := v_iald (q0 := 7) (t0 := 0) (n := 61) (f := A 16) hJ rfl rfl (by decide) h0 h1 d k
theorem ms16 (hJ : Snd l R cc nL RX11 rt D [(cI, .int)] O (wM ad cI) post X J) {i x : Int} (h0 : 0 ≤ i) (h1 : i < 61) (d : decode cc pc = .ok (.iastore, 1)) (k : J (pc + 1) lv st (I, va_up A 16 (zu (A 16) i x))) : J pc lv (.int (iZ x) :: .int (iZ i) :: .ref (ad 16) :: st) (I, A) := v_iast (q0 := 7) (t0 := 0) (n := 61) (f := A 16) hJ rfl rfl (by decide) h0 h1 rfl d k
theorem ma17 (hJ : Snd l R cc nL RX11 rt D [(cI, .int)] O (wM ad cI) post X J) {i : Int} (h0 : 0 ≤ i) (h1 : i < 61) (d : decode cc pc = .ok (.iaload, 1)) (k : J (pc + 1) lv (.int (iZ (A 17 i)) :: st) (I, A)) : J pc lv (.int (iZ i) :: .ref (ad 17) :: st) (I, A) := v_iald (q0 := 8) (t0 := 0) (n := 61) (f := A 17) hJ rfl rfl (by decide) h0 h1 d k
theorem ms17 (hJ : Snd l R cc nL RX11 rt D [(cI, .int)] O (wM ad cI) post X J) {i x : Int} (h0 : 0 ≤ i) (h1 : i < 61) (d : decode cc pc = .ok (.iastore, 1)) (k : J (pc + 1) lv st (I, va_up A 17 (zu (A 17) i x))) : J pc lv (.int (iZ x) :: .int (iZ i) :: .ref (ad 17) :: st) (I, A) := v_iast (q0 := 8) (t0 := 0) (n := 61) (f := A 17) hJ rfl rfl (by decide) h0 h1 rfl d k
theorem ma18 (hJ : Snd l R cc nL RX11 rt D [(cI, .int)] O (wM ad cI) post X J) {i : Int} (h0 : 0 ≤ i) (h1 : i < 61) (d : decode cc pc = .ok (.iaload, 1)) (k : J (pc + 1) lv (.int (iZ (A 18 i)) :: st) (I, A)) : J pc lv (.int (iZ i) :: .ref (ad 18) :: st) (I, A) := v_iald (q0 := 9) (t0 := 0) (n := 61) (f := A 18) hJ rfl rfl (by decide) h0 h1 d k
theorem ms18 (hJ : Snd l R cc nL RX11 rt D [(cI, .int)] O (wM ad cI) post X J) {i x : Int} (h0 : 0 ≤ i) (h1 : i < 61) (d : decode cc pc = .ok (.iastore, 1)) (k : J (pc + 1) lv st (I, va_up A 18 (zu (A 18) i x))) : J pc lv (.int (iZ x) :: .int (iZ i) :: .ref (ad 18) :: st) (I, A) := v_iast (q0 := 9) (t0 := 0) (n := 61) (f := A 18) hJ rfl rfl (by decide) h0 h1 rfl d k
theorem ma19 (hJ : Snd l R cc nL RX11 rt D [(cI, .int)] O (wM ad cI) post X J) {i : Int} (h0 : 0 ≤ i) (h1 : i < 1200) (d : decode cc pc = .ok (.iaload, 1)) (k : J (pc + 1) lv (.int (iZ (A 19 i)) :: st) (I, A)) : J pc lv (.int (iZ i) :: .ref (ad 19) :: st) (I, A) := v_iald (q0 := 10) (t0 := 0) (n := 1200) (f := A 19) hJ rfl rfl (by decide) h0 h1 d k
theorem ms19 (hJ : Snd l R cc nL RX11 rt D [(cI, .int)] O (wM ad cI) post X J) {i x : Int} (h0 : 0 ≤ i) (h1 : i < 1200) (d : decode cc pc = .ok (.iastore, 1)) (k : J (pc + 1) lv st (I, va_up A 19 (zu (A 19) i x))) : J pc lv (.int (iZ x) :: .int (iZ i) :: .ref (ad 19) :: st) (I, A) := v_iast (q0 := 10) (t0 := 0) (n := 1200) (f := A 19) hJ rfl rfl (by decide) h0 h1 rfl d k
theorem ma20 (hJ : Snd l R cc nL RX11 rt D [(cI, .int)] O (wM ad cI) post X J) {i : Int} (h0 : 0 ≤ i) (h1 : i < 1200) (d : decode cc pc = .ok (.iaload, 1)) (k : J (pc + 1) lv (.int (iZ (A 20 i)) :: st) (I, A)) : J pc lv (.int (iZ i) :: .ref (ad 20) :: st) (I, A) := v_iald (q0 := 11) (t0 := 0) (n := 1200) (f := A 20) hJ rfl rfl (by decide) h0 h1 d k
theorem ms20 (hJ : Snd l R cc nL RX11 rt D [(cI, .int)] O (wM ad cI) post X J) {i x : Int} (h0 : 0 ≤ i) (h1 : i < 1200) (d : decode cc pc = .ok (.iastore, 1)) (k : J (pc + 1) lv st (I, va_up A 20 (zu (A 20) i x))) : J pc lv (.int (iZ x) :: .int (iZ i) :: .ref (ad 20) :: st) (I, A) := v_iast (q0 := 11) (t0 := 0) (n := 1200) (f := A 20) hJ rfl rfl (by decide) h0 h1 rfl d k
theorem ma23 (hJ : Snd l R cc nL RX11 rt D [(cI, .int)] O (wM ad cI) post X J) {i : Int} (h0 : 0 ≤ i) (h1 : i < 6) (d : decode cc pc = .ok (.iaload, 1)) (k : J (pc + 1) lv (.int (iZ (A 23 i)) :: st) (I, A)) : J pc lv (.int (iZ i) :: .ref (ad 23) :: st) (I, A) := v_iald (q0 := 12) (t0 := 0) (n := 6) (f := A 23) hJ rfl rfl (by decide) h0 h1 d k
theorem ms23 (hJ : Snd l R cc nL RX11 rt D [(cI, .int)] O (wM ad cI) post X J) {i x : Int} (h0 : 0 ≤ i) (h1 : i < 6) (d : decode cc pc = .ok (.iastore, 1)) (k : J (pc + 1) lv st (I, va_up A 23 (zu (A 23) i x))) : J pc lv (.int (iZ x) :: .int (iZ i) :: .ref (ad 23) :: st) (I, A) := v_iast (q0 := 12) (t0 := 0) (n := 6) (f := A 23) hJ rfl rfl (by decide) h0 h1 rfl d k
theorem ma24 (hJ : Snd l R cc nL RX11 rt D [(cI, .int)] O (wM ad cI) post X J) {i : Int} (h0 : 0 ≤ i) (h1 : i < 60) (d : decode cc pc = .ok (.iaload, 1)) (k : J (pc + 1) lv (.int (iZ (A 24 i)) :: st) (I, A)) : J pc lv (.int (iZ i) :: .ref (ad 24) :: st) (I, A) := v_iald (q0 := 13) (t0 := 0) (n := 60) (f := A 24) hJ rfl rfl (by decide) h0 h1 d k
theorem ms24 (hJ : Snd l R cc nL RX11 rt D [(cI, .int)] O (wM ad cI) post X J) {i x : Int} (h0 : 0 ≤ i) (h1 : i < 60) (d : decode cc pc = .ok (.iastore, 1)) (k : J (pc + 1) lv st (I, va_up A 24 (zu (A 24) i x))) : J pc lv (.int (iZ x) :: .int (iZ i) :: .ref (ad 24) :: st) (I, A) := v_iast (q0 := 13) (t0 := 0) (n := 60) (f := A 24) hJ rfl rfl (by decide) h0 h1 rfl d k
theorem ma25 (hJ : Snd l R cc nL RX11 rt D [(cI, .int)] O (wM ad cI) post X J) {i : Int} (h0 : 0 ≤ i) (h1 : i < 4000) (d : decode cc pc = .ok (.iaload, 1)) (k : J (pc + 1) lv (.int (iZ (A 25 i)) :: st) (I, A)) : J pc lv (.int (iZ i) :: .ref (ad 25) :: st) (I, A) := v_iald (q0 := 14) (t0 := 0) (n := 4000) (f := A 25) hJ rfl rfl (by decide) h0 h1 d k
theorem ms25 (hJ : Snd l R cc nL RX11 rt D [(cI, .int)] O (wM ad cI) post X J) {i x : Int} (h0 : 0 ≤ i) (h1 : i < 4000) (d : decode cc pc = .ok (.iastore, 1)) (k : J (pc + 1) lv st (I, va_up A 25 (zu (A 25) i x))) : J pc lv (.int (iZ x) :: .int (iZ i) :: .ref (ad 25) :: st) (I, A) := v_iast (q0 := 14) (t0 := 0) (n := 4000) (f := A 25) hJ rfl rfl (by decide) h0 h1 rfl d k
theorem ma32 (hJ : Snd l R cc nL RX11 rt D [(cI, .int)] O (wM ad cI) post X J) {i : Int} (h0 : 0 ≤ i) (h1 : i < 16) (d : decode cc pc = .ok (.iaload, 1)) (k : J (pc + 1) lv (.int (iZ (A 32 i)) :: st) (I, A)) : J pc lv (.int (iZ i) :: .ref (ad 32) :: st) (I, A) := v_iald (q0 := 15) (t0 := 0) (n := 16) (f := A 32) hJ rfl rfl (by decide) h0 h1 d k
theorem ms32 (hJ : Snd l R cc nL RX11 rt D [(cI, .int)] O (wM ad cI) post X J) {i x : Int} (h0 : 0 ≤ i) (h1 : i < 16) (d : decode cc pc = .ok (.iastore, 1)) (k : J (pc + 1) lv st (I, va_up A 32 (zu (A 32) i x))) : J pc lv (.int (iZ x) :: .int (iZ i) :: .ref (ad 32) :: st) (I, A) := v_iast (q0 := 15) (t0 := 0) (n := 16) (f := A 32) hJ rfl rfl (by decide) h0 h1 rfl d k
theorem ma34 (hJ : Snd l R cc nL RX11 rt D [(cI, .int)] O (wM ad cI) post X J) {i : Int} (h0 : 0 ≤ i) (h1 : i < 4000) (d : decode cc pc = .ok (.iaload, 1)) (k : J (pc + 1) lv (.int (iZ (A 34 i)) :: st) (I, A)) : J pc lv (.int (iZ i) :: .ref (ad 34) :: st) (I, A) := v_iald (q0 := 16) (t0 := 0) (n := 4000) (f := A 34) hJ rfl rfl (by decide) h0 h1 d k
theorem ms34 (hJ : Snd l R cc nL RX11 rt D [(cI, .int)] O (wM ad cI) post X J) {i x : Int} (h0 : 0 ≤ i) (h1 : i < 4000) (d : decode cc pc = .ok (.iastore, 1)) (k : J (pc + 1) lv st (I, va_up A 34 (zu (A 34) i x))) : J pc lv (.int (iZ x) :: .int (iZ i) :: .ref (ad 34) :: st) (I, A) := v_iast (q0 := 16) (t0 := 0) (n := 4000) (f := A 34) hJ rfl rfl (by decide) h0 h1 rfl d k
theorem ma35 (hJ : Snd l R cc nL RX11 rt D [(cI, .int)] O (wM ad cI) post X J) {i : Int} (h0 : 0 ≤ i) (h1 : i < 4000) (d : decode cc pc = .ok (.iaload, 1)) (k : J (pc + 1) lv (.int (iZ (A 35 i)) :: st) (I, A)) : J pc lv (.int (iZ i) :: .ref (ad 35) :: st) (I, A) := v_iald (q0 := 17) (t0 := 0) (n := 4000) (f := A 35) hJ rfl rfl (by decide) h0 h1 d k
theorem ms35 (hJ : Snd l R cc nL RX11 rt D [(cI, .int)] O (wM ad cI) post X J) {i x : Int} (h0 : 0 ≤ i) (h1 : i < 4000) (d : decode cc pc = .ok (.iastore, 1)) (k : J (pc + 1) lv st (I, va_up A 35 (zu (A 35) i x))) : J pc lv (.int (iZ x) :: .int (iZ i) :: .ref (ad 35) :: st) (I, A) := v_iast (q0 := 17) (t0 := 0) (n := 4000) (f := A 35) hJ rfl rfl (by decide) h0 h1 rfl d k
theorem ma38 (hJ : Snd l R cc nL RX11 rt D [(cI, .int)] O (wM ad cI) post X J) {i : Int} (h0 : 0 ≤ i) (h1 : i < 480) (d : decode cc pc = .ok (.iaload, 1)) (k : J (pc + 1) lv (.int (iZ (A 38 i)) :: st) (I, A)) : J pc lv (.int (iZ i) :: .ref (ad 38) :: st) (I, A) := v_iald (q0 := 18) (t0 := 0) (n := 480) (f := A 38) hJ rfl rfl (by decide) h0 h1 d k
theorem ms38 (hJ : Snd l R cc nL RX11 rt D [(cI, .int)] O (wM ad cI) post X J) {i x : Int} (h0 : 0 ≤ i) (h1 : i < 480) (d : decode cc pc = .ok (.iastore, 1)) (k : J (pc + 1) lv st (I, va_up A 38 (zu (A 38) i x))) : J pc lv (.int (iZ x) :: .int (iZ i) :: .ref (ad 38) :: st) (I, A) := v_iast (q0 := 18) (t0 := 0) (n := 480) (f := A 38) hJ rfl rfl (by decide) h0 h1 rfl d k
theorem ma39 (hJ : Snd l R cc nL RX11 rt D [(cI, .int)] O (wM ad cI) post X J) {i : Int} (h0 : 0 ≤ i) (h1 : i < 17280) (d : decode cc pc = .ok (.iaload, 1)) (k : J (pc + 1) lv (.int (iZ (A 39 i)) :: st) (I, A)) : J pc lv (.int (iZ i) :: .ref (ad 39) :: st) (I, A) := v_iald (q0 := 19) (t0 := 0) (n := 17280) (f := A 39) hJ rfl rfl (by decide) h0 h1 d k
theorem ms39 (hJ : Snd l R cc nL RX11 rt D [(cI, .int)] O (wM ad cI) post X J) {i x : Int} (h0 : 0 ≤ i) (h1 : i < 17280) (d : decode cc pc = .ok (.iastore, 1)) (k : J (pc + 1) lv st (I, va_up A 39 (zu (A 39) i x))) : J pc lv (.int (iZ x) :: .int (iZ i) :: .ref (ad 39) :: st) (I, A) := v_iast (q0 := 19) (t0 := 0) (n := 17280) (f := A 39) hJ rfl rfl (by decide) h0 h1 rfl d k
theorem ma40 (hJ : Snd l R cc nL RX11 rt D [(cI, .int)] O (wM ad cI) post X J) {i : Int} (h0 : 0 ≤ i) (h1 : i < 2880) (d : decode cc pc = .ok (.iaload, 1)) (k : J (pc + 1) lv (.int (iZ (A 40 i)) :: st) (I, A)) : J pc lv (.int (iZ i) :: .ref (ad 40) :: st) (I, A) := v_iald (q0 := 20) (t0 := 0) (n := 2880) (f := A 40) hJ rfl rfl (by decide) h0 h1 d k
theorem ms40 (hJ : Snd l R cc nL RX11 rt D [(cI, .int)] O (wM ad cI) post X J) {i x : Int} (h0 : 0 ≤ i) (h1 : i < 2880) (d : decode cc pc = .ok (.iastore, 1)) (k : J (pc + 1) lv st (I, va_up A 40 (zu (A 40) i x))) : J pc lv (.int (iZ x) :: .int (iZ i) :: .ref (ad 40) :: st) (I, A) := v_iast (q0 := 20) (t0 := 0) (n := 2880) (f := A 40) hJ rfl rfl (by decide) h0 h1 rfl d k
theorem ma41 (hJ : Snd l R cc nL RX11 rt D [(cI, .int)] O (wM ad cI) post X J) {i : Int} (h0 : 0 ≤ i) (h1 : i < 6) (d : decode cc pc = .ok (.iaload, 1)) (k : J (pc + 1) lv (.int (iZ (A 41 i)) :: st) (I, A)) : J pc lv (.int (iZ i) :: .ref (ad 41) :: st) (I, A) := v_iald (q0 := 21) (t0 := 0) (n := 6) (f := A 41) hJ rfl rfl (by decide) h0 h1 d k
theorem ms41 (hJ : Snd l R cc nL RX11 rt D [(cI, .int)] O (wM ad cI) post X J) {i x : Int} (h0 : 0 ≤ i) (h1 : i < 6) (d : decode cc pc = .ok (.iastore, 1)) (k : J (pc + 1) lv st (I, va_up A 41 (zu (A 41) i x))) : J pc lv (.int (iZ x) :: .int (iZ i) :: .ref (ad 41) :: st) (I, A) := v_iast (q0 := 21) (t0 := 0) (n := 6) (f := A 41) hJ rfl rfl (by decide) h0 h1 rfl d k
theorem ma42 (hJ : Snd l R cc nL RX11 rt D [(cI, .int)] O (wM ad cI) post X J) {i : Int} (h0 : 0 ≤ i) (h1 : i < 7) (d : decode cc pc = .ok (.iaload, 1)) (k : J (pc + 1) lv (.int (iZ (A 42 i)) :: st) (I, A)) : J pc lv (.int (iZ i) :: .ref (ad 42) :: st) (I, A) := v_iald (q0 := 22) (t0 := 0) (n := 7) (f := A 42) hJ rfl rfl (by decide) h0 h1 d k
theorem ms42 (hJ : Snd l R cc nL RX11 rt D [(cI, .int)] O (wM ad cI) post X J) {i x : Int} (h0 : 0 ≤ i) (h1 : i < 7) (d : decode cc pc = .ok (.iastore, 1)) (k : J (pc + 1) lv st (I, va_up A 42 (zu (A 42) i x))) : J pc lv (.int (iZ x) :: .int (iZ i) :: .ref (ad 42) :: st) (I, A) := v_iast (q0 := 22) (t0 := 0) (n := 7) (f := A 42) hJ rfl rfl (by decide) h0 h1 rfl d k
theorem ma43 (hJ : Snd l R cc nL RX11 rt D [(cI, .int)] O (wM ad cI) post X J) {i : Int} (h0 : 0 ≤ i) (h1 : i < 7) (d : decode cc pc = .ok (.iaload, 1)) (k : J (pc + 1) lv (.int (iZ (A 43 i)) :: st) (I, A)) : J pc lv (.int (iZ i) :: .ref (ad 43) :: st) (I, A) := v_iald (q0 := 23) (t0 := 0) (n := 7) (f := A 43) hJ rfl rfl (by decide) h0 h1 d k
theorem ms43 (hJ : Snd l R cc nL RX11 rt D [(cI, .int)] O (wM ad cI) post X J) {i x : Int} (h0 : 0 ≤ i) (h1 : i < 7) (d : decode cc pc = .ok (.iastore, 1)) (k : J (pc + 1) lv st (I, va_up A 43 (zu (A 43) i x))) : J pc lv (.int (iZ x) :: .int (iZ i) :: .ref (ad 43) :: st) (I, A) := v_iast (q0 := 23) (t0 := 0) (n := 7) (f := A 43) hJ rfl rfl (by decide) h0 h1 rfl d k
theorem ma44 (hJ : Snd l R cc nL RX11 rt D [(cI, .int)] O (wM ad cI) post X J) {i : Int} (h0 : 0 ≤ i) (h1 : i < 360) (d : decode cc pc = .ok (.iaload, 1)) (k : J (pc + 1) lv (.int (iZ (A 44 i)) :: st) (I, A)) : J pc lv (.int (iZ i) :: .ref (ad 44) :: st) (I, A) := v_iald (q0 := 24) (t0 := 0) (n := 360) (f := A 44) hJ rfl rfl (by decide) h0 h1 d k
theorem ms44 (hJ : Snd l R cc nL RX11 rt D [(cI, .int)] O (wM ad cI) post X J) {i x : Int} (h0 : 0 ≤ i) (h1 : i < 360) (d : decode cc pc = .ok (.iastore, 1)) (k : J (pc + 1) lv st (I, va_up A 44 (zu (A 44) i x))) : J pc lv (.int (iZ x) :: .int (iZ i) :: .ref (ad 44) :: st) (I, A) := v_iast (q0 := 24) (t0 := 0) (n := 360) (f := A 44) hJ rfl rfl (by decide) h0 h1 rfl d k
theorem wM_0 (u : sM) : ∃ fs, (wM ad cI u)[0]? = some (ad 0, .inr (8, fs)) := ⟨_, rfl⟩
end MROWS
