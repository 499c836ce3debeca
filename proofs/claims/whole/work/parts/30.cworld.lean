theorem inX0g : ∀ w ∈ u_ws RX0 TX0 9, w ∈ gw := fun w h => by
  have h1 := List.all_eq_true.mp (show (u_ws RX0 TX0 9).all (fun w => decide (w ∈ lw_tbl) && goodWord w) = true by decide +kernel) w h
  simp only [Bool.and_eq_true, decide_eq_true_eq] at h1
  exact gw_of h1.1 h1.2
theorem inX2g : ∀ w ∈ u_ws RX2 TX2 2, w ∈ gw := fun w h => by
  have h1 := List.all_eq_true.mp (show (u_ws RX2 TX2 2).all (fun w => decide (w ∈ lw_tbl) && goodWord w) = true by decide +kernel) w h
  simp only [Bool.and_eq_true, decide_eq_true_eq] at h1
  exact gw_of h1.1 h1.2
theorem inX5g : ∀ w ∈ u_ws RX5 TX5 2, w ∈ gw := fun w h => by
  have h1 := List.all_eq_true.mp (show (u_ws RX5 TX5 2).all (fun w => decide (w ∈ lw_tbl) && goodWord w) = true by decide +kernel) w h
  simp only [Bool.and_eq_true, decide_eq_true_eq] at h1
  exact gw_of h1.1 h1.2
theorem inX6g : ∀ w ∈ u_ws RX6 TX6 5, w ∈ gw := fun w h => by
  have h1 := List.all_eq_true.mp (show (u_ws RX6 TX6 5).all (fun w => decide (w ∈ lw_tbl) && goodWord w) = true by decide +kernel) w h
  simp only [Bool.and_eq_true, decide_eq_true_eq] at h1
  exact gw_of h1.1 h1.2
theorem inX7g : ∀ w ∈ u_ws RX7 TX7 5, w ∈ gw := fun w h => by
  have h1 := List.all_eq_true.mp (show (u_ws RX7 TX7 5).all (fun w => decide (w ∈ lw_tbl) && goodWord w) = true by decide +kernel) w h
  simp only [Bool.and_eq_true, decide_eq_true_eq] at h1
  exact gw_of h1.1 h1.2
theorem inX8g : ∀ w ∈ u_ws RX8 TX8 8, w ∈ gw := fun w h => by
  have h1 := List.all_eq_true.mp (show (u_ws RX8 TX8 8).all (fun w => decide (w ∈ lw_tbl) && goodWord w) = true by decide +kernel) w h
  simp only [Bool.and_eq_true, decide_eq_true_eq] at h1
  exact gw_of h1.1 h1.2
theorem inX9g : ∀ w ∈ u_ws RX9 TX9 1, w ∈ gw := fun w h => by
  have h1 := List.all_eq_true.mp (show (u_ws RX9 TX9 1).all (fun w => decide (w ∈ lw_tbl) && goodWord w) = true by decide +kernel) w h
  simp only [Bool.and_eq_true, decide_eq_true_eq] at h1
  exact gw_of h1.1 h1.2
theorem inX10g : ∀ w ∈ u_ws RX10 TX10 13, w ∈ gw := fun w h => by
  have h1 := List.all_eq_true.mp (show (u_ws RX10 TX10 13).all (fun w => decide (w ∈ lw_tbl) && goodWord w) = true by decide +kernel) w h
  simp only [Bool.and_eq_true, decide_eq_true_eq] at h1
  exact gw_of h1.1 h1.2
theorem lkX10_72 : LkV RX10 72 RX10 yX10_takeFour cX10_takeFour 3 none 1 :=
  ⟨fun w hw => by
    rcases (show w = _ ∨ w = _ ∨ w = _ ∨ w = _ ∨ w = _ by simpa [wsV] using hw) with rfl | rfl | rfl | rfl | rfl
    · exact gw_of (List.mem_of_getElem? (i := 305) (by decide +kernel)) (by decide +kernel)
    · exact gw_of (List.mem_of_getElem? (i := 307) (by decide +kernel)) (by decide +kernel)
    · exact gw_of (List.mem_of_getElem? (i := 0) (by decide +kernel)) (by decide +kernel)
    · exact gw_of (List.mem_of_getElem? (i := 47) (by decide +kernel)) (by decide +kernel)
    · exact gw_of (List.mem_of_getElem? (i := 308) (by decide +kernel)) (by decide +kernel), rfl, by decide, by decide, by decide +kernel⟩
theorem lkX10_83 : LkV RX10 83 RX7 yX7_readInto cX7_readInto 5 none 3 :=
  ⟨fun w hw => by
    rcases (show w = _ ∨ w = _ ∨ w = _ ∨ w = _ ∨ w = _ by simpa [wsV] using hw) with rfl | rfl | rfl | rfl | rfl
    · exact gw_of (List.mem_of_getElem? (i := 652) (by decide +kernel)) (by decide +kernel)
    · exact gw_of (List.mem_of_getElem? (i := 653) (by decide +kernel)) (by decide +kernel)
    · exact gw_of (List.mem_of_getElem? (i := 654) (by decide +kernel)) (by decide +kernel)
    · exact gw_of (List.mem_of_getElem? (i := 48) (by decide +kernel)) (by decide +kernel)
    · exact gw_of (List.mem_of_getElem? (i := 655) (by decide +kernel)) (by decide +kernel), rfl, by decide, by decide, by decide +kernel⟩
theorem lkX10_96 : LkV RX10 96 RX10 yX10_forgetHands cX10_forgetHands 1 none 0 :=
  ⟨fun w hw => by
    rcases (show w = _ ∨ w = _ ∨ w = _ ∨ w = _ ∨ w = _ by simpa [wsV] using hw) with rfl | rfl | rfl | rfl | rfl
    · exact gw_of (List.mem_of_getElem? (i := 449) (by decide +kernel)) (by decide +kernel)
    · exact gw_of (List.mem_of_getElem? (i := 451) (by decide +kernel)) (by decide +kernel)
    · exact gw_of (List.mem_of_getElem? (i := 4) (by decide +kernel)) (by decide +kernel)
    · exact gw_of (List.mem_of_getElem? (i := 47) (by decide +kernel)) (by decide +kernel)
    · exact gw_of (List.mem_of_getElem? (i := 452) (by decide +kernel)) (by decide +kernel), rfl, by decide, by decide, by decide +kernel⟩
theorem lkX10_111 : LkS RX10 111 yJ9_floorMod_7cf53 cJ9_floorMod_7cf53 3 (some .int) 2 :=
  ⟨fun w hw => by
    rcases (show w = _ ∨ w = _ ∨ w = _ ∨ w = _ by simpa [va_wsS] using hw) with rfl | rfl | rfl | rfl
    · exact gw_of (List.mem_of_getElem? (i := 809) (by decide +kernel)) (by decide +kernel)
    · exact gw_of (List.mem_of_getElem? (i := 364) (by decide +kernel)) (by decide +kernel)
    · exact gw_of (List.mem_of_getElem? (i := 61) (by decide +kernel)) (by decide +kernel)
    · exact gw_of (List.mem_of_getElem? (i := 365) (by decide +kernel)) (by decide +kernel), by decide, by decide, by decide +kernel⟩
theorem lkX10_117 : LkV RX10 117 RX8 yX8_shiftNotes cX8_shiftNotes 3 none 1 :=
  ⟨fun w hw => by
    rcases (show w = _ ∨ w = _ ∨ w = _ ∨ w = _ ∨ w = _ by simpa [wsV] using hw) with rfl | rfl | rfl | rfl | rfl
    · exact gw_of (List.mem_of_getElem? (i := 810) (by decide +kernel)) (by decide +kernel)
    · exact gw_of (List.mem_of_getElem? (i := 811) (by decide +kernel)) (by decide +kernel)
    · exact gw_of (List.mem_of_getElem? (i := 812) (by decide +kernel)) (by decide +kernel)
    · exact gw_of (List.mem_of_getElem? (i := 49) (by decide +kernel)) (by decide +kernel)
    · exact gw_of (List.mem_of_getElem? (i := 813) (by decide +kernel)) (by decide +kernel), rfl, by decide, by decide, by decide +kernel⟩
theorem lkX10_120 : LkV RX10 120 RX8 yX8_hasChord cX8_hasChord 2 (some .boolean) 1 :=
  ⟨fun w hw => by
    rcases (show w = _ ∨ w = _ ∨ w = _ ∨ w = _ ∨ w = _ by simpa [wsV] using hw) with rfl | rfl | rfl | rfl | rfl
    · exact gw_of (List.mem_of_getElem? (i := 564) (by decide +kernel)) (by decide +kernel)
    · exact gw_of (List.mem_of_getElem? (i := 334) (by decide +kernel)) (by decide +kernel)
    · exact gw_of (List.mem_of_getElem? (i := 335) (by decide +kernel)) (by decide +kernel)
    · exact gw_of (List.mem_of_getElem? (i := 49) (by decide +kernel)) (by decide +kernel)
    · exact gw_of (List.mem_of_getElem? (i := 336) (by decide +kernel)) (by decide +kernel), rfl, by decide, by decide, by decide +kernel⟩
theorem lkX10_135 : LkV RX10 135 RX8 yX8_tonesOf cX8_tonesOf 3 (some .int) 1 :=
  ⟨fun w hw => by
    rcases (show w = _ ∨ w = _ ∨ w = _ ∨ w = _ ∨ w = _ by simpa [wsV] using hw) with rfl | rfl | rfl | rfl | rfl
    · exact gw_of (List.mem_of_getElem? (i := 825) (by decide +kernel)) (by decide +kernel)
    · exact gw_of (List.mem_of_getElem? (i := 481) (by decide +kernel)) (by decide +kernel)
    · exact gw_of (List.mem_of_getElem? (i := 482) (by decide +kernel)) (by decide +kernel)
    · exact gw_of (List.mem_of_getElem? (i := 49) (by decide +kernel)) (by decide +kernel)
    · exact gw_of (List.mem_of_getElem? (i := 483) (by decide +kernel)) (by decide +kernel), rfl, by decide, by decide, by decide +kernel⟩
theorem lkX10_147 : LkV RX10 147 RX5 yX5_putName cX5_putName 5 none 2 :=
  ⟨fun w hw => by
    rcases (show w = _ ∨ w = _ ∨ w = _ ∨ w = _ ∨ w = _ by simpa [wsV] using hw) with rfl | rfl | rfl | rfl | rfl
    · exact gw_of (List.mem_of_getElem? (i := 834) (by decide +kernel)) (by decide +kernel)
    · exact gw_of (List.mem_of_getElem? (i := 346) (by decide +kernel)) (by decide +kernel)
    · exact gw_of (List.mem_of_getElem? (i := 347) (by decide +kernel)) (by decide +kernel)
    · exact gw_of (List.mem_of_getElem? (i := 50) (by decide +kernel)) (by decide +kernel)
    · exact gw_of (List.mem_of_getElem? (i := 348) (by decide +kernel)) (by decide +kernel), rfl, by decide, by decide, by decide +kernel⟩
theorem lkX10_151 : LkV RX10 151 RX9 yX9_putSong cX9_putSong 6 none 2 :=
  ⟨fun w hw => by
    rcases (show w = _ ∨ w = _ ∨ w = _ ∨ w = _ ∨ w = _ by simpa [wsV] using hw) with rfl | rfl | rfl | rfl | rfl
    · exact gw_of (List.mem_of_getElem? (i := 313) (by decide +kernel)) (by decide +kernel)
    · exact gw_of (List.mem_of_getElem? (i := 314) (by decide +kernel)) (by decide +kernel)
    · exact gw_of (List.mem_of_getElem? (i := 315) (by decide +kernel)) (by decide +kernel)
    · exact gw_of (List.mem_of_getElem? (i := 51) (by decide +kernel)) (by decide +kernel)
    · exact gw_of (List.mem_of_getElem? (i := 316) (by decide +kernel)) (by decide +kernel), rfl, by decide, by decide, by decide +kernel⟩
theorem lkX10_155 : LkV RX10 155 RX5 yX5_keptLength cX5_keptLength 1 (some .int) 0 :=
  ⟨fun w hw => by
    rcases (show w = _ ∨ w = _ ∨ w = _ ∨ w = _ ∨ w = _ by simpa [wsV] using hw) with rfl | rfl | rfl | rfl | rfl
    · exact gw_of (List.mem_of_getElem? (i := 842) (by decide +kernel)) (by decide +kernel)
    · exact gw_of (List.mem_of_getElem? (i := 843) (by decide +kernel)) (by decide +kernel)
    · exact gw_of (List.mem_of_getElem? (i := 844) (by decide +kernel)) (by decide +kernel)
    · exact gw_of (List.mem_of_getElem? (i := 50) (by decide +kernel)) (by decide +kernel)
    · exact gw_of (List.mem_of_getElem? (i := 845) (by decide +kernel)) (by decide +kernel), rfl, by decide, by decide, by decide +kernel⟩
theorem lkX10_172 : LkS RX10 172 yX10_isBar cX10_isBar 1 (some .boolean) 1 :=
  ⟨fun w hw => by
    rcases (show w = _ ∨ w = _ ∨ w = _ ∨ w = _ by simpa [va_wsS] using hw) with rfl | rfl | rfl | rfl
    · exact gw_of (List.mem_of_getElem? (i := 863) (by decide +kernel)) (by decide +kernel)
    · exact gw_of (List.mem_of_getElem? (i := 864) (by decide +kernel)) (by decide +kernel)
    · exact gw_of (List.mem_of_getElem? (i := 47) (by decide +kernel)) (by decide +kernel)
    · exact gw_of (List.mem_of_getElem? (i := 865) (by decide +kernel)) (by decide +kernel), by decide, by decide, by decide +kernel⟩
theorem lkX10_180 : LkV RX10 180 RX2 yX2_pageOf cX2_pageOf 7 (some .int) 4 :=
  ⟨fun w hw => by
    rcases (show w = _ ∨ w = _ ∨ w = _ ∨ w = _ ∨ w = _ by simpa [wsV] using hw) with rfl | rfl | rfl | rfl | rfl
    · exact gw_of (List.mem_of_getElem? (i := 867) (by decide +kernel)) (by decide +kernel)
    · exact gw_of (List.mem_of_getElem? (i := 466) (by decide +kernel)) (by decide +kernel)
    · exact gw_of (List.mem_of_getElem? (i := 467) (by decide +kernel)) (by decide +kernel)
    · exact gw_of (List.mem_of_getElem? (i := 53) (by decide +kernel)) (by decide +kernel)
    · exact gw_of (List.mem_of_getElem? (i := 468) (by decide +kernel)) (by decide +kernel), rfl, by decide, by decide, by decide +kernel⟩
theorem lkX10_184 : LkV RX10 184 RX10 yX10_hands cX10_hands 3 (some .int) 2 :=
  ⟨fun w hw => by
    rcases (show w = _ ∨ w = _ ∨ w = _ ∨ w = _ ∨ w = _ by simpa [wsV] using hw) with rfl | rfl | rfl | rfl | rfl
    · exact gw_of (List.mem_of_getElem? (i := 875) (by decide +kernel)) (by decide +kernel)
    · exact gw_of (List.mem_of_getElem? (i := 860) (by decide +kernel)) (by decide +kernel)
    · exact gw_of (List.mem_of_getElem? (i := 861) (by decide +kernel)) (by decide +kernel)
    · exact gw_of (List.mem_of_getElem? (i := 47) (by decide +kernel)) (by decide +kernel)
    · exact gw_of (List.mem_of_getElem? (i := 862) (by decide +kernel)) (by decide +kernel), rfl, by decide, by decide, by decide +kernel⟩
theorem lkX10_194 : LkS RX10 194 yX1_strainOf cX1_strainOf 1 (some .int) 1 :=
  ⟨fun w hw => by
    rcases (show w = _ ∨ w = _ ∨ w = _ ∨ w = _ by simpa [va_wsS] using hw) with rfl | rfl | rfl | rfl
    · exact gw_of (List.mem_of_getElem? (i := 878) (by decide +kernel)) (by decide +kernel)
    · exact gw_of (List.mem_of_getElem? (i := 531) (by decide +kernel)) (by decide +kernel)
    · exact gw_of (List.mem_of_getElem? (i := 71) (by decide +kernel)) (by decide +kernel)
    · exact gw_of (List.mem_of_getElem? (i := 532) (by decide +kernel)) (by decide +kernel), by decide, by decide, by decide +kernel⟩
theorem lkX10_199 : LkS RX10 199 yX1_fretOf cX1_fretOf 2 (some .int) 2 :=
  ⟨fun w hw => by
    rcases (show w = _ ∨ w = _ ∨ w = _ ∨ w = _ by simpa [va_wsS] using hw) with rfl | rfl | rfl | rfl
    · exact gw_of (List.mem_of_getElem? (i := 879) (by decide +kernel)) (by decide +kernel)
    · exact gw_of (List.mem_of_getElem? (i := 549) (by decide +kernel)) (by decide +kernel)
    · exact gw_of (List.mem_of_getElem? (i := 71) (by decide +kernel)) (by decide +kernel)
    · exact gw_of (List.mem_of_getElem? (i := 550) (by decide +kernel)) (by decide +kernel), by decide, by decide, by decide +kernel⟩
theorem lkX10_202 : LkV RX10 202 RX6 yX6_leastSum cX6_leastSum 8 (some .int) 4 :=
  ⟨fun w hw => by
    rcases (show w = _ ∨ w = _ ∨ w = _ ∨ w = _ ∨ w = _ by simpa [wsV] using hw) with rfl | rfl | rfl | rfl | rfl
    · exact gw_of (List.mem_of_getElem? (i := 461) (by decide +kernel)) (by decide +kernel)
    · exact gw_of (List.mem_of_getElem? (i := 462) (by decide +kernel)) (by decide +kernel)
    · exact gw_of (List.mem_of_getElem? (i := 463) (by decide +kernel)) (by decide +kernel)
    · exact gw_of (List.mem_of_getElem? (i := 55) (by decide +kernel)) (by decide +kernel)
    · exact gw_of (List.mem_of_getElem? (i := 464) (by decide +kernel)) (by decide +kernel), rfl, by decide, by decide, by decide +kernel⟩
theorem lkX10_209 : LkV RX10 209 RX6 yX6_keepAt cX6_keepAt 5 none 2 :=
  ⟨fun w hw => by
    rcases (show w = _ ∨ w = _ ∨ w = _ ∨ w = _ ∨ w = _ by simpa [wsV] using hw) with rfl | rfl | rfl | rfl | rfl
    · exact gw_of (List.mem_of_getElem? (i := 556) (by decide +kernel)) (by decide +kernel)
    · exact gw_of (List.mem_of_getElem? (i := 557) (by decide +kernel)) (by decide +kernel)
    · exact gw_of (List.mem_of_getElem? (i := 558) (by decide +kernel)) (by decide +kernel)
    · exact gw_of (List.mem_of_getElem? (i := 55) (by decide +kernel)) (by decide +kernel)
    · exact gw_of (List.mem_of_getElem? (i := 559) (by decide +kernel)) (by decide +kernel), rfl, by decide, by decide, by decide +kernel⟩
theorem lkX10_217 : LkS RX10 217 yX4_scaleOf cX4_scaleOf 3 (some .int) 1 :=
  ⟨fun w hw => by
    rcases (show w = _ ∨ w = _ ∨ w = _ ∨ w = _ by simpa [va_wsS] using hw) with rfl | rfl | rfl | rfl
    · exact gw_of (List.mem_of_getElem? (i := 569) (by decide +kernel)) (by decide +kernel)
    · exact gw_of (List.mem_of_getElem? (i := 570) (by decide +kernel)) (by decide +kernel)
    · exact gw_of (List.mem_of_getElem? (i := 62) (by decide +kernel)) (by decide +kernel)
    · exact gw_of (List.mem_of_getElem? (i := 571) (by decide +kernel)) (by decide +kernel), by decide, by decide, by decide +kernel⟩
theorem lkX10_222 : LkV RX10 222 RX8 yX8_chordsWithin cX8_chordsWithin 4 (some .int) 1 :=
  ⟨fun w hw => by
    rcases (show w = _ ∨ w = _ ∨ w = _ ∨ w = _ ∨ w = _ by simpa [wsV] using hw) with rfl | rfl | rfl | rfl | rfl
    · exact gw_of (List.mem_of_getElem? (i := 573) (by decide +kernel)) (by decide +kernel)
    · exact gw_of (List.mem_of_getElem? (i := 574) (by decide +kernel)) (by decide +kernel)
    · exact gw_of (List.mem_of_getElem? (i := 575) (by decide +kernel)) (by decide +kernel)
    · exact gw_of (List.mem_of_getElem? (i := 49) (by decide +kernel)) (by decide +kernel)
    · exact gw_of (List.mem_of_getElem? (i := 576) (by decide +kernel)) (by decide +kernel), rfl, by decide, by decide, by decide +kernel⟩
theorem lkX10_230 : LkV RX10 230 RX2 yX2_forget cX2_forget 1 none 0 :=
  ⟨fun w hw => by
    rcases (show w = _ ∨ w = _ ∨ w = _ ∨ w = _ ∨ w = _ by simpa [wsV] using hw) with rfl | rfl | rfl | rfl | rfl
    · exact gw_of (List.mem_of_getElem? (i := 453) (by decide +kernel)) (by decide +kernel)
    · exact gw_of (List.mem_of_getElem? (i := 454) (by decide +kernel)) (by decide +kernel)
    · exact gw_of (List.mem_of_getElem? (i := 455) (by decide +kernel)) (by decide +kernel)
    · exact gw_of (List.mem_of_getElem? (i := 53) (by decide +kernel)) (by decide +kernel)
    · exact gw_of (List.mem_of_getElem? (i := 456) (by decide +kernel)) (by decide +kernel), rfl, by decide, by decide, by decide +kernel⟩
theorem lkX7_19 : LkS RX7 19 yJ9_min_7cf53 cJ9_min_7cf53 2 (some .int) 2 :=
  ⟨fun w hw => by
    rcases (show w = _ ∨ w = _ ∨ w = _ ∨ w = _ by simpa [va_wsS] using hw) with rfl | rfl | rfl | rfl
    · exact gw_of (List.mem_of_getElem? (i := 656) (by decide +kernel)) (by decide +kernel)
    · exact gw_of (List.mem_of_getElem? (i := 657) (by decide +kernel)) (by decide +kernel)
    · exact gw_of (List.mem_of_getElem? (i := 61) (by decide +kernel)) (by decide +kernel)
    · exact gw_of (List.mem_of_getElem? (i := 658) (by decide +kernel)) (by decide +kernel), by decide, by decide, by decide +kernel⟩
theorem lkX7_34 : LkV RX7 34 RX8 yX8_startAnew cX8_startAnew 1 none 0 :=
  ⟨fun w hw => by
    rcases (show w = _ ∨ w = _ ∨ w = _ ∨ w = _ ∨ w = _ by simpa [wsV] using hw) with rfl | rfl | rfl | rfl | rfl
    · exact gw_of (List.mem_of_getElem? (i := 659) (by decide +kernel)) (by decide +kernel)
    · exact gw_of (List.mem_of_getElem? (i := 660) (by decide +kernel)) (by decide +kernel)
    · exact gw_of (List.mem_of_getElem? (i := 661) (by decide +kernel)) (by decide +kernel)
    · exact gw_of (List.mem_of_getElem? (i := 49) (by decide +kernel)) (by decide +kernel)
    · exact gw_of (List.mem_of_getElem? (i := 662) (by decide +kernel)) (by decide +kernel), rfl, by decide, by decide, by decide +kernel⟩
theorem lkX7_39 : LkV RX7 39 RX7 yX7_readItem cX7_readItem 3 none 1 :=
  ⟨fun w hw => by
    rcases (show w = _ ∨ w = _ ∨ w = _ ∨ w = _ ∨ w = _ by simpa [wsV] using hw) with rfl | rfl | rfl | rfl | rfl
    · exact gw_of (List.mem_of_getElem? (i := 663) (by decide +kernel)) (by decide +kernel)
    · exact gw_of (List.mem_of_getElem? (i := 665) (by decide +kernel)) (by decide +kernel)
    · exact gw_of (List.mem_of_getElem? (i := 14) (by decide +kernel)) (by decide +kernel)
    · exact gw_of (List.mem_of_getElem? (i := 48) (by decide +kernel)) (by decide +kernel)
    · exact gw_of (List.mem_of_getElem? (i := 666) (by decide +kernel)) (by decide +kernel), rfl, by decide, by decide, by decide +kernel⟩
theorem lkX7_43 : LkV RX7 43 RX7 yX7_signAt cX7_signAt 2 (some .int) 1 :=
  ⟨fun w hw => by
    rcases (show w = _ ∨ w = _ ∨ w = _ ∨ w = _ ∨ w = _ by simpa [wsV] using hw) with rfl | rfl | rfl | rfl | rfl
    · exact gw_of (List.mem_of_getElem? (i := 667) (by decide +kernel)) (by decide +kernel)
    · exact gw_of (List.mem_of_getElem? (i := 669) (by decide +kernel)) (by decide +kernel)
    · exact gw_of (List.mem_of_getElem? (i := 15) (by decide +kernel)) (by decide +kernel)
    · exact gw_of (List.mem_of_getElem? (i := 48) (by decide +kernel)) (by decide +kernel)
    · exact gw_of (List.mem_of_getElem? (i := 670) (by decide +kernel)) (by decide +kernel), rfl, by decide, by decide, by decide +kernel⟩
theorem lkX7_47 : LkV RX7 47 RX7 yX7_readChord cX7_readChord 5 none 1 :=
  ⟨fun w hw => by
    rcases (show w = _ ∨ w = _ ∨ w = _ ∨ w = _ ∨ w = _ by simpa [wsV] using hw) with rfl | rfl | rfl | rfl | rfl
    · exact gw_of (List.mem_of_getElem? (i := 671) (by decide +kernel)) (by decide +kernel)
    · exact gw_of (List.mem_of_getElem? (i := 673) (by decide +kernel)) (by decide +kernel)
    · exact gw_of (List.mem_of_getElem? (i := 16) (by decide +kernel)) (by decide +kernel)
    · exact gw_of (List.mem_of_getElem? (i := 48) (by decide +kernel)) (by decide +kernel)
    · exact gw_of (List.mem_of_getElem? (i := 674) (by decide +kernel)) (by decide +kernel), rfl, by decide, by decide, by decide +kernel⟩
theorem lkX7_50 : LkV RX7 50 RX7 yX7_readLineEnd cX7_readLineEnd 2 none 1 :=
  ⟨fun w hw => by
    rcases (show w = _ ∨ w = _ ∨ w = _ ∨ w = _ ∨ w = _ by simpa [wsV] using hw) with rfl | rfl | rfl | rfl | rfl
    · exact gw_of (List.mem_of_getElem? (i := 760) (by decide +kernel)) (by decide +kernel)
    · exact gw_of (List.mem_of_getElem? (i := 762) (by decide +kernel)) (by decide +kernel)
    · exact gw_of (List.mem_of_getElem? (i := 21) (by decide +kernel)) (by decide +kernel)
    · exact gw_of (List.mem_of_getElem? (i := 48) (by decide +kernel)) (by decide +kernel)
    · exact gw_of (List.mem_of_getElem? (i := 763) (by decide +kernel)) (by decide +kernel), rfl, by decide, by decide, by decide +kernel⟩
theorem lkX7_53 : LkV RX7 53 RX7 yX7_refuse cX7_refuse 2 none 1 :=
  ⟨fun w hw => by
    rcases (show w = _ ∨ w = _ ∨ w = _ ∨ w = _ ∨ w = _ by simpa [wsV] using hw) with rfl | rfl | rfl | rfl | rfl
    · exact gw_of (List.mem_of_getElem? (i := 675) (by decide +kernel)) (by decide +kernel)
    · exact gw_of (List.mem_of_getElem? (i := 677) (by decide +kernel)) (by decide +kernel)
    · exact gw_of (List.mem_of_getElem? (i := 17) (by decide +kernel)) (by decide +kernel)
    · exact gw_of (List.mem_of_getElem? (i := 48) (by decide +kernel)) (by decide +kernel)
    · exact gw_of (List.mem_of_getElem? (i := 678) (by decide +kernel)) (by decide +kernel), rfl, by decide, by decide, by decide +kernel⟩
theorem lkX7_57 : LkV RX7 57 RX8 yX8_addItem cX8_addItem 2 none 1 :=
  ⟨fun w hw => by
    rcases (show w = _ ∨ w = _ ∨ w = _ ∨ w = _ ∨ w = _ by simpa [wsV] using hw) with rfl | rfl | rfl | rfl | rfl
    · exact gw_of (List.mem_of_getElem? (i := 768) (by decide +kernel)) (by decide +kernel)
    · exact gw_of (List.mem_of_getElem? (i := 757) (by decide +kernel)) (by decide +kernel)
    · exact gw_of (List.mem_of_getElem? (i := 758) (by decide +kernel)) (by decide +kernel)
    · exact gw_of (List.mem_of_getElem? (i := 49) (by decide +kernel)) (by decide +kernel)
    · exact gw_of (List.mem_of_getElem? (i := 759) (by decide +kernel)) (by decide +kernel), rfl, by decide, by decide, by decide +kernel⟩
theorem lkX7_63 : LkV RX7 63 RX8 yX8_addLineEnd cX8_addLineEnd 1 none 0 :=
  ⟨fun w hw => by
    rcases (show w = _ ∨ w = _ ∨ w = _ ∨ w = _ ∨ w = _ by simpa [wsV] using hw) with rfl | rfl | rfl | rfl | rfl
    · exact gw_of (List.mem_of_getElem? (i := 764) (by decide +kernel)) (by decide +kernel)
    · exact gw_of (List.mem_of_getElem? (i := 765) (by decide +kernel)) (by decide +kernel)
    · exact gw_of (List.mem_of_getElem? (i := 766) (by decide +kernel)) (by decide +kernel)
    · exact gw_of (List.mem_of_getElem? (i := 49) (by decide +kernel)) (by decide +kernel)
    · exact gw_of (List.mem_of_getElem? (i := 767) (by decide +kernel)) (by decide +kernel), rfl, by decide, by decide, by decide +kernel⟩
theorem lkX7_69 : LkV RX7 69 RX7 yX7_readNote cX7_readNote 4 (some .int) 0 :=
  ⟨fun w hw => by
    rcases (show w = _ ∨ w = _ ∨ w = _ ∨ w = _ ∨ w = _ by simpa [wsV] using hw) with rfl | rfl | rfl | rfl | rfl
    · exact gw_of (List.mem_of_getElem? (i := 679) (by decide +kernel)) (by decide +kernel)
    · exact gw_of (List.mem_of_getElem? (i := 681) (by decide +kernel)) (by decide +kernel)
    · exact gw_of (List.mem_of_getElem? (i := 18) (by decide +kernel)) (by decide +kernel)
    · exact gw_of (List.mem_of_getElem? (i := 48) (by decide +kernel)) (by decide +kernel)
    · exact gw_of (List.mem_of_getElem? (i := 682) (by decide +kernel)) (by decide +kernel), rfl, by decide, by decide, by decide +kernel⟩
theorem lkX7_75 : LkV RX7 75 RX7 yX7_readKind cX7_readKind 5 (some .int) 0 :=
  ⟨fun w hw => by
    rcases (show w = _ ∨ w = _ ∨ w = _ ∨ w = _ ∨ w = _ by simpa [wsV] using hw) with rfl | rfl | rfl | rfl | rfl
    · exact gw_of (List.mem_of_getElem? (i := 741) (by decide +kernel)) (by decide +kernel)
    · exact gw_of (List.mem_of_getElem? (i := 743) (by decide +kernel)) (by decide +kernel)
    · exact gw_of (List.mem_of_getElem? (i := 19) (by decide +kernel)) (by decide +kernel)
    · exact gw_of (List.mem_of_getElem? (i := 48) (by decide +kernel)) (by decide +kernel)
    · exact gw_of (List.mem_of_getElem? (i := 744) (by decide +kernel)) (by decide +kernel), rfl, by decide, by decide, by decide +kernel⟩
theorem lkX7_78 : LkV RX7 78 RX8 yX8_addChord cX8_addChord 4 none 3 :=
  ⟨fun w hw => by
    rcases (show w = _ ∨ w = _ ∨ w = _ ∨ w = _ ∨ w = _ by simpa [wsV] using hw) with rfl | rfl | rfl | rfl | rfl
    · exact gw_of (List.mem_of_getElem? (i := 752) (by decide +kernel)) (by decide +kernel)
    · exact gw_of (List.mem_of_getElem? (i := 753) (by decide +kernel)) (by decide +kernel)
    · exact gw_of (List.mem_of_getElem? (i := 754) (by decide +kernel)) (by decide +kernel)
    · exact gw_of (List.mem_of_getElem? (i := 49) (by decide +kernel)) (by decide +kernel)
    · exact gw_of (List.mem_of_getElem? (i := 755) (by decide +kernel)) (by decide +kernel), rfl, by decide, by decide, by decide +kernel⟩
theorem lkX7_82 : LkS RX7 82 yX4_ofLetter cX4_ofLetter 1 (some .int) 1 :=
  ⟨fun w hw => by
    rcases (show w = _ ∨ w = _ ∨ w = _ ∨ w = _ by simpa [va_wsS] using hw) with rfl | rfl | rfl | rfl
    · exact gw_of (List.mem_of_getElem? (i := 683) (by decide +kernel)) (by decide +kernel)
    · exact gw_of (List.mem_of_getElem? (i := 684) (by decide +kernel)) (by decide +kernel)
    · exact gw_of (List.mem_of_getElem? (i := 62) (by decide +kernel)) (by decide +kernel)
    · exact gw_of (List.mem_of_getElem? (i := 685) (by decide +kernel)) (by decide +kernel), by decide, by decide, by decide +kernel⟩
theorem lkX7_87 : LkS RX7 87 yX3_textOf cX3_textOf 1 (some (.object "java/lang/String")) 1 :=
  ⟨fun w hw => by
    rcases (show w = _ ∨ w = _ ∨ w = _ ∨ w = _ by simpa [va_wsS] using hw) with rfl | rfl | rfl | rfl
    · exact gw_of (List.mem_of_getElem? (i := 745) (by decide +kernel)) (by decide +kernel)
    · exact gw_of (List.mem_of_getElem? (i := 408) (by decide +kernel)) (by decide +kernel)
    · exact gw_of (List.mem_of_getElem? (i := 68) (by decide +kernel)) (by decide +kernel)
    · exact gw_of (List.mem_of_getElem? (i := 409) (by decide +kernel)) (by decide +kernel), by decide, by decide, by decide +kernel⟩
theorem lkX7_91 : LkV RX7 91 RJ0 yJ0_length_8abf5 cJ0_length_8abf5 1 (some .int) 0 :=
  ⟨fun w hw => by
    rcases (show w = _ ∨ w = _ ∨ w = _ ∨ w = _ ∨ w = _ by simpa [wsV] using hw) with rfl | rfl | rfl | rfl | rfl
    · exact gw_of (List.mem_of_getElem? (i := 746) (by decide +kernel)) (by decide +kernel)
    · exact gw_of (List.mem_of_getElem? (i := 425) (by decide +kernel)) (by decide +kernel)
    · exact gw_of (List.mem_of_getElem? (i := 426) (by decide +kernel)) (by decide +kernel)
    · exact gw_of (List.mem_of_getElem? (i := 63) (by decide +kernel)) (by decide +kernel)
    · exact gw_of (List.mem_of_getElem? (i := 427) (by decide +kernel)) (by decide +kernel), rfl, by decide, by decide, by decide +kernel⟩
theorem lkX7_95 : LkV RX7 95 RX7 yX7_standsHere cX7_standsHere 3 (some .boolean) 1 :=
  ⟨fun w hw => by
    rcases (show w = _ ∨ w = _ ∨ w = _ ∨ w = _ ∨ w = _ by simpa [wsV] using hw) with rfl | rfl | rfl | rfl | rfl
    · exact gw_of (List.mem_of_getElem? (i := 747) (by decide +kernel)) (by decide +kernel)
    · exact gw_of (List.mem_of_getElem? (i := 749) (by decide +kernel)) (by decide +kernel)
    · exact gw_of (List.mem_of_getElem? (i := 20) (by decide +kernel)) (by decide +kernel)
    · exact gw_of (List.mem_of_getElem? (i := 48) (by decide +kernel)) (by decide +kernel)
    · exact gw_of (List.mem_of_getElem? (i := 750) (by decide +kernel)) (by decide +kernel), rfl, by decide, by decide, by decide +kernel⟩
theorem lkX7_99 : LkV RX7 99 RJ0 yJ0_charAt_5068e cJ0_charAt_5068e 2 (some .char) 1 :=
  ⟨fun w hw => by
    rcases (show w = _ ∨ w = _ ∨ w = _ ∨ w = _ ∨ w = _ by simpa [wsV] using hw) with rfl | rfl | rfl | rfl | rfl
    · exact gw_of (List.mem_of_getElem? (i := 751) (by decide +kernel)) (by decide +kernel)
    · exact gw_of (List.mem_of_getElem? (i := 367) (by decide +kernel)) (by decide +kernel)
    · exact gw_of (List.mem_of_getElem? (i := 368) (by decide +kernel)) (by decide +kernel)
    · exact gw_of (List.mem_of_getElem? (i := 63) (by decide +kernel)) (by decide +kernel)
    · exact gw_of (List.mem_of_getElem? (i := 369) (by decide +kernel)) (by decide +kernel), rfl, by decide, by decide, by decide +kernel⟩
theorem lkX8_37 : LkV RX8 37 RX8 yX8_addItem cX8_addItem 2 none 1 :=
  ⟨fun w hw => by
    rcases (show w = _ ∨ w = _ ∨ w = _ ∨ w = _ ∨ w = _ by simpa [wsV] using hw) with rfl | rfl | rfl | rfl | rfl
    · exact gw_of (List.mem_of_getElem? (i := 756) (by decide +kernel)) (by decide +kernel)
    · exact gw_of (List.mem_of_getElem? (i := 757) (by decide +kernel)) (by decide +kernel)
    · exact gw_of (List.mem_of_getElem? (i := 758) (by decide +kernel)) (by decide +kernel)
    · exact gw_of (List.mem_of_getElem? (i := 49) (by decide +kernel)) (by decide +kernel)
    · exact gw_of (List.mem_of_getElem? (i := 759) (by decide +kernel)) (by decide +kernel), rfl, by decide, by decide, by decide +kernel⟩
theorem lkX8_41 : LkS RX8 41 yX4_toneOf cX4_toneOf 1 (some .int) 1 :=
  ⟨fun w hw => by
    rcases (show w = _ ∨ w = _ ∨ w = _ ∨ w = _ by simpa [va_wsS] using hw) with rfl | rfl | rfl | rfl
    · exact gw_of (List.mem_of_getElem? (i := 473) (by decide +kernel)) (by decide +kernel)
    · exact gw_of (List.mem_of_getElem? (i := 474) (by decide +kernel)) (by decide +kernel)
    · exact gw_of (List.mem_of_getElem? (i := 62) (by decide +kernel)) (by decide +kernel)
    · exact gw_of (List.mem_of_getElem? (i := 475) (by decide +kernel)) (by decide +kernel), by decide, by decide, by decide +kernel⟩
theorem lkX8_47 : LkS RX8 47 yX3_tonesAbove cX3_tonesAbove 3 (some .int) 2 :=
  ⟨fun w hw => by
    rcases (show w = _ ∨ w = _ ∨ w = _ ∨ w = _ by simpa [va_wsS] using hw) with rfl | rfl | rfl | rfl
    · exact gw_of (List.mem_of_getElem? (i := 484) (by decide +kernel)) (by decide +kernel)
    · exact gw_of (List.mem_of_getElem? (i := 485) (by decide +kernel)) (by decide +kernel)
    · exact gw_of (List.mem_of_getElem? (i := 68) (by decide +kernel)) (by decide +kernel)
    · exact gw_of (List.mem_of_getElem? (i := 486) (by decide +kernel)) (by decide +kernel), by decide, by decide, by decide +kernel⟩
theorem lkX8_53 : LkS RX8 53 yJ6_bitCount_0f7a4 cJ6_bitCount_0f7a4 1 (some .int) 1 :=
  ⟨fun w hw => by
    rcases (show w = _ ∨ w = _ ∨ w = _ ∨ w = _ by simpa [va_wsS] using hw) with rfl | rfl | rfl | rfl
    · exact gw_of (List.mem_of_getElem? (i := 493) (by decide +kernel)) (by decide +kernel)
    · exact gw_of (List.mem_of_getElem? (i := 494) (by decide +kernel)) (by decide +kernel)
    · exact gw_of (List.mem_of_getElem? (i := 70) (by decide +kernel)) (by decide +kernel)
    · exact gw_of (List.mem_of_getElem? (i := 495) (by decide +kernel)) (by decide +kernel), by decide, by decide, by decide +kernel⟩
theorem lkX8_58 : LkS RX8 58 yX4_folded cX4_folded 2 (some .int) 1 :=
  ⟨fun w hw => by
    rcases (show w = _ ∨ w = _ ∨ w = _ ∨ w = _ by simpa [va_wsS] using hw) with rfl | rfl | rfl | rfl
    · exact gw_of (List.mem_of_getElem? (i := 814) (by decide +kernel)) (by decide +kernel)
    · exact gw_of (List.mem_of_getElem? (i := 815) (by decide +kernel)) (by decide +kernel)
    · exact gw_of (List.mem_of_getElem? (i := 62) (by decide +kernel)) (by decide +kernel)
    · exact gw_of (List.mem_of_getElem? (i := 816) (by decide +kernel)) (by decide +kernel), by decide, by decide, by decide +kernel⟩
theorem lkX8_61 : LkV RX8 61 RX8 yX8_tonesOf cX8_tonesOf 3 (some .int) 1 :=
  ⟨fun w hw => by
    rcases (show w = _ ∨ w = _ ∨ w = _ ∨ w = _ ∨ w = _ by simpa [wsV] using hw) with rfl | rfl | rfl | rfl | rfl
    · exact gw_of (List.mem_of_getElem? (i := 577) (by decide +kernel)) (by decide +kernel)
    · exact gw_of (List.mem_of_getElem? (i := 481) (by decide +kernel)) (by decide +kernel)
    · exact gw_of (List.mem_of_getElem? (i := 482) (by decide +kernel)) (by decide +kernel)
    · exact gw_of (List.mem_of_getElem? (i := 49) (by decide +kernel)) (by decide +kernel)
    · exact gw_of (List.mem_of_getElem? (i := 483) (by decide +kernel)) (by decide +kernel), rfl, by decide, by decide, by decide +kernel⟩
theorem lkX5_19 : LkS RX5 19 yJ9_min_7cf53 cJ9_min_7cf53 2 (some .int) 2 :=
  ⟨fun w hw => by
    rcases (show w = _ ∨ w = _ ∨ w = _ ∨ w = _ by simpa [va_wsS] using hw) with rfl | rfl | rfl | rfl
    · exact gw_of (List.mem_of_getElem? (i := 846) (by decide +kernel)) (by decide +kernel)
    · exact gw_of (List.mem_of_getElem? (i := 657) (by decide +kernel)) (by decide +kernel)
    · exact gw_of (List.mem_of_getElem? (i := 61) (by decide +kernel)) (by decide +kernel)
    · exact gw_of (List.mem_of_getElem? (i := 658) (by decide +kernel)) (by decide +kernel), by decide, by decide, by decide +kernel⟩
theorem lkX5_25 : LkV RX5 25 RX5 yX5_put cX5_put 2 none 1 :=
  ⟨fun w hw => by
    rcases (show w = _ ∨ w = _ ∨ w = _ ∨ w = _ ∨ w = _ by simpa [wsV] using hw) with rfl | rfl | rfl | rfl | rfl
    · exact gw_of (List.mem_of_getElem? (i := 344) (by decide +kernel)) (by decide +kernel)
    · exact gw_of (List.mem_of_getElem? (i := 318) (by decide +kernel)) (by decide +kernel)
    · exact gw_of (List.mem_of_getElem? (i := 319) (by decide +kernel)) (by decide +kernel)
    · exact gw_of (List.mem_of_getElem? (i := 50) (by decide +kernel)) (by decide +kernel)
    · exact gw_of (List.mem_of_getElem? (i := 320) (by decide +kernel)) (by decide +kernel), rfl, by decide, by decide, by decide +kernel⟩
theorem lkX5_34 : LkV RX5 34 RX5 yX5_putNote cX5_putNote 3 none 1 :=
  ⟨fun w hw => by
    rcases (show w = _ ∨ w = _ ∨ w = _ ∨ w = _ ∨ w = _ by simpa [wsV] using hw) with rfl | rfl | rfl | rfl | rfl
    · exact gw_of (List.mem_of_getElem? (i := 349) (by decide +kernel)) (by decide +kernel)
    · exact gw_of (List.mem_of_getElem? (i := 351) (by decide +kernel)) (by decide +kernel)
    · exact gw_of (List.mem_of_getElem? (i := 2) (by decide +kernel)) (by decide +kernel)
    · exact gw_of (List.mem_of_getElem? (i := 50) (by decide +kernel)) (by decide +kernel)
    · exact gw_of (List.mem_of_getElem? (i := 352) (by decide +kernel)) (by decide +kernel), rfl, by decide, by decide, by decide +kernel⟩
theorem lkX5_40 : LkS RX5 40 yX3_textOf cX3_textOf 1 (some (.object "java/lang/String")) 1 :=
  ⟨fun w hw => by
    rcases (show w = _ ∨ w = _ ∨ w = _ ∨ w = _ by simpa [va_wsS] using hw) with rfl | rfl | rfl | rfl
    · exact gw_of (List.mem_of_getElem? (i := 407) (by decide +kernel)) (by decide +kernel)
    · exact gw_of (List.mem_of_getElem? (i := 408) (by decide +kernel)) (by decide +kernel)
    · exact gw_of (List.mem_of_getElem? (i := 68) (by decide +kernel)) (by decide +kernel)
    · exact gw_of (List.mem_of_getElem? (i := 409) (by decide +kernel)) (by decide +kernel), by decide, by decide, by decide +kernel⟩
theorem lkX5_46 : LkV RX5 46 RJ0 yJ0_length_8abf5 cJ0_length_8abf5 1 (some .int) 0 :=
  ⟨fun w hw => by
    rcases (show w = _ ∨ w = _ ∨ w = _ ∨ w = _ ∨ w = _ by simpa [wsV] using hw) with rfl | rfl | rfl | rfl | rfl
    · exact gw_of (List.mem_of_getElem? (i := 424) (by decide +kernel)) (by decide +kernel)
    · exact gw_of (List.mem_of_getElem? (i := 425) (by decide +kernel)) (by decide +kernel)
    · exact gw_of (List.mem_of_getElem? (i := 426) (by decide +kernel)) (by decide +kernel)
    · exact gw_of (List.mem_of_getElem? (i := 63) (by decide +kernel)) (by decide +kernel)
    · exact gw_of (List.mem_of_getElem? (i := 427) (by decide +kernel)) (by decide +kernel), rfl, by decide, by decide, by decide +kernel⟩
theorem lkX5_51 : LkV RX5 51 RJ0 yJ0_charAt_5068e cJ0_charAt_5068e 2 (some .char) 1 :=
  ⟨fun w hw => by
    rcases (show w = _ ∨ w = _ ∨ w = _ ∨ w = _ ∨ w = _ by simpa [wsV] using hw) with rfl | rfl | rfl | rfl | rfl
    · exact gw_of (List.mem_of_getElem? (i := 432) (by decide +kernel)) (by decide +kernel)
    · exact gw_of (List.mem_of_getElem? (i := 367) (by decide +kernel)) (by decide +kernel)
    · exact gw_of (List.mem_of_getElem? (i := 368) (by decide +kernel)) (by decide +kernel)
    · exact gw_of (List.mem_of_getElem? (i := 63) (by decide +kernel)) (by decide +kernel)
    · exact gw_of (List.mem_of_getElem? (i := 369) (by decide +kernel)) (by decide +kernel), rfl, by decide, by decide, by decide +kernel⟩
theorem lkX5_58 : LkS RX5 58 yX4_sharpsOf cX4_sharpsOf 1 (some .int) 1 :=
  ⟨fun w hw => by
    rcases (show w = _ ∨ w = _ ∨ w = _ ∨ w = _ by simpa [va_wsS] using hw) with rfl | rfl | rfl | rfl
    · exact gw_of (List.mem_of_getElem? (i := 353) (by decide +kernel)) (by decide +kernel)
    · exact gw_of (List.mem_of_getElem? (i := 354) (by decide +kernel)) (by decide +kernel)
    · exact gw_of (List.mem_of_getElem? (i := 62) (by decide +kernel)) (by decide +kernel)
    · exact gw_of (List.mem_of_getElem? (i := 355) (by decide +kernel)) (by decide +kernel), by decide, by decide, by decide +kernel⟩
theorem lkX5_64 : LkS RX5 64 yX4_letterOf cX4_letterOf 1 (some .char) 1 :=
  ⟨fun w hw => by
    rcases (show w = _ ∨ w = _ ∨ w = _ ∨ w = _ by simpa [va_wsS] using hw) with rfl | rfl | rfl | rfl
    · exact gw_of (List.mem_of_getElem? (i := 359) (by decide +kernel)) (by decide +kernel)
    · exact gw_of (List.mem_of_getElem? (i := 360) (by decide +kernel)) (by decide +kernel)
    · exact gw_of (List.mem_of_getElem? (i := 62) (by decide +kernel)) (by decide +kernel)
    · exact gw_of (List.mem_of_getElem? (i := 361) (by decide +kernel)) (by decide +kernel), by decide, by decide, by decide +kernel⟩
theorem lkX5_67 : LkV RX5 67 RX5 yX5_putMany cX5_putMany 4 none 2 :=
  ⟨fun w hw => by
    rcases (show w = _ ∨ w = _ ∨ w = _ ∨ w = _ ∨ w = _ by simpa [wsV] using hw) with rfl | rfl | rfl | rfl | rfl
    · exact gw_of (List.mem_of_getElem? (i := 406) (by decide +kernel)) (by decide +kernel)
    · exact gw_of (List.mem_of_getElem? (i := 341) (by decide +kernel)) (by decide +kernel)
    · exact gw_of (List.mem_of_getElem? (i := 342) (by decide +kernel)) (by decide +kernel)
    · exact gw_of (List.mem_of_getElem? (i := 50) (by decide +kernel)) (by decide +kernel)
    · exact gw_of (List.mem_of_getElem? (i := 343) (by decide +kernel)) (by decide +kernel), rfl, by decide, by decide, by decide +kernel⟩
theorem lkX9_21 : LkV RX9 21 RX5 yX5_put cX5_put 2 none 1 :=
  ⟨fun w hw => by
    rcases (show w = _ ∨ w = _ ∨ w = _ ∨ w = _ ∨ w = _ by simpa [wsV] using hw) with rfl | rfl | rfl | rfl | rfl
    · exact gw_of (List.mem_of_getElem? (i := 317) (by decide +kernel)) (by decide +kernel)
    · exact gw_of (List.mem_of_getElem? (i := 318) (by decide +kernel)) (by decide +kernel)
    · exact gw_of (List.mem_of_getElem? (i := 319) (by decide +kernel)) (by decide +kernel)
    · exact gw_of (List.mem_of_getElem? (i := 50) (by decide +kernel)) (by decide +kernel)
    · exact gw_of (List.mem_of_getElem? (i := 320) (by decide +kernel)) (by decide +kernel), rfl, by decide, by decide, by decide +kernel⟩
theorem lkX9_27 : LkV RX9 27 RX8 yX8_endOfLine cX8_endOfLine 3 (some .int) 1 :=
  ⟨fun w hw => by
    rcases (show w = _ ∨ w = _ ∨ w = _ ∨ w = _ ∨ w = _ by simpa [wsV] using hw) with rfl | rfl | rfl | rfl | rfl
    · exact gw_of (List.mem_of_getElem? (i := 321) (by decide +kernel)) (by decide +kernel)
    · exact gw_of (List.mem_of_getElem? (i := 322) (by decide +kernel)) (by decide +kernel)
    · exact gw_of (List.mem_of_getElem? (i := 323) (by decide +kernel)) (by decide +kernel)
    · exact gw_of (List.mem_of_getElem? (i := 49) (by decide +kernel)) (by decide +kernel)
    · exact gw_of (List.mem_of_getElem? (i := 324) (by decide +kernel)) (by decide +kernel), rfl, by decide, by decide, by decide +kernel⟩
theorem lkX9_31 : LkV RX9 31 RX8 yX8_chordsStandIn cX8_chordsStandIn 4 (some .boolean) 2 :=
  ⟨fun w hw => by
    rcases (show w = _ ∨ w = _ ∨ w = _ ∨ w = _ ∨ w = _ by simpa [wsV] using hw) with rfl | rfl | rfl | rfl | rfl
    · exact gw_of (List.mem_of_getElem? (i := 325) (by decide +kernel)) (by decide +kernel)
    · exact gw_of (List.mem_of_getElem? (i := 326) (by decide +kernel)) (by decide +kernel)
    · exact gw_of (List.mem_of_getElem? (i := 327) (by decide +kernel)) (by decide +kernel)
    · exact gw_of (List.mem_of_getElem? (i := 49) (by decide +kernel)) (by decide +kernel)
    · exact gw_of (List.mem_of_getElem? (i := 328) (by decide +kernel)) (by decide +kernel), rfl, by decide, by decide, by decide +kernel⟩
theorem lkX9_35 : LkV RX9 35 RX9 yX9_putNames cX9_putNames 11 none 4 :=
  ⟨fun w hw => by
    rcases (show w = _ ∨ w = _ ∨ w = _ ∨ w = _ ∨ w = _ by simpa [wsV] using hw) with rfl | rfl | rfl | rfl | rfl
    · exact gw_of (List.mem_of_getElem? (i := 329) (by decide +kernel)) (by decide +kernel)
    · exact gw_of (List.mem_of_getElem? (i := 331) (by decide +kernel)) (by decide +kernel)
    · exact gw_of (List.mem_of_getElem? (i := 1) (by decide +kernel)) (by decide +kernel)
    · exact gw_of (List.mem_of_getElem? (i := 51) (by decide +kernel)) (by decide +kernel)
    · exact gw_of (List.mem_of_getElem? (i := 332) (by decide +kernel)) (by decide +kernel), rfl, by decide, by decide, by decide +kernel⟩
theorem lkX9_39 : LkV RX9 39 RX9 yX9_putWords cX9_putWords 10 none 4 :=
  ⟨fun w hw => by
    rcases (show w = _ ∨ w = _ ∨ w = _ ∨ w = _ ∨ w = _ by simpa [wsV] using hw) with rfl | rfl | rfl | rfl | rfl
    · exact gw_of (List.mem_of_getElem? (i := 433) (by decide +kernel)) (by decide +kernel)
    · exact gw_of (List.mem_of_getElem? (i := 435) (by decide +kernel)) (by decide +kernel)
    · exact gw_of (List.mem_of_getElem? (i := 3) (by decide +kernel)) (by decide +kernel)
    · exact gw_of (List.mem_of_getElem? (i := 51) (by decide +kernel)) (by decide +kernel)
    · exact gw_of (List.mem_of_getElem? (i := 436) (by decide +kernel)) (by decide +kernel), rfl, by decide, by decide, by decide +kernel⟩
theorem lkX9_48 : LkV RX9 48 RX8 yX8_hasChord cX8_hasChord 2 (some .boolean) 1 :=
  ⟨fun w hw => by
    rcases (show w = _ ∨ w = _ ∨ w = _ ∨ w = _ ∨ w = _ by simpa [wsV] using hw) with rfl | rfl | rfl | rfl | rfl
    · exact gw_of (List.mem_of_getElem? (i := 333) (by decide +kernel)) (by decide +kernel)
    · exact gw_of (List.mem_of_getElem? (i := 334) (by decide +kernel)) (by decide +kernel)
    · exact gw_of (List.mem_of_getElem? (i := 335) (by decide +kernel)) (by decide +kernel)
    · exact gw_of (List.mem_of_getElem? (i := 49) (by decide +kernel)) (by decide +kernel)
    · exact gw_of (List.mem_of_getElem? (i := 336) (by decide +kernel)) (by decide +kernel), rfl, by decide, by decide, by decide +kernel⟩
theorem lkX9_52 : LkS RX9 52 yJ9_max_7cf53 cJ9_max_7cf53 2 (some .int) 2 :=
  ⟨fun w hw => by
    rcases (show w = _ ∨ w = _ ∨ w = _ ∨ w = _ by simpa [va_wsS] using hw) with rfl | rfl | rfl | rfl
    · exact gw_of (List.mem_of_getElem? (i := 337) (by decide +kernel)) (by decide +kernel)
    · exact gw_of (List.mem_of_getElem? (i := 338) (by decide +kernel)) (by decide +kernel)
    · exact gw_of (List.mem_of_getElem? (i := 61) (by decide +kernel)) (by decide +kernel)
    · exact gw_of (List.mem_of_getElem? (i := 339) (by decide +kernel)) (by decide +kernel), by decide, by decide, by decide +kernel⟩
theorem lkX9_58 : LkV RX9 58 RX5 yX5_putMany cX5_putMany 4 none 2 :=
  ⟨fun w hw => by
    rcases (show w = _ ∨ w = _ ∨ w = _ ∨ w = _ ∨ w = _ by simpa [wsV] using hw) with rfl | rfl | rfl | rfl | rfl
    · exact gw_of (List.mem_of_getElem? (i := 340) (by decide +kernel)) (by decide +kernel)
    · exact gw_of (List.mem_of_getElem? (i := 341) (by decide +kernel)) (by decide +kernel)
    · exact gw_of (List.mem_of_getElem? (i := 342) (by decide +kernel)) (by decide +kernel)
    · exact gw_of (List.mem_of_getElem? (i := 50) (by decide +kernel)) (by decide +kernel)
    · exact gw_of (List.mem_of_getElem? (i := 343) (by decide +kernel)) (by decide +kernel), rfl, by decide, by decide, by decide +kernel⟩
theorem lkX9_65 : LkV RX9 65 RX5 yX5_putName cX5_putName 5 none 2 :=
  ⟨fun w hw => by
    rcases (show w = _ ∨ w = _ ∨ w = _ ∨ w = _ ∨ w = _ by simpa [wsV] using hw) with rfl | rfl | rfl | rfl | rfl
    · exact gw_of (List.mem_of_getElem? (i := 345) (by decide +kernel)) (by decide +kernel)
    · exact gw_of (List.mem_of_getElem? (i := 346) (by decide +kernel)) (by decide +kernel)
    · exact gw_of (List.mem_of_getElem? (i := 347) (by decide +kernel)) (by decide +kernel)
    · exact gw_of (List.mem_of_getElem? (i := 50) (by decide +kernel)) (by decide +kernel)
    · exact gw_of (List.mem_of_getElem? (i := 348) (by decide +kernel)) (by decide +kernel), rfl, by decide, by decide, by decide +kernel⟩
theorem lkX9_69 : LkS RX9 69 yX9_isLetter cX9_isLetter 1 (some .boolean) 1 :=
  ⟨fun w hw => by
    rcases (show w = _ ∨ w = _ ∨ w = _ ∨ w = _ by simpa [va_wsS] using hw) with rfl | rfl | rfl | rfl
    · exact gw_of (List.mem_of_getElem? (i := 437) (by decide +kernel)) (by decide +kernel)
    · exact gw_of (List.mem_of_getElem? (i := 438) (by decide +kernel)) (by decide +kernel)
    · exact gw_of (List.mem_of_getElem? (i := 51) (by decide +kernel)) (by decide +kernel)
    · exact gw_of (List.mem_of_getElem? (i := 439) (by decide +kernel)) (by decide +kernel), by decide, by decide, by decide +kernel⟩
theorem lkX9_72 : LkV RX9 72 RX8 yX8_nextWordByte cX8_nextWordByte 4 (some .int) 2 :=
  ⟨fun w hw => by
    rcases (show w = _ ∨ w = _ ∨ w = _ ∨ w = _ ∨ w = _ by simpa [wsV] using hw) with rfl | rfl | rfl | rfl | rfl
    · exact gw_of (List.mem_of_getElem? (i := 440) (by decide +kernel)) (by decide +kernel)
    · exact gw_of (List.mem_of_getElem? (i := 441) (by decide +kernel)) (by decide +kernel)
    · exact gw_of (List.mem_of_getElem? (i := 442) (by decide +kernel)) (by decide +kernel)
    · exact gw_of (List.mem_of_getElem? (i := 49) (by decide +kernel)) (by decide +kernel)
    · exact gw_of (List.mem_of_getElem? (i := 443) (by decide +kernel)) (by decide +kernel), rfl, by decide, by decide, by decide +kernel⟩
theorem lkX0_25 : LkV RX0 25 RX8 yX8_tonesOf cX8_tonesOf 3 (some .int) 1 :=
  ⟨fun w hw => by
    rcases (show w = _ ∨ w = _ ∨ w = _ ∨ w = _ ∨ w = _ by simpa [wsV] using hw) with rfl | rfl | rfl | rfl | rfl
    · exact gw_of (List.mem_of_getElem? (i := 480) (by decide +kernel)) (by decide +kernel)
    · exact gw_of (List.mem_of_getElem? (i := 481) (by decide +kernel)) (by decide +kernel)
    · exact gw_of (List.mem_of_getElem? (i := 482) (by decide +kernel)) (by decide +kernel)
    · exact gw_of (List.mem_of_getElem? (i := 49) (by decide +kernel)) (by decide +kernel)
    · exact gw_of (List.mem_of_getElem? (i := 483) (by decide +kernel)) (by decide +kernel), rfl, by decide, by decide, by decide +kernel⟩
theorem lkX0_34 : LkV RX0 34 RX8 yX8_neededOf cX8_neededOf 4 (some .int) 2 :=
  ⟨fun w hw => by
    rcases (show w = _ ∨ w = _ ∨ w = _ ∨ w = _ ∨ w = _ by simpa [wsV] using hw) with rfl | rfl | rfl | rfl | rfl
    · exact gw_of (List.mem_of_getElem? (i := 489) (by decide +kernel)) (by decide +kernel)
    · exact gw_of (List.mem_of_getElem? (i := 490) (by decide +kernel)) (by decide +kernel)
    · exact gw_of (List.mem_of_getElem? (i := 491) (by decide +kernel)) (by decide +kernel)
    · exact gw_of (List.mem_of_getElem? (i := 49) (by decide +kernel)) (by decide +kernel)
    · exact gw_of (List.mem_of_getElem? (i := 492) (by decide +kernel)) (by decide +kernel), rfl, by decide, by decide, by decide +kernel⟩
theorem lkX0_44 : LkS RX0 44 yX4_toneOf cX4_toneOf 1 (some .int) 1 :=
  ⟨fun w hw => by
    rcases (show w = _ ∨ w = _ ∨ w = _ ∨ w = _ by simpa [va_wsS] using hw) with rfl | rfl | rfl | rfl
    · exact gw_of (List.mem_of_getElem? (i := 499) (by decide +kernel)) (by decide +kernel)
    · exact gw_of (List.mem_of_getElem? (i := 474) (by decide +kernel)) (by decide +kernel)
    · exact gw_of (List.mem_of_getElem? (i := 62) (by decide +kernel)) (by decide +kernel)
    · exact gw_of (List.mem_of_getElem? (i := 475) (by decide +kernel)) (by decide +kernel), by decide, by decide, by decide +kernel⟩
theorem lkX0_55 : LkV RX0 55 RX0 yX0_layFrom cX0_layFrom 3 none 1 :=
  ⟨fun w hw => by
    rcases (show w = _ ∨ w = _ ∨ w = _ ∨ w = _ ∨ w = _ by simpa [wsV] using hw) with rfl | rfl | rfl | rfl | rfl
    · exact gw_of (List.mem_of_getElem? (i := 500) (by decide +kernel)) (by decide +kernel)
    · exact gw_of (List.mem_of_getElem? (i := 502) (by decide +kernel)) (by decide +kernel)
    · exact gw_of (List.mem_of_getElem? (i := 5) (by decide +kernel)) (by decide +kernel)
    · exact gw_of (List.mem_of_getElem? (i := 52) (by decide +kernel)) (by decide +kernel)
    · exact gw_of (List.mem_of_getElem? (i := 503) (by decide +kernel)) (by decide +kernel), rfl, by decide, by decide, by decide +kernel⟩
theorem lkX0_62 : LkV RX0 62 RX0 yX0_leastIsBass cX0_leastIsBass 4 (some .boolean) 0 :=
  ⟨fun w hw => by
    rcases (show w = _ ∨ w = _ ∨ w = _ ∨ w = _ ∨ w = _ by simpa [wsV] using hw) with rfl | rfl | rfl | rfl | rfl
    · exact gw_of (List.mem_of_getElem? (i := 504) (by decide +kernel)) (by decide +kernel)
    · exact gw_of (List.mem_of_getElem? (i := 506) (by decide +kernel)) (by decide +kernel)
    · exact gw_of (List.mem_of_getElem? (i := 6) (by decide +kernel)) (by decide +kernel)
    · exact gw_of (List.mem_of_getElem? (i := 52) (by decide +kernel)) (by decide +kernel)
    · exact gw_of (List.mem_of_getElem? (i := 507) (by decide +kernel)) (by decide +kernel), rfl, by decide, by decide, by decide +kernel⟩
theorem lkX0_66 : LkV RX0 66 RX0 yX0_strainOfFirst cX0_strainOfFirst 10 (some .int) 1 :=
  ⟨fun w hw => by
    rcases (show w = _ ∨ w = _ ∨ w = _ ∨ w = _ ∨ w = _ by simpa [wsV] using hw) with rfl | rfl | rfl | rfl | rfl
    · exact gw_of (List.mem_of_getElem? (i := 508) (by decide +kernel)) (by decide +kernel)
    · exact gw_of (List.mem_of_getElem? (i := 510) (by decide +kernel)) (by decide +kernel)
    · exact gw_of (List.mem_of_getElem? (i := 7) (by decide +kernel)) (by decide +kernel)
    · exact gw_of (List.mem_of_getElem? (i := 52) (by decide +kernel)) (by decide +kernel)
    · exact gw_of (List.mem_of_getElem? (i := 511) (by decide +kernel)) (by decide +kernel), rfl, by decide, by decide, by decide +kernel⟩
theorem lkX0_69 : LkS RX0 69 yX1_of cX1_of 5 (some .int) 3 :=
  ⟨fun w hw => by
    rcases (show w = _ ∨ w = _ ∨ w = _ ∨ w = _ by simpa [va_wsS] using hw) with rfl | rfl | rfl | rfl
    · exact gw_of (List.mem_of_getElem? (i := 512) (by decide +kernel)) (by decide +kernel)
    · exact gw_of (List.mem_of_getElem? (i := 513) (by decide +kernel)) (by decide +kernel)
    · exact gw_of (List.mem_of_getElem? (i := 71) (by decide +kernel)) (by decide +kernel)
    · exact gw_of (List.mem_of_getElem? (i := 514) (by decide +kernel)) (by decide +kernel), by decide, by decide, by decide +kernel⟩
theorem lkX0_75 : LkV RX0 75 RX0 yX0_keep cX0_keep 3 none 1 :=
  ⟨fun w hw => by
    rcases (show w = _ ∨ w = _ ∨ w = _ ∨ w = _ ∨ w = _ by simpa [wsV] using hw) with rfl | rfl | rfl | rfl | rfl
    · exact gw_of (List.mem_of_getElem? (i := 518) (by decide +kernel)) (by decide +kernel)
    · exact gw_of (List.mem_of_getElem? (i := 520) (by decide +kernel)) (by decide +kernel)
    · exact gw_of (List.mem_of_getElem? (i := 8) (by decide +kernel)) (by decide +kernel)
    · exact gw_of (List.mem_of_getElem? (i := 52) (by decide +kernel)) (by decide +kernel)
    · exact gw_of (List.mem_of_getElem? (i := 521) (by decide +kernel)) (by decide +kernel), rfl, by decide, by decide, by decide +kernel⟩
theorem lkX0_78 : LkV RX0 78 RX0 yX0_toneAt cX0_toneAt 3 (some .int) 2 :=
  ⟨fun w hw => by
    rcases (show w = _ ∨ w = _ ∨ w = _ ∨ w = _ ∨ w = _ by simpa [wsV] using hw) with rfl | rfl | rfl | rfl | rfl
    · exact gw_of (List.mem_of_getElem? (i := 522) (by decide +kernel)) (by decide +kernel)
    · exact gw_of (List.mem_of_getElem? (i := 524) (by decide +kernel)) (by decide +kernel)
    · exact gw_of (List.mem_of_getElem? (i := 9) (by decide +kernel)) (by decide +kernel)
    · exact gw_of (List.mem_of_getElem? (i := 52) (by decide +kernel)) (by decide +kernel)
    · exact gw_of (List.mem_of_getElem? (i := 525) (by decide +kernel)) (by decide +kernel), rfl, by decide, by decide, by decide +kernel⟩
theorem lkX0_81 : LkV RX0 81 RX0 yX0_mayFit cX0_mayFit 3 (some .boolean) 1 :=
  ⟨fun w hw => by
    rcases (show w = _ ∨ w = _ ∨ w = _ ∨ w = _ ∨ w = _ by simpa [wsV] using hw) with rfl | rfl | rfl | rfl | rfl
    · exact gw_of (List.mem_of_getElem? (i := 526) (by decide +kernel)) (by decide +kernel)
    · exact gw_of (List.mem_of_getElem? (i := 528) (by decide +kernel)) (by decide +kernel)
    · exact gw_of (List.mem_of_getElem? (i := 10) (by decide +kernel)) (by decide +kernel)
    · exact gw_of (List.mem_of_getElem? (i := 52) (by decide +kernel)) (by decide +kernel)
    · exact gw_of (List.mem_of_getElem? (i := 529) (by decide +kernel)) (by decide +kernel), rfl, by decide, by decide, by decide +kernel⟩
theorem lkX0_85 : LkS RX0 85 yX1_strainOf cX1_strainOf 1 (some .int) 1 :=
  ⟨fun w hw => by
    rcases (show w = _ ∨ w = _ ∨ w = _ ∨ w = _ by simpa [va_wsS] using hw) with rfl | rfl | rfl | rfl
    · exact gw_of (List.mem_of_getElem? (i := 530) (by decide +kernel)) (by decide +kernel)
    · exact gw_of (List.mem_of_getElem? (i := 531) (by decide +kernel)) (by decide +kernel)
    · exact gw_of (List.mem_of_getElem? (i := 71) (by decide +kernel)) (by decide +kernel)
    · exact gw_of (List.mem_of_getElem? (i := 532) (by decide +kernel)) (by decide +kernel), by decide, by decide, by decide +kernel⟩
theorem lkX0_88 : LkV RX0 88 RX0 yX0_soundingOfFirst cX0_soundingOfFirst 4 (some .int) 1 :=
  ⟨fun w hw => by
    rcases (show w = _ ∨ w = _ ∨ w = _ ∨ w = _ ∨ w = _ by simpa [wsV] using hw) with rfl | rfl | rfl | rfl | rfl
    · exact gw_of (List.mem_of_getElem? (i := 533) (by decide +kernel)) (by decide +kernel)
    · exact gw_of (List.mem_of_getElem? (i := 535) (by decide +kernel)) (by decide +kernel)
    · exact gw_of (List.mem_of_getElem? (i := 11) (by decide +kernel)) (by decide +kernel)
    · exact gw_of (List.mem_of_getElem? (i := 52) (by decide +kernel)) (by decide +kernel)
    · exact gw_of (List.mem_of_getElem? (i := 536) (by decide +kernel)) (by decide +kernel), rfl, by decide, by decide, by decide +kernel⟩
theorem lkX0_91 : LkS RX0 91 yJ6_bitCount_0f7a4 cJ6_bitCount_0f7a4 1 (some .int) 1 :=
  ⟨fun w hw => by
    rcases (show w = _ ∨ w = _ ∨ w = _ ∨ w = _ by simpa [va_wsS] using hw) with rfl | rfl | rfl | rfl
    · exact gw_of (List.mem_of_getElem? (i := 537) (by decide +kernel)) (by decide +kernel)
    · exact gw_of (List.mem_of_getElem? (i := 494) (by decide +kernel)) (by decide +kernel)
    · exact gw_of (List.mem_of_getElem? (i := 70) (by decide +kernel)) (by decide +kernel)
    · exact gw_of (List.mem_of_getElem? (i := 495) (by decide +kernel)) (by decide +kernel), by decide, by decide, by decide +kernel⟩
theorem lkX2_18 : LkS RX2 18 yJ7_fill_53178 cJ7_fill_53178 4 none 2 :=
  ⟨fun w hw => by
    rcases (show w = _ ∨ w = _ ∨ w = _ ∨ w = _ by simpa [va_wsS] using hw) with rfl | rfl | rfl | rfl
    · exact gw_of (List.mem_of_getElem? (i := 223) (by decide +kernel)) (by decide +kernel)
    · exact gw_of (List.mem_of_getElem? (i := 224) (by decide +kernel)) (by decide +kernel)
    · exact gw_of (List.mem_of_getElem? (i := 54) (by decide +kernel)) (by decide +kernel)
    · exact gw_of (List.mem_of_getElem? (i := 225) (by decide +kernel)) (by decide +kernel), by decide, by decide, by decide +kernel⟩
theorem lkX2_24 : LkV RX2 24 RX8 yX8_firstLike cX8_firstLike 3 (some .int) 1 :=
  ⟨fun w hw => by
    rcases (show w = _ ∨ w = _ ∨ w = _ ∨ w = _ ∨ w = _ by simpa [wsV] using hw) with rfl | rfl | rfl | rfl | rfl
    · exact gw_of (List.mem_of_getElem? (i := 469) (by decide +kernel)) (by decide +kernel)
    · exact gw_of (List.mem_of_getElem? (i := 470) (by decide +kernel)) (by decide +kernel)
    · exact gw_of (List.mem_of_getElem? (i := 471) (by decide +kernel)) (by decide +kernel)
    · exact gw_of (List.mem_of_getElem? (i := 49) (by decide +kernel)) (by decide +kernel)
    · exact gw_of (List.mem_of_getElem? (i := 472) (by decide +kernel)) (by decide +kernel), rfl, by decide, by decide, by decide +kernel⟩
theorem lkX2_30 : LkV RX2 30 RX0 yX0_search cX0_search 4 none 3 :=
  ⟨fun w hw => by
    rcases (show w = _ ∨ w = _ ∨ w = _ ∨ w = _ ∨ w = _ by simpa [wsV] using hw) with rfl | rfl | rfl | rfl | rfl
    · exact gw_of (List.mem_of_getElem? (i := 476) (by decide +kernel)) (by decide +kernel)
    · exact gw_of (List.mem_of_getElem? (i := 477) (by decide +kernel)) (by decide +kernel)
    · exact gw_of (List.mem_of_getElem? (i := 478) (by decide +kernel)) (by decide +kernel)
    · exact gw_of (List.mem_of_getElem? (i := 52) (by decide +kernel)) (by decide +kernel)
    · exact gw_of (List.mem_of_getElem? (i := 479) (by decide +kernel)) (by decide +kernel), rfl, by decide, by decide, by decide +kernel⟩
theorem lkX6_30 : LkV RX6 30 RX2 yX2_pageOf cX2_pageOf 7 (some .int) 4 :=
  ⟨fun w hw => by
    rcases (show w = _ ∨ w = _ ∨ w = _ ∨ w = _ ∨ w = _ by simpa [wsV] using hw) with rfl | rfl | rfl | rfl | rfl
    · exact gw_of (List.mem_of_getElem? (i := 465) (by decide +kernel)) (by decide +kernel)
    · exact gw_of (List.mem_of_getElem? (i := 466) (by decide +kernel)) (by decide +kernel)
    · exact gw_of (List.mem_of_getElem? (i := 467) (by decide +kernel)) (by decide +kernel)
    · exact gw_of (List.mem_of_getElem? (i := 53) (by decide +kernel)) (by decide +kernel)
    · exact gw_of (List.mem_of_getElem? (i := 468) (by decide +kernel)) (by decide +kernel), rfl, by decide, by decide, by decide +kernel⟩
theorem lkX6_39 : LkV RX6 39 RX6 yX6_weigh cX6_weigh 11 none 4 :=
  ⟨fun w hw => by
    rcases (show w = _ ∨ w = _ ∨ w = _ ∨ w = _ ∨ w = _ by simpa [wsV] using hw) with rfl | rfl | rfl | rfl | rfl
    · exact gw_of (List.mem_of_getElem? (i := 541) (by decide +kernel)) (by decide +kernel)
    · exact gw_of (List.mem_of_getElem? (i := 543) (by decide +kernel)) (by decide +kernel)
    · exact gw_of (List.mem_of_getElem? (i := 12) (by decide +kernel)) (by decide +kernel)
    · exact gw_of (List.mem_of_getElem? (i := 55) (by decide +kernel)) (by decide +kernel)
    · exact gw_of (List.mem_of_getElem? (i := 544) (by decide +kernel)) (by decide +kernel), rfl, by decide, by decide, by decide +kernel⟩
theorem lkX6_49 : LkS RX6 49 yX1_change cX1_change 4 (some .int) 2 :=
  ⟨fun w hw => by
    rcases (show w = _ ∨ w = _ ∨ w = _ ∨ w = _ by simpa [va_wsS] using hw) with rfl | rfl | rfl | rfl
    · exact gw_of (List.mem_of_getElem? (i := 545) (by decide +kernel)) (by decide +kernel)
    · exact gw_of (List.mem_of_getElem? (i := 546) (by decide +kernel)) (by decide +kernel)
    · exact gw_of (List.mem_of_getElem? (i := 71) (by decide +kernel)) (by decide +kernel)
    · exact gw_of (List.mem_of_getElem? (i := 547) (by decide +kernel)) (by decide +kernel), by decide, by decide, by decide +kernel⟩
theorem lkX6_55 : LkS RX6 55 yX1_strainOf cX1_strainOf 1 (some .int) 1 :=
  ⟨fun w hw => by
    rcases (show w = _ ∨ w = _ ∨ w = _ ∨ w = _ by simpa [va_wsS] using hw) with rfl | rfl | rfl | rfl
    · exact gw_of (List.mem_of_getElem? (i := 555) (by decide +kernel)) (by decide +kernel)
    · exact gw_of (List.mem_of_getElem? (i := 531) (by decide +kernel)) (by decide +kernel)
    · exact gw_of (List.mem_of_getElem? (i := 71) (by decide +kernel)) (by decide +kernel)
    · exact gw_of (List.mem_of_getElem? (i := 532) (by decide +kernel)) (by decide +kernel), by decide, by decide, by decide +kernel⟩
theorem lkX1_11 : LkS RX1 11 yX1_shiftOf cX1_shiftOf 1 (some .int) 1 :=
  ⟨fun w hw => by
    rcases (show w = _ ∨ w = _ ∨ w = _ ∨ w = _ by simpa [va_wsS] using hw) with rfl | rfl | rfl | rfl
    · exact gw_of (List.mem_of_getElem? (i := 515) (by decide +kernel)) (by decide +kernel)
    · exact gw_of (List.mem_of_getElem? (i := 516) (by decide +kernel)) (by decide +kernel)
    · exact gw_of (List.mem_of_getElem? (i := 71) (by decide +kernel)) (by decide +kernel)
    · exact gw_of (List.mem_of_getElem? (i := 517) (by decide +kernel)) (by decide +kernel), by decide, by decide, by decide +kernel⟩
theorem lkX1_15 : LkS RX1 15 yX1_fretOf cX1_fretOf 2 (some .int) 2 :=
  ⟨fun w hw => by
    rcases (show w = _ ∨ w = _ ∨ w = _ ∨ w = _ by simpa [va_wsS] using hw) with rfl | rfl | rfl | rfl
    · exact gw_of (List.mem_of_getElem? (i := 548) (by decide +kernel)) (by decide +kernel)
    · exact gw_of (List.mem_of_getElem? (i := 549) (by decide +kernel)) (by decide +kernel)
    · exact gw_of (List.mem_of_getElem? (i := 71) (by decide +kernel)) (by decide +kernel)
    · exact gw_of (List.mem_of_getElem? (i := 550) (by decide +kernel)) (by decide +kernel), by decide, by decide, by decide +kernel⟩
theorem lkX1_19 : LkS RX1 19 yJ9_max_7cf53 cJ9_max_7cf53 2 (some .int) 2 :=
  ⟨fun w hw => by
    rcases (show w = _ ∨ w = _ ∨ w = _ ∨ w = _ by simpa [va_wsS] using hw) with rfl | rfl | rfl | rfl
    · exact gw_of (List.mem_of_getElem? (i := 551) (by decide +kernel)) (by decide +kernel)
    · exact gw_of (List.mem_of_getElem? (i := 338) (by decide +kernel)) (by decide +kernel)
    · exact gw_of (List.mem_of_getElem? (i := 61) (by decide +kernel)) (by decide +kernel)
    · exact gw_of (List.mem_of_getElem? (i := 339) (by decide +kernel)) (by decide +kernel), by decide, by decide, by decide +kernel⟩
theorem lkX1_24 : LkS RX1 24 yJ9_abs_0f7a4 cJ9_abs_0f7a4 1 (some .int) 1 :=
  ⟨fun w hw => by
    rcases (show w = _ ∨ w = _ ∨ w = _ ∨ w = _ by simpa [va_wsS] using hw) with rfl | rfl | rfl | rfl
    · exact gw_of (List.mem_of_getElem? (i := 552) (by decide +kernel)) (by decide +kernel)
    · exact gw_of (List.mem_of_getElem? (i := 553) (by decide +kernel)) (by decide +kernel)
    · exact gw_of (List.mem_of_getElem? (i := 61) (by decide +kernel)) (by decide +kernel)
    · exact gw_of (List.mem_of_getElem? (i := 554) (by decide +kernel)) (by decide +kernel), by decide, by decide, by decide +kernel⟩
theorem lkX4_7 : LkS RX4 7 yJ9_floorMod_7cf53 cJ9_floorMod_7cf53 3 (some .int) 2 :=
  ⟨fun w hw => by
    rcases (show w = _ ∨ w = _ ∨ w = _ ∨ w = _ by simpa [va_wsS] using hw) with rfl | rfl | rfl | rfl
    · exact gw_of (List.mem_of_getElem? (i := 363) (by decide +kernel)) (by decide +kernel)
    · exact gw_of (List.mem_of_getElem? (i := 364) (by decide +kernel)) (by decide +kernel)
    · exact gw_of (List.mem_of_getElem? (i := 61) (by decide +kernel)) (by decide +kernel)
    · exact gw_of (List.mem_of_getElem? (i := 365) (by decide +kernel)) (by decide +kernel), by decide, by decide, by decide +kernel⟩
theorem lkX4_17 : LkV RX4 17 RJ0 yJ0_indexOf_0f7a4 cJ0_indexOf_0f7a4 2 (some .int) 1 :=
  ⟨fun w hw => by
    rcases (show w = _ ∨ w = _ ∨ w = _ ∨ w = _ ∨ w = _ by simpa [wsV] using hw) with rfl | rfl | rfl | rfl | rfl
    · exact gw_of (List.mem_of_getElem? (i := 686) (by decide +kernel)) (by decide +kernel)
    · exact gw_of (List.mem_of_getElem? (i := 687) (by decide +kernel)) (by decide +kernel)
    · exact gw_of (List.mem_of_getElem? (i := 688) (by decide +kernel)) (by decide +kernel)
    · exact gw_of (List.mem_of_getElem? (i := 63) (by decide +kernel)) (by decide +kernel)
    · exact gw_of (List.mem_of_getElem? (i := 689) (by decide +kernel)) (by decide +kernel), rfl, by decide, by decide, by decide +kernel⟩
theorem lkX4_23 : LkV RX4 23 RJ0 yJ0_charAt_5068e cJ0_charAt_5068e 2 (some .char) 1 :=
  ⟨fun w hw => by
    rcases (show w = _ ∨ w = _ ∨ w = _ ∨ w = _ ∨ w = _ by simpa [wsV] using hw) with rfl | rfl | rfl | rfl | rfl
    · exact gw_of (List.mem_of_getElem? (i := 366) (by decide +kernel)) (by decide +kernel)
    · exact gw_of (List.mem_of_getElem? (i := 367) (by decide +kernel)) (by decide +kernel)
    · exact gw_of (List.mem_of_getElem? (i := 368) (by decide +kernel)) (by decide +kernel)
    · exact gw_of (List.mem_of_getElem? (i := 63) (by decide +kernel)) (by decide +kernel)
    · exact gw_of (List.mem_of_getElem? (i := 369) (by decide +kernel)) (by decide +kernel), rfl, by decide, by decide, by decide +kernel⟩
theorem lkX4_27 : LkS RX4 27 yJ9_floorDiv_7cf53 cJ9_floorDiv_7cf53 3 (some .int) 2 :=
  ⟨fun w hw => by
    rcases (show w = _ ∨ w = _ ∨ w = _ ∨ w = _ by simpa [va_wsS] using hw) with rfl | rfl | rfl | rfl
    · exact gw_of (List.mem_of_getElem? (i := 356) (by decide +kernel)) (by decide +kernel)
    · exact gw_of (List.mem_of_getElem? (i := 357) (by decide +kernel)) (by decide +kernel)
    · exact gw_of (List.mem_of_getElem? (i := 61) (by decide +kernel)) (by decide +kernel)
    · exact gw_of (List.mem_of_getElem? (i := 358) (by decide +kernel)) (by decide +kernel), by decide, by decide, by decide +kernel⟩
theorem lkX4_30 : LkS RX4 30 yX4_toneOf cX4_toneOf 1 (some .int) 1 :=
  ⟨fun w hw => by
    rcases (show w = _ ∨ w = _ ∨ w = _ ∨ w = _ by simpa [va_wsS] using hw) with rfl | rfl | rfl | rfl
    · exact gw_of (List.mem_of_getElem? (i := 572) (by decide +kernel)) (by decide +kernel)
    · exact gw_of (List.mem_of_getElem? (i := 474) (by decide +kernel)) (by decide +kernel)
    · exact gw_of (List.mem_of_getElem? (i := 62) (by decide +kernel)) (by decide +kernel)
    · exact gw_of (List.mem_of_getElem? (i := 475) (by decide +kernel)) (by decide +kernel), by decide, by decide, by decide +kernel⟩
abbrev sC : Type := (Nat → Nat) × (Nat → Int) × (Nat → Int → Int)
/-- the class's cells: object o at ad (20 o + 19), its rows at ad (20 o + k): 0 ChordMover, 1 Reader, 2 the song, 3 the spare one, 4 Page, 5 Writer, 6 Finder, 7 HandBook, 8 Plan -/
def wC (cI : ClassId) (u : sC) : va_W := [(u.1 19, .inr (7, [.ref (u.1 0), .int (iZ (u.2.1 1)), .ref (u.1 39), .ref (u.1 3), .ref (u.1 4), .int (iZ (u.2.1 5)), .int (iZ (u.2.1 6)), .int (iZ (u.2.1 7)), .ref (u.1 99), .ref (u.1 119), .ref (u.1 139), .ref (u.1 159), .ref (u.1 179)])), (u.1 0, .inl (cI, 1200, .inl (zrow (u.2.2 0)))), (u.1 39, .inr (4, [.ref (u.1 20), .int (iZ (u.2.1 21)), .int (iZ (u.2.1 22)), .int (iZ (u.2.1 23)), .int (iZ (u.2.1 24))])), (u.1 59, .inr (5, [.ref (u.1 40), .int (iZ (u.2.1 41)), .int (iZ (u.2.1 42)), .int (iZ (u.2.1 43)), .ref (u.1 44), .ref (u.1 45), .ref (u.1 46), .ref (u.1 47)])), (u.1 40, .inl (cI, 1200, .inl (zrow (u.2.2 40)))), (u.1 44, .inl (cI, 60, .inl (zrow (u.2.2 44)))), (u.1 45, .inl (cI, 60, .inl (zrow (u.2.2 45)))), (u.1 46, .inl (cI, 60, .inl (zrow (u.2.2 46)))), (u.1 47, .inl (cI, 60, .inl (zrow (u.2.2 47)))), (u.1 79, .inr (5, [.ref (u.1 60), .int (iZ (u.2.1 61)), .int (iZ (u.2.1 62)), .int (iZ (u.2.1 63)), .ref (u.1 64), .ref (u.1 65), .ref (u.1 66), .ref (u.1 67)])), (u.1 60, .inl (cI, 1200, .inl (zrow (u.2.2 60)))), (u.1 64, .inl (cI, 60, .inl (zrow (u.2.2 64)))), (u.1 65, .inl (cI, 60, .inl (zrow (u.2.2 65)))), (u.1 66, .inl (cI, 60, .inl (zrow (u.2.2 66)))), (u.1 67, .inl (cI, 60, .inl (zrow (u.2.2 67)))), (u.1 99, .inr (2, [.ref (u.1 80), .int (iZ (u.2.1 81))])), (u.1 80, .inl (cI, 4000, .inl (zrow (u.2.2 80)))), (u.1 119, .inr (6, [.ref (u.1 100)])), (u.1 100, .inl (cI, 60, .inl (zrow (u.2.2 100)))), (u.1 139, .inr (0, [.ref (u.1 120), .int (iZ (u.2.1 121)), .ref (u.1 122), .int (iZ (u.2.1 123)), .ref (u.1 124), .int (iZ (u.2.1 125)), .int (iZ (u.2.1 126)), .int (iZ (u.2.1 127)), .int (iZ (u.2.1 128))])), (u.1 120, .inl (cI, 6, .inl (zrow (u.2.2 120)))), (u.1 122, .inl (cI, 6, .inl (zrow (u.2.2 122)))), (u.1 124, .inl (cI, 6, .inl (zrow (u.2.2 124)))), (u.1 159, .inr (1, [.ref (u.1 140), .ref (u.1 141)])), (u.1 140, .inl (cI, 2880, .inl (zrow (u.2.2 140)))), (u.1 141, .inl (cI, 480, .inl (zrow (u.2.2 141)))), (u.1 179, .inr (3, [.ref (u.1 160), .ref (u.1 161), .int (iZ (u.2.1 162)), .ref (u.1 163), .int (iZ (u.2.1 164))])), (u.1 160, .inl (cI, 360, .inl (zrow (u.2.2 160)))), (u.1 161, .inl (cI, 360, .inl (zrow (u.2.2 161)))), (u.1 163, .inl (cI, 60, .inl (zrow (u.2.2 163))))]
abbrev CC (l : Launch) (D : va_G) (cI : ClassId) (O : OT) (y : MethodName) (cc : ByteArray) (n : Nat) (rt : Option FieldType) (lev : Nat) (as : List Value) (u : sC) (post : Option Value → sC → Prop) : Prop := Ct l y cc n rt (rL lev) D [(cI, .int)] O (wC cI) as u post
section CROWS
variable {l : Launch} {R : Room} {cc : ByteArray} {nL : Nat} {rt : Option FieldType} {D : va_G} {cI : ClassId} {ad : Nat → Nat} {O : OT} {post : Option Value → sC → Prop} {X : CtxT} {J : KT sC}
variable {pc : Nat} {lv : List (Option Value)} {st : List Value} {I : Nat → Int} {A : Nat → Int → Int}
theorem kX10_9 : Cond.fieldLink RX10 9 "ChordMover" "tape" "[I" ∈ gw := gw_of (List.mem_of_getElem? (i := 261) (by decide +kernel)) (by decide +kernel)
theorem cgX10_9 (hJ : Snd l R cc nL RX10 rt D [(cI, .int)] O (wC cI) post X J) (d : decode cc pc = .ok (.getfield 9, 3)) (k : J (pc + 3) lv (.ref (ad 0) :: st) (ad, I, A)) : J pc lv (.ref (ad 19) :: st) (ad, I, A) := v_getf (q0 := 0) (ci := 7) (fk := 0) (v := .ref (ad 0)) hJ rfl rfl inX10g (by decide) kX10_9 rfl d k
theorem kX10_16 : Cond.fieldLink RX10 16 "ChordMover" "reader" "LChordMover$Reader;" ∈ gw := gw_of (List.mem_of_getElem? (i := 263) (by decide +kernel)) (by decide +kernel)
theorem cgX10_16 (hJ : Snd l R cc nL RX10 rt D [(cI, .int)] O (wC cI) post X J) (d : decode cc pc = .ok (.getfield 16, 3)) (k : J (pc + 3) lv (.ref (ad 39) :: st) (ad, I, A)) : J pc lv (.ref (ad 19) :: st) (ad, I, A) := v_getf (q0 := 0) (ci := 7) (fk := 2) (v := .ref (ad 39)) hJ rfl rfl inX10g (by decide) kX10_16 rfl d k
theorem kX10_23 : Cond.fieldLink RX10 23 "ChordMover" "current" "LChordMover$Song;" ∈ gw := gw_of (List.mem_of_getElem? (i := 264) (by decide +kernel)) (by decide +kernel)
theorem cgX10_23 (hJ : Snd l R cc nL RX10 rt D [(cI, .int)] O (wC cI) post X J) (d : decode cc pc = .ok (.getfield 23, 3)) (k : J (pc + 3) lv (.ref (ad 3) :: st) (ad, I, A)) : J pc lv (.ref (ad 19) :: st) (ad, I, A) := v_getf (q0 := 0) (ci := 7) (fk := 3) (v := .ref (ad 3)) hJ rfl rfl inX10g (by decide) kX10_23 rfl d k
theorem cpX10_23 (hJ : Snd l R cc nL RX10 rt D [(cI, .int)] O (wC cI) post X J) {x : Nat} (d : decode cc pc = .ok (.putfield 23, 3)) (k : J (pc + 3) lv st (va_up ad 3 x, I, A)) : J pc lv (.ref x :: .ref (ad 19) :: st) (ad, I, A) := v_putf (q0 := 0) (ci := 7) (fk := 3) hJ rfl rfl inX10g tyX10_ok nmX10 (by decide) kX10_23 rfl rfl rfl (Nat.le_of_ble_eq_true rfl) rfl d k
theorem kX10_27 : Cond.fieldLink RX10 27 "ChordMover" "spare" "LChordMover$Song;" ∈ gw := gw_of (List.mem_of_getElem? (i := 265) (by decide +kernel)) (by decide +kernel)
theorem cgX10_27 (hJ : Snd l R cc nL RX10 rt D [(cI, .int)] O (wC cI) post X J) (d : decode cc pc = .ok (.getfield 27, 3)) (k : J (pc + 3) lv (.ref (ad 4) :: st) (ad, I, A)) : J pc lv (.ref (ad 19) :: st) (ad, I, A) := v_getf (q0 := 0) (ci := 7) (fk := 4) (v := .ref (ad 4)) hJ rfl rfl inX10g (by decide) kX10_27 rfl d k
theorem cpX10_27 (hJ : Snd l R cc nL RX10 rt D [(cI, .int)] O (wC cI) post X J) {x : Nat} (d : decode cc pc = .ok (.putfield 27, 3)) (k : J (pc + 3) lv st (va_up ad 4 x, I, A)) : J pc lv (.ref x :: .ref (ad 19) :: st) (ad, I, A) := v_putf (q0 := 0) (ci := 7) (fk := 4) hJ rfl rfl inX10g tyX10_ok nmX10 (by decide) kX10_27 rfl rfl rfl (Nat.le_of_ble_eq_true rfl) rfl d k
theorem kX10_30 : Cond.fieldLink RX10 30 "ChordMover" "latestPlace" "I" ∈ gw := gw_of (List.mem_of_getElem? (i := 267) (by decide +kernel)) (by decide +kernel)
theorem cgX10_30 (hJ : Snd l R cc nL RX10 rt D [(cI, .int)] O (wC cI) post X J) (d : decode cc pc = .ok (.getfield 30, 3)) (k : J (pc + 3) lv (.int (iZ (I 6)) :: st) (ad, I, A)) : J pc lv (.ref (ad 19) :: st) (ad, I, A) := v_getf (q0 := 0) (ci := 7) (fk := 6) (v := .int (iZ (I 6))) hJ rfl rfl inX10g (by decide) kX10_30 rfl d k
theorem cpX10_30 (hJ : Snd l R cc nL RX10 rt D [(cI, .int)] O (wC cI) post X J) {x : Int} (d : decode cc pc = .ok (.putfield 30, 3)) (k : J (pc + 3) lv st (ad, va_up I 6 x, A)) : J pc lv (.int (iZ x) :: .ref (ad 19) :: st) (ad, I, A) := v_putf (q0 := 0) (ci := 7) (fk := 6) hJ rfl rfl inX10g tyX10_ok nmX10 (by decide) kX10_30 rfl rfl rfl (Nat.le_of_ble_eq_true rfl) rfl d k
theorem kX10_37 : Cond.fieldLink RX10 37 "ChordMover" "out" "LChordMover$Page;" ∈ gw := gw_of (List.mem_of_getElem? (i := 269) (by decide +kernel)) (by decide +kernel)
theorem cgX10_37 (hJ : Snd l R cc nL RX10 rt D [(cI, .int)] O (wC cI) post X J) (d : decode cc pc = .ok (.getfield 37, 3)) (k : J (pc + 3) lv (.ref (ad 99) :: st) (ad, I, A)) : J pc lv (.ref (ad 19) :: st) (ad, I, A) := v_getf (q0 := 0) (ci := 7) (fk := 8) (v := .ref (ad 99)) hJ rfl rfl inX10g (by decide) kX10_37 rfl d k
theorem kX10_44 : Cond.fieldLink RX10 44 "ChordMover" "writer" "LChordMover$Writer;" ∈ gw := gw_of (List.mem_of_getElem? (i := 270) (by decide +kernel)) (by decide +kernel)
theorem cgX10_44 (hJ : Snd l R cc nL RX10 rt D [(cI, .int)] O (wC cI) post X J) (d : decode cc pc = .ok (.getfield 44, 3)) (k : J (pc + 3) lv (.ref (ad 119) :: st) (ad, I, A)) : J pc lv (.ref (ad 19) :: st) (ad, I, A) := v_getf (q0 := 0) (ci := 7) (fk := 9) (v := .ref (ad 119)) hJ rfl rfl inX10g (by decide) kX10_44 rfl d k
theorem kX10_51 : Cond.fieldLink RX10 51 "ChordMover" "finder" "LChordMover$Finder;" ∈ gw := gw_of (List.mem_of_getElem? (i := 271) (by decide +kernel)) (by decide +kernel)
theorem cgX10_51 (hJ : Snd l R cc nL RX10 rt D [(cI, .int)] O (wC cI) post X J) (d : decode cc pc = .ok (.getfield 51, 3)) (k : J (pc + 3) lv (.ref (ad 139) :: st) (ad, I, A)) : J pc lv (.ref (ad 19) :: st) (ad, I, A) := v_getf (q0 := 0) (ci := 7) (fk := 10) (v := .ref (ad 139)) hJ rfl rfl inX10g (by decide) kX10_51 rfl d k
theorem kX10_58 : Cond.fieldLink RX10 58 "ChordMover" "book" "LChordMover$HandBook;" ∈ gw := gw_of (List.mem_of_getElem? (i := 272) (by decide +kernel)) (by decide +kernel)
theorem cgX10_58 (hJ : Snd l R cc nL RX10 rt D [(cI, .int)] O (wC cI) post X J) (d : decode cc pc = .ok (.getfield 58, 3)) (k : J (pc + 3) lv (.ref (ad 159) :: st) (ad, I, A)) : J pc lv (.ref (ad 19) :: st) (ad, I, A) := v_getf (q0 := 0) (ci := 7) (fk := 11) (v := .ref (ad 159)) hJ rfl rfl inX10g (by decide) kX10_58 rfl d k
theorem kX10_65 : Cond.fieldLink RX10 65 "ChordMover" "plan" "LChordMover$Plan;" ∈ gw := gw_of (List.mem_of_getElem? (i := 273) (by decide +kernel)) (by decide +kernel)
theorem cgX10_65 (hJ : Snd l R cc nL RX10 rt D [(cI, .int)] O (wC cI) post X J) (d : decode cc pc = .ok (.getfield 65, 3)) (k : J (pc + 3) lv (.ref (ad 179) :: st) (ad, I, A)) : J pc lv (.ref (ad 19) :: st) (ad, I, A) := v_getf (q0 := 0) (ci := 7) (fk := 12) (v := .ref (ad 179)) hJ rfl rfl inX10g (by decide) kX10_65 rfl d k
theorem kX10_69 : Cond.fieldLink RX10 69 "ChordMover" "tapeLength" "I" ∈ gw := gw_of (List.mem_of_getElem? (i := 262) (by decide +kernel)) (by decide +kernel)
theorem cgX10_69 (hJ : Snd l R cc nL RX10 rt D [(cI, .int)] O (wC cI) post X J) (d : decode cc pc = .ok (.getfield 69, 3)) (k : J (pc + 3) lv (.int (iZ (I 1)) :: st) (ad, I, A)) : J pc lv (.ref (ad 19) :: st) (ad, I, A) := v_getf (q0 := 0) (ci := 7) (fk := 1) (v := .int (iZ (I 1))) hJ rfl rfl inX10g (by decide) kX10_69 rfl d k
theorem cpX10_69 (hJ : Snd l R cc nL RX10 rt D [(cI, .int)] O (wC cI) post X J) {x : Int} (d : decode cc pc = .ok (.putfield 69, 3)) (k : J (pc + 3) lv st (ad, va_up I 1 x, A)) : J pc lv (.int (iZ x) :: .ref (ad 19) :: st) (ad, I, A) := v_putf (q0 := 0) (ci := 7) (fk := 1) hJ rfl rfl inX10g tyX10_ok nmX10 (by decide) kX10_69 rfl rfl rfl (Nat.le_of_ble_eq_true rfl) rfl d k
theorem kX10_87 : Cond.fieldLink RX10 87 "ChordMover$Reader" "fault" "I" ∈ gw := gw_of (List.mem_of_getElem? (i := 91) (by decide +kernel)) (by decide +kernel)
theorem cgX10_87 (hJ : Snd l R cc nL RX10 rt D [(cI, .int)] O (wC cI) post X J) (d : decode cc pc = .ok (.getfield 87, 3)) (k : J (pc + 3) lv (.int (iZ (I 23)) :: st) (ad, I, A)) : J pc lv (.ref (ad 39) :: st) (ad, I, A) := v_getf (q0 := 2) (ci := 4) (fk := 3) (v := .int (iZ (I 23))) hJ rfl rfl inX7g (by decide) kX10_87 rfl d k
theorem cpX10_87 (hJ : Snd l R cc nL RX10 rt D [(cI, .int)] O (wC cI) post X J) {x : Int} (d : decode cc pc = .ok (.putfield 87, 3)) (k : J (pc + 3) lv st (ad, va_up I 23 x, A)) : J pc lv (.int (iZ x) :: .ref (ad 39) :: st) (ad, I, A) := v_putf (q0 := 2) (ci := 4) (fk := 3) hJ rfl rfl inX7g tyX7_ok nmX7 (by decide) kX10_87 rfl rfl rfl (Nat.le_of_ble_eq_true rfl) rfl d k
theorem kX10_90 : Cond.fieldLink RX10 90 "ChordMover" "latestFault" "I" ∈ gw := gw_of (List.mem_of_getElem? (i := 266) (by decide +kernel)) (by decide +kernel)
theorem cgX10_90 (hJ : Snd l R cc nL RX10 rt D [(cI, .int)] O (wC cI) post X J) (d : decode cc pc = .ok (.getfield 90, 3)) (k : J (pc + 3) lv (.int (iZ (I 5)) :: st) (ad, I, A)) : J pc lv (.ref (ad 19) :: st) (ad, I, A) := v_getf (q0 := 0) (ci := 7) (fk := 5) (v := .int (iZ (I 5))) hJ rfl rfl inX10g (by decide) kX10_90 rfl d k
theorem cpX10_90 (hJ : Snd l R cc nL RX10 rt D [(cI, .int)] O (wC cI) post X J) {x : Int} (d : decode cc pc = .ok (.putfield 90, 3)) (k : J (pc + 3) lv st (ad, va_up I 5 x, A)) : J pc lv (.int (iZ x) :: .ref (ad 19) :: st) (ad, I, A) := v_putf (q0 := 0) (ci := 7) (fk := 5) hJ rfl rfl inX10g tyX10_ok nmX10 (by decide) kX10_90 rfl rfl rfl (Nat.le_of_ble_eq_true rfl) rfl d k
theorem kX10_93 : Cond.fieldLink RX10 93 "ChordMover$Reader" "place" "I" ∈ gw := gw_of (List.mem_of_getElem? (i := 93) (by decide +kernel)) (by decide +kernel)
theorem cgX10_93 (hJ : Snd l R cc nL RX10 rt D [(cI, .int)] O (wC cI) post X J) (d : decode cc pc = .ok (.getfield 93, 3)) (k : J (pc + 3) lv (.int (iZ (I 24)) :: st) (ad, I, A)) : J pc lv (.ref (ad 39) :: st) (ad, I, A) := v_getf (q0 := 2) (ci := 4) (fk := 4) (v := .int (iZ (I 24))) hJ rfl rfl inX7g (by decide) kX10_93 rfl d k
theorem cpX10_93 (hJ : Snd l R cc nL RX10 rt D [(cI, .int)] O (wC cI) post X J) {x : Int} (d : decode cc pc = .ok (.putfield 93, 3)) (k : J (pc + 3) lv st (ad, va_up I 24 x, A)) : J pc lv (.int (iZ x) :: .ref (ad 39) :: st) (ad, I, A) := v_putf (q0 := 2) (ci := 4) (fk := 4) hJ rfl rfl inX7g tyX7_ok nmX7 (by decide) kX10_93 rfl rfl rfl (Nat.le_of_ble_eq_true rfl) rfl d k
theorem kX10_106 : Cond.fieldLink RX10 106 "ChordMover" "keyNow" "I" ∈ gw := gw_of (List.mem_of_getElem? (i := 268) (by decide +kernel)) (by decide +kernel)
theorem cgX10_106 (hJ : Snd l R cc nL RX10 rt D [(cI, .int)] O (wC cI) post X J) (d : decode cc pc = .ok (.getfield 106, 3)) (k : J (pc + 3) lv (.int (iZ (I 7)) :: st) (ad, I, A)) : J pc lv (.ref (ad 19) :: st) (ad, I, A) := v_getf (q0 := 0) (ci := 7) (fk := 7) (v := .int (iZ (I 7))) hJ rfl rfl inX10g (by decide) kX10_106 rfl d k
theorem cpX10_106 (hJ : Snd l R cc nL RX10 rt D [(cI, .int)] O (wC cI) post X J) {x : Int} (d : decode cc pc = .ok (.putfield 106, 3)) (k : J (pc + 3) lv st (ad, va_up I 7 x, A)) : J pc lv (.int (iZ x) :: .ref (ad 19) :: st) (ad, I, A) := v_putf (q0 := 0) (ci := 7) (fk := 7) hJ rfl rfl inX10g tyX10_ok nmX10 (by decide) kX10_106 rfl rfl rfl (Nat.le_of_ble_eq_true rfl) rfl d k
theorem kX10_126 : Cond.fieldLink RX10 126 "ChordMover$Song" "root" "[I" ∈ gw := gw_of (List.mem_of_getElem? (i := 126) (by decide +kernel)) (by decide +kernel)
theorem cgX10_126a (hJ : Snd l R cc nL RX10 rt D [(cI, .int)] O (wC cI) post X J) (d : decode cc pc = .ok (.getfield 126, 3)) (k : J (pc + 3) lv (.ref (ad 44) :: st) (ad, I, A)) : J pc lv (.ref (ad 59) :: st) (ad, I, A) := v_getf (q0 := 3) (ci := 5) (fk := 4) (v := .ref (ad 44)) hJ rfl rfl inX8g (by decide) kX10_126 rfl d k
theorem cgX10_126b (hJ : Snd l R cc nL RX10 rt D [(cI, .int)] O (wC cI) post X J) (d : decode cc pc = .ok (.getfield 126, 3)) (k : J (pc + 3) lv (.ref (ad 64) :: st) (ad, I, A)) : J pc lv (.ref (ad 79) :: st) (ad, I, A) := v_getf (q0 := 9) (ci := 5) (fk := 4) (v := .ref (ad 64)) hJ rfl rfl inX8g (by decide) kX10_126 rfl d k
theorem kX10_129 : Cond.fieldLink RX10 129 "ChordMover$Song" "kind" "[I" ∈ gw := gw_of (List.mem_of_getElem? (i := 129) (by decide +kernel)) (by decide +kernel)
theorem cgX10_129a (hJ : Snd l R cc nL RX10 rt D [(cI, .int)] O (wC cI) post X J) (d : decode cc pc = .ok (.getfield 129, 3)) (k : J (pc + 3) lv (.ref (ad 45) :: st) (ad, I, A)) : J pc lv (.ref (ad 59) :: st) (ad, I, A) := v_getf (q0 := 3) (ci := 5) (fk := 5) (v := .ref (ad 45)) hJ rfl rfl inX8g (by decide) kX10_129 rfl d k
theorem cgX10_129b (hJ : Snd l R cc nL RX10 rt D [(cI, .int)] O (wC cI) post X J) (d : decode cc pc = .ok (.getfield 129, 3)) (k : J (pc + 3) lv (.ref (ad 65) :: st) (ad, I, A)) : J pc lv (.ref (ad 79) :: st) (ad, I, A) := v_getf (q0 := 9) (ci := 5) (fk := 5) (v := .ref (ad 65)) hJ rfl rfl inX8g (by decide) kX10_129 rfl d k
theorem kX10_132 : Cond.fieldLink RX10 132 "ChordMover$Song" "bass" "[I" ∈ gw := gw_of (List.mem_of_getElem? (i := 133) (by decide +kernel)) (by decide +kernel)
theorem cgX10_132a (hJ : Snd l R cc nL RX10 rt D [(cI, .int)] O (wC cI) post X J) (d : decode cc pc = .ok (.getfield 132, 3)) (k : J (pc + 3) lv (.ref (ad 46) :: st) (ad, I, A)) : J pc lv (.ref (ad 59) :: st) (ad, I, A) := v_getf (q0 := 3) (ci := 5) (fk := 6) (v := .ref (ad 46)) hJ rfl rfl inX8g (by decide) kX10_132 rfl d k
theorem cgX10_132b (hJ : Snd l R cc nL RX10 rt D [(cI, .int)] O (wC cI) post X J) (d : decode cc pc = .ok (.getfield 132, 3)) (k : J (pc + 3) lv (.ref (ad 66) :: st) (ad, I, A)) : J pc lv (.ref (ad 79) :: st) (ad, I, A) := v_getf (q0 := 9) (ci := 5) (fk := 6) (v := .ref (ad 66)) hJ rfl rfl inX8g (by decide) kX10_132 rfl d k
theorem kX10_139 : Cond.fieldLink RX10 139 "ChordMover$Song" "line" "[I" ∈ gw := gw_of (List.mem_of_getElem? (i := 135) (by decide +kernel)) (by decide +kernel)
theorem cgX10_139a (hJ : Snd l R cc nL RX10 rt D [(cI, .int)] O (wC cI) post X J) (d : decode cc pc = .ok (.getfield 139, 3)) (k : J (pc + 3) lv (.ref (ad 47) :: st) (ad, I, A)) : J pc lv (.ref (ad 59) :: st) (ad, I, A) := v_getf (q0 := 3) (ci := 5) (fk := 7) (v := .ref (ad 47)) hJ rfl rfl inX8g (by decide) kX10_139 rfl d k
theorem cgX10_139b (hJ : Snd l R cc nL RX10 rt D [(cI, .int)] O (wC cI) post X J) (d : decode cc pc = .ok (.getfield 139, 3)) (k : J (pc + 3) lv (.ref (ad 67) :: st) (ad, I, A)) : J pc lv (.ref (ad 79) :: st) (ad, I, A) := v_getf (q0 := 9) (ci := 5) (fk := 7) (v := .ref (ad 67)) hJ rfl rfl inX8g (by decide) kX10_139 rfl d k
theorem kX10_144 : Cond.fieldLink RX10 144 "ChordMover$Page" "length" "I" ∈ gw := gw_of (List.mem_of_getElem? (i := 163) (by decide +kernel)) (by decide +kernel)
theorem cgX10_144 (hJ : Snd l R cc nL RX10 rt D [(cI, .int)] O (wC cI) post X J) (d : decode cc pc = .ok (.getfield 144, 3)) (k : J (pc + 3) lv (.int (iZ (I 81)) :: st) (ad, I, A)) : J pc lv (.ref (ad 99) :: st) (ad, I, A) := v_getf (q0 := 15) (ci := 2) (fk := 1) (v := .int (iZ (I 81))) hJ rfl rfl inX5g (by decide) kX10_144 rfl d k
theorem cpX10_144 (hJ : Snd l R cc nL RX10 rt D [(cI, .int)] O (wC cI) post X J) {x : Int} (d : decode cc pc = .ok (.putfield 144, 3)) (k : J (pc + 3) lv st (ad, va_up I 81 x, A)) : J pc lv (.int (iZ x) :: .ref (ad 99) :: st) (ad, I, A) := v_putf (q0 := 15) (ci := 2) (fk := 1) hJ rfl rfl inX5g tyX5_ok nmX5 (by decide) kX10_144 rfl rfl rfl (Nat.le_of_ble_eq_true rfl) rfl d k
theorem kX10_161 : Cond.fieldLink RX10 161 "ChordMover$Page" "kept" "[I" ∈ gw := gw_of (List.mem_of_getElem? (i := 160) (by decide +kernel)) (by decide +kernel)
theorem cgX10_161 (hJ : Snd l R cc nL RX10 rt D [(cI, .int)] O (wC cI) post X J) (d : decode cc pc = .ok (.getfield 161, 3)) (k : J (pc + 3) lv (.ref (ad 80) :: st) (ad, I, A)) : J pc lv (.ref (ad 99) :: st) (ad, I, A) := v_getf (q0 := 15) (ci := 2) (fk := 0) (v := .ref (ad 80)) hJ rfl rfl inX5g (by decide) kX10_161 rfl d k
theorem kX10_166 : Cond.fieldLink RX10 166 "ChordMover$Finder" "strings" "I" ∈ gw := gw_of (List.mem_of_getElem? (i := 188) (by decide +kernel)) (by decide +kernel)
theorem cgX10_166 (hJ : Snd l R cc nL RX10 rt D [(cI, .int)] O (wC cI) post X J) (d : decode cc pc = .ok (.getfield 166, 3)) (k : J (pc + 3) lv (.int (iZ (I 121)) :: st) (ad, I, A)) : J pc lv (.ref (ad 139) :: st) (ad, I, A) := v_getf (q0 := 19) (ci := 0) (fk := 1) (v := .int (iZ (I 121))) hJ rfl rfl inX0g (by decide) kX10_166 rfl d k
theorem cpX10_166 (hJ : Snd l R cc nL RX10 rt D [(cI, .int)] O (wC cI) post X J) {x : Int} (d : decode cc pc = .ok (.putfield 166, 3)) (k : J (pc + 3) lv st (ad, va_up I 121 x, A)) : J pc lv (.int (iZ x) :: .ref (ad 139) :: st) (ad, I, A) := v_putf (q0 := 19) (ci := 0) (fk := 1) hJ rfl rfl inX0g tyX0_ok nmX0 (by decide) kX10_166 rfl rfl rfl (Nat.le_of_ble_eq_true rfl) rfl d k
theorem kX10_169 : Cond.fieldLink RX10 169 "ChordMover$Finder" "pitch" "[I" ∈ gw := gw_of (List.mem_of_getElem? (i := 186) (by decide +kernel)) (by decide +kernel)
theorem cgX10_169 (hJ : Snd l R cc nL RX10 rt D [(cI, .int)] O (wC cI) post X J) (d : decode cc pc = .ok (.getfield 169, 3)) (k : J (pc + 3) lv (.ref (ad 120) :: st) (ad, I, A)) : J pc lv (.ref (ad 139) :: st) (ad, I, A) := v_getf (q0 := 19) (ci := 0) (fk := 0) (v := .ref (ad 120)) hJ rfl rfl inX0g (by decide) kX10_169 rfl d k
theorem kX10_177 : Cond.fieldLink RX10 177 "ChordMover$HandBook" "found" "[I" ∈ gw := gw_of (List.mem_of_getElem? (i := 231) (by decide +kernel)) (by decide +kernel)
theorem cgX10_177 (hJ : Snd l R cc nL RX10 rt D [(cI, .int)] O (wC cI) post X J) (d : decode cc pc = .ok (.getfield 177, 3)) (k : J (pc + 3) lv (.ref (ad 141) :: st) (ad, I, A)) : J pc lv (.ref (ad 159) :: st) (ad, I, A) := v_getf (q0 := 23) (ci := 1) (fk := 1) (v := .ref (ad 141)) hJ rfl rfl inX2g (by decide) kX10_177 rfl d k
theorem kX10_191 : Cond.fieldLink RX10 191 "ChordMover$HandBook" "rows" "[I" ∈ gw := gw_of (List.mem_of_getElem? (i := 228) (by decide +kernel)) (by decide +kernel)
theorem cgX10_191 (hJ : Snd l R cc nL RX10 rt D [(cI, .int)] O (wC cI) post X J) (d : decode cc pc = .ok (.getfield 191, 3)) (k : J (pc + 3) lv (.ref (ad 140) :: st) (ad, I, A)) : J pc lv (.ref (ad 159) :: st) (ad, I, A) := v_getf (q0 := 23) (ci := 1) (fk := 0) (v := .ref (ad 140)) hJ rfl rfl inX2g (by decide) kX10_191 rfl d k
theorem kX10_206 : Cond.fieldLink RX10 206 "ChordMover$Song" "chords" "I" ∈ gw := gw_of (List.mem_of_getElem? (i := 123) (by decide +kernel)) (by decide +kernel)
theorem cgX10_206a (hJ : Snd l R cc nL RX10 rt D [(cI, .int)] O (wC cI) post X J) (d : decode cc pc = .ok (.getfield 206, 3)) (k : J (pc + 3) lv (.int (iZ (I 43)) :: st) (ad, I, A)) : J pc lv (.ref (ad 59) :: st) (ad, I, A) := v_getf (q0 := 3) (ci := 5) (fk := 3) (v := .int (iZ (I 43))) hJ rfl rfl inX8g (by decide) kX10_206 rfl d k
theorem cpX10_206a (hJ : Snd l R cc nL RX10 rt D [(cI, .int)] O (wC cI) post X J) {x : Int} (d : decode cc pc = .ok (.putfield 206, 3)) (k : J (pc + 3) lv st (ad, va_up I 43 x, A)) : J pc lv (.int (iZ x) :: .ref (ad 59) :: st) (ad, I, A) := v_putf (q0 := 3) (ci := 5) (fk := 3) hJ rfl rfl inX8g tyX8_ok nmX8 (by decide) kX10_206 rfl rfl rfl (Nat.le_of_ble_eq_true rfl) rfl d k
theorem cgX10_206b (hJ : Snd l R cc nL RX10 rt D [(cI, .int)] O (wC cI) post X J) (d : decode cc pc = .ok (.getfield 206, 3)) (k : J (pc + 3) lv (.int (iZ (I 63)) :: st) (ad, I, A)) : J pc lv (.ref (ad 79) :: st) (ad, I, A) := v_getf (q0 := 9) (ci := 5) (fk := 3) (v := .int (iZ (I 63))) hJ rfl rfl inX8g (by decide) kX10_206 rfl d k
theorem cpX10_206b (hJ : Snd l R cc nL RX10 rt D [(cI, .int)] O (wC cI) post X J) {x : Int} (d : decode cc pc = .ok (.putfield 206, 3)) (k : J (pc + 3) lv st (ad, va_up I 63 x, A)) : J pc lv (.int (iZ x) :: .ref (ad 79) :: st) (ad, I, A) := v_putf (q0 := 9) (ci := 5) (fk := 3) hJ rfl rfl inX8g tyX8_ok nmX8 (by decide) kX10_206 rfl rfl rfl (Nat.le_of_ble_eq_true rfl) rfl d k
theorem kX10_213 : Cond.fieldLink RX10 213 "ChordMover$Plan" "keptBar" "I" ∈ gw := gw_of (List.mem_of_getElem? (i := 249) (by decide +kernel)) (by decide +kernel)
theorem cgX10_213 (hJ : Snd l R cc nL RX10 rt D [(cI, .int)] O (wC cI) post X J) (d : decode cc pc = .ok (.getfield 213, 3)) (k : J (pc + 3) lv (.int (iZ (I 164)) :: st) (ad, I, A)) : J pc lv (.ref (ad 179) :: st) (ad, I, A) := v_getf (q0 := 26) (ci := 3) (fk := 4) (v := .int (iZ (I 164))) hJ rfl rfl inX6g (by decide) kX10_213 rfl d k
theorem cpX10_213 (hJ : Snd l R cc nL RX10 rt D [(cI, .int)] O (wC cI) post X J) {x : Int} (d : decode cc pc = .ok (.putfield 213, 3)) (k : J (pc + 3) lv st (ad, va_up I 164 x, A)) : J pc lv (.int (iZ x) :: .ref (ad 179) :: st) (ad, I, A) := v_putf (q0 := 26) (ci := 3) (fk := 4) hJ rfl rfl inX6g tyX6_ok nmX6 (by decide) kX10_213 rfl rfl rfl (Nat.le_of_ble_eq_true rfl) rfl d k
theorem kX10_216 : Cond.fieldLink RX10 216 "ChordMover$Plan" "kept" "[I" ∈ gw := gw_of (List.mem_of_getElem? (i := 247) (by decide +kernel)) (by decide +kernel)
theorem cgX10_216 (hJ : Snd l R cc nL RX10 rt D [(cI, .int)] O (wC cI) post X J) (d : decode cc pc = .ok (.getfield 216, 3)) (k : J (pc + 3) lv (.ref (ad 163) :: st) (ad, I, A)) : J pc lv (.ref (ad 179) :: st) (ad, I, A) := v_getf (q0 := 26) (ci := 3) (fk := 3) (v := .ref (ad 163)) hJ rfl rfl inX6g (by decide) kX10_216 rfl d k
theorem kX10_225 : Cond.fieldLink RX10 225 "ChordMover$Song" "lines" "I" ∈ gw := gw_of (List.mem_of_getElem? (i := 119) (by decide +kernel)) (by decide +kernel)
theorem cgX10_225a (hJ : Snd l R cc nL RX10 rt D [(cI, .int)] O (wC cI) post X J) (d : decode cc pc = .ok (.getfield 225, 3)) (k : J (pc + 3) lv (.int (iZ (I 42)) :: st) (ad, I, A)) : J pc lv (.ref (ad 59) :: st) (ad, I, A) := v_getf (q0 := 3) (ci := 5) (fk := 2) (v := .int (iZ (I 42))) hJ rfl rfl inX8g (by decide) kX10_225 rfl d k
theorem cpX10_225a (hJ : Snd l R cc nL RX10 rt D [(cI, .int)] O (wC cI) post X J) {x : Int} (d : decode cc pc = .ok (.putfield 225, 3)) (k : J (pc + 3) lv st (ad, va_up I 42 x, A)) : J pc lv (.int (iZ x) :: .ref (ad 59) :: st) (ad, I, A) := v_putf (q0 := 3) (ci := 5) (fk := 2) hJ rfl rfl inX8g tyX8_ok nmX8 (by decide) kX10_225 rfl rfl rfl (Nat.le_of_ble_eq_true rfl) rfl d k
theorem cgX10_225b (hJ : Snd l R cc nL RX10 rt D [(cI, .int)] O (wC cI) post X J) (d : decode cc pc = .ok (.getfield 225, 3)) (k : J (pc + 3) lv (.int (iZ (I 62)) :: st) (ad, I, A)) : J pc lv (.ref (ad 79) :: st) (ad, I, A) := v_getf (q0 := 9) (ci := 5) (fk := 2) (v := .int (iZ (I 62))) hJ rfl rfl inX8g (by decide) kX10_225 rfl d k
theorem cpX10_225b (hJ : Snd l R cc nL RX10 rt D [(cI, .int)] O (wC cI) post X J) {x : Int} (d : decode cc pc = .ok (.putfield 225, 3)) (k : J (pc + 3) lv st (ad, va_up I 62 x, A)) : J pc lv (.int (iZ x) :: .ref (ad 79) :: st) (ad, I, A) := v_putf (q0 := 9) (ci := 5) (fk := 2) hJ rfl rfl inX8g tyX8_ok nmX8 (by decide) kX10_225 rfl rfl rfl (Nat.le_of_ble_eq_true rfl) rfl d k
theorem kX0_9 : Cond.fieldLink RX0 9 "ChordMover$Finder" "pitch" "[I" ∈ gw := gw_of (List.mem_of_getElem? (i := 185) (by decide +kernel)) (by decide +kernel)
theorem cgX0_9 (hJ : Snd l R cc nL RX0 rt D [(cI, .int)] O (wC cI) post X J) (d : decode cc pc = .ok (.getfield 9, 3)) (k : J (pc + 3) lv (.ref (ad 120) :: st) (ad, I, A)) : J pc lv (.ref (ad 139) :: st) (ad, I, A) := v_getf (q0 := 19) (ci := 0) (fk := 0) (v := .ref (ad 120)) hJ rfl rfl inX0g (by decide) kX0_9 rfl d k
theorem kX0_15 : Cond.fieldLink RX0 15 "ChordMover$Finder" "best" "[I" ∈ gw := gw_of (List.mem_of_getElem? (i := 189) (by decide +kernel)) (by decide +kernel)
theorem cgX0_15 (hJ : Snd l R cc nL RX0 rt D [(cI, .int)] O (wC cI) post X J) (d : decode cc pc = .ok (.getfield 15, 3)) (k : J (pc + 3) lv (.ref (ad 122) :: st) (ad, I, A)) : J pc lv (.ref (ad 139) :: st) (ad, I, A) := v_getf (q0 := 19) (ci := 0) (fk := 2) (v := .ref (ad 122)) hJ rfl rfl inX0g (by decide) kX0_15 rfl d k
theorem kX0_18 : Cond.fieldLink RX0 18 "ChordMover$Finder" "frets" "[I" ∈ gw := gw_of (List.mem_of_getElem? (i := 193) (by decide +kernel)) (by decide +kernel)
theorem cgX0_18 (hJ : Snd l R cc nL RX0 rt D [(cI, .int)] O (wC cI) post X J) (d : decode cc pc = .ok (.getfield 18, 3)) (k : J (pc + 3) lv (.ref (ad 124) :: st) (ad, I, A)) : J pc lv (.ref (ad 139) :: st) (ad, I, A) := v_getf (q0 := 19) (ci := 0) (fk := 4) (v := .ref (ad 124)) hJ rfl rfl inX0g (by decide) kX0_18 rfl d k
theorem kX0_21 : Cond.fieldLink RX0 21 "ChordMover$Finder" "barNow" "I" ∈ gw := gw_of (List.mem_of_getElem? (i := 194) (by decide +kernel)) (by decide +kernel)
theorem cgX0_21 (hJ : Snd l R cc nL RX0 rt D [(cI, .int)] O (wC cI) post X J) (d : decode cc pc = .ok (.getfield 21, 3)) (k : J (pc + 3) lv (.int (iZ (I 125)) :: st) (ad, I, A)) : J pc lv (.ref (ad 139) :: st) (ad, I, A) := v_getf (q0 := 19) (ci := 0) (fk := 5) (v := .int (iZ (I 125))) hJ rfl rfl inX0g (by decide) kX0_21 rfl d k
theorem cpX0_21 (hJ : Snd l R cc nL RX0 rt D [(cI, .int)] O (wC cI) post X J) {x : Int} (d : decode cc pc = .ok (.putfield 21, 3)) (k : J (pc + 3) lv st (ad, va_up I 125 x, A)) : J pc lv (.int (iZ x) :: .ref (ad 139) :: st) (ad, I, A) := v_putf (q0 := 19) (ci := 0) (fk := 5) hJ rfl rfl inX0g tyX0_ok nmX0 (by decide) kX0_21 rfl rfl rfl (Nat.le_of_ble_eq_true rfl) rfl d k
theorem kX0_31 : Cond.fieldLink RX0 31 "ChordMover$Finder" "tones" "I" ∈ gw := gw_of (List.mem_of_getElem? (i := 195) (by decide +kernel)) (by decide +kernel)
theorem cgX0_31 (hJ : Snd l R cc nL RX0 rt D [(cI, .int)] O (wC cI) post X J) (d : decode cc pc = .ok (.getfield 31, 3)) (k : J (pc + 3) lv (.int (iZ (I 126)) :: st) (ad, I, A)) : J pc lv (.ref (ad 139) :: st) (ad, I, A) := v_getf (q0 := 19) (ci := 0) (fk := 6) (v := .int (iZ (I 126))) hJ rfl rfl inX0g (by decide) kX0_31 rfl d k
theorem cpX0_31 (hJ : Snd l R cc nL RX0 rt D [(cI, .int)] O (wC cI) post X J) {x : Int} (d : decode cc pc = .ok (.putfield 31, 3)) (k : J (pc + 3) lv st (ad, va_up I 126 x, A)) : J pc lv (.int (iZ x) :: .ref (ad 139) :: st) (ad, I, A) := v_putf (q0 := 19) (ci := 0) (fk := 6) hJ rfl rfl inX0g tyX0_ok nmX0 (by decide) kX0_31 rfl rfl rfl (Nat.le_of_ble_eq_true rfl) rfl d k
theorem kX0_38 : Cond.fieldLink RX0 38 "ChordMover$Finder" "needed" "I" ∈ gw := gw_of (List.mem_of_getElem? (i := 196) (by decide +kernel)) (by decide +kernel)
theorem cgX0_38 (hJ : Snd l R cc nL RX0 rt D [(cI, .int)] O (wC cI) post X J) (d : decode cc pc = .ok (.getfield 38, 3)) (k : J (pc + 3) lv (.int (iZ (I 127)) :: st) (ad, I, A)) : J pc lv (.ref (ad 139) :: st) (ad, I, A) := v_getf (q0 := 19) (ci := 0) (fk := 7) (v := .int (iZ (I 127))) hJ rfl rfl inX0g (by decide) kX0_38 rfl d k
theorem cpX0_38 (hJ : Snd l R cc nL RX0 rt D [(cI, .int)] O (wC cI) post X J) {x : Int} (d : decode cc pc = .ok (.putfield 38, 3)) (k : J (pc + 3) lv st (ad, va_up I 127 x, A)) : J pc lv (.int (iZ x) :: .ref (ad 139) :: st) (ad, I, A) := v_putf (q0 := 19) (ci := 0) (fk := 7) hJ rfl rfl inX0g tyX0_ok nmX0 (by decide) kX0_38 rfl rfl rfl (Nat.le_of_ble_eq_true rfl) rfl d k
theorem kX0_41 : Cond.fieldLink RX0 41 "ChordMover$Song" "bass" "[I" ∈ gw := gw_of (List.mem_of_getElem? (i := 131) (by decide +kernel)) (by decide +kernel)
theorem cgX0_41a (hJ : Snd l R cc nL RX0 rt D [(cI, .int)] O (wC cI) post X J) (d : decode cc pc = .ok (.getfield 41, 3)) (k : J (pc + 3) lv (.ref (ad 46) :: st) (ad, I, A)) : J pc lv (.ref (ad 59) :: st) (ad, I, A) := v_getf (q0 := 3) (ci := 5) (fk := 6) (v := .ref (ad 46)) hJ rfl rfl inX8g (by decide) kX0_41 rfl d k
theorem cgX0_41b (hJ : Snd l R cc nL RX0 rt D [(cI, .int)] O (wC cI) post X J) (d : decode cc pc = .ok (.getfield 41, 3)) (k : J (pc + 3) lv (.ref (ad 66) :: st) (ad, I, A)) : J pc lv (.ref (ad 79) :: st) (ad, I, A) := v_getf (q0 := 9) (ci := 5) (fk := 6) (v := .ref (ad 66)) hJ rfl rfl inX8g (by decide) kX0_41 rfl d k
theorem kX0_49 : Cond.fieldLink RX0 49 "ChordMover$Finder" "bassTone" "I" ∈ gw := gw_of (List.mem_of_getElem? (i := 197) (by decide +kernel)) (by decide +kernel)
theorem cgX0_49 (hJ : Snd l R cc nL RX0 rt D [(cI, .int)] O (wC cI) post X J) (d : decode cc pc = .ok (.getfield 49, 3)) (k : J (pc + 3) lv (.int (iZ (I 128)) :: st) (ad, I, A)) : J pc lv (.ref (ad 139) :: st) (ad, I, A) := v_getf (q0 := 19) (ci := 0) (fk := 8) (v := .int (iZ (I 128))) hJ rfl rfl inX0g (by decide) kX0_49 rfl d k
theorem cpX0_49 (hJ : Snd l R cc nL RX0 rt D [(cI, .int)] O (wC cI) post X J) {x : Int} (d : decode cc pc = .ok (.putfield 49, 3)) (k : J (pc + 3) lv st (ad, va_up I 128 x, A)) : J pc lv (.int (iZ x) :: .ref (ad 139) :: st) (ad, I, A) := v_putf (q0 := 19) (ci := 0) (fk := 8) hJ rfl rfl inX0g tyX0_ok nmX0 (by decide) kX0_49 rfl rfl rfl (Nat.le_of_ble_eq_true rfl) rfl d k
theorem kX0_52 : Cond.fieldLink RX0 52 "ChordMover$Finder" "found" "I" ∈ gw := gw_of (List.mem_of_getElem? (i := 191) (by decide +kernel)) (by decide +kernel)
theorem cgX0_52 (hJ : Snd l R cc nL RX0 rt D [(cI, .int)] O (wC cI) post X J) (d : decode cc pc = .ok (.getfield 52, 3)) (k : J (pc + 3) lv (.int (iZ (I 123)) :: st) (ad, I, A)) : J pc lv (.ref (ad 139) :: st) (ad, I, A) := v_getf (q0 := 19) (ci := 0) (fk := 3) (v := .int (iZ (I 123))) hJ rfl rfl inX0g (by decide) kX0_52 rfl d k
theorem cpX0_52 (hJ : Snd l R cc nL RX0 rt D [(cI, .int)] O (wC cI) post X J) {x : Int} (d : decode cc pc = .ok (.putfield 52, 3)) (k : J (pc + 3) lv st (ad, va_up I 123 x, A)) : J pc lv (.int (iZ x) :: .ref (ad 139) :: st) (ad, I, A) := v_putf (q0 := 19) (ci := 0) (fk := 3) hJ rfl rfl inX0g tyX0_ok nmX0 (by decide) kX0_52 rfl rfl rfl (Nat.le_of_ble_eq_true rfl) rfl d k
theorem kX0_59 : Cond.fieldLink RX0 59 "ChordMover$Finder" "strings" "I" ∈ gw := gw_of (List.mem_of_getElem? (i := 187) (by decide +kernel)) (by decide +kernel)
theorem cgX0_59 (hJ : Snd l R cc nL RX0 rt D [(cI, .int)] O (wC cI) post X J) (d : decode cc pc = .ok (.getfield 59, 3)) (k : J (pc + 3) lv (.int (iZ (I 121)) :: st) (ad, I, A)) : J pc lv (.ref (ad 139) :: st) (ad, I, A) := v_getf (q0 := 19) (ci := 0) (fk := 1) (v := .int (iZ (I 121))) hJ rfl rfl inX0g (by decide) kX0_59 rfl d k
theorem cpX0_59 (hJ : Snd l R cc nL RX0 rt D [(cI, .int)] O (wC cI) post X J) {x : Int} (d : decode cc pc = .ok (.putfield 59, 3)) (k : J (pc + 3) lv st (ad, va_up I 121 x, A)) : J pc lv (.int (iZ x) :: .ref (ad 139) :: st) (ad, I, A) := v_putf (q0 := 19) (ci := 0) (fk := 1) hJ rfl rfl inX0g tyX0_ok nmX0 (by decide) kX0_59 rfl rfl rfl (Nat.le_of_ble_eq_true rfl) rfl d k
theorem kX2_9 : Cond.fieldLink RX2 9 "ChordMover$HandBook" "rows" "[I" ∈ gw := gw_of (List.mem_of_getElem? (i := 226) (by decide +kernel)) (by decide +kernel)
theorem cgX2_9 (hJ : Snd l R cc nL RX2 rt D [(cI, .int)] O (wC cI) post X J) (d : decode cc pc = .ok (.getfield 9, 3)) (k : J (pc + 3) lv (.ref (ad 140) :: st) (ad, I, A)) : J pc lv (.ref (ad 159) :: st) (ad, I, A) := v_getf (q0 := 23) (ci := 1) (fk := 0) (v := .ref (ad 140)) hJ rfl rfl inX2g (by decide) kX2_9 rfl d k
theorem kX2_15 : Cond.fieldLink RX2 15 "ChordMover$HandBook" "found" "[I" ∈ gw := gw_of (List.mem_of_getElem? (i := 229) (by decide +kernel)) (by decide +kernel)
theorem cgX2_15 (hJ : Snd l R cc nL RX2 rt D [(cI, .int)] O (wC cI) post X J) (d : decode cc pc = .ok (.getfield 15, 3)) (k : J (pc + 3) lv (.ref (ad 141) :: st) (ad, I, A)) : J pc lv (.ref (ad 159) :: st) (ad, I, A) := v_getf (q0 := 23) (ci := 1) (fk := 1) (v := .ref (ad 141)) hJ rfl rfl inX2g (by decide) kX2_15 rfl d k
theorem kX2_36 : Cond.fieldLink RX2 36 "ChordMover$Finder" "best" "[I" ∈ gw := gw_of (List.mem_of_getElem? (i := 190) (by decide +kernel)) (by decide +kernel)
theorem cgX2_36 (hJ : Snd l R cc nL RX2 rt D [(cI, .int)] O (wC cI) post X J) (d : decode cc pc = .ok (.getfield 36, 3)) (k : J (pc + 3) lv (.ref (ad 122) :: st) (ad, I, A)) : J pc lv (.ref (ad 139) :: st) (ad, I, A) := v_getf (q0 := 19) (ci := 0) (fk := 2) (v := .ref (ad 122)) hJ rfl rfl inX0g (by decide) kX2_36 rfl d k
theorem kX2_39 : Cond.fieldLink RX2 39 "ChordMover$Finder" "found" "I" ∈ gw := gw_of (List.mem_of_getElem? (i := 192) (by decide +kernel)) (by decide +kernel)
theorem cgX2_39 (hJ : Snd l R cc nL RX2 rt D [(cI, .int)] O (wC cI) post X J) (d : decode cc pc = .ok (.getfield 39, 3)) (k : J (pc + 3) lv (.int (iZ (I 123)) :: st) (ad, I, A)) : J pc lv (.ref (ad 139) :: st) (ad, I, A) := v_getf (q0 := 19) (ci := 0) (fk := 3) (v := .int (iZ (I 123))) hJ rfl rfl inX0g (by decide) kX2_39 rfl d k
theorem cpX2_39 (hJ : Snd l R cc nL RX2 rt D [(cI, .int)] O (wC cI) post X J) {x : Int} (d : decode cc pc = .ok (.putfield 39, 3)) (k : J (pc + 3) lv st (ad, va_up I 123 x, A)) : J pc lv (.int (iZ x) :: .ref (ad 139) :: st) (ad, I, A) := v_putf (q0 := 19) (ci := 0) (fk := 3) hJ rfl rfl inX0g tyX0_ok nmX0 (by decide) kX2_39 rfl rfl rfl (Nat.le_of_ble_eq_true rfl) rfl d k
theorem kX3_35 : Cond.fieldLink RX3 35 "ChordMover$Kinds" "TONES" "[I" ∈ gw := gw_of (List.mem_of_getElem? (i := 487) (by decide +kernel)) (by decide +kernel)
theorem kX5_9 : Cond.fieldLink RX5 9 "ChordMover$Page" "kept" "[I" ∈ gw := gw_of (List.mem_of_getElem? (i := 159) (by decide +kernel)) (by decide +kernel)
theorem cgX5_9 (hJ : Snd l R cc nL RX5 rt D [(cI, .int)] O (wC cI) post X J) (d : decode cc pc = .ok (.getfield 9, 3)) (k : J (pc + 3) lv (.ref (ad 80) :: st) (ad, I, A)) : J pc lv (.ref (ad 99) :: st) (ad, I, A) := v_getf (q0 := 15) (ci := 2) (fk := 0) (v := .ref (ad 80)) hJ rfl rfl inX5g (by decide) kX5_9 rfl d k
theorem kX5_15 : Cond.fieldLink RX5 15 "ChordMover$Page" "length" "I" ∈ gw := gw_of (List.mem_of_getElem? (i := 161) (by decide +kernel)) (by decide +kernel)
theorem cgX5_15 (hJ : Snd l R cc nL RX5 rt D [(cI, .int)] O (wC cI) post X J) (d : decode cc pc = .ok (.getfield 15, 3)) (k : J (pc + 3) lv (.int (iZ (I 81)) :: st) (ad, I, A)) : J pc lv (.ref (ad 99) :: st) (ad, I, A) := v_getf (q0 := 15) (ci := 2) (fk := 1) (v := .int (iZ (I 81))) hJ rfl rfl inX5g (by decide) kX5_15 rfl d k
theorem cpX5_15 (hJ : Snd l R cc nL RX5 rt D [(cI, .int)] O (wC cI) post X J) {x : Int} (d : decode cc pc = .ok (.putfield 15, 3)) (k : J (pc + 3) lv st (ad, va_up I 81 x, A)) : J pc lv (.int (iZ x) :: .ref (ad 99) :: st) (ad, I, A) := v_putf (q0 := 15) (ci := 2) (fk := 1) hJ rfl rfl inX5g tyX5_ok nmX5 (by decide) kX5_15 rfl rfl rfl (Nat.le_of_ble_eq_true rfl) rfl d k
theorem kX5_29 : Cond.fieldLink RX5 29 "ChordMover$Song" "root" "[I" ∈ gw := gw_of (List.mem_of_getElem? (i := 125) (by decide +kernel)) (by decide +kernel)
theorem cgX5_29a (hJ : Snd l R cc nL RX5 rt D [(cI, .int)] O (wC cI) post X J) (d : decode cc pc = .ok (.getfield 29, 3)) (k : J (pc + 3) lv (.ref (ad 44) :: st) (ad, I, A)) : J pc lv (.ref (ad 59) :: st) (ad, I, A) := v_getf (q0 := 3) (ci := 5) (fk := 4) (v := .ref (ad 44)) hJ rfl rfl inX8g (by decide) kX5_29 rfl d k
theorem cgX5_29b (hJ : Snd l R cc nL RX5 rt D [(cI, .int)] O (wC cI) post X J) (d : decode cc pc = .ok (.getfield 29, 3)) (k : J (pc + 3) lv (.ref (ad 64) :: st) (ad, I, A)) : J pc lv (.ref (ad 79) :: st) (ad, I, A) := v_getf (q0 := 9) (ci := 5) (fk := 4) (v := .ref (ad 64)) hJ rfl rfl inX8g (by decide) kX5_29 rfl d k
theorem kX5_37 : Cond.fieldLink RX5 37 "ChordMover$Song" "kind" "[I" ∈ gw := gw_of (List.mem_of_getElem? (i := 128) (by decide +kernel)) (by decide +kernel)
theorem cgX5_37a (hJ : Snd l R cc nL RX5 rt D [(cI, .int)] O (wC cI) post X J) (d : decode cc pc = .ok (.getfield 37, 3)) (k : J (pc + 3) lv (.ref (ad 45) :: st) (ad, I, A)) : J pc lv (.ref (ad 59) :: st) (ad, I, A) := v_getf (q0 := 3) (ci := 5) (fk := 5) (v := .ref (ad 45)) hJ rfl rfl inX8g (by decide) kX5_37 rfl d k
theorem cgX5_37b (hJ : Snd l R cc nL RX5 rt D [(cI, .int)] O (wC cI) post X J) (d : decode cc pc = .ok (.getfield 37, 3)) (k : J (pc + 3) lv (.ref (ad 65) :: st) (ad, I, A)) : J pc lv (.ref (ad 79) :: st) (ad, I, A) := v_getf (q0 := 9) (ci := 5) (fk := 5) (v := .ref (ad 65)) hJ rfl rfl inX8g (by decide) kX5_37 rfl d k
theorem kX5_55 : Cond.fieldLink RX5 55 "ChordMover$Song" "bass" "[I" ∈ gw := gw_of (List.mem_of_getElem? (i := 132) (by decide +kernel)) (by decide +kernel)
theorem cgX5_55a (hJ : Snd l R cc nL RX5 rt D [(cI, .int)] O (wC cI) post X J) (d : decode cc pc = .ok (.getfield 55, 3)) (k : J (pc + 3) lv (.ref (ad 46) :: st) (ad, I, A)) : J pc lv (.ref (ad 59) :: st) (ad, I, A) := v_getf (q0 := 3) (ci := 5) (fk := 6) (v := .ref (ad 46)) hJ rfl rfl inX8g (by decide) kX5_55 rfl d k
theorem cgX5_55b (hJ : Snd l R cc nL RX5 rt D [(cI, .int)] O (wC cI) post X J) (d : decode cc pc = .ok (.getfield 55, 3)) (k : J (pc + 3) lv (.ref (ad 66) :: st) (ad, I, A)) : J pc lv (.ref (ad 79) :: st) (ad, I, A) := v_getf (q0 := 9) (ci := 5) (fk := 6) (v := .ref (ad 66)) hJ rfl rfl inX8g (by decide) kX5_55 rfl d k
theorem kX6_9 : Cond.fieldLink RX6 9 "ChordMover$Plan" "rest" "[I" ∈ gw := gw_of (List.mem_of_getElem? (i := 243) (by decide +kernel)) (by decide +kernel)
theorem cgX6_9 (hJ : Snd l R cc nL RX6 rt D [(cI, .int)] O (wC cI) post X J) (d : decode cc pc = .ok (.getfield 9, 3)) (k : J (pc + 3) lv (.ref (ad 160) :: st) (ad, I, A)) : J pc lv (.ref (ad 179) :: st) (ad, I, A) := v_getf (q0 := 26) (ci := 3) (fk := 0) (v := .ref (ad 160)) hJ rfl rfl inX6g (by decide) kX6_9 rfl d k
theorem kX6_15 : Cond.fieldLink RX6 15 "ChordMover$Plan" "next" "[I" ∈ gw := gw_of (List.mem_of_getElem? (i := 244) (by decide +kernel)) (by decide +kernel)
theorem cgX6_15 (hJ : Snd l R cc nL RX6 rt D [(cI, .int)] O (wC cI) post X J) (d : decode cc pc = .ok (.getfield 15, 3)) (k : J (pc + 3) lv (.ref (ad 161) :: st) (ad, I, A)) : J pc lv (.ref (ad 179) :: st) (ad, I, A) := v_getf (q0 := 26) (ci := 3) (fk := 1) (v := .ref (ad 161)) hJ rfl rfl inX6g (by decide) kX6_15 rfl d k
theorem kX6_18 : Cond.fieldLink RX6 18 "ChordMover$Plan" "kept" "[I" ∈ gw := gw_of (List.mem_of_getElem? (i := 246) (by decide +kernel)) (by decide +kernel)
theorem cgX6_18 (hJ : Snd l R cc nL RX6 rt D [(cI, .int)] O (wC cI) post X J) (d : decode cc pc = .ok (.getfield 18, 3)) (k : J (pc + 3) lv (.ref (ad 163) :: st) (ad, I, A)) : J pc lv (.ref (ad 179) :: st) (ad, I, A) := v_getf (q0 := 26) (ci := 3) (fk := 3) (v := .ref (ad 163)) hJ rfl rfl inX6g (by decide) kX6_18 rfl d k
theorem kX6_21 : Cond.fieldLink RX6 21 "ChordMover$Plan" "keptBar" "I" ∈ gw := gw_of (List.mem_of_getElem? (i := 248) (by decide +kernel)) (by decide +kernel)
theorem cgX6_21 (hJ : Snd l R cc nL RX6 rt D [(cI, .int)] O (wC cI) post X J) (d : decode cc pc = .ok (.getfield 21, 3)) (k : J (pc + 3) lv (.int (iZ (I 164)) :: st) (ad, I, A)) : J pc lv (.ref (ad 179) :: st) (ad, I, A) := v_getf (q0 := 26) (ci := 3) (fk := 4) (v := .int (iZ (I 164))) hJ rfl rfl inX6g (by decide) kX6_21 rfl d k
theorem cpX6_21 (hJ : Snd l R cc nL RX6 rt D [(cI, .int)] O (wC cI) post X J) {x : Int} (d : decode cc pc = .ok (.putfield 21, 3)) (k : J (pc + 3) lv st (ad, va_up I 164 x, A)) : J pc lv (.int (iZ x) :: .ref (ad 179) :: st) (ad, I, A) := v_putf (q0 := 26) (ci := 3) (fk := 4) hJ rfl rfl inX6g tyX6_ok nmX6 (by decide) kX6_21 rfl rfl rfl (Nat.le_of_ble_eq_true rfl) rfl d k
theorem kX6_25 : Cond.fieldLink RX6 25 "ChordMover$Song" "chords" "I" ∈ gw := gw_of (List.mem_of_getElem? (i := 120) (by decide +kernel)) (by decide +kernel)
theorem cgX6_25a (hJ : Snd l R cc nL RX6 rt D [(cI, .int)] O (wC cI) post X J) (d : decode cc pc = .ok (.getfield 25, 3)) (k : J (pc + 3) lv (.int (iZ (I 43)) :: st) (ad, I, A)) : J pc lv (.ref (ad 59) :: st) (ad, I, A) := v_getf (q0 := 3) (ci := 5) (fk := 3) (v := .int (iZ (I 43))) hJ rfl rfl inX8g (by decide) kX6_25 rfl d k
theorem cpX6_25a (hJ : Snd l R cc nL RX6 rt D [(cI, .int)] O (wC cI) post X J) {x : Int} (d : decode cc pc = .ok (.putfield 25, 3)) (k : J (pc + 3) lv st (ad, va_up I 43 x, A)) : J pc lv (.int (iZ x) :: .ref (ad 59) :: st) (ad, I, A) := v_putf (q0 := 3) (ci := 5) (fk := 3) hJ rfl rfl inX8g tyX8_ok nmX8 (by decide) kX6_25 rfl rfl rfl (Nat.le_of_ble_eq_true rfl) rfl d k
theorem cgX6_25b (hJ : Snd l R cc nL RX6 rt D [(cI, .int)] O (wC cI) post X J) (d : decode cc pc = .ok (.getfield 25, 3)) (k : J (pc + 3) lv (.int (iZ (I 63)) :: st) (ad, I, A)) : J pc lv (.ref (ad 79) :: st) (ad, I, A) := v_getf (q0 := 9) (ci := 5) (fk := 3) (v := .int (iZ (I 63))) hJ rfl rfl inX8g (by decide) kX6_25 rfl d k
theorem cpX6_25b (hJ : Snd l R cc nL RX6 rt D [(cI, .int)] O (wC cI) post X J) {x : Int} (d : decode cc pc = .ok (.putfield 25, 3)) (k : J (pc + 3) lv st (ad, va_up I 63 x, A)) : J pc lv (.int (iZ x) :: .ref (ad 79) :: st) (ad, I, A) := v_putf (q0 := 9) (ci := 5) (fk := 3) hJ rfl rfl inX8g tyX8_ok nmX8 (by decide) kX6_25 rfl rfl rfl (Nat.le_of_ble_eq_true rfl) rfl d k
theorem kX6_36 : Cond.fieldLink RX6 36 "ChordMover$HandBook" "found" "[I" ∈ gw := gw_of (List.mem_of_getElem? (i := 230) (by decide +kernel)) (by decide +kernel)
theorem cgX6_36 (hJ : Snd l R cc nL RX6 rt D [(cI, .int)] O (wC cI) post X J) (d : decode cc pc = .ok (.getfield 36, 3)) (k : J (pc + 3) lv (.ref (ad 141) :: st) (ad, I, A)) : J pc lv (.ref (ad 159) :: st) (ad, I, A) := v_getf (q0 := 23) (ci := 1) (fk := 1) (v := .ref (ad 141)) hJ rfl rfl inX2g (by decide) kX6_36 rfl d k
theorem kX6_43 : Cond.fieldLink RX6 43 "ChordMover$Plan" "first" "I" ∈ gw := gw_of (List.mem_of_getElem? (i := 245) (by decide +kernel)) (by decide +kernel)
theorem cgX6_43 (hJ : Snd l R cc nL RX6 rt D [(cI, .int)] O (wC cI) post X J) (d : decode cc pc = .ok (.getfield 43, 3)) (k : J (pc + 3) lv (.int (iZ (I 162)) :: st) (ad, I, A)) : J pc lv (.ref (ad 179) :: st) (ad, I, A) := v_getf (q0 := 26) (ci := 3) (fk := 2) (v := .int (iZ (I 162))) hJ rfl rfl inX6g (by decide) kX6_43 rfl d k
theorem cpX6_43 (hJ : Snd l R cc nL RX6 rt D [(cI, .int)] O (wC cI) post X J) {x : Int} (d : decode cc pc = .ok (.putfield 43, 3)) (k : J (pc + 3) lv st (ad, va_up I 162 x, A)) : J pc lv (.int (iZ x) :: .ref (ad 179) :: st) (ad, I, A) := v_putf (q0 := 26) (ci := 3) (fk := 2) hJ rfl rfl inX6g tyX6_ok nmX6 (by decide) kX6_43 rfl rfl rfl (Nat.le_of_ble_eq_true rfl) rfl d k
theorem kX6_46 : Cond.fieldLink RX6 46 "ChordMover$HandBook" "rows" "[I" ∈ gw := gw_of (List.mem_of_getElem? (i := 227) (by decide +kernel)) (by decide +kernel)
theorem cgX6_46 (hJ : Snd l R cc nL RX6 rt D [(cI, .int)] O (wC cI) post X J) (d : decode cc pc = .ok (.getfield 46, 3)) (k : J (pc + 3) lv (.ref (ad 140) :: st) (ad, I, A)) : J pc lv (.ref (ad 159) :: st) (ad, I, A) := v_getf (q0 := 23) (ci := 1) (fk := 0) (v := .ref (ad 140)) hJ rfl rfl inX2g (by decide) kX6_46 rfl d k
theorem kX7_9 : Cond.fieldLink RX7 9 "ChordMover$Reader" "text" "[I" ∈ gw := gw_of (List.mem_of_getElem? (i := 87) (by decide +kernel)) (by decide +kernel)
theorem cgX7_9 (hJ : Snd l R cc nL RX7 rt D [(cI, .int)] O (wC cI) post X J) (d : decode cc pc = .ok (.getfield 9, 3)) (k : J (pc + 3) lv (.ref (ad 20) :: st) (ad, I, A)) : J pc lv (.ref (ad 39) :: st) (ad, I, A) := v_getf (q0 := 2) (ci := 4) (fk := 0) (v := .ref (ad 20)) hJ rfl rfl inX7g (by decide) kX7_9 rfl d k
theorem cpX7_9 (hJ : Snd l R cc nL RX7 rt D [(cI, .int)] O (wC cI) post X J) {x : Nat} (d : decode cc pc = .ok (.putfield 9, 3)) (k : J (pc + 3) lv st (va_up ad 20 x, I, A)) : J pc lv (.ref x :: .ref (ad 39) :: st) (ad, I, A) := v_putf (q0 := 2) (ci := 4) (fk := 0) hJ rfl rfl inX7g tyX7_ok nmX7 (by decide) kX7_9 rfl rfl rfl (Nat.le_of_ble_eq_true rfl) rfl d k
theorem kX7_15 : Cond.fieldLink RX7 15 "ChordMover$Reader" "place" "I" ∈ gw := gw_of (List.mem_of_getElem? (i := 92) (by decide +kernel)) (by decide +kernel)
theorem cgX7_15 (hJ : Snd l R cc nL RX7 rt D [(cI, .int)] O (wC cI) post X J) (d : decode cc pc = .ok (.getfield 15, 3)) (k : J (pc + 3) lv (.int (iZ (I 24)) :: st) (ad, I, A)) : J pc lv (.ref (ad 39) :: st) (ad, I, A) := v_getf (q0 := 2) (ci := 4) (fk := 4) (v := .int (iZ (I 24))) hJ rfl rfl inX7g (by decide) kX7_15 rfl d k
theorem cpX7_15 (hJ : Snd l R cc nL RX7 rt D [(cI, .int)] O (wC cI) post X J) {x : Int} (d : decode cc pc = .ok (.putfield 15, 3)) (k : J (pc + 3) lv st (ad, va_up I 24 x, A)) : J pc lv (.int (iZ x) :: .ref (ad 39) :: st) (ad, I, A) := v_putf (q0 := 2) (ci := 4) (fk := 4) hJ rfl rfl inX7g tyX7_ok nmX7 (by decide) kX7_15 rfl rfl rfl (Nat.le_of_ble_eq_true rfl) rfl d k
theorem kX7_25 : Cond.fieldLink RX7 25 "ChordMover$Reader" "length" "I" ∈ gw := gw_of (List.mem_of_getElem? (i := 88) (by decide +kernel)) (by decide +kernel)
theorem cgX7_25 (hJ : Snd l R cc nL RX7 rt D [(cI, .int)] O (wC cI) post X J) (d : decode cc pc = .ok (.getfield 25, 3)) (k : J (pc + 3) lv (.int (iZ (I 21)) :: st) (ad, I, A)) : J pc lv (.ref (ad 39) :: st) (ad, I, A) := v_getf (q0 := 2) (ci := 4) (fk := 1) (v := .int (iZ (I 21))) hJ rfl rfl inX7g (by decide) kX7_25 rfl d k
theorem cpX7_25 (hJ : Snd l R cc nL RX7 rt D [(cI, .int)] O (wC cI) post X J) {x : Int} (d : decode cc pc = .ok (.putfield 25, 3)) (k : J (pc + 3) lv st (ad, va_up I 21 x, A)) : J pc lv (.int (iZ x) :: .ref (ad 39) :: st) (ad, I, A) := v_putf (q0 := 2) (ci := 4) (fk := 1) hJ rfl rfl inX7g tyX7_ok nmX7 (by decide) kX7_25 rfl rfl rfl (Nat.le_of_ble_eq_true rfl) rfl d k
theorem kX7_28 : Cond.fieldLink RX7 28 "ChordMover$Reader" "at" "I" ∈ gw := gw_of (List.mem_of_getElem? (i := 89) (by decide +kernel)) (by decide +kernel)
theorem cgX7_28 (hJ : Snd l R cc nL RX7 rt D [(cI, .int)] O (wC cI) post X J) (d : decode cc pc = .ok (.getfield 28, 3)) (k : J (pc + 3) lv (.int (iZ (I 22)) :: st) (ad, I, A)) : J pc lv (.ref (ad 39) :: st) (ad, I, A) := v_getf (q0 := 2) (ci := 4) (fk := 2) (v := .int (iZ (I 22))) hJ rfl rfl inX7g (by decide) kX7_28 rfl d k
theorem cpX7_28 (hJ : Snd l R cc nL RX7 rt D [(cI, .int)] O (wC cI) post X J) {x : Int} (d : decode cc pc = .ok (.putfield 28, 3)) (k : J (pc + 3) lv st (ad, va_up I 22 x, A)) : J pc lv (.int (iZ x) :: .ref (ad 39) :: st) (ad, I, A) := v_putf (q0 := 2) (ci := 4) (fk := 2) hJ rfl rfl inX7g tyX7_ok nmX7 (by decide) kX7_28 rfl rfl rfl (Nat.le_of_ble_eq_true rfl) rfl d k
theorem kX7_31 : Cond.fieldLink RX7 31 "ChordMover$Reader" "fault" "I" ∈ gw := gw_of (List.mem_of_getElem? (i := 90) (by decide +kernel)) (by decide +kernel)
theorem cgX7_31 (hJ : Snd l R cc nL RX7 rt D [(cI, .int)] O (wC cI) post X J) (d : decode cc pc = .ok (.getfield 31, 3)) (k : J (pc + 3) lv (.int (iZ (I 23)) :: st) (ad, I, A)) : J pc lv (.ref (ad 39) :: st) (ad, I, A) := v_getf (q0 := 2) (ci := 4) (fk := 3) (v := .int (iZ (I 23))) hJ rfl rfl inX7g (by decide) kX7_31 rfl d k
theorem cpX7_31 (hJ : Snd l R cc nL RX7 rt D [(cI, .int)] O (wC cI) post X J) {x : Int} (d : decode cc pc = .ok (.putfield 31, 3)) (k : J (pc + 3) lv st (ad, va_up I 23 x, A)) : J pc lv (.int (iZ x) :: .ref (ad 39) :: st) (ad, I, A) := v_putf (q0 := 2) (ci := 4) (fk := 3) hJ rfl rfl inX7g tyX7_ok nmX7 (by decide) kX7_31 rfl rfl rfl (Nat.le_of_ble_eq_true rfl) rfl d k
theorem kX7_60 : Cond.fieldLink RX7 60 "ChordMover$Song" "lines" "I" ∈ gw := gw_of (List.mem_of_getElem? (i := 118) (by decide +kernel)) (by decide +kernel)
theorem cgX7_60a (hJ : Snd l R cc nL RX7 rt D [(cI, .int)] O (wC cI) post X J) (d : decode cc pc = .ok (.getfield 60, 3)) (k : J (pc + 3) lv (.int (iZ (I 42)) :: st) (ad, I, A)) : J pc lv (.ref (ad 59) :: st) (ad, I, A) := v_getf (q0 := 3) (ci := 5) (fk := 2) (v := .int (iZ (I 42))) hJ rfl rfl inX8g (by decide) kX7_60 rfl d k
theorem cpX7_60a (hJ : Snd l R cc nL RX7 rt D [(cI, .int)] O (wC cI) post X J) {x : Int} (d : decode cc pc = .ok (.putfield 60, 3)) (k : J (pc + 3) lv st (ad, va_up I 42 x, A)) : J pc lv (.int (iZ x) :: .ref (ad 59) :: st) (ad, I, A) := v_putf (q0 := 3) (ci := 5) (fk := 2) hJ rfl rfl inX8g tyX8_ok nmX8 (by decide) kX7_60 rfl rfl rfl (Nat.le_of_ble_eq_true rfl) rfl d k
theorem cgX7_60b (hJ : Snd l R cc nL RX7 rt D [(cI, .int)] O (wC cI) post X J) (d : decode cc pc = .ok (.getfield 60, 3)) (k : J (pc + 3) lv (.int (iZ (I 62)) :: st) (ad, I, A)) : J pc lv (.ref (ad 79) :: st) (ad, I, A) := v_getf (q0 := 9) (ci := 5) (fk := 2) (v := .int (iZ (I 62))) hJ rfl rfl inX8g (by decide) kX7_60 rfl d k
theorem cpX7_60b (hJ : Snd l R cc nL RX7 rt D [(cI, .int)] O (wC cI) post X J) {x : Int} (d : decode cc pc = .ok (.putfield 60, 3)) (k : J (pc + 3) lv st (ad, va_up I 62 x, A)) : J pc lv (.int (iZ x) :: .ref (ad 79) :: st) (ad, I, A) := v_putf (q0 := 9) (ci := 5) (fk := 2) hJ rfl rfl inX8g tyX8_ok nmX8 (by decide) kX7_60 rfl rfl rfl (Nat.le_of_ble_eq_true rfl) rfl d k
theorem kX7_66 : Cond.fieldLink RX7 66 "ChordMover$Song" "chords" "I" ∈ gw := gw_of (List.mem_of_getElem? (i := 122) (by decide +kernel)) (by decide +kernel)
theorem cgX7_66a (hJ : Snd l R cc nL RX7 rt D [(cI, .int)] O (wC cI) post X J) (d : decode cc pc = .ok (.getfield 66, 3)) (k : J (pc + 3) lv (.int (iZ (I 43)) :: st) (ad, I, A)) : J pc lv (.ref (ad 59) :: st) (ad, I, A) := v_getf (q0 := 3) (ci := 5) (fk := 3) (v := .int (iZ (I 43))) hJ rfl rfl inX8g (by decide) kX7_66 rfl d k
theorem cpX7_66a (hJ : Snd l R cc nL RX7 rt D [(cI, .int)] O (wC cI) post X J) {x : Int} (d : decode cc pc = .ok (.putfield 66, 3)) (k : J (pc + 3) lv st (ad, va_up I 43 x, A)) : J pc lv (.int (iZ x) :: .ref (ad 59) :: st) (ad, I, A) := v_putf (q0 := 3) (ci := 5) (fk := 3) hJ rfl rfl inX8g tyX8_ok nmX8 (by decide) kX7_66 rfl rfl rfl (Nat.le_of_ble_eq_true rfl) rfl d k
theorem cgX7_66b (hJ : Snd l R cc nL RX7 rt D [(cI, .int)] O (wC cI) post X J) (d : decode cc pc = .ok (.getfield 66, 3)) (k : J (pc + 3) lv (.int (iZ (I 63)) :: st) (ad, I, A)) : J pc lv (.ref (ad 79) :: st) (ad, I, A) := v_getf (q0 := 9) (ci := 5) (fk := 3) (v := .int (iZ (I 63))) hJ rfl rfl inX8g (by decide) kX7_66 rfl d k
theorem cpX7_66b (hJ : Snd l R cc nL RX7 rt D [(cI, .int)] O (wC cI) post X J) {x : Int} (d : decode cc pc = .ok (.putfield 66, 3)) (k : J (pc + 3) lv st (ad, va_up I 63 x, A)) : J pc lv (.int (iZ x) :: .ref (ad 79) :: st) (ad, I, A) := v_putf (q0 := 9) (ci := 5) (fk := 3) hJ rfl rfl inX8g tyX8_ok nmX8 (by decide) kX7_66 rfl rfl rfl (Nat.le_of_ble_eq_true rfl) rfl d k
theorem kX8_9 : Cond.fieldLink RX8 9 "ChordMover$Song" "items" "[I" ∈ gw := gw_of (List.mem_of_getElem? (i := 112) (by decide +kernel)) (by decide +kernel)
theorem cgX8_9a (hJ : Snd l R cc nL RX8 rt D [(cI, .int)] O (wC cI) post X J) (d : decode cc pc = .ok (.getfield 9, 3)) (k : J (pc + 3) lv (.ref (ad 40) :: st) (ad, I, A)) : J pc lv (.ref (ad 59) :: st) (ad, I, A) := v_getf (q0 := 3) (ci := 5) (fk := 0) (v := .ref (ad 40)) hJ rfl rfl inX8g (by decide) kX8_9 rfl d k
theorem cgX8_9b (hJ : Snd l R cc nL RX8 rt D [(cI, .int)] O (wC cI) post X J) (d : decode cc pc = .ok (.getfield 9, 3)) (k : J (pc + 3) lv (.ref (ad 60) :: st) (ad, I, A)) : J pc lv (.ref (ad 79) :: st) (ad, I, A) := v_getf (q0 := 9) (ci := 5) (fk := 0) (v := .ref (ad 60)) hJ rfl rfl inX8g (by decide) kX8_9 rfl d k
theorem kX8_15 : Cond.fieldLink RX8 15 "ChordMover$Song" "root" "[I" ∈ gw := gw_of (List.mem_of_getElem? (i := 124) (by decide +kernel)) (by decide +kernel)
theorem cgX8_15a (hJ : Snd l R cc nL RX8 rt D [(cI, .int)] O (wC cI) post X J) (d : decode cc pc = .ok (.getfield 15, 3)) (k : J (pc + 3) lv (.ref (ad 44) :: st) (ad, I, A)) : J pc lv (.ref (ad 59) :: st) (ad, I, A) := v_getf (q0 := 3) (ci := 5) (fk := 4) (v := .ref (ad 44)) hJ rfl rfl inX8g (by decide) kX8_15 rfl d k
theorem cgX8_15b (hJ : Snd l R cc nL RX8 rt D [(cI, .int)] O (wC cI) post X J) (d : decode cc pc = .ok (.getfield 15, 3)) (k : J (pc + 3) lv (.ref (ad 64) :: st) (ad, I, A)) : J pc lv (.ref (ad 79) :: st) (ad, I, A) := v_getf (q0 := 9) (ci := 5) (fk := 4) (v := .ref (ad 64)) hJ rfl rfl inX8g (by decide) kX8_15 rfl d k
theorem kX8_18 : Cond.fieldLink RX8 18 "ChordMover$Song" "kind" "[I" ∈ gw := gw_of (List.mem_of_getElem? (i := 127) (by decide +kernel)) (by decide +kernel)
theorem cgX8_18a (hJ : Snd l R cc nL RX8 rt D [(cI, .int)] O (wC cI) post X J) (d : decode cc pc = .ok (.getfield 18, 3)) (k : J (pc + 3) lv (.ref (ad 45) :: st) (ad, I, A)) : J pc lv (.ref (ad 59) :: st) (ad, I, A) := v_getf (q0 := 3) (ci := 5) (fk := 5) (v := .ref (ad 45)) hJ rfl rfl inX8g (by decide) kX8_18 rfl d k
theorem cgX8_18b (hJ : Snd l R cc nL RX8 rt D [(cI, .int)] O (wC cI) post X J) (d : decode cc pc = .ok (.getfield 18, 3)) (k : J (pc + 3) lv (.ref (ad 65) :: st) (ad, I, A)) : J pc lv (.ref (ad 79) :: st) (ad, I, A) := v_getf (q0 := 9) (ci := 5) (fk := 5) (v := .ref (ad 65)) hJ rfl rfl inX8g (by decide) kX8_18 rfl d k
theorem kX8_21 : Cond.fieldLink RX8 21 "ChordMover$Song" "bass" "[I" ∈ gw := gw_of (List.mem_of_getElem? (i := 130) (by decide +kernel)) (by decide +kernel)
theorem cgX8_21a (hJ : Snd l R cc nL RX8 rt D [(cI, .int)] O (wC cI) post X J) (d : decode cc pc = .ok (.getfield 21, 3)) (k : J (pc + 3) lv (.ref (ad 46) :: st) (ad, I, A)) : J pc lv (.ref (ad 59) :: st) (ad, I, A) := v_getf (q0 := 3) (ci := 5) (fk := 6) (v := .ref (ad 46)) hJ rfl rfl inX8g (by decide) kX8_21 rfl d k
theorem cgX8_21b (hJ : Snd l R cc nL RX8 rt D [(cI, .int)] O (wC cI) post X J) (d : decode cc pc = .ok (.getfield 21, 3)) (k : J (pc + 3) lv (.ref (ad 66) :: st) (ad, I, A)) : J pc lv (.ref (ad 79) :: st) (ad, I, A) := v_getf (q0 := 9) (ci := 5) (fk := 6) (v := .ref (ad 66)) hJ rfl rfl inX8g (by decide) kX8_21 rfl d k
theorem kX8_24 : Cond.fieldLink RX8 24 "ChordMover$Song" "line" "[I" ∈ gw := gw_of (List.mem_of_getElem? (i := 134) (by decide +kernel)) (by decide +kernel)
theorem cgX8_24a (hJ : Snd l R cc nL RX8 rt D [(cI, .int)] O (wC cI) post X J) (d : decode cc pc = .ok (.getfield 24, 3)) (k : J (pc + 3) lv (.ref (ad 47) :: st) (ad, I, A)) : J pc lv (.ref (ad 59) :: st) (ad, I, A) := v_getf (q0 := 3) (ci := 5) (fk := 7) (v := .ref (ad 47)) hJ rfl rfl inX8g (by decide) kX8_24 rfl d k
theorem cgX8_24b (hJ : Snd l R cc nL RX8 rt D [(cI, .int)] O (wC cI) post X J) (d : decode cc pc = .ok (.getfield 24, 3)) (k : J (pc + 3) lv (.ref (ad 67) :: st) (ad, I, A)) : J pc lv (.ref (ad 79) :: st) (ad, I, A) := v_getf (q0 := 9) (ci := 5) (fk := 7) (v := .ref (ad 67)) hJ rfl rfl inX8g (by decide) kX8_24 rfl d k
theorem kX8_27 : Cond.fieldLink RX8 27 "ChordMover$Song" "size" "I" ∈ gw := gw_of (List.mem_of_getElem? (i := 114) (by decide +kernel)) (by decide +kernel)
theorem cgX8_27a (hJ : Snd l R cc nL RX8 rt D [(cI, .int)] O (wC cI) post X J) (d : decode cc pc = .ok (.getfield 27, 3)) (k : J (pc + 3) lv (.int (iZ (I 41)) :: st) (ad, I, A)) : J pc lv (.ref (ad 59) :: st) (ad, I, A) := v_getf (q0 := 3) (ci := 5) (fk := 1) (v := .int (iZ (I 41))) hJ rfl rfl inX8g (by decide) kX8_27 rfl d k
theorem cpX8_27a (hJ : Snd l R cc nL RX8 rt D [(cI, .int)] O (wC cI) post X J) {x : Int} (d : decode cc pc = .ok (.putfield 27, 3)) (k : J (pc + 3) lv st (ad, va_up I 41 x, A)) : J pc lv (.int (iZ x) :: .ref (ad 59) :: st) (ad, I, A) := v_putf (q0 := 3) (ci := 5) (fk := 1) hJ rfl rfl inX8g tyX8_ok nmX8 (by decide) kX8_27 rfl rfl rfl (Nat.le_of_ble_eq_true rfl) rfl d k
theorem cgX8_27b (hJ : Snd l R cc nL RX8 rt D [(cI, .int)] O (wC cI) post X J) (d : decode cc pc = .ok (.getfield 27, 3)) (k : J (pc + 3) lv (.int (iZ (I 61)) :: st) (ad, I, A)) : J pc lv (.ref (ad 79) :: st) (ad, I, A) := v_getf (q0 := 9) (ci := 5) (fk := 1) (v := .int (iZ (I 61))) hJ rfl rfl inX8g (by decide) kX8_27 rfl d k
theorem cpX8_27b (hJ : Snd l R cc nL RX8 rt D [(cI, .int)] O (wC cI) post X J) {x : Int} (d : decode cc pc = .ok (.putfield 27, 3)) (k : J (pc + 3) lv st (ad, va_up I 61 x, A)) : J pc lv (.int (iZ x) :: .ref (ad 79) :: st) (ad, I, A) := v_putf (q0 := 9) (ci := 5) (fk := 1) hJ rfl rfl inX8g tyX8_ok nmX8 (by decide) kX8_27 rfl rfl rfl (Nat.le_of_ble_eq_true rfl) rfl d k
theorem kX8_31 : Cond.fieldLink RX8 31 "ChordMover$Song" "lines" "I" ∈ gw := gw_of (List.mem_of_getElem? (i := 116) (by decide +kernel)) (by decide +kernel)
theorem cgX8_31a (hJ : Snd l R cc nL RX8 rt D [(cI, .int)] O (wC cI) post X J) (d : decode cc pc = .ok (.getfield 31, 3)) (k : J (pc + 3) lv (.int (iZ (I 42)) :: st) (ad, I, A)) : J pc lv (.ref (ad 59) :: st) (ad, I, A) := v_getf (q0 := 3) (ci := 5) (fk := 2) (v := .int (iZ (I 42))) hJ rfl rfl inX8g (by decide) kX8_31 rfl d k
theorem cpX8_31a (hJ : Snd l R cc nL RX8 rt D [(cI, .int)] O (wC cI) post X J) {x : Int} (d : decode cc pc = .ok (.putfield 31, 3)) (k : J (pc + 3) lv st (ad, va_up I 42 x, A)) : J pc lv (.int (iZ x) :: .ref (ad 59) :: st) (ad, I, A) := v_putf (q0 := 3) (ci := 5) (fk := 2) hJ rfl rfl inX8g tyX8_ok nmX8 (by decide) kX8_31 rfl rfl rfl (Nat.le_of_ble_eq_true rfl) rfl d k
theorem cgX8_31b (hJ : Snd l R cc nL RX8 rt D [(cI, .int)] O (wC cI) post X J) (d : decode cc pc = .ok (.getfield 31, 3)) (k : J (pc + 3) lv (.int (iZ (I 62)) :: st) (ad, I, A)) : J pc lv (.ref (ad 79) :: st) (ad, I, A) := v_getf (q0 := 9) (ci := 5) (fk := 2) (v := .int (iZ (I 62))) hJ rfl rfl inX8g (by decide) kX8_31 rfl d k
theorem cpX8_31b (hJ : Snd l R cc nL RX8 rt D [(cI, .int)] O (wC cI) post X J) {x : Int} (d : decode cc pc = .ok (.putfield 31, 3)) (k : J (pc + 3) lv st (ad, va_up I 62 x, A)) : J pc lv (.int (iZ x) :: .ref (ad 79) :: st) (ad, I, A) := v_putf (q0 := 9) (ci := 5) (fk := 2) hJ rfl rfl inX8g tyX8_ok nmX8 (by decide) kX8_31 rfl rfl rfl (Nat.le_of_ble_eq_true rfl) rfl d k
theorem kX8_34 : Cond.fieldLink RX8 34 "ChordMover$Song" "chords" "I" ∈ gw := gw_of (List.mem_of_getElem? (i := 121) (by decide +kernel)) (by decide +kernel)
theorem cgX8_34a (hJ : Snd l R cc nL RX8 rt D [(cI, .int)] O (wC cI) post X J) (d : decode cc pc = .ok (.getfield 34, 3)) (k : J (pc + 3) lv (.int (iZ (I 43)) :: st) (ad, I, A)) : J pc lv (.ref (ad 59) :: st) (ad, I, A) := v_getf (q0 := 3) (ci := 5) (fk := 3) (v := .int (iZ (I 43))) hJ rfl rfl inX8g (by decide) kX8_34 rfl d k
theorem cpX8_34a (hJ : Snd l R cc nL RX8 rt D [(cI, .int)] O (wC cI) post X J) {x : Int} (d : decode cc pc = .ok (.putfield 34, 3)) (k : J (pc + 3) lv st (ad, va_up I 43 x, A)) : J pc lv (.int (iZ x) :: .ref (ad 59) :: st) (ad, I, A) := v_putf (q0 := 3) (ci := 5) (fk := 3) hJ rfl rfl inX8g tyX8_ok nmX8 (by decide) kX8_34 rfl rfl rfl (Nat.le_of_ble_eq_true rfl) rfl d k
theorem cgX8_34b (hJ : Snd l R cc nL RX8 rt D [(cI, .int)] O (wC cI) post X J) (d : decode cc pc = .ok (.getfield 34, 3)) (k : J (pc + 3) lv (.int (iZ (I 63)) :: st) (ad, I, A)) : J pc lv (.ref (ad 79) :: st) (ad, I, A) := v_getf (q0 := 9) (ci := 5) (fk := 3) (v := .int (iZ (I 63))) hJ rfl rfl inX8g (by decide) kX8_34 rfl d k
theorem cpX8_34b (hJ : Snd l R cc nL RX8 rt D [(cI, .int)] O (wC cI) post X J) {x : Int} (d : decode cc pc = .ok (.putfield 34, 3)) (k : J (pc + 3) lv st (ad, va_up I 63 x, A)) : J pc lv (.int (iZ x) :: .ref (ad 79) :: st) (ad, I, A) := v_putf (q0 := 9) (ci := 5) (fk := 3) hJ rfl rfl inX8g tyX8_ok nmX8 (by decide) kX8_34 rfl rfl rfl (Nat.le_of_ble_eq_true rfl) rfl d k
theorem kX9_9 : Cond.fieldLink RX9 9 "ChordMover$Writer" "gap" "[I" ∈ gw := gw_of (List.mem_of_getElem? (i := 175) (by decide +kernel)) (by decide +kernel)
theorem cgX9_9 (hJ : Snd l R cc nL RX9 rt D [(cI, .int)] O (wC cI) post X J) (d : decode cc pc = .ok (.getfield 9, 3)) (k : J (pc + 3) lv (.ref (ad 100) :: st) (ad, I, A)) : J pc lv (.ref (ad 119) :: st) (ad, I, A) := v_getf (q0 := 17) (ci := 6) (fk := 0) (v := .ref (ad 100)) hJ rfl rfl inX9g (by decide) kX9_9 rfl d k
theorem kX9_15 : Cond.fieldLink RX9 15 "ChordMover$Song" "lines" "I" ∈ gw := gw_of (List.mem_of_getElem? (i := 117) (by decide +kernel)) (by decide +kernel)
theorem cgX9_15a (hJ : Snd l R cc nL RX9 rt D [(cI, .int)] O (wC cI) post X J) (d : decode cc pc = .ok (.getfield 15, 3)) (k : J (pc + 3) lv (.int (iZ (I 42)) :: st) (ad, I, A)) : J pc lv (.ref (ad 59) :: st) (ad, I, A) := v_getf (q0 := 3) (ci := 5) (fk := 2) (v := .int (iZ (I 42))) hJ rfl rfl inX8g (by decide) kX9_15 rfl d k
theorem cpX9_15a (hJ : Snd l R cc nL RX9 rt D [(cI, .int)] O (wC cI) post X J) {x : Int} (d : decode cc pc = .ok (.putfield 15, 3)) (k : J (pc + 3) lv st (ad, va_up I 42 x, A)) : J pc lv (.int (iZ x) :: .ref (ad 59) :: st) (ad, I, A) := v_putf (q0 := 3) (ci := 5) (fk := 2) hJ rfl rfl inX8g tyX8_ok nmX8 (by decide) kX9_15 rfl rfl rfl (Nat.le_of_ble_eq_true rfl) rfl d k
theorem cgX9_15b (hJ : Snd l R cc nL RX9 rt D [(cI, .int)] O (wC cI) post X J) (d : decode cc pc = .ok (.getfield 15, 3)) (k : J (pc + 3) lv (.int (iZ (I 62)) :: st) (ad, I, A)) : J pc lv (.ref (ad 79) :: st) (ad, I, A) := v_getf (q0 := 9) (ci := 5) (fk := 2) (v := .int (iZ (I 62))) hJ rfl rfl inX8g (by decide) kX9_15 rfl d k
theorem cpX9_15b (hJ : Snd l R cc nL RX9 rt D [(cI, .int)] O (wC cI) post X J) {x : Int} (d : decode cc pc = .ok (.putfield 15, 3)) (k : J (pc + 3) lv st (ad, va_up I 62 x, A)) : J pc lv (.int (iZ x) :: .ref (ad 79) :: st) (ad, I, A) := v_putf (q0 := 9) (ci := 5) (fk := 2) hJ rfl rfl inX8g tyX8_ok nmX8 (by decide) kX9_15 rfl rfl rfl (Nat.le_of_ble_eq_true rfl) rfl d k
theorem kX9_42 : Cond.fieldLink RX9 42 "ChordMover$Song" "size" "I" ∈ gw := gw_of (List.mem_of_getElem? (i := 115) (by decide +kernel)) (by decide +kernel)
theorem cgX9_42a (hJ : Snd l R cc nL RX9 rt D [(cI, .int)] O (wC cI) post X J) (d : decode cc pc = .ok (.getfield 42, 3)) (k : J (pc + 3) lv (.int (iZ (I 41)) :: st) (ad, I, A)) : J pc lv (.ref (ad 59) :: st) (ad, I, A) := v_getf (q0 := 3) (ci := 5) (fk := 1) (v := .int (iZ (I 41))) hJ rfl rfl inX8g (by decide) kX9_42 rfl d k
theorem cpX9_42a (hJ : Snd l R cc nL RX9 rt D [(cI, .int)] O (wC cI) post X J) {x : Int} (d : decode cc pc = .ok (.putfield 42, 3)) (k : J (pc + 3) lv st (ad, va_up I 41 x, A)) : J pc lv (.int (iZ x) :: .ref (ad 59) :: st) (ad, I, A) := v_putf (q0 := 3) (ci := 5) (fk := 1) hJ rfl rfl inX8g tyX8_ok nmX8 (by decide) kX9_42 rfl rfl rfl (Nat.le_of_ble_eq_true rfl) rfl d k
theorem cgX9_42b (hJ : Snd l R cc nL RX9 rt D [(cI, .int)] O (wC cI) post X J) (d : decode cc pc = .ok (.getfield 42, 3)) (k : J (pc + 3) lv (.int (iZ (I 61)) :: st) (ad, I, A)) : J pc lv (.ref (ad 79) :: st) (ad, I, A) := v_getf (q0 := 9) (ci := 5) (fk := 1) (v := .int (iZ (I 61))) hJ rfl rfl inX8g (by decide) kX9_42 rfl d k
theorem cpX9_42b (hJ : Snd l R cc nL RX9 rt D [(cI, .int)] O (wC cI) post X J) {x : Int} (d : decode cc pc = .ok (.putfield 42, 3)) (k : J (pc + 3) lv st (ad, va_up I 61 x, A)) : J pc lv (.int (iZ x) :: .ref (ad 79) :: st) (ad, I, A) := v_putf (q0 := 9) (ci := 5) (fk := 1) hJ rfl rfl inX8g tyX8_ok nmX8 (by decide) kX9_42 rfl rfl rfl (Nat.le_of_ble_eq_true rfl) rfl d k
theorem kX9_45 : Cond.fieldLink RX9 45 "ChordMover$Song" "items" "[I" ∈ gw := gw_of (List.mem_of_getElem? (i := 113) (by decide +kernel)) (by decide +kernel)
theorem cgX9_45a (hJ : Snd l R cc nL RX9 rt D [(cI, .int)] O (wC cI) post X J) (d : decode cc pc = .ok (.getfield 45, 3)) (k : J (pc + 3) lv (.ref (ad 40) :: st) (ad, I, A)) : J pc lv (.ref (ad 59) :: st) (ad, I, A) := v_getf (q0 := 3) (ci := 5) (fk := 0) (v := .ref (ad 40)) hJ rfl rfl inX8g (by decide) kX9_45 rfl d k
theorem cgX9_45b (hJ : Snd l R cc nL RX9 rt D [(cI, .int)] O (wC cI) post X J) (d : decode cc pc = .ok (.getfield 45, 3)) (k : J (pc + 3) lv (.ref (ad 60) :: st) (ad, I, A)) : J pc lv (.ref (ad 79) :: st) (ad, I, A) := v_getf (q0 := 9) (ci := 5) (fk := 0) (v := .ref (ad 60)) hJ rfl rfl inX8g (by decide) kX9_45 rfl d k
theorem kX9_62 : Cond.fieldLink RX9 62 "ChordMover$Page" "length" "I" ∈ gw := gw_of (List.mem_of_getElem? (i := 162) (by decide +kernel)) (by decide +kernel)
theorem cgX9_62 (hJ : Snd l R cc nL RX9 rt D [(cI, .int)] O (wC cI) post X J) (d : decode cc pc = .ok (.getfield 62, 3)) (k : J (pc + 3) lv (.int (iZ (I 81)) :: st) (ad, I, A)) : J pc lv (.ref (ad 99) :: st) (ad, I, A) := v_getf (q0 := 15) (ci := 2) (fk := 1) (v := .int (iZ (I 81))) hJ rfl rfl inX5g (by decide) kX9_62 rfl d k
theorem cpX9_62 (hJ : Snd l R cc nL RX9 rt D [(cI, .int)] O (wC cI) post X J) {x : Int} (d : decode cc pc = .ok (.putfield 62, 3)) (k : J (pc + 3) lv st (ad, va_up I 81 x, A)) : J pc lv (.int (iZ x) :: .ref (ad 99) :: st) (ad, I, A) := v_putf (q0 := 15) (ci := 2) (fk := 1) hJ rfl rfl inX5g tyX5_ok nmX5 (by decide) kX9_62 rfl rfl rfl (Nat.le_of_ble_eq_true rfl) rfl d k
variable {own : String}
theorem ca0 (hJ : Snd l R cc nL own rt D [(cI, .int)] O (wC cI) post X J) {i : Int} (h0 : 0 ≤ i) (h1 : i < 1200) (d : decode cc pc = .ok (.iaload, 1)) (k : J (pc + 1) lv (.int (iZ (A 0 i)) :: st) (ad, I, A)) : J pc lv (.int (iZ i) :: .ref (ad 0) :: st) (ad, I, A) := v_iald (q0 := 1) (t0 := 0) (n := 1200) (f := A 0) hJ rfl rfl (by decide) h0 h1 d k
theorem cs0 (hJ : Snd l R cc nL own rt D [(cI, .int)] O (wC cI) post X J) {i x : Int} (h0 : 0 ≤ i) (h1 : i < 1200) (d : decode cc pc = .ok (.iastore, 1)) (k : J (pc + 1) lv st (ad, I, va_up A 0 (zu (A 0) i x))) : J pc lv (.int (iZ x) :: .int (iZ i) :: .ref (ad 0) :: st) (ad, I, A) := v_iast (q0 := 1) (t0 := 0) (n := 1200) (f := A 0) hJ rfl rfl (by decide) h0 h1 rfl d k
theorem cl0 (hJ : Snd l R cc nL own rt D [(cI, .int)] O (wC cI) post X J) (d : decode cc pc = .ok (.arraylength, 1)) (k : J (pc + 1) lv (.int (iZ 1200) :: st) (ad, I, A)) : J pc lv (.ref (ad 0) :: st) (ad, I, A) := v_alen (q0 := 1) (t0 := 0) (n := 1200) hJ rfl rfl d k
theorem ca40 (hJ : Snd l R cc nL own rt D [(cI, .int)] O (wC cI) post X J) {i : Int} (h0 : 0 ≤ i) (h1 : i < 1200) (d : decode cc pc = .ok (.iaload, 1)) (k : J (pc + 1) lv (.int (iZ (A 40 i)) :: st) (ad, I, A)) : J pc lv (.int (iZ i) :: .ref (ad 40) :: st) (ad, I, A) := v_iald (q0 := 4) (t0 := 0) (n := 1200) (f := A 40) hJ rfl rfl (by decide) h0 h1 d k
theorem cs40 (hJ : Snd l R cc nL own rt D [(cI, .int)] O (wC cI) post X J) {i x : Int} (h0 : 0 ≤ i) (h1 : i < 1200) (d : decode cc pc = .ok (.iastore, 1)) (k : J (pc + 1) lv st (ad, I, va_up A 40 (zu (A 40) i x))) : J pc lv (.int (iZ x) :: .int (iZ i) :: .ref (ad 40) :: st) (ad, I, A) := v_iast (q0 := 4) (t0 := 0) (n := 1200) (f := A 40) hJ rfl rfl (by decide) h0 h1 rfl d k
theorem cl40 (hJ : Snd l R cc nL own rt D [(cI, .int)] O (wC cI) post X J) (d : decode cc pc = .ok (.arraylength, 1)) (k : J (pc + 1) lv (.int (iZ 1200) :: st) (ad, I, A)) : J pc lv (.ref (ad 40) :: st) (ad, I, A) := v_alen (q0 := 4) (t0 := 0) (n := 1200) hJ rfl rfl d k
theorem ca44 (hJ : Snd l R cc nL own rt D [(cI, .int)] O (wC cI) post X J) {i : Int} (h0 : 0 ≤ i) (h1 : i < 60) (d : decode cc pc = .ok (.iaload, 1)) (k : J (pc + 1) lv (.int (iZ (A 44 i)) :: st) (ad, I, A)) : J pc lv (.int (iZ i) :: .ref (ad 44) :: st) (ad, I, A) := v_iald (q0 := 5) (t0 := 0) (n := 60) (f := A 44) hJ rfl rfl (by decide) h0 h1 d k
theorem cs44 (hJ : Snd l R cc nL own rt D [(cI, .int)] O (wC cI) post X J) {i x : Int} (h0 : 0 ≤ i) (h1 : i < 60) (d : decode cc pc = .ok (.iastore, 1)) (k : J (pc + 1) lv st (ad, I, va_up A 44 (zu (A 44) i x))) : J pc lv (.int (iZ x) :: .int (iZ i) :: .ref (ad 44) :: st) (ad, I, A) := v_iast (q0 := 5) (t0 := 0) (n := 60) (f := A 44) hJ rfl rfl (by decide) h0 h1 rfl d k
theorem cl44 (hJ : Snd l R cc nL own rt D [(cI, .int)] O (wC cI) post X J) (d : decode cc pc = .ok (.arraylength, 1)) (k : J (pc + 1) lv (.int (iZ 60) :: st) (ad, I, A)) : J pc lv (.ref (ad 44) :: st) (ad, I, A) := v_alen (q0 := 5) (t0 := 0) (n := 60) hJ rfl rfl d k
theorem ca45 (hJ : Snd l R cc nL own rt D [(cI, .int)] O (wC cI) post X J) {i : Int} (h0 : 0 ≤ i) (h1 : i < 60) (d : decode cc pc = .ok (.iaload, 1)) (k : J (pc + 1) lv (.int (iZ (A 45 i)) :: st) (ad, I, A)) : J pc lv (.int (iZ i) :: .ref (ad 45) :: st) (ad, I, A) := v_iald (q0 := 6) (t0 := 0) (n := 60) (f := A 45) hJ rfl rfl (by decide) h0 h1 d k
theorem cs45 (hJ : Snd l R cc nL own rt D [(cI, .int)] O (wC cI) post X J) {i x : Int} (h0 : 0 ≤ i) (h1 : i < 60) (d : decode cc pc = .ok (.iastore, 1)) (k : J (pc + 1) lv st (ad, I, va_up A 45 (zu (A 45) i x))) : J pc lv (.int (iZ x) :: .int (iZ i) :: .ref (ad 45) :: st) (ad, I, A) := v_iast (q0 := 6) (t0 := 0) (n := 60) (f := A 45) hJ rfl rfl (by decide) h0 h1 rfl d k
theorem cl45 (hJ : Snd l R cc nL own rt D [(cI, .int)] O (wC cI) post X J) (d : decode cc pc = .ok (.arraylength, 1)) (k : J (pc + 1) lv (.int (iZ 60) :: st) (ad, I, A)) : J pc lv (.ref (ad 45) :: st) (ad, I, A) := v_alen (q0 := 6) (t0 := 0) (n := 60) hJ rfl rfl d k
theorem ca46 (hJ : Snd l R cc nL own rt D [(cI, .int)] O (wC cI) post X J) {i : Int} (h0 : 0 ≤ i) (h1 : i < 60) (d : decode cc pc = .ok (.iaload, 1)) (k : J (pc + 1) lv (.int (iZ (A 46 i)) :: st) (ad, I, A)) : J pc lv (.int (iZ i) :: .ref (ad 46) :: st) (ad, I, A) := v_iald (q0 := 7) (t0 := 0) (n := 60) (f := A 46) hJ rfl rfl (by decide) h0 h1 d k
theorem cs46 (hJ : Snd l R cc nL own rt D [(cI, .int)] O (wC cI) post X J) {i x : Int} (h0 : 0 ≤ i) (h1 : i < 60) (d : decode cc pc = .ok (.iastore, 1)) (k : J (pc + 1) lv st (ad, I, va_up A 46 (zu (A 46) i x))) : J pc lv (.int (iZ x) :: .int (iZ i) :: .ref (ad 46) :: st) (ad, I, A) := v_iast (q0 := 7) (t0 := 0) (n := 60) (f := A 46) hJ rfl rfl (by decide) h0 h1 rfl d k
theorem cl46 (hJ : Snd l R cc nL own rt D [(cI, .int)] O (wC cI) post X J) (d : decode cc pc = .ok (.arraylength, 1)) (k : J (pc + 1) lv (.int (iZ 60) :: st) (ad, I, A)) : J pc lv (.ref (ad 46) :: st) (ad, I, A) := v_alen (q0 := 7) (t0 := 0) (n := 60) hJ rfl rfl d k
theorem ca47 (hJ : Snd l R cc nL own rt D [(cI, .int)] O (wC cI) post X J) {i : Int} (h0 : 0 ≤ i) (h1 : i < 60) (d : decode cc pc = .ok (.iaload, 1)) (k : J (pc + 1) lv (.int (iZ (A 47 i)) :: st) (ad, I, A)) : J pc lv (.int (iZ i) :: .ref (ad 47) :: st) (ad, I, A) := v_iald (q0 := 8) (t0 := 0) (n := 60) (f := A 47) hJ rfl rfl (by decide) h0 h1 d k
theorem cs47 (hJ : Snd l R cc nL own rt D [(cI, .int)] O (wC cI) post X J) {i x : Int} (h0 : 0 ≤ i) (h1 : i < 60) (d : decode cc pc = .ok (.iastore, 1)) (k : J (pc + 1) lv st (ad, I, va_up A 47 (zu (A 47) i x))) : J pc lv (.int (iZ x) :: .int (iZ i) :: .ref (ad 47) :: st) (ad, I, A) := v_iast (q0 := 8) (t0 := 0) (n := 60) (f := A 47) hJ rfl rfl (by decide) h0 h1 rfl d k
theorem cl47 (hJ : Snd l R cc nL own rt D [(cI, .int)] O (wC cI) post X J) (d : decode cc pc = .ok (.arraylength, 1)) (k : J (pc + 1) lv (.int (iZ 60) :: st) (ad, I, A)) : J pc lv (.ref (ad 47) :: st) (ad, I, A) := v_alen (q0 := 8) (t0 := 0) (n := 60) hJ rfl rfl d k
theorem ca60 (hJ : Snd l R cc nL own rt D [(cI, .int)] O (wC cI) post X J) {i : Int} (h0 : 0 ≤ i) (h1 : i < 1200) (d : decode cc pc = .ok (.iaload, 1)) (k : J (pc + 1) lv (.int (iZ (A 60 i)) :: st) (ad, I, A)) : J pc lv (.int (iZ i) :: .ref (ad 60) :: st) (ad, I, A) := v_iald (q0 := 10) (t0 := 0) (n := 1200) (f := A 60) hJ rfl rfl (by decide) h0 h1 d k
theorem cs60 (hJ : Snd l R cc nL own rt D [(cI, .int)] O (wC cI) post X J) {i x : Int} (h0 : 0 ≤ i) (h1 : i < 1200) (d : decode cc pc = .ok (.iastore, 1)) (k : J (pc + 1) lv st (ad, I, va_up A 60 (zu (A 60) i x))) : J pc lv (.int (iZ x) :: .int (iZ i) :: .ref (ad 60) :: st) (ad, I, A) := v_iast (q0 := 10) (t0 := 0) (n := 1200) (f := A 60) hJ rfl rfl (by decide) h0 h1 rfl d k
theorem cl60 (hJ : Snd l R cc nL own rt D [(cI, .int)] O (wC cI) post X J) (d : decode cc pc = .ok (.arraylength, 1)) (k : J (pc + 1) lv (.int (iZ 1200) :: st) (ad, I, A)) : J pc lv (.ref (ad 60) :: st) (ad, I, A) := v_alen (q0 := 10) (t0 := 0) (n := 1200) hJ rfl rfl d k
theorem ca64 (hJ : Snd l R cc nL own rt D [(cI, .int)] O (wC cI) post X J) {i : Int} (h0 : 0 ≤ i) (h1 : i < 60) (d : decode cc pc = .ok (.iaload, 1)) (k : J (pc + 1) lv (.int (iZ (A 64 i)) :: st) (ad, I, A)) : J pc lv (.int (iZ i) :: .ref (ad 64) :: st) (ad, I, A) := v_iald (q0 := 11) (t0 := 0) (n := 60) (f := A 64) hJ rfl rfl (by decide) h0 h1 d k
theorem cs64 (hJ : Snd l R cc nL own rt D [(cI, .int)] O (wC cI) post X J) {i x : Int} (h0 : 0 ≤ i) (h1 : i < 60) (d : decode cc pc = .ok (.iastore, 1)) (k : J (pc + 1) lv st (ad, I, va_up A 64 (zu (A 64) i x))) : J pc lv (.int (iZ x) :: .int (iZ i) :: .ref (ad 64) :: st) (ad, I, A) := v_iast (q0 := 11) (t0 := 0) (n := 60) (f := A 64) hJ rfl rfl (by decide) h0 h1 rfl d k
theorem cl64 (hJ : Snd l R cc nL own rt D [(cI, .int)] O (wC cI) post X J) (d : decode cc pc = .ok (.arraylength, 1)) (k : J (pc + 1) lv (.int (iZ 60) :: st) (ad, I, A)) : J pc lv (.ref (ad 64) :: st) (ad, I, A) := v_alen (q0 := 11) (t0 := 0) (n := 60) hJ rfl rfl d k
theorem ca65 (hJ : Snd l R cc nL own rt D [(cI, .int)] O (wC cI) post X J) {i : Int} (h0 : 0 ≤ i) (h1 : i < 60) (d : decode cc pc = .ok (.iaload, 1)) (k : J (pc + 1) lv (.int (iZ (A 65 i)) :: st) (ad, I, A)) : J pc lv (.int (iZ i) :: .ref (ad 65) :: st) (ad, I, A) := v_iald (q0 := 12) (t0 := 0) (n := 60) (f := A 65) hJ rfl rfl (by decide) h0 h1 d k
theorem cs65 (hJ : Snd l R cc nL own rt D [(cI, .int)] O (wC cI) post X J) {i x : Int} (h0 : 0 ≤ i) (h1 : i < 60) (d : decode cc pc = .ok (.iastore, 1)) (k : J (pc + 1) lv st (ad, I, va_up A 65 (zu (A 65) i x))) : J pc lv (.int (iZ x) :: .int (iZ i) :: .ref (ad 65) :: st) (ad, I, A) := v_iast (q0 := 12) (t0 := 0) (n := 60) (f := A 65) hJ rfl rfl (by decide) h0 h1 rfl d k
theorem cl65 (hJ : Snd l R cc nL own rt D [(cI, .int)] O (wC cI) post X J) (d : decode cc pc = .ok (.arraylength, 1)) (k : J (pc + 1) lv (.int (iZ 60) :: st) (ad, I, A)) : J pc lv (.ref (ad 65) :: st) (ad, I, A) := v_alen (q0 := 12) (t0 := 0) (n := 60) hJ rfl rfl d k
theorem ca66 (hJ : Snd l R cc nL own rt D [(cI, .int)] O (wC cI) post X J) {i : Int} (h0 : 0 ≤ i) (h1 : i < 60) (d : decode cc pc = .ok (.iaload, 1)) (k : J (pc + 1) lv (.int (iZ (A 66 i)) :: st) (ad, I, A)) : J pc lv (.int (iZ i) :: .ref (ad 66) :: st) (ad, I, A) := v_iald (q0 := 13) (t0 := 0) (n := 60) (f := A 66) hJ rfl rfl (by decide) h0 h1 d k
theorem cs66 (hJ : Snd l R cc nL own rt D [(cI, .int)] O (wC cI) post X J) {i x : Int} (h0 : 0 ≤ i) (h1 : i < 60) (d : decode cc pc = .ok (.iastore, 1)) (k : J (pc + 1) lv st (ad, I, va_up A 66 (zu (A 66) i x))) : J pc lv (.int (iZ x) :: .int (iZ i) :: .ref (ad 66) :: st) (ad, I, A) := v_iast (q0 := 13) (t0 := 0) (n := 60) (f := A 66) hJ rfl rfl (by decide) h0 h1 rfl d k
theorem cl66 (hJ : Snd l R cc nL own rt D [(cI, .int)] O (wC cI) post X J) (d : decode cc pc = .ok (.arraylength, 1)) (k : J (pc + 1) lv (.int (iZ 60) :: st) (ad, I, A)) : J pc lv (.ref (ad 66) :: st) (ad, I, A) := v_alen (q0 := 13) (t0 := 0) (n := 60) hJ rfl rfl d k
theorem ca67 (hJ : Snd l R cc nL own rt D [(cI, .int)] O (wC cI) post X J) {i : Int} (h0 : 0 ≤ i) (h1 : i < 60) (d : decode cc pc = .ok (.iaload, 1)) (k : J (pc + 1) lv (.int (iZ (A 67 i)) :: st) (ad, I, A)) : J pc lv (.int (iZ i) :: .ref (ad 67) :: st) (ad, I, A) := v_iald (q0 := 14) (t0 := 0) (n := 60) (f := A 67) hJ rfl rfl (by decide) h0 h1 d k
theorem cs67 (hJ : Snd l R cc nL own rt D [(cI, .int)] O (wC cI) post X J) {i x : Int} (h0 : 0 ≤ i) (h1 : i < 60) (d : decode cc pc = .ok (.iastore, 1)) (k : J (pc + 1) lv st (ad, I, va_up A 67 (zu (A 67) i x))) : J pc lv (.int (iZ x) :: .int (iZ i) :: .ref (ad 67) :: st) (ad, I, A) := v_iast (q0 := 14) (t0 := 0) (n := 60) (f := A 67) hJ rfl rfl (by decide) h0 h1 rfl d k
theorem cl67 (hJ : Snd l R cc nL own rt D [(cI, .int)] O (wC cI) post X J) (d : decode cc pc = .ok (.arraylength, 1)) (k : J (pc + 1) lv (.int (iZ 60) :: st) (ad, I, A)) : J pc lv (.ref (ad 67) :: st) (ad, I, A) := v_alen (q0 := 14) (t0 := 0) (n := 60) hJ rfl rfl d k
theorem ca80 (hJ : Snd l R cc nL own rt D [(cI, .int)] O (wC cI) post X J) {i : Int} (h0 : 0 ≤ i) (h1 : i < 4000) (d : decode cc pc = .ok (.iaload, 1)) (k : J (pc + 1) lv (.int (iZ (A 80 i)) :: st) (ad, I, A)) : J pc lv (.int (iZ i) :: .ref (ad 80) :: st) (ad, I, A) := v_iald (q0 := 16) (t0 := 0) (n := 4000) (f := A 80) hJ rfl rfl (by decide) h0 h1 d k
theorem cs80 (hJ : Snd l R cc nL own rt D [(cI, .int)] O (wC cI) post X J) {i x : Int} (h0 : 0 ≤ i) (h1 : i < 4000) (d : decode cc pc = .ok (.iastore, 1)) (k : J (pc + 1) lv st (ad, I, va_up A 80 (zu (A 80) i x))) : J pc lv (.int (iZ x) :: .int (iZ i) :: .ref (ad 80) :: st) (ad, I, A) := v_iast (q0 := 16) (t0 := 0) (n := 4000) (f := A 80) hJ rfl rfl (by decide) h0 h1 rfl d k
theorem cl80 (hJ : Snd l R cc nL own rt D [(cI, .int)] O (wC cI) post X J) (d : decode cc pc = .ok (.arraylength, 1)) (k : J (pc + 1) lv (.int (iZ 4000) :: st) (ad, I, A)) : J pc lv (.ref (ad 80) :: st) (ad, I, A) := v_alen (q0 := 16) (t0 := 0) (n := 4000) hJ rfl rfl d k
theorem ca100 (hJ : Snd l R cc nL own rt D [(cI, .int)] O (wC cI) post X J) {i : Int} (h0 : 0 ≤ i) (h1 : i < 60) (d : decode cc pc = .ok (.iaload, 1)) (k : J (pc + 1) lv (.int (iZ (A 100 i)) :: st) (ad, I, A)) : J pc lv (.int (iZ i) :: .ref (ad 100) :: st) (ad, I, A) := v_iald (q0 := 18) (t0 := 0) (n := 60) (f := A 100) hJ rfl rfl (by decide) h0 h1 d k
theorem cs100 (hJ : Snd l R cc nL own rt D [(cI, .int)] O (wC cI) post X J) {i x : Int} (h0 : 0 ≤ i) (h1 : i < 60) (d : decode cc pc = .ok (.iastore, 1)) (k : J (pc + 1) lv st (ad, I, va_up A 100 (zu (A 100) i x))) : J pc lv (.int (iZ x) :: .int (iZ i) :: .ref (ad 100) :: st) (ad, I, A) := v_iast (q0 := 18) (t0 := 0) (n := 60) (f := A 100) hJ rfl rfl (by decide) h0 h1 rfl d k
theorem cl100 (hJ : Snd l R cc nL own rt D [(cI, .int)] O (wC cI) post X J) (d : decode cc pc = .ok (.arraylength, 1)) (k : J (pc + 1) lv (.int (iZ 60) :: st) (ad, I, A)) : J pc lv (.ref (ad 100) :: st) (ad, I, A) := v_alen (q0 := 18) (t0 := 0) (n := 60) hJ rfl rfl d k
theorem ca120 (hJ : Snd l R cc nL own rt D [(cI, .int)] O (wC cI) post X J) {i : Int} (h0 : 0 ≤ i) (h1 : i < 6) (d : decode cc pc = .ok (.iaload, 1)) (k : J (pc + 1) lv (.int (iZ (A 120 i)) :: st) (ad, I, A)) : J pc lv (.int (iZ i) :: .ref (ad 120) :: st) (ad, I, A) := v_iald (q0 := 20) (t0 := 0) (n := 6) (f := A 120) hJ rfl rfl (by decide) h0 h1 d k
theorem cs120 (hJ : Snd l R cc nL own rt D [(cI, .int)] O (wC cI) post X J) {i x : Int} (h0 : 0 ≤ i) (h1 : i < 6) (d : decode cc pc = .ok (.iastore, 1)) (k : J (pc + 1) lv st (ad, I, va_up A 120 (zu (A 120) i x))) : J pc lv (.int (iZ x) :: .int (iZ i) :: .ref (ad 120) :: st) (ad, I, A) := v_iast (q0 := 20) (t0 := 0) (n := 6) (f := A 120) hJ rfl rfl (by decide) h0 h1 rfl d k
theorem cl120 (hJ : Snd l R cc nL own rt D [(cI, .int)] O (wC cI) post X J) (d : decode cc pc = .ok (.arraylength, 1)) (k : J (pc + 1) lv (.int (iZ 6) :: st) (ad, I, A)) : J pc lv (.ref (ad 120) :: st) (ad, I, A) := v_alen (q0 := 20) (t0 := 0) (n := 6) hJ rfl rfl d k
theorem ca122 (hJ : Snd l R cc nL own rt D [(cI, .int)] O (wC cI) post X J) {i : Int} (h0 : 0 ≤ i) (h1 : i < 6) (d : decode cc pc = .ok (.iaload, 1)) (k : J (pc + 1) lv (.int (iZ (A 122 i)) :: st) (ad, I, A)) : J pc lv (.int (iZ i) :: .ref (ad 122) :: st) (ad, I, A) := v_iald (q0 := 21) (t0 := 0) (n := 6) (f := A 122) hJ rfl rfl (by decide) h0 h1 d k
theorem cs122 (hJ : Snd l R cc nL own rt D [(cI, .int)] O (wC cI) post X J) {i x : Int} (h0 : 0 ≤ i) (h1 : i < 6) (d : decode cc pc = .ok (.iastore, 1)) (k : J (pc + 1) lv st (ad, I, va_up A 122 (zu (A 122) i x))) : J pc lv (.int (iZ x) :: .int (iZ i) :: .ref (ad 122) :: st) (ad, I, A) := v_iast (q0 := 21) (t0 := 0) (n := 6) (f := A 122) hJ rfl rfl (by decide) h0 h1 rfl d k
theorem cl122 (hJ : Snd l R cc nL own rt D [(cI, .int)] O (wC cI) post X J) (d : decode cc pc = .ok (.arraylength, 1)) (k : J (pc + 1) lv (.int (iZ 6) :: st) (ad, I, A)) : J pc lv (.ref (ad 122) :: st) (ad, I, A) := v_alen (q0 := 21) (t0 := 0) (n := 6) hJ rfl rfl d k
theorem ca124 (hJ : Snd l R cc nL own rt D [(cI, .int)] O (wC cI) post X J) {i : Int} (h0 : 0 ≤ i) (h1 : i < 6) (d : decode cc pc = .ok (.iaload, 1)) (k : J (pc + 1) lv (.int (iZ (A 124 i)) :: st) (ad, I, A)) : J pc lv (.int (iZ i) :: .ref (ad 124) :: st) (ad, I, A) := v_iald (q0 := 22) (t0 := 0) (n := 6) (f := A 124) hJ rfl rfl (by decide) h0 h1 d k
theorem cs124 (hJ : Snd l R cc nL own rt D [(cI, .int)] O (wC cI) post X J) {i x : Int} (h0 : 0 ≤ i) (h1 : i < 6) (d : decode cc pc = .ok (.iastore, 1)) (k : J (pc + 1) lv st (ad, I, va_up A 124 (zu (A 124) i x))) : J pc lv (.int (iZ x) :: .int (iZ i) :: .ref (ad 124) :: st) (ad, I, A) := v_iast (q0 := 22) (t0 := 0) (n := 6) (f := A 124) hJ rfl rfl (by decide) h0 h1 rfl d k
theorem cl124 (hJ : Snd l R cc nL own rt D [(cI, .int)] O (wC cI) post X J) (d : decode cc pc = .ok (.arraylength, 1)) (k : J (pc + 1) lv (.int (iZ 6) :: st) (ad, I, A)) : J pc lv (.ref (ad 124) :: st) (ad, I, A) := v_alen (q0 := 22) (t0 := 0) (n := 6) hJ rfl rfl d k
theorem ca140 (hJ : Snd l R cc nL own rt D [(cI, .int)] O (wC cI) post X J) {i : Int} (h0 : 0 ≤ i) (h1 : i < 2880) (d : decode cc pc = .ok (.iaload, 1)) (k : J (pc + 1) lv (.int (iZ (A 140 i)) :: st) (ad, I, A)) : J pc lv (.int (iZ i) :: .ref (ad 140) :: st) (ad, I, A) := v_iald (q0 := 24) (t0 := 0) (n := 2880) (f := A 140) hJ rfl rfl (by decide) h0 h1 d k
theorem cs140 (hJ : Snd l R cc nL own rt D [(cI, .int)] O (wC cI) post X J) {i x : Int} (h0 : 0 ≤ i) (h1 : i < 2880) (d : decode cc pc = .ok (.iastore, 1)) (k : J (pc + 1) lv st (ad, I, va_up A 140 (zu (A 140) i x))) : J pc lv (.int (iZ x) :: .int (iZ i) :: .ref (ad 140) :: st) (ad, I, A) := v_iast (q0 := 24) (t0 := 0) (n := 2880) (f := A 140) hJ rfl rfl (by decide) h0 h1 rfl d k
theorem cl140 (hJ : Snd l R cc nL own rt D [(cI, .int)] O (wC cI) post X J) (d : decode cc pc = .ok (.arraylength, 1)) (k : J (pc + 1) lv (.int (iZ 2880) :: st) (ad, I, A)) : J pc lv (.ref (ad 140) :: st) (ad, I, A) := v_alen (q0 := 24) (t0 := 0) (n := 2880) hJ rfl rfl d k
theorem ca141 (hJ : Snd l R cc nL own rt D [(cI, .int)] O (wC cI) post X J) {i : Int} (h0 : 0 ≤ i) (h1 : i < 480) (d : decode cc pc = .ok (.iaload, 1)) (k : J (pc + 1) lv (.int (iZ (A 141 i)) :: st) (ad, I, A)) : J pc lv (.int (iZ i) :: .ref (ad 141) :: st) (ad, I, A) := v_iald (q0 := 25) (t0 := 0) (n := 480) (f := A 141) hJ rfl rfl (by decide) h0 h1 d k
theorem cs141 (hJ : Snd l R cc nL own rt D [(cI, .int)] O (wC cI) post X J) {i x : Int} (h0 : 0 ≤ i) (h1 : i < 480) (d : decode cc pc = .ok (.iastore, 1)) (k : J (pc + 1) lv st (ad, I, va_up A 141 (zu (A 141) i x))) : J pc lv (.int (iZ x) :: .int (iZ i) :: .ref (ad 141) :: st) (ad, I, A) := v_iast (q0 := 25) (t0 := 0) (n := 480) (f := A 141) hJ rfl rfl (by decide) h0 h1 rfl d k
theorem cl141 (hJ : Snd l R cc nL own rt D [(cI, .int)] O (wC cI) post X J) (d : decode cc pc = .ok (.arraylength, 1)) (k : J (pc + 1) lv (.int (iZ 480) :: st) (ad, I, A)) : J pc lv (.ref (ad 141) :: st) (ad, I, A) := v_alen (q0 := 25) (t0 := 0) (n := 480) hJ rfl rfl d k
theorem ca160 (hJ : Snd l R cc nL own rt D [(cI, .int)] O (wC cI) post X J) {i : Int} (h0 : 0 ≤ i) (h1 : i < 360) (d : decode cc pc = .ok (.iaload, 1)) (k : J (pc + 1) lv (.int (iZ (A 160 i)) :: st) (ad, I, A)) : J pc lv (.int (iZ i) :: .ref (ad 160) :: st) (ad, I, A) := v_iald (q0 := 27) (t0 := 0) (n := 360) (f := A 160) hJ rfl rfl (by decide) h0 h1 d k
theorem cs160 (hJ : Snd l R cc nL own rt D [(cI, .int)] O (wC cI) post X J) {i x : Int} (h0 : 0 ≤ i) (h1 : i < 360) (d : decode cc pc = .ok (.iastore, 1)) (k : J (pc + 1) lv st (ad, I, va_up A 160 (zu (A 160) i x))) : J pc lv (.int (iZ x) :: .int (iZ i) :: .ref (ad 160) :: st) (ad, I, A) := v_iast (q0 := 27) (t0 := 0) (n := 360) (f := A 160) hJ rfl rfl (by decide) h0 h1 rfl d k
theorem cl160 (hJ : Snd l R cc nL own rt D [(cI, .int)] O (wC cI) post X J) (d : decode cc pc = .ok (.arraylength, 1)) (k : J (pc + 1) lv (.int (iZ 360) :: st) (ad, I, A)) : J pc lv (.ref (ad 160) :: st) (ad, I, A) := v_alen (q0 := 27) (t0 := 0) (n := 360) hJ rfl rfl d k
theorem ca161 (hJ : Snd l R cc nL own rt D [(cI, .int)] O (wC cI) post X J) {i : Int} (h0 : 0 ≤ i) (h1 : i < 360) (d : decode cc pc = .ok (.iaload, 1)) (k : J (pc + 1) lv (.int (iZ (A 161 i)) :: st) (ad, I, A)) : J pc lv (.int (iZ i) :: .ref (ad 161) :: st) (ad, I, A) := v_iald (q0 := 28) (t0 := 0) (n := 360) (f := A 161) hJ rfl rfl (by decide) h0 h1 d k
theorem cs161 (hJ : Snd l R cc nL own rt D [(cI, .int)] O (wC cI) post X J) {i x : Int} (h0 : 0 ≤ i) (h1 : i < 360) (d : decode cc pc = .ok (.iastore, 1)) (k : J (pc + 1) lv st (ad, I, va_up A 161 (zu (A 161) i x))) : J pc lv (.int (iZ x) :: .int (iZ i) :: .ref (ad 161) :: st) (ad, I, A) := v_iast (q0 := 28) (t0 := 0) (n := 360) (f := A 161) hJ rfl rfl (by decide) h0 h1 rfl d k
theorem cl161 (hJ : Snd l R cc nL own rt D [(cI, .int)] O (wC cI) post X J) (d : decode cc pc = .ok (.arraylength, 1)) (k : J (pc + 1) lv (.int (iZ 360) :: st) (ad, I, A)) : J pc lv (.ref (ad 161) :: st) (ad, I, A) := v_alen (q0 := 28) (t0 := 0) (n := 360) hJ rfl rfl d k
theorem ca163 (hJ : Snd l R cc nL own rt D [(cI, .int)] O (wC cI) post X J) {i : Int} (h0 : 0 ≤ i) (h1 : i < 60) (d : decode cc pc = .ok (.iaload, 1)) (k : J (pc + 1) lv (.int (iZ (A 163 i)) :: st) (ad, I, A)) : J pc lv (.int (iZ i) :: .ref (ad 163) :: st) (ad, I, A) := v_iald (q0 := 29) (t0 := 0) (n := 60) (f := A 163) hJ rfl rfl (by decide) h0 h1 d k
theorem cs163 (hJ : Snd l R cc nL own rt D [(cI, .int)] O (wC cI) post X J) {i x : Int} (h0 : 0 ≤ i) (h1 : i < 60) (d : decode cc pc = .ok (.iastore, 1)) (k : J (pc + 1) lv st (ad, I, va_up A 163 (zu (A 163) i x))) : J pc lv (.int (iZ x) :: .int (iZ i) :: .ref (ad 163) :: st) (ad, I, A) := v_iast (q0 := 29) (t0 := 0) (n := 60) (f := A 163) hJ rfl rfl (by decide) h0 h1 rfl d k
theorem cl163 (hJ : Snd l R cc nL own rt D [(cI, .int)] O (wC cI) post X J) (d : decode cc pc = .ok (.arraylength, 1)) (k : J (pc + 1) lv (.int (iZ 60) :: st) (ad, I, A)) : J pc lv (.ref (ad 163) :: st) (ad, I, A) := v_alen (q0 := 29) (t0 := 0) (n := 60) hJ rfl rfl d k
end CROWS
