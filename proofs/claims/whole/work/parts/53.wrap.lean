set_option maxHeartbeats 4000000 in
set_option maxRecDepth 100000 in
theorem okL_song {l : Launch} {D : va_G} {cI cJ : ClassId} {adM : Nat → Nat} {bo : Nat} {O : OT} {ad : Nat → Nat} {I : Nat → Int} {A : Nat → Int → Int} {uM : sM} {x : Int} {p0 : Int} {lev : Nat} {P : Int → sC → Prop} (hOL : OL O) (hlev : lev < 17) (h : Ct l yX10_song cX10_song 3 (some .int) (rL lev) D [(cI, .int)] O (wC cI) [.ref (ad 19), .int (iZ p0)] (ad, I, A) (pI P)) : CtW l yL_song cL_song 4 [(0, 9, 12, 13)] (rX 17) D [(cI, .int), (cJ, .long)] O (wL adM bo cI cJ) [.ref (ad 19), .int (iZ p0), .ref bo] ((ad, I, A), uM, x) (pI fun k v2 => k = 0 ∧ ∃ r u2, P r u2 ∧ v2 = (u2, uM, r)) := by
  refine ctw_intro (own := RL) (by decide) rfl hOL (Nat.le_of_ble_eq_true rfl) (by simp [Value.category]) (fun X J hJ hH => ?_)
  show J 0 [some (.ref (ad 19)), some (.int (iZ p0)), some (.ref bo), none] [] ((ad, I, A), uM, x)
  refine v_ald2 (pc := 0) hJ dL_song_0 ?_
  refine v_iconst (pc := 1) hJ dL_song_1 ?_
  refine v_ald0 (pc := 2) hJ dL_song_2 ?_
  refine v_ild1 (pc := 3) hJ dL_song_3 ?_
  refine v_callV (As := [.int (iZ p0)]) (st := [.int (iZ 0), .ref bo]) (pc := 4) (q0 := 0) (ci := 7) hJ rfl rfl lkL_7 (lfC (uM := uM) (x := x) hOL h) rfl rfl (Nat.le_of_ble_eq_true rfl) (rOk_X hlev (by decide)) dL_song_4 (fun v u2 h2 => ?_)
  obtain ⟨u3, ⟨r, rfl, hP⟩, rfl⟩ := h2
  refine v_i2l (pc := 7) hJ dL_song_7 ?_
  refine v_lsto (pc := 8) hJ dL_song_8 ?_
  refine v_goto (tgt := 15) (pc := 9) hJ dL_song_9 (by decide) ?_
  refine v_iconst (pc := 15) hJ dL_song_15 ?_
  exact v_iret (pc := 16) hJ dL_song_16 ⟨0, rfl, rfl, r, u3, hP, rfl⟩
set_option maxHeartbeats 4000000 in
set_option maxRecDepth 100000 in
theorem iaeL_song {l : Launch} {D : va_G} {cI cJ : ClassId} {adM : Nat → Nat} {bo : Nat} {O : OT} {ad : Nat → Nat} {I : Nat → Int} {A : Nat → Int → Int} {uM : sM} {x : Int} {p0 : Int} {lev : Nat} {px : sC → Prop} (hOL : OL O) (hT : OGT O) (hlev : lev < 17) (h : CtX l yX10_song cX10_song 3 (some .int) (rX lev) D [(cI, .int)] O (wC cI) [.ref (ad 19), .int (iZ p0)] (ad, I, A) "java/lang/IllegalArgumentException" px) : CtW l yL_song cL_song 4 [(0, 9, 12, 13)] (rX 17) D [(cI, .int), (cJ, .long)] O (wL adM bo cI cJ) [.ref (ad 19), .int (iZ p0), .ref bo] ((ad, I, A), uM, x) (pI fun k v2 => k = 1 ∧ ∃ u2, px u2 ∧ v2 = (u2, uM, x)) := by
  refine ctw_intro (own := RL) (by decide) rfl hOL (Nat.le_of_ble_eq_true rfl) (by simp [Value.category]) (fun X J hJ hH => ?_)
  show J 0 [some (.ref (ad 19)), some (.int (iZ p0)), some (.ref bo), none] [] ((ad, I, A), uM, x)
  refine v_ald2 (pc := 0) hJ dL_song_0 ?_
  refine v_iconst (pc := 1) hJ dL_song_1 ?_
  refine v_ald0 (pc := 2) hJ dL_song_2 ?_
  refine v_ild1 (pc := 3) hJ dL_song_3 ?_
  exact v_catch3 (As := [.int (iZ p0)]) (st := [.int (iZ 0), .ref bo]) (pc := 4) (q0 := 0) (ci := 7) (r := 1) hJ hH rfl rfl lkL_7 (lfX (uM := uM) (x := x) hOL h) rfl rfl (Nat.le_of_ble_eq_true rfl) ⟨rfl, rfl, by show lev + 1 ≤ 17; omega, by show 8 + (3 + 11) + 40 * lev ≤ 40 * 17; omega⟩ ⟨by decide, by decide⟩ dL_song_4 [] ⟨0, 9, 12, 13⟩ [] rfl (fun z hz => absurd hz List.not_mem_nil) (by decide) (by decide) klL_iae (kc_iae hT) (by decide) dL_song_12 dL_song_13 dL_song_14 (fun u2 h2 => ⟨1, rfl, rfl, by obtain ⟨u3, h3, h4⟩ := h2; exact ⟨u3, h3, h4⟩⟩)
set_option maxHeartbeats 4000000 in
set_option maxRecDepth 100000 in
theorem okL_fault {l : Launch} {D : va_G} {cI cJ : ClassId} {adM : Nat → Nat} {bo : Nat} {O : OT} {ad : Nat → Nat} {I : Nat → Int} {A : Nat → Int → Int} {uM : sM} {x : Int} {p0 : Int} {lev : Nat} {P : Int → sC → Prop} (hOL : OL O) (hlev : lev < 17) (h : Ct l yX10_fault cX10_fault 2 (some .int) (rL lev) D [(cI, .int)] O (wC cI) [.ref (ad 19), .int (iZ p0)] (ad, I, A) (pI P)) : CtW l yL_fault cL_fault 4 [(0, 9, 12, 18)] (rX 17) D [(cI, .int), (cJ, .long)] O (wL adM bo cI cJ) [.ref (ad 19), .int (iZ p0), .ref bo] ((ad, I, A), uM, x) (pI fun k v2 => k = 0 ∧ ∃ r u2, P r u2 ∧ v2 = (u2, uM, r)) := by
  refine ctw_intro (own := RL) (by decide) rfl hOL (Nat.le_of_ble_eq_true rfl) (by simp [Value.category]) (fun X J hJ hH => ?_)
  show J 0 [some (.ref (ad 19)), some (.int (iZ p0)), some (.ref bo), none] [] ((ad, I, A), uM, x)
  refine v_ald2 (pc := 0) hJ dL_fault_0 ?_
  refine v_iconst (pc := 1) hJ dL_fault_1 ?_
  refine v_ald0 (pc := 2) hJ dL_fault_2 ?_
  refine v_ild1 (pc := 3) hJ dL_fault_3 ?_
  refine v_callV (As := [.int (iZ p0)]) (st := [.int (iZ 0), .ref bo]) (pc := 4) (q0 := 0) (ci := 7) hJ rfl rfl lkL_15 (lfC (uM := uM) (x := x) hOL h) rfl rfl (Nat.le_of_ble_eq_true rfl) (rOk_X hlev (by decide)) dL_fault_4 (fun v u2 h2 => ?_)
  obtain ⟨u3, ⟨r, rfl, hP⟩, rfl⟩ := h2
  refine v_i2l (pc := 7) hJ dL_fault_7 ?_
  refine v_lsto (pc := 8) hJ dL_fault_8 ?_
  refine v_goto (tgt := 15) (pc := 9) hJ dL_fault_9 (by decide) ?_
  refine v_iconst (pc := 15) hJ dL_fault_15 ?_
  exact v_iret (pc := 16) hJ dL_fault_16 ⟨0, rfl, rfl, r, u3, hP, rfl⟩
set_option maxHeartbeats 4000000 in
set_option maxRecDepth 100000 in
theorem nseL_fault {l : Launch} {D : va_G} {cI cJ : ClassId} {adM : Nat → Nat} {bo : Nat} {O : OT} {ad : Nat → Nat} {I : Nat → Int} {A : Nat → Int → Int} {uM : sM} {x : Int} {p0 : Int} {lev : Nat} {px : sC → Prop} (hOL : OL O) (hT : OGT O) (hlev : lev < 17) (h : CtX l yX10_fault cX10_fault 2 (some .int) (rX lev) D [(cI, .int)] O (wC cI) [.ref (ad 19), .int (iZ p0)] (ad, I, A) "java/util/NoSuchElementException" px) : CtW l yL_fault cL_fault 4 [(0, 9, 12, 18)] (rX 17) D [(cI, .int), (cJ, .long)] O (wL adM bo cI cJ) [.ref (ad 19), .int (iZ p0), .ref bo] ((ad, I, A), uM, x) (pI fun k v2 => k = 1 ∧ ∃ u2, px u2 ∧ v2 = (u2, uM, x)) := by
  refine ctw_intro (own := RL) (by decide) rfl hOL (Nat.le_of_ble_eq_true rfl) (by simp [Value.category]) (fun X J hJ hH => ?_)
  show J 0 [some (.ref (ad 19)), some (.int (iZ p0)), some (.ref bo), none] [] ((ad, I, A), uM, x)
  refine v_ald2 (pc := 0) hJ dL_fault_0 ?_
  refine v_iconst (pc := 1) hJ dL_fault_1 ?_
  refine v_ald0 (pc := 2) hJ dL_fault_2 ?_
  refine v_ild1 (pc := 3) hJ dL_fault_3 ?_
  exact v_catch3 (As := [.int (iZ p0)]) (st := [.int (iZ 0), .ref bo]) (pc := 4) (q0 := 0) (ci := 7) (r := 1) hJ hH rfl rfl lkL_15 (lfX (uM := uM) (x := x) hOL h) rfl rfl (Nat.le_of_ble_eq_true rfl) ⟨rfl, rfl, by show lev + 1 ≤ 17; omega, by show 8 + (2 + 11) + 40 * lev ≤ 40 * 17; omega⟩ ⟨by decide, by decide⟩ dL_fault_4 [] ⟨0, 9, 12, 18⟩ [] rfl (fun z hz => absurd hz List.not_mem_nil) (by decide) (by decide) klL_nse (kc_nse hT) (by decide) dL_fault_12 dL_fault_13 dL_fault_14 (fun u2 h2 => ⟨1, rfl, rfl, by obtain ⟨u3, h3, h4⟩ := h2; exact ⟨u3, h3, h4⟩⟩)
set_option maxHeartbeats 4000000 in
set_option maxRecDepth 100000 in
theorem okL_key {l : Launch} {D : va_G} {cI cJ : ClassId} {adM : Nat → Nat} {bo : Nat} {O : OT} {ad : Nat → Nat} {I : Nat → Int} {A : Nat → Int → Int} {uM : sM} {x : Int} {p0 : Int} {lev : Nat} {P : Int → sC → Prop} (hOL : OL O) (hlev : lev < 17) (h : Ct l yX10_key cX10_key 3 (some .int) (rL lev) D [(cI, .int)] O (wC cI) [.ref (ad 19), .int (iZ p0)] (ad, I, A) (pI P)) : CtW l yL_key cL_key 4 [(0, 9, 12, 13)] (rX 17) D [(cI, .int), (cJ, .long)] O (wL adM bo cI cJ) [.ref (ad 19), .int (iZ p0), .ref bo] ((ad, I, A), uM, x) (pI fun k v2 => k = 0 ∧ ∃ r u2, P r u2 ∧ v2 = (u2, uM, r)) := by
  refine ctw_intro (own := RL) (by decide) rfl hOL (Nat.le_of_ble_eq_true rfl) (by simp [Value.category]) (fun X J hJ hH => ?_)
  show J 0 [some (.ref (ad 19)), some (.int (iZ p0)), some (.ref bo), none] [] ((ad, I, A), uM, x)
  refine v_ald2 (pc := 0) hJ dL_key_0 ?_
  refine v_iconst (pc := 1) hJ dL_key_1 ?_
  refine v_ald0 (pc := 2) hJ dL_key_2 ?_
  refine v_ild1 (pc := 3) hJ dL_key_3 ?_
  refine v_callV (As := [.int (iZ p0)]) (st := [.int (iZ 0), .ref bo]) (pc := 4) (q0 := 0) (ci := 7) hJ rfl rfl lkL_20 (lfC (uM := uM) (x := x) hOL h) rfl rfl (Nat.le_of_ble_eq_true rfl) (rOk_X hlev (by decide)) dL_key_4 (fun v u2 h2 => ?_)
  obtain ⟨u3, ⟨r, rfl, hP⟩, rfl⟩ := h2
  refine v_i2l (pc := 7) hJ dL_key_7 ?_
  refine v_lsto (pc := 8) hJ dL_key_8 ?_
  refine v_goto (tgt := 15) (pc := 9) hJ dL_key_9 (by decide) ?_
  refine v_iconst (pc := 15) hJ dL_key_15 ?_
  exact v_iret (pc := 16) hJ dL_key_16 ⟨0, rfl, rfl, r, u3, hP, rfl⟩
set_option maxHeartbeats 4000000 in
set_option maxRecDepth 100000 in
theorem iaeL_key {l : Launch} {D : va_G} {cI cJ : ClassId} {adM : Nat → Nat} {bo : Nat} {O : OT} {ad : Nat → Nat} {I : Nat → Int} {A : Nat → Int → Int} {uM : sM} {x : Int} {p0 : Int} {lev : Nat} {px : sC → Prop} (hOL : OL O) (hT : OGT O) (hlev : lev < 17) (h : CtX l yX10_key cX10_key 3 (some .int) (rX lev) D [(cI, .int)] O (wC cI) [.ref (ad 19), .int (iZ p0)] (ad, I, A) "java/lang/IllegalArgumentException" px) : CtW l yL_key cL_key 4 [(0, 9, 12, 13)] (rX 17) D [(cI, .int), (cJ, .long)] O (wL adM bo cI cJ) [.ref (ad 19), .int (iZ p0), .ref bo] ((ad, I, A), uM, x) (pI fun k v2 => k = 1 ∧ ∃ u2, px u2 ∧ v2 = (u2, uM, x)) := by
  refine ctw_intro (own := RL) (by decide) rfl hOL (Nat.le_of_ble_eq_true rfl) (by simp [Value.category]) (fun X J hJ hH => ?_)
  show J 0 [some (.ref (ad 19)), some (.int (iZ p0)), some (.ref bo), none] [] ((ad, I, A), uM, x)
  refine v_ald2 (pc := 0) hJ dL_key_0 ?_
  refine v_iconst (pc := 1) hJ dL_key_1 ?_
  refine v_ald0 (pc := 2) hJ dL_key_2 ?_
  refine v_ild1 (pc := 3) hJ dL_key_3 ?_
  exact v_catch3 (As := [.int (iZ p0)]) (st := [.int (iZ 0), .ref bo]) (pc := 4) (q0 := 0) (ci := 7) (r := 1) hJ hH rfl rfl lkL_20 (lfX (uM := uM) (x := x) hOL h) rfl rfl (Nat.le_of_ble_eq_true rfl) ⟨rfl, rfl, by show lev + 1 ≤ 17; omega, by show 8 + (3 + 11) + 40 * lev ≤ 40 * 17; omega⟩ ⟨by decide, by decide⟩ dL_key_4 [] ⟨0, 9, 12, 13⟩ [] rfl (fun z hz => absurd hz List.not_mem_nil) (by decide) (by decide) klL_iae (kc_iae hT) (by decide) dL_key_12 dL_key_13 dL_key_14 (fun u2 h2 => ⟨1, rfl, rfl, by obtain ⟨u3, h3, h4⟩ := h2; exact ⟨u3, h3, h4⟩⟩)
set_option maxHeartbeats 4000000 in
set_option maxRecDepth 100000 in
theorem okL_move {l : Launch} {D : va_G} {cI cJ : ClassId} {adM : Nat → Nat} {bo : Nat} {O : OT} {ad : Nat → Nat} {I : Nat → Int} {A : Nat → Int → Int} {uM : sM} {x : Int} {p0 : Int} {lev : Nat} {P : Int → sC → Prop} (hOL : OL O) (hlev : lev < 17) (h : Ct l yX10_move cX10_move 3 (some .int) (rL lev) D [(cI, .int)] O (wC cI) [.ref (ad 19), .int (iZ p0)] (ad, I, A) (pI P)) : CtW l yL_move cL_move 4 [(0, 9, 12, 13)] (rX 17) D [(cI, .int), (cJ, .long)] O (wL adM bo cI cJ) [.ref (ad 19), .int (iZ p0), .ref bo] ((ad, I, A), uM, x) (pI fun k v2 => k = 0 ∧ ∃ r u2, P r u2 ∧ v2 = (u2, uM, r)) := by
  refine ctw_intro (own := RL) (by decide) rfl hOL (Nat.le_of_ble_eq_true rfl) (by simp [Value.category]) (fun X J hJ hH => ?_)
  show J 0 [some (.ref (ad 19)), some (.int (iZ p0)), some (.ref bo), none] [] ((ad, I, A), uM, x)
  refine v_ald2 (pc := 0) hJ dL_move_0 ?_
  refine v_iconst (pc := 1) hJ dL_move_1 ?_
  refine v_ald0 (pc := 2) hJ dL_move_2 ?_
  refine v_ild1 (pc := 3) hJ dL_move_3 ?_
  refine v_callV (As := [.int (iZ p0)]) (st := [.int (iZ 0), .ref bo]) (pc := 4) (q0 := 0) (ci := 7) hJ rfl rfl lkL_23 (lfC (uM := uM) (x := x) hOL h) rfl rfl (Nat.le_of_ble_eq_true rfl) (rOk_X hlev (by decide)) dL_move_4 (fun v u2 h2 => ?_)
  obtain ⟨u3, ⟨r, rfl, hP⟩, rfl⟩ := h2
  refine v_i2l (pc := 7) hJ dL_move_7 ?_
  refine v_lsto (pc := 8) hJ dL_move_8 ?_
  refine v_goto (tgt := 15) (pc := 9) hJ dL_move_9 (by decide) ?_
  refine v_iconst (pc := 15) hJ dL_move_15 ?_
  exact v_iret (pc := 16) hJ dL_move_16 ⟨0, rfl, rfl, r, u3, hP, rfl⟩
set_option maxHeartbeats 4000000 in
set_option maxRecDepth 100000 in
theorem iaeL_move {l : Launch} {D : va_G} {cI cJ : ClassId} {adM : Nat → Nat} {bo : Nat} {O : OT} {ad : Nat → Nat} {I : Nat → Int} {A : Nat → Int → Int} {uM : sM} {x : Int} {p0 : Int} {lev : Nat} {px : sC → Prop} (hOL : OL O) (hT : OGT O) (hlev : lev < 17) (h : CtX l yX10_move cX10_move 3 (some .int) (rX lev) D [(cI, .int)] O (wC cI) [.ref (ad 19), .int (iZ p0)] (ad, I, A) "java/lang/IllegalArgumentException" px) : CtW l yL_move cL_move 4 [(0, 9, 12, 13)] (rX 17) D [(cI, .int), (cJ, .long)] O (wL adM bo cI cJ) [.ref (ad 19), .int (iZ p0), .ref bo] ((ad, I, A), uM, x) (pI fun k v2 => k = 1 ∧ ∃ u2, px u2 ∧ v2 = (u2, uM, x)) := by
  refine ctw_intro (own := RL) (by decide) rfl hOL (Nat.le_of_ble_eq_true rfl) (by simp [Value.category]) (fun X J hJ hH => ?_)
  show J 0 [some (.ref (ad 19)), some (.int (iZ p0)), some (.ref bo), none] [] ((ad, I, A), uM, x)
  refine v_ald2 (pc := 0) hJ dL_move_0 ?_
  refine v_iconst (pc := 1) hJ dL_move_1 ?_
  refine v_ald0 (pc := 2) hJ dL_move_2 ?_
  refine v_ild1 (pc := 3) hJ dL_move_3 ?_
  exact v_catch3 (As := [.int (iZ p0)]) (st := [.int (iZ 0), .ref bo]) (pc := 4) (q0 := 0) (ci := 7) (r := 1) hJ hH rfl rfl lkL_23 (lfX (uM := uM) (x := x) hOL h) rfl rfl (Nat.le_of_ble_eq_true rfl) ⟨rfl, rfl, by show lev + 1 ≤ 17; omega, by show 8 + (3 + 11) + 40 * lev ≤ 40 * 17; omega⟩ ⟨by decide, by decide⟩ dL_move_4 [] ⟨0, 9, 12, 13⟩ [] rfl (fun z hz => absurd hz List.not_mem_nil) (by decide) (by decide) klL_iae (kc_iae hT) (by decide) dL_move_12 dL_move_13 dL_move_14 (fun u2 h2 => ⟨1, rfl, rfl, by obtain ⟨u3, h3, h4⟩ := h2; exact ⟨u3, h3, h4⟩⟩)
set_option maxHeartbeats 4000000 in
set_option maxRecDepth 100000 in
theorem okL_chord {l : Launch} {D : va_G} {cI cJ : ClassId} {adM : Nat → Nat} {bo : Nat} {O : OT} {ad : Nat → Nat} {I : Nat → Int} {A : Nat → Int → Int} {uM : sM} {x : Int} {p0 p1 : Int} {lev : Nat} {P : Int → sC → Prop} (hOL : OL O) (hlev : lev < 17) (h : Ct l yX10_chord cX10_chord 3 (some .int) (rL lev) D [(cI, .int)] O (wC cI) [.ref (ad 19), .int (iZ p0), .int (iZ p1)] (ad, I, A) (pI P)) : CtW l yL_chord cL_chord 5 [(0, 10, 13, 18)] (rX 17) D [(cI, .int), (cJ, .long)] O (wL adM bo cI cJ) [.ref (ad 19), .int (iZ p0), .int (iZ p1), .ref bo] ((ad, I, A), uM, x) (pI fun k v2 => k = 0 ∧ ∃ r u2, P r u2 ∧ v2 = (u2, uM, r)) := by
  refine ctw_intro (own := RL) (by decide) rfl hOL (Nat.le_of_ble_eq_true rfl) (by simp [Value.category]) (fun X J hJ hH => ?_)
  show J 0 [some (.ref (ad 19)), some (.int (iZ p0)), some (.int (iZ p1)), some (.ref bo), none] [] ((ad, I, A), uM, x)
  refine v_ald3 (pc := 0) hJ dL_chord_0 ?_
  refine v_iconst (pc := 1) hJ dL_chord_1 ?_
  refine v_ald0 (pc := 2) hJ dL_chord_2 ?_
  refine v_ild1 (pc := 3) hJ dL_chord_3 ?_
  refine v_ild2 (pc := 4) hJ dL_chord_4 ?_
  refine v_callV (As := [.int (iZ p0), .int (iZ p1)]) (st := [.int (iZ 0), .ref bo]) (pc := 5) (q0 := 0) (ci := 7) hJ rfl rfl lkL_26 (lfC (uM := uM) (x := x) hOL h) rfl rfl (Nat.le_of_ble_eq_true rfl) (rOk_X hlev (by decide)) dL_chord_5 (fun v u2 h2 => ?_)
  obtain ⟨u3, ⟨r, rfl, hP⟩, rfl⟩ := h2
  refine v_i2l (pc := 8) hJ dL_chord_8 ?_
  refine v_lsto (pc := 9) hJ dL_chord_9 ?_
  refine v_goto (tgt := 17) (pc := 10) hJ dL_chord_10 (by decide) ?_
  refine v_iconst (pc := 17) hJ dL_chord_17 ?_
  exact v_iret (pc := 18) hJ dL_chord_18 ⟨0, rfl, rfl, r, u3, hP, rfl⟩
set_option maxHeartbeats 4000000 in
set_option maxRecDepth 100000 in
theorem nseL_chord {l : Launch} {D : va_G} {cI cJ : ClassId} {adM : Nat → Nat} {bo : Nat} {O : OT} {ad : Nat → Nat} {I : Nat → Int} {A : Nat → Int → Int} {uM : sM} {x : Int} {p0 p1 : Int} {lev : Nat} {px : sC → Prop} (hOL : OL O) (hT : OGT O) (hlev : lev < 17) (h : CtX l yX10_chord cX10_chord 3 (some .int) (rX lev) D [(cI, .int)] O (wC cI) [.ref (ad 19), .int (iZ p0), .int (iZ p1)] (ad, I, A) "java/util/NoSuchElementException" px) : CtW l yL_chord cL_chord 5 [(0, 10, 13, 18)] (rX 17) D [(cI, .int), (cJ, .long)] O (wL adM bo cI cJ) [.ref (ad 19), .int (iZ p0), .int (iZ p1), .ref bo] ((ad, I, A), uM, x) (pI fun k v2 => k = 1 ∧ ∃ u2, px u2 ∧ v2 = (u2, uM, x)) := by
  refine ctw_intro (own := RL) (by decide) rfl hOL (Nat.le_of_ble_eq_true rfl) (by simp [Value.category]) (fun X J hJ hH => ?_)
  show J 0 [some (.ref (ad 19)), some (.int (iZ p0)), some (.int (iZ p1)), some (.ref bo), none] [] ((ad, I, A), uM, x)
  refine v_ald3 (pc := 0) hJ dL_chord_0 ?_
  refine v_iconst (pc := 1) hJ dL_chord_1 ?_
  refine v_ald0 (pc := 2) hJ dL_chord_2 ?_
  refine v_ild1 (pc := 3) hJ dL_chord_3 ?_
  refine v_ild2 (pc := 4) hJ dL_chord_4 ?_
  exact v_catchN (kx := 4) (As := [.int (iZ p0), .int (iZ p1)]) (st := [.int (iZ 0), .ref bo]) (pc := 5) (q0 := 0) (ci := 7) (r := 1) hJ hH rfl rfl lkL_26 (lfX (uM := uM) (x := x) hOL h) rfl rfl (Nat.le_of_ble_eq_true rfl) ⟨rfl, rfl, by show lev + 1 ≤ 17; omega, by show 8 + (3 + 11) + 40 * lev ≤ 40 * 17; omega⟩ ⟨by decide, by decide⟩ dL_chord_5 [] ⟨0, 10, 13, 18⟩ [] rfl (fun z hz => absurd hz List.not_mem_nil) (by decide) (by decide) klL_nse (kc_nse hT) (by decide) dL_chord_13 dL_chord_15 dL_chord_16 (fun u2 h2 => ⟨1, rfl, rfl, by obtain ⟨u3, h3, h4⟩ := h2; exact ⟨u3, h3, h4⟩⟩)
set_option maxHeartbeats 4000000 in
set_option maxRecDepth 100000 in
theorem okL_name {l : Launch} {D : va_G} {cI cJ : ClassId} {adM : Nat → Nat} {bo : Nat} {O : OT} {ad : Nat → Nat} {I : Nat → Int} {A : Nat → Int → Int} {uM : sM} {x : Int} {p0 : Int} {lev : Nat} {P : Int → sC → Prop} (hOL : OL O) (hlev : lev < 17) (h : Ct l yX10_name cX10_name 2 (some .int) (rL lev) D [(cI, .int)] O (wC cI) [.ref (ad 19), .int (iZ p0)] (ad, I, A) (pI P)) : CtW l yL_name cL_name 4 [(0, 9, 12, 18)] (rX 17) D [(cI, .int), (cJ, .long)] O (wL adM bo cI cJ) [.ref (ad 19), .int (iZ p0), .ref bo] ((ad, I, A), uM, x) (pI fun k v2 => k = 0 ∧ ∃ r u2, P r u2 ∧ v2 = (u2, uM, r)) := by
  refine ctw_intro (own := RL) (by decide) rfl hOL (Nat.le_of_ble_eq_true rfl) (by simp [Value.category]) (fun X J hJ hH => ?_)
  show J 0 [some (.ref (ad 19)), some (.int (iZ p0)), some (.ref bo), none] [] ((ad, I, A), uM, x)
  refine v_ald2 (pc := 0) hJ dL_name_0 ?_
  refine v_iconst (pc := 1) hJ dL_name_1 ?_
  refine v_ald0 (pc := 2) hJ dL_name_2 ?_
  refine v_ild1 (pc := 3) hJ dL_name_3 ?_
  refine v_callV (As := [.int (iZ p0)]) (st := [.int (iZ 0), .ref bo]) (pc := 4) (q0 := 0) (ci := 7) hJ rfl rfl lkL_30 (lfC (uM := uM) (x := x) hOL h) rfl rfl (Nat.le_of_ble_eq_true rfl) (rOk_X hlev (by decide)) dL_name_4 (fun v u2 h2 => ?_)
  obtain ⟨u3, ⟨r, rfl, hP⟩, rfl⟩ := h2
  refine v_i2l (pc := 7) hJ dL_name_7 ?_
  refine v_lsto (pc := 8) hJ dL_name_8 ?_
  refine v_goto (tgt := 15) (pc := 9) hJ dL_name_9 (by decide) ?_
  refine v_iconst (pc := 15) hJ dL_name_15 ?_
  exact v_iret (pc := 16) hJ dL_name_16 ⟨0, rfl, rfl, r, u3, hP, rfl⟩
set_option maxHeartbeats 4000000 in
set_option maxRecDepth 100000 in
theorem nseL_name {l : Launch} {D : va_G} {cI cJ : ClassId} {adM : Nat → Nat} {bo : Nat} {O : OT} {ad : Nat → Nat} {I : Nat → Int} {A : Nat → Int → Int} {uM : sM} {x : Int} {p0 : Int} {lev : Nat} {px : sC → Prop} (hOL : OL O) (hT : OGT O) (hlev : lev < 17) (h : CtX l yX10_name cX10_name 2 (some .int) (rX lev) D [(cI, .int)] O (wC cI) [.ref (ad 19), .int (iZ p0)] (ad, I, A) "java/util/NoSuchElementException" px) : CtW l yL_name cL_name 4 [(0, 9, 12, 18)] (rX 17) D [(cI, .int), (cJ, .long)] O (wL adM bo cI cJ) [.ref (ad 19), .int (iZ p0), .ref bo] ((ad, I, A), uM, x) (pI fun k v2 => k = 1 ∧ ∃ u2, px u2 ∧ v2 = (u2, uM, x)) := by
  refine ctw_intro (own := RL) (by decide) rfl hOL (Nat.le_of_ble_eq_true rfl) (by simp [Value.category]) (fun X J hJ hH => ?_)
  show J 0 [some (.ref (ad 19)), some (.int (iZ p0)), some (.ref bo), none] [] ((ad, I, A), uM, x)
  refine v_ald2 (pc := 0) hJ dL_name_0 ?_
  refine v_iconst (pc := 1) hJ dL_name_1 ?_
  refine v_ald0 (pc := 2) hJ dL_name_2 ?_
  refine v_ild1 (pc := 3) hJ dL_name_3 ?_
  exact v_catch3 (As := [.int (iZ p0)]) (st := [.int (iZ 0), .ref bo]) (pc := 4) (q0 := 0) (ci := 7) (r := 1) hJ hH rfl rfl lkL_30 (lfX (uM := uM) (x := x) hOL h) rfl rfl (Nat.le_of_ble_eq_true rfl) ⟨rfl, rfl, by show lev + 1 ≤ 17; omega, by show 8 + (2 + 11) + 40 * lev ≤ 40 * 17; omega⟩ ⟨by decide, by decide⟩ dL_name_4 [] ⟨0, 9, 12, 18⟩ [] rfl (fun z hz => absurd hz List.not_mem_nil) (by decide) (by decide) klL_nse (kc_nse hT) (by decide) dL_name_12 dL_name_13 dL_name_14 (fun u2 h2 => ⟨1, rfl, rfl, by obtain ⟨u3, h3, h4⟩ := h2; exact ⟨u3, h3, h4⟩⟩)
set_option maxHeartbeats 4000000 in
set_option maxRecDepth 100000 in
theorem okL_told {l : Launch} {D : va_G} {cI cJ : ClassId} {adM : Nat → Nat} {bo : Nat} {O : OT} {ad : Nat → Nat} {I : Nat → Int} {A : Nat → Int → Int} {uM : sM} {x : Int} {p0 : Int} {lev : Nat} {P : Int → sC → Prop} (hOL : OL O) (hlev : lev < 17) (h : Ct l yX10_told cX10_told 2 (some .int) (rL lev) D [(cI, .int)] O (wC cI) [.ref (ad 19), .int (iZ p0)] (ad, I, A) (pI P)) : CtW l yL_told cL_told 4 [(0, 9, 12, 18)] (rX 17) D [(cI, .int), (cJ, .long)] O (wL adM bo cI cJ) [.ref (ad 19), .int (iZ p0), .ref bo] ((ad, I, A), uM, x) (pI fun k v2 => k = 0 ∧ ∃ r u2, P r u2 ∧ v2 = (u2, uM, r)) := by
  refine ctw_intro (own := RL) (by decide) rfl hOL (Nat.le_of_ble_eq_true rfl) (by simp [Value.category]) (fun X J hJ hH => ?_)
  show J 0 [some (.ref (ad 19)), some (.int (iZ p0)), some (.ref bo), none] [] ((ad, I, A), uM, x)
  refine v_ald2 (pc := 0) hJ dL_told_0 ?_
  refine v_iconst (pc := 1) hJ dL_told_1 ?_
  refine v_ald0 (pc := 2) hJ dL_told_2 ?_
  refine v_ild1 (pc := 3) hJ dL_told_3 ?_
  refine v_callV (As := [.int (iZ p0)]) (st := [.int (iZ 0), .ref bo]) (pc := 4) (q0 := 0) (ci := 7) hJ rfl rfl lkL_33 (lfC (uM := uM) (x := x) hOL h) rfl rfl (Nat.le_of_ble_eq_true rfl) (rOk_X hlev (by decide)) dL_told_4 (fun v u2 h2 => ?_)
  obtain ⟨u3, ⟨r, rfl, hP⟩, rfl⟩ := h2
  refine v_i2l (pc := 7) hJ dL_told_7 ?_
  refine v_lsto (pc := 8) hJ dL_told_8 ?_
  refine v_goto (tgt := 15) (pc := 9) hJ dL_told_9 (by decide) ?_
  refine v_iconst (pc := 15) hJ dL_told_15 ?_
  exact v_iret (pc := 16) hJ dL_told_16 ⟨0, rfl, rfl, r, u3, hP, rfl⟩
set_option maxHeartbeats 4000000 in
set_option maxRecDepth 100000 in
theorem nseL_told {l : Launch} {D : va_G} {cI cJ : ClassId} {adM : Nat → Nat} {bo : Nat} {O : OT} {ad : Nat → Nat} {I : Nat → Int} {A : Nat → Int → Int} {uM : sM} {x : Int} {p0 : Int} {lev : Nat} {px : sC → Prop} (hOL : OL O) (hT : OGT O) (hlev : lev < 17) (h : CtX l yX10_told cX10_told 2 (some .int) (rX lev) D [(cI, .int)] O (wC cI) [.ref (ad 19), .int (iZ p0)] (ad, I, A) "java/util/NoSuchElementException" px) : CtW l yL_told cL_told 4 [(0, 9, 12, 18)] (rX 17) D [(cI, .int), (cJ, .long)] O (wL adM bo cI cJ) [.ref (ad 19), .int (iZ p0), .ref bo] ((ad, I, A), uM, x) (pI fun k v2 => k = 1 ∧ ∃ u2, px u2 ∧ v2 = (u2, uM, x)) := by
  refine ctw_intro (own := RL) (by decide) rfl hOL (Nat.le_of_ble_eq_true rfl) (by simp [Value.category]) (fun X J hJ hH => ?_)
  show J 0 [some (.ref (ad 19)), some (.int (iZ p0)), some (.ref bo), none] [] ((ad, I, A), uM, x)
  refine v_ald2 (pc := 0) hJ dL_told_0 ?_
  refine v_iconst (pc := 1) hJ dL_told_1 ?_
  refine v_ald0 (pc := 2) hJ dL_told_2 ?_
  refine v_ild1 (pc := 3) hJ dL_told_3 ?_
  exact v_catch3 (As := [.int (iZ p0)]) (st := [.int (iZ 0), .ref bo]) (pc := 4) (q0 := 0) (ci := 7) (r := 1) hJ hH rfl rfl lkL_33 (lfX (uM := uM) (x := x) hOL h) rfl rfl (Nat.le_of_ble_eq_true rfl) ⟨rfl, rfl, by show lev + 1 ≤ 17; omega, by show 8 + (2 + 11) + 40 * lev ≤ 40 * 17; omega⟩ ⟨by decide, by decide⟩ dL_told_4 [] ⟨0, 9, 12, 18⟩ [] rfl (fun z hz => absurd hz List.not_mem_nil) (by decide) (by decide) klL_nse (kc_nse hT) (by decide) dL_told_12 dL_told_13 dL_told_14 (fun u2 h2 => ⟨1, rfl, rfl, by obtain ⟨u3, h3, h4⟩ := h2; exact ⟨u3, h3, h4⟩⟩)
set_option maxHeartbeats 4000000 in
set_option maxRecDepth 100000 in
theorem okL_string {l : Launch} {D : va_G} {cI cJ : ClassId} {adM : Nat → Nat} {bo : Nat} {O : OT} {ad : Nat → Nat} {I : Nat → Int} {A : Nat → Int → Int} {uM : sM} {x : Int} {p0 : Int} {lev : Nat} {P : Int → sC → Prop} (hOL : OL O) (hlev : lev < 17) (h : Ct l yX10_string cX10_string 2 (some .int) (rL lev) D [(cI, .int)] O (wC cI) [.ref (ad 19), .int (iZ p0)] (ad, I, A) (pI P)) : CtW l yL_string cL_string 4 [(0, 9, 12, 13)] (rX 17) D [(cI, .int), (cJ, .long)] O (wL adM bo cI cJ) [.ref (ad 19), .int (iZ p0), .ref bo] ((ad, I, A), uM, x) (pI fun k v2 => k = 0 ∧ ∃ r u2, P r u2 ∧ v2 = (u2, uM, r)) := by
  refine ctw_intro (own := RL) (by decide) rfl hOL (Nat.le_of_ble_eq_true rfl) (by simp [Value.category]) (fun X J hJ hH => ?_)
  show J 0 [some (.ref (ad 19)), some (.int (iZ p0)), some (.ref bo), none] [] ((ad, I, A), uM, x)
  refine v_ald2 (pc := 0) hJ dL_string_0 ?_
  refine v_iconst (pc := 1) hJ dL_string_1 ?_
  refine v_ald0 (pc := 2) hJ dL_string_2 ?_
  refine v_ild1 (pc := 3) hJ dL_string_3 ?_
  refine v_callV (As := [.int (iZ p0)]) (st := [.int (iZ 0), .ref bo]) (pc := 4) (q0 := 0) (ci := 7) hJ rfl rfl lkL_36 (lfC (uM := uM) (x := x) hOL h) rfl rfl (Nat.le_of_ble_eq_true rfl) (rOk_X hlev (by decide)) dL_string_4 (fun v u2 h2 => ?_)
  obtain ⟨u3, ⟨r, rfl, hP⟩, rfl⟩ := h2
  refine v_i2l (pc := 7) hJ dL_string_7 ?_
  refine v_lsto (pc := 8) hJ dL_string_8 ?_
  refine v_goto (tgt := 15) (pc := 9) hJ dL_string_9 (by decide) ?_
  refine v_iconst (pc := 15) hJ dL_string_15 ?_
  exact v_iret (pc := 16) hJ dL_string_16 ⟨0, rfl, rfl, r, u3, hP, rfl⟩
set_option maxHeartbeats 4000000 in
set_option maxRecDepth 100000 in
theorem iaeL_string {l : Launch} {D : va_G} {cI cJ : ClassId} {adM : Nat → Nat} {bo : Nat} {O : OT} {ad : Nat → Nat} {I : Nat → Int} {A : Nat → Int → Int} {uM : sM} {x : Int} {p0 : Int} {lev : Nat} {px : sC → Prop} (hOL : OL O) (hT : OGT O) (hlev : lev < 17) (h : CtX l yX10_string cX10_string 2 (some .int) (rX lev) D [(cI, .int)] O (wC cI) [.ref (ad 19), .int (iZ p0)] (ad, I, A) "java/lang/IllegalArgumentException" px) : CtW l yL_string cL_string 4 [(0, 9, 12, 13)] (rX 17) D [(cI, .int), (cJ, .long)] O (wL adM bo cI cJ) [.ref (ad 19), .int (iZ p0), .ref bo] ((ad, I, A), uM, x) (pI fun k v2 => k = 1 ∧ ∃ u2, px u2 ∧ v2 = (u2, uM, x)) := by
  refine ctw_intro (own := RL) (by decide) rfl hOL (Nat.le_of_ble_eq_true rfl) (by simp [Value.category]) (fun X J hJ hH => ?_)
  show J 0 [some (.ref (ad 19)), some (.int (iZ p0)), some (.ref bo), none] [] ((ad, I, A), uM, x)
  refine v_ald2 (pc := 0) hJ dL_string_0 ?_
  refine v_iconst (pc := 1) hJ dL_string_1 ?_
  refine v_ald0 (pc := 2) hJ dL_string_2 ?_
  refine v_ild1 (pc := 3) hJ dL_string_3 ?_
  exact v_catch3 (As := [.int (iZ p0)]) (st := [.int (iZ 0), .ref bo]) (pc := 4) (q0 := 0) (ci := 7) (r := 1) hJ hH rfl rfl lkL_36 (lfX (uM := uM) (x := x) hOL h) rfl rfl (Nat.le_of_ble_eq_true rfl) ⟨rfl, rfl, by show lev + 1 ≤ 17; omega, by show 8 + (2 + 11) + 40 * lev ≤ 40 * 17; omega⟩ ⟨by decide, by decide⟩ dL_string_4 [] ⟨0, 9, 12, 13⟩ [] rfl (fun z hz => absurd hz List.not_mem_nil) (by decide) (by decide) klL_iae (kc_iae hT) (by decide) dL_string_12 dL_string_13 dL_string_14 (fun u2 h2 => ⟨1, rfl, rfl, by obtain ⟨u3, h3, h4⟩ := h2; exact ⟨u3, h3, h4⟩⟩)
set_option maxHeartbeats 4000000 in
set_option maxRecDepth 100000 in
theorem okL_hands {l : Launch} {D : va_G} {cI cJ : ClassId} {adM : Nat → Nat} {bo : Nat} {O : OT} {ad : Nat → Nat} {I : Nat → Int} {A : Nat → Int → Int} {uM : sM} {x : Int} {p0 p1 : Int} {lev : Nat} {P : Int → sC → Prop} (hOL : OL O) (hlev : lev < 17) (h : Ct l yX10_hands cX10_hands 3 (some .int) (rL lev) D [(cI, .int)] O (wC cI) [.ref (ad 19), .int (iZ p0), .int (iZ p1)] (ad, I, A) (pI P)) : CtW l yL_hands cL_hands 5 [(0, 10, 13, 18), (0, 10, 17, 13)] (rX 17) D [(cI, .int), (cJ, .long)] O (wL adM bo cI cJ) [.ref (ad 19), .int (iZ p0), .int (iZ p1), .ref bo] ((ad, I, A), uM, x) (pI fun k v2 => k = 0 ∧ ∃ r u2, P r u2 ∧ v2 = (u2, uM, r)) := by
  refine ctw_intro (own := RL) (by decide) rfl hOL (Nat.le_of_ble_eq_true rfl) (by simp [Value.category]) (fun X J hJ hH => ?_)
  show J 0 [some (.ref (ad 19)), some (.int (iZ p0)), some (.int (iZ p1)), some (.ref bo), none] [] ((ad, I, A), uM, x)
  refine v_ald3 (pc := 0) hJ dL_hands_0 ?_
  refine v_iconst (pc := 1) hJ dL_hands_1 ?_
  refine v_ald0 (pc := 2) hJ dL_hands_2 ?_
  refine v_ild1 (pc := 3) hJ dL_hands_3 ?_
  refine v_ild2 (pc := 4) hJ dL_hands_4 ?_
  refine v_callV (As := [.int (iZ p0), .int (iZ p1)]) (st := [.int (iZ 0), .ref bo]) (pc := 5) (q0 := 0) (ci := 7) hJ rfl rfl lkL_39 (lfC (uM := uM) (x := x) hOL h) rfl rfl (Nat.le_of_ble_eq_true rfl) (rOk_X hlev (by decide)) dL_hands_5 (fun v u2 h2 => ?_)
  obtain ⟨u3, ⟨r, rfl, hP⟩, rfl⟩ := h2
  refine v_i2l (pc := 8) hJ dL_hands_8 ?_
  refine v_lsto (pc := 9) hJ dL_hands_9 ?_
  refine v_goto (tgt := 21) (pc := 10) hJ dL_hands_10 (by decide) ?_
  refine v_iconst (pc := 21) hJ dL_hands_21 ?_
  exact v_iret (pc := 22) hJ dL_hands_22 ⟨0, rfl, rfl, r, u3, hP, rfl⟩
set_option maxHeartbeats 4000000 in
set_option maxRecDepth 100000 in
theorem nseL_hands {l : Launch} {D : va_G} {cI cJ : ClassId} {adM : Nat → Nat} {bo : Nat} {O : OT} {ad : Nat → Nat} {I : Nat → Int} {A : Nat → Int → Int} {uM : sM} {x : Int} {p0 p1 : Int} {lev : Nat} {px : sC → Prop} (hOL : OL O) (hT : OGT O) (hlev : lev < 17) (h : CtX l yX10_hands cX10_hands 3 (some .int) (rX lev) D [(cI, .int)] O (wC cI) [.ref (ad 19), .int (iZ p0), .int (iZ p1)] (ad, I, A) "java/util/NoSuchElementException" px) : CtW l yL_hands cL_hands 5 [(0, 10, 13, 18), (0, 10, 17, 13)] (rX 17) D [(cI, .int), (cJ, .long)] O (wL adM bo cI cJ) [.ref (ad 19), .int (iZ p0), .int (iZ p1), .ref bo] ((ad, I, A), uM, x) (pI fun k v2 => k = 1 ∧ ∃ u2, px u2 ∧ v2 = (u2, uM, x)) := by
  refine ctw_intro (own := RL) (by decide) rfl hOL (Nat.le_of_ble_eq_true rfl) (by simp [Value.category]) (fun X J hJ hH => ?_)
  show J 0 [some (.ref (ad 19)), some (.int (iZ p0)), some (.int (iZ p1)), some (.ref bo), none] [] ((ad, I, A), uM, x)
  refine v_ald3 (pc := 0) hJ dL_hands_0 ?_
  refine v_iconst (pc := 1) hJ dL_hands_1 ?_
  refine v_ald0 (pc := 2) hJ dL_hands_2 ?_
  refine v_ild1 (pc := 3) hJ dL_hands_3 ?_
  refine v_ild2 (pc := 4) hJ dL_hands_4 ?_
  exact v_catchN (kx := 4) (As := [.int (iZ p0), .int (iZ p1)]) (st := [.int (iZ 0), .ref bo]) (pc := 5) (q0 := 0) (ci := 7) (r := 1) hJ hH rfl rfl lkL_39 (lfX (uM := uM) (x := x) hOL h) rfl rfl (Nat.le_of_ble_eq_true rfl) ⟨rfl, rfl, by show lev + 1 ≤ 17; omega, by show 8 + (3 + 11) + 40 * lev ≤ 40 * 17; omega⟩ ⟨by decide, by decide⟩ dL_hands_5 [] ⟨0, 10, 13, 18⟩ [⟨0, 10, 17, 13⟩] rfl (fun z hz => absurd hz List.not_mem_nil) (by decide) (by decide) klL_nse (kc_nse hT) (by decide) dL_hands_13 dL_hands_15 dL_hands_16 (fun u2 h2 => ⟨1, rfl, rfl, by obtain ⟨u3, h3, h4⟩ := h2; exact ⟨u3, h3, h4⟩⟩)
set_option maxHeartbeats 4000000 in
set_option maxRecDepth 100000 in
theorem iaeL_hands {l : Launch} {D : va_G} {cI cJ : ClassId} {adM : Nat → Nat} {bo : Nat} {O : OT} {ad : Nat → Nat} {I : Nat → Int} {A : Nat → Int → Int} {uM : sM} {x : Int} {p0 p1 : Int} {lev : Nat} {px : sC → Prop} (hOL : OL O) (hT : OGT O) (hN : OGN O) (hlev : lev < 17) (h : CtX l yX10_hands cX10_hands 3 (some .int) (rX lev) D [(cI, .int)] O (wC cI) [.ref (ad 19), .int (iZ p0), .int (iZ p1)] (ad, I, A) "java/lang/IllegalArgumentException" px) : CtW l yL_hands cL_hands 5 [(0, 10, 13, 18), (0, 10, 17, 13)] (rX 17) D [(cI, .int), (cJ, .long)] O (wL adM bo cI cJ) [.ref (ad 19), .int (iZ p0), .int (iZ p1), .ref bo] ((ad, I, A), uM, x) (pI fun k v2 => k = 2 ∧ ∃ u2, px u2 ∧ v2 = (u2, uM, x)) := by
  refine ctw_intro (own := RL) (by decide) rfl hOL (Nat.le_of_ble_eq_true rfl) (by simp [Value.category]) (fun X J hJ hH => ?_)
  show J 0 [some (.ref (ad 19)), some (.int (iZ p0)), some (.int (iZ p1)), some (.ref bo), none] [] ((ad, I, A), uM, x)
  refine v_ald3 (pc := 0) hJ dL_hands_0 ?_
  refine v_iconst (pc := 1) hJ dL_hands_1 ?_
  refine v_ald0 (pc := 2) hJ dL_hands_2 ?_
  refine v_ild1 (pc := 3) hJ dL_hands_3 ?_
  refine v_ild2 (pc := 4) hJ dL_hands_4 ?_
  exact v_catchN (kx := 4) (As := [.int (iZ p0), .int (iZ p1)]) (st := [.int (iZ 0), .ref bo]) (pc := 5) (q0 := 0) (ci := 7) (r := 2) hJ hH rfl rfl lkL_39 (lfX (uM := uM) (x := x) hOL h) rfl rfl (Nat.le_of_ble_eq_true rfl) ⟨rfl, rfl, by show lev + 1 ≤ 17; omega, by show 8 + (3 + 11) + 40 * lev ≤ 40 * 17; omega⟩ ⟨by decide, by decide⟩ dL_hands_5 [⟨0, 10, 13, 18⟩] ⟨0, 10, 17, 13⟩ [] rfl (fun z hz => by rw [List.mem_singleton.mp hz]; exact ⟨by decide, _, klL_nse, hN⟩) (by decide) (by decide) klL_iae (kc_iae hT) (by decide) dL_hands_17 dL_hands_19 dL_hands_20 (fun u2 h2 => ⟨2, rfl, rfl, by obtain ⟨u3, h3, h4⟩ := h2; exact ⟨u3, h3, h4⟩⟩)
set_option maxHeartbeats 4000000 in
set_option maxRecDepth 100000 in
theorem okL_fret {l : Launch} {D : va_G} {cI cJ : ClassId} {adM : Nat → Nat} {bo : Nat} {O : OT} {ad : Nat → Nat} {I : Nat → Int} {A : Nat → Int → Int} {uM : sM} {x : Int} {p0 p1 p2 p3 : Int} {lev : Nat} {P : Int → sC → Prop} (hOL : OL O) (hlev : lev < 17) (h : Ct l yX10_fret cX10_fret 7 (some .int) (rL lev) D [(cI, .int)] O (wC cI) [.ref (ad 19), .int (iZ p0), .int (iZ p1), .int (iZ p2), .int (iZ p3)] (ad, I, A) (pI P)) : CtW l yL_fret cL_fret 7 [(0, 14, 17, 18), (0, 14, 21, 13)] (rX 17) D [(cI, .int), (cJ, .long)] O (wL adM bo cI cJ) [.ref (ad 19), .int (iZ p0), .int (iZ p1), .int (iZ p2), .int (iZ p3), .ref bo] ((ad, I, A), uM, x) (pI fun k v2 => k = 0 ∧ ∃ r u2, P r u2 ∧ v2 = (u2, uM, r)) := by
  refine ctw_intro (own := RL) (by decide) rfl hOL (Nat.le_of_ble_eq_true rfl) (by simp [Value.category]) (fun X J hJ hH => ?_)
  show J 0 [some (.ref (ad 19)), some (.int (iZ p0)), some (.int (iZ p1)), some (.int (iZ p2)), some (.int (iZ p3)), some (.ref bo), none] [] ((ad, I, A), uM, x)
  refine v_ald5 (pc := 0) hJ dL_fret_0 ?_
  refine v_iconst (pc := 2) hJ dL_fret_2 ?_
  refine v_ald0 (pc := 3) hJ dL_fret_3 ?_
  refine v_ild1 (pc := 4) hJ dL_fret_4 ?_
  refine v_ild2 (pc := 5) hJ dL_fret_5 ?_
  refine v_ild3 (pc := 6) hJ dL_fret_6 ?_
  refine v_ild4 (pc := 7) hJ dL_fret_7 ?_
  refine v_callV (As := [.int (iZ p0), .int (iZ p1), .int (iZ p2), .int (iZ p3)]) (st := [.int (iZ 0), .ref bo]) (pc := 9) (q0 := 0) (ci := 7) hJ rfl rfl lkL_42 (lfC (uM := uM) (x := x) hOL h) rfl rfl (Nat.le_of_ble_eq_true rfl) (rOk_X hlev (by decide)) dL_fret_9 (fun v u2 h2 => ?_)
  obtain ⟨u3, ⟨r, rfl, hP⟩, rfl⟩ := h2
  refine v_i2l (pc := 12) hJ dL_fret_12 ?_
  refine v_lsto (pc := 13) hJ dL_fret_13 ?_
  refine v_goto (tgt := 25) (pc := 14) hJ dL_fret_14 (by decide) ?_
  refine v_iconst (pc := 25) hJ dL_fret_25 ?_
  exact v_iret (pc := 26) hJ dL_fret_26 ⟨0, rfl, rfl, r, u3, hP, rfl⟩
set_option maxHeartbeats 4000000 in
set_option maxRecDepth 100000 in
theorem nseL_fret {l : Launch} {D : va_G} {cI cJ : ClassId} {adM : Nat → Nat} {bo : Nat} {O : OT} {ad : Nat → Nat} {I : Nat → Int} {A : Nat → Int → Int} {uM : sM} {x : Int} {p0 p1 p2 p3 : Int} {lev : Nat} {px : sC → Prop} (hOL : OL O) (hT : OGT O) (hlev : lev < 17) (h : CtX l yX10_fret cX10_fret 7 (some .int) (rX lev) D [(cI, .int)] O (wC cI) [.ref (ad 19), .int (iZ p0), .int (iZ p1), .int (iZ p2), .int (iZ p3)] (ad, I, A) "java/util/NoSuchElementException" px) : CtW l yL_fret cL_fret 7 [(0, 14, 17, 18), (0, 14, 21, 13)] (rX 17) D [(cI, .int), (cJ, .long)] O (wL adM bo cI cJ) [.ref (ad 19), .int (iZ p0), .int (iZ p1), .int (iZ p2), .int (iZ p3), .ref bo] ((ad, I, A), uM, x) (pI fun k v2 => k = 1 ∧ ∃ u2, px u2 ∧ v2 = (u2, uM, x)) := by
  refine ctw_intro (own := RL) (by decide) rfl hOL (Nat.le_of_ble_eq_true rfl) (by simp [Value.category]) (fun X J hJ hH => ?_)
  show J 0 [some (.ref (ad 19)), some (.int (iZ p0)), some (.int (iZ p1)), some (.int (iZ p2)), some (.int (iZ p3)), some (.ref bo), none] [] ((ad, I, A), uM, x)
  refine v_ald5 (pc := 0) hJ dL_fret_0 ?_
  refine v_iconst (pc := 2) hJ dL_fret_2 ?_
  refine v_ald0 (pc := 3) hJ dL_fret_3 ?_
  refine v_ild1 (pc := 4) hJ dL_fret_4 ?_
  refine v_ild2 (pc := 5) hJ dL_fret_5 ?_
  refine v_ild3 (pc := 6) hJ dL_fret_6 ?_
  refine v_ild4 (pc := 7) hJ dL_fret_7 ?_
  exact v_catchN (kx := 6) (As := [.int (iZ p0), .int (iZ p1), .int (iZ p2), .int (iZ p3)]) (st := [.int (iZ 0), .ref bo]) (pc := 9) (q0 := 0) (ci := 7) (r := 1) hJ hH rfl rfl lkL_42 (lfX (uM := uM) (x := x) hOL h) rfl rfl (Nat.le_of_ble_eq_true rfl) ⟨rfl, rfl, by show lev + 1 ≤ 17; omega, by show 8 + (7 + 11) + 40 * lev ≤ 40 * 17; omega⟩ ⟨by decide, by decide⟩ dL_fret_9 [] ⟨0, 14, 17, 18⟩ [⟨0, 14, 21, 13⟩] rfl (fun z hz => absurd hz List.not_mem_nil) (by decide) (by decide) klL_nse (kc_nse hT) (by decide) dL_fret_17 dL_fret_19 dL_fret_20 (fun u2 h2 => ⟨1, rfl, rfl, by obtain ⟨u3, h3, h4⟩ := h2; exact ⟨u3, h3, h4⟩⟩)
set_option maxHeartbeats 4000000 in
set_option maxRecDepth 100000 in
theorem iaeL_fret {l : Launch} {D : va_G} {cI cJ : ClassId} {adM : Nat → Nat} {bo : Nat} {O : OT} {ad : Nat → Nat} {I : Nat → Int} {A : Nat → Int → Int} {uM : sM} {x : Int} {p0 p1 p2 p3 : Int} {lev : Nat} {px : sC → Prop} (hOL : OL O) (hT : OGT O) (hN : OGN O) (hlev : lev < 17) (h : CtX l yX10_fret cX10_fret 7 (some .int) (rX lev) D [(cI, .int)] O (wC cI) [.ref (ad 19), .int (iZ p0), .int (iZ p1), .int (iZ p2), .int (iZ p3)] (ad, I, A) "java/lang/IllegalArgumentException" px) : CtW l yL_fret cL_fret 7 [(0, 14, 17, 18), (0, 14, 21, 13)] (rX 17) D [(cI, .int), (cJ, .long)] O (wL adM bo cI cJ) [.ref (ad 19), .int (iZ p0), .int (iZ p1), .int (iZ p2), .int (iZ p3), .ref bo] ((ad, I, A), uM, x) (pI fun k v2 => k = 2 ∧ ∃ u2, px u2 ∧ v2 = (u2, uM, x)) := by
  refine ctw_intro (own := RL) (by decide) rfl hOL (Nat.le_of_ble_eq_true rfl) (by simp [Value.category]) (fun X J hJ hH => ?_)
  show J 0 [some (.ref (ad 19)), some (.int (iZ p0)), some (.int (iZ p1)), some (.int (iZ p2)), some (.int (iZ p3)), some (.ref bo), none] [] ((ad, I, A), uM, x)
  refine v_ald5 (pc := 0) hJ dL_fret_0 ?_
  refine v_iconst (pc := 2) hJ dL_fret_2 ?_
  refine v_ald0 (pc := 3) hJ dL_fret_3 ?_
  refine v_ild1 (pc := 4) hJ dL_fret_4 ?_
  refine v_ild2 (pc := 5) hJ dL_fret_5 ?_
  refine v_ild3 (pc := 6) hJ dL_fret_6 ?_
  refine v_ild4 (pc := 7) hJ dL_fret_7 ?_
  exact v_catchN (kx := 6) (As := [.int (iZ p0), .int (iZ p1), .int (iZ p2), .int (iZ p3)]) (st := [.int (iZ 0), .ref bo]) (pc := 9) (q0 := 0) (ci := 7) (r := 2) hJ hH rfl rfl lkL_42 (lfX (uM := uM) (x := x) hOL h) rfl rfl (Nat.le_of_ble_eq_true rfl) ⟨rfl, rfl, by show lev + 1 ≤ 17; omega, by show 8 + (7 + 11) + 40 * lev ≤ 40 * 17; omega⟩ ⟨by decide, by decide⟩ dL_fret_9 [⟨0, 14, 17, 18⟩] ⟨0, 14, 21, 13⟩ [] rfl (fun z hz => by rw [List.mem_singleton.mp hz]; exact ⟨by decide, _, klL_nse, hN⟩) (by decide) (by decide) klL_iae (kc_iae hT) (by decide) dL_fret_21 dL_fret_23 dL_fret_24 (fun u2 h2 => ⟨2, rfl, rfl, by obtain ⟨u3, h3, h4⟩ := h2; exact ⟨u3, h3, h4⟩⟩)
set_option maxHeartbeats 4000000 in
set_option maxRecDepth 100000 in
theorem okL_play {l : Launch} {D : va_G} {cI cJ : ClassId} {adM : Nat → Nat} {bo : Nat} {O : OT} {ad : Nat → Nat} {I : Nat → Int} {A : Nat → Int → Int} {uM : sM} {x : Int} {p0 : Int} {lev : Nat} {P : Int → sC → Prop} (hOL : OL O) (hlev : lev < 17) (h : Ct l yX10_play cX10_play 3 (some .int) (rL lev) D [(cI, .int)] O (wC cI) [.ref (ad 19), .int (iZ p0)] (ad, I, A) (pI P)) : CtW l yL_play cL_play 4 [(0, 9, 12, 13)] (rX 17) D [(cI, .int), (cJ, .long)] O (wL adM bo cI cJ) [.ref (ad 19), .int (iZ p0), .ref bo] ((ad, I, A), uM, x) (pI fun k v2 => k = 0 ∧ ∃ r u2, P r u2 ∧ v2 = (u2, uM, r)) := by
  refine ctw_intro (own := RL) (by decide) rfl hOL (Nat.le_of_ble_eq_true rfl) (by simp [Value.category]) (fun X J hJ hH => ?_)
  show J 0 [some (.ref (ad 19)), some (.int (iZ p0)), some (.ref bo), none] [] ((ad, I, A), uM, x)
  refine v_ald2 (pc := 0) hJ dL_play_0 ?_
  refine v_iconst (pc := 1) hJ dL_play_1 ?_
  refine v_ald0 (pc := 2) hJ dL_play_2 ?_
  refine v_ild1 (pc := 3) hJ dL_play_3 ?_
  refine v_callV (As := [.int (iZ p0)]) (st := [.int (iZ 0), .ref bo]) (pc := 4) (q0 := 0) (ci := 7) hJ rfl rfl lkL_46 (lfC (uM := uM) (x := x) hOL h) rfl rfl (Nat.le_of_ble_eq_true rfl) (rOk_X hlev (by decide)) dL_play_4 (fun v u2 h2 => ?_)
  obtain ⟨u3, ⟨r, rfl, hP⟩, rfl⟩ := h2
  refine v_i2l (pc := 7) hJ dL_play_7 ?_
  refine v_lsto (pc := 8) hJ dL_play_8 ?_
  refine v_goto (tgt := 15) (pc := 9) hJ dL_play_9 (by decide) ?_
  refine v_iconst (pc := 15) hJ dL_play_15 ?_
  exact v_iret (pc := 16) hJ dL_play_16 ⟨0, rfl, rfl, r, u3, hP, rfl⟩
set_option maxHeartbeats 4000000 in
set_option maxRecDepth 100000 in
theorem iaeL_play {l : Launch} {D : va_G} {cI cJ : ClassId} {adM : Nat → Nat} {bo : Nat} {O : OT} {ad : Nat → Nat} {I : Nat → Int} {A : Nat → Int → Int} {uM : sM} {x : Int} {p0 : Int} {lev : Nat} {px : sC → Prop} (hOL : OL O) (hT : OGT O) (hlev : lev < 17) (h : CtX l yX10_play cX10_play 3 (some .int) (rX lev) D [(cI, .int)] O (wC cI) [.ref (ad 19), .int (iZ p0)] (ad, I, A) "java/lang/IllegalArgumentException" px) : CtW l yL_play cL_play 4 [(0, 9, 12, 13)] (rX 17) D [(cI, .int), (cJ, .long)] O (wL adM bo cI cJ) [.ref (ad 19), .int (iZ p0), .ref bo] ((ad, I, A), uM, x) (pI fun k v2 => k = 1 ∧ ∃ u2, px u2 ∧ v2 = (u2, uM, x)) := by
  refine ctw_intro (own := RL) (by decide) rfl hOL (Nat.le_of_ble_eq_true rfl) (by simp [Value.category]) (fun X J hJ hH => ?_)
  show J 0 [some (.ref (ad 19)), some (.int (iZ p0)), some (.ref bo), none] [] ((ad, I, A), uM, x)
  refine v_ald2 (pc := 0) hJ dL_play_0 ?_
  refine v_iconst (pc := 1) hJ dL_play_1 ?_
  refine v_ald0 (pc := 2) hJ dL_play_2 ?_
  refine v_ild1 (pc := 3) hJ dL_play_3 ?_
  exact v_catch3 (As := [.int (iZ p0)]) (st := [.int (iZ 0), .ref bo]) (pc := 4) (q0 := 0) (ci := 7) (r := 1) hJ hH rfl rfl lkL_46 (lfX (uM := uM) (x := x) hOL h) rfl rfl (Nat.le_of_ble_eq_true rfl) ⟨rfl, rfl, by show lev + 1 ≤ 17; omega, by show 8 + (3 + 11) + 40 * lev ≤ 40 * 17; omega⟩ ⟨by decide, by decide⟩ dL_play_4 [] ⟨0, 9, 12, 13⟩ [] rfl (fun z hz => absurd hz List.not_mem_nil) (by decide) (by decide) klL_iae (kc_iae hT) (by decide) dL_play_12 dL_play_13 dL_play_14 (fun u2 h2 => ⟨1, rfl, rfl, by obtain ⟨u3, h3, h4⟩ := h2; exact ⟨u3, h3, h4⟩⟩)
set_option maxHeartbeats 4000000 in
set_option maxRecDepth 100000 in
theorem okL_count {l : Launch} {D : va_G} {cI cJ : ClassId} {adM : Nat → Nat} {bo : Nat} {O : OT} {ad : Nat → Nat} {I : Nat → Int} {A : Nat → Int → Int} {uM : sM} {x : Int} {p0 : Int} {lev : Nat} {P : Int → sC → Prop} (hOL : OL O) (hlev : lev < 17) (h : Ct l yX10_count cX10_count 2 (some .int) (rL lev) D [(cI, .int)] O (wC cI) [.ref (ad 19), .int (iZ p0)] (ad, I, A) (pI P)) : CtW l yL_count cL_count 4 [(0, 9, 12, 18)] (rX 17) D [(cI, .int), (cJ, .long)] O (wL adM bo cI cJ) [.ref (ad 19), .int (iZ p0), .ref bo] ((ad, I, A), uM, x) (pI fun k v2 => k = 0 ∧ ∃ r u2, P r u2 ∧ v2 = (u2, uM, r)) := by
  refine ctw_intro (own := RL) (by decide) rfl hOL (Nat.le_of_ble_eq_true rfl) (by simp [Value.category]) (fun X J hJ hH => ?_)
  show J 0 [some (.ref (ad 19)), some (.int (iZ p0)), some (.ref bo), none] [] ((ad, I, A), uM, x)
  refine v_ald2 (pc := 0) hJ dL_count_0 ?_
  refine v_iconst (pc := 1) hJ dL_count_1 ?_
  refine v_ald0 (pc := 2) hJ dL_count_2 ?_
  refine v_ild1 (pc := 3) hJ dL_count_3 ?_
  refine v_callV (As := [.int (iZ p0)]) (st := [.int (iZ 0), .ref bo]) (pc := 4) (q0 := 0) (ci := 7) hJ rfl rfl lkL_49 (lfC (uM := uM) (x := x) hOL h) rfl rfl (Nat.le_of_ble_eq_true rfl) (rOk_X hlev (by decide)) dL_count_4 (fun v u2 h2 => ?_)
  obtain ⟨u3, ⟨r, rfl, hP⟩, rfl⟩ := h2
  refine v_i2l (pc := 7) hJ dL_count_7 ?_
  refine v_lsto (pc := 8) hJ dL_count_8 ?_
  refine v_goto (tgt := 15) (pc := 9) hJ dL_count_9 (by decide) ?_
  refine v_iconst (pc := 15) hJ dL_count_15 ?_
  exact v_iret (pc := 16) hJ dL_count_16 ⟨0, rfl, rfl, r, u3, hP, rfl⟩
set_option maxHeartbeats 4000000 in
set_option maxRecDepth 100000 in
theorem nseL_count {l : Launch} {D : va_G} {cI cJ : ClassId} {adM : Nat → Nat} {bo : Nat} {O : OT} {ad : Nat → Nat} {I : Nat → Int} {A : Nat → Int → Int} {uM : sM} {x : Int} {p0 : Int} {lev : Nat} {px : sC → Prop} (hOL : OL O) (hT : OGT O) (hlev : lev < 17) (h : CtX l yX10_count cX10_count 2 (some .int) (rX lev) D [(cI, .int)] O (wC cI) [.ref (ad 19), .int (iZ p0)] (ad, I, A) "java/util/NoSuchElementException" px) : CtW l yL_count cL_count 4 [(0, 9, 12, 18)] (rX 17) D [(cI, .int), (cJ, .long)] O (wL adM bo cI cJ) [.ref (ad 19), .int (iZ p0), .ref bo] ((ad, I, A), uM, x) (pI fun k v2 => k = 1 ∧ ∃ u2, px u2 ∧ v2 = (u2, uM, x)) := by
  refine ctw_intro (own := RL) (by decide) rfl hOL (Nat.le_of_ble_eq_true rfl) (by simp [Value.category]) (fun X J hJ hH => ?_)
  show J 0 [some (.ref (ad 19)), some (.int (iZ p0)), some (.ref bo), none] [] ((ad, I, A), uM, x)
  refine v_ald2 (pc := 0) hJ dL_count_0 ?_
  refine v_iconst (pc := 1) hJ dL_count_1 ?_
  refine v_ald0 (pc := 2) hJ dL_count_2 ?_
  refine v_ild1 (pc := 3) hJ dL_count_3 ?_
  exact v_catch3 (As := [.int (iZ p0)]) (st := [.int (iZ 0), .ref bo]) (pc := 4) (q0 := 0) (ci := 7) (r := 1) hJ hH rfl rfl lkL_49 (lfX (uM := uM) (x := x) hOL h) rfl rfl (Nat.le_of_ble_eq_true rfl) ⟨rfl, rfl, by show lev + 1 ≤ 17; omega, by show 8 + (2 + 11) + 40 * lev ≤ 40 * 17; omega⟩ ⟨by decide, by decide⟩ dL_count_4 [] ⟨0, 9, 12, 18⟩ [] rfl (fun z hz => absurd hz List.not_mem_nil) (by decide) (by decide) klL_nse (kc_nse hT) (by decide) dL_count_12 dL_count_13 dL_count_14 (fun u2 h2 => ⟨1, rfl, rfl, by obtain ⟨u3, h3, h4⟩ := h2; exact ⟨u3, h3, h4⟩⟩)
