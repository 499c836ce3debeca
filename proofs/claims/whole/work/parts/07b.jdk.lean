abbrev rL (k : Nat) : Room := { frames := k, cells := 0, slots := 0, locals := 40 * k }
theorem rOk_L {a b n : Nat} (h : a < b) (hn : n ≤ 21) : rOk (rL a) (rL b) n := ⟨rfl, rfl, h, by show 8 + (n + 11) + 40 * a ≤ 40 * b; omega⟩
/-- the String constants that are read: the kinds' texts by their numbers, then the letters -/
def lenS : List Nat := [0, 1, 1, 2, 4, 3, 3, 4, 4, 1, 2, 4, 1, 4, 7]
def bytS : List (List Int32) := [[], [109], [55], [109, 55], [109, 97, 106, 55], [100, 105, 109], [97, 117, 103], [115, 117, 115, 52], [115, 117, 115, 50], [54], [109, 54], [100, 105, 109, 55], [57], [97, 100, 100, 57], [70, 67, 71, 68, 65, 69, 66]]
/-- the same as whole numbers -/
def txS (i : Nat) : List Int := [[], [109], [55], [109, 55], [109, 97, 106, 55], [100, 105, 109], [97, 117, 103], [115, 117, 115, 52], [115, 117, 115, 50], [54], [109, 54], [100, 105, 109, 55], [57], [97, 100, 100, 57], [70, 67, 71, 68, 65, 69, 66]].getD i []
theorem lenS_ok : ∀ i, i < 15 → lenS.getD i 0 = (txS i).length ∧ (txS i).length < 8 := by decide +kernel
theorem bytS_ok : ∀ i, i < 15 → ∀ k, k < (txS i).length → (bytS.getD i []).getD k 0 = iZ ((txS i).getD k 0) := by decide +kernel
theorem txS_in : ∀ i, i < 15 → ∀ k, k < (txS i).length → 0 < (txS i).getD k 0 ∧ (txS i).getD k 0 < 128 := by decide +kernel
/-- where they stand in the classes' tables: class, entry, text, which -/
def strT : List (String × Nat × String × Nat) := [("ChordMover$Kinds", 7, "m", 1), ("ChordMover$Kinds", 9, "7", 2), ("ChordMover$Kinds", 11, "m7", 3), ("ChordMover$Kinds", 13, "maj7", 4), ("ChordMover$Kinds", 15, "dim", 5), ("ChordMover$Kinds", 17, "aug", 6), ("ChordMover$Kinds", 19, "sus4", 7), ("ChordMover$Kinds", 21, "sus2", 8), ("ChordMover$Kinds", 23, "6", 9), ("ChordMover$Kinds", 25, "m6", 10), ("ChordMover$Kinds", 27, "dim7", 11), ("ChordMover$Kinds", 29, "9", 12), ("ChordMover$Kinds", 31, "add9", 13), ("ChordMover$Kinds", 33, "", 0), ("ChordMover$Notes", 15, "FCGDAEB", 14), ("ChordMoverModel", 99, "", 0), ("ChordMoverModel", 101, "m", 1), ("ChordMoverModel", 103, "7", 2), ("ChordMoverModel", 105, "m7", 3), ("ChordMoverModel", 107, "maj7", 4), ("ChordMoverModel", 109, "dim", 5), ("ChordMoverModel", 111, "aug", 6), ("ChordMoverModel", 113, "sus4", 7), ("ChordMoverModel", 115, "sus2", 8), ("ChordMoverModel", 117, "6", 9), ("ChordMoverModel", 119, "m6", 10), ("ChordMoverModel", 121, "dim7", 11), ("ChordMoverModel", 123, "9", 12), ("ChordMoverModel", 125, "add9", 13), ("ChordMoverModel", 229, "FCGDAEB", 14)]
def OG (O : OT) (adK adV : Nat → Nat) : Prop := OL O ∧ ∀ (A : Nat → Prop) (U : State) (H : Heap), O A U H → vk_S 15 lenS bytS adK adV A U H ∧ (∀ q ∈ strT, vk_R q.1 q.2.1 q.2.2.1 (adK q.2.2.2) U) ∧ va_Z "java/lang/String" "COMPACT_STRINGS" "Z" (.int (iZ 1)) A U H ∧ va_Zq "jdk/internal/util/Preconditions" "SIOOBE_FORMATTER" "Ljava/util/function/BiFunction;" A U H
abbrev MC (l : Launch) (D : va_G) (cI : ClassId) (ad : Nat → Nat) (O : OT) (y : MethodName) (cc : ByteArray) (n : Nat) (rt : Option FieldType) (lev : Nat) (as : List Value) (u : sM) (post : Option Value → sM → Prop) : Prop := Ct l y cc n rt (rL lev) D [(cI, .int)] O (wM ad cI) as u post
theorem lkJ0_335 : LkV RJ0 335 RJ0 yJ0_coder_7d493 cJ0_coder_7d493 1 (some .byte) 0 :=
  ⟨fun w hw => by
    rcases (show w = _ ∨ w = _ ∨ w = _ ∨ w = _ ∨ w = _ by simpa [wsV] using hw) with rfl | rfl | rfl | rfl | rfl
    · exact gw_of (List.mem_of_getElem? (i := 428) (by decide +kernel)) (by decide +kernel)
    · exact gw_of (List.mem_of_getElem? (i := 429) (by decide +kernel)) (by decide +kernel)
    · exact gw_of (List.mem_of_getElem? (i := 430) (by decide +kernel)) (by decide +kernel)
    · exact gw_of (List.mem_of_getElem? (i := 63) (by decide +kernel)) (by decide +kernel)
    · exact gw_of (List.mem_of_getElem? (i := 431) (by decide +kernel)) (by decide +kernel), rfl, by decide, by decide, by decide +kernel⟩
theorem lkJ0_492 : LkV RJ0 492 RJ0 yJ0_isLatin1_aae02 cJ0_isLatin1_aae02 1 (some .boolean) 0 :=
  ⟨fun w hw => by
    rcases (show w = _ ∨ w = _ ∨ w = _ ∨ w = _ ∨ w = _ by simpa [wsV] using hw) with rfl | rfl | rfl | rfl | rfl
    · exact gw_of (List.mem_of_getElem? (i := 370) (by decide +kernel)) (by decide +kernel)
    · exact gw_of (List.mem_of_getElem? (i := 371) (by decide +kernel)) (by decide +kernel)
    · exact gw_of (List.mem_of_getElem? (i := 372) (by decide +kernel)) (by decide +kernel)
    · exact gw_of (List.mem_of_getElem? (i := 63) (by decide +kernel)) (by decide +kernel)
    · exact gw_of (List.mem_of_getElem? (i := 373) (by decide +kernel)) (by decide +kernel), rfl, by decide, by decide, by decide +kernel⟩
theorem lkJ0_495 : LkS RJ0 495 yJ1_charAt_3b067 cJ1_charAt_3b067 2 (some .char) 2 :=
  ⟨fun w hw => by
    rcases (show w = _ ∨ w = _ ∨ w = _ ∨ w = _ by simpa [va_wsS] using hw) with rfl | rfl | rfl | rfl
    · exact gw_of (List.mem_of_getElem? (i := 376) (by decide +kernel)) (by decide +kernel)
    · exact gw_of (List.mem_of_getElem? (i := 377) (by decide +kernel)) (by decide +kernel)
    · exact gw_of (List.mem_of_getElem? (i := 64) (by decide +kernel)) (by decide +kernel)
    · exact gw_of (List.mem_of_getElem? (i := 378) (by decide +kernel)) (by decide +kernel), by decide, by decide, by decide +kernel⟩
theorem lkJ0_498 : LkS RJ0 498 yJ2_charAt_3b067 cJ2_charAt_3b067 2 (some .char) 2 :=
  ⟨fun w hw => by
    rcases (show w = _ ∨ w = _ ∨ w = _ ∨ w = _ by simpa [va_wsS] using hw) with rfl | rfl | rfl | rfl
    · exact gw_of (List.mem_of_getElem? (i := 387) (by decide +kernel)) (by decide +kernel)
    · exact gw_of (List.mem_of_getElem? (i := 388) (by decide +kernel)) (by decide +kernel)
    · exact gw_of (List.mem_of_getElem? (i := 65) (by decide +kernel)) (by decide +kernel)
    · exact gw_of (List.mem_of_getElem? (i := 389) (by decide +kernel)) (by decide +kernel), by decide, by decide, by decide +kernel⟩
theorem lkJ0_505 : LkV RJ0 505 RJ0 yJ0_length_8abf5 cJ0_length_8abf5 1 (some .int) 0 :=
  ⟨fun w hw => by
    rcases (show w = _ ∨ w = _ ∨ w = _ ∨ w = _ ∨ w = _ by simpa [wsV] using hw) with rfl | rfl | rfl | rfl | rfl
    · exact gw_of (List.mem_of_getElem? (i := 694) (by decide +kernel)) (by decide +kernel)
    · exact gw_of (List.mem_of_getElem? (i := 425) (by decide +kernel)) (by decide +kernel)
    · exact gw_of (List.mem_of_getElem? (i := 426) (by decide +kernel)) (by decide +kernel)
    · exact gw_of (List.mem_of_getElem? (i := 63) (by decide +kernel)) (by decide +kernel)
    · exact gw_of (List.mem_of_getElem? (i := 427) (by decide +kernel)) (by decide +kernel), rfl, by decide, by decide, by decide +kernel⟩
theorem lkJ0_633 : LkV RJ0 633 RJ0 yJ0_indexOf_7cf53 cJ0_indexOf_7cf53 3 (some .int) 2 :=
  ⟨fun w hw => by
    rcases (show w = _ ∨ w = _ ∨ w = _ ∨ w = _ ∨ w = _ by simpa [wsV] using hw) with rfl | rfl | rfl | rfl | rfl
    · exact gw_of (List.mem_of_getElem? (i := 690) (by decide +kernel)) (by decide +kernel)
    · exact gw_of (List.mem_of_getElem? (i := 691) (by decide +kernel)) (by decide +kernel)
    · exact gw_of (List.mem_of_getElem? (i := 692) (by decide +kernel)) (by decide +kernel)
    · exact gw_of (List.mem_of_getElem? (i := 63) (by decide +kernel)) (by decide +kernel)
    · exact gw_of (List.mem_of_getElem? (i := 693) (by decide +kernel)) (by decide +kernel), rfl, by decide, by decide, by decide +kernel⟩
theorem lkJ0_637 : LkS RJ0 637 yJ1_indexOf_4cfef cJ1_indexOf_4cfef 4 (some .int) 4 :=
  ⟨fun w hw => by
    rcases (show w = _ ∨ w = _ ∨ w = _ ∨ w = _ by simpa [va_wsS] using hw) with rfl | rfl | rfl | rfl
    · exact gw_of (List.mem_of_getElem? (i := 695) (by decide +kernel)) (by decide +kernel)
    · exact gw_of (List.mem_of_getElem? (i := 696) (by decide +kernel)) (by decide +kernel)
    · exact gw_of (List.mem_of_getElem? (i := 64) (by decide +kernel)) (by decide +kernel)
    · exact gw_of (List.mem_of_getElem? (i := 697) (by decide +kernel)) (by decide +kernel), by decide, by decide, by decide +kernel⟩
theorem lkJ0_640 : LkS RJ0 640 yJ2_indexOf_4cfef cJ2_indexOf_4cfef 4 (some .int) 4 :=
  ⟨fun w hw => by
    rcases (show w = _ ∨ w = _ ∨ w = _ ∨ w = _ by simpa [va_wsS] using hw) with rfl | rfl | rfl | rfl
    · exact gw_of (List.mem_of_getElem? (i := 706) (by decide +kernel)) (by decide +kernel)
    · exact gw_of (List.mem_of_getElem? (i := 707) (by decide +kernel)) (by decide +kernel)
    · exact gw_of (List.mem_of_getElem? (i := 65) (by decide +kernel)) (by decide +kernel)
    · exact gw_of (List.mem_of_getElem? (i := 708) (by decide +kernel)) (by decide +kernel), by decide, by decide, by decide +kernel⟩
theorem lkJ0_1059 : LkS RJ0 1059 yJ3_checkIndex_8e157 cJ3_checkIndex_8e157 3 (some .int) 3 :=
  ⟨fun w hw => by
    rcases (show w = _ ∨ w = _ ∨ w = _ ∨ w = _ by simpa [va_wsS] using hw) with rfl | rfl | rfl | rfl
    · exact gw_of (List.mem_of_getElem? (i := 384) (by decide +kernel)) (by decide +kernel)
    · exact gw_of (List.mem_of_getElem? (i := 385) (by decide +kernel)) (by decide +kernel)
    · exact gw_of (List.mem_of_getElem? (i := 66) (by decide +kernel)) (by decide +kernel)
    · exact gw_of (List.mem_of_getElem? (i := 386) (by decide +kernel)) (by decide +kernel), by decide, by decide, by decide +kernel⟩
theorem lkJ0_1062 : LkS RJ0 1062 yJ3_checkFromToIndex_8c36e cJ3_checkFromToIndex_8c36e 4 (some .int) 4 :=
  ⟨fun w hw => by
    rcases (show w = _ ∨ w = _ ∨ w = _ ∨ w = _ by simpa [va_wsS] using hw) with rfl | rfl | rfl | rfl
    · exact gw_of (List.mem_of_getElem? (i := 721) (by decide +kernel)) (by decide +kernel)
    · exact gw_of (List.mem_of_getElem? (i := 722) (by decide +kernel)) (by decide +kernel)
    · exact gw_of (List.mem_of_getElem? (i := 66) (by decide +kernel)) (by decide +kernel)
    · exact gw_of (List.mem_of_getElem? (i := 723) (by decide +kernel)) (by decide +kernel), by decide, by decide, by decide +kernel⟩
theorem lkJ1_9 : LkS RJ1 9 yJ0_checkIndex_df160 cJ0_checkIndex_df160 2 none 2 :=
  ⟨fun w hw => by
    rcases (show w = _ ∨ w = _ ∨ w = _ ∨ w = _ by simpa [va_wsS] using hw) with rfl | rfl | rfl | rfl
    · exact gw_of (List.mem_of_getElem? (i := 379) (by decide +kernel)) (by decide +kernel)
    · exact gw_of (List.mem_of_getElem? (i := 380) (by decide +kernel)) (by decide +kernel)
    · exact gw_of (List.mem_of_getElem? (i := 63) (by decide +kernel)) (by decide +kernel)
    · exact gw_of (List.mem_of_getElem? (i := 381) (by decide +kernel)) (by decide +kernel), by decide, by decide, by decide +kernel⟩
theorem lkJ1_38 : LkS RJ1 38 yJ9_min_7cf53 cJ9_min_7cf53 2 (some .int) 2 :=
  ⟨fun w hw => by
    rcases (show w = _ ∨ w = _ ∨ w = _ ∨ w = _ by simpa [va_wsS] using hw) with rfl | rfl | rfl | rfl
    · exact gw_of (List.mem_of_getElem? (i := 702) (by decide +kernel)) (by decide +kernel)
    · exact gw_of (List.mem_of_getElem? (i := 657) (by decide +kernel)) (by decide +kernel)
    · exact gw_of (List.mem_of_getElem? (i := 61) (by decide +kernel)) (by decide +kernel)
    · exact gw_of (List.mem_of_getElem? (i := 658) (by decide +kernel)) (by decide +kernel), by decide, by decide, by decide +kernel⟩
theorem lkJ1_88 : LkS RJ1 88 yJ1_canEncode_9a6ad cJ1_canEncode_9a6ad 1 (some .boolean) 1 :=
  ⟨fun w hw => by
    rcases (show w = _ ∨ w = _ ∨ w = _ ∨ w = _ by simpa [va_wsS] using hw) with rfl | rfl | rfl | rfl
    · exact gw_of (List.mem_of_getElem? (i := 698) (by decide +kernel)) (by decide +kernel)
    · exact gw_of (List.mem_of_getElem? (i := 699) (by decide +kernel)) (by decide +kernel)
    · exact gw_of (List.mem_of_getElem? (i := 64) (by decide +kernel)) (by decide +kernel)
    · exact gw_of (List.mem_of_getElem? (i := 700) (by decide +kernel)) (by decide +kernel), by decide, by decide, by decide +kernel⟩
theorem lkJ1_92 : LkS RJ1 92 yJ9_max_7cf53 cJ9_max_7cf53 2 (some .int) 2 :=
  ⟨fun w hw => by
    rcases (show w = _ ∨ w = _ ∨ w = _ ∨ w = _ by simpa [va_wsS] using hw) with rfl | rfl | rfl | rfl
    · exact gw_of (List.mem_of_getElem? (i := 701) (by decide +kernel)) (by decide +kernel)
    · exact gw_of (List.mem_of_getElem? (i := 338) (by decide +kernel)) (by decide +kernel)
    · exact gw_of (List.mem_of_getElem? (i := 61) (by decide +kernel)) (by decide +kernel)
    · exact gw_of (List.mem_of_getElem? (i := 339) (by decide +kernel)) (by decide +kernel), by decide, by decide, by decide +kernel⟩
theorem lkJ1_95 : LkS RJ1 95 yJ1_indexOfChar_4cfef cJ1_indexOfChar_4cfef 6 (some .int) 4 :=
  ⟨fun w hw => by
    rcases (show w = _ ∨ w = _ ∨ w = _ ∨ w = _ by simpa [va_wsS] using hw) with rfl | rfl | rfl | rfl
    · exact gw_of (List.mem_of_getElem? (i := 703) (by decide +kernel)) (by decide +kernel)
    · exact gw_of (List.mem_of_getElem? (i := 704) (by decide +kernel)) (by decide +kernel)
    · exact gw_of (List.mem_of_getElem? (i := 64) (by decide +kernel)) (by decide +kernel)
    · exact gw_of (List.mem_of_getElem? (i := 705) (by decide +kernel)) (by decide +kernel), by decide, by decide, by decide +kernel⟩
theorem kJ0_9 : Cond.fieldLink RJ0 9 "java/lang/String" "value" "[B" ∈ gw := gw_of (List.mem_of_getElem? (i := 1267) (by decide +kernel)) (by decide +kernel)
theorem kJ0_15 : Cond.fieldLink RJ0 15 "java/lang/String" "coder" "B" ∈ gw := gw_of (List.mem_of_getElem? (i := 1266) (by decide +kernel)) (by decide +kernel)
theorem kJ0_38 : Cond.fieldLink RJ0 38 "java/lang/String" "COMPACT_STRINGS" "Z" ∈ gw := gw_of (List.mem_of_getElem? (i := 374) (by decide +kernel)) (by decide +kernel)
theorem kJ0_1053 : Cond.fieldLink RJ0 1053 "jdk/internal/util/Preconditions" "SIOOBE_FORMATTER" "Ljava/util/function/BiFunction;" ∈ gw := gw_of (List.mem_of_getElem? (i := 382) (by decide +kernel)) (by decide +kernel)
theorem k_const_X11_271 : Cond.constant RX11 271 (iZ 1000000000) ∈ gw := gw_of (List.mem_of_getElem? (i := 1207) (by decide +kernel)) (by decide +kernel)
theorem k_const_J6_265 : Cond.constant RJ6 265 (iZ 1431655765) ∈ gw := gw_of (List.mem_of_getElem? (i := 496) (by decide +kernel)) (by decide +kernel)
theorem k_const_J6_266 : Cond.constant RJ6 266 (iZ 858993459) ∈ gw := gw_of (List.mem_of_getElem? (i := 497) (by decide +kernel)) (by decide +kernel)
theorem k_const_J6_267 : Cond.constant RJ6 267 (iZ 252645135) ∈ gw := gw_of (List.mem_of_getElem? (i := 498) (by decide +kernel)) (by decide +kernel)
section SROWS
variable {σ : Type} {l : Launch} {R : Room} {cc : ByteArray} {nL : Nat} {own : String} {rt : Option FieldType} {D : va_G} {tys : List (ClassId × FieldType)} {O : OT} {wld : σ → va_W} {post : Option Value → σ → Prop} {X : CtxT} {J : KT σ} {adK adV : Nat → Nat}
variable {pc : Nat} {lv : List (Option Value)} {st : List Value} {u : σ}
theorem v_ldcS (hJ : Snd l R cc nL own rt D tys O wld post X J) (hG : OG O adK adV) {idx i : Nat} {tx : String} (hm : (own, idx, tx, i) ∈ strT) (d : decode cc pc = .ok (.ldc idx, 2)) (k : J (pc + 2) lv (.ref (adK i) :: st) u) : J pc lv st u := by
  obtain ⟨p, e, s, m, args, below, meth, c, A, Q⟩ := X
  obtain ⟨hx, hb, hml, hown, hts, hr, hlk, hK, hA, hOL, hO, hQ, hW⟩ := hJ
  refine (hW _ _ _ _).mpr (fun H locs ls hP hD hS hl => ?_)
  exact va_ldcS (tx := tx) hx hb hown ((hG.2 A s s.heap hO).2.1 _ hm) d ((hW _ _ _ _).mp k H locs ls hP hD hS hl)
theorem v_ldcwK (hJ : Snd l R cc nL own rt D tys O wld post X J) {n : Int} {index : Nat} (d : decode cc pc = .ok (.ldc_w index, 3)) (hc : Cond.constant own index (iZ n) ∈ gw) (k : J (pc + 3) lv (.int (iZ n) :: st) u) : J pc lv st u := by
  obtain ⟨p, e, s, m, args, below, meth, c, A, Q⟩ := X
  obtain ⟨hx, hb, hml, hown, hts, hr, hlk, hK, hA, hOL, hO, hQ, hW⟩ := hJ
  refine (hW _ _ _ _).mpr (fun H locs ls hP hD hS hl => ?_)
  exact lv_ldcw hx hb hown (hts _ hc) d ((hW _ _ _ _).mp k H locs ls hP hD hS hl)
theorem v_gets (hJ : Snd l R cc nL own rt D tys O wld post X J) {C n ds : String} {v : Value} {idx : Nat} (hz : ∀ (A : Nat → Prop) (U : State) (H : Heap), O A U H → va_Z C n ds v A U H) (hlink : Cond.fieldLink own idx C n ds ∈ gw) (d : decode cc pc = .ok (.getstatic idx, 3)) (k : J (pc + 3) lv (v :: st) u) : J pc lv st u := by
  obtain ⟨p, e, s, m, args, below, meth, c, A, Q⟩ := X
  obtain ⟨hx, hb, hml, hown, hts, hr, hlk, hK, hA, hOL, hO, hQ, hW⟩ := hJ
  refine (hW _ _ _ _).mpr (fun H locs ls hP hD hS hl => ?_)
  exact va_gets hx hb (hz A s s.heap hO) hS hown (hts _ hlink) (fun _ h => h) d ((hW _ _ _ _).mp k H locs ls hP hD hS hl)
theorem v_getsq (hJ : Snd l R cc nL own rt D tys O wld post X J) {C n ds : String} {idx : Nat} (hz : ∀ (A : Nat → Prop) (U : State) (H : Heap), O A U H → va_Zq C n ds A U H) (hlink : Cond.fieldLink own idx C n ds ∈ gw) (d : decode cc pc = .ok (.getstatic idx, 3)) (k : ∀ v : Value, v.category = 1 → J (pc + 3) lv (v :: st) u) : J pc lv st u := by
  obtain ⟨p, e, s, m, args, below, meth, c, A, Q⟩ := X
  obtain ⟨hx, hb, hml, hown, hts, hr, hlk, hK, hA, hOL, hO, hQ, hW⟩ := hJ
  refine (hW _ _ _ _).mpr (fun H locs ls hP hD hS hl => ?_)
  rcases hz A s s.heap hO with h | ⟨t, h⟩
  · exact va_gets hx hb h hS hown (hts _ hlink) (fun _ h => h) d ((hW _ _ _ _).mp (k .null rfl) H locs ls hP hD hS hl)
  · exact va_gets hx hb h hS hown (hts _ hlink) (fun _ h => h) d ((hW _ _ _ _).mp (k (.ref t) rfl) H locs ls hP hD hS hl)
theorem v_strV (hJ : Snd l R cc nL own rt D tys O wld post X J) (hG : OG O adK adV) {idx i : Nat} (hi : i < 15) (hlink : Cond.fieldLink own idx "java/lang/String" "value" "[B" ∈ gw) (d : decode cc pc = .ok (.getfield idx, 3)) (k : J (pc + 3) lv (.ref (adV i) :: st) u) : J pc lv (.ref (adK i) :: st) u := by
  obtain ⟨p, e, s, m, args, below, meth, c, A, Q⟩ := X
  obtain ⟨hx, hb, hml, hown, hts, hr, hlk, hK, hA, hOL, hO, hQ, hW⟩ := hJ
  refine (hW _ _ _ _).mpr (fun H locs ls hP hD hS hl => ?_)
  exact vk_getf hx hb ((hG.2 A s s.heap hO).1.1 i hi).2.2.1 hS hown (hts _ hlink) (fun _ h => h) d ((hW _ _ _ _).mp k H locs ls hP hD hS hl)
theorem v_strC (hJ : Snd l R cc nL own rt D tys O wld post X J) (hG : OG O adK adV) {idx i : Nat} (hi : i < 15) (hlink : Cond.fieldLink own idx "java/lang/String" "coder" "B" ∈ gw) (d : decode cc pc = .ok (.getfield idx, 3)) (k : J (pc + 3) lv (.int (iZ 0) :: st) u) : J pc lv (.ref (adK i) :: st) u := by
  obtain ⟨p, e, s, m, args, below, meth, c, A, Q⟩ := X
  obtain ⟨hx, hb, hml, hown, hts, hr, hlk, hK, hA, hOL, hO, hQ, hW⟩ := hJ
  refine (hW _ _ _ _).mpr (fun H locs ls hP hD hS hl => ?_)
  exact vk_getf hx hb ((hG.2 A s s.heap hO).1.1 i hi).2.1 hS hown (hts _ hlink) (fun _ h => h) d ((hW _ _ _ _).mp k H locs ls hP hD hS hl)
theorem v_strL (hJ : Snd l R cc nL own rt D tys O wld post X J) (hG : OG O adK adV) {i : Nat} (hi : i < 15) (d : decode cc pc = .ok (.arraylength, 1)) (k : J (pc + 1) lv (.int (iZ ((txS i).length : Int)) :: st) u) : J pc lv (.ref (adV i) :: st) u := by
  obtain ⟨p, e, s, m, args, below, meth, c, A, Q⟩ := X
  obtain ⟨hx, hb, hml, hown, hts, hr, hlk, hK, hA, hOL, hO, hQ, hW⟩ := hJ
  refine (hW _ _ _ _).mpr (fun H locs ls hP hD hS hl => ?_)
  exact va_tlen hx hb ((hG.2 A s s.heap hO).1.1 i hi).2.2.2 hS (show Int32.ofNat (lenS.getD i 0) = iZ ((txS i).length : Int) by rw [(lenS_ok i hi).1]; exact Int32.ofInt_eq_ofNat.symm) d ((hW _ _ _ _).mp k H locs ls hP hD hS hl)
theorem v_strB (hJ : Snd l R cc nL own rt D tys O wld post X J) (hG : OG O adK adV) {i j : Nat} (hi : i < 15) (hj : j < (txS i).length) (d : decode cc pc = .ok (.baload, 1)) (k : J (pc + 1) lv (.int (iZ ((txS i).getD j 0)) :: st) u) : J pc lv (.int (iZ (j : Int)) :: .ref (adV i) :: st) u := by
  obtain ⟨p, e, s, m, args, below, meth, c, A, Q⟩ := X
  obtain ⟨hx, hb, hml, hown, hts, hr, hlk, hK, hA, hOL, hO, hQ, hW⟩ := hJ
  refine (hW _ _ _ _).mpr (fun H locs ls hP hD hS hl => ?_)
  have hl8 := lenS_ok i hi
  refine va_tb hx hb ((hG.2 A s s.heap hO).1.1 i hi).2.2.2 hS (iZ_in (by omega) (by rw [hl8.1]; omega) (by rw [hl8.1]; omega)) (v := .int (iZ ((txS i).getD j 0))) ?_ d ((hW _ _ _ _).mp k H locs ls hP hD hS hl)
  rw [iZ_clamp (show inR (j : Int) from ⟨by omega, by omega⟩)]
  show Value.int _ = _
  rw [Int.toNat_natCast, bytS_ok i hi j hj]
theorem v_callT (hJ : Snd l R cc nL own rt D tys O wld post X J) (hG : OG O adK adV) {idx kn n2 i : Nat} {y : MethodName} {cc2 : ByteArray} {rt2 : Option FieldType} {rm : Room} {As st0 : List Value} {post2 : Option Value → σ → Prop} (hi : i < 15) (lk : LkV own idx "java/lang/String" y cc2 n2 rt2 kn) (hM : Ct l y cc2 n2 rt2 rm D tys O wld (.ref (adK i) :: As) u post2) (hkn : As.length = kn) (hst : st0 = As.reverse ++ .ref (adK i) :: st) (hroom : (st.map fun v => v.category).sum ≤ 8) (hrm : rOk rm R n2) (d : decode cc pc = .ok (.invokevirtual idx, 3)) (kk : ∀ (v : Option Value) (u2 : σ), post2 v u2 → J (pc + 3) lv (v.toList ++ st) u2) : J pc lv st0 u := by
  obtain ⟨p, e, s, m, args, below, meth, c, A, Q⟩ := X
  obtain ⟨hx, hb, hml, hown, hts, hr, hlk, hK, hA, hOL, hO, hQ, hW⟩ := hJ
  refine (hW _ _ _ _).mpr (fun H locs ls hP hD hS hl => ?_)
  have hF : ∀ q, va_A (wld u) H.size q → A q := by
    rintro q (⟨k9, e9, h9⟩ | h9)
    · exact hD.2 k9 _ h9
    · exact hA q (Nat.le_trans hS.1 h9)
  refine va_goon (D := D) (tys := tys) (wld := wld) (A1 := va_A (wld u) H.size) (va_runV (As := As) (rest := st) (Ts := gw) (own := own) (b := adK i) ⟨hx, hb, hml, hown, hts⟩ (hM H.size) (cwV kn hts (lk_good lk.1) rfl hrm.1 hrm.2.1 lk.2 hrm.2.2) ⟨ct_blind hOL _, vk_recv (hG.2 A s s.heap hO).1 hi hS, ct_pre (p := p) (e := e) (m := m) (args := args) (below := below) hK hOL hO hP hD hS hF _⟩ rfl hkn hl.1 hst (lv_room hroom) d ⟨Nat.zero_le _, Nat.zero_le _⟩) hS hF hF (fun v u2 H1 locs1 hp hP1 hD1 hS1 => (hW _ _ _ _).mp (kk v u2 hp) H1 locs1 ls hP1 hD1 hS1 hl)
theorem v_cT0i (hJ : Snd l R cc nL own rt D tys O wld post X J) (hG : OG O adK adV) {idx n2 i : Nat} {y : MethodName} {cc2 : ByteArray} {rt2 : Option FieldType} {rm : Room} {P : Int → σ → Prop} (hi : i < 15) (lk : LkV own idx "java/lang/String" y cc2 n2 rt2 0) (hM : Ct l y cc2 n2 rt2 rm D tys O wld [.ref (adK i)] u (pI P)) (hroom : (st.map fun v => v.category).sum ≤ 8) (hrm : rOk rm R n2) (d : decode cc pc = .ok (.invokevirtual idx, 3)) (kk : ∀ (r : Int) (u2 : σ), P r u2 → J (pc + 3) lv (.int (iZ r) :: st) u2) : J pc lv (.ref (adK i) :: st) u :=
  v_callT (As := []) hJ hG hi lk hM rfl rfl hroom hrm d (fun v u2 h => by obtain ⟨r, rfl, h2⟩ := h; exact kk r u2 h2)
theorem v_cT1i (hJ : Snd l R cc nL own rt D tys O wld post X J) (hG : OG O adK adV) {idx n2 i : Nat} {y : MethodName} {cc2 : ByteArray} {rt2 : Option FieldType} {rm : Room} {v1 : Value} {P : Int → σ → Prop} (hi : i < 15) (lk : LkV own idx "java/lang/String" y cc2 n2 rt2 1) (hM : Ct l y cc2 n2 rt2 rm D tys O wld [.ref (adK i), v1] u (pI P)) (hroom : (st.map fun v => v.category).sum ≤ 8) (hrm : rOk rm R n2) (d : decode cc pc = .ok (.invokevirtual idx, 3)) (kk : ∀ (r : Int) (u2 : σ), P r u2 → J (pc + 3) lv (.int (iZ r) :: st) u2) : J pc lv (v1 :: .ref (adK i) :: st) u :=
  v_callT (As := [v1]) hJ hG hi lk hM rfl rfl hroom hrm d (fun v u2 h => by obtain ⟨r, rfl, h2⟩ := h; exact kk r u2 h2)
end SROWS
set_option maxHeartbeats 4000000 in
set_option maxRecDepth 100000 in
theorem qJ3_checkIndex_8e157 {σ : Type} {l : Launch} {D : va_G} {tys : List (ClassId × FieldType)} {O : OT} {wld : σ → va_W} {adK adV : Nat → Nat} (hO : OG O adK adV) {u : σ} {a b : Int} {v : Value} (hv : v.category = 1) (ha : 0 ≤ a ∧ a < b) (hb : b < 1000) : Ct l yJ3_checkIndex_8e157 cJ3_checkIndex_8e157 3 (some .int) (rL 1) D tys O wld [.int (iZ a), .int (iZ b), v] u (pI fun r u2 => r = a ∧ u2 = u) := by
  refine ct_intro (own := RJ3) (by decide) rfl hO.1 (Nat.le_of_ble_eq_true rfl) (by intro w9 h9; simp at h9; rcases h9 with rfl | rfl | rfl <;> first | rfl | exact hv) (fun X J hJ => ?_)
  show J 0 [some (.int (iZ a)), some (.int (iZ b)), some (v)] [] u
  refine v_ild0 (pc := 0) hJ dJ3_checkIndex_8e157_0 ?_
  refine v_if_lt (tgt := 9) (pc := 1) hJ dJ3_checkIndex_8e157_1 (by decide) (by omega) (fun h1 => ?_) (fun h1 => ?_)
  · omega
  · refine v_ild0 (pc := 4) hJ dJ3_checkIndex_8e157_4 ?_
    refine v_ild1 (pc := 5) hJ dJ3_checkIndex_8e157_5 ?_
    refine v_icmp_lt (tgt := 16) (pc := 6) hJ dJ3_checkIndex_8e157_6 (by decide) (by omega) (by omega) (fun h6 => ?_) (fun h6 => ?_)
    · refine v_ild0 (pc := 16) hJ dJ3_checkIndex_8e157_16 ?_
      refine v_iret (pc := 17) hJ dJ3_checkIndex_8e157_17 ⟨_, rfl, ?_⟩
      exact ⟨rfl, rfl⟩
    · omega
set_option maxHeartbeats 4000000 in
set_option maxRecDepth 100000 in
theorem qJ0_checkIndex_df160 {σ : Type} {l : Launch} {D : va_G} {tys : List (ClassId × FieldType)} {O : OT} {wld : σ → va_W} {adK adV : Nat → Nat} (hO : OG O adK adV) {u : σ} {a b : Int} (ha : 0 ≤ a ∧ a < b) (hb : b < 1000) : Ct l yJ0_checkIndex_df160 cJ0_checkIndex_df160 2 none (rL 2) D tys O wld [.int (iZ a), .int (iZ b)] u (pV fun u2 => u2 = u) := by
  refine ct_intro (own := RJ0) (by decide) rfl hO.1 (Nat.le_of_ble_eq_true rfl) (by simp [Value.category]) (fun X J hJ => ?_)
  show J 0 [some (.int (iZ a)), some (.int (iZ b))] [] u
  refine v_ild0 (pc := 0) hJ dJ0_checkIndex_df160_0 ?_
  refine v_ild1 (pc := 1) hJ dJ0_checkIndex_df160_1 ?_
  refine v_getsq (pc := 2) hJ (fun A U H h => (hO.2 A U H h).2.2.2) kJ0_1053 dJ0_checkIndex_df160_2 (fun v9 hv9 => ?_)
  refine v_cS3i (pc := 5) hJ lkJ0_1059 (qJ3_checkIndex_8e157 hO hv9 ha hb) (Nat.le_of_ble_eq_true rfl) (rOk_L (by decide) (by decide)) dJ0_checkIndex_df160_5 (fun r5 u5 g5 => ?_)
  obtain ⟨rfl, rfl⟩ := g5
  refine v_pop (pc := 8) hJ dJ0_checkIndex_df160_8 rfl ?_
  refine v_vret (pc := 9) hJ dJ0_checkIndex_df160_9 ⟨rfl, ?_⟩
  rfl
set_option maxHeartbeats 4000000 in
set_option maxRecDepth 100000 in
theorem qJ0_coder_7d493 {σ : Type} {l : Launch} {D : va_G} {tys : List (ClassId × FieldType)} {O : OT} {wld : σ → va_W} {adK adV : Nat → Nat} (hO : OG O adK adV) {u : σ} {i : Nat} (hi : i < 15) : Ct l yJ0_coder_7d493 cJ0_coder_7d493 1 (some .byte) (rL 1) D tys O wld [.ref (adK i)] u (pI fun r u2 => r = 0 ∧ u2 = u) := by
  refine ct_intro (own := RJ0) (by decide) rfl hO.1 (Nat.le_of_ble_eq_true rfl) (by simp [Value.category]) (fun X J hJ => ?_)
  show J 0 [some (.ref (adK i))] [] u
  refine v_gets (pc := 0) (v := .int (iZ 1)) hJ (fun A U H h => (hO.2 A U H h).2.2.1) kJ0_38 dJ0_coder_7d493_0 ?_
  refine v_if_eq (tgt := 13) (pc := 3) hJ dJ0_coder_7d493_3 (by decide) (by decide) (fun h => by first | exact absurd h (by decide) | exact absurd (by decide) h) (fun _ => ?_)
  refine v_ald0 (pc := 6) hJ dJ0_coder_7d493_6 ?_
  refine v_strC (pc := 7) hJ hO hi kJ0_15 dJ0_coder_7d493_7 ?_
  refine v_goto (tgt := 14) (pc := 10) hJ dJ0_coder_7d493_10 (by decide) ?_
  refine v_zret (pc := 14) hJ rfl dJ0_coder_7d493_14 ⟨_, rfl, ?_⟩
  exact ⟨rfl, rfl⟩
set_option maxHeartbeats 4000000 in
set_option maxRecDepth 100000 in
theorem qJ0_isLatin1_aae02 {σ : Type} {l : Launch} {D : va_G} {tys : List (ClassId × FieldType)} {O : OT} {wld : σ → va_W} {adK adV : Nat → Nat} (hO : OG O adK adV) {u : σ} {i : Nat} (hi : i < 15) : Ct l yJ0_isLatin1_aae02 cJ0_isLatin1_aae02 1 (some .boolean) (rL 1) D tys O wld [.ref (adK i)] u (pI fun r u2 => r = 1 ∧ u2 = u) := by
  refine ct_intro (own := RJ0) (by decide) rfl hO.1 (Nat.le_of_ble_eq_true rfl) (by simp [Value.category]) (fun X J hJ => ?_)
  show J 0 [some (.ref (adK i))] [] u
  refine v_gets (pc := 0) (v := .int (iZ 1)) hJ (fun A U H h => (hO.2 A U H h).2.2.1) kJ0_38 dJ0_isLatin1_aae02_0 ?_
  refine v_if_eq (tgt := 17) (pc := 3) hJ dJ0_isLatin1_aae02_3 (by decide) (by decide) (fun h => by first | exact absurd h (by decide) | exact absurd (by decide) h) (fun _ => ?_)
  refine v_ald0 (pc := 6) hJ dJ0_isLatin1_aae02_6 ?_
  refine v_strC (pc := 7) hJ hO hi kJ0_15 dJ0_isLatin1_aae02_7 ?_
  refine v_if_ne (tgt := 17) (pc := 10) hJ dJ0_isLatin1_aae02_10 (by decide) (by decide) (fun h => by first | exact absurd h (by decide) | exact absurd (by decide) h) (fun _ => ?_)
  refine v_iconst (pc := 13) hJ dJ0_isLatin1_aae02_13 ?_
  refine v_goto (tgt := 18) (pc := 14) hJ dJ0_isLatin1_aae02_14 (by decide) ?_
  refine v_zret (pc := 18) hJ rfl dJ0_isLatin1_aae02_18 ⟨_, rfl, ?_⟩
  exact ⟨rfl, rfl⟩
set_option maxHeartbeats 4000000 in
set_option maxRecDepth 100000 in
theorem qJ0_length_8abf5 {σ : Type} {l : Launch} {D : va_G} {tys : List (ClassId × FieldType)} {O : OT} {wld : σ → va_W} {adK adV : Nat → Nat} (hO : OG O adK adV) {u : σ} {i : Nat} (hi : i < 15) : Ct l yJ0_length_8abf5 cJ0_length_8abf5 1 (some .int) (rL 2) D tys O wld [.ref (adK i)] u (pI fun r u2 => r = ((txS i).length : Int) ∧ u2 = u) := by
  refine ct_intro (own := RJ0) (by decide) rfl hO.1 (Nat.le_of_ble_eq_true rfl) (by simp [Value.category]) (fun X J hJ => ?_)
  show J 0 [some (.ref (adK i))] [] u
  refine v_ald0 (pc := 0) hJ dJ0_length_8abf5_0 ?_
  refine v_strV (pc := 1) hJ hO hi kJ0_9 dJ0_length_8abf5_1 ?_
  refine v_strL (pc := 4) hJ hO hi dJ0_length_8abf5_4 ?_
  refine v_ald0 (pc := 5) hJ dJ0_length_8abf5_5 ?_
  refine v_cT0i (pc := 6) hJ hO hi lkJ0_335 (qJ0_coder_7d493 hO hi) (Nat.le_of_ble_eq_true rfl) (rOk_L (by decide) (by decide)) dJ0_length_8abf5_6 (fun r6 u6 g6 => ?_)
  obtain ⟨rfl, rfl⟩ := g6
  refine v_ishr (pc := 9) hJ dJ0_length_8abf5_9 ?_
  refine v_iret (pc := 10) hJ dJ0_length_8abf5_10 ⟨_, rfl, ?_⟩
  exact ⟨by have := lenS_ok i hi; revert this; generalize (txS i).length = z; intro h; rcases (show z = 0 ∨ z = 1 ∨ z = 2 ∨ z = 3 ∨ z = 4 ∨ z = 5 ∨ z = 6 ∨ z = 7 by omega) with e | e | e | e | e | e | e | e <;> subst e <;> rfl, rfl⟩
theorem zch {c : Int} (h : 0 < c ∧ c < 128) : zi2c (zand c 255) = c ∧ narrow .char (.int (iZ c)) = .int (iZ c) := by
  have hh : ∀ n : Nat, n < 128 → zi2c (zand (n : Int) 255) = n ∧ narrow .char (.int (iZ (n : Int))) = .int (iZ (n : Int)) := by decide +kernel
  obtain ⟨n, rfl⟩ := Int.eq_ofNat_of_zero_le (show 0 ≤ c by omega)
  exact hh n (by omega)
set_option maxHeartbeats 4000000 in
set_option maxRecDepth 100000 in
theorem qJ1_charAt_3b067 {σ : Type} {l : Launch} {D : va_G} {tys : List (ClassId × FieldType)} {O : OT} {wld : σ → va_W} {adK adV : Nat → Nat} (hO : OG O adK adV) {u : σ} {i j : Nat} (hi : i < 15) (hj : j < (txS i).length) : Ct l yJ1_charAt_3b067 cJ1_charAt_3b067 2 (some .char) (rL 3) D tys O wld [.ref (adV i), .int (iZ (j : Int))] u (pI fun r u2 => r = (txS i).getD j 0 ∧ u2 = u) := by
  refine ct_intro (own := RJ1) (by decide) rfl hO.1 (Nat.le_of_ble_eq_true rfl) (by simp [Value.category]) (fun X J hJ => ?_)
  show J 0 [some (.ref (adV i)), some (.int (iZ (j : Int)))] [] u
  refine v_ild1 (pc := 0) hJ dJ1_charAt_3b067_0 ?_
  refine v_ald0 (pc := 1) hJ dJ1_charAt_3b067_1 ?_
  refine v_strL (pc := 2) hJ hO hi dJ1_charAt_3b067_2 ?_
  refine v_cS2v (pc := 3) hJ lkJ1_9 (qJ0_checkIndex_df160 hO (by omega) (by have := lenS_ok i hi; omega)) (Nat.le_of_ble_eq_true rfl) (rOk_L (by decide) (by decide)) dJ1_charAt_3b067_3 (fun u3 g3 => ?_)
  subst g3
  refine v_ald0 (pc := 6) hJ dJ1_charAt_3b067_6 ?_
  refine v_ild1 (pc := 7) hJ dJ1_charAt_3b067_7 ?_
  refine v_strB (pc := 8) hJ hO hi hj dJ1_charAt_3b067_8 ?_
  refine v_sipush (pc := 9) hJ dJ1_charAt_3b067_9 (by decide) ?_
  refine v_iand (pc := 12) hJ dJ1_charAt_3b067_12 ?_
  refine v_i2c (pc := 13) hJ dJ1_charAt_3b067_13 ?_
  rw [(zch (txS_in i hi j hj)).1]
  refine v_zret (pc := 14) hJ (zch (txS_in i hi j hj)).2 dJ1_charAt_3b067_14 ⟨_, rfl, ?_⟩
  exact ⟨rfl, rfl⟩
set_option maxHeartbeats 4000000 in
set_option maxRecDepth 100000 in
theorem qJ0_charAt_5068e {σ : Type} {l : Launch} {D : va_G} {tys : List (ClassId × FieldType)} {O : OT} {wld : σ → va_W} {adK adV : Nat → Nat} (hO : OG O adK adV) {u : σ} {i j : Nat} (hi : i < 15) (hj : j < (txS i).length) : Ct l yJ0_charAt_5068e cJ0_charAt_5068e 2 (some .char) (rL 4) D tys O wld [.ref (adK i), .int (iZ (j : Int))] u (pI fun r u2 => r = (txS i).getD j 0 ∧ u2 = u) := by
  refine ct_intro (own := RJ0) (by decide) rfl hO.1 (Nat.le_of_ble_eq_true rfl) (by simp [Value.category]) (fun X J hJ => ?_)
  show J 0 [some (.ref (adK i)), some (.int (iZ (j : Int)))] [] u
  refine v_ald0 (pc := 0) hJ dJ0_charAt_5068e_0 ?_
  refine v_cT0i (pc := 1) hJ hO hi lkJ0_492 (qJ0_isLatin1_aae02 hO hi) (Nat.le_of_ble_eq_true rfl) (rOk_L (by decide) (by decide)) dJ0_charAt_5068e_1 (fun r1 u1 g1 => ?_)
  obtain ⟨rfl, rfl⟩ := g1
  refine v_if_eq (tgt := 16) (pc := 4) hJ dJ0_charAt_5068e_4 (by decide) (by decide) (fun h => by first | exact absurd h (by decide) | exact absurd (by decide) h) (fun _ => ?_)
  refine v_ald0 (pc := 7) hJ dJ0_charAt_5068e_7 ?_
  refine v_strV (pc := 8) hJ hO hi kJ0_9 dJ0_charAt_5068e_8 ?_
  refine v_ild1 (pc := 11) hJ dJ0_charAt_5068e_11 ?_
  refine v_cS2i (pc := 12) hJ lkJ0_495 (qJ1_charAt_3b067 hO hi hj) (Nat.le_of_ble_eq_true rfl) (rOk_L (by decide) (by decide)) dJ0_charAt_5068e_12 (fun r12 u12 g12 => ?_)
  obtain ⟨rfl, rfl⟩ := g12
  refine v_zret (pc := 15) hJ (zch (txS_in i hi j hj)).2 dJ0_charAt_5068e_15 ⟨_, rfl, ?_⟩
  exact ⟨rfl, rfl⟩
