/-- what holds of the class's chords -/
abbrev cokC (I : Nat → Int) (A : Nat → Int → Int) : Prop := (0 ≤ I 43 ∧ I 43 ≤ 60) ∧ ∀ j : Int, 0 ≤ j → j < I 43 → (-15 ≤ A 44 j ∧ A 44 j ≤ 19) ∧ (0 ≤ A 45 j ∧ A 45 j ≤ 13) ∧ (-15 ≤ A 46 j ∧ A 46 j ≤ 19)
/-- what holds of the items of a song in the class -/
abbrev cokI (I : Nat → Int) (A : Nat → Int → Int) : Prop := (0 ≤ I 41 ∧ I 41 ≤ 1200) ∧ ∀ j : Int, 0 ≤ j → j < I 41 → A 40 j = 10 ∨ (32 ≤ A 40 j ∧ A 40 j ≤ 126) ∨ (256 ≤ A 40 j ∧ A 40 j < 256 + I 43)
/-- an item of the class as one of the reference -/
def uI (x : Int) : Int := if 256 ≤ x then 255 - x else x
def sU (A : Nat → Int → Int) (j : Int) : Int := uI (A 40 j)
def ctsA (A : Nat → Int → Int) (i : Int) : Int := tsF (A 44 i) (A 45 i) (A 46 i)
def cnmA (A : Nat → Int → Int) (i : Int) : List Int := nameL (A 44 i) (A 45 i) (A 46 i)
set_option maxHeartbeats 4000000 in
set_option maxRecDepth 100000 in
theorem qX5_putName {l : Launch} {D : va_G} {cI : ClassId} {O : OT} {adK adV : Nat → Nat} {tT : Nat} (hO : OGC O adK adV tT) {ad : Nat → Nat} {I : Nat → Int} {A : Nat → Int → Int} {i : Int} {xs : List Int} (hC : cokC I A) (hi : 0 ≤ i ∧ i < I 43) (hx : hasO (A 80) (I 81) xs) (hx2 : xs.length ≤ 300000) : CC l D cI O yX5_putName cX5_putName 5 none 7 [.ref (ad 99), .ref (ad 59), .int (iZ i)] (ad, I, A) (pV fun u2 => outP ad I A (xs ++ cnmA A i) u2) := by
  refine ct_intro (own := RX5) (by decide) rfl hO.1.1 (Nat.le_of_ble_eq_true rfl) (by simp [Value.category]) (fun X J hJ => ?_)
  obtain ⟨⟨c1, c2⟩, c3⟩ := id hC
  obtain ⟨k1, k2, k3⟩ := c3 i hi.1 hi.2
  obtain ⟨kk, hkk⟩ : ∃ kk : Nat, (kk : Int) = A 45 i := ⟨(A 45 i).toNat, by omega⟩
  have hkk2 : (A 45 i).toNat = kk := by omega
  have hl4 := txS_4 kk (by omega)
  have hnl := noteL_len k1
  have lp : ∀ (fu : Nat) (k : Nat) (n : Int) (F : Int → Int), (k ≤ (txS kk).length) → (hasO F n (xs ++ noteL (A 44 i) ++ (txS kk).take k)) → (5 - (k : Int)) < (fu : Int) → J 23 [some (.ref (ad 99)), some (.ref (ad 59)), some (.int (iZ i)), some (.ref (adK kk)), some (.int (iZ (k : Int)))] [] (ad, va_up I 81 n, va_up A 80 F) := by
    intro fu
    induction fu with
    | zero => intro k  n  F hk hF hmu; exfalso; omega
    | succ fu ih =>
      intro k  n  F hk hF hmu
      refine v_ild4 (pc := 23) hJ dX5_putName_23 ?_
      refine v_ald3 (pc := 25) hJ dX5_putName_25 ?_
      refine v_cT0i (pc := 26) hJ hO.1 (by omega) lkX5_46 (qJ0_length_8abf5 hO.1 (by omega)) (Nat.le_of_ble_eq_true rfl) (rOk_L (by decide) (by decide)) dX5_putName_26 (fun r26 u26 g26 => ?_)
      obtain ⟨rfl, rfl⟩ := g26
      try simp only [up_s, up_n, up_up, ne_eq, Nat.reduceEqDiff, not_false_eq_true]
      refine v_icmp_ge (tgt := 48) (pc := 29) hJ dX5_putName_29 (by decide) (by omega) (by omega) (fun h29 => ?_) (fun h29 => ?_)
      · refine v_ald1 (pc := 48) hJ dX5_putName_48 ?_
        refine cgX5_55a (pc := 49) hJ dX5_putName_49 ?_
        refine v_ild2 (pc := 52) hJ dX5_putName_52 ?_
        refine ca46 (pc := 53) hJ (by omega) (by omega) dX5_putName_53 ?_
        try simp only [up_s, up_n, up_up, ne_eq, Nat.reduceEqDiff, not_false_eq_true]
        refine v_ald1 (pc := 54) hJ dX5_putName_54 ?_
        refine cgX5_29a (pc := 55) hJ dX5_putName_55 ?_
        refine v_ild2 (pc := 58) hJ dX5_putName_58 ?_
        refine ca44 (pc := 59) hJ (by omega) (by omega) dX5_putName_59 ?_
        try simp only [up_s, up_n, up_up, ne_eq, Nat.reduceEqDiff, not_false_eq_true]
        refine v_icmp_eq (tgt := 79) (pc := 60) hJ dX5_putName_60 (by decide) (by omega) (by omega) (fun h60 => ?_) (fun h60 => ?_)
        · refine v_vret (pc := 79) hJ dX5_putName_79 ⟨rfl, ?_⟩
          refine ⟨n, F, ?_, rfl⟩
          unfold cnmA nameL
          rw [if_pos (by omega), hkk2, List.append_nil]
          rw [List.take_of_length_le (by omega), List.append_assoc] at hF
          exact hF
        · refine v_ald0 (pc := 63) hJ dX5_putName_63 ?_
          refine v_bipush (pc := 64) hJ dX5_putName_64 (by decide) ?_
          refine v_cV1v (pc := 66) (q0 := 15) (ci := 2) hJ rfl rfl lkX5_25 (qX5_put hO (by have := hF.1; simp only [List.length_append, List.length_take] at this; simp only [up_s, up_n, up_up, ne_eq, Nat.reduceEqDiff, not_false_eq_true]; omega)) (Nat.le_of_ble_eq_true rfl) (rOk_L (by decide) (by decide)) dX5_putName_66 (fun u66 g66 => ?_)
          subst g66
          simp only [up_s, up_n, up_up, ne_eq, Nat.reduceEqDiff, not_false_eq_true]
          try simp only [up_s, up_n, up_up, ne_eq, Nat.reduceEqDiff, not_false_eq_true]
          refine v_ald0 (pc := 69) hJ dX5_putName_69 ?_
          refine v_ald1 (pc := 70) hJ dX5_putName_70 ?_
          refine cgX5_55a (pc := 71) hJ dX5_putName_71 ?_
          refine v_ild2 (pc := 74) hJ dX5_putName_74 ?_
          refine ca46 (pc := 75) hJ (by omega) (by omega) dX5_putName_75 ?_
          try simp only [up_s, up_n, up_up, ne_eq, Nat.reduceEqDiff, not_false_eq_true]
          refine v_cV1v (pc := 76) (q0 := 15) (ci := 2) hJ rfl rfl lkX5_34 (qX5_putNote hO (xs := xs ++ noteL (A 44 i) ++ txS kk ++ [47]) k3 (by simp only [up_s, up_n, up_up, ne_eq, Nat.reduceEqDiff, not_false_eq_true]; rw [List.take_of_length_le (by omega)] at hF; exact hasO_add hF) (by simp only [List.length_append, List.length_cons, List.length_nil]; omega)) (Nat.le_of_ble_eq_true rfl) (rOk_L (by decide) (by decide)) dX5_putName_76 (fun u76 g76 => ?_)
          obtain ⟨n2, F2, hF2, rfl⟩ := g76
          try simp only [up_s, up_n, up_up, ne_eq, Nat.reduceEqDiff, not_false_eq_true]
          try simp only [up_s, up_n, up_up, ne_eq, Nat.reduceEqDiff, not_false_eq_true]
          refine v_vret (pc := 79) hJ dX5_putName_79 ⟨rfl, ?_⟩
          refine ⟨n2, F2, ?_, rfl⟩
          unfold cnmA nameL
          rw [if_neg (by omega), hkk2]
          simpa using hF2
      · refine v_ald0 (pc := 32) hJ dX5_putName_32 ?_
        refine v_ald3 (pc := 33) hJ dX5_putName_33 ?_
        refine v_ild4 (pc := 34) hJ dX5_putName_34 ?_
        refine v_cT1i (pc := 36) hJ hO.1 (by omega) lkX5_51 (qJ0_charAt_5068e hO.1 (by omega) (by omega)) (Nat.le_of_ble_eq_true rfl) (rOk_L (by decide) (by decide)) dX5_putName_36 (fun r36 u36 g36 => ?_)
        obtain ⟨rfl, rfl⟩ := g36
        try simp only [up_s, up_n, up_up, ne_eq, Nat.reduceEqDiff, not_false_eq_true]
        refine v_cV1v (pc := 39) (q0 := 15) (ci := 2) hJ rfl rfl lkX5_25 (qX5_put hO (by have := hF.1; simp only [List.length_append, List.length_take] at this; simp only [up_s, up_n, up_up, ne_eq, Nat.reduceEqDiff, not_false_eq_true]; omega)) (Nat.le_of_ble_eq_true rfl) (rOk_L (by decide) (by decide)) dX5_putName_39 (fun u39 g39 => ?_)
        subst g39
        simp only [up_s, up_n, up_up, ne_eq, Nat.reduceEqDiff, not_false_eq_true]
        try simp only [up_s, up_n, up_up, ne_eq, Nat.reduceEqDiff, not_false_eq_true]
        refine v_inc4 (pc := 42) hJ dX5_putName_42 (by decide) ?_
        refine v_goto (tgt := 23) (pc := 45) hJ dX5_putName_45 (by decide) ?_
        exact ih (k + 1) _ _ (by omega) (by rw [take_add (by omega), ← List.append_assoc]; exact hasO_add hF) (by omega)
  show J 0 [some (.ref (ad 99)), some (.ref (ad 59)), some (.int (iZ i)), none, none] [] (ad, I, A)
  refine v_ald0 (pc := 0) hJ dX5_putName_0 ?_
  refine v_ald1 (pc := 1) hJ dX5_putName_1 ?_
  refine cgX5_29a (pc := 2) hJ dX5_putName_2 ?_
  refine v_ild2 (pc := 5) hJ dX5_putName_5 ?_
  refine ca44 (pc := 6) hJ (by omega) (by omega) dX5_putName_6 ?_
  refine v_cV1v (pc := 7) (q0 := 15) (ci := 2) hJ rfl rfl lkX5_34 (qX5_putNote hO k1 hx (by omega)) (Nat.le_of_ble_eq_true rfl) (rOk_L (by decide) (by decide)) dX5_putName_7 (fun u7 g7 => ?_)
  obtain ⟨n7, F7, hF7, rfl⟩ := g7
  refine v_ald1 (pc := 10) hJ dX5_putName_10 ?_
  refine cgX5_37a (pc := 11) hJ dX5_putName_11 ?_
  refine v_ild2 (pc := 14) hJ dX5_putName_14 ?_
  refine ca45 (pc := 15) hJ (by omega) (by omega) dX5_putName_15 ?_
  try simp only [up_s, up_n, up_up, ne_eq, Nat.reduceEqDiff, not_false_eq_true]
  try simp only [up_s, up_n, up_up, ne_eq, Nat.reduceEqDiff, not_false_eq_true]
  rw [← hkk]
  refine v_cS1r (pc := 16) hJ lkX5_40 (qX3_textOf hO (by omega)) (Nat.le_of_ble_eq_true rfl) (rOk_L (by decide) (by decide)) dX5_putName_16 (fun r16 u16 g16 => ?_)
  obtain ⟨rfl, rfl⟩ := g16
  try simp only [up_s, up_n, up_up, ne_eq, Nat.reduceEqDiff, not_false_eq_true]
  refine v_ast3 (pc := 19) hJ dX5_putName_19 (by decide) ?_
  refine v_iconst (pc := 20) hJ dX5_putName_20 ?_
  refine v_ist4 (pc := 21) hJ dX5_putName_21 (by decide) ?_
  exact lp 6 0 n7 F7 (by omega) (by simpa using hF7) (by omega)
set_option maxHeartbeats 4000000 in
set_option maxRecDepth 100000 in
theorem qX8_startAnew {l : Launch} {D : va_G} {cI : ClassId} {O : OT} {adK adV : Nat → Nat} {tT : Nat} (hO : OGC O adK adV tT) {ad : Nat → Nat} {I : Nat → Int} {A : Nat → Int → Int}   : CC l D cI O yX8_startAnew cX8_startAnew 1 none 1 [.ref (ad 79)] (ad, I, A) (pV fun u2 => u2 = (ad, va_up (va_up (va_up I 61 0) 62 1) 63 0, A)) := by
  refine ct_intro (own := RX8) (by decide) rfl hO.1.1 (Nat.le_of_ble_eq_true rfl) (by simp [Value.category]) (fun X J hJ => ?_)
  show J 0 [some (.ref (ad 79))] [] (ad, I, A)
  refine v_ald0 (pc := 0) hJ dX8_startAnew_0 ?_
  refine v_iconst (pc := 1) hJ dX8_startAnew_1 ?_
  refine cpX8_27b (pc := 2) hJ dX8_startAnew_2 ?_
  refine v_ald0 (pc := 5) hJ dX8_startAnew_5 ?_
  refine v_iconst (pc := 6) hJ dX8_startAnew_6 ?_
  refine cpX8_31b (pc := 7) hJ dX8_startAnew_7 ?_
  refine v_ald0 (pc := 10) hJ dX8_startAnew_10 ?_
  refine v_iconst (pc := 11) hJ dX8_startAnew_11 ?_
  refine cpX8_34b (pc := 12) hJ dX8_startAnew_12 ?_
  refine v_vret (pc := 15) hJ dX8_startAnew_15 ⟨rfl, ?_⟩
  rfl
set_option maxHeartbeats 4000000 in
set_option maxRecDepth 100000 in
theorem qX8_addItem {l : Launch} {D : va_G} {cI : ClassId} {O : OT} {adK adV : Nat → Nat} {tT : Nat} (hO : OGC O adK adV tT) {ad : Nat → Nat} {I : Nat → Int} {A : Nat → Int → Int} {x : Int} (h : 0 ≤ I 61 ∧ I 61 < 1200) : CC l D cI O yX8_addItem cX8_addItem 2 none 1 [.ref (ad 79), .int (iZ x)] (ad, I, A) (pV fun u2 => u2 = (ad, va_up I 61 (I 61 + 1), va_up A 60 (zu (A 60) (I 61) x))) := by
  refine ct_intro (own := RX8) (by decide) rfl hO.1.1 (Nat.le_of_ble_eq_true rfl) (by simp [Value.category]) (fun X J hJ => ?_)
  show J 0 [some (.ref (ad 79)), some (.int (iZ x))] [] (ad, I, A)
  refine v_ald0 (pc := 0) hJ dX8_addItem_0 ?_
  refine cgX8_27b (pc := 1) hJ dX8_addItem_1 ?_
  refine v_sipush (pc := 4) hJ dX8_addItem_4 (by decide) ?_
  refine v_icmp_ge (tgt := 30) (pc := 7) hJ dX8_addItem_7 (by decide) (by omega) (by omega) (fun h7 => ?_) (fun h7 => ?_)
  · exfalso; omega
  · refine v_ald0 (pc := 10) hJ dX8_addItem_10 ?_
    refine cgX8_9b (pc := 11) hJ dX8_addItem_11 ?_
    refine v_ald0 (pc := 14) hJ dX8_addItem_14 ?_
    refine cgX8_27b (pc := 15) hJ dX8_addItem_15 ?_
    refine v_ild1 (pc := 18) hJ dX8_addItem_18 ?_
    refine cs60 (pc := 19) hJ (by omega) (by omega) dX8_addItem_19 ?_
    refine v_ald0 (pc := 20) hJ dX8_addItem_20 ?_
    refine v_dup (pc := 21) hJ dX8_addItem_21 rfl ?_
    refine cgX8_27b (pc := 22) hJ dX8_addItem_22 ?_
    try simp only [up_s, up_n, up_up, ne_eq, Nat.reduceEqDiff, not_false_eq_true]
    refine v_iconst (pc := 25) hJ dX8_addItem_25 ?_
    refine v_iadd (pc := 26) hJ dX8_addItem_26 ?_
    refine cpX8_27b (pc := 27) hJ dX8_addItem_27 ?_
    refine v_vret (pc := 30) hJ dX8_addItem_30 ⟨rfl, ?_⟩
    rfl
set_option maxHeartbeats 4000000 in
set_option maxRecDepth 100000 in
theorem qX8_addLineEnd {l : Launch} {D : va_G} {cI : ClassId} {O : OT} {adK adV : Nat → Nat} {tT : Nat} (hO : OGC O adK adV tT) {ad : Nat → Nat} {I : Nat → Int} {A : Nat → Int → Int}  (h : 0 ≤ I 61 ∧ I 61 < 1200) : CC l D cI O yX8_addLineEnd cX8_addLineEnd 1 none 2 [.ref (ad 79)] (ad, I, A) (pV fun u2 => u2 = (ad, va_up (va_up I 61 (I 61 + 1)) 62 (I 62 + 1), va_up A 60 (zu (A 60) (I 61) 10))) := by
  refine ct_intro (own := RX8) (by decide) rfl hO.1.1 (Nat.le_of_ble_eq_true rfl) (by simp [Value.category]) (fun X J hJ => ?_)
  show J 0 [some (.ref (ad 79))] [] (ad, I, A)
  refine v_ald0 (pc := 0) hJ dX8_addLineEnd_0 ?_
  refine v_bipush (pc := 1) hJ dX8_addLineEnd_1 (by decide) ?_
  refine v_cV1v (pc := 3) (q0 := 9) (ci := 5) hJ rfl rfl lkX8_37 (qX8_addItem hO h) (Nat.le_of_ble_eq_true rfl) (rOk_L (by decide) (by decide)) dX8_addLineEnd_3 (fun u3 g3 => ?_)
  subst g3
  refine v_ald0 (pc := 6) hJ dX8_addLineEnd_6 ?_
  refine v_dup (pc := 7) hJ dX8_addLineEnd_7 rfl ?_
  refine cgX8_31b (pc := 8) hJ dX8_addLineEnd_8 ?_
  try simp only [up_s, up_n, up_up, ne_eq, Nat.reduceEqDiff, not_false_eq_true]
  refine v_iconst (pc := 11) hJ dX8_addLineEnd_11 ?_
  refine v_iadd (pc := 12) hJ dX8_addLineEnd_12 ?_
  refine cpX8_31b (pc := 13) hJ dX8_addLineEnd_13 ?_
  refine v_vret (pc := 16) hJ dX8_addLineEnd_16 ⟨rfl, ?_⟩
  rfl
set_option maxHeartbeats 4000000 in
set_option maxRecDepth 100000 in
theorem qX8_addChord {l : Launch} {D : va_G} {cI : ClassId} {O : OT} {adK adV : Nat → Nat} {tT : Nat} (hO : OGC O adK adV tT) {ad : Nat → Nat} {I : Nat → Int} {A : Nat → Int → Int} {r k b : Int} (h : 0 ≤ I 61 ∧ I 61 < 1200) (h2 : 0 ≤ I 63 ∧ I 63 < 60) : CC l D cI O yX8_addChord cX8_addChord 4 none 2 [.ref (ad 79), .int (iZ r), .int (iZ k), .int (iZ b)] (ad, I, A) (pV fun u2 => u2 = (ad, va_up (va_up I 61 (I 61 + 1)) 63 (I 63 + 1), va_up (va_up (va_up (va_up (va_up A 64 (zu (A 64) (I 63) r)) 65 (zu (A 65) (I 63) k)) 66 (zu (A 66) (I 63) b)) 67 (zu (A 67) (I 63) (I 62 - 1))) 60 (zu (A 60) (I 61) (256 + I 63)))) := by
  refine ct_intro (own := RX8) (by decide) rfl hO.1.1 (Nat.le_of_ble_eq_true rfl) (by simp [Value.category]) (fun X J hJ => ?_)
  show J 0 [some (.ref (ad 79)), some (.int (iZ r)), some (.int (iZ k)), some (.int (iZ b))] [] (ad, I, A)
  refine v_ald0 (pc := 0) hJ dX8_addChord_0 ?_
  refine cgX8_34b (pc := 1) hJ dX8_addChord_1 ?_
  refine v_bipush (pc := 4) hJ dX8_addChord_4 (by decide) ?_
  refine v_icmp_ge (tgt := 76) (pc := 6) hJ dX8_addChord_6 (by decide) (by omega) (by omega) (fun h6 => ?_) (fun h6 => ?_)
  · exfalso; omega
  · refine v_ald0 (pc := 9) hJ dX8_addChord_9 ?_
    refine cgX8_15b (pc := 10) hJ dX8_addChord_10 ?_
    refine v_ald0 (pc := 13) hJ dX8_addChord_13 ?_
    refine cgX8_34b (pc := 14) hJ dX8_addChord_14 ?_
    refine v_ild1 (pc := 17) hJ dX8_addChord_17 ?_
    refine cs64 (pc := 18) hJ (by omega) (by omega) dX8_addChord_18 ?_
    refine v_ald0 (pc := 19) hJ dX8_addChord_19 ?_
    refine cgX8_18b (pc := 20) hJ dX8_addChord_20 ?_
    refine v_ald0 (pc := 23) hJ dX8_addChord_23 ?_
    refine cgX8_34b (pc := 24) hJ dX8_addChord_24 ?_
    try simp only [up_s, up_n, up_up, ne_eq, Nat.reduceEqDiff, not_false_eq_true]
    refine v_ild2 (pc := 27) hJ dX8_addChord_27 ?_
    refine cs65 (pc := 28) hJ (by omega) (by omega) dX8_addChord_28 ?_
    refine v_ald0 (pc := 29) hJ dX8_addChord_29 ?_
    refine cgX8_21b (pc := 30) hJ dX8_addChord_30 ?_
    refine v_ald0 (pc := 33) hJ dX8_addChord_33 ?_
    refine cgX8_34b (pc := 34) hJ dX8_addChord_34 ?_
    try simp only [up_s, up_n, up_up, ne_eq, Nat.reduceEqDiff, not_false_eq_true]
    refine v_ild3 (pc := 37) hJ dX8_addChord_37 ?_
    refine cs66 (pc := 38) hJ (by omega) (by omega) dX8_addChord_38 ?_
    refine v_ald0 (pc := 39) hJ dX8_addChord_39 ?_
    refine cgX8_24b (pc := 40) hJ dX8_addChord_40 ?_
    refine v_ald0 (pc := 43) hJ dX8_addChord_43 ?_
    refine cgX8_34b (pc := 44) hJ dX8_addChord_44 ?_
    try simp only [up_s, up_n, up_up, ne_eq, Nat.reduceEqDiff, not_false_eq_true]
    refine v_ald0 (pc := 47) hJ dX8_addChord_47 ?_
    refine cgX8_31b (pc := 48) hJ dX8_addChord_48 ?_
    try simp only [up_s, up_n, up_up, ne_eq, Nat.reduceEqDiff, not_false_eq_true]
    refine v_iconst (pc := 51) hJ dX8_addChord_51 ?_
    refine v_isub (pc := 52) hJ dX8_addChord_52 ?_
    refine cs67 (pc := 53) hJ (by omega) (by omega) dX8_addChord_53 ?_
    refine v_ald0 (pc := 54) hJ dX8_addChord_54 ?_
    refine v_sipush (pc := 55) hJ dX8_addChord_55 (by decide) ?_
    refine v_ald0 (pc := 58) hJ dX8_addChord_58 ?_
    refine cgX8_34b (pc := 59) hJ dX8_addChord_59 ?_
    try simp only [up_s, up_n, up_up, ne_eq, Nat.reduceEqDiff, not_false_eq_true]
    refine v_iadd (pc := 62) hJ dX8_addChord_62 ?_
    refine v_cV1v (pc := 63) (q0 := 9) (ci := 5) hJ rfl rfl lkX8_37 (qX8_addItem hO h) (Nat.le_of_ble_eq_true rfl) (rOk_L (by decide) (by decide)) dX8_addChord_63 (fun u63 g63 => ?_)
    subst g63
    try simp only [up_s, up_n, up_up, ne_eq, Nat.reduceEqDiff, not_false_eq_true]
    refine v_ald0 (pc := 66) hJ dX8_addChord_66 ?_
    refine v_dup (pc := 67) hJ dX8_addChord_67 rfl ?_
    refine cgX8_34b (pc := 68) hJ dX8_addChord_68 ?_
    try simp only [up_s, up_n, up_up, ne_eq, Nat.reduceEqDiff, not_false_eq_true]
    refine v_iconst (pc := 71) hJ dX8_addChord_71 ?_
    refine v_iadd (pc := 72) hJ dX8_addChord_72 ?_
    refine cpX8_34b (pc := 73) hJ dX8_addChord_73 ?_
    refine v_vret (pc := 76) hJ dX8_addChord_76 ⟨rfl, ?_⟩
    rfl
set_option maxHeartbeats 4000000 in
set_option maxRecDepth 100000 in
theorem qX8_hasChord {l : Launch} {D : va_G} {cI : ClassId} {O : OT} {adK adV : Nat → Nat} {tT : Nat} (hO : OGC O adK adV tT) {ad : Nat → Nat} {I : Nat → Int} {A : Nat → Int → Int} {i : Int} (hi : inR i) (h43 : inR (I 43)) : CC l D cI O yX8_hasChord cX8_hasChord 2 (some .boolean) 1 [.ref (ad 59), .int (iZ i)] (ad, I, A) (pI fun r u2 => (r = 0 ∨ r = 1) ∧ (r = 1 ↔ 0 ≤ i ∧ i < I 43) ∧ u2 = (ad, I, A)) := by
  refine ct_intro (own := RX8) (by decide) rfl hO.1.1 (Nat.le_of_ble_eq_true rfl) (by simp [Value.category]) (fun X J hJ => ?_)
  show J 0 [some (.ref (ad 59)), some (.int (iZ i))] [] (ad, I, A)
  refine v_ild1 (pc := 0) hJ dX8_hasChord_0 ?_
  refine v_if_lt (tgt := 16) (pc := 1) hJ dX8_hasChord_1 (by decide) (by omega) (fun h1 => ?_) (fun h1 => ?_)
  · refine v_iconst (pc := 16) hJ dX8_hasChord_16 ?_
    refine v_zret (pc := 17) hJ rfl dX8_hasChord_17 ⟨_, rfl, ?_⟩
    exact ⟨by omega, by omega, rfl⟩
  · refine v_ild1 (pc := 4) hJ dX8_hasChord_4 ?_
    refine v_ald0 (pc := 5) hJ dX8_hasChord_5 ?_
    refine cgX8_34a (pc := 6) hJ dX8_hasChord_6 ?_
    refine v_icmp_ge (tgt := 16) (pc := 9) hJ dX8_hasChord_9 (by decide) (by omega) (by omega) (fun h9 => ?_) (fun h9 => ?_)
    · refine v_iconst (pc := 16) hJ dX8_hasChord_16 ?_
      refine v_zret (pc := 17) hJ rfl dX8_hasChord_17 ⟨_, rfl, ?_⟩
      exact ⟨by omega, by omega, rfl⟩
    · refine v_iconst (pc := 12) hJ dX8_hasChord_12 ?_
      refine v_goto (tgt := 17) (pc := 13) hJ dX8_hasChord_13 (by decide) ?_
      refine v_zret (pc := 17) hJ rfl dX8_hasChord_17 ⟨_, rfl, ?_⟩
      exact ⟨by omega, by omega, rfl⟩
set_option maxHeartbeats 4000000 in
set_option maxRecDepth 100000 in
theorem qX8_tonesOf {l : Launch} {D : va_G} {cI : ClassId} {O : OT} {adK adV : Nat → Nat} {tT : Nat} (hO : OGC O adK adV tT) {ad : Nat → Nat} {I : Nat → Int} {A : Nat → Int → Int} {i : Int} (hC : cokC I A) (hi : 0 ≤ i ∧ i < I 43) : CC l D cI O yX8_tonesOf cX8_tonesOf 3 (some .int) 3 [.ref (ad 59), .int (iZ i)] (ad, I, A) (pI fun r u2 => r = ctsA A i ∧ u2 = (ad, I, A)) := by
  refine ct_intro (own := RX8) (by decide) rfl hO.1.1 (Nat.le_of_ble_eq_true rfl) (by simp [Value.category]) (fun X J hJ => ?_)
  show J 0 [some (.ref (ad 59)), some (.int (iZ i)), none] [] (ad, I, A)
  obtain ⟨⟨c1, c2⟩, c3⟩ := id hC
  obtain ⟨k1, k2, k3⟩ := c3 i hi.1 hi.2
  refine v_ald0 (pc := 0) hJ dX8_tonesOf_0 ?_
  refine cgX8_15a (pc := 1) hJ dX8_tonesOf_1 ?_
  refine v_ild1 (pc := 4) hJ dX8_tonesOf_4 ?_
  refine ca44 (pc := 5) hJ (by omega) (by omega) dX8_tonesOf_5 ?_
  refine v_cS1i (pc := 6) hJ lkX8_41 (qX4_toneOf hO (by omega)) (Nat.le_of_ble_eq_true rfl) (rOk_L (by decide) (by decide)) dX8_tonesOf_6 (fun r6 u6 g6 => ?_)
  obtain ⟨rfl, rfl⟩ := g6
  refine v_ald0 (pc := 9) hJ dX8_tonesOf_9 ?_
  refine cgX8_18a (pc := 10) hJ dX8_tonesOf_10 ?_
  refine v_ild1 (pc := 13) hJ dX8_tonesOf_13 ?_
  refine ca45 (pc := 14) hJ (by omega) (by omega) dX8_tonesOf_14 ?_
  try simp only [up_s, up_n, up_up, ne_eq, Nat.reduceEqDiff, not_false_eq_true]
  refine v_cS2i (pc := 15) hJ lkX8_47 (qX3_tonesAbove hO (by omega)) (Nat.le_of_ble_eq_true rfl) (rOk_L (by decide) (by decide)) dX8_tonesOf_15 (fun r15 u15 g15 => ?_)
  obtain ⟨rfl, rfl⟩ := g15
  try simp only [up_s, up_n, up_up, ne_eq, Nat.reduceEqDiff, not_false_eq_true]
  refine v_ist2 (pc := 18) hJ dX8_tonesOf_18 (by decide) ?_
  refine v_ild2 (pc := 19) hJ dX8_tonesOf_19 ?_
  refine v_iconst (pc := 20) hJ dX8_tonesOf_20 ?_
  refine v_ald0 (pc := 21) hJ dX8_tonesOf_21 ?_
  refine cgX8_21a (pc := 22) hJ dX8_tonesOf_22 ?_
  refine v_ild1 (pc := 25) hJ dX8_tonesOf_25 ?_
  refine ca46 (pc := 26) hJ (by omega) (by omega) dX8_tonesOf_26 ?_
  try simp only [up_s, up_n, up_up, ne_eq, Nat.reduceEqDiff, not_false_eq_true]
  refine v_cS1i (pc := 27) hJ lkX8_41 (qX4_toneOf hO (by omega)) (Nat.le_of_ble_eq_true rfl) (rOk_L (by decide) (by decide)) dX8_tonesOf_27 (fun r27 u27 g27 => ?_)
  obtain ⟨rfl, rfl⟩ := g27
  try simp only [up_s, up_n, up_up, ne_eq, Nat.reduceEqDiff, not_false_eq_true]
  refine v_ishl (pc := 30) hJ dX8_tonesOf_30 ?_
  refine v_ior (pc := 31) hJ dX8_tonesOf_31 ?_
  refine v_iret (pc := 32) hJ dX8_tonesOf_32 ⟨_, rfl, ?_⟩
  exact ⟨taF_ok k2, rfl⟩
/-- those of a chord's tones that a hand can't do without -/
def ndF (r t : Int) : Int := if cntN t 12 < 4 then t else zand t (zxor (zshl 1 ((tn r + 7).tmod 12)) (-1))
theorem tsF_in0 : ∀ r : Nat, r < 12 → ∀ k : Nat, k < 14 → ∀ b : Nat, b < 12 → 0 ≤ tsN r k (zshl 1 b) 12 ∧ tsN r k (zshl 1 b) 12 < 4096 := by decide +kernel
theorem tsF_in {r k b : Int} (hk : 0 ≤ k ∧ k ≤ 13) : 0 ≤ tsF r k b ∧ tsF r k b < 4096 := by
  have h1 := tn_lt r
  have h2 := tn_lt b
  have h := tsF_in0 (tn r).toNat (by omega) k.toNat (by omega) (tn b).toNat (by omega)
  rw [show (((tn r).toNat : Nat) : Int) = tn r by omega, show ((k.toNat : Nat) : Int) = k by omega, show (((tn b).toNat : Nat) : Int) = tn b by omega] at h
  exact h
set_option maxHeartbeats 4000000 in
set_option maxRecDepth 100000 in
theorem qX8_neededOf {l : Launch} {D : va_G} {cI : ClassId} {O : OT} {adK adV : Nat → Nat} {tT : Nat} (hO : OGC O adK adV tT) {ad : Nat → Nat} {I : Nat → Int} {A : Nat → Int → Int} {i t : Int} (hC : cokC I A) (hi : 0 ≤ i ∧ i < I 43) (ht : 0 ≤ t ∧ t < 4096) : CC l D cI O yX8_neededOf cX8_neededOf 4 (some .int) 3 [.ref (ad 59), .int (iZ i), .int (iZ t)] (ad, I, A) (pI fun r u2 => r = ndF (A 44 i) t ∧ u2 = (ad, I, A)) := by
  refine ct_intro (own := RX8) (by decide) rfl hO.1.1 (Nat.le_of_ble_eq_true rfl) (by simp [Value.category]) (fun X J hJ => ?_)
  show J 0 [some (.ref (ad 59)), some (.int (iZ i)), some (.int (iZ t)), none] [] (ad, I, A)
  obtain ⟨⟨c1, c2⟩, c3⟩ := id hC
  obtain ⟨k1, k2, k3⟩ := c3 i hi.1 hi.2
  have hcn := cntN_in t 12
  have htn := tn_lt (A 44 i)
  refine v_ild2 (pc := 0) hJ dX8_neededOf_0 ?_
  refine v_cS1i (pc := 1) hJ lkX8_53 (qJ6_bitCount_0f7a4 hO.1.1 ht) (Nat.le_of_ble_eq_true rfl) (rOk_L (by decide) (by decide)) dX8_neededOf_1 (fun r1 u1 g1 => ?_)
  obtain ⟨rfl, rfl⟩ := g1
  refine v_iconst (pc := 4) hJ dX8_neededOf_4 ?_
  refine v_icmp_ge (tgt := 10) (pc := 5) hJ dX8_neededOf_5 (by decide) (by omega) (by omega) (fun h5 => ?_) (fun h5 => ?_)
  · refine v_ald0 (pc := 10) hJ dX8_neededOf_10 ?_
    refine cgX8_15a (pc := 11) hJ dX8_neededOf_11 ?_
    refine v_ild1 (pc := 14) hJ dX8_neededOf_14 ?_
    refine ca44 (pc := 15) hJ (by omega) (by omega) dX8_neededOf_15 ?_
    try simp only [up_s, up_n, up_up, ne_eq, Nat.reduceEqDiff, not_false_eq_true]
    refine v_cS1i (pc := 16) hJ lkX8_41 (qX4_toneOf hO (by omega)) (Nat.le_of_ble_eq_true rfl) (rOk_L (by decide) (by decide)) dX8_neededOf_16 (fun r16 u16 g16 => ?_)
    obtain ⟨rfl, rfl⟩ := g16
    try simp only [up_s, up_n, up_up, ne_eq, Nat.reduceEqDiff, not_false_eq_true]
    refine v_bipush (pc := 19) hJ dX8_neededOf_19 (by decide) ?_
    refine v_iadd (pc := 21) hJ dX8_neededOf_21 ?_
    refine v_bipush (pc := 22) hJ dX8_neededOf_22 (by decide) ?_
    refine v_irem (pc := 24) hJ dX8_neededOf_24 (by omega) (by omega) (by omega) ?_
    refine v_ist3 (pc := 25) hJ dX8_neededOf_25 (by decide) ?_
    refine v_ild2 (pc := 26) hJ dX8_neededOf_26 ?_
    refine v_iconst (pc := 27) hJ dX8_neededOf_27 ?_
    refine v_ild3 (pc := 28) hJ dX8_neededOf_28 ?_
    refine v_ishl (pc := 29) hJ dX8_neededOf_29 ?_
    refine v_iconst (pc := 30) hJ dX8_neededOf_30 ?_
    refine v_ixor (pc := 31) hJ dX8_neededOf_31 ?_
    refine v_iand (pc := 32) hJ dX8_neededOf_32 ?_
    refine v_iret (pc := 33) hJ dX8_neededOf_33 ⟨_, rfl, ?_⟩
    exact ⟨by unfold ndF; rw [if_neg (by omega)], rfl⟩
  · refine v_ild2 (pc := 8) hJ dX8_neededOf_8 ?_
    refine v_iret (pc := 9) hJ dX8_neededOf_9 ⟨_, rfl, ?_⟩
    exact ⟨by unfold ndF; rw [if_pos (by omega)], rfl⟩
/-- the same hands fit two chords -/
abbrev likeC (A : Nat → Int → Int) (k i : Int) : Prop := A 45 k = A 45 i ∧ tn (A 44 k) = tn (A 44 i) ∧ tn (A 46 k) = tn (A 46 i)
set_option maxHeartbeats 4000000 in
set_option maxRecDepth 100000 in
theorem qX8_firstLike {l : Launch} {D : va_G} {cI : ClassId} {O : OT} {adK adV : Nat → Nat} {tT : Nat} (hO : OGC O adK adV tT) {ad : Nat → Nat} {I : Nat → Int} {A : Nat → Int → Int} {i : Int} (hC : cokC I A) (hi : 0 ≤ i ∧ i < I 43) : CC l D cI O yX8_firstLike cX8_firstLike 3 (some .int) 3 [.ref (ad 59), .int (iZ i)] (ad, I, A) (pI fun r u2 => (0 ≤ r ∧ r ≤ i) ∧ likeC A r i ∧ (∀ k, 0 ≤ k → k < r → ¬ likeC A k i) ∧ u2 = (ad, I, A)) := by
  refine ct_intro (own := RX8) (by decide) rfl hO.1.1 (Nat.le_of_ble_eq_true rfl) (by simp [Value.category]) (fun X J hJ => ?_)
  obtain ⟨⟨c1, c2⟩, c3⟩ := id hC
  obtain ⟨k1, k2, k3⟩ := c3 i hi.1 hi.2
  have t1 := tn_lt (A 44 i)
  have t2 := tn_lt (A 46 i)
  have lp : ∀ (fu : Nat) (k : Int), (0 ≤ k ∧ k ≤ i) → (∀ j, 0 ≤ j → j < k → ¬ likeC A j i) → (60 - k) < (fu : Int) → J 2 [some (.ref (ad 59)), some (.int (iZ i)), some (.int (iZ k))] [] (ad, I, A) := by
    intro fu
    induction fu with
    | zero => intro k hk hn hmu; exfalso; omega
    | succ fu ih =>
      intro k hk hn hmu
      refine v_ild2 (pc := 2) hJ dX8_firstLike_2 ?_
      refine v_ild1 (pc := 3) hJ dX8_firstLike_3 ?_
      refine v_icmp_ge (tgt := 72) (pc := 4) hJ dX8_firstLike_4 (by decide) (by omega) (by omega) (fun h4 => ?_) (fun h4 => ?_)
      · refine v_ild1 (pc := 72) hJ dX8_firstLike_72 ?_
        refine v_iret (pc := 73) hJ dX8_firstLike_73 ⟨_, rfl, ?_⟩
        have e : k = i := by omega
        subst e
        exact ⟨hk, ⟨rfl, rfl, rfl⟩, hn, rfl⟩
      · have g1 := c3 k hk.1 (by omega)
        obtain ⟨g1, g2, g3⟩ := g1
        have t3 := tn_lt (A 44 k)
        have t4 := tn_lt (A 46 k)
        refine v_ald0 (pc := 7) hJ dX8_firstLike_7 ?_
        refine cgX8_18a (pc := 8) hJ dX8_firstLike_8 ?_
        refine v_ild2 (pc := 11) hJ dX8_firstLike_11 ?_
        refine ca45 (pc := 12) hJ (by omega) (by omega) dX8_firstLike_12 ?_
        refine v_ald0 (pc := 13) hJ dX8_firstLike_13 ?_
        refine cgX8_18a (pc := 14) hJ dX8_firstLike_14 ?_
        refine v_ild1 (pc := 17) hJ dX8_firstLike_17 ?_
        refine ca45 (pc := 18) hJ (by omega) (by omega) dX8_firstLike_18 ?_
        refine v_icmp_ne (tgt := 66) (pc := 19) hJ dX8_firstLike_19 (by decide) (by omega) (by omega) (fun h19 => ?_) (fun h19 => ?_)
        · refine v_inc2 (pc := 66) hJ dX8_firstLike_66 (by decide) ?_
          refine v_goto (tgt := 2) (pc := 69) hJ dX8_firstLike_69 (by decide) ?_
          exact ih (k + 1) (by omega) (fun j j0 j1 => by by_cases e : j = k; (subst e; exact fun q => h19 q.1); exact hn j j0 (by omega)) (by omega)
        · refine v_ald0 (pc := 22) hJ dX8_firstLike_22 ?_
          refine cgX8_15a (pc := 23) hJ dX8_firstLike_23 ?_
          refine v_ild2 (pc := 26) hJ dX8_firstLike_26 ?_
          refine ca44 (pc := 27) hJ (by omega) (by omega) dX8_firstLike_27 ?_
          refine v_cS1i (pc := 28) hJ lkX8_41 (qX4_toneOf hO (by omega)) (Nat.le_of_ble_eq_true rfl) (rOk_L (by decide) (by decide)) dX8_firstLike_28 (fun r28 u28 g28 => ?_)
          obtain ⟨rfl, rfl⟩ := g28
          refine v_ald0 (pc := 31) hJ dX8_firstLike_31 ?_
          refine cgX8_15a (pc := 32) hJ dX8_firstLike_32 ?_
          refine v_ild1 (pc := 35) hJ dX8_firstLike_35 ?_
          refine ca44 (pc := 36) hJ (by omega) (by omega) dX8_firstLike_36 ?_
          try simp only [up_s, up_n, up_up, ne_eq, Nat.reduceEqDiff, not_false_eq_true]
          refine v_cS1i (pc := 37) hJ lkX8_41 (qX4_toneOf hO (by omega)) (Nat.le_of_ble_eq_true rfl) (rOk_L (by decide) (by decide)) dX8_firstLike_37 (fun r37 u37 g37 => ?_)
          obtain ⟨rfl, rfl⟩ := g37
          try simp only [up_s, up_n, up_up, ne_eq, Nat.reduceEqDiff, not_false_eq_true]
          refine v_icmp_ne (tgt := 66) (pc := 40) hJ dX8_firstLike_40 (by decide) (by omega) (by omega) (fun h40 => ?_) (fun h40 => ?_)
          · refine v_inc2 (pc := 66) hJ dX8_firstLike_66 (by decide) ?_
            refine v_goto (tgt := 2) (pc := 69) hJ dX8_firstLike_69 (by decide) ?_
            exact ih (k + 1) (by omega) (fun j j0 j1 => by by_cases e : j = k; (subst e; exact fun q => h40 q.2.1); exact hn j j0 (by omega)) (by omega)
          · refine v_ald0 (pc := 43) hJ dX8_firstLike_43 ?_
            refine cgX8_21a (pc := 44) hJ dX8_firstLike_44 ?_
            refine v_ild2 (pc := 47) hJ dX8_firstLike_47 ?_
            refine ca46 (pc := 48) hJ (by omega) (by omega) dX8_firstLike_48 ?_
            try simp only [up_s, up_n, up_up, ne_eq, Nat.reduceEqDiff, not_false_eq_true]
            refine v_cS1i (pc := 49) hJ lkX8_41 (qX4_toneOf hO (by omega)) (Nat.le_of_ble_eq_true rfl) (rOk_L (by decide) (by decide)) dX8_firstLike_49 (fun r49 u49 g49 => ?_)
            obtain ⟨rfl, rfl⟩ := g49
            try simp only [up_s, up_n, up_up, ne_eq, Nat.reduceEqDiff, not_false_eq_true]
            refine v_ald0 (pc := 52) hJ dX8_firstLike_52 ?_
            refine cgX8_21a (pc := 53) hJ dX8_firstLike_53 ?_
            refine v_ild1 (pc := 56) hJ dX8_firstLike_56 ?_
            refine ca46 (pc := 57) hJ (by omega) (by omega) dX8_firstLike_57 ?_
            try simp only [up_s, up_n, up_up, ne_eq, Nat.reduceEqDiff, not_false_eq_true]
            refine v_cS1i (pc := 58) hJ lkX8_41 (qX4_toneOf hO (by omega)) (Nat.le_of_ble_eq_true rfl) (rOk_L (by decide) (by decide)) dX8_firstLike_58 (fun r58 u58 g58 => ?_)
            obtain ⟨rfl, rfl⟩ := g58
            try simp only [up_s, up_n, up_up, ne_eq, Nat.reduceEqDiff, not_false_eq_true]
            refine v_icmp_ne (tgt := 66) (pc := 61) hJ dX8_firstLike_61 (by decide) (by omega) (by omega) (fun h61 => ?_) (fun h61 => ?_)
            · refine v_inc2 (pc := 66) hJ dX8_firstLike_66 (by decide) ?_
              refine v_goto (tgt := 2) (pc := 69) hJ dX8_firstLike_69 (by decide) ?_
              exact ih (k + 1) (by omega) (fun j j0 j1 => by by_cases e : j = k; (subst e; exact fun q => h61 q.2.2); exact hn j j0 (by omega)) (by omega)
            · refine v_ild2 (pc := 64) hJ dX8_firstLike_64 ?_
              refine v_iret (pc := 65) hJ dX8_firstLike_65 ⟨_, rfl, ?_⟩
              exact ⟨hk, ⟨by omega, by omega, by omega⟩, hn, rfl⟩
  show J 0 [some (.ref (ad 59)), some (.int (iZ i)), none] [] (ad, I, A)
  refine v_iconst (pc := 0) hJ dX8_firstLike_0 ?_
  refine v_ist2 (pc := 1) hJ dX8_firstLike_1 (by decide) ?_
  exact lp 100 0 (by omega) (fun j j0 j1 => by omega) (by omega)
theorem shR_s {f R : Int → Int} {c b k : Int} (h : ∀ j, R j = shR f c b k j) (hk : 0 ≤ k) (j : Int) : zu R k (wi (R k + (c - b))) j = shR f c b (k + 1) j := by
  by_cases e : j = k
  · subst e
    rw [zu_same, h j]
    unfold shR
    rw [if_neg (show ¬ (0 ≤ j ∧ j < j) by omega), if_pos (show 0 ≤ j ∧ j < j + 1 by omega), Int.add_sub_assoc]
  · rw [zu_ne e, h j]
    unfold shR
    by_cases q : 0 ≤ j ∧ j < k
    · rw [if_pos q, if_pos (by omega)]
    · rw [if_neg q, if_neg (by omega)]
set_option maxHeartbeats 4000000 in
set_option maxRecDepth 100000 in
theorem qX8_shiftNotes {l : Launch} {D : va_G} {cI : ClassId} {O : OT} {adK adV : Nat → Nat} {tT : Nat} (hO : OGC O adK adV tT) {ad : Nat → Nat} {I : Nat → Int} {A : Nat → Int → Int} {c b : Int} (hC : cokC I A) (hc : -20 ≤ c ∧ c ≤ 20) (hb : -20 ≤ b ∧ b ≤ 20) : CC l D cI O yX8_shiftNotes cX8_shiftNotes 3 none 2 [.ref (ad 59), .int (iZ (c - b))] (ad, I, A) (pV fun u2 => ∃ R B, (∀ j, R j = shR (A 44) c b (I 43) j ∧ B j = shR (A 46) c b (I 43) j) ∧ u2 = (ad, I, va_up (va_up A 44 R) 46 B)) := by
  refine ct_intro (own := RX8) (by decide) rfl hO.1.1 (Nat.le_of_ble_eq_true rfl) (by simp [Value.category]) (fun X J hJ => ?_)
  obtain ⟨⟨c1, c2⟩, c3⟩ := id hC
  have lp : ∀ (fu : Nat) (k : Int) (R B : Int → Int), (0 ≤ k ∧ k ≤ I 43) → (∀ j, R j = shR (A 44) c b k j ∧ B j = shR (A 46) c b k j) → (60 - k) < (fu : Int) → J 2 [some (.ref (ad 59)), some (.int (iZ (c - b))), some (.int (iZ k))] [] (ad, I, va_up (va_up A 44 R) 46 B) := by
    intro fu
    induction fu with
    | zero => intro k  R B hk hR hmu; exfalso; omega
    | succ fu ih =>
      intro k  R B hk hR hmu
      refine v_ild2 (pc := 2) hJ dX8_shiftNotes_2 ?_
      refine v_ald0 (pc := 3) hJ dX8_shiftNotes_3 ?_
      refine cgX8_34a (pc := 4) hJ dX8_shiftNotes_4 ?_
      try simp only [up_s, up_n, up_up, ne_eq, Nat.reduceEqDiff, not_false_eq_true]
      refine v_icmp_ge (tgt := 50) (pc := 7) hJ dX8_shiftNotes_7 (by decide) (by omega) (by omega) (fun h7 => ?_) (fun h7 => ?_)
      · refine v_vret (pc := 50) hJ dX8_shiftNotes_50 ⟨rfl, ?_⟩
        have e : k = I 43 := by omega
        subst e
        exact ⟨R, B, hR, rfl⟩
      · have g := c3 k hk.1 (by omega)
        obtain ⟨g1, g2, g3⟩ := g
        have e1 : R k = A 44 k := by rw [(hR k).1]; unfold shR; rw [if_neg (by omega)]
        have e2 : B k = A 46 k := by rw [(hR k).2]; unfold shR; rw [if_neg (by omega)]
        refine v_ald0 (pc := 10) hJ dX8_shiftNotes_10 ?_
        refine cgX8_15a (pc := 11) hJ dX8_shiftNotes_11 ?_
        refine v_ild2 (pc := 14) hJ dX8_shiftNotes_14 ?_
        refine v_ald0 (pc := 15) hJ dX8_shiftNotes_15 ?_
        refine cgX8_15a (pc := 16) hJ dX8_shiftNotes_16 ?_
        refine v_ild2 (pc := 19) hJ dX8_shiftNotes_19 ?_
        refine ca44 (pc := 20) hJ (by omega) (by omega) dX8_shiftNotes_20 ?_
        try simp only [up_s, up_n, up_up, ne_eq, Nat.reduceEqDiff, not_false_eq_true]
        refine v_ild1 (pc := 21) hJ dX8_shiftNotes_21 ?_
        refine v_iadd (pc := 22) hJ dX8_shiftNotes_22 ?_
        refine v_cS1i (pc := 23) hJ lkX8_58 (qX4_folded hO (by omega)) (Nat.le_of_ble_eq_true rfl) (rOk_L (by decide) (by decide)) dX8_shiftNotes_23 (fun r23 u23 g23 => ?_)
        obtain ⟨rfl, rfl⟩ := g23
        try simp only [up_s, up_n, up_up, ne_eq, Nat.reduceEqDiff, not_false_eq_true]
        refine cs44 (pc := 26) hJ (by omega) (by omega) dX8_shiftNotes_26 ?_
        refine v_ald0 (pc := 27) hJ dX8_shiftNotes_27 ?_
        refine cgX8_21a (pc := 28) hJ dX8_shiftNotes_28 ?_
        refine v_ild2 (pc := 31) hJ dX8_shiftNotes_31 ?_
        refine v_ald0 (pc := 32) hJ dX8_shiftNotes_32 ?_
        refine cgX8_21a (pc := 33) hJ dX8_shiftNotes_33 ?_
        refine v_ild2 (pc := 36) hJ dX8_shiftNotes_36 ?_
        refine ca46 (pc := 37) hJ (by omega) (by omega) dX8_shiftNotes_37 ?_
        try simp only [up_s, up_n, up_up, ne_eq, Nat.reduceEqDiff, not_false_eq_true]
        refine v_ild1 (pc := 38) hJ dX8_shiftNotes_38 ?_
        refine v_iadd (pc := 39) hJ dX8_shiftNotes_39 ?_
        refine v_cS1i (pc := 40) hJ lkX8_58 (qX4_folded hO (by omega)) (Nat.le_of_ble_eq_true rfl) (rOk_L (by decide) (by decide)) dX8_shiftNotes_40 (fun r40 u40 g40 => ?_)
        obtain ⟨rfl, rfl⟩ := g40
        try simp only [up_s, up_n, up_up, ne_eq, Nat.reduceEqDiff, not_false_eq_true]
        refine cs46 (pc := 43) hJ (by omega) (by omega) dX8_shiftNotes_43 ?_
        refine v_inc2 (pc := 44) hJ dX8_shiftNotes_44 (by decide) ?_
        refine v_goto (tgt := 2) (pc := 47) hJ dX8_shiftNotes_47 (by decide) ?_
        have hn := ih (k + 1) (zu R k (wi (R k + (c - b)))) (zu B k (wi (B k + (c - b)))) (by omega) (fun j => ⟨shR_s (fun q => (hR q).1) hk.1 j, shR_s (fun q => (hR q).2) hk.1 j⟩) (by omega)
        rw [up4 A _ _ _ _ (by decide)]
        exact hn
  show J 0 [some (.ref (ad 59)), some (.int (iZ (c - b))), none] [] (ad, I, A)
  refine v_iconst (pc := 0) hJ dX8_shiftNotes_0 ?_
  refine v_ist2 (pc := 1) hJ dX8_shiftNotes_1 (by decide) ?_
  have h := lp 100 0 (A 44) (A 46) (by omega) (fun j => by unfold shR; rw [if_neg (by omega), if_neg (by omega)]; exact ⟨rfl, rfl⟩) (by omega)
  rw [up_id, up_id] at h
  exact h
set_option maxHeartbeats 4000000 in
set_option maxRecDepth 100000 in
theorem qX8_chordsWithin {l : Launch} {D : va_G} {cI : ClassId} {O : OT} {adK adV : Nat → Nat} {tT : Nat} (hO : OGC O adK adV tT) {ad : Nat → Nat} {I : Nat → Int} {A : Nat → Int → Int} {t : Int} (hC : cokC I A) : CC l D cI O yX8_chordsWithin cX8_chordsWithin 4 (some .int) 4 [.ref (ad 59), .int (iZ t)] (ad, I, A) (pI fun r u2 => r = fitN (ctsA A) t (I 43).toNat ∧ u2 = (ad, I, A)) := by
  refine ct_intro (own := RX8) (by decide) rfl hO.1.1 (Nat.le_of_ble_eq_true rfl) (by simp [Value.category]) (fun X J hJ => ?_)
  obtain ⟨⟨c1, c2⟩, c3⟩ := id hC
  have lp : ∀ (fu : Nat) (k : Nat), ((k : Int) ≤ I 43) → (60 - (k : Int)) < (fu : Int) → J 4 [some (.ref (ad 59)), some (.int (iZ t)), some (.int (iZ (fitN (ctsA A) t k))), some (.int (iZ (k : Int)))] [] (ad, I, A) := by
    intro fu
    induction fu with
    | zero => intro k hk hmu; exfalso; omega
    | succ fu ih =>
      intro k hk hmu
      refine v_ild3 (pc := 4) hJ dX8_chordsWithin_4 ?_
      refine v_ald0 (pc := 5) hJ dX8_chordsWithin_5 ?_
      refine cgX8_34a (pc := 6) hJ dX8_chordsWithin_6 ?_
      refine v_icmp_ge (tgt := 33) (pc := 9) hJ dX8_chordsWithin_9 (by decide) (by omega) (by omega) (fun h9 => ?_) (fun h9 => ?_)
      · refine v_ild2 (pc := 33) hJ dX8_chordsWithin_33 ?_
        refine v_iret (pc := 34) hJ dX8_chordsWithin_34 ⟨_, rfl, ?_⟩
        have e : k = (I 43).toNat := by omega
        subst e
        exact ⟨rfl, rfl⟩
      · refine v_ald0 (pc := 12) hJ dX8_chordsWithin_12 ?_
        refine v_ild3 (pc := 13) hJ dX8_chordsWithin_13 ?_
        refine v_cV1i (pc := 14) (q0 := 3) (ci := 5) hJ rfl rfl lkX8_61 (qX8_tonesOf hO hC (by omega)) (Nat.le_of_ble_eq_true rfl) (rOk_L (by decide) (by decide)) dX8_chordsWithin_14 (fun r14 u14 g14 => ?_)
        obtain ⟨rfl, rfl⟩ := g14
        refine v_ild1 (pc := 17) hJ dX8_chordsWithin_17 ?_
        refine v_iconst (pc := 18) hJ dX8_chordsWithin_18 ?_
        refine v_ixor (pc := 19) hJ dX8_chordsWithin_19 ?_
        refine v_iand (pc := 20) hJ dX8_chordsWithin_20 ?_
        refine v_if_ne (tgt := 27) (pc := 21) hJ dX8_chordsWithin_21 (by decide) (inR_of _) (fun h21 => ?_) (fun h21 => ?_)
        · refine v_inc3 (pc := 27) hJ dX8_chordsWithin_27 (by decide) ?_
          refine v_goto (tgt := 4) (pc := 30) hJ dX8_chordsWithin_30 (by decide) ?_
          rw [fitN_neg h21]
          exact ih (k + 1) (by omega) (by omega)
        · refine v_inc2 (pc := 24) hJ dX8_chordsWithin_24 (by decide) ?_
          refine v_inc3 (pc := 27) hJ dX8_chordsWithin_27 (by decide) ?_
          refine v_goto (tgt := 4) (pc := 30) hJ dX8_chordsWithin_30 (by decide) ?_
          rw [fitN_pos h21]
          exact ih (k + 1) (by omega) (by omega)
  show J 0 [some (.ref (ad 59)), some (.int (iZ t)), none, none] [] (ad, I, A)
  refine v_iconst (pc := 0) hJ dX8_chordsWithin_0 ?_
  refine v_ist2 (pc := 1) hJ dX8_chordsWithin_1 (by decide) ?_
  refine v_iconst (pc := 2) hJ dX8_chordsWithin_2 ?_
  refine v_ist3 (pc := 3) hJ dX8_chordsWithin_3 (by decide) ?_
  exact lp 100 0 (by omega) (by omega)
set_option maxHeartbeats 4000000 in
set_option maxRecDepth 100000 in
theorem qX8_endOfLine {l : Launch} {D : va_G} {cI : ClassId} {O : OT} {adK adV : Nat → Nat} {tT : Nat} (hO : OGC O adK adV tT) {ad : Nat → Nat} {I : Nat → Int} {A : Nat → Int → Int} {s : Int} (hI : cokI I A) (hC : cokC I A) (hs : 0 ≤ s ∧ s ≤ 1300) : CC l D cI O yX8_endOfLine cX8_endOfLine 3 (some .int) 1 [.ref (ad 59), .int (iZ s)] (ad, I, A) (pI fun r u2 => (s ≤ r ∧ r ≤ 2000) ∧ (∀ j, s ≤ j → j < r → j < I 41 ∧ A 40 j ≠ 10) ∧ ¬ (r < I 41 ∧ A 40 r ≠ 10) ∧ u2 = (ad, I, A)) := by
  refine ct_intro (own := RX8) (by decide) rfl hO.1.1 (Nat.le_of_ble_eq_true rfl) (by simp [Value.category]) (fun X J hJ => ?_)
  obtain ⟨s1, s2⟩ := id hI
  obtain ⟨⟨c1, c2⟩, c3⟩ := id hC
  have lp : ∀ (fu : Nat) (k : Int), (s ≤ k ∧ k ≤ 1300) → (∀ j, s ≤ j → j < k → j < I 41 ∧ A 40 j ≠ 10) → (1400 - k) < (fu : Int) → J 2 [some (.ref (ad 59)), some (.int (iZ s)), some (.int (iZ k))] [] (ad, I, A) := by
    intro fu
    induction fu with
    | zero => intro k hk hn hmu; exfalso; omega
    | succ fu ih =>
      intro k hk hn hmu
      refine v_ild2 (pc := 2) hJ dX8_endOfLine_2 ?_
      refine v_ald0 (pc := 3) hJ dX8_endOfLine_3 ?_
      refine cgX8_27a (pc := 4) hJ dX8_endOfLine_4 ?_
      refine v_icmp_ge (tgt := 27) (pc := 7) hJ dX8_endOfLine_7 (by decide) (by omega) (by omega) (fun h7 => ?_) (fun h7 => ?_)
      · refine v_ild2 (pc := 27) hJ dX8_endOfLine_27 ?_
        refine v_iret (pc := 28) hJ dX8_endOfLine_28 ⟨_, rfl, ?_⟩
        exact ⟨by omega, hn, by omega, rfl⟩
      · have g := s2 k (by omega) (by omega)
        refine v_ald0 (pc := 10) hJ dX8_endOfLine_10 ?_
        refine cgX8_9a (pc := 11) hJ dX8_endOfLine_11 ?_
        refine v_ild2 (pc := 14) hJ dX8_endOfLine_14 ?_
        refine ca40 (pc := 15) hJ (by omega) (by omega) dX8_endOfLine_15 ?_
        refine v_bipush (pc := 16) hJ dX8_endOfLine_16 (by decide) ?_
        refine v_icmp_eq (tgt := 27) (pc := 18) hJ dX8_endOfLine_18 (by decide) (by omega) (by omega) (fun h18 => ?_) (fun h18 => ?_)
        · refine v_ild2 (pc := 27) hJ dX8_endOfLine_27 ?_
          refine v_iret (pc := 28) hJ dX8_endOfLine_28 ⟨_, rfl, ?_⟩
          exact ⟨by omega, hn, by omega, rfl⟩
        · refine v_inc2 (pc := 21) hJ dX8_endOfLine_21 (by decide) ?_
          refine v_goto (tgt := 2) (pc := 24) hJ dX8_endOfLine_24 (by decide) ?_
          exact ih (k + 1) (by omega) (fun j j0 j1 => by by_cases e : j = k; (subst e; exact ⟨by omega, h18⟩); exact hn j j0 (by omega)) (by omega)
  show J 0 [some (.ref (ad 59)), some (.int (iZ s)), none] [] (ad, I, A)
  refine v_ild1 (pc := 0) hJ dX8_endOfLine_0 ?_
  refine v_ist2 (pc := 1) hJ dX8_endOfLine_1 (by decide) ?_
  exact lp 1500 s (by omega) (fun j j0 j1 => by omega) (by omega)
set_option maxHeartbeats 4000000 in
set_option maxRecDepth 100000 in
theorem qX8_chordsStandIn {l : Launch} {D : va_G} {cI : ClassId} {O : OT} {adK adV : Nat → Nat} {tT : Nat} (hO : OGC O adK adV tT) {ad : Nat → Nat} {I : Nat → Int} {A : Nat → Int → Int} {s e : Int} (hI : cokI I A) (hC : cokC I A) (hs : 0 ≤ s ∧ s ≤ 1300) (he : s ≤ e ∧ e ≤ 2000) : CC l D cI O yX8_chordsStandIn cX8_chordsStandIn 4 (some .boolean) 1 [.ref (ad 59), .int (iZ s), .int (iZ e)] (ad, I, A) (pI fun r u2 => (r = 0 ∨ r = 1) ∧ (r = 1 ↔ ∃ j, s ≤ j ∧ j < e ∧ j < I 41 ∧ 256 ≤ A 40 j) ∧ u2 = (ad, I, A)) := by
  refine ct_intro (own := RX8) (by decide) rfl hO.1.1 (Nat.le_of_ble_eq_true rfl) (by simp [Value.category]) (fun X J hJ => ?_)
  obtain ⟨s1, s2⟩ := id hI
  obtain ⟨⟨c1, c2⟩, c3⟩ := id hC
  have lp : ∀ (fu : Nat) (k : Int), (s ≤ k ∧ k ≤ 1300) → (∀ j, s ≤ j → j < k → A 40 j < 256) → (1400 - k) < (fu : Int) → J 2 [some (.ref (ad 59)), some (.int (iZ s)), some (.int (iZ e)), some (.int (iZ k))] [] (ad, I, A) := by
    intro fu
    induction fu with
    | zero => intro k hk hn hmu; exfalso; omega
    | succ fu ih =>
      intro k hk hn hmu
      refine v_ild3 (pc := 2) hJ dX8_chordsStandIn_2 ?_
      refine v_ild2 (pc := 3) hJ dX8_chordsStandIn_3 ?_
      refine v_icmp_ge (tgt := 35) (pc := 4) hJ dX8_chordsStandIn_4 (by decide) (by omega) (by omega) (fun h4 => ?_) (fun h4 => ?_)
      · refine v_iconst (pc := 35) hJ dX8_chordsStandIn_35 ?_
        refine v_zret (pc := 36) hJ rfl dX8_chordsStandIn_36 ⟨_, rfl, ?_⟩
        exact ⟨Or.inl rfl, ⟨fun q => absurd q (by decide), fun ⟨j, j0, j1, j2, j3⟩ => by have := hn j j0 (by omega); omega⟩, rfl⟩
      · refine v_ild3 (pc := 7) hJ dX8_chordsStandIn_7 ?_
        refine v_ald0 (pc := 8) hJ dX8_chordsStandIn_8 ?_
        refine cgX8_27a (pc := 9) hJ dX8_chordsStandIn_9 ?_
        refine v_icmp_ge (tgt := 35) (pc := 12) hJ dX8_chordsStandIn_12 (by decide) (by omega) (by omega) (fun h12 => ?_) (fun h12 => ?_)
        · refine v_iconst (pc := 35) hJ dX8_chordsStandIn_35 ?_
          refine v_zret (pc := 36) hJ rfl dX8_chordsStandIn_36 ⟨_, rfl, ?_⟩
          exact ⟨Or.inl rfl, ⟨fun q => absurd q (by decide), fun ⟨j, j0, j1, j2, j3⟩ => by have := hn j j0 (by omega); omega⟩, rfl⟩
        · have g := s2 k (by omega) (by omega)
          refine v_ald0 (pc := 15) hJ dX8_chordsStandIn_15 ?_
          refine cgX8_9a (pc := 16) hJ dX8_chordsStandIn_16 ?_
          refine v_ild3 (pc := 19) hJ dX8_chordsStandIn_19 ?_
          refine ca40 (pc := 20) hJ (by omega) (by omega) dX8_chordsStandIn_20 ?_
          refine v_sipush (pc := 21) hJ dX8_chordsStandIn_21 (by decide) ?_
          refine v_icmp_lt (tgt := 29) (pc := 24) hJ dX8_chordsStandIn_24 (by decide) (by omega) (by omega) (fun h24 => ?_) (fun h24 => ?_)
          · refine v_inc3 (pc := 29) hJ dX8_chordsStandIn_29 (by decide) ?_
            refine v_goto (tgt := 2) (pc := 32) hJ dX8_chordsStandIn_32 (by decide) ?_
            exact ih (k + 1) (by omega) (fun j j0 j1 => by by_cases q : j = k; (subst q; exact h24); exact hn j j0 (by omega)) (by omega)
          · refine v_iconst (pc := 27) hJ dX8_chordsStandIn_27 ?_
            refine v_zret (pc := 28) hJ rfl dX8_chordsStandIn_28 ⟨_, rfl, ?_⟩
            exact ⟨Or.inr rfl, ⟨fun _ => ⟨k, by omega, by omega, by omega, by omega⟩, fun _ => rfl⟩, rfl⟩
  show J 0 [some (.ref (ad 59)), some (.int (iZ s)), some (.int (iZ e)), none] [] (ad, I, A)
  refine v_ild1 (pc := 0) hJ dX8_chordsStandIn_0 ?_
  refine v_ist3 (pc := 1) hJ dX8_chordsStandIn_1 (by decide) ?_
  exact lp 1500 s (by omega) (fun j j0 j1 => by omega) (by omega)
set_option maxHeartbeats 4000000 in
set_option maxRecDepth 100000 in
theorem qX8_nextWordByte {l : Launch} {D : va_G} {cI : ClassId} {O : OT} {adK adV : Nat → Nat} {tT : Nat} (hO : OGC O adK adV tT) {ad : Nat → Nat} {I : Nat → Int} {A : Nat → Int → Int} {s e : Int} (hI : cokI I A) (hC : cokC I A) (hs : 0 ≤ s ∧ s ≤ e) (he : e ≤ 2000) (h1 : ∀ j, s ≤ j → j < e → j < I 41 ∧ A 40 j ≠ 10) (h2 : ¬ (e < I 41 ∧ A 40 e ≠ 10)) : CC l D cI O yX8_nextWordByte cX8_nextWordByte 4 (some .int) 1 [.ref (ad 59), .int (iZ s), .int (iZ e)] (ad, I, A) (pI fun r u2 => (-1 ≤ r ∧ r ≤ 126) ∧ (isLt r ↔ isLt (nxW (sU A) (I 41) 1201 s)) ∧ u2 = (ad, I, A)) := by
  refine ct_intro (own := RX8) (by decide) rfl hO.1.1 (Nat.le_of_ble_eq_true rfl) (by simp [Value.category]) (fun X J hJ => ?_)
  obtain ⟨s1, s2⟩ := id hI
  obtain ⟨⟨c1, c2⟩, c3⟩ := id hC
  have hsz : s ≤ 1201 ∨ s = e := by
    by_cases q : s < e
    · have := h1 s (by omega) q; omega
    · omega
  have lp : ∀ (m : Nat) (k : Int), s ≤ k → k ≤ e → nxW (sU A) (I 41) m k = nxW (sU A) (I 41) 1201 s → I 41 - k < (m : Int) → 0 < m → J 2 [some (.ref (ad 59)), some (.int (iZ s)), some (.int (iZ e)), some (.int (iZ k))] [] (ad, I, A) := by
    intro m
    induction m with
    | zero => intro k hk hk9 he hm hm0; exfalso; omega
    | succ m ih =>
      intro k hk hk9 hw hm hm0
      rw [nxW] at hw
      by_cases hke : k < e
      · have g0 := h1 k hk hke
        have g := s2 k (by omega) g0.1
        rw [if_pos g0.1] at hw
        skip
        refine v_ild3 (pc := 2) hJ dX8_nextWordByte_2 ?_
        refine v_ild2 (pc := 3) hJ dX8_nextWordByte_3 ?_
        refine v_icmp_ge (tgt := 40) (pc := 4) hJ dX8_nextWordByte_4 (by decide) (by omega) (by omega) (fun h4 => ?_) (fun h4 => ?_)
        · exfalso; omega
        · refine v_ild3 (pc := 7) hJ dX8_nextWordByte_7 ?_
          refine v_ald0 (pc := 8) hJ dX8_nextWordByte_8 ?_
          refine cgX8_27a (pc := 9) hJ dX8_nextWordByte_9 ?_
          refine v_icmp_ge (tgt := 40) (pc := 12) hJ dX8_nextWordByte_12 (by decide) (by omega) (by omega) (fun h12 => ?_) (fun h12 => ?_)
          · exfalso; omega
          · refine v_ald0 (pc := 15) hJ dX8_nextWordByte_15 ?_
            refine cgX8_9a (pc := 16) hJ dX8_nextWordByte_16 ?_
            refine v_ild3 (pc := 19) hJ dX8_nextWordByte_19 ?_
            refine ca40 (pc := 20) hJ (by omega) (by omega) dX8_nextWordByte_20 ?_
            refine v_sipush (pc := 21) hJ dX8_nextWordByte_21 (by decide) ?_
            refine v_icmp_ge (tgt := 34) (pc := 24) hJ dX8_nextWordByte_24 (by decide) (by omega) (by omega) (fun h24 => ?_) (fun h24 => ?_)
            · refine v_inc3 (pc := 34) hJ dX8_nextWordByte_34 (by decide) ?_
              refine v_goto (tgt := 2) (pc := 37) hJ dX8_nextWordByte_37 (by decide) ?_
              rw [if_pos (by unfold sU uI; rw [if_pos (by omega)]; omega)] at hw
              exact ih (k + 1) (by omega) (by omega) hw (by omega) (by omega)
            · refine v_ald0 (pc := 27) hJ dX8_nextWordByte_27 ?_
              refine cgX8_9a (pc := 28) hJ dX8_nextWordByte_28 ?_
              refine v_ild3 (pc := 31) hJ dX8_nextWordByte_31 ?_
              refine ca40 (pc := 32) hJ (by omega) (by omega) dX8_nextWordByte_32 ?_
              refine v_iret (pc := 33) hJ dX8_nextWordByte_33 ⟨_, rfl, ?_⟩
              have e0 : sU A k = A 40 k := by unfold sU uI; rw [if_neg (by omega)]
              rw [e0, if_neg (by omega), if_neg (by omega)] at hw
              exact ⟨by omega, by rw [hw], rfl⟩
      · skip
        refine v_ild3 (pc := 2) hJ dX8_nextWordByte_2 ?_
        refine v_ild2 (pc := 3) hJ dX8_nextWordByte_3 ?_
        refine v_icmp_ge (tgt := 40) (pc := 4) hJ dX8_nextWordByte_4 (by decide) (by omega) (by omega) (fun h4 => ?_) (fun h4 => ?_)
        · refine v_iconst (pc := 40) hJ dX8_nextWordByte_40 ?_
          refine v_iret (pc := 41) hJ dX8_nextWordByte_41 ⟨_, rfl, ?_⟩
          have hk : k = e := by omega
          subst hk
          have hw0 : nxW (sU A) (I 41) 1201 s = 0 := by
            rw [← hw]
            split
            · have e0 : sU A k = 10 := by unfold sU uI; rw [show A 40 k = 10 by omega]; rfl
              rw [e0]; rfl
            · rfl
          rw [hw0]
          exact ⟨by omega, by constructor <;> (intro q; omega), rfl⟩
        · exfalso; omega
  show J 0 [some (.ref (ad 59)), some (.int (iZ s)), some (.int (iZ e)), none] [] (ad, I, A)
  refine v_ild1 (pc := 0) hJ dX8_nextWordByte_0 ?_
  refine v_ist3 (pc := 1) hJ dX8_nextWordByte_1 (by decide) ?_
  exact lp 1201 s (by omega) hs.2 rfl (by omega) (by omega)
