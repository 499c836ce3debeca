set_option maxHeartbeats 4000000 in
set_option maxRecDepth 100000 in
theorem qX10_fault {l : Launch} {D : va_G} {cI : ClassId} {O : OT} {adK adV : Nat → Nat} {tT : Nat} (hO : OGC O adK adV tT) {ad : Nat → Nat} {I : Nat → Int} {A : Nat → Int → Int} {w : Int} (hw : w = 0 ∨ w = 1) : CC l D cI O yX10_fault cX10_fault 2 (some .int) 1 [.ref (ad 19), .int (iZ w)] (ad, I, A) (pI fun r u2 => r = (if w = 0 then I 5 else I 6) ∧ u2 = (ad, I, A)) := by
  refine ct_intro (own := RX10) (by decide) rfl hO.1.1 (Nat.le_of_ble_eq_true rfl) (by simp [Value.category]) (fun X J hJ => ?_)
  rcases hw with rfl | rfl
  · skip
    show J 0 [some (.ref (ad 19)), some (.int (iZ 0))] [] (ad, I, A)
    refine v_ild1 (pc := 0) hJ dX10_fault_0 ?_
    refine v_lookup (off := 27) (tgt := 28) (pc := 1) hJ dX10_fault_1 (by decide) (by decide) (by decide) (by decide) ?_
    refine v_ald0 (pc := 28) hJ dX10_fault_28 ?_
    refine cgX10_90 (pc := 29) hJ dX10_fault_29 ?_
    refine v_iret (pc := 32) hJ dX10_fault_32 ⟨_, rfl, ?_⟩
    exact ⟨(if_pos rfl).symm, rfl⟩
  · skip
    show J 0 [some (.ref (ad 19)), some (.int (iZ 1))] [] (ad, I, A)
    refine v_ild1 (pc := 0) hJ dX10_fault_0 ?_
    refine v_lookup (off := 32) (tgt := 33) (pc := 1) hJ dX10_fault_1 (by decide) (by decide) (by decide) (by decide) ?_
    refine v_ald0 (pc := 33) hJ dX10_fault_33 ?_
    refine cgX10_30 (pc := 34) hJ dX10_fault_34 ?_
    refine v_iret (pc := 37) hJ dX10_fault_37 ⟨_, rfl, ?_⟩
    exact ⟨(if_neg (by decide)).symm, rfl⟩
set_option maxHeartbeats 4000000 in
set_option maxRecDepth 100000 in
theorem qX10_key {l : Launch} {D : va_G} {cI : ClassId} {O : OT} {adK adV : Nat → Nat} {tT : Nat} (hO : OGC O adK adV tT) {ad : Nat → Nat} {I : Nat → Int} {A : Nat → Int → Int} {k : Int} (hk : -7 ≤ k ∧ k ≤ 7) : CC l D cI O yX10_key cX10_key 3 (some .int) 1 [.ref (ad 19), .int (iZ k)] (ad, I, A) (pI fun r u2 => r = I 7 ∧ u2 = (ad, va_up I 7 k, A)) := by
  refine ct_intro (own := RX10) (by decide) rfl hO.1.1 (Nat.le_of_ble_eq_true rfl) (by simp [Value.category]) (fun X J hJ => ?_)
  show J 0 [some (.ref (ad 19)), some (.int (iZ k)), none] [] (ad, I, A)
  refine v_ild1 (pc := 0) hJ dX10_key_0 ?_
  refine v_bipush (pc := 1) hJ dX10_key_1 (by decide) ?_
  refine v_icmp_lt (tgt := 12) (pc := 3) hJ dX10_key_3 (by decide) (by omega) (by omega) (fun h3 => ?_) (fun h3 => ?_)
  · exfalso; omega
  · refine v_ild1 (pc := 6) hJ dX10_key_6 ?_
    refine v_bipush (pc := 7) hJ dX10_key_7 (by decide) ?_
    refine v_icmp_le (tgt := 22) (pc := 9) hJ dX10_key_9 (by decide) (by omega) (by omega) (fun h9 => ?_) (fun h9 => ?_)
    · refine v_ald0 (pc := 22) hJ dX10_key_22 ?_
      refine cgX10_106 (pc := 23) hJ dX10_key_23 ?_
      refine v_ist2 (pc := 26) hJ dX10_key_26 (by decide) ?_
      refine v_ald0 (pc := 27) hJ dX10_key_27 ?_
      refine v_ild1 (pc := 28) hJ dX10_key_28 ?_
      refine cpX10_106 (pc := 29) hJ dX10_key_29 ?_
      refine v_ild2 (pc := 32) hJ dX10_key_32 ?_
      refine v_iret (pc := 33) hJ dX10_key_33 ⟨_, rfl, ?_⟩
      exact ⟨rfl, rfl⟩
    · exfalso; omega
set_option maxHeartbeats 4000000 in
set_option maxRecDepth 100000 in
theorem qX10_move {l : Launch} {D : va_G} {cI : ClassId} {O : OT} {adK adV : Nat → Nat} {tT : Nat} (hO : OGC O adK adV tT) {ad : Nat → Nat} {I : Nat → Int} {A : Nat → Int → Int} {n : Int} (h3 : ad 3 = ad 59) (hn : -11 ≤ n ∧ n ≤ 11) (h7 : -7 ≤ I 7 ∧ I 7 ≤ 7) (hC : cokC I A) : CC l D cI O yX10_move cX10_move 3 (some .int) 5 [.ref (ad 19), .int (iZ n)] (ad, I, A) (pI fun r u2 => r = mv (I 7) n ∧ ∃ F R B, (∀ j, 0 ≤ j → j < 480 → F j = -1) ∧ (∀ j, R j = shR (A 44) (mv (I 7) n) (I 7) (I 43) j ∧ B j = shR (A 46) (mv (I 7) n) (I 7) (I 43) j) ∧ u2 = (ad, va_up (va_up I 7 (mv (I 7) n)) 164 (-1), va_up (va_up (va_up A 44 R) 46 B) 141 F)) := by
  refine ct_intro (own := RX10) (by decide) rfl hO.1.1 (Nat.le_of_ble_eq_true rfl) (by simp [Value.category]) (fun X J hJ => ?_)
  show J 0 [some (.ref (ad 19)), some (.int (iZ n)), none] [] (ad, I, A)
  have hmv : -5 ≤ mv (I 7) n ∧ mv (I 7) n ≤ 6 := by unfold mv; omega
  refine v_ild1 (pc := 0) hJ dX10_move_0 ?_
  refine v_bipush (pc := 1) hJ dX10_move_1 (by decide) ?_
  refine v_icmp_lt (tgt := 12) (pc := 3) hJ dX10_move_3 (by decide) (by omega) (by omega) (fun hc3 => ?_) (fun hc3 => ?_)
  · exfalso; omega
  · refine v_ild1 (pc := 6) hJ dX10_move_6 ?_
    refine v_bipush (pc := 7) hJ dX10_move_7 (by decide) ?_
    refine v_icmp_le (tgt := 22) (pc := 9) hJ dX10_move_9 (by decide) (by omega) (by omega) (fun h9 => ?_) (fun h9 => ?_)
    · refine v_ald0 (pc := 22) hJ dX10_move_22 ?_
      refine cgX10_106 (pc := 23) hJ dX10_move_23 ?_
      refine v_bipush (pc := 26) hJ dX10_move_26 (by decide) ?_
      refine v_ild1 (pc := 28) hJ dX10_move_28 ?_
      refine v_imul (pc := 29) hJ dX10_move_29 ?_
      refine v_iadd (pc := 30) hJ dX10_move_30 ?_
      refine v_iconst (pc := 31) hJ dX10_move_31 ?_
      refine v_iadd (pc := 32) hJ dX10_move_32 ?_
      refine v_bipush (pc := 33) hJ dX10_move_33 (by decide) ?_
      refine v_cS2i (pc := 35) hJ lkX10_111 (qJ9_floorMod_7cf53 hO.1.1 (by omega) (by omega)) (Nat.le_of_ble_eq_true rfl) (rOk_L (by decide) (by decide)) dX10_move_35 (fun r35 u35 g35 => ?_)
      obtain ⟨rfl, rfl⟩ := g35
      refine v_iconst (pc := 38) hJ dX10_move_38 ?_
      refine v_isub (pc := 39) hJ dX10_move_39 ?_
      rw [show (I 7 + 7 * n + 5) % 12 - 5 = mv (I 7) n from rfl]
      refine v_ist2 (pc := 40) hJ dX10_move_40 (by decide) ?_
      refine v_ald0 (pc := 41) hJ dX10_move_41 ?_
      refine cgX10_23 (pc := 42) hJ dX10_move_42 ?_
      rw [h3]
      refine v_ild2 (pc := 45) hJ dX10_move_45 ?_
      refine v_ald0 (pc := 46) hJ dX10_move_46 ?_
      refine cgX10_106 (pc := 47) hJ dX10_move_47 ?_
      try simp only [up_s, up_n, up_up, ne_eq, Nat.reduceEqDiff, not_false_eq_true]
      refine v_isub (pc := 50) hJ dX10_move_50 ?_
      refine v_cV1v (pc := 51) (q0 := 3) (ci := 5) hJ rfl rfl lkX10_117 (qX8_shiftNotes hO hC (by omega) (by omega)) (Nat.le_of_ble_eq_true rfl) (rOk_L (by decide) (by decide)) dX10_move_51 (fun u51 g51 => ?_)
      obtain ⟨R51, B51, hR51, rfl⟩ := g51
      try simp only [up_s, up_n, up_up, ne_eq, Nat.reduceEqDiff, not_false_eq_true]
      refine v_ald0 (pc := 54) hJ dX10_move_54 ?_
      refine v_ild2 (pc := 55) hJ dX10_move_55 ?_
      refine cpX10_106 (pc := 56) hJ dX10_move_56 ?_
      refine v_ald0 (pc := 59) hJ dX10_move_59 ?_
      refine v_cV0v (pc := 60) (q0 := 0) (ci := 7) hJ rfl rfl lkX10_96 (qX10_forgetHands hO) (Nat.le_of_ble_eq_true rfl) (rOk_L (by decide) (by decide)) dX10_move_60 (fun u60 g60 => ?_)
      obtain ⟨F59, hF59, rfl⟩ := g60
      try simp only [up_s, up_n, up_up, ne_eq, Nat.reduceEqDiff, not_false_eq_true]
      refine v_ild2 (pc := 63) hJ dX10_move_63 ?_
      refine v_iret (pc := 64) hJ dX10_move_64 ⟨_, rfl, ?_⟩
      exact ⟨rfl, F59, R51, B51, hF59, hR51, rfl⟩
    · exfalso; omega
set_option maxHeartbeats 4000000 in
set_option maxRecDepth 100000 in
theorem qX10_chord {l : Launch} {D : va_G} {cI : ClassId} {O : OT} {adK adV : Nat → Nat} {tT : Nat} (hO : OGC O adK adV tT) {ad : Nat → Nat} {I : Nat → Int} {A : Nat → Int → Int} {i w : Int} (h3 : ad 3 = ad 59) (hC : cokC I A) (hi : 0 ≤ i ∧ i < I 43) (hw : 0 ≤ w ∧ w ≤ 4) : CC l D cI O yX10_chord cX10_chord 3 (some .int) 4 [.ref (ad 19), .int (iZ i), .int (iZ w)] (ad, I, A) (pI fun r u2 => r = (if w = 0 then A 44 i else if w = 1 then A 45 i else if w = 2 then A 46 i else if w = 3 then ctsA A i else A 47 i) ∧ u2 = (ad, I, A)) := by
  refine ct_intro (own := RX10) (by decide) rfl hO.1.1 (Nat.le_of_ble_eq_true rfl) (by simp [Value.category]) (fun X J hJ => ?_)
  show J 0 [some (.ref (ad 19)), some (.int (iZ i)), some (.int (iZ w))] [] (ad, I, A)
  obtain ⟨⟨c1, c2⟩, c3⟩ := id hC
  refine v_ald0 (pc := 0) hJ dX10_chord_0 ?_
  refine cgX10_23 (pc := 1) hJ dX10_chord_1 ?_
  rw [h3]
  refine v_ild1 (pc := 4) hJ dX10_chord_4 ?_
  refine v_cV1i (pc := 5) (q0 := 3) (ci := 5) hJ rfl rfl lkX10_120 (qX8_hasChord hO (by omega) (by have := hC.1; omega)) (Nat.le_of_ble_eq_true rfl) (rOk_L (by decide) (by decide)) dX10_chord_5 (fun r5 u5 g5 => ?_)
  obtain ⟨g5a, g5b, rfl⟩ := g5
  refine v_if_ne (tgt := 21) (pc := 8) hJ dX10_chord_8 (by decide) (by omega) (fun h8 => ?_) (fun h8 => ?_)
  · refine v_ild2 (pc := 21) hJ dX10_chord_21 ?_
    by_cases hsw22 : w < 0 ∨ 4 < w
    · refine v_tableOut (tgt := 105) (pc := 22) hJ dX10_chord_22 (by omega) hsw22 (by decide) ?_
      exfalso; omega
    · rcases (show w = 0 ∨ w = 1 ∨ w = 2 ∨ w = 3 ∨ w = 4 by omega) with rfl | rfl | rfl | rfl | rfl
      · refine v_tableIn (off := 34) (tgt := 56) (pc := 22) hJ dX10_chord_22 (by omega) (by decide) (by decide) rfl (by decide) ?_
        refine v_ald0 (pc := 56) hJ dX10_chord_56 ?_
        refine cgX10_23 (pc := 57) hJ dX10_chord_57 ?_
        rw [h3]
        refine cgX10_126a (pc := 60) hJ dX10_chord_60 ?_
        refine v_ild1 (pc := 63) hJ dX10_chord_63 ?_
        refine ca44 (pc := 64) hJ (by omega) (by omega) dX10_chord_64 ?_
        try simp only [up_s, up_n, up_up, ne_eq, Nat.reduceEqDiff, not_false_eq_true]
        refine v_iret (pc := 65) hJ dX10_chord_65 ⟨_, rfl, ?_⟩
        exact ⟨by simp, rfl⟩
      · refine v_tableIn (off := 44) (tgt := 66) (pc := 22) hJ dX10_chord_22 (by omega) (by decide) (by decide) rfl (by decide) ?_
        refine v_ald0 (pc := 66) hJ dX10_chord_66 ?_
        refine cgX10_23 (pc := 67) hJ dX10_chord_67 ?_
        rw [h3]
        refine cgX10_129a (pc := 70) hJ dX10_chord_70 ?_
        refine v_ild1 (pc := 73) hJ dX10_chord_73 ?_
        refine ca45 (pc := 74) hJ (by omega) (by omega) dX10_chord_74 ?_
        try simp only [up_s, up_n, up_up, ne_eq, Nat.reduceEqDiff, not_false_eq_true]
        refine v_iret (pc := 75) hJ dX10_chord_75 ⟨_, rfl, ?_⟩
        exact ⟨by simp, rfl⟩
      · refine v_tableIn (off := 54) (tgt := 76) (pc := 22) hJ dX10_chord_22 (by omega) (by decide) (by decide) rfl (by decide) ?_
        refine v_ald0 (pc := 76) hJ dX10_chord_76 ?_
        refine cgX10_23 (pc := 77) hJ dX10_chord_77 ?_
        rw [h3]
        refine cgX10_132a (pc := 80) hJ dX10_chord_80 ?_
        refine v_ild1 (pc := 83) hJ dX10_chord_83 ?_
        refine ca46 (pc := 84) hJ (by omega) (by omega) dX10_chord_84 ?_
        try simp only [up_s, up_n, up_up, ne_eq, Nat.reduceEqDiff, not_false_eq_true]
        refine v_iret (pc := 85) hJ dX10_chord_85 ⟨_, rfl, ?_⟩
        exact ⟨by simp, rfl⟩
      · refine v_tableIn (off := 64) (tgt := 86) (pc := 22) hJ dX10_chord_22 (by omega) (by decide) (by decide) rfl (by decide) ?_
        refine v_ald0 (pc := 86) hJ dX10_chord_86 ?_
        refine cgX10_23 (pc := 87) hJ dX10_chord_87 ?_
        rw [h3]
        refine v_ild1 (pc := 90) hJ dX10_chord_90 ?_
        refine v_cV1i (pc := 91) (q0 := 3) (ci := 5) hJ rfl rfl lkX10_135 (qX8_tonesOf hO hC hi) (Nat.le_of_ble_eq_true rfl) (rOk_L (by decide) (by decide)) dX10_chord_91 (fun r91 u91 g91 => ?_)
        obtain ⟨rfl, rfl⟩ := g91
        try simp only [up_s, up_n, up_up, ne_eq, Nat.reduceEqDiff, not_false_eq_true]
        refine v_iret (pc := 94) hJ dX10_chord_94 ⟨_, rfl, ?_⟩
        exact ⟨by simp, rfl⟩
      · refine v_tableIn (off := 73) (tgt := 95) (pc := 22) hJ dX10_chord_22 (by omega) (by decide) (by decide) rfl (by decide) ?_
        refine v_ald0 (pc := 95) hJ dX10_chord_95 ?_
        refine cgX10_23 (pc := 96) hJ dX10_chord_96 ?_
        rw [h3]
        refine cgX10_139a (pc := 99) hJ dX10_chord_99 ?_
        refine v_ild1 (pc := 102) hJ dX10_chord_102 ?_
        refine ca47 (pc := 103) hJ (by omega) (by omega) dX10_chord_103 ?_
        try simp only [up_s, up_n, up_up, ne_eq, Nat.reduceEqDiff, not_false_eq_true]
        refine v_iret (pc := 104) hJ dX10_chord_104 ⟨_, rfl, ?_⟩
        exact ⟨by simp, rfl⟩
  · exfalso; have := g5b.mpr hi; omega
set_option maxHeartbeats 4000000 in
set_option maxRecDepth 100000 in
theorem qX10_name {l : Launch} {D : va_G} {cI : ClassId} {O : OT} {adK adV : Nat → Nat} {tT : Nat} (hO : OGC O adK adV tT) {ad : Nat → Nat} {I : Nat → Int} {A : Nat → Int → Int} {i : Int} (h3 : ad 3 = ad 59) (hC : cokC I A) (hi : 0 ≤ i ∧ i < I 43) : CC l D cI O yX10_name cX10_name 2 (some .int) 8 [.ref (ad 19), .int (iZ i)] (ad, I, A) (pI fun r u2 => ∃ F, hasO F r (cnmA A i) ∧ u2 = (ad, va_up I 81 r, va_up A 80 F)) := by
  refine ct_intro (own := RX10) (by decide) rfl hO.1.1 (Nat.le_of_ble_eq_true rfl) (by simp [Value.category]) (fun X J hJ => ?_)
  show J 0 [some (.ref (ad 19)), some (.int (iZ i))] [] (ad, I, A)
  obtain ⟨⟨c1, c2⟩, c3⟩ := id hC
  refine v_ald0 (pc := 0) hJ dX10_name_0 ?_
  refine cgX10_23 (pc := 1) hJ dX10_name_1 ?_
  rw [h3]
  refine v_ild1 (pc := 4) hJ dX10_name_4 ?_
  refine v_cV1i (pc := 5) (q0 := 3) (ci := 5) hJ rfl rfl lkX10_120 (qX8_hasChord hO (by omega) (by have := hC.1; omega)) (Nat.le_of_ble_eq_true rfl) (rOk_L (by decide) (by decide)) dX10_name_5 (fun r5 u5 g5 => ?_)
  obtain ⟨g5a, g5b, rfl⟩ := g5
  refine v_if_ne (tgt := 21) (pc := 8) hJ dX10_name_8 (by decide) (by omega) (fun h8 => ?_) (fun h8 => ?_)
  · refine v_ald0 (pc := 21) hJ dX10_name_21 ?_
    refine cgX10_37 (pc := 22) hJ dX10_name_22 ?_
    refine v_iconst (pc := 25) hJ dX10_name_25 ?_
    refine cpX10_144 (pc := 26) hJ dX10_name_26 ?_
    refine v_ald0 (pc := 29) hJ dX10_name_29 ?_
    refine cgX10_37 (pc := 30) hJ dX10_name_30 ?_
    refine v_ald0 (pc := 33) hJ dX10_name_33 ?_
    refine cgX10_23 (pc := 34) hJ dX10_name_34 ?_
    rw [h3]
    refine v_ild1 (pc := 37) hJ dX10_name_37 ?_
    refine v_cV2v (pc := 38) (q0 := 15) (ci := 2) hJ rfl rfl lkX10_147 (qX5_putName (xs := []) hO (by simp only [cokC, up_s, up_n, up_up, ne_eq, Nat.reduceEqDiff, not_false_eq_true]; exact hC) (by simp only [up_s, up_n, up_up, ne_eq, Nat.reduceEqDiff, not_false_eq_true]; exact hi) (by simp only [up_s, up_n, up_up, ne_eq, Nat.reduceEqDiff, not_false_eq_true]; exact hasO_nil _) (by decide)) (Nat.le_of_ble_eq_true rfl) (rOk_L (by decide) (by decide)) dX10_name_38 (fun u38 g38 => ?_)
    obtain ⟨n38, F38, hF38, rfl⟩ := g38
    rw [List.nil_append] at hF38
    try simp only [up_s, up_n, up_up, ne_eq, Nat.reduceEqDiff, not_false_eq_true]
    refine v_ald0 (pc := 41) hJ dX10_name_41 ?_
    refine cgX10_37 (pc := 42) hJ dX10_name_42 ?_
    refine cgX10_144 (pc := 45) hJ dX10_name_45 ?_
    try simp only [up_s, up_n, up_up, ne_eq, Nat.reduceEqDiff, not_false_eq_true]
    refine v_iret (pc := 48) hJ dX10_name_48 ⟨_, rfl, ?_⟩
    exact ⟨F38, hF38, rfl⟩
  · exfalso; have := g5b.mpr hi; omega
set_option maxHeartbeats 4000000 in
set_option maxRecDepth 100000 in
theorem qX10_write {l : Launch} {D : va_G} {cI : ClassId} {O : OT} {adK adV : Nat → Nat} {tT : Nat} (hO : OGC O adK adV tT) {ad : Nat → Nat} {I : Nat → Int} {A : Nat → Int → Int}  (h3 : ad 3 = ad 59) (hC : cokC I A) (hI : cokI I A) (h42 : 0 ≤ I 42 ∧ I 42 ≤ 40) (hinc : incS A (I 41)) : CC l D cI O yX10_write cX10_write 1 (some .int) 10 [.ref (ad 19)] (ad, I, A) (pI fun r u2 => ∃ F G, hasO F r (wrN (sU A) (I 41) (cnmA A) (I 42).toNat).2 ∧ u2 = (ad, va_up I 81 r, va_up (va_up A 100 G) 80 F)) := by
  refine ct_intro (own := RX10) (by decide) rfl hO.1.1 (Nat.le_of_ble_eq_true rfl) (by simp [Value.category]) (fun X J hJ => ?_)
  show J 0 [some (.ref (ad 19))] [] (ad, I, A)
  refine v_ald0 (pc := 0) hJ dX10_write_0 ?_
  refine cgX10_37 (pc := 1) hJ dX10_write_1 ?_
  refine v_iconst (pc := 4) hJ dX10_write_4 ?_
  refine cpX10_144 (pc := 5) hJ dX10_write_5 ?_
  refine v_ald0 (pc := 8) hJ dX10_write_8 ?_
  refine cgX10_44 (pc := 9) hJ dX10_write_9 ?_
  refine v_ald0 (pc := 12) hJ dX10_write_12 ?_
  refine cgX10_23 (pc := 13) hJ dX10_write_13 ?_
  rw [h3]
  refine v_ald0 (pc := 16) hJ dX10_write_16 ?_
  refine cgX10_37 (pc := 17) hJ dX10_write_17 ?_
  refine v_cV2v (pc := 20) (q0 := 17) (ci := 6) hJ rfl rfl lkX10_151 (qX9_putSong hO (by simp only [cokC, up_s, up_n, up_up, ne_eq, Nat.reduceEqDiff, not_false_eq_true]; exact hC) (by simp only [cokI, up_s, up_n, up_up, ne_eq, Nat.reduceEqDiff, not_false_eq_true]; exact hI) (by simp only [up_s, up_n, up_up, ne_eq, Nat.reduceEqDiff, not_false_eq_true]; exact h42) (by simp only [up_s, up_n, up_up, ne_eq, Nat.reduceEqDiff, not_false_eq_true]; exact hinc) (by simp only [up_s, up_n, up_up, ne_eq, Nat.reduceEqDiff, not_false_eq_true])) (Nat.le_of_ble_eq_true rfl) (rOk_L (by decide) (by decide)) dX10_write_20 (fun u20 g20 => ?_)
  obtain ⟨n20, F20, G20, hF20, rfl⟩ := g20
  simp only [up_s, up_n, up_up, ne_eq, Nat.reduceEqDiff, not_false_eq_true] at hF20
  try simp only [up_s, up_n, up_up, ne_eq, Nat.reduceEqDiff, not_false_eq_true]
  refine v_ald0 (pc := 23) hJ dX10_write_23 ?_
  refine cgX10_37 (pc := 24) hJ dX10_write_24 ?_
  refine cgX10_144 (pc := 27) hJ dX10_write_27 ?_
  try simp only [up_s, up_n, up_up, ne_eq, Nat.reduceEqDiff, not_false_eq_true]
  refine v_iret (pc := 30) hJ dX10_write_30 ⟨_, rfl, ?_⟩
  exact ⟨F20, G20, hF20, rfl⟩
set_option maxHeartbeats 4000000 in
set_option maxRecDepth 100000 in
theorem qX10_told {l : Launch} {D : va_G} {cI : ClassId} {O : OT} {adK adV : Nat → Nat} {tT : Nat} (hO : OGC O adK adV tT) {ad : Nat → Nat} {I : Nat → Int} {A : Nat → Int → Int} {k : Int} (h81 : 0 ≤ I 81 ∧ I 81 < 1000000) (hk : 0 ≤ k ∧ k < (if I 81 < 4000 then I 81 else 4000)) : CC l D cI O yX10_told cX10_told 2 (some .int) 3 [.ref (ad 19), .int (iZ k)] (ad, I, A) (pI fun r u2 => r = A 80 k ∧ u2 = (ad, I, A)) := by
  refine ct_intro (own := RX10) (by decide) rfl hO.1.1 (Nat.le_of_ble_eq_true rfl) (by simp [Value.category]) (fun X J hJ => ?_)
  show J 0 [some (.ref (ad 19)), some (.int (iZ k))] [] (ad, I, A)
  have hk2 : k < 4000 := by have := hk.2; split at this <;> omega
  refine v_ild1 (pc := 0) hJ dX10_told_0 ?_
  refine v_if_lt (tgt := 15) (pc := 1) hJ dX10_told_1 (by decide) (by omega) (fun h1 => ?_) (fun h1 => ?_)
  · exfalso; omega
  · refine v_ild1 (pc := 4) hJ dX10_told_4 ?_
    refine v_ald0 (pc := 5) hJ dX10_told_5 ?_
    refine cgX10_37 (pc := 6) hJ dX10_told_6 ?_
    refine v_cV0i (pc := 9) (q0 := 15) (ci := 2) hJ rfl rfl lkX10_155 (qX5_keptLength hO (by omega)) (Nat.le_of_ble_eq_true rfl) (rOk_L (by decide) (by decide)) dX10_told_9 (fun r9 u9 g9 => ?_)
    obtain ⟨rfl, rfl⟩ := g9
    refine v_icmp_lt (tgt := 25) (pc := 12) hJ dX10_told_12 (by decide) (by omega) (by split <;> omega) (fun h12 => ?_) (fun h12 => ?_)
    · refine v_ald0 (pc := 25) hJ dX10_told_25 ?_
      refine cgX10_37 (pc := 26) hJ dX10_told_26 ?_
      refine cgX10_161 (pc := 29) hJ dX10_told_29 ?_
      refine v_ild1 (pc := 32) hJ dX10_told_32 ?_
      refine ca80 (pc := 33) hJ (by omega) (by omega) dX10_told_33 ?_
      try simp only [up_s, up_n, up_up, ne_eq, Nat.reduceEqDiff, not_false_eq_true]
      refine v_iret (pc := 34) hJ dX10_told_34 ⟨_, rfl, ?_⟩
      exact ⟨rfl, rfl⟩
    · exfalso; omega
set_option maxHeartbeats 4000000 in
set_option maxRecDepth 100000 in
theorem qX10_string {l : Launch} {D : va_G} {cI : ClassId} {O : OT} {adK adV : Nat → Nat} {tT : Nat} (hO : OGC O adK adV tT) {ad : Nat → Nat} {I : Nat → Int} {A : Nat → Int → Int} {p : Int} (hp : 0 ≤ p ∧ p ≤ 60) (h121 : 0 ≤ I 121 ∧ I 121 ≤ 6) : CC l D cI O yX10_string cX10_string 2 (some .int) 5 [.ref (ad 19), .int (iZ p)] (ad, I, A) (pI fun r u2 => (I 121 = 6 → r = -1 ∧ u2 = (ad, I, A)) ∧ (I 121 < 6 → r = I 121 + 1 ∧ ∃ F, (∀ j, 0 ≤ j → j < 480 → F j = -1) ∧ u2 = (ad, va_up (va_up I 121 (I 121 + 1)) 164 (-1), va_up (va_up A 120 (zu (A 120) (I 121) p)) 141 F))) := by
  refine ct_intro (own := RX10) (by decide) rfl hO.1.1 (Nat.le_of_ble_eq_true rfl) (by simp [Value.category]) (fun X J hJ => ?_)
  show J 0 [some (.ref (ad 19)), some (.int (iZ p))] [] (ad, I, A)
  refine v_ild1 (pc := 0) hJ dX10_string_0 ?_
  refine v_if_lt (tgt := 10) (pc := 1) hJ dX10_string_1 (by decide) (by omega) (fun h1 => ?_) (fun h1 => ?_)
  · exfalso; omega
  · refine v_ild1 (pc := 4) hJ dX10_string_4 ?_
    refine v_bipush (pc := 5) hJ dX10_string_5 (by decide) ?_
    refine v_icmp_le (tgt := 20) (pc := 7) hJ dX10_string_7 (by decide) (by omega) (by omega) (fun h7 => ?_) (fun h7 => ?_)
    · refine v_ald0 (pc := 20) hJ dX10_string_20 ?_
      refine cgX10_51 (pc := 21) hJ dX10_string_21 ?_
      refine cgX10_166 (pc := 24) hJ dX10_string_24 ?_
      refine v_bipush (pc := 27) hJ dX10_string_27 (by decide) ?_
      refine v_icmp_lt (tgt := 34) (pc := 29) hJ dX10_string_29 (by decide) (by omega) (by omega) (fun h29 => ?_) (fun h29 => ?_)
      · refine v_ald0 (pc := 34) hJ dX10_string_34 ?_
        refine cgX10_51 (pc := 35) hJ dX10_string_35 ?_
        refine cgX10_169 (pc := 38) hJ dX10_string_38 ?_
        refine v_ald0 (pc := 41) hJ dX10_string_41 ?_
        refine cgX10_51 (pc := 42) hJ dX10_string_42 ?_
        refine cgX10_166 (pc := 45) hJ dX10_string_45 ?_
        refine v_ild1 (pc := 48) hJ dX10_string_48 ?_
        refine cs120 (pc := 49) hJ (by omega) (by omega) dX10_string_49 ?_
        refine v_ald0 (pc := 50) hJ dX10_string_50 ?_
        refine cgX10_51 (pc := 51) hJ dX10_string_51 ?_
        refine v_dup (pc := 54) hJ dX10_string_54 rfl ?_
        refine cgX10_166 (pc := 55) hJ dX10_string_55 ?_
        try simp only [up_s, up_n, up_up, ne_eq, Nat.reduceEqDiff, not_false_eq_true]
        refine v_iconst (pc := 58) hJ dX10_string_58 ?_
        refine v_iadd (pc := 59) hJ dX10_string_59 ?_
        refine cpX10_166 (pc := 60) hJ dX10_string_60 ?_
        refine v_ald0 (pc := 63) hJ dX10_string_63 ?_
        refine v_cV0v (pc := 64) (q0 := 0) (ci := 7) hJ rfl rfl lkX10_96 (qX10_forgetHands hO) (Nat.le_of_ble_eq_true rfl) (rOk_L (by decide) (by decide)) dX10_string_64 (fun u64 g64 => ?_)
        obtain ⟨F64, hF64, rfl⟩ := g64
        try simp only [up_s, up_n, up_up, ne_eq, Nat.reduceEqDiff, not_false_eq_true]
        refine v_ald0 (pc := 67) hJ dX10_string_67 ?_
        refine cgX10_51 (pc := 68) hJ dX10_string_68 ?_
        refine cgX10_166 (pc := 71) hJ dX10_string_71 ?_
        try simp only [up_s, up_n, up_up, ne_eq, Nat.reduceEqDiff, not_false_eq_true]
        refine v_iret (pc := 74) hJ dX10_string_74 ⟨_, rfl, ?_⟩
        exact ⟨fun q => by omega, fun _ => ⟨rfl, F64, hF64, rfl⟩⟩
      · refine v_iconst (pc := 32) hJ dX10_string_32 ?_
        refine v_iret (pc := 33) hJ dX10_string_33 ⟨_, rfl, ?_⟩
        exact ⟨fun _ => ⟨rfl, rfl⟩, fun q => by omega⟩
    · exfalso; omega
set_option maxHeartbeats 4000000 in
set_option maxRecDepth 100000 in
theorem qX10_unstring {l : Launch} {D : va_G} {cI : ClassId} {O : OT} {adK adV : Nat → Nat} {tT : Nat} (hO : OGC O adK adV tT) {ad : Nat → Nat} {I : Nat → Int} {A : Nat → Int → Int}   : CC l D cI O yX10_unstring cX10_unstring 2 (some .int) 5 [.ref (ad 19)] (ad, I, A) (pI fun r u2 => r = I 121 ∧ ∃ F, (∀ j, 0 ≤ j → j < 480 → F j = -1) ∧ u2 = (ad, va_up (va_up I 121 0) 164 (-1), va_up A 141 F)) := by
  refine ct_intro (own := RX10) (by decide) rfl hO.1.1 (Nat.le_of_ble_eq_true rfl) (by simp [Value.category]) (fun X J hJ => ?_)
  show J 0 [some (.ref (ad 19)), none] [] (ad, I, A)
  refine v_ald0 (pc := 0) hJ dX10_unstring_0 ?_
  refine cgX10_51 (pc := 1) hJ dX10_unstring_1 ?_
  refine cgX10_166 (pc := 4) hJ dX10_unstring_4 ?_
  refine v_ist1 (pc := 7) hJ dX10_unstring_7 (by decide) ?_
  refine v_ald0 (pc := 8) hJ dX10_unstring_8 ?_
  refine cgX10_51 (pc := 9) hJ dX10_unstring_9 ?_
  refine v_iconst (pc := 12) hJ dX10_unstring_12 ?_
  refine cpX10_166 (pc := 13) hJ dX10_unstring_13 ?_
  refine v_ald0 (pc := 16) hJ dX10_unstring_16 ?_
  refine v_cV0v (pc := 17) (q0 := 0) (ci := 7) hJ rfl rfl lkX10_96 (qX10_forgetHands hO) (Nat.le_of_ble_eq_true rfl) (rOk_L (by decide) (by decide)) dX10_unstring_17 (fun u17 g17 => ?_)
  obtain ⟨F17, hF17, rfl⟩ := g17
  try simp only [up_s, up_n, up_up, ne_eq, Nat.reduceEqDiff, not_false_eq_true]
  refine v_ild1 (pc := 20) hJ dX10_unstring_20 ?_
  refine v_iret (pc := 21) hJ dX10_unstring_21 ⟨_, rfl, ?_⟩
  exact ⟨rfl, F17, hF17, rfl⟩
def hndP (ad : Nat → Nat) (I : Nat → Int) (A : Nat → Int → Int) (u : sC) : Prop := u.1 = ad ∧ frP I A u.2.1 u.2.2 ∧ cokH u.2.1 u.2.2
set_option maxHeartbeats 4000000 in
set_option maxRecDepth 100000 in
theorem qX10_hands {l : Launch} {D : va_G} {cI : ClassId} {O : OT} {adK adV : Nat → Nat} {tT : Nat} (hO : OGC O adK adV tT) {ad : Nat → Nat} {I : Nat → Int} {A : Nat → Int → Int} {i bar : Int} (h3 : ad 3 = ad 59) (hC : cokC I A) (hN : cokN I A) (hH : cokH I A) (hi : 0 ≤ i ∧ i < I 43) (hb : 0 ≤ bar ∧ bar ≤ 7) : CC l D cI O yX10_hands cX10_hands 3 (some .int) 13 [.ref (ad 19), .int (iZ i), .int (iZ bar)] (ad, I, A) (pI fun r u2 => r = ((chdA I A i bar).length : Int) ∧ (chdA I A i bar).length ≤ 6 ∧ hndP ad I A u2) := by
  refine ct_intro (own := RX10) (by decide) rfl hO.1.1 (Nat.le_of_ble_eq_true rfl) (by simp [Value.category]) (fun X J hJ => ?_)
  show J 0 [some (.ref (ad 19)), some (.int (iZ i)), some (.int (iZ bar))] [] (ad, I, A)
  obtain ⟨⟨c1, c2⟩, c3⟩ := id hC
  refine v_ald0 (pc := 0) hJ dX10_hands_0 ?_
  refine cgX10_23 (pc := 1) hJ dX10_hands_1 ?_
  rw [h3]
  refine v_ild1 (pc := 4) hJ dX10_hands_4 ?_
  refine v_cV1i (pc := 5) (q0 := 3) (ci := 5) hJ rfl rfl lkX10_120 (qX8_hasChord hO (by omega) (by have := hC.1; omega)) (Nat.le_of_ble_eq_true rfl) (rOk_L (by decide) (by decide)) dX10_hands_5 (fun r5 u5 g5 => ?_)
  obtain ⟨g5a, g5b, rfl⟩ := g5
  refine v_if_ne (tgt := 21) (pc := 8) hJ dX10_hands_8 (by decide) (by omega) (fun h8 => ?_) (fun h8 => ?_)
  · refine v_ild2 (pc := 21) hJ dX10_hands_21 ?_
    refine v_cS1i (pc := 22) hJ lkX10_172 (qX10_isBar hO (by omega)) (Nat.le_of_ble_eq_true rfl) (rOk_L (by decide) (by decide)) dX10_hands_22 (fun r22 u22 g22 => ?_)
    obtain ⟨g22a, g22b, rfl⟩ := g22
    try simp only [up_s, up_n, up_up, ne_eq, Nat.reduceEqDiff, not_false_eq_true]
    refine v_if_ne (tgt := 38) (pc := 25) hJ dX10_hands_25 (by decide) (by omega) (fun h25 => ?_) (fun h25 => ?_)
    · refine v_ald0 (pc := 38) hJ dX10_hands_38 ?_
      refine cgX10_58 (pc := 39) hJ dX10_hands_39 ?_
      refine cgX10_177 (pc := 42) hJ dX10_hands_42 ?_
      refine v_ald0 (pc := 45) hJ dX10_hands_45 ?_
      refine cgX10_58 (pc := 46) hJ dX10_hands_46 ?_
      refine v_ald0 (pc := 49) hJ dX10_hands_49 ?_
      refine cgX10_23 (pc := 50) hJ dX10_hands_50 ?_
      rw [h3]
      refine v_ald0 (pc := 53) hJ dX10_hands_53 ?_
      refine cgX10_51 (pc := 54) hJ dX10_hands_54 ?_
      refine v_ild1 (pc := 57) hJ dX10_hands_57 ?_
      refine v_ild2 (pc := 58) hJ dX10_hands_58 ?_
      refine v_cV4i (pc := 59) (q0 := 23) (ci := 1) hJ rfl rfl lkX10_180 (qX2_pageOf hO hC hN hH hi hb) (Nat.le_of_ble_eq_true rfl) (rOk_L (by decide) (by decide)) dX10_hands_59 (fun r59 u59 g59 => ?_)
      obtain ⟨ad59, I59, A59⟩ := u59
      obtain ⟨p59a, p59b, p59c, p59d, p59e⟩ := g59
      dsimp only at p59b p59c p59d p59e
      subst p59b
      try simp only [up_s, up_n, up_up, ne_eq, Nat.reduceEqDiff, not_false_eq_true]
      refine ca141 (pc := 62) hJ (by omega) (by omega) dX10_hands_62 ?_
      try simp only [up_s, up_n, up_up, ne_eq, Nat.reduceEqDiff, not_false_eq_true]
      refine v_iret (pc := 63) hJ dX10_hands_63 ⟨_, rfl, ?_⟩
      exact ⟨p59e.1, p59e.2.1, rfl, p59c, p59d⟩
    · exfalso; have := g22b.mpr hb; omega
  · exfalso; have := g5b.mpr hi; omega
set_option maxHeartbeats 4000000 in
set_option maxRecDepth 100000 in
theorem qX10_fret {l : Launch} {D : va_G} {cI : ClassId} {O : OT} {adK adV : Nat → Nat} {tT : Nat} (hO : OGC O adK adV tT) {ad : Nat → Nat} {I : Nat → Int} {A : Nat → Int → Int} {i bar j s : Int} (h3 : ad 3 = ad 59) (hC : cokC I A) (hN : cokN I A) (hH : cokH I A) (hi : 0 ≤ i ∧ i < I 43) (hb : 0 ≤ bar ∧ bar ≤ 7) (hj : 0 ≤ j ∧ j < ((chdA I A i bar).length : Int)) (hs : -1 ≤ s ∧ s < I 121) : CC l D cI O yX10_fret cX10_fret 7 (some .int) 14 [.ref (ad 19), .int (iZ i), .int (iZ bar), .int (iZ j), .int (iZ s)] (ad, I, A) (pI fun r u2 => r = (if s = -1 then ((chdA I A i bar).getD j.toNat (0, [])).1 else ((chdA I A i bar).getD j.toNat (0, [])).2.getD s.toNat 0) ∧ hndP ad I A u2) := by
  refine ct_intro (own := RX10) (by decide) rfl hO.1.1 (Nat.le_of_ble_eq_true rfl) (by simp [Value.category]) (fun X J hJ => ?_)
  show J 0 [some (.ref (ad 19)), some (.int (iZ i)), some (.int (iZ bar)), some (.int (iZ j)), some (.int (iZ s)), none, none] [] (ad, I, A)
  obtain ⟨⟨c1, c2⟩, c3⟩ := id hC
  have n1 := hN.1
  obtain ⟨n, hn⟩ : ∃ n : Nat, (n : Int) = I 121 := ⟨(I 121).toNat, by omega⟩
  have hok := chd_ok (A := A) hn (by omega) i bar
  obtain ⟨jn, hjn⟩ : ∃ z : Nat, (z : Int) = j := ⟨j.toNat, by omega⟩
  have he := okHS_E hok (j := jn) (by omega)
  have hni := hn_in (by omega) he
  rw [show j.toNat = jn by omega] at hJ
  refine v_ald0 (pc := 0) hJ dX10_fret_0 ?_
  refine v_ild1 (pc := 1) hJ dX10_fret_1 ?_
  refine v_ild2 (pc := 2) hJ dX10_fret_2 ?_
  refine v_cV2i (pc := 3) (q0 := 0) (ci := 7) hJ rfl rfl lkX10_184 (qX10_hands hO h3 hC hN hH hi hb) (Nat.le_of_ble_eq_true rfl) (rOk_L (by decide) (by decide)) dX10_fret_3 (fun r3 u3 g3 => ?_)
  obtain ⟨rfl, l3, t3⟩ := g3
  obtain ⟨ad3, I3, A3⟩ := u3
  obtain ⟨e3, f3, k3⟩ := t3
  dsimp only at e3 f3 k3
  subst e3
  have i121 : I3 121 = I 121 := f3.1 121 (by decide) (by decide) (by decide) (by decide) (by decide)
  have i43 : I3 43 = I 43 := f3.1 43 (by decide) (by decide) (by decide) (by decide) (by decide)
  refine v_ist5 (pc := 6) hJ dX10_fret_6 (by decide) ?_
  refine v_ild3 (pc := 8) hJ dX10_fret_8 ?_
  refine v_if_lt (tgt := 18) (pc := 9) hJ dX10_fret_9 (by decide) (by omega) (fun h9 => ?_) (fun h9 => ?_)
  · exfalso; omega
  · refine v_ild3 (pc := 12) hJ dX10_fret_12 ?_
    refine v_ild5 (pc := 13) hJ dX10_fret_13 ?_
    refine v_icmp_lt (tgt := 28) (pc := 15) hJ dX10_fret_15 (by decide) (by omega) (by omega) (fun h15 => ?_) (fun h15 => ?_)
    · refine v_ild4 (pc := 28) hJ dX10_fret_28 ?_
      refine v_iconst (pc := 30) hJ dX10_fret_30 ?_
      refine v_icmp_lt (tgt := 46) (pc := 31) hJ dX10_fret_31 (by decide) (by omega) (by omega) (fun h31 => ?_) (fun h31 => ?_)
      · exfalso; omega
      · refine v_ild4 (pc := 34) hJ dX10_fret_34 ?_
        refine v_ald0 (pc := 36) hJ dX10_fret_36 ?_
        refine cgX10_51 (pc := 37) hJ dX10_fret_37 ?_
        
        refine cgX10_166 (pc := 40) hJ dX10_fret_40 ?_
        try simp only [up_s, up_n, up_up, ne_eq, Nat.reduceEqDiff, not_false_eq_true]
        rw [i121]
        refine v_icmp_lt (tgt := 56) (pc := 43) hJ dX10_fret_43 (by decide) (by omega) (by omega) (fun h43 => ?_) (fun h43 => ?_)
        · refine v_ald0 (pc := 56) hJ dX10_fret_56 ?_
          refine cgX10_58 (pc := 57) hJ dX10_fret_57 ?_
          refine cgX10_191 (pc := 60) hJ dX10_fret_60 ?_
          refine v_ald0 (pc := 63) hJ dX10_fret_63 ?_
          refine cgX10_58 (pc := 64) hJ dX10_fret_64 ?_
          refine v_ald0 (pc := 67) hJ dX10_fret_67 ?_
          refine cgX10_23 (pc := 68) hJ dX10_fret_68 ?_
          rw [h3]
          refine v_ald0 (pc := 71) hJ dX10_fret_71 ?_
          refine cgX10_51 (pc := 72) hJ dX10_fret_72 ?_
          refine v_ild1 (pc := 75) hJ dX10_fret_75 ?_
          refine v_ild2 (pc := 76) hJ dX10_fret_76 ?_
          refine v_cV4i (pc := 77) (q0 := 23) (ci := 1) hJ rfl rfl lkX10_180 (qX2_pageOf hO (frP_C f3 hC) (frP_N f3 hN) k3 (by omega) hb) (Nat.le_of_ble_eq_true rfl) (rOk_L (by decide) (by decide)) dX10_fret_77 (fun r77 u77 g77 => ?_)
          obtain ⟨ad77, I77, A77⟩ := u77
          obtain ⟨p77a, p77b, p77c, p77d, p77e⟩ := g77
          dsimp only at p77b p77c p77d p77e
          subst p77b
          have p77e2 : A77 140 (r77 * 6 + j) = hnE ((chdA I3 A3 i bar).getD jn (0, [])) := by
            have := p77e.2.2 jn (by rw [frP_hd f3]; omega)
            rw [← this, ← hjn, show r77 * 6 + (jn : Int) = 6 * r77 + (jn : Int) by omega]
          try simp only [up_s, up_n, up_up, ne_eq, Nat.reduceEqDiff, not_false_eq_true]
          refine v_bipush (pc := 80) hJ dX10_fret_80 (by decide) ?_
          refine v_imul (pc := 82) hJ dX10_fret_82 ?_
          refine v_ild3 (pc := 83) hJ dX10_fret_83 ?_
          refine v_iadd (pc := 84) hJ dX10_fret_84 ?_
          refine ca140 (pc := 85) hJ (by omega) (by omega) dX10_fret_85 ?_
          try simp only [up_s, up_n, up_up, ne_eq, Nat.reduceEqDiff, not_false_eq_true]
          rw [p77e2, show (chdA I3 A3 i bar) = chdA I A i bar from frP_hd f3 i bar]
          refine v_ist6 (pc := 86) hJ dX10_fret_86 (by decide) ?_
          refine v_ild4 (pc := 88) hJ dX10_fret_88 ?_
          refine v_iconst (pc := 90) hJ dX10_fret_90 ?_
          refine v_icmp_ne (tgt := 102) (pc := 91) hJ dX10_fret_91 (by decide) (by omega) (by omega) (fun h91 => ?_) (fun h91 => ?_)
          · obtain ⟨sn, hsn⟩ : ∃ z : Nat, (z : Int) = s := ⟨s.toNat, by omega⟩
            refine v_ild6 (pc := 102) hJ dX10_fret_102 ?_
            refine v_ild4 (pc := 104) hJ dX10_fret_104 ?_
            rw [← hsn]
            refine v_cS2i (pc := 106) hJ lkX10_199 (qX1_fretOf hO (by omega) (by omega)) (Nat.le_of_ble_eq_true rfl) (rOk_L (by decide) (by decide)) dX10_fret_106 (fun r106 u106 g106 => ?_)
            obtain ⟨rfl, rfl⟩ := g106
            try simp only [up_s, up_n, up_up, ne_eq, Nat.reduceEqDiff, not_false_eq_true]
            refine v_iret (pc := 109) hJ dX10_fret_109 ⟨_, rfl, ?_⟩
            refine ⟨?_, rfl, frP_tr f3 p77c, p77d⟩
            rw [if_neg h91, show frOf (hnE ((chdA I A i bar).getD jn (0, []))) sn = _ from frOf_hn (by omega) he sn (by omega), if_pos (by omega)]
            show gL _ _ = _
            unfold gL
            rw [show s.toNat = sn by omega, Int.toNat_natCast]
          · refine v_ild6 (pc := 94) hJ dX10_fret_94 ?_
            refine v_cS1i (pc := 96) hJ lkX10_194 (qX1_strainOf hO (by omega)) (Nat.le_of_ble_eq_true rfl) (rOk_L (by decide) (by decide)) dX10_fret_96 (fun r96 u96 g96 => ?_)
            obtain ⟨rfl, rfl⟩ := g96
            try simp only [up_s, up_n, up_up, ne_eq, Nat.reduceEqDiff, not_false_eq_true]
            refine v_goto (tgt := 109) (pc := 99) hJ dX10_fret_99 (by decide) ?_
            refine v_iret (pc := 109) hJ dX10_fret_109 ⟨_, rfl, ?_⟩
            refine ⟨?_, rfl, frP_tr f3 p77c, p77d⟩
            rw [if_pos h91]
            exact hni.2.2
        · exfalso; omega
    · exfalso; omega
def plyP (ad : Nat → Nat) (I : Nat → Int) (A : Nat → Int → Int) (n : Nat) (hs : Int → HS) (bar r : Int) (u : sC) : Prop := u.1 = ad ∧ cokH u.2.1 u.2.2 ∧ (∀ k, k ≠ 123 → k ≠ 125 → k ≠ 126 → k ≠ 127 → k ≠ 128 → k ≠ 162 → k ≠ 164 → u.2.1 k = I k) ∧ (∀ k, k ≠ 122 → k ≠ 124 → k ≠ 140 → k ≠ 141 → k ≠ 160 → k ≠ 161 → k ≠ 163 → u.2.2 k = A k) ∧ (gdL hs (I 43) → r = mnN (rsG n hs (I 43) 0) (hs 0).length ∧ u.2.1 164 = bar ∧ ∀ i : Nat, (i : Int) < I 43 → u.2.2 163 i = (jsG n hs (I 43) i : Int)) ∧ (¬ gdL hs (I 43) → r = -1 ∧ u.2.1 164 = I 164 ∧ u.2.2 163 = A 163)
theorem cokH_kp {I : Nat → Int} {A : Nat → Int → Int} {b : Int} {P : Int → Int} (h : cokH I A) : cokH (va_up I 164 b) (va_up A 163 P) := cokH_cg (by rw [up_n (by decide)]) (by rw [up_n (by decide)]) (by rw [up_n (by decide)]) (by rw [up_n (by decide)]) (by rw [up_n (by decide)]) (by rw [up_n (by decide)]) (by rw [up_n (by decide)]) (by rw [up_n (by decide)]) h
theorem lsP_r {ad : Nat → Nat} {I : Nat → Int} {A : Nat → Int → Int} {n : Nat} {hs : Int → HS} {r : Int} {u : sC} (h : lsP ad I A n hs r u) : (r = -1 ∧ ¬ gdL hs (I 43)) ∨ ((0 ≤ r ∧ r ≤ 7000) ∧ gdL hs (I 43)) := by
  by_cases e : gdL hs (I 43)
  · exact Or.inr ⟨(h.2.2.2.1 e).1.2, e⟩
  · exact Or.inl ⟨h.2.2.2.2 e, e⟩
set_option maxHeartbeats 4000000 in
set_option maxRecDepth 100000 in
theorem qX10_play {l : Launch} {D : va_G} {cI : ClassId} {O : OT} {adK adV : Nat → Nat} {tT : Nat} (hO : OGC O adK adV tT) {ad : Nat → Nat} {I : Nat → Int} {A : Nat → Int → Int} {bar : Int} {n : Nat} {hs : Int → HS} (h3 : ad 3 = ad 59) (hC : cokC I A) (hN : cokN I A) (hH : cokH I A) (hn : (n : Int) = I 121) (hhs : ∀ i, hs i = chdA I A i bar) (hb : 0 ≤ bar ∧ bar ≤ 7) : CC l D cI O yX10_play cX10_play 3 (some .int) 14 [.ref (ad 19), .int (iZ bar)] (ad, I, A) (pI fun r u2 => plyP ad I A n hs bar r u2) := by
  refine ct_intro (own := RX10) (by decide) rfl hO.1.1 (Nat.le_of_ble_eq_true rfl) (by simp [Value.category]) (fun X J hJ => ?_)
  show J 0 [some (.ref (ad 19)), some (.int (iZ bar)), none] [] (ad, I, A)
  obtain ⟨⟨c1, c2⟩, c3⟩ := id hC
  have n1 := hN.1
  have HSO : ∀ i, okHS n (hs i) := fun i => by rw [hhs]; exact chd_ok hn (by omega) i bar
  have HL6 : ∀ k, (hs k).length ≤ 6 := fun k => by rw [hhs]; exact chd_l6 hn (by omega) k bar
  refine v_ild1 (pc := 0) hJ dX10_play_0 ?_
  refine v_cS1i (pc := 1) hJ lkX10_172 (qX10_isBar hO (by omega)) (Nat.le_of_ble_eq_true rfl) (rOk_L (by decide) (by decide)) dX10_play_1 (fun r1 u1 g1 => ?_)
  obtain ⟨g1a, g1b, rfl⟩ := g1
  refine v_if_ne (tgt := 17) (pc := 4) hJ dX10_play_4 (by decide) (by omega) (fun h4 => ?_) (fun h4 => ?_)
  · refine v_ald0 (pc := 17) hJ dX10_play_17 ?_
    refine cgX10_65 (pc := 18) hJ dX10_play_18 ?_
    refine v_ald0 (pc := 21) hJ dX10_play_21 ?_
    refine cgX10_23 (pc := 22) hJ dX10_play_22 ?_
    rw [h3]
    refine v_ald0 (pc := 25) hJ dX10_play_25 ?_
    refine cgX10_51 (pc := 26) hJ dX10_play_26 ?_
    refine v_ald0 (pc := 29) hJ dX10_play_29 ?_
    refine cgX10_58 (pc := 30) hJ dX10_play_30 ?_
    refine v_ild1 (pc := 33) hJ dX10_play_33 ?_
    refine v_cV4i (pc := 34) (q0 := 26) (ci := 3) hJ rfl rfl lkX10_202 (qX6_leastSum hO hn hhs hC hN hH hb) (Nat.le_of_ble_eq_true rfl) (rOk_L (by decide) (by decide)) dX10_play_34 (fun r34 u34 g34 => ?_)
    have hr34 := lsP_r g34
    obtain ⟨ad2, I2, A2⟩ := u34
    obtain ⟨s1, s2, s3, s4, s5⟩ := g34
    dsimp only at s1 s2 s3 s4 s5
    subst s1
    have i43 : I2 43 = I 43 := s2.1 43 (by decide) (by decide) (by decide) (by decide) (by decide) (by decide)
    try simp only [up_s, up_n, up_up, ne_eq, Nat.reduceEqDiff, not_false_eq_true]
    refine v_ist2 (pc := 37) hJ dX10_play_37 (by decide) ?_
    refine v_ild2 (pc := 38) hJ dX10_play_38 ?_
    refine v_iconst (pc := 39) hJ dX10_play_39 ?_
    refine v_icmp_eq (tgt := 58) (pc := 40) hJ dX10_play_40 (by decide) (by rcases hr34 with q | q <;> omega) (by decide) (fun h40 => ?_) (fun h40 => ?_)
    · have gn : ¬ gdL hs (I 43) := by rcases hr34 with q | q; exact q.2; (omega)
      refine v_ild2 (pc := 58) hJ dX10_play_58 ?_
      refine v_iret (pc := 59) hJ dX10_play_59 ⟨_, rfl, ?_⟩
      exact ⟨rfl, s3, fun k q1 q2 q3 q4 q5 q6 q7 => s2.1 k q1 q2 q3 q4 q5 q6, fun k q1 q2 q3 q4 q5 q6 q7 => s2.2 k q1 q2 q3 q4 q5 q6, fun q => absurd q gn, fun _ => ⟨h40, s2.1 164 (by decide) (by decide) (by decide) (by decide) (by decide) (by decide), s2.2 163 (by decide) (by decide) (by decide) (by decide) (by decide) (by decide)⟩⟩
    · have gd : gdL hs (I 43) := by rcases hr34 with q | q; (exact absurd q.1 h40); exact q.2
      have s4x := s4 gd
      have gd0 := gd.1
      refine v_ald0 (pc := 43) hJ dX10_play_43 ?_
      refine cgX10_65 (pc := 44) hJ dX10_play_44 ?_
      
      refine v_ald0 (pc := 47) hJ dX10_play_47 ?_
      refine cgX10_23 (pc := 48) hJ dX10_play_48 ?_
      rw [h3]
      refine cgX10_206a (pc := 51) hJ dX10_play_51 ?_
      try simp only [up_s, up_n, up_up, ne_eq, Nat.reduceEqDiff, not_false_eq_true]
      rw [i43]
      refine v_ild1 (pc := 54) hJ dX10_play_54 ?_
      refine v_cV2v (pc := 55) (q0 := 26) (ci := 3) hJ rfl rfl lkX10_209 (qX6_keepAt (n := n) (hs := hs) hO (by omega) (by omega) (fun i a b => ⟨HSO i, gd.2 i a (by omega)⟩) (fun i => HL6 i) (s4x.2.1) (fun i h a b c => (s4x.2.2 i h a (by omega) c))) (Nat.le_of_ble_eq_true rfl) (rOk_L (by decide) (by decide)) dX10_play_55 (fun u55 g55 => ?_)
      obtain ⟨P55, hP55, rfl⟩ := g55
      try simp only [up_s, up_n, up_up, ne_eq, Nat.reduceEqDiff, not_false_eq_true]
      refine v_ild2 (pc := 58) hJ dX10_play_58 ?_
      refine v_iret (pc := 59) hJ dX10_play_59 ⟨_, rfl, ?_⟩
      refine ⟨rfl, cokH_kp s3, fun k q1 q2 q3 q4 q5 q6 q7 => (up_n q7).trans (s2.1 k q1 q2 q3 q4 q5 q6), fun k q1 q2 q3 q4 q5 q6 q7 => (up_n q7).trans (s2.2 k q1 q2 q3 q4 q5 q6), fun _ => ⟨s4x.1.1, by simp only [up_s, up_n, up_up, ne_eq, Nat.reduceEqDiff, not_false_eq_true], fun i hi => ?_⟩, fun q => absurd gd q⟩
      simp only [up_s, up_n, up_up, ne_eq, Nat.reduceEqDiff, not_false_eq_true]
      exact hP55 i hi
  · exfalso; have := g1b.mpr hb; omega
