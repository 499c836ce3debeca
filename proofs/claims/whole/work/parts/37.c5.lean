/-- a sign of the text as the class sees it: NONE behind the end, where the reference has 0 -/
abbrev sgP (f : Int → Int) (n k r : Int) : Prop := (k < n ∧ r = f k ∧ 0 ≤ r ∧ r ≤ 255) ∨ (n ≤ k ∧ r = -1 ∧ f k = 0)
set_option maxHeartbeats 4000000 in
set_option maxRecDepth 100000 in
theorem qX7_signAt {l : Launch} {D : va_G} {cI : ClassId} {O : OT} {adK adV : Nat → Nat} {tT : Nat} (hO : OGC O adK adV tT) {ad : Nat → Nat} {I : Nat → Int} {A : Nat → Int → Int} {k : Int} (h20 : ad 20 = ad 0) (hk : 0 ≤ k ∧ k < 3000) (h21 : 0 ≤ I 21 ∧ I 21 ≤ 1200) (hT : ∀ j, 0 ≤ j → j < I 21 → 0 ≤ A 0 j ∧ A 0 j ≤ 255) : CC l D cI O yX7_signAt cX7_signAt 2 (some .int) 1 [.ref (ad 39), .int (iZ k)] (ad, I, A) (pI fun r u2 => sgP (bA (A 0) (I 21)) (I 21) k r ∧ u2 = (ad, I, A)) := by
  refine ct_intro (own := RX7) (by decide) rfl hO.1.1 (Nat.le_of_ble_eq_true rfl) (by simp [Value.category]) (fun X J hJ => ?_)
  show J 0 [some (.ref (ad 39)), some (.int (iZ k))] [] (ad, I, A)
  refine v_ild1 (pc := 0) hJ dX7_signAt_0 ?_
  refine v_if_lt (tgt := 21) (pc := 1) hJ dX7_signAt_1 (by decide) (by omega) (fun h1 => ?_) (fun h1 => ?_)
  · exfalso; omega
  · refine v_ild1 (pc := 4) hJ dX7_signAt_4 ?_
    refine v_ald0 (pc := 5) hJ dX7_signAt_5 ?_
    refine cgX7_25 (pc := 6) hJ dX7_signAt_6 ?_
    refine v_icmp_ge (tgt := 21) (pc := 9) hJ dX7_signAt_9 (by decide) (by omega) (by omega) (fun h9 => ?_) (fun h9 => ?_)
    · refine v_iconst (pc := 21) hJ dX7_signAt_21 ?_
      refine v_iret (pc := 22) hJ dX7_signAt_22 ⟨_, rfl, ?_⟩
      exact ⟨Or.inr ⟨by omega, rfl, by unfold bA; rw [if_neg (by omega)]⟩, rfl⟩
    · refine v_ald0 (pc := 12) hJ dX7_signAt_12 ?_
      refine cgX7_9 (pc := 13) hJ dX7_signAt_13 ?_
      rw [h20]
      refine v_ild1 (pc := 16) hJ dX7_signAt_16 ?_
      refine ca0 (pc := 17) hJ (by omega) (by omega) dX7_signAt_17 ?_
      refine v_goto (tgt := 22) (pc := 18) hJ dX7_signAt_18 (by decide) ?_
      refine v_iret (pc := 22) hJ dX7_signAt_22 ⟨_, rfl, ?_⟩
      have := hT k hk.1 (by omega)
      exact ⟨Or.inl ⟨by omega, by unfold bA; rw [if_pos (by omega)], this.1, this.2⟩, rfl⟩
set_option maxHeartbeats 4000000 in
set_option maxRecDepth 100000 in
theorem qX7_refuse {l : Launch} {D : va_G} {cI : ClassId} {O : OT} {adK adV : Nat → Nat} {tT : Nat} (hO : OGC O adK adV tT) {ad : Nat → Nat} {I : Nat → Int} {A : Nat → Int → Int} {w : Int}  : CC l D cI O yX7_refuse cX7_refuse 2 none 1 [.ref (ad 39), .int (iZ w)] (ad, I, A) (pV fun u2 => u2 = (ad, va_up (va_up I 23 w) 24 (I 22), A)) := by
  refine ct_intro (own := RX7) (by decide) rfl hO.1.1 (Nat.le_of_ble_eq_true rfl) (by simp [Value.category]) (fun X J hJ => ?_)
  show J 0 [some (.ref (ad 39)), some (.int (iZ w))] [] (ad, I, A)
  refine v_ald0 (pc := 0) hJ dX7_refuse_0 ?_
  refine v_ild1 (pc := 1) hJ dX7_refuse_1 ?_
  refine cpX7_31 (pc := 2) hJ dX7_refuse_2 ?_
  refine v_ald0 (pc := 5) hJ dX7_refuse_5 ?_
  refine v_ald0 (pc := 6) hJ dX7_refuse_6 ?_
  refine cgX7_28 (pc := 7) hJ dX7_refuse_7 ?_
  try simp only [up_s, up_n, up_up, ne_eq, Nat.reduceEqDiff, not_false_eq_true]
  refine cpX7_15 (pc := 10) hJ dX7_refuse_10 ?_
  refine v_vret (pc := 13) hJ dX7_refuse_13 ⟨rfl, ?_⟩
  rfl
set_option maxHeartbeats 4000000 in
set_option maxRecDepth 100000 in
theorem qX7_readNote {l : Launch} {D : va_G} {cI : ClassId} {O : OT} {adK adV : Nat → Nat} {tT : Nat} (hO : OGC O adK adV tT) {ad : Nat → Nat} {I : Nat → Int} {A : Nat → Int → Int}  (h20 : ad 20 = ad 0) (h21 : 0 ≤ I 21 ∧ I 21 ≤ 1200) (h22 : 0 ≤ I 22 ∧ I 22 ≤ 1300) (hT : ∀ j, 0 ≤ j → j < I 21 → 0 ≤ A 0 j ∧ A 0 j ≤ 255) : CC l D cI O yX7_readNote cX7_readNote 4 (some .int) 6 [.ref (ad 39)] (ad, I, A) (pI fun r u2 => (isN (bA (A 0) (I 21) (I 22)) → r = nval (bA (A 0) (I 21)) (I 22) ∧ u2 = (ad, va_up I 22 (I 22 + 1 + ncnt (bA (A 0) (I 21)) (I 22)), A)) ∧ (¬ isN (bA (A 0) (I 21) (I 22)) → r = -100 ∧ u2 = (ad, I, A))) := by
  refine ct_intro (own := RX7) (by decide) rfl hO.1.1 (Nat.le_of_ble_eq_true rfl) (by simp [Value.category]) (fun X J hJ => ?_)
  obtain ⟨f, hf⟩ : ∃ f, f = bA (A 0) (I 21) := ⟨_, rfl⟩
  have hS : ∀ {I1 : Nat → Int} {k : Int}, (0 ≤ k ∧ k < 3000) → I1 21 = I 21 → CC l D cI O yX7_signAt cX7_signAt 2 (some .int) 1 [.ref (ad 39), .int (iZ k)] (ad, I1, A) (pI fun r u2 => sgP f (I 21) k r ∧ u2 = (ad, I1, A)) := fun {I1 k} hk he => by
    have := qX7_signAt (l := l) (D := D) (cI := cI) hO (ad := ad) (I := I1) (A := A) h20 hk (by rw [he]; exact h21) (by rw [he]; exact hT)
    rw [he, ← hf] at this
    exact this
  rw [← hf] at hJ
  have hpl := plc_in (f (I 22))
  show J 0 [some (.ref (ad 39)), none, none, none] [] (ad, I, A)
  refine v_ald0 (pc := 0) hJ dX7_readNote_0 ?_
  refine v_ald0 (pc := 1) hJ dX7_readNote_1 ?_
  refine cgX7_28 (pc := 2) hJ dX7_readNote_2 ?_
  refine v_cV1i (pc := 5) (q0 := 2) (ci := 4) hJ rfl rfl lkX7_43 (hS (by (try simp only [up_s, up_n, up_up, ne_eq, Nat.reduceEqDiff, not_false_eq_true]); omega) (by first | rfl | simp only [up_s, up_n, up_up, ne_eq, Nat.reduceEqDiff, not_false_eq_true])) (Nat.le_of_ble_eq_true rfl) (rOk_L (by decide) (by decide)) dX7_readNote_5 (fun r5 u5 g5 => ?_)
  obtain ⟨g5, rfl⟩ := g5
  refine v_cS1i (pc := 8) hJ lkX7_82 (qX4_ofLetter hO (by omega)) (Nat.le_of_ble_eq_true rfl) (rOk_L (by decide) (by decide)) dX7_readNote_8 (fun r8 u8 g8 => ?_)
  obtain ⟨r8e, rfl⟩ := g8
  have r8b : -100 ≤ r8 ∧ r8 ≤ 5 := by have := plc_in r5; rw [r8e]; split <;> omega
  try simp only [up_s, up_n, up_up, ne_eq, Nat.reduceEqDiff, not_false_eq_true]
  refine v_ist1 (pc := 11) hJ dX7_readNote_11 (by decide) ?_
  refine v_ild1 (pc := 12) hJ dX7_readNote_12 ?_
  refine v_bipush (pc := 13) hJ dX7_readNote_13 (by decide) ?_
  refine v_icmp_ne (tgt := 21) (pc := 15) hJ dX7_readNote_15 (by decide) (by omega) (by omega) (fun h15 => ?_) (fun h15 => ?_)
  · refine v_ald0 (pc := 21) hJ dX7_readNote_21 ?_
    refine v_dup (pc := 22) hJ dX7_readNote_22 rfl ?_
    refine cgX7_28 (pc := 23) hJ dX7_readNote_23 ?_
    try simp only [up_s, up_n, up_up, ne_eq, Nat.reduceEqDiff, not_false_eq_true]
    refine v_iconst (pc := 26) hJ dX7_readNote_26 ?_
    refine v_iadd (pc := 27) hJ dX7_readNote_27 ?_
    refine cpX7_28 (pc := 28) hJ dX7_readNote_28 ?_
    refine v_ald0 (pc := 31) hJ dX7_readNote_31 ?_
    refine v_ald0 (pc := 32) hJ dX7_readNote_32 ?_
    refine cgX7_28 (pc := 33) hJ dX7_readNote_33 ?_
    try simp only [up_s, up_n, up_up, ne_eq, Nat.reduceEqDiff, not_false_eq_true]
    refine v_cV1i (pc := 36) (q0 := 2) (ci := 4) hJ rfl rfl lkX7_43 (hS (by (try simp only [up_s, up_n, up_up, ne_eq, Nat.reduceEqDiff, not_false_eq_true]); omega) (by first | rfl | simp only [up_s, up_n, up_up, ne_eq, Nat.reduceEqDiff, not_false_eq_true])) (Nat.le_of_ble_eq_true rfl) (rOk_L (by decide) (by decide)) dX7_readNote_36 (fun r36 u36 g36 => ?_)
    obtain ⟨g36, rfl⟩ := g36
    try simp only [up_s, up_n, up_up, ne_eq, Nat.reduceEqDiff, not_false_eq_true]
    refine v_ist2 (pc := 39) hJ dX7_readNote_39 (by decide) ?_
    refine v_ild2 (pc := 40) hJ dX7_readNote_40 ?_
    refine v_bipush (pc := 41) hJ dX7_readNote_41 (by decide) ?_
    refine v_icmp_eq (tgt := 54) (pc := 43) hJ dX7_readNote_43 (by decide) (by omega) (by omega) (fun h43 => ?_) (fun h43 => ?_)
    · refine v_ild2 (pc := 54) hJ dX7_readNote_54 ?_
      refine v_bipush (pc := 55) hJ dX7_readNote_55 (by decide) ?_
      refine v_icmp_ne (tgt := 65) (pc := 57) hJ dX7_readNote_57 (by decide) (by omega) (by omega) (fun h57 => ?_) (fun h57 => ?_)
      · exfalso; omega
      · refine v_bipush (pc := 60) hJ dX7_readNote_60 (by decide) ?_
        refine v_goto (tgt := 67) (pc := 62) hJ dX7_readNote_62 (by decide) ?_
        refine v_ist3 (pc := 67) hJ dX7_readNote_67 (by decide) ?_
        refine v_ald0 (pc := 68) hJ dX7_readNote_68 ?_
        refine v_dup (pc := 69) hJ dX7_readNote_69 rfl ?_
        refine cgX7_28 (pc := 70) hJ dX7_readNote_70 ?_
        try simp only [up_s, up_n, up_up, ne_eq, Nat.reduceEqDiff, not_false_eq_true]
        refine v_iconst (pc := 73) hJ dX7_readNote_73 ?_
        refine v_iadd (pc := 74) hJ dX7_readNote_74 ?_
        refine cpX7_28 (pc := 75) hJ dX7_readNote_75 ?_
        refine v_ald0 (pc := 78) hJ dX7_readNote_78 ?_
        refine v_ald0 (pc := 79) hJ dX7_readNote_79 ?_
        refine cgX7_28 (pc := 80) hJ dX7_readNote_80 ?_
        try simp only [up_s, up_n, up_up, ne_eq, Nat.reduceEqDiff, not_false_eq_true]
        refine v_cV1i (pc := 83) (q0 := 2) (ci := 4) hJ rfl rfl lkX7_43 (hS (by (try simp only [up_s, up_n, up_up, ne_eq, Nat.reduceEqDiff, not_false_eq_true]); omega) (by first | rfl | simp only [up_s, up_n, up_up, ne_eq, Nat.reduceEqDiff, not_false_eq_true])) (Nat.le_of_ble_eq_true rfl) (rOk_L (by decide) (by decide)) dX7_readNote_83 (fun r83 u83 g83 => ?_)
        obtain ⟨g83, rfl⟩ := g83
        try simp only [up_s, up_n, up_up, ne_eq, Nat.reduceEqDiff, not_false_eq_true]
        refine v_ild2 (pc := 86) hJ dX7_readNote_86 ?_
        refine v_icmp_eq (tgt := 94) (pc := 87) hJ dX7_readNote_87 (by decide) (by omega) (by omega) (fun h87 => ?_) (fun h87 => ?_)
        · refine v_ald0 (pc := 94) hJ dX7_readNote_94 ?_
          refine v_dup (pc := 95) hJ dX7_readNote_95 rfl ?_
          refine cgX7_28 (pc := 96) hJ dX7_readNote_96 ?_
          try simp only [up_s, up_n, up_up, ne_eq, Nat.reduceEqDiff, not_false_eq_true]
          refine v_iconst (pc := 99) hJ dX7_readNote_99 ?_
          refine v_iadd (pc := 100) hJ dX7_readNote_100 ?_
          refine cpX7_28 (pc := 101) hJ dX7_readNote_101 ?_
          refine v_ild1 (pc := 104) hJ dX7_readNote_104 ?_
          refine v_iconst (pc := 105) hJ dX7_readNote_105 ?_
          refine v_ild3 (pc := 106) hJ dX7_readNote_106 ?_
          refine v_imul (pc := 107) hJ dX7_readNote_107 ?_
          refine v_iadd (pc := 108) hJ dX7_readNote_108 ?_
          refine v_iret (pc := 109) hJ dX7_readNote_109 ⟨_, rfl, ?_⟩
          have hN : isN r5 := by
            by_cases q : isN r5
            · exact q
            · rw [if_neg q] at r8e; omega
          rw [if_pos hN] at r8e
          have e5 : r5 = f (I 22) := by omega
          rw [e5] at r8e hN
          have e : ncnt f (I 22) = 2 := by unfold ncnt; rw [if_pos (by omega), if_pos (by rw [show I 22 + 2 = I 22 + 1 + 1 by omega]; omega)]
          refine ⟨fun _ => ⟨by unfold nval; rw [e]; rw [if_pos (by omega)]; omega, by rw [e, show I 22 + 1 + 2 = I 22 + 1 + 1 + 1 by omega, up_up]⟩, fun q => absurd hN q⟩
        · refine v_ild1 (pc := 90) hJ dX7_readNote_90 ?_
          refine v_ild3 (pc := 91) hJ dX7_readNote_91 ?_
          refine v_iadd (pc := 92) hJ dX7_readNote_92 ?_
          refine v_iret (pc := 93) hJ dX7_readNote_93 ⟨_, rfl, ?_⟩
          have hN : isN r5 := by
            by_cases q : isN r5
            · exact q
            · rw [if_neg q] at r8e; omega
          rw [if_pos hN] at r8e
          have e5 : r5 = f (I 22) := by omega
          rw [e5] at r8e hN
          have e : ncnt f (I 22) = 1 := by unfold ncnt; rw [if_pos (by omega), if_neg (by rw [show I 22 + 2 = I 22 + 1 + 1 by omega]; omega)]
          refine ⟨fun _ => ⟨by unfold nval; rw [e]; rw [if_pos (by omega)]; omega, by rw [e]⟩, fun q => absurd hN q⟩
    · refine v_ild2 (pc := 46) hJ dX7_readNote_46 ?_
      refine v_bipush (pc := 47) hJ dX7_readNote_47 (by decide) ?_
      refine v_icmp_eq (tgt := 54) (pc := 49) hJ dX7_readNote_49 (by decide) (by omega) (by omega) (fun h49 => ?_) (fun h49 => ?_)
      · refine v_ild2 (pc := 54) hJ dX7_readNote_54 ?_
        refine v_bipush (pc := 55) hJ dX7_readNote_55 (by decide) ?_
        refine v_icmp_ne (tgt := 65) (pc := 57) hJ dX7_readNote_57 (by decide) (by omega) (by omega) (fun h57 => ?_) (fun h57 => ?_)
        · refine v_bipush (pc := 65) hJ dX7_readNote_65 (by decide) ?_
          refine v_ist3 (pc := 67) hJ dX7_readNote_67 (by decide) ?_
          refine v_ald0 (pc := 68) hJ dX7_readNote_68 ?_
          refine v_dup (pc := 69) hJ dX7_readNote_69 rfl ?_
          refine cgX7_28 (pc := 70) hJ dX7_readNote_70 ?_
          try simp only [up_s, up_n, up_up, ne_eq, Nat.reduceEqDiff, not_false_eq_true]
          refine v_iconst (pc := 73) hJ dX7_readNote_73 ?_
          refine v_iadd (pc := 74) hJ dX7_readNote_74 ?_
          refine cpX7_28 (pc := 75) hJ dX7_readNote_75 ?_
          refine v_ald0 (pc := 78) hJ dX7_readNote_78 ?_
          refine v_ald0 (pc := 79) hJ dX7_readNote_79 ?_
          refine cgX7_28 (pc := 80) hJ dX7_readNote_80 ?_
          try simp only [up_s, up_n, up_up, ne_eq, Nat.reduceEqDiff, not_false_eq_true]
          refine v_cV1i (pc := 83) (q0 := 2) (ci := 4) hJ rfl rfl lkX7_43 (hS (by (try simp only [up_s, up_n, up_up, ne_eq, Nat.reduceEqDiff, not_false_eq_true]); omega) (by first | rfl | simp only [up_s, up_n, up_up, ne_eq, Nat.reduceEqDiff, not_false_eq_true])) (Nat.le_of_ble_eq_true rfl) (rOk_L (by decide) (by decide)) dX7_readNote_83 (fun r83 u83 g83 => ?_)
          obtain ⟨g83, rfl⟩ := g83
          try simp only [up_s, up_n, up_up, ne_eq, Nat.reduceEqDiff, not_false_eq_true]
          refine v_ild2 (pc := 86) hJ dX7_readNote_86 ?_
          refine v_icmp_eq (tgt := 94) (pc := 87) hJ dX7_readNote_87 (by decide) (by omega) (by omega) (fun h87 => ?_) (fun h87 => ?_)
          · refine v_ald0 (pc := 94) hJ dX7_readNote_94 ?_
            refine v_dup (pc := 95) hJ dX7_readNote_95 rfl ?_
            refine cgX7_28 (pc := 96) hJ dX7_readNote_96 ?_
            try simp only [up_s, up_n, up_up, ne_eq, Nat.reduceEqDiff, not_false_eq_true]
            refine v_iconst (pc := 99) hJ dX7_readNote_99 ?_
            refine v_iadd (pc := 100) hJ dX7_readNote_100 ?_
            refine cpX7_28 (pc := 101) hJ dX7_readNote_101 ?_
            refine v_ild1 (pc := 104) hJ dX7_readNote_104 ?_
            refine v_iconst (pc := 105) hJ dX7_readNote_105 ?_
            refine v_ild3 (pc := 106) hJ dX7_readNote_106 ?_
            refine v_imul (pc := 107) hJ dX7_readNote_107 ?_
            refine v_iadd (pc := 108) hJ dX7_readNote_108 ?_
            refine v_iret (pc := 109) hJ dX7_readNote_109 ⟨_, rfl, ?_⟩
            have hN : isN r5 := by
              by_cases q : isN r5
              · exact q
              · rw [if_neg q] at r8e; omega
            rw [if_pos hN] at r8e
            have e5 : r5 = f (I 22) := by omega
            rw [e5] at r8e hN
            have e : ncnt f (I 22) = 2 := by unfold ncnt; rw [if_pos (by omega), if_pos (by rw [show I 22 + 2 = I 22 + 1 + 1 by omega]; omega)]
            refine ⟨fun _ => ⟨by unfold nval; rw [e]; rw [if_neg (by omega)]; omega, by rw [e, show I 22 + 1 + 2 = I 22 + 1 + 1 + 1 by omega, up_up]⟩, fun q => absurd hN q⟩
          · refine v_ild1 (pc := 90) hJ dX7_readNote_90 ?_
            refine v_ild3 (pc := 91) hJ dX7_readNote_91 ?_
            refine v_iadd (pc := 92) hJ dX7_readNote_92 ?_
            refine v_iret (pc := 93) hJ dX7_readNote_93 ⟨_, rfl, ?_⟩
            have hN : isN r5 := by
              by_cases q : isN r5
              · exact q
              · rw [if_neg q] at r8e; omega
            rw [if_pos hN] at r8e
            have e5 : r5 = f (I 22) := by omega
            rw [e5] at r8e hN
            have e : ncnt f (I 22) = 1 := by unfold ncnt; rw [if_pos (by omega), if_neg (by rw [show I 22 + 2 = I 22 + 1 + 1 by omega]; omega)]
            refine ⟨fun _ => ⟨by unfold nval; rw [e]; rw [if_neg (by omega)]; omega, by rw [e]⟩, fun q => absurd hN q⟩
        · exfalso; omega
      · refine v_ild1 (pc := 52) hJ dX7_readNote_52 ?_
        refine v_iret (pc := 53) hJ dX7_readNote_53 ⟨_, rfl, ?_⟩
        have hN : isN r5 := by
          by_cases q : isN r5
          · exact q
          · rw [if_neg q] at r8e; omega
        rw [if_pos hN] at r8e
        have e5 : r5 = f (I 22) := by omega
        rw [e5] at r8e hN
        have e : ncnt f (I 22) = 0 := by unfold ncnt; rw [if_neg (by omega)]
        refine ⟨fun _ => ⟨by unfold nval; rw [e]; omega, by rw [e, show I 22 + 1 + 0 = I 22 + 1 by omega]⟩, fun q => absurd hN q⟩
  · refine v_bipush (pc := 18) hJ dX7_readNote_18 (by decide) ?_
    refine v_iret (pc := 20) hJ dX7_readNote_20 ⟨_, rfl, ?_⟩
    exact ⟨fun q => by exfalso; rw [if_pos (by omega)] at r8e; have := plc_in r5; omega, fun _ => ⟨rfl, rfl⟩⟩
set_option maxHeartbeats 4000000 in
set_option maxRecDepth 100000 in
theorem qX7_standsHere {l : Launch} {D : va_G} {cI : ClassId} {O : OT} {adK adV : Nat → Nat} {tT : Nat} (hO : OGC O adK adV tT) {ad : Nat → Nat} {I : Nat → Int} {A : Nat → Int → Int} {i : Nat} (hi : i < 15) (h20 : ad 20 = ad 0) (h21 : 0 ≤ I 21 ∧ I 21 ≤ 1200) (h22 : 0 ≤ I 22 ∧ I 22 ≤ 1300) (hT : ∀ j, 0 ≤ j → j < I 21 → 0 ≤ A 0 j ∧ A 0 j ≤ 255) : CC l D cI O yX7_standsHere cX7_standsHere 3 (some .boolean) 5 [.ref (ad 39), .ref (adK i)] (ad, I, A) (pI fun r u2 => (r = 0 ∨ r = 1) ∧ (r = 1 ↔ hereP (bA (A 0) (I 21)) (I 22) (txS i) (txS i).length) ∧ u2 = (ad, I, A)) := by
  refine ct_intro (own := RX7) (by decide) rfl hO.1.1 (Nat.le_of_ble_eq_true rfl) (by simp [Value.category]) (fun X J hJ => ?_)
  obtain ⟨f, hf⟩ : ∃ f, f = bA (A 0) (I 21) := ⟨_, rfl⟩
  have hS : ∀ {I1 : Nat → Int} {k : Int}, (0 ≤ k ∧ k < 3000) → I1 21 = I 21 → CC l D cI O yX7_signAt cX7_signAt 2 (some .int) 1 [.ref (ad 39), .int (iZ k)] (ad, I1, A) (pI fun r u2 => sgP f (I 21) k r ∧ u2 = (ad, I1, A)) := fun {I1 k} hk he => by
    have := qX7_signAt (l := l) (D := D) (cI := cI) hO (ad := ad) (I := I1) (A := A) h20 hk (by rw [he]; exact h21) (by rw [he]; exact hT)
    rw [he, ← hf] at this
    exact this
  rw [← hf] at hJ
  have hl8 := lenS_ok i hi
  have lp : ∀ (fu : Nat) (k : Nat), (k ≤ (txS i).length) → (hereP f (I 22) (txS i) k) → (9 - (k : Int)) < (fu : Int) → J 2 [some (.ref (ad 39)), some (.ref (adK i)), some (.int (iZ (k : Int)))] [] (ad, I, A) := by
    intro fu
    induction fu with
    | zero => intro k hk hP hmu; exfalso; omega
    | succ fu ih =>
      intro k hk hP hmu
      refine v_ild2 (pc := 2) hJ dX7_standsHere_2 ?_
      refine v_ald1 (pc := 3) hJ dX7_standsHere_3 ?_
      refine v_cT0i (pc := 4) hJ hO.1 hi lkX7_91 (qJ0_length_8abf5 hO.1 hi) (Nat.le_of_ble_eq_true rfl) (rOk_L (by decide) (by decide)) dX7_standsHere_4 (fun r4 u4 g4 => ?_)
      obtain ⟨rfl, rfl⟩ := g4
      refine v_icmp_ge (tgt := 36) (pc := 7) hJ dX7_standsHere_7 (by decide) (by omega) (by omega) (fun h7 => ?_) (fun h7 => ?_)
      · refine v_iconst (pc := 36) hJ dX7_standsHere_36 ?_
        refine v_zret (pc := 37) hJ rfl dX7_standsHere_37 ⟨_, rfl, ?_⟩
        have e : k = (txS i).length := by omega
        rw [← e]
        exact ⟨Or.inr rfl, ⟨fun _ => hP, fun _ => rfl⟩, rfl⟩
      · refine v_ald0 (pc := 10) hJ dX7_standsHere_10 ?_
        refine v_ald0 (pc := 11) hJ dX7_standsHere_11 ?_
        refine cgX7_28 (pc := 12) hJ dX7_standsHere_12 ?_
        try simp only [up_s, up_n, up_up, ne_eq, Nat.reduceEqDiff, not_false_eq_true]
        refine v_ild2 (pc := 15) hJ dX7_standsHere_15 ?_
        refine v_iadd (pc := 16) hJ dX7_standsHere_16 ?_
        refine v_cV1i (pc := 17) (q0 := 2) (ci := 4) hJ rfl rfl lkX7_43 (hS (by (try simp only [up_s, up_n, up_up, ne_eq, Nat.reduceEqDiff, not_false_eq_true]); omega) (by first | rfl | simp only [up_s, up_n, up_up, ne_eq, Nat.reduceEqDiff, not_false_eq_true])) (Nat.le_of_ble_eq_true rfl) (rOk_L (by decide) (by decide)) dX7_standsHere_17 (fun r17 u17 g17 => ?_)
        obtain ⟨g17, rfl⟩ := g17
        try simp only [up_s, up_n, up_up, ne_eq, Nat.reduceEqDiff, not_false_eq_true]
        refine v_ald1 (pc := 20) hJ dX7_standsHere_20 ?_
        refine v_ild2 (pc := 21) hJ dX7_standsHere_21 ?_
        refine v_cT1i (pc := 22) hJ hO.1 hi lkX7_99 (qJ0_charAt_5068e hO.1 hi (by omega)) (Nat.le_of_ble_eq_true rfl) (rOk_L (by decide) (by decide)) dX7_standsHere_22 (fun r22 u22 g22 => ?_)
        obtain ⟨rfl, rfl⟩ := g22
        try simp only [up_s, up_n, up_up, ne_eq, Nat.reduceEqDiff, not_false_eq_true]
        have hc1 := txS_in i hi k (by omega)
        refine v_icmp_eq (tgt := 30) (pc := 25) hJ dX7_standsHere_25 (by decide) (by omega) (by omega) (fun h25 => ?_) (fun h25 => ?_)
        · refine v_inc2 (pc := 30) hJ dX7_standsHere_30 (by decide) ?_
          refine v_goto (tgt := 2) (pc := 33) hJ dX7_standsHere_33 (by decide) ?_
          exact ih (k + 1) (by omega) (hereP_s hP (by omega)) (by omega)
        · refine v_iconst (pc := 28) hJ dX7_standsHere_28 ?_
          refine v_zret (pc := 29) hJ rfl dX7_standsHere_29 ⟨_, rfl, ?_⟩
          exact ⟨Or.inl rfl, ⟨fun q => absurd q (by decide), fun q => by have := q k (by omega); omega⟩, rfl⟩
  show J 0 [some (.ref (ad 39)), some (.ref (adK i)), none] [] (ad, I, A)
  refine v_iconst (pc := 0) hJ dX7_standsHere_0 ?_
  refine v_ist2 (pc := 1) hJ dX7_standsHere_1 (by decide) ?_
  exact lp 10 0 (by omega) (hereP_0 _ _ _) (by omega)
set_option maxHeartbeats 4000000 in
set_option maxRecDepth 100000 in
theorem qX7_readKind {l : Launch} {D : va_G} {cI : ClassId} {O : OT} {adK adV : Nat → Nat} {tT : Nat} (hO : OGC O adK adV tT) {ad : Nat → Nat} {I : Nat → Int} {A : Nat → Int → Int}  (h20 : ad 20 = ad 0) (h21 : 0 ≤ I 21 ∧ I 21 ≤ 1200) (h22 : 0 ≤ I 22 ∧ I 22 ≤ 1300) (hT : ∀ j, 0 ≤ j → j < I 21 → 0 ≤ A 0 j ∧ A 0 j ≤ 255) : CC l D cI O yX7_readKind cX7_readKind 5 (some .int) 6 [.ref (ad 39)] (ad, I, A) (pI fun r u2 => r = ((kdAt (bA (A 0) (I 21)) (I 22) : Nat) : Int) ∧ u2 = (ad, va_up I 22 (I 22 + ((txS (kdAt (bA (A 0) (I 21)) (I 22))).length : Int)), A)) := by
  refine ct_intro (own := RX7) (by decide) rfl hO.1.1 (Nat.le_of_ble_eq_true rfl) (by simp [Value.category]) (fun X J hJ => ?_)
  obtain ⟨f, hf⟩ : ∃ f, f = bA (A 0) (I 21) := ⟨_, rfl⟩
  have hS : ∀ {I1 : Nat → Int} {k : Int}, (0 ≤ k ∧ k < 3000) → I1 21 = I 21 → CC l D cI O yX7_signAt cX7_signAt 2 (some .int) 1 [.ref (ad 39), .int (iZ k)] (ad, I1, A) (pI fun r u2 => sgP f (I 21) k r ∧ u2 = (ad, I1, A)) := fun {I1 k} hk he => by
    have := qX7_signAt (l := l) (D := D) (cI := cI) hO (ad := ad) (I := I1) (A := A) h20 hk (by rw [he]; exact h21) (by rw [he]; exact hT)
    rw [he, ← hf] at this
    exact this
  rw [← hf] at hJ
  have lp : ∀ (fu : Nat) (kn : Nat) (a4 : Option Value), (kn ≤ 14) → (15 - (kn : Int)) < (fu : Int) → J 6 [some (.ref (ad 39)), some (.int (iZ ((kbN f (I 22) kn : Nat) : Int))), some (.int (iZ ((txS (kbN f (I 22) kn)).length : Int))), some (.int (iZ (kn : Int))), a4] [] (ad, I, A) := by
    intro fu
    induction fu with
    | zero => intro kn  a4 hkn hmu; exfalso; omega
    | succ fu ih =>
      intro kn  a4 hkn hmu
      have hkb := kbN_lt f (I 22) kn hkn
      have hlk := lenS_ok (kbN f (I 22) kn) (by omega)
      have hlk2 := lenS_ok (kn) (by omega)
      refine v_ild3 (pc := 6) hJ dX7_readKind_6 ?_
      refine v_bipush (pc := 7) hJ dX7_readKind_7 (by decide) ?_
      refine v_icmp_ge (tgt := 50) (pc := 9) hJ dX7_readKind_9 (by decide) (by omega) (by omega) (fun h9 => ?_) (fun h9 => ?_)
      · refine v_ald0 (pc := 50) hJ dX7_readKind_50 ?_
        refine v_dup (pc := 51) hJ dX7_readKind_51 rfl ?_
        refine cgX7_28 (pc := 52) hJ dX7_readKind_52 ?_
        refine v_ild2 (pc := 55) hJ dX7_readKind_55 ?_
        refine v_iadd (pc := 56) hJ dX7_readKind_56 ?_
        refine cpX7_28 (pc := 57) hJ dX7_readKind_57 ?_
        refine v_ild1 (pc := 60) hJ dX7_readKind_60 ?_
        refine v_iret (pc := 61) hJ dX7_readKind_61 ⟨_, rfl, ?_⟩
        have e : kn = 14 := by omega
        subst e
        exact ⟨rfl, rfl⟩
      · refine v_ild3 (pc := 12) hJ dX7_readKind_12 ?_
        refine v_cS1r (pc := 13) hJ lkX7_87 (qX3_textOf hO (by omega)) (Nat.le_of_ble_eq_true rfl) (rOk_L (by decide) (by decide)) dX7_readKind_13 (fun r13 u13 g13 => ?_)
        obtain ⟨rfl, rfl⟩ := g13
        refine v_ast4 (pc := 16) hJ dX7_readKind_16 (by decide) ?_
        refine v_ald4 (pc := 18) hJ dX7_readKind_18 ?_
        refine v_cT0i (pc := 20) hJ hO.1 (by omega) lkX7_91 (qJ0_length_8abf5 hO.1 (by omega)) (Nat.le_of_ble_eq_true rfl) (rOk_L (by decide) (by decide)) dX7_readKind_20 (fun r20 u20 g20 => ?_)
        obtain ⟨rfl, rfl⟩ := g20
        try simp only [up_s, up_n, up_up, ne_eq, Nat.reduceEqDiff, not_false_eq_true]
        refine v_ild2 (pc := 23) hJ dX7_readKind_23 ?_
        refine v_icmp_le (tgt := 44) (pc := 24) hJ dX7_readKind_24 (by decide) (by omega) (by omega) (fun h24 => ?_) (fun h24 => ?_)
        · refine v_inc3 (pc := 44) hJ dX7_readKind_44 (by decide) ?_
          refine v_goto (tgt := 6) (pc := 47) hJ dX7_readKind_47 (by decide) ?_
          have hn := ih (kn + 1) (some (.ref (adK kn))) (by omega) (by omega)
          rw [kbN_neg (fun q => by have := q.2; omega)] at hn
          exact hn
        · refine v_ald0 (pc := 27) hJ dX7_readKind_27 ?_
          refine v_ald4 (pc := 28) hJ dX7_readKind_28 ?_
          refine v_cV1i (pc := 30) (q0 := 2) (ci := 4) hJ rfl rfl lkX7_95 (qX7_standsHere hO (by omega) h20 h21 h22 hT) (Nat.le_of_ble_eq_true rfl) (rOk_L (by decide) (by decide)) dX7_readKind_30 (fun r30 u30 g30 => ?_)
          obtain ⟨g30a, g30b, rfl⟩ := g30
          rw [← hf] at g30b
          try simp only [up_s, up_n, up_up, ne_eq, Nat.reduceEqDiff, not_false_eq_true]
          refine v_if_eq (tgt := 44) (pc := 33) hJ dX7_readKind_33 (by decide) (by omega) (fun h33 => ?_) (fun h33 => ?_)
          · refine v_inc3 (pc := 44) hJ dX7_readKind_44 (by decide) ?_
            refine v_goto (tgt := 6) (pc := 47) hJ dX7_readKind_47 (by decide) ?_
            have hn := ih (kn + 1) (some (.ref (adK kn))) (by omega) (by omega)
            rw [kbN_neg (fun q => by have := g30b.mpr q.1; omega)] at hn
            exact hn
          · refine v_ild3 (pc := 36) hJ dX7_readKind_36 ?_
            refine v_ist1 (pc := 37) hJ dX7_readKind_37 (by decide) ?_
            refine v_ald4 (pc := 38) hJ dX7_readKind_38 ?_
            refine v_cT0i (pc := 40) hJ hO.1 (by omega) lkX7_91 (qJ0_length_8abf5 hO.1 (by omega)) (Nat.le_of_ble_eq_true rfl) (rOk_L (by decide) (by decide)) dX7_readKind_40 (fun r40 u40 g40 => ?_)
            obtain ⟨rfl, rfl⟩ := g40
            try simp only [up_s, up_n, up_up, ne_eq, Nat.reduceEqDiff, not_false_eq_true]
            refine v_ist2 (pc := 43) hJ dX7_readKind_43 (by decide) ?_
            refine v_inc3 (pc := 44) hJ dX7_readKind_44 (by decide) ?_
            refine v_goto (tgt := 6) (pc := 47) hJ dX7_readKind_47 (by decide) ?_
            have hn := ih (kn + 1) (some (.ref (adK kn))) (by omega) (by omega)
            rw [kbN_pos ⟨g30b.mp (by omega), by omega⟩] at hn
            exact hn
  show J 0 [some (.ref (ad 39)), none, none, none, none] [] (ad, I, A)
  refine v_iconst (pc := 0) hJ dX7_readKind_0 ?_
  refine v_ist1 (pc := 1) hJ dX7_readKind_1 (by decide) ?_
  refine v_iconst (pc := 2) hJ dX7_readKind_2 ?_
  refine v_ist2 (pc := 3) hJ dX7_readKind_3 (by decide) ?_
  refine v_iconst (pc := 4) hJ dX7_readKind_4 ?_
  refine v_ist3 (pc := 5) hJ dX7_readKind_5 (by decide) ?_
  exact lp 16 0 none (by omega) (by omega)
set_option maxHeartbeats 4000000 in
set_option maxRecDepth 100000 in
theorem qX7_readLineEnd {l : Launch} {D : va_G} {cI : ClassId} {O : OT} {adK adV : Nat → Nat} {tT : Nat} (hO : OGC O adK adV tT) {ad : Nat → Nat} {I : Nat → Int} {A : Nat → Int → Int}  (h61 : 0 ≤ I 61 ∧ I 61 < 1200) (h62 : inR (I 62)) : CC l D cI O yX7_readLineEnd cX7_readLineEnd 2 none 3 [.ref (ad 39), .ref (ad 79)] (ad, I, A) (pV fun u2 => (40 ≤ I 62 → u2 = (ad, va_up (va_up I 23 2) 24 (I 22), A)) ∧ (I 62 < 40 → u2 = (ad, va_up (va_up (va_up I 61 (I 61 + 1)) 62 (I 62 + 1)) 22 (I 22 + 1), va_up A 60 (zu (A 60) (I 61) 10)))) := by
  refine ct_intro (own := RX7) (by decide) rfl hO.1.1 (Nat.le_of_ble_eq_true rfl) (by simp [Value.category]) (fun X J hJ => ?_)
  show J 0 [some (.ref (ad 39)), some (.ref (ad 79))] [] (ad, I, A)
  refine v_ald1 (pc := 0) hJ dX7_readLineEnd_0 ?_
  refine cgX7_60b (pc := 1) hJ dX7_readLineEnd_1 ?_
  refine v_bipush (pc := 4) hJ dX7_readLineEnd_4 (by decide) ?_
  refine v_icmp_lt (tgt := 15) (pc := 6) hJ dX7_readLineEnd_6 (by decide) (by omega) (by omega) (fun h6 => ?_) (fun h6 => ?_)
  · refine v_ald1 (pc := 15) hJ dX7_readLineEnd_15 ?_
    refine v_cV0v (pc := 16) (q0 := 9) (ci := 5) hJ rfl rfl lkX7_63 (qX8_addLineEnd hO h61) (Nat.le_of_ble_eq_true rfl) (rOk_L (by decide) (by decide)) dX7_readLineEnd_16 (fun u16 g16 => ?_)
    subst g16
    refine v_ald0 (pc := 19) hJ dX7_readLineEnd_19 ?_
    refine v_dup (pc := 20) hJ dX7_readLineEnd_20 rfl ?_
    refine cgX7_28 (pc := 21) hJ dX7_readLineEnd_21 ?_
    try simp only [up_s, up_n, up_up, ne_eq, Nat.reduceEqDiff, not_false_eq_true]
    refine v_iconst (pc := 24) hJ dX7_readLineEnd_24 ?_
    refine v_iadd (pc := 25) hJ dX7_readLineEnd_25 ?_
    refine cpX7_28 (pc := 26) hJ dX7_readLineEnd_26 ?_
    refine v_vret (pc := 29) hJ dX7_readLineEnd_29 ⟨rfl, ?_⟩
    exact ⟨fun q => by omega, fun _ => rfl⟩
  · refine v_ald0 (pc := 9) hJ dX7_readLineEnd_9 ?_
    refine v_iconst (pc := 10) hJ dX7_readLineEnd_10 ?_
    refine v_cV1v (pc := 11) (q0 := 2) (ci := 4) hJ rfl rfl lkX7_53 (qX7_refuse hO) (Nat.le_of_ble_eq_true rfl) (rOk_L (by decide) (by decide)) dX7_readLineEnd_11 (fun u11 g11 => ?_)
    subst g11
    refine v_vret (pc := 14) hJ dX7_readLineEnd_14 ⟨rfl, ?_⟩
    exact ⟨fun _ => rfl, fun q => by omega⟩
def chP (ad : Nat → Nat) (I : Nat → Int) (A : Nat → Int → Int) (res : Int ⊕ (Int × Int × Int × Int)) (u : sC) : Prop := match res with
  | .inl p => u = (ad, va_up (va_up (va_up I 22 p) 23 1) 24 p, A)
  | .inr (ro, kd, ba, p) => u = (ad, va_up (va_up (va_up I 22 p) 61 (I 61 + 1)) 63 (I 63 + 1), va_up (va_up (va_up (va_up (va_up A 64 (zu (A 64) (I 63) ro)) 65 (zu (A 65) (I 63) kd)) 66 (zu (A 66) (I 63) ba)) 67 (zu (A 67) (I 63) (I 62 - 1))) 60 (zu (A 60) (I 61) (256 + I 63)))
set_option maxHeartbeats 4000000 in
set_option maxRecDepth 100000 in
theorem qX7_readChord {l : Launch} {D : va_G} {cI : ClassId} {O : OT} {adK adV : Nat → Nat} {tT : Nat} (hO : OGC O adK adV tT) {ad : Nat → Nat} {I : Nat → Int} {A : Nat → Int → Int}  (h20 : ad 20 = ad 0) (h21 : 0 ≤ I 21 ∧ I 21 ≤ 1200) (h22 : 0 ≤ I 22 ∧ I 22 ≤ 1200) (hT : ∀ j, 0 ≤ j → j < I 21 → 0 ≤ A 0 j ∧ A 0 j ≤ 255) (h61 : 0 ≤ I 61 ∧ I 61 < 1200) (h63 : 0 ≤ I 63 ∧ I 63 ≤ 60) (h62 : inR (I 62)) : CC l D cI O yX7_readChord cX7_readChord 5 none 7 [.ref (ad 39), .ref (ad 79)] (ad, I, A) (pV fun u2 => (60 ≤ I 63 → u2 = (ad, va_up (va_up I 23 2) 24 (I 22), A)) ∧ (I 63 < 60 → chP ad I A (chordAt (bA (A 0) (I 21)) (I 22 + 1)) u2)) := by
  refine ct_intro (own := RX7) (by decide) rfl hO.1.1 (Nat.le_of_ble_eq_true rfl) (by simp [Value.category]) (fun X J hJ => ?_)
  obtain ⟨f, hf⟩ : ∃ f, f = bA (A 0) (I 21) := ⟨_, rfl⟩
  have hS : ∀ {I1 : Nat → Int} {k : Int}, (0 ≤ k ∧ k < 3000) → I1 21 = I 21 → CC l D cI O yX7_signAt cX7_signAt 2 (some .int) 1 [.ref (ad 39), .int (iZ k)] (ad, I1, A) (pI fun r u2 => sgP f (I 21) k r ∧ u2 = (ad, I1, A)) := fun {I1 k} hk he => by
    have := qX7_signAt (l := l) (D := D) (cI := cI) hO (ad := ad) (I := I1) (A := A) h20 hk (by rw [he]; exact h21) (by rw [he]; exact hT)
    rw [he, ← hf] at this
    exact this
  have hNo : ∀ {I1 : Nat → Int}, (0 ≤ I1 22 ∧ I1 22 ≤ 1300) → I1 21 = I 21 → CC l D cI O yX7_readNote cX7_readNote 4 (some .int) 6 [.ref (ad 39)] (ad, I1, A) (pI fun r u2 => (isN (f (I1 22)) → r = nval f (I1 22) ∧ u2 = (ad, va_up I1 22 (I1 22 + 1 + ncnt f (I1 22)), A)) ∧ (¬ isN (f (I1 22)) → r = -100 ∧ u2 = (ad, I1, A))) := fun {I1} hk he => by
    have := qX7_readNote (l := l) (D := D) (cI := cI) hO (ad := ad) (I := I1) (A := A) h20 (by rw [he]; exact h21) hk (by rw [he]; exact hT)
    rw [he, ← hf] at this
    exact this
  have hKi : ∀ {I1 : Nat → Int}, (0 ≤ I1 22 ∧ I1 22 ≤ 1300) → I1 21 = I 21 → CC l D cI O yX7_readKind cX7_readKind 5 (some .int) 6 [.ref (ad 39)] (ad, I1, A) (pI fun r u2 => r = ((kdAt f (I1 22) : Nat) : Int) ∧ u2 = (ad, va_up I1 22 (I1 22 + ((txS (kdAt f (I1 22))).length : Int)), A)) := fun {I1} hk he => by
    have := qX7_readKind (l := l) (D := D) (cI := cI) hO (ad := ad) (I := I1) (A := A) h20 (by rw [he]; exact h21) hk (by rw [he]; exact hT)
    rw [he, ← hf] at this
    exact this
  have hn1 := ncnt_in f (I 22 + 1)
  have hv1 := nval_in f (I 22 + 1)
  obtain ⟨p1, hp1⟩ : ∃ z, z = I 22 + 1 + 1 + ncnt f (I 22 + 1) := ⟨_, rfl⟩
  have hkb := kbN_lt f p1 14 (by omega)
  have hlk := lenS_ok (kdAt f p1) (by show kbN f p1 14 < 15; omega)
  have hkd0 : 0 ≤ ((kdAt f p1 : Nat) : Int) := by omega
  obtain ⟨p2, hp2⟩ : ∃ z, z = p1 + ((txS (kdAt f p1)).length : Int) := ⟨_, rfl⟩
  have hn2 := ncnt_in f (p2 + 1)
  have hv2 := nval_in f (p2 + 1)
  rw [← hf] at hJ
  have hinN : ∀ {r X Y : Prop} {z v : Int}, (-15 ≤ v ∧ v ≤ 19) → (r → z = v ∧ X) ∧ (¬ r → z = -100 ∧ Y) → inR z ∧ (z = -100 → ¬ r ∧ Y) ∧ (z ≠ -100 → r ∧ z = v ∧ X) := fun {r X Y z v} hv g => by
    rcases Classical.em r with q | q
    · have := (g.1 q).1; exact ⟨by omega, fun w => by omega, fun w => ⟨q, g.1 q⟩⟩
    · have := (g.2 q).1; exact ⟨by omega, fun w => ⟨q, (g.2 q).2⟩, fun w => absurd this w⟩
  show J 0 [some (.ref (ad 39)), some (.ref (ad 79)), none, none, none] [] (ad, I, A)
  refine v_ald1 (pc := 0) hJ dX7_readChord_0 ?_
  refine cgX7_66b (pc := 1) hJ dX7_readChord_1 ?_
  refine v_bipush (pc := 4) hJ dX7_readChord_4 (by decide) ?_
  refine v_icmp_lt (tgt := 15) (pc := 6) hJ dX7_readChord_6 (by decide) (by omega) (by omega) (fun h6 => ?_) (fun h6 => ?_)
  · refine v_ald0 (pc := 15) hJ dX7_readChord_15 ?_
    refine v_dup (pc := 16) hJ dX7_readChord_16 rfl ?_
    refine cgX7_28 (pc := 17) hJ dX7_readChord_17 ?_
    refine v_iconst (pc := 20) hJ dX7_readChord_20 ?_
    refine v_iadd (pc := 21) hJ dX7_readChord_21 ?_
    refine cpX7_28 (pc := 22) hJ dX7_readChord_22 ?_
    refine v_ald0 (pc := 25) hJ dX7_readChord_25 ?_
    refine v_cV0i (pc := 26) (q0 := 2) (ci := 4) hJ rfl rfl lkX7_69 (hNo (by (try simp only [up_s, up_n, up_up, ne_eq, Nat.reduceEqDiff, not_false_eq_true]); omega) (by first | rfl | simp only [up_s, up_n, up_up, ne_eq, Nat.reduceEqDiff, not_false_eq_true])) (Nat.le_of_ble_eq_true rfl) (rOk_L (by decide) (by decide)) dX7_readChord_26 (fun r26 u26 g26 => ?_)
    simp only [up_s, up_n, up_up, ne_eq, Nat.reduceEqDiff, not_false_eq_true] at g26
    try simp only [up_s, up_n, up_up, ne_eq, Nat.reduceEqDiff, not_false_eq_true]
    refine v_ist2 (pc := 29) hJ dX7_readChord_29 (by decide) ?_
    refine v_ild2 (pc := 30) hJ dX7_readChord_30 ?_
    refine v_bipush (pc := 31) hJ dX7_readChord_31 (by decide) ?_
    obtain ⟨a1, a2, a3⟩ := hinN hv1 g26
    refine v_icmp_ne (tgt := 42) (pc := 33) hJ dX7_readChord_33 (by decide) a1 (by decide) (fun h33 => ?_) (fun h33 => ?_)
    · obtain ⟨hN1, rfl, rfl⟩ := a3 h33
      rw [← hp1]
      try simp only [up_s, up_n, up_up, ne_eq, Nat.reduceEqDiff, not_false_eq_true]
      refine v_ald0 (pc := 42) hJ dX7_readChord_42 ?_
      refine v_cV0i (pc := 43) (q0 := 2) (ci := 4) hJ rfl rfl lkX7_75 (hKi (by (try simp only [up_s, up_n, up_up, ne_eq, Nat.reduceEqDiff, not_false_eq_true]); omega) (by first | rfl | simp only [up_s, up_n, up_up, ne_eq, Nat.reduceEqDiff, not_false_eq_true])) (Nat.le_of_ble_eq_true rfl) (rOk_L (by decide) (by decide)) dX7_readChord_43 (fun r43 u43 g43 => ?_)
      simp only [up_s, up_n, up_up, ne_eq, Nat.reduceEqDiff, not_false_eq_true] at g43
      rw [← hp2] at g43
      obtain ⟨rfl, rfl⟩ := g43
      try simp only [up_s, up_n, up_up, ne_eq, Nat.reduceEqDiff, not_false_eq_true]
      try simp only [up_s, up_n, up_up, ne_eq, Nat.reduceEqDiff, not_false_eq_true]
      refine v_ist3 (pc := 46) hJ dX7_readChord_46 (by decide) ?_
      refine v_ild2 (pc := 47) hJ dX7_readChord_47 ?_
      refine v_ist4 (pc := 48) hJ dX7_readChord_48 (by decide) ?_
      refine v_ald0 (pc := 50) hJ dX7_readChord_50 ?_
      refine v_ald0 (pc := 51) hJ dX7_readChord_51 ?_
      refine cgX7_28 (pc := 52) hJ dX7_readChord_52 ?_
      try simp only [up_s, up_n, up_up, ne_eq, Nat.reduceEqDiff, not_false_eq_true]
      refine v_cV1i (pc := 55) (q0 := 2) (ci := 4) hJ rfl rfl lkX7_43 (hS (by (try simp only [up_s, up_n, up_up, ne_eq, Nat.reduceEqDiff, not_false_eq_true]); omega) (by first | rfl | simp only [up_s, up_n, up_up, ne_eq, Nat.reduceEqDiff, not_false_eq_true])) (Nat.le_of_ble_eq_true rfl) (rOk_L (by decide) (by decide)) dX7_readChord_55 (fun r55 u55 g55 => ?_)
      obtain ⟨g55, rfl⟩ := g55
      try simp only [up_s, up_n, up_up, ne_eq, Nat.reduceEqDiff, not_false_eq_true]
      refine v_bipush (pc := 58) hJ dX7_readChord_58 (by decide) ?_
      refine v_icmp_ne (tgt := 79) (pc := 60) hJ dX7_readChord_60 (by decide) (by omega) (by decide) (fun h60 => ?_) (fun h60 => ?_)
      · refine v_ild4 (pc := 79) hJ dX7_readChord_79 ?_
        refine v_bipush (pc := 81) hJ dX7_readChord_81 (by decide) ?_
        refine v_icmp_eq (tgt := 99) (pc := 83) hJ dX7_readChord_83 (by decide) (by first | exact b1 | omega) (by decide) (fun h83 => ?_) (fun h83 => ?_)
        · exfalso; omega
        · try obtain ⟨hN2, rfl, rfl⟩ := b3 h83
          try simp only [up_s, up_n, up_up, ne_eq, Nat.reduceEqDiff, not_false_eq_true]
          refine v_ald0 (pc := 86) hJ dX7_readChord_86 ?_
          refine v_ald0 (pc := 87) hJ dX7_readChord_87 ?_
          refine cgX7_28 (pc := 88) hJ dX7_readChord_88 ?_
          try simp only [up_s, up_n, up_up, ne_eq, Nat.reduceEqDiff, not_false_eq_true]
          refine v_cV1i (pc := 91) (q0 := 2) (ci := 4) hJ rfl rfl lkX7_43 (hS (by (try simp only [up_s, up_n, up_up, ne_eq, Nat.reduceEqDiff, not_false_eq_true]); omega) (by first | rfl | simp only [up_s, up_n, up_up, ne_eq, Nat.reduceEqDiff, not_false_eq_true])) (Nat.le_of_ble_eq_true rfl) (rOk_L (by decide) (by decide)) dX7_readChord_91 (fun r91 u91 g91 => ?_)
          obtain ⟨g91, rfl⟩ := g91
          try simp only [up_s, up_n, up_up, ne_eq, Nat.reduceEqDiff, not_false_eq_true]
          refine v_bipush (pc := 94) hJ dX7_readChord_94 (by decide) ?_
          refine v_icmp_eq (tgt := 105) (pc := 96) hJ dX7_readChord_96 (by decide) (by omega) (by decide) (fun h96 => ?_) (fun h96 => ?_)
          · refine v_ald0 (pc := 105) hJ dX7_readChord_105 ?_
            refine v_dup (pc := 106) hJ dX7_readChord_106 rfl ?_
            refine cgX7_28 (pc := 107) hJ dX7_readChord_107 ?_
            try simp only [up_s, up_n, up_up, ne_eq, Nat.reduceEqDiff, not_false_eq_true]
            refine v_iconst (pc := 110) hJ dX7_readChord_110 ?_
            refine v_iadd (pc := 111) hJ dX7_readChord_111 ?_
            refine cpX7_28 (pc := 112) hJ dX7_readChord_112 ?_
            refine v_ald1 (pc := 115) hJ dX7_readChord_115 ?_
            refine v_ild2 (pc := 116) hJ dX7_readChord_116 ?_
            refine v_ild3 (pc := 117) hJ dX7_readChord_117 ?_
            refine v_ild4 (pc := 118) hJ dX7_readChord_118 ?_
            refine v_cV3v (pc := 120) (q0 := 9) (ci := 5) hJ rfl rfl lkX7_78 (qX8_addChord hO (by simp only [up_s, up_n, up_up, ne_eq, Nat.reduceEqDiff, not_false_eq_true]; exact h61) (by simp only [up_s, up_n, up_up, ne_eq, Nat.reduceEqDiff, not_false_eq_true]; omega)) (Nat.le_of_ble_eq_true rfl) (rOk_L (by decide) (by decide)) dX7_readChord_120 (fun u120 g120 => ?_)
            subst g120
            try simp only [up_s, up_n, up_up, ne_eq, Nat.reduceEqDiff, not_false_eq_true]
            refine v_vret (pc := 123) hJ dX7_readChord_123 ⟨rfl, ?_⟩
            refine ⟨fun q => by omega, fun _ => ?_⟩
            rw [show chordAt f (I 22 + 1) = .inr (nval f (I 22 + 1), ((kdAt f p1 : Nat) : Int), nval f (I 22 + 1), p2 + 1) by
              unfold chordAt
              rw [if_pos hN1, ← hp1]
              unfold tailAt
              rw [← hp2]
              rw [if_neg (by omega)]
              unfold closeAt
              rw [if_pos (by omega)]]
            show _ = _
            simp only [up_up, up_s]
          · refine v_ald0 (pc := 99) hJ dX7_readChord_99 ?_
            refine v_iconst (pc := 100) hJ dX7_readChord_100 ?_
            refine v_cV1v (pc := 101) (q0 := 2) (ci := 4) hJ rfl rfl lkX7_53 (qX7_refuse hO) (Nat.le_of_ble_eq_true rfl) (rOk_L (by decide) (by decide)) dX7_readChord_101 (fun u101 g101 => ?_)
            subst g101
            try simp only [up_s, up_n, up_up, ne_eq, Nat.reduceEqDiff, not_false_eq_true]
            refine v_vret (pc := 104) hJ dX7_readChord_104 ⟨rfl, ?_⟩
            refine ⟨fun q => by omega, fun _ => ?_⟩
            rw [show chordAt f (I 22 + 1) = .inl p2 by
              unfold chordAt
              rw [if_pos hN1, ← hp1]
              unfold tailAt
              rw [← hp2]
              rw [if_neg (by omega)]
              unfold closeAt
              rw [if_neg (by omega)]]
            show _ = _
            rfl
      · refine v_ald0 (pc := 63) hJ dX7_readChord_63 ?_
        refine v_dup (pc := 64) hJ dX7_readChord_64 rfl ?_
        refine cgX7_28 (pc := 65) hJ dX7_readChord_65 ?_
        try simp only [up_s, up_n, up_up, ne_eq, Nat.reduceEqDiff, not_false_eq_true]
        refine v_iconst (pc := 68) hJ dX7_readChord_68 ?_
        refine v_iadd (pc := 69) hJ dX7_readChord_69 ?_
        refine cpX7_28 (pc := 70) hJ dX7_readChord_70 ?_
        refine v_ald0 (pc := 73) hJ dX7_readChord_73 ?_
        refine v_cV0i (pc := 74) (q0 := 2) (ci := 4) hJ rfl rfl lkX7_69 (hNo (by (try simp only [up_s, up_n, up_up, ne_eq, Nat.reduceEqDiff, not_false_eq_true]); omega) (by first | rfl | simp only [up_s, up_n, up_up, ne_eq, Nat.reduceEqDiff, not_false_eq_true])) (Nat.le_of_ble_eq_true rfl) (rOk_L (by decide) (by decide)) dX7_readChord_74 (fun r74 u74 g74 => ?_)
        simp only [up_s, up_n, up_up, ne_eq, Nat.reduceEqDiff, not_false_eq_true] at g74
        obtain ⟨b1, b2, b3⟩ := hinN hv2 g74
        try simp only [up_s, up_n, up_up, ne_eq, Nat.reduceEqDiff, not_false_eq_true]
        refine v_ist4 (pc := 77) hJ dX7_readChord_77 (by decide) ?_
        refine v_ild4 (pc := 79) hJ dX7_readChord_79 ?_
        refine v_bipush (pc := 81) hJ dX7_readChord_81 (by decide) ?_
        refine v_icmp_eq (tgt := 99) (pc := 83) hJ dX7_readChord_83 (by decide) (by first | exact b1 | omega) (by decide) (fun h83 => ?_) (fun h83 => ?_)
        · obtain ⟨hN2, rfl⟩ := b2 h83
          refine v_ald0 (pc := 99) hJ dX7_readChord_99 ?_
          refine v_iconst (pc := 100) hJ dX7_readChord_100 ?_
          refine v_cV1v (pc := 101) (q0 := 2) (ci := 4) hJ rfl rfl lkX7_53 (qX7_refuse hO) (Nat.le_of_ble_eq_true rfl) (rOk_L (by decide) (by decide)) dX7_readChord_101 (fun u101 g101 => ?_)
          subst g101
          try simp only [up_s, up_n, up_up, ne_eq, Nat.reduceEqDiff, not_false_eq_true]
          refine v_vret (pc := 104) hJ dX7_readChord_104 ⟨rfl, ?_⟩
          refine ⟨fun q => by omega, fun _ => ?_⟩
          rw [show chordAt f (I 22 + 1) = .inl (p2 + 1) by
            unfold chordAt
            rw [if_pos hN1, ← hp1]
            unfold tailAt
            rw [← hp2]
            rw [if_pos (by omega), if_neg hN2]]
          show _ = _
          rfl
        · try obtain ⟨hN2, rfl, rfl⟩ := b3 h83
          try simp only [up_s, up_n, up_up, ne_eq, Nat.reduceEqDiff, not_false_eq_true]
          refine v_ald0 (pc := 86) hJ dX7_readChord_86 ?_
          refine v_ald0 (pc := 87) hJ dX7_readChord_87 ?_
          refine cgX7_28 (pc := 88) hJ dX7_readChord_88 ?_
          try simp only [up_s, up_n, up_up, ne_eq, Nat.reduceEqDiff, not_false_eq_true]
          refine v_cV1i (pc := 91) (q0 := 2) (ci := 4) hJ rfl rfl lkX7_43 (hS (by (try simp only [up_s, up_n, up_up, ne_eq, Nat.reduceEqDiff, not_false_eq_true]); omega) (by first | rfl | simp only [up_s, up_n, up_up, ne_eq, Nat.reduceEqDiff, not_false_eq_true])) (Nat.le_of_ble_eq_true rfl) (rOk_L (by decide) (by decide)) dX7_readChord_91 (fun r91 u91 g91 => ?_)
          obtain ⟨g91, rfl⟩ := g91
          try simp only [up_s, up_n, up_up, ne_eq, Nat.reduceEqDiff, not_false_eq_true]
          refine v_bipush (pc := 94) hJ dX7_readChord_94 (by decide) ?_
          refine v_icmp_eq (tgt := 105) (pc := 96) hJ dX7_readChord_96 (by decide) (by omega) (by decide) (fun h96 => ?_) (fun h96 => ?_)
          · refine v_ald0 (pc := 105) hJ dX7_readChord_105 ?_
            refine v_dup (pc := 106) hJ dX7_readChord_106 rfl ?_
            refine cgX7_28 (pc := 107) hJ dX7_readChord_107 ?_
            try simp only [up_s, up_n, up_up, ne_eq, Nat.reduceEqDiff, not_false_eq_true]
            refine v_iconst (pc := 110) hJ dX7_readChord_110 ?_
            refine v_iadd (pc := 111) hJ dX7_readChord_111 ?_
            refine cpX7_28 (pc := 112) hJ dX7_readChord_112 ?_
            refine v_ald1 (pc := 115) hJ dX7_readChord_115 ?_
            refine v_ild2 (pc := 116) hJ dX7_readChord_116 ?_
            refine v_ild3 (pc := 117) hJ dX7_readChord_117 ?_
            refine v_ild4 (pc := 118) hJ dX7_readChord_118 ?_
            refine v_cV3v (pc := 120) (q0 := 9) (ci := 5) hJ rfl rfl lkX7_78 (qX8_addChord hO (by simp only [up_s, up_n, up_up, ne_eq, Nat.reduceEqDiff, not_false_eq_true]; exact h61) (by simp only [up_s, up_n, up_up, ne_eq, Nat.reduceEqDiff, not_false_eq_true]; omega)) (Nat.le_of_ble_eq_true rfl) (rOk_L (by decide) (by decide)) dX7_readChord_120 (fun u120 g120 => ?_)
            subst g120
            try simp only [up_s, up_n, up_up, ne_eq, Nat.reduceEqDiff, not_false_eq_true]
            refine v_vret (pc := 123) hJ dX7_readChord_123 ⟨rfl, ?_⟩
            refine ⟨fun q => by omega, fun _ => ?_⟩
            rw [show chordAt f (I 22 + 1) = .inr (nval f (I 22 + 1), ((kdAt f p1 : Nat) : Int), nval f (p2 + 1), (p2 + 1 + 1 + ncnt f (p2 + 1)) + 1) by
              unfold chordAt
              rw [if_pos hN1, ← hp1]
              unfold tailAt
              rw [← hp2]
              rw [if_pos (by omega), if_pos hN2]
              unfold closeAt
              rw [if_pos (by omega)]]
            show _ = _
            simp only [up_up, up_s]
          · refine v_ald0 (pc := 99) hJ dX7_readChord_99 ?_
            refine v_iconst (pc := 100) hJ dX7_readChord_100 ?_
            refine v_cV1v (pc := 101) (q0 := 2) (ci := 4) hJ rfl rfl lkX7_53 (qX7_refuse hO) (Nat.le_of_ble_eq_true rfl) (rOk_L (by decide) (by decide)) dX7_readChord_101 (fun u101 g101 => ?_)
            subst g101
            try simp only [up_s, up_n, up_up, ne_eq, Nat.reduceEqDiff, not_false_eq_true]
            refine v_vret (pc := 104) hJ dX7_readChord_104 ⟨rfl, ?_⟩
            refine ⟨fun q => by omega, fun _ => ?_⟩
            rw [show chordAt f (I 22 + 1) = .inl (p2 + 1 + 1 + ncnt f (p2 + 1)) by
              unfold chordAt
              rw [if_pos hN1, ← hp1]
              unfold tailAt
              rw [← hp2]
              rw [if_pos (by omega), if_pos hN2]
              unfold closeAt
              rw [if_neg (by omega)]]
            show _ = _
            rfl
    · obtain ⟨hN1, rfl⟩ := a2 h33
      refine v_ald0 (pc := 36) hJ dX7_readChord_36 ?_
      refine v_iconst (pc := 37) hJ dX7_readChord_37 ?_
      refine v_cV1v (pc := 38) (q0 := 2) (ci := 4) hJ rfl rfl lkX7_53 (qX7_refuse hO) (Nat.le_of_ble_eq_true rfl) (rOk_L (by decide) (by decide)) dX7_readChord_38 (fun u38 g38 => ?_)
      subst g38
      try simp only [up_s, up_n, up_up, ne_eq, Nat.reduceEqDiff, not_false_eq_true]
      refine v_vret (pc := 41) hJ dX7_readChord_41 ⟨rfl, ?_⟩
      refine ⟨fun q => by omega, fun _ => ?_⟩
      rw [show chordAt f (I 22 + 1) = .inl (I 22 + 1) by
        unfold chordAt
        rw [if_neg hN1]]
      show _ = _
      rfl
  · refine v_ald0 (pc := 9) hJ dX7_readChord_9 ?_
    refine v_iconst (pc := 10) hJ dX7_readChord_10 ?_
    refine v_cV1v (pc := 11) (q0 := 2) (ci := 4) hJ rfl rfl lkX7_53 (qX7_refuse hO) (Nat.le_of_ble_eq_true rfl) (rOk_L (by decide) (by decide)) dX7_readChord_11 (fun u11 g11 => ?_)
    subst g11
    refine v_vret (pc := 14) hJ dX7_readChord_14 ⟨rfl, ?_⟩
    exact ⟨fun _ => rfl, fun q => by omega⟩
