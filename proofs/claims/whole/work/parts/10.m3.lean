theorem qX11_right1 {l : Launch} {D : va_G} {cI : ClassId} {ad : Nat → Nat} {O : OT} {adK adV : Nat → Nat} (hO : OG O adK adV) {I : Nat → Int} {A : Nat → Int → Int} {w : Int} (h0 : I 0 = 0) : MC l D cI ad O yX11_right cX11_right 3 (some .boolean) 1 [.ref (ad 0), .int (iZ 1), .int (iZ w)] (I, A) (pI fun r u2 => r = 1 ∧ u2 = (I, A)) := by
  refine ct_intro (own := RX11) (by decide) rfl hO.1 (Nat.le_of_ble_eq_true rfl) (by simp [Value.category]) (fun X J hJ => ?_)
  show J 0 [some (.ref (ad 0)), some (.int (iZ 1)), some (.int (iZ w))] [] (I, A)
  refine v_ald0 (pc := 0) hJ dX11_right_0 ?_
  refine mg0 (pc := 1) hJ dX11_right_1 ?_
  refine v_if_ne (tgt := 16) (pc := 4) hJ dX11_right_4 (by decide) (by omega) (fun h4 => ?_) (fun h4 => ?_)
  · exact absurd h0 h4
  · refine v_ild1 (pc := 7) hJ dX11_right_7 ?_
    refine v_if_ne (tgt := 16) (pc := 8) hJ dX11_right_8 (by decide) (by omega) (fun h8 => ?_) (fun h8 => ?_)
    · refine v_ald0 (pc := 16) hJ dX11_right_16 ?_
      refine mg0 (pc := 17) hJ dX11_right_17 ?_
      refine v_if_ne (tgt := 27) (pc := 20) hJ dX11_right_20 (by decide) (by omega) (fun h20 => ?_) (fun h20 => ?_)
      · exact absurd h0 h20
      · refine v_iconst (pc := 23) hJ dX11_right_23 ?_
        refine v_goto (tgt := 28) (pc := 24) hJ dX11_right_24 (by decide) ?_
        refine v_zret (pc := 28) hJ rfl dX11_right_28 ⟨_, rfl, ?_⟩
        exact ⟨rfl, rfl⟩
    · exact absurd h8 (by decide)
theorem qX11_right0 {l : Launch} {D : va_G} {cI : ClassId} {ad : Nat → Nat} {O : OT} {adK adV : Nat → Nat} (hO : OG O adK adV) {I : Nat → Int} {A : Nat → Int → Int} {w : Int} (h0 : I 0 = 0) (hw : 0 < w ∧ w < 100) : MC l D cI ad O yX11_right cX11_right 3 (some .boolean) 1 [.ref (ad 0), .int (iZ 0), .int (iZ w)] (I, A) (pI fun r u2 => r = 0 ∧ u2 = (va_up I 0 w, A)) := by
  refine ct_intro (own := RX11) (by decide) rfl hO.1 (Nat.le_of_ble_eq_true rfl) (by simp [Value.category]) (fun X J hJ => ?_)
  show J 0 [some (.ref (ad 0)), some (.int (iZ 0)), some (.int (iZ w))] [] (I, A)
  refine v_ald0 (pc := 0) hJ dX11_right_0 ?_
  refine mg0 (pc := 1) hJ dX11_right_1 ?_
  refine v_if_ne (tgt := 16) (pc := 4) hJ dX11_right_4 (by decide) (by omega) (fun h4 => ?_) (fun h4 => ?_)
  · exact absurd h0 h4
  · refine v_ild1 (pc := 7) hJ dX11_right_7 ?_
    refine v_if_ne (tgt := 16) (pc := 8) hJ dX11_right_8 (by decide) (by omega) (fun h8 => ?_) (fun h8 => ?_)
    · exact absurd rfl h8
    · refine v_ald0 (pc := 11) hJ dX11_right_11 ?_
      refine v_ild2 (pc := 12) hJ dX11_right_12 ?_
      refine mp0 (pc := 13) hJ dX11_right_13 ?_
      refine v_ald0 (pc := 16) hJ dX11_right_16 ?_
      refine mg0 (pc := 17) hJ dX11_right_17 ?_
      try simp only [up_s, up_n, up_up, ne_eq, Nat.reduceEqDiff, not_false_eq_true]
      refine v_if_ne (tgt := 27) (pc := 20) hJ dX11_right_20 (by decide) (by omega) (fun h20 => ?_) (fun h20 => ?_)
      · refine v_iconst (pc := 27) hJ dX11_right_27 ?_
        refine v_zret (pc := 28) hJ rfl dX11_right_28 ⟨_, rfl, ?_⟩
        exact ⟨rfl, rfl⟩
      · omega
set_option maxHeartbeats 4000000 in
set_option maxRecDepth 100000 in
theorem qX11_fault {l : Launch} {D : va_G} {cI : ClassId} {ad : Nat → Nat} {O : OT} {adK adV : Nat → Nat} (hO : OG O adK adV) {I : Nat → Int} {A : Nat → Int → Int} {w : Int} (hw : inR w) : MC l D cI ad O yX11_fault cX11_fault 2 (some .int) 2 [.ref (ad 0), .int (iZ w)] (I, A) (pI fun r u2 => (w = 0 → r = I 3 ∧ u2 = (va_up I 0 0, A)) ∧ (w = 1 → r = I 4 ∧ u2 = (va_up I 0 0, A)) ∧ (w ≠ 0 → w ≠ 1 → u2 = (va_up I 0 1, A))) := by
  refine ct_intro (own := RX11) (by decide) rfl hO.1 (Nat.le_of_ble_eq_true rfl) (by simp [Value.category]) (fun X J hJ => ?_)
  show J 0 [some (.ref (ad 0)), some (.int (iZ w))] [] (I, A)
  refine v_ald0 (pc := 0) hJ dX11_fault_0 ?_
  refine v_iconst (pc := 1) hJ dX11_fault_1 ?_
  refine mp0 (pc := 2) hJ dX11_fault_2 ?_
  refine v_ald0 (pc := 5) hJ dX11_fault_5 ?_
  refine v_ild1 (pc := 6) hJ dX11_fault_6 ?_
  refine v_if_eq (tgt := 15) (pc := 7) hJ dX11_fault_7 (by decide) (by omega) (fun h7 => ?_) (fun h7 => ?_)
  · refine v_iconst (pc := 15) hJ dX11_fault_15 ?_
    refine v_goto (tgt := 20) (pc := 16) hJ dX11_fault_16 (by decide) ?_
    refine v_iconst (pc := 20) hJ dX11_fault_20 ?_
    refine v_cV2i (pc := 21) (q0 := 0) (ci := 8) hJ rfl rfl lkX11_190 (qX11_right1 hO (by first | (simp only [up_s, up_n, up_up, ne_eq, Nat.reduceEqDiff, not_false_eq_true]; done) | assumption | (simp only [up_s, up_n, up_up, ne_eq, Nat.reduceEqDiff, not_false_eq_true]; assumption))) (Nat.le_of_ble_eq_true rfl) (rOk_L (by decide) (by decide)) dX11_fault_21 (fun r21 u21 g21 => ?_)
    obtain ⟨rfl, rfl⟩ := g21
    try simp only [up_s, up_n, up_up, ne_eq, Nat.reduceEqDiff, not_false_eq_true]
    refine v_if_ne (tgt := 29) (pc := 24) hJ dX11_fault_24 (by decide) (by decide) (fun _ => ?_) (fun h => by first | exact absurd h (by decide) | exact absurd (by decide) h)
    refine v_ild1 (pc := 29) hJ dX11_fault_29 ?_
    refine v_if_ne (tgt := 40) (pc := 30) hJ dX11_fault_30 (by decide) (by omega) (fun h30 => ?_) (fun h30 => ?_)
    · refine v_ald0 (pc := 40) hJ dX11_fault_40 ?_
      refine mg4 (pc := 41) hJ dX11_fault_41 ?_
      try simp only [up_s, up_n, up_up, ne_eq, Nat.reduceEqDiff, not_false_eq_true]
      refine v_iret (pc := 44) hJ dX11_fault_44 ⟨_, rfl, ?_⟩
      refine ⟨fun q => ?_, fun q => ?_, fun q1 q2 => ?_⟩ <;> first | (exfalso; omega) | exact ⟨rfl, rfl⟩ | simp only [up_up]
    · refine v_ald0 (pc := 33) hJ dX11_fault_33 ?_
      refine mg3 (pc := 34) hJ dX11_fault_34 ?_
      try simp only [up_s, up_n, up_up, ne_eq, Nat.reduceEqDiff, not_false_eq_true]
      refine v_goto (tgt := 44) (pc := 37) hJ dX11_fault_37 (by decide) ?_
      refine v_iret (pc := 44) hJ dX11_fault_44 ⟨_, rfl, ?_⟩
      refine ⟨fun q => ?_, fun q => ?_, fun q1 q2 => ?_⟩ <;> first | (exfalso; omega) | exact ⟨rfl, rfl⟩ | simp only [up_up]
  · refine v_ild1 (pc := 10) hJ dX11_fault_10 ?_
    refine v_iconst (pc := 11) hJ dX11_fault_11 ?_
    refine v_icmp_ne (tgt := 19) (pc := 12) hJ dX11_fault_12 (by decide) (by omega) (by omega) (fun h12 => ?_) (fun h12 => ?_)
    · refine v_iconst (pc := 19) hJ dX11_fault_19 ?_
      refine v_iconst (pc := 20) hJ dX11_fault_20 ?_
      refine v_cV2i (pc := 21) (q0 := 0) (ci := 8) hJ rfl rfl lkX11_190 (qX11_right0 hO (by first | (simp only [up_s, up_n, up_up, ne_eq, Nat.reduceEqDiff, not_false_eq_true]; done) | assumption | (simp only [up_s, up_n, up_up, ne_eq, Nat.reduceEqDiff, not_false_eq_true]; assumption)) (by decide)) (Nat.le_of_ble_eq_true rfl) (rOk_L (by decide) (by decide)) dX11_fault_21 (fun r21 u21 g21 => ?_)
      obtain ⟨rfl, rfl⟩ := g21
      try simp only [up_s, up_n, up_up, ne_eq, Nat.reduceEqDiff, not_false_eq_true]
      refine v_if_ne (tgt := 29) (pc := 24) hJ dX11_fault_24 (by decide) (by decide) (fun h => by first | exact absurd h (by decide) | exact absurd (by decide) h) (fun _ => ?_)
      refine v_iconst (pc := 27) hJ dX11_fault_27 ?_
      refine v_iret (pc := 28) hJ dX11_fault_28 ⟨_, rfl, ?_⟩
      refine ⟨fun q => ?_, fun q => ?_, fun q1 q2 => ?_⟩ <;> first | (exfalso; omega) | exact ⟨rfl, rfl⟩ | simp only [up_up]
    · refine v_iconst (pc := 15) hJ dX11_fault_15 ?_
      refine v_goto (tgt := 20) (pc := 16) hJ dX11_fault_16 (by decide) ?_
      refine v_iconst (pc := 20) hJ dX11_fault_20 ?_
      refine v_cV2i (pc := 21) (q0 := 0) (ci := 8) hJ rfl rfl lkX11_190 (qX11_right1 hO (by first | (simp only [up_s, up_n, up_up, ne_eq, Nat.reduceEqDiff, not_false_eq_true]; done) | assumption | (simp only [up_s, up_n, up_up, ne_eq, Nat.reduceEqDiff, not_false_eq_true]; assumption))) (Nat.le_of_ble_eq_true rfl) (rOk_L (by decide) (by decide)) dX11_fault_21 (fun r21 u21 g21 => ?_)
      obtain ⟨rfl, rfl⟩ := g21
      try simp only [up_s, up_n, up_up, ne_eq, Nat.reduceEqDiff, not_false_eq_true]
      refine v_if_ne (tgt := 29) (pc := 24) hJ dX11_fault_24 (by decide) (by decide) (fun _ => ?_) (fun h => by first | exact absurd h (by decide) | exact absurd (by decide) h)
      refine v_ild1 (pc := 29) hJ dX11_fault_29 ?_
      refine v_if_ne (tgt := 40) (pc := 30) hJ dX11_fault_30 (by decide) (by omega) (fun h30 => ?_) (fun h30 => ?_)
      · refine v_ald0 (pc := 40) hJ dX11_fault_40 ?_
        refine mg4 (pc := 41) hJ dX11_fault_41 ?_
        try simp only [up_s, up_n, up_up, ne_eq, Nat.reduceEqDiff, not_false_eq_true]
        refine v_iret (pc := 44) hJ dX11_fault_44 ⟨_, rfl, ?_⟩
        refine ⟨fun q => ?_, fun q => ?_, fun q1 q2 => ?_⟩ <;> first | (exfalso; omega) | exact ⟨rfl, rfl⟩ | simp only [up_up]
      · refine v_ald0 (pc := 33) hJ dX11_fault_33 ?_
        refine mg3 (pc := 34) hJ dX11_fault_34 ?_
        try simp only [up_s, up_n, up_up, ne_eq, Nat.reduceEqDiff, not_false_eq_true]
        refine v_goto (tgt := 44) (pc := 37) hJ dX11_fault_37 (by decide) ?_
        refine v_iret (pc := 44) hJ dX11_fault_44 ⟨_, rfl, ?_⟩
        refine ⟨fun q => ?_, fun q => ?_, fun q1 q2 => ?_⟩ <;> first | (exfalso; omega) | exact ⟨rfl, rfl⟩ | simp only [up_up]
set_option maxHeartbeats 4000000 in
set_option maxRecDepth 100000 in
theorem qX11_key {l : Launch} {D : va_G} {cI : ClassId} {ad : Nat → Nat} {O : OT} {adK adV : Nat → Nat} (hO : OG O adK adV) {I : Nat → Int} {A : Nat → Int → Int} {k : Int} (hk : inR k) : MC l D cI ad O yX11_key cX11_key 3 (some .int) 2 [.ref (ad 0), .int (iZ k)] (I, A) (pI fun r u2 => (-7 ≤ k ∧ k ≤ 7 → r = I 8 ∧ u2 = (va_up (va_up I 0 0) 8 k, A)) ∧ (¬ (-7 ≤ k ∧ k ≤ 7) → u2 = (va_up I 0 1, A))) := by
  refine ct_intro (own := RX11) (by decide) rfl hO.1 (Nat.le_of_ble_eq_true rfl) (by simp [Value.category]) (fun X J hJ => ?_)
  show J 0 [some (.ref (ad 0)), some (.int (iZ k)), none] [] (I, A)
  refine v_ald0 (pc := 0) hJ dX11_key_0 ?_
  refine v_iconst (pc := 1) hJ dX11_key_1 ?_
  refine mp0 (pc := 2) hJ dX11_key_2 ?_
  refine v_ald0 (pc := 5) hJ dX11_key_5 ?_
  refine v_ild1 (pc := 6) hJ dX11_key_6 ?_
  refine v_bipush (pc := 7) hJ dX11_key_7 (by decide) ?_
  refine v_icmp_lt (tgt := 22) (pc := 9) hJ dX11_key_9 (by decide) (by omega) (by omega) (fun h9 => ?_) (fun h9 => ?_)
  · refine v_iconst (pc := 22) hJ dX11_key_22 ?_
    refine v_iconst (pc := 23) hJ dX11_key_23 ?_
    refine v_cV2i (pc := 24) (q0 := 0) (ci := 8) hJ rfl rfl lkX11_190 (qX11_right0 hO (by first | (simp only [up_s, up_n, up_up, ne_eq, Nat.reduceEqDiff, not_false_eq_true]; done) | assumption | (simp only [up_s, up_n, up_up, ne_eq, Nat.reduceEqDiff, not_false_eq_true]; assumption)) (by decide)) (Nat.le_of_ble_eq_true rfl) (rOk_L (by decide) (by decide)) dX11_key_24 (fun r24 u24 g24 => ?_)
    obtain ⟨rfl, rfl⟩ := g24
    try simp only [up_s, up_n, up_up, ne_eq, Nat.reduceEqDiff, not_false_eq_true]
    refine v_if_ne (tgt := 32) (pc := 27) hJ dX11_key_27 (by decide) (by decide) (fun h => by first | exact absurd h (by decide) | exact absurd (by decide) h) (fun _ => ?_)
    refine v_iconst (pc := 30) hJ dX11_key_30 ?_
    refine v_iret (pc := 31) hJ dX11_key_31 ⟨_, rfl, ?_⟩
    refine ⟨fun q => ?_, fun q => ?_⟩ <;> first | (exfalso; omega) | exact ⟨rfl, rfl⟩ | simp only [up_up]
  · refine v_ild1 (pc := 12) hJ dX11_key_12 ?_
    refine v_bipush (pc := 13) hJ dX11_key_13 (by decide) ?_
    refine v_icmp_gt (tgt := 22) (pc := 15) hJ dX11_key_15 (by decide) (by omega) (by omega) (fun h15 => ?_) (fun h15 => ?_)
    · refine v_iconst (pc := 22) hJ dX11_key_22 ?_
      refine v_iconst (pc := 23) hJ dX11_key_23 ?_
      refine v_cV2i (pc := 24) (q0 := 0) (ci := 8) hJ rfl rfl lkX11_190 (qX11_right0 hO (by first | (simp only [up_s, up_n, up_up, ne_eq, Nat.reduceEqDiff, not_false_eq_true]; done) | assumption | (simp only [up_s, up_n, up_up, ne_eq, Nat.reduceEqDiff, not_false_eq_true]; assumption)) (by decide)) (Nat.le_of_ble_eq_true rfl) (rOk_L (by decide) (by decide)) dX11_key_24 (fun r24 u24 g24 => ?_)
      obtain ⟨rfl, rfl⟩ := g24
      try simp only [up_s, up_n, up_up, ne_eq, Nat.reduceEqDiff, not_false_eq_true]
      refine v_if_ne (tgt := 32) (pc := 27) hJ dX11_key_27 (by decide) (by decide) (fun h => by first | exact absurd h (by decide) | exact absurd (by decide) h) (fun _ => ?_)
      refine v_iconst (pc := 30) hJ dX11_key_30 ?_
      refine v_iret (pc := 31) hJ dX11_key_31 ⟨_, rfl, ?_⟩
      refine ⟨fun q => ?_, fun q => ?_⟩ <;> first | (exfalso; omega) | exact ⟨rfl, rfl⟩ | simp only [up_up]
    · refine v_iconst (pc := 18) hJ dX11_key_18 ?_
      refine v_goto (tgt := 23) (pc := 19) hJ dX11_key_19 (by decide) ?_
      refine v_iconst (pc := 23) hJ dX11_key_23 ?_
      refine v_cV2i (pc := 24) (q0 := 0) (ci := 8) hJ rfl rfl lkX11_190 (qX11_right1 hO (by first | (simp only [up_s, up_n, up_up, ne_eq, Nat.reduceEqDiff, not_false_eq_true]; done) | assumption | (simp only [up_s, up_n, up_up, ne_eq, Nat.reduceEqDiff, not_false_eq_true]; assumption))) (Nat.le_of_ble_eq_true rfl) (rOk_L (by decide) (by decide)) dX11_key_24 (fun r24 u24 g24 => ?_)
      obtain ⟨rfl, rfl⟩ := g24
      try simp only [up_s, up_n, up_up, ne_eq, Nat.reduceEqDiff, not_false_eq_true]
      refine v_if_ne (tgt := 32) (pc := 27) hJ dX11_key_27 (by decide) (by decide) (fun _ => ?_) (fun h => by first | exact absurd h (by decide) | exact absurd (by decide) h)
      refine v_ald0 (pc := 32) hJ dX11_key_32 ?_
      refine mg8 (pc := 33) hJ dX11_key_33 ?_
      try simp only [up_s, up_n, up_up, ne_eq, Nat.reduceEqDiff, not_false_eq_true]
      refine v_ist2 (pc := 36) hJ dX11_key_36 (by decide) ?_
      refine v_ald0 (pc := 37) hJ dX11_key_37 ?_
      refine v_ild1 (pc := 38) hJ dX11_key_38 ?_
      refine mp8 (pc := 39) hJ dX11_key_39 ?_
      refine v_ild2 (pc := 42) hJ dX11_key_42 ?_
      refine v_iret (pc := 43) hJ dX11_key_43 ⟨_, rfl, ?_⟩
      refine ⟨fun q => ?_, fun q => ?_⟩ <;> first | (exfalso; omega) | exact ⟨rfl, rfl⟩ | simp only [up_up]
set_option maxHeartbeats 4000000 in
set_option maxRecDepth 100000 in
theorem qX11_isChord {l : Launch} {D : va_G} {cI : ClassId} {ad : Nat → Nat} {O : OT} {adK adV : Nat → Nat} (hO : OG O adK adV) {I : Nat → Int} {A : Nat → Int → Int} {i : Int} (hi : inR i) (h6 : inR (I 6)) : MC l D cI ad O yX11_isChord cX11_isChord 2 (some .boolean) 2 [.ref (ad 0), .int (iZ i)] (I, A) (pI fun r u2 => (0 ≤ i ∧ i < I 6 → r = 1 ∧ u2 = (va_up I 0 0, A)) ∧ (¬ (0 ≤ i ∧ i < I 6) → r = 0 ∧ u2 = (va_up I 0 1, A))) := by
  refine ct_intro (own := RX11) (by decide) rfl hO.1 (Nat.le_of_ble_eq_true rfl) (by simp [Value.category]) (fun X J hJ => ?_)
  show J 0 [some (.ref (ad 0)), some (.int (iZ i))] [] (I, A)
  refine v_ald0 (pc := 0) hJ dX11_isChord_0 ?_
  refine v_iconst (pc := 1) hJ dX11_isChord_1 ?_
  refine mp0 (pc := 2) hJ dX11_isChord_2 ?_
  refine v_ald0 (pc := 5) hJ dX11_isChord_5 ?_
  refine v_ild1 (pc := 6) hJ dX11_isChord_6 ?_
  refine v_if_lt (tgt := 22) (pc := 7) hJ dX11_isChord_7 (by decide) (by omega) (fun h7 => ?_) (fun h7 => ?_)
  · refine v_iconst (pc := 22) hJ dX11_isChord_22 ?_
    refine v_iconst (pc := 23) hJ dX11_isChord_23 ?_
    refine v_cV2i (pc := 24) (q0 := 0) (ci := 8) hJ rfl rfl lkX11_190 (qX11_right0 hO (by first | (simp only [up_s, up_n, up_up, ne_eq, Nat.reduceEqDiff, not_false_eq_true]; done) | assumption | (simp only [up_s, up_n, up_up, ne_eq, Nat.reduceEqDiff, not_false_eq_true]; assumption)) (by decide)) (Nat.le_of_ble_eq_true rfl) (rOk_L (by decide) (by decide)) dX11_isChord_24 (fun r24 u24 g24 => ?_)
    obtain ⟨rfl, rfl⟩ := g24
    try simp only [up_s, up_n, up_up, ne_eq, Nat.reduceEqDiff, not_false_eq_true]
    refine v_zret (pc := 27) hJ rfl dX11_isChord_27 ⟨_, rfl, ?_⟩
    refine ⟨fun q => ?_, fun q => ?_⟩ <;> first | (exfalso; omega) | exact ⟨rfl, rfl⟩ | (simp only [up_up]; exact ⟨trivial, trivial⟩) | simp only [up_up, and_self]
  · refine v_ild1 (pc := 10) hJ dX11_isChord_10 ?_
    refine v_ald0 (pc := 11) hJ dX11_isChord_11 ?_
    refine mg6 (pc := 12) hJ dX11_isChord_12 ?_
    try simp only [up_s, up_n, up_up, ne_eq, Nat.reduceEqDiff, not_false_eq_true]
    refine v_icmp_ge (tgt := 22) (pc := 15) hJ dX11_isChord_15 (by decide) (by omega) (by omega) (fun h15 => ?_) (fun h15 => ?_)
    · refine v_iconst (pc := 22) hJ dX11_isChord_22 ?_
      refine v_iconst (pc := 23) hJ dX11_isChord_23 ?_
      refine v_cV2i (pc := 24) (q0 := 0) (ci := 8) hJ rfl rfl lkX11_190 (qX11_right0 hO (by first | (simp only [up_s, up_n, up_up, ne_eq, Nat.reduceEqDiff, not_false_eq_true]; done) | assumption | (simp only [up_s, up_n, up_up, ne_eq, Nat.reduceEqDiff, not_false_eq_true]; assumption)) (by decide)) (Nat.le_of_ble_eq_true rfl) (rOk_L (by decide) (by decide)) dX11_isChord_24 (fun r24 u24 g24 => ?_)
      obtain ⟨rfl, rfl⟩ := g24
      try simp only [up_s, up_n, up_up, ne_eq, Nat.reduceEqDiff, not_false_eq_true]
      refine v_zret (pc := 27) hJ rfl dX11_isChord_27 ⟨_, rfl, ?_⟩
      refine ⟨fun q => ?_, fun q => ?_⟩ <;> first | (exfalso; omega) | exact ⟨rfl, rfl⟩ | (simp only [up_up]; exact ⟨trivial, trivial⟩) | simp only [up_up, and_self]
    · refine v_iconst (pc := 18) hJ dX11_isChord_18 ?_
      refine v_goto (tgt := 23) (pc := 19) hJ dX11_isChord_19 (by decide) ?_
      refine v_iconst (pc := 23) hJ dX11_isChord_23 ?_
      refine v_cV2i (pc := 24) (q0 := 0) (ci := 8) hJ rfl rfl lkX11_190 (qX11_right1 hO (by first | (simp only [up_s, up_n, up_up, ne_eq, Nat.reduceEqDiff, not_false_eq_true]; done) | assumption | (simp only [up_s, up_n, up_up, ne_eq, Nat.reduceEqDiff, not_false_eq_true]; assumption))) (Nat.le_of_ble_eq_true rfl) (rOk_L (by decide) (by decide)) dX11_isChord_24 (fun r24 u24 g24 => ?_)
      obtain ⟨rfl, rfl⟩ := g24
      try simp only [up_s, up_n, up_up, ne_eq, Nat.reduceEqDiff, not_false_eq_true]
      refine v_zret (pc := 27) hJ rfl dX11_isChord_27 ⟨_, rfl, ?_⟩
      refine ⟨fun q => ?_, fun q => ?_⟩ <;> first | (exfalso; omega) | exact ⟨rfl, rfl⟩ | (simp only [up_up]; exact ⟨trivial, trivial⟩) | simp only [up_up, and_self]
set_option maxHeartbeats 4000000 in
set_option maxRecDepth 100000 in
theorem qX11_told {l : Launch} {D : va_G} {cI : ClassId} {ad : Nat → Nat} {O : OT} {adK adV : Nat → Nat} (hO : OG O adK adV) {I : Nat → Int} {A : Nat → Int → Int} {k : Int} (hk : inR k) (h26 : 0 ≤ I 26 ∧ I 26 < 1000000) : MC l D cI ad O yX11_told cX11_told 2 (some .int) 2 [.ref (ad 0), .int (iZ k)] (I, A) (pI fun r u2 => (0 ≤ k ∧ k < (if I 26 < 4000 then I 26 else 4000) → r = A 25 k ∧ u2 = (va_up I 0 0, A)) ∧ (¬ (0 ≤ k ∧ k < (if I 26 < 4000 then I 26 else 4000)) → u2 = (va_up I 0 1, A))) := by
  refine ct_intro (own := RX11) (by decide) rfl hO.1 (Nat.le_of_ble_eq_true rfl) (by simp [Value.category]) (fun X J hJ => ?_)
  show J 0 [some (.ref (ad 0)), some (.int (iZ k))] [] (I, A)
  refine v_ald0 (pc := 0) hJ dX11_told_0 ?_
  refine v_iconst (pc := 1) hJ dX11_told_1 ?_
  refine mp0 (pc := 2) hJ dX11_told_2 ?_
  refine v_ald0 (pc := 5) hJ dX11_told_5 ?_
  refine v_ild1 (pc := 6) hJ dX11_told_6 ?_
  refine v_if_lt (tgt := 22) (pc := 7) hJ dX11_told_7 (by decide) (by omega) (fun h7 => ?_) (fun h7 => ?_)
  · refine v_iconst (pc := 22) hJ dX11_told_22 ?_
    refine v_iconst (pc := 23) hJ dX11_told_23 ?_
    refine v_cV2i (pc := 24) (q0 := 0) (ci := 8) hJ rfl rfl lkX11_190 (qX11_right0 hO (by first | (simp only [up_s, up_n, up_up, ne_eq, Nat.reduceEqDiff, not_false_eq_true]; done) | assumption | (simp only [up_s, up_n, up_up, ne_eq, Nat.reduceEqDiff, not_false_eq_true]; assumption)) (by decide)) (Nat.le_of_ble_eq_true rfl) (rOk_L (by decide) (by decide)) dX11_told_24 (fun r24 u24 g24 => ?_)
    obtain ⟨rfl, rfl⟩ := g24
    try simp only [up_s, up_n, up_up, ne_eq, Nat.reduceEqDiff, not_false_eq_true]
    refine v_if_eq (tgt := 39) (pc := 27) hJ dX11_told_27 (by decide) (by decide) (fun _ => ?_) (fun h => by first | exact absurd h (by decide) | exact absurd (by decide) h)
    refine v_iconst (pc := 39) hJ dX11_told_39 ?_
    refine v_iret (pc := 40) hJ dX11_told_40 ⟨_, rfl, ?_⟩
    refine ⟨fun q => ?_, fun q => ?_⟩ <;> first | (exfalso; omega) | exact ⟨rfl, rfl⟩ | simp only [up_up]
  · refine v_ild1 (pc := 10) hJ dX11_told_10 ?_
    refine v_ald0 (pc := 11) hJ dX11_told_11 ?_
    refine v_cV0i (pc := 12) (q0 := 0) (ci := 8) hJ rfl rfl lkX11_261 (qX11_kept hO (by simp only [up_s, up_n, up_up, ne_eq, Nat.reduceEqDiff, not_false_eq_true]; omega)) (Nat.le_of_ble_eq_true rfl) (rOk_L (by decide) (by decide)) dX11_told_12 (fun r12 u12 g12 => ?_)
    obtain ⟨rfl, rfl⟩ := g12
    try simp only [up_s, up_n, up_up, ne_eq, Nat.reduceEqDiff, not_false_eq_true]
    refine v_icmp_ge (tgt := 22) (pc := 15) hJ dX11_told_15 (by decide) (by omega) (by omega) (fun h15 => ?_) (fun h15 => ?_)
    · refine v_iconst (pc := 22) hJ dX11_told_22 ?_
      refine v_iconst (pc := 23) hJ dX11_told_23 ?_
      refine v_cV2i (pc := 24) (q0 := 0) (ci := 8) hJ rfl rfl lkX11_190 (qX11_right0 hO (by first | (simp only [up_s, up_n, up_up, ne_eq, Nat.reduceEqDiff, not_false_eq_true]; done) | assumption | (simp only [up_s, up_n, up_up, ne_eq, Nat.reduceEqDiff, not_false_eq_true]; assumption)) (by decide)) (Nat.le_of_ble_eq_true rfl) (rOk_L (by decide) (by decide)) dX11_told_24 (fun r24 u24 g24 => ?_)
      obtain ⟨rfl, rfl⟩ := g24
      try simp only [up_s, up_n, up_up, ne_eq, Nat.reduceEqDiff, not_false_eq_true]
      refine v_if_eq (tgt := 39) (pc := 27) hJ dX11_told_27 (by decide) (by decide) (fun _ => ?_) (fun h => by first | exact absurd h (by decide) | exact absurd (by decide) h)
      refine v_iconst (pc := 39) hJ dX11_told_39 ?_
      refine v_iret (pc := 40) hJ dX11_told_40 ⟨_, rfl, ?_⟩
      refine ⟨fun q => ?_, fun q => ?_⟩ <;> first | (exfalso; omega) | exact ⟨rfl, rfl⟩ | simp only [up_up]
    · refine v_iconst (pc := 18) hJ dX11_told_18 ?_
      refine v_goto (tgt := 23) (pc := 19) hJ dX11_told_19 (by decide) ?_
      refine v_iconst (pc := 23) hJ dX11_told_23 ?_
      refine v_cV2i (pc := 24) (q0 := 0) (ci := 8) hJ rfl rfl lkX11_190 (qX11_right1 hO (by first | (simp only [up_s, up_n, up_up, ne_eq, Nat.reduceEqDiff, not_false_eq_true]; done) | assumption | (simp only [up_s, up_n, up_up, ne_eq, Nat.reduceEqDiff, not_false_eq_true]; assumption))) (Nat.le_of_ble_eq_true rfl) (rOk_L (by decide) (by decide)) dX11_told_24 (fun r24 u24 g24 => ?_)
      obtain ⟨rfl, rfl⟩ := g24
      try simp only [up_s, up_n, up_up, ne_eq, Nat.reduceEqDiff, not_false_eq_true]
      refine v_if_eq (tgt := 39) (pc := 27) hJ dX11_told_27 (by decide) (by decide) (fun h => by first | exact absurd h (by decide) | exact absurd (by decide) h) (fun _ => ?_)
      refine v_ald0 (pc := 30) hJ dX11_told_30 ?_
      refine mg25 (pc := 31) hJ dX11_told_31 ?_
      refine v_ild1 (pc := 34) hJ dX11_told_34 ?_
      refine ma25 (pc := 35) hJ (by omega) (by omega) dX11_told_35 ?_
      try simp only [up_s, up_n, up_up, ne_eq, Nat.reduceEqDiff, not_false_eq_true]
      refine v_goto (tgt := 40) (pc := 36) hJ dX11_told_36 (by decide) ?_
      refine v_iret (pc := 40) hJ dX11_told_40 ⟨_, rfl, ?_⟩
      refine ⟨fun q => ?_, fun q => ?_⟩ <;> first | (exfalso; omega) | exact ⟨rfl, rfl⟩ | simp only [up_up]
set_option maxHeartbeats 4000000 in
set_option maxRecDepth 100000 in
theorem qX11_played {l : Launch} {D : va_G} {cI : ClassId} {ad : Nat → Nat} {O : OT} {adK adV : Nat → Nat} (hO : OG O adK adV) {I : Nat → Int} {A : Nat → Int → Int} {i : Int} (hi : inR i) (h10 : inR (I 10)) (h6 : 0 ≤ I 6 ∧ I 6 ≤ 60) : MC l D cI ad O yX11_played cX11_played 2 (some .int) 1 [.ref (ad 0), .int (iZ i)] (I, A) (pI fun r u2 => r = (if I 10 = -1 ∨ i < -1 ∨ I 6 ≤ i then -1 else if i = -1 then I 10 else A 24 i) ∧ u2 = (va_up I 0 0, A)) := by
  refine ct_intro (own := RX11) (by decide) rfl hO.1 (Nat.le_of_ble_eq_true rfl) (by simp [Value.category]) (fun X J hJ => ?_)
  show J 0 [some (.ref (ad 0)), some (.int (iZ i))] [] (I, A)
  refine v_ald0 (pc := 0) hJ dX11_played_0 ?_
  refine v_iconst (pc := 1) hJ dX11_played_1 ?_
  refine mp0 (pc := 2) hJ dX11_played_2 ?_
  refine v_ald0 (pc := 5) hJ dX11_played_5 ?_
  refine mg10 (pc := 6) hJ dX11_played_6 ?_
  try simp only [up_s, up_n, up_up, ne_eq, Nat.reduceEqDiff, not_false_eq_true]
  refine v_iconst (pc := 9) hJ dX11_played_9 ?_
  refine v_icmp_eq (tgt := 26) (pc := 10) hJ dX11_played_10 (by decide) (by omega) (by omega) (fun h10 => ?_) (fun h10 => ?_)
  · refine v_iconst (pc := 26) hJ dX11_played_26 ?_
    refine v_iret (pc := 27) hJ dX11_played_27 ⟨_, rfl, ?_⟩
    first | (rw [if_pos (by omega)]; exact ⟨rfl, rfl⟩) | (rw [if_neg (by omega), if_pos (by omega)]; exact ⟨rfl, rfl⟩) | (rw [if_neg (by omega), if_neg (by omega)]; exact ⟨rfl, rfl⟩)
  · refine v_ild1 (pc := 13) hJ dX11_played_13 ?_
    refine v_iconst (pc := 14) hJ dX11_played_14 ?_
    refine v_icmp_lt (tgt := 26) (pc := 15) hJ dX11_played_15 (by decide) (by omega) (by omega) (fun h15 => ?_) (fun h15 => ?_)
    · refine v_iconst (pc := 26) hJ dX11_played_26 ?_
      refine v_iret (pc := 27) hJ dX11_played_27 ⟨_, rfl, ?_⟩
      first | (rw [if_pos (by omega)]; exact ⟨rfl, rfl⟩) | (rw [if_neg (by omega), if_pos (by omega)]; exact ⟨rfl, rfl⟩) | (rw [if_neg (by omega), if_neg (by omega)]; exact ⟨rfl, rfl⟩)
    · refine v_ild1 (pc := 18) hJ dX11_played_18 ?_
      refine v_ald0 (pc := 19) hJ dX11_played_19 ?_
      refine mg6 (pc := 20) hJ dX11_played_20 ?_
      try simp only [up_s, up_n, up_up, ne_eq, Nat.reduceEqDiff, not_false_eq_true]
      refine v_icmp_lt (tgt := 28) (pc := 23) hJ dX11_played_23 (by decide) (by omega) (by omega) (fun h23 => ?_) (fun h23 => ?_)
      · refine v_ild1 (pc := 28) hJ dX11_played_28 ?_
        refine v_iconst (pc := 29) hJ dX11_played_29 ?_
        refine v_icmp_ne (tgt := 40) (pc := 30) hJ dX11_played_30 (by decide) (by omega) (by omega) (fun h30 => ?_) (fun h30 => ?_)
        · refine v_ald0 (pc := 40) hJ dX11_played_40 ?_
          refine mg24 (pc := 41) hJ dX11_played_41 ?_
          refine v_ild1 (pc := 44) hJ dX11_played_44 ?_
          refine ma24 (pc := 45) hJ (by omega) (by omega) dX11_played_45 ?_
          try simp only [up_s, up_n, up_up, ne_eq, Nat.reduceEqDiff, not_false_eq_true]
          refine v_iret (pc := 46) hJ dX11_played_46 ⟨_, rfl, ?_⟩
          first | (rw [if_pos (by omega)]; exact ⟨rfl, rfl⟩) | (rw [if_neg (by omega), if_pos (by omega)]; exact ⟨rfl, rfl⟩) | (rw [if_neg (by omega), if_neg (by omega)]; exact ⟨rfl, rfl⟩)
        · refine v_ald0 (pc := 33) hJ dX11_played_33 ?_
          refine mg10 (pc := 34) hJ dX11_played_34 ?_
          try simp only [up_s, up_n, up_up, ne_eq, Nat.reduceEqDiff, not_false_eq_true]
          refine v_goto (tgt := 46) (pc := 37) hJ dX11_played_37 (by decide) ?_
          refine v_iret (pc := 46) hJ dX11_played_46 ⟨_, rfl, ?_⟩
          first | (rw [if_pos (by omega)]; exact ⟨rfl, rfl⟩) | (rw [if_neg (by omega), if_pos (by omega)]; exact ⟨rfl, rfl⟩) | (rw [if_neg (by omega), if_neg (by omega)]; exact ⟨rfl, rfl⟩)
      · refine v_iconst (pc := 26) hJ dX11_played_26 ?_
        refine v_iret (pc := 27) hJ dX11_played_27 ⟨_, rfl, ?_⟩
        first | (rw [if_pos (by omega)]; exact ⟨rfl, rfl⟩) | (rw [if_neg (by omega), if_pos (by omega)]; exact ⟨rfl, rfl⟩) | (rw [if_neg (by omega), if_neg (by omega)]; exact ⟨rfl, rfl⟩)
set_option maxHeartbeats 4000000 in
set_option maxRecDepth 100000 in
theorem qX11_count {l : Launch} {D : va_G} {cI : ClassId} {ad : Nat → Nat} {O : OT} {adK adV : Nat → Nat} (hO : OG O adK adV) {I : Nat → Int} {A : Nat → Int → Int} {w : Int} (hw : inR w) (h26 : 0 ≤ I 26 ∧ I 26 < 1000000) : MC l D cI ad O yX11_count cX11_count 2 (some .int) 2 [.ref (ad 0), .int (iZ w)] (I, A) (pI fun r u2 => (0 ≤ w ∧ w ≤ 5 → r = (if w = 0 then I 6 else if w = 1 then I 7 else if w = 2 then I 8 else if w = 3 then I 9 else if w = 4 then (if I 26 < 4000 then I 26 else 4000) else I 2) ∧ u2 = (va_up I 0 0, A)) ∧ (¬ (0 ≤ w ∧ w ≤ 5) → u2 = (va_up I 0 1, A))) := by
  refine ct_intro (own := RX11) (by decide) rfl hO.1 (Nat.le_of_ble_eq_true rfl) (by simp [Value.category]) (fun X J hJ => ?_)
  show J 0 [some (.ref (ad 0)), some (.int (iZ w))] [] (I, A)
  refine v_ald0 (pc := 0) hJ dX11_count_0 ?_
  refine v_iconst (pc := 1) hJ dX11_count_1 ?_
  refine mp0 (pc := 2) hJ dX11_count_2 ?_
  refine v_ald0 (pc := 5) hJ dX11_count_5 ?_
  refine v_ild1 (pc := 6) hJ dX11_count_6 ?_
  refine v_if_lt (tgt := 19) (pc := 7) hJ dX11_count_7 (by decide) (by omega) (fun h7 => ?_) (fun h7 => ?_)
  · refine v_iconst (pc := 19) hJ dX11_count_19 ?_
    refine v_iconst (pc := 20) hJ dX11_count_20 ?_
    refine v_cV2i (pc := 21) (q0 := 0) (ci := 8) hJ rfl rfl lkX11_190 (qX11_right0 hO (by first | (simp only [up_s, up_n, up_up, ne_eq, Nat.reduceEqDiff, not_false_eq_true]; done) | assumption | (simp only [up_s, up_n, up_up, ne_eq, Nat.reduceEqDiff, not_false_eq_true]; assumption)) (by decide)) (Nat.le_of_ble_eq_true rfl) (rOk_L (by decide) (by decide)) dX11_count_21 (fun r21 u21 g21 => ?_)
    obtain ⟨rfl, rfl⟩ := g21
    try simp only [up_s, up_n, up_up, ne_eq, Nat.reduceEqDiff, not_false_eq_true]
    refine v_if_ne (tgt := 29) (pc := 24) hJ dX11_count_24 (by decide) (by decide) (fun h => by first | exact absurd h (by decide) | exact absurd (by decide) h) (fun _ => ?_)
    refine v_iconst (pc := 27) hJ dX11_count_27 ?_
    refine v_iret (pc := 28) hJ dX11_count_28 ⟨_, rfl, ?_⟩
    refine ⟨fun q => ?_, fun q => ?_⟩ <;> first | (exfalso; omega) | (refine ⟨?_, rfl⟩; first | rfl | (repeat (rw [if_neg (by omega)])) | (simp only [up_n, ne_eq, Nat.reduceEqDiff, not_false_eq_true]; rfl)) | simp only [up_up]
  · refine v_ild1 (pc := 10) hJ dX11_count_10 ?_
    refine v_iconst (pc := 11) hJ dX11_count_11 ?_
    refine v_icmp_gt (tgt := 19) (pc := 12) hJ dX11_count_12 (by decide) (by omega) (by omega) (fun h12 => ?_) (fun h12 => ?_)
    · refine v_iconst (pc := 19) hJ dX11_count_19 ?_
      refine v_iconst (pc := 20) hJ dX11_count_20 ?_
      refine v_cV2i (pc := 21) (q0 := 0) (ci := 8) hJ rfl rfl lkX11_190 (qX11_right0 hO (by first | (simp only [up_s, up_n, up_up, ne_eq, Nat.reduceEqDiff, not_false_eq_true]; done) | assumption | (simp only [up_s, up_n, up_up, ne_eq, Nat.reduceEqDiff, not_false_eq_true]; assumption)) (by decide)) (Nat.le_of_ble_eq_true rfl) (rOk_L (by decide) (by decide)) dX11_count_21 (fun r21 u21 g21 => ?_)
      obtain ⟨rfl, rfl⟩ := g21
      try simp only [up_s, up_n, up_up, ne_eq, Nat.reduceEqDiff, not_false_eq_true]
      refine v_if_ne (tgt := 29) (pc := 24) hJ dX11_count_24 (by decide) (by decide) (fun h => by first | exact absurd h (by decide) | exact absurd (by decide) h) (fun _ => ?_)
      refine v_iconst (pc := 27) hJ dX11_count_27 ?_
      refine v_iret (pc := 28) hJ dX11_count_28 ⟨_, rfl, ?_⟩
      refine ⟨fun q => ?_, fun q => ?_⟩ <;> first | (exfalso; omega) | (refine ⟨?_, rfl⟩; first | rfl | (repeat (rw [if_neg (by omega)])) | (simp only [up_n, ne_eq, Nat.reduceEqDiff, not_false_eq_true]; rfl)) | simp only [up_up]
    · refine v_iconst (pc := 15) hJ dX11_count_15 ?_
      refine v_goto (tgt := 20) (pc := 16) hJ dX11_count_16 (by decide) ?_
      refine v_iconst (pc := 20) hJ dX11_count_20 ?_
      refine v_cV2i (pc := 21) (q0 := 0) (ci := 8) hJ rfl rfl lkX11_190 (qX11_right1 hO (by first | (simp only [up_s, up_n, up_up, ne_eq, Nat.reduceEqDiff, not_false_eq_true]; done) | assumption | (simp only [up_s, up_n, up_up, ne_eq, Nat.reduceEqDiff, not_false_eq_true]; assumption))) (Nat.le_of_ble_eq_true rfl) (rOk_L (by decide) (by decide)) dX11_count_21 (fun r21 u21 g21 => ?_)
      obtain ⟨rfl, rfl⟩ := g21
      try simp only [up_s, up_n, up_up, ne_eq, Nat.reduceEqDiff, not_false_eq_true]
      refine v_if_ne (tgt := 29) (pc := 24) hJ dX11_count_24 (by decide) (by decide) (fun _ => ?_) (fun h => by first | exact absurd h (by decide) | exact absurd (by decide) h)
      refine v_ild1 (pc := 29) hJ dX11_count_29 ?_
      by_cases hsw30 : w < 0 ∨ 4 < w
      · refine v_tableOut (tgt := 89) (pc := 30) hJ dX11_count_30 (by omega) hsw30 (by decide) ?_
        refine v_ald0 (pc := 89) hJ dX11_count_89 ?_
        refine mg2 (pc := 90) hJ dX11_count_90 ?_
        try simp only [up_s, up_n, up_up, ne_eq, Nat.reduceEqDiff, not_false_eq_true]
        refine v_iret (pc := 93) hJ dX11_count_93 ⟨_, rfl, ?_⟩
        refine ⟨fun q => ?_, fun q => ?_⟩ <;> first | (exfalso; omega) | (refine ⟨?_, rfl⟩; first | rfl | (repeat (rw [if_neg (by omega)])) | (simp only [up_n, ne_eq, Nat.reduceEqDiff, not_false_eq_true]; rfl)) | simp only [up_up]
      · rcases (show w = 0 ∨ w = 1 ∨ w = 2 ∨ w = 3 ∨ w = 4 by omega) with rfl | rfl | rfl | rfl | rfl
        · refine v_tableIn (off := 34) (tgt := 64) (pc := 30) hJ dX11_count_30 (by omega) (by decide) (by decide) rfl (by decide) ?_
          refine v_ald0 (pc := 64) hJ dX11_count_64 ?_
          refine mg6 (pc := 65) hJ dX11_count_65 ?_
          try simp only [up_s, up_n, up_up, ne_eq, Nat.reduceEqDiff, not_false_eq_true]
          refine v_iret (pc := 68) hJ dX11_count_68 ⟨_, rfl, ?_⟩
          refine ⟨fun q => ?_, fun q => ?_⟩ <;> first | (exfalso; omega) | (refine ⟨?_, rfl⟩; first | rfl | (repeat (rw [if_neg (by omega)])) | (simp only [up_n, ne_eq, Nat.reduceEqDiff, not_false_eq_true]; rfl)) | simp only [up_up]
        · refine v_tableIn (off := 39) (tgt := 69) (pc := 30) hJ dX11_count_30 (by omega) (by decide) (by decide) rfl (by decide) ?_
          refine v_ald0 (pc := 69) hJ dX11_count_69 ?_
          refine mg7 (pc := 70) hJ dX11_count_70 ?_
          try simp only [up_s, up_n, up_up, ne_eq, Nat.reduceEqDiff, not_false_eq_true]
          refine v_iret (pc := 73) hJ dX11_count_73 ⟨_, rfl, ?_⟩
          refine ⟨fun q => ?_, fun q => ?_⟩ <;> first | (exfalso; omega) | (refine ⟨?_, rfl⟩; first | rfl | (repeat (rw [if_neg (by omega)])) | (simp only [up_n, ne_eq, Nat.reduceEqDiff, not_false_eq_true]; rfl)) | simp only [up_up]
        · refine v_tableIn (off := 44) (tgt := 74) (pc := 30) hJ dX11_count_30 (by omega) (by decide) (by decide) rfl (by decide) ?_
          refine v_ald0 (pc := 74) hJ dX11_count_74 ?_
          refine mg8 (pc := 75) hJ dX11_count_75 ?_
          try simp only [up_s, up_n, up_up, ne_eq, Nat.reduceEqDiff, not_false_eq_true]
          refine v_iret (pc := 78) hJ dX11_count_78 ⟨_, rfl, ?_⟩
          refine ⟨fun q => ?_, fun q => ?_⟩ <;> first | (exfalso; omega) | (refine ⟨?_, rfl⟩; first | rfl | (repeat (rw [if_neg (by omega)])) | (simp only [up_n, ne_eq, Nat.reduceEqDiff, not_false_eq_true]; rfl)) | simp only [up_up]
        · refine v_tableIn (off := 49) (tgt := 79) (pc := 30) hJ dX11_count_30 (by omega) (by decide) (by decide) rfl (by decide) ?_
          refine v_ald0 (pc := 79) hJ dX11_count_79 ?_
          refine mg9 (pc := 80) hJ dX11_count_80 ?_
          try simp only [up_s, up_n, up_up, ne_eq, Nat.reduceEqDiff, not_false_eq_true]
          refine v_iret (pc := 83) hJ dX11_count_83 ⟨_, rfl, ?_⟩
          refine ⟨fun q => ?_, fun q => ?_⟩ <;> first | (exfalso; omega) | (refine ⟨?_, rfl⟩; first | rfl | (repeat (rw [if_neg (by omega)])) | (simp only [up_n, ne_eq, Nat.reduceEqDiff, not_false_eq_true]; rfl)) | simp only [up_up]
        · refine v_tableIn (off := 54) (tgt := 84) (pc := 30) hJ dX11_count_30 (by omega) (by decide) (by decide) rfl (by decide) ?_
          refine v_ald0 (pc := 84) hJ dX11_count_84 ?_
          refine v_cV0i (pc := 85) (q0 := 0) (ci := 8) hJ rfl rfl lkX11_261 (qX11_kept hO (by simp only [up_s, up_n, up_up, ne_eq, Nat.reduceEqDiff, not_false_eq_true]; omega)) (Nat.le_of_ble_eq_true rfl) (rOk_L (by decide) (by decide)) dX11_count_85 (fun r85 u85 g85 => ?_)
          obtain ⟨rfl, rfl⟩ := g85
          try simp only [up_s, up_n, up_up, ne_eq, Nat.reduceEqDiff, not_false_eq_true]
          refine v_iret (pc := 88) hJ dX11_count_88 ⟨_, rfl, ?_⟩
          refine ⟨fun q => ?_, fun q => ?_⟩ <;> first | (exfalso; omega) | (refine ⟨?_, rfl⟩; first | rfl | (repeat (rw [if_neg (by omega)])) | (simp only [up_n, ne_eq, Nat.reduceEqDiff, not_false_eq_true]; rfl)) | simp only [up_up]
set_option maxHeartbeats 4000000 in
set_option maxRecDepth 100000 in
theorem qX11_changes {l : Launch} {D : va_G} {cI : ClassId} {ad : Nat → Nat} {O : OT} {adK adV : Nat → Nat} (hO : OG O adK adV) {I : Nat → Int} {A : Nat → Int → Int}   : MC l D cI ad O yX11_changes cX11_changes 2 none 1 [.ref (ad 0)] (I, A) (pV fun u2 => ∃ M, (∀ j, 0 ≤ j → j < 480 → M j = -1) ∧ u2 = (va_up I 10 (-1), va_up A 38 M)) := by
  refine ct_intro (own := RX11) (by decide) rfl hO.1 (Nat.le_of_ble_eq_true rfl) (by simp [Value.category]) (fun X J hJ => ?_)
  have lp : ∀ (n : Nat) (k : Nat) (M : Int → Int), (k ≤ 480) → (∀ j : Int, 0 ≤ j → j < k → M j = -1) → (480 - (k : Int)) < (n : Int) → J 2 [some (.ref (ad 0)), some (.int (iZ (k : Int)))] [] (I, va_up A 38 M) := by
    intro n
    induction n with
    | zero => intro k  M hk hM hmu; exfalso; omega
    | succ n ih =>
      intro k  M hk hM hmu
      refine v_ild1 (pc := 2) hJ dX11_changes_2 ?_
      refine v_sipush (pc := 3) hJ dX11_changes_3 (by decide) ?_
      refine v_icmp_ge (tgt := 22) (pc := 6) hJ dX11_changes_6 (by decide) (by omega) (by omega) (fun h6 => ?_) (fun h6 => ?_)
      · refine v_ald0 (pc := 22) hJ dX11_changes_22 ?_
        refine v_iconst (pc := 23) hJ dX11_changes_23 ?_
        refine mp10 (pc := 24) hJ dX11_changes_24 ?_
        refine v_vret (pc := 27) hJ dX11_changes_27 ⟨rfl, ?_⟩
        have e : k = 480 := by omega
        subst e
        exact ⟨M, hM, rfl⟩
      · refine v_ald0 (pc := 9) hJ dX11_changes_9 ?_
        refine mg38 (pc := 10) hJ dX11_changes_10 ?_
        refine v_ild1 (pc := 13) hJ dX11_changes_13 ?_
        refine v_iconst (pc := 14) hJ dX11_changes_14 ?_
        refine ms38 (pc := 15) hJ (by omega) (by omega) dX11_changes_15 ?_
        refine v_inc1 (pc := 16) hJ dX11_changes_16 (by decide) ?_
        refine v_goto (tgt := 2) (pc := 19) hJ dX11_changes_19 (by decide) ?_
        simp only [up_s, up_up]
        exact ih (k + 1) (zu M k (-1)) (by omega) (fun j h1 h2 => by unfold zu; split; rfl; exact hM j h1 (by omega)) (by omega)
  show J 0 [some (.ref (ad 0)), none] [] (I, A)
  refine v_iconst (pc := 0) hJ dX11_changes_0 ?_
  refine v_ist1 (pc := 1) hJ dX11_changes_1 (by decide) ?_
  have e : A = va_up A 38 (A 38) := by funext j; unfold va_up; split <;> simp_all
  rw [e]
  exact lp 481 0 (A 38) (by omega) (fun j h1 h2 => by omega) (by omega)
