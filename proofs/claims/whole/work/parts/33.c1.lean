set_option maxHeartbeats 4000000 in
set_option maxRecDepth 100000 in
theorem qX4_toneOf {l : Launch} {D : va_G} {cI : ClassId} {O : OT} {adK adV : Nat → Nat} {tT : Nat} (hO : OGC O adK adV tT) {ad : Nat → Nat} {I : Nat → Int} {A : Nat → Int → Int} {p : Int} (hp : -1000 ≤ p ∧ p ≤ 1000) : CC l D cI O yX4_toneOf cX4_toneOf 1 (some .int) 2 [.int (iZ p)] (ad, I, A) (pI fun r u2 => r = tn p ∧ u2 = (ad, I, A)) := by
  refine ct_intro (own := RX4) (by decide) rfl hO.1.1 (Nat.le_of_ble_eq_true rfl) (by simp [Value.category]) (fun X J hJ => ?_)
  show J 0 [some (.int (iZ p))] [] (ad, I, A)
  refine v_bipush (pc := 0) hJ dX4_toneOf_0 (by decide) ?_
  refine v_ild0 (pc := 2) hJ dX4_toneOf_2 ?_
  refine v_imul (pc := 3) hJ dX4_toneOf_3 ?_
  refine v_bipush (pc := 4) hJ dX4_toneOf_4 (by decide) ?_
  refine v_cS2i (pc := 6) hJ lkX4_7 (qJ9_floorMod_7cf53 hO.1.1 (by omega) (by omega)) (Nat.le_of_ble_eq_true rfl) (rOk_L (by decide) (by decide)) dX4_toneOf_6 (fun r6 u6 g6 => ?_)
  obtain ⟨rfl, rfl⟩ := g6
  refine v_iret (pc := 9) hJ dX4_toneOf_9 ⟨_, rfl, ?_⟩
  exact ⟨rfl, rfl⟩
theorem zi2c_ok {c : Int} (h : 0 ≤ c ∧ c < 128) : zi2c c = c := by
  have hh : ∀ n : Nat, n < 128 → zi2c (n : Int) = n := by decide +kernel
  obtain ⟨n, rfl⟩ := Int.eq_ofNat_of_zero_le h.1
  exact hh n (by omega)
set_option maxHeartbeats 4000000 in
set_option maxRecDepth 100000 in
theorem qX4_ofLetter {l : Launch} {D : va_G} {cI : ClassId} {O : OT} {adK adV : Nat → Nat} {tT : Nat} (hO : OGC O adK adV tT) {ad : Nat → Nat} {I : Nat → Int} {A : Nat → Int → Int} {c : Int} (hc : inR c) : CC l D cI O yX4_ofLetter cX4_ofLetter 1 (some .int) 5 [.int (iZ c)] (ad, I, A) (pI fun r u2 => r = (if isN c then plc c else -100) ∧ u2 = (ad, I, A)) := by
  refine ct_intro (own := RX4) (by decide) rfl hO.1.1 (Nat.le_of_ble_eq_true rfl) (by simp [Value.category]) (fun X J hJ => ?_)
  show J 0 [some (.int (iZ c))] [] (ad, I, A)
  refine v_ild0 (pc := 0) hJ dX4_ofLetter_0 ?_
  refine v_bipush (pc := 1) hJ dX4_ofLetter_1 (by decide) ?_
  refine v_icmp_lt (tgt := 12) (pc := 3) hJ dX4_ofLetter_3 (by decide) (by omega) (by omega) (fun h3 => ?_) (fun h3 => ?_)
  · refine v_bipush (pc := 12) hJ dX4_ofLetter_12 (by decide) ?_
    refine v_iret (pc := 14) hJ dX4_ofLetter_14 ⟨_, rfl, ?_⟩
    exact ⟨by rw [if_neg (by omega)], rfl⟩
  · refine v_ild0 (pc := 6) hJ dX4_ofLetter_6 ?_
    refine v_bipush (pc := 7) hJ dX4_ofLetter_7 (by decide) ?_
    refine v_icmp_le (tgt := 15) (pc := 9) hJ dX4_ofLetter_9 (by decide) (by omega) (by omega) (fun h9 => ?_) (fun h9 => ?_)
    · refine v_ldcS (pc := 15) (i := 14) (tx := "FCGDAEB") hJ hO.1 (List.mem_of_getElem? (i := 14) rfl) dX4_ofLetter_15 ?_
      refine v_ild0 (pc := 17) hJ dX4_ofLetter_17 ?_
      refine v_i2c (pc := 18) hJ dX4_ofLetter_18 ?_
      rw [zi2c_ok (by omega)]
      refine v_cT1i (pc := 19) hJ hO.1 (by decide) lkX4_17 (qJ0_indexOf_0f7a4 hO.1 (by omega)) (Nat.le_of_ble_eq_true rfl) (rOk_L (by decide) (by decide)) dX4_ofLetter_19 (fun r19 u19 g19 => ?_)
      obtain ⟨rfl, rfl⟩ := g19
      refine v_iconst (pc := 22) hJ dX4_ofLetter_22 ?_
      refine v_isub (pc := 23) hJ dX4_ofLetter_23 ?_
      refine v_iret (pc := 24) hJ dX4_ofLetter_24 ⟨_, rfl, ?_⟩
      exact ⟨by rw [if_pos (by omega)]; omega, rfl⟩
    · refine v_bipush (pc := 12) hJ dX4_ofLetter_12 (by decide) ?_
      refine v_iret (pc := 14) hJ dX4_ofLetter_14 ⟨_, rfl, ?_⟩
      exact ⟨by rw [if_neg (by omega)], rfl⟩
set_option maxHeartbeats 4000000 in
set_option maxRecDepth 100000 in
theorem qX4_letterOf {l : Launch} {D : va_G} {cI : ClassId} {O : OT} {adK adV : Nat → Nat} {tT : Nat} (hO : OGC O adK adV tT) {ad : Nat → Nat} {I : Nat → Int} {A : Nat → Int → Int} {p : Int} (hp : -1000 ≤ p ∧ p ≤ 1000) : CC l D cI O yX4_letterOf cX4_letterOf 1 (some .char) 5 [.int (iZ p)] (ad, I, A) (pI fun r u2 => r = ltr ((p + 1) % 7).toNat ∧ u2 = (ad, I, A)) := by
  refine ct_intro (own := RX4) (by decide) rfl hO.1.1 (Nat.le_of_ble_eq_true rfl) (by simp [Value.category]) (fun X J hJ => ?_)
  show J 0 [some (.int (iZ p))] [] (ad, I, A)
  obtain ⟨d, hd⟩ : ∃ d : Nat, d = ((p + 1) % 7).toNat := ⟨_, rfl⟩
  have hd7 : d < 7 := by omega
  have hl14 : (txS 14).length = 7 := rfl
  have hde : (p + 1) % 7 = (d : Int) := by omega
  refine v_ldcS (pc := 0) (i := 14) (tx := "FCGDAEB") hJ hO.1 (List.mem_of_getElem? (i := 14) rfl) dX4_letterOf_0 ?_
  refine v_ild0 (pc := 2) hJ dX4_letterOf_2 ?_
  refine v_iconst (pc := 3) hJ dX4_letterOf_3 ?_
  refine v_iadd (pc := 4) hJ dX4_letterOf_4 ?_
  refine v_bipush (pc := 5) hJ dX4_letterOf_5 (by decide) ?_
  refine v_cS2i (pc := 7) hJ lkX4_7 (qJ9_floorMod_7cf53 hO.1.1 (by omega) (by omega)) (Nat.le_of_ble_eq_true rfl) (rOk_L (by decide) (by decide)) dX4_letterOf_7 (fun r7 u7 g7 => ?_)
  obtain ⟨rfl, rfl⟩ := g7
  rw [hde]
  refine v_cT1i (pc := 10) hJ hO.1 (by decide) lkX4_23 (qJ0_charAt_5068e hO.1 (by decide) (by rw [hl14]; exact hd7)) (Nat.le_of_ble_eq_true rfl) (rOk_L (by decide) (by decide)) dX4_letterOf_10 (fun r10 u10 g10 => ?_)
  obtain ⟨rfl, rfl⟩ := g10
  try simp only [up_s, up_n, up_up, ne_eq, Nat.reduceEqDiff, not_false_eq_true]
  refine v_zret (pc := 13) hJ (zch (txS_in 14 (by decide) d (by rw [hl14]; exact hd7))).2 dX4_letterOf_13 ⟨_, rfl, ?_⟩
  exact ⟨by rw [← hd]; rfl, rfl⟩
set_option maxHeartbeats 4000000 in
set_option maxRecDepth 100000 in
theorem qX4_sharpsOf {l : Launch} {D : va_G} {cI : ClassId} {O : OT} {adK adV : Nat → Nat} {tT : Nat} (hO : OGC O adK adV tT) {ad : Nat → Nat} {I : Nat → Int} {A : Nat → Int → Int} {p : Int} (hp : -1000 ≤ p ∧ p ≤ 1000) : CC l D cI O yX4_sharpsOf cX4_sharpsOf 1 (some .int) 2 [.int (iZ p)] (ad, I, A) (pI fun r u2 => r = (p + 1) / 7 ∧ u2 = (ad, I, A)) := by
  refine ct_intro (own := RX4) (by decide) rfl hO.1.1 (Nat.le_of_ble_eq_true rfl) (by simp [Value.category]) (fun X J hJ => ?_)
  show J 0 [some (.int (iZ p))] [] (ad, I, A)
  refine v_ild0 (pc := 0) hJ dX4_sharpsOf_0 ?_
  refine v_iconst (pc := 1) hJ dX4_sharpsOf_1 ?_
  refine v_iadd (pc := 2) hJ dX4_sharpsOf_2 ?_
  refine v_bipush (pc := 3) hJ dX4_sharpsOf_3 (by decide) ?_
  refine v_cS2i (pc := 5) hJ lkX4_27 (qJ9_floorDiv_7cf53 hO.1.1 (by omega)) (Nat.le_of_ble_eq_true rfl) (rOk_L (by decide) (by decide)) dX4_sharpsOf_5 (fun r5 u5 g5 => ?_)
  obtain ⟨rfl, rfl⟩ := g5
  refine v_iret (pc := 8) hJ dX4_sharpsOf_8 ⟨_, rfl, ?_⟩
  exact ⟨rfl, rfl⟩
set_option maxHeartbeats 4000000 in
set_option maxRecDepth 100000 in
theorem qX4_folded {l : Launch} {D : va_G} {cI : ClassId} {O : OT} {adK adV : Nat → Nat} {tT : Nat} (hO : OGC O adK adV tT) {ad : Nat → Nat} {I : Nat → Int} {A : Nat → Int → Int} {p : Int} (hp : -900 < p ∧ p < 900) : CC l D cI O yX4_folded cX4_folded 2 (some .int) 1 [.int (iZ p)] (ad, I, A) (pI fun r u2 => r = wi p ∧ u2 = (ad, I, A)) := by
  refine ct_intro (own := RX4) (by decide) rfl hO.1.1 (Nat.le_of_ble_eq_true rfl) (by simp [Value.category]) (fun X J hJ => ?_)
  have up : ∀ (n : Nat) (z : Int), (z < 20) → (-900 < z) → (wi z = wi p) → (-z + 20) < (n : Int) → J 14 [some (.int (iZ p)), some (.int (iZ z))] [] (ad, I, A) := by
    intro n
    induction n with
    | zero => intro z h1 h2 h3 hmu; exfalso; omega
    | succ n ih =>
      intro z h1 h2 h3 hmu
      refine v_ild1 (pc := 14) hJ dX4_folded_14 ?_
      refine v_bipush (pc := 15) hJ dX4_folded_15 (by decide) ?_
      refine v_icmp_ge (tgt := 26) (pc := 17) hJ dX4_folded_17 (by decide) (by omega) (by omega) (fun h17 => ?_) (fun h17 => ?_)
      · refine v_ild1 (pc := 26) hJ dX4_folded_26 ?_
        refine v_iret (pc := 27) hJ dX4_folded_27 ⟨_, rfl, ?_⟩
        exact ⟨by rw [← h3, wi_id (by omega) (by omega)], rfl⟩
      · refine v_inc1 (pc := 20) hJ dX4_folded_20 (by decide) ?_
        refine v_goto (tgt := 14) (pc := 23) hJ dX4_folded_23 (by decide) ?_
        exact ih (z + 12) (by omega) (by omega) (by rw [← h3]; exact wi_up (by omega) (by omega)) (by omega)
  have dn : ∀ (n : Nat) (z : Int), (z < 900) → (-900 < z) → (wi z = wi p) → (z + 1000) < (n : Int) → J 2 [some (.int (iZ p)), some (.int (iZ z))] [] (ad, I, A) := by
    intro n
    induction n with
    | zero => intro z h1 h2 h3 hmu; exfalso; omega
    | succ n ih =>
      intro z h1 h2 h3 hmu
      refine v_ild1 (pc := 2) hJ dX4_folded_2 ?_
      refine v_bipush (pc := 3) hJ dX4_folded_3 (by decide) ?_
      refine v_icmp_le (tgt := 14) (pc := 5) hJ dX4_folded_5 (by decide) (by omega) (by omega) (fun h5 => ?_) (fun h5 => ?_)
      · exact up 1000 z (by omega) h2 h3 (by omega)
      · refine v_inc1 (pc := 8) hJ dX4_folded_8 (by decide) ?_
        refine v_goto (tgt := 2) (pc := 11) hJ dX4_folded_11 (by decide) ?_
        exact ih (z + -12) (by omega) (by omega) (by rw [← h3]; exact wi_dn (by omega) (by omega)) (by omega)
  show J 0 [some (.int (iZ p)), none] [] (ad, I, A)
  refine v_ild0 (pc := 0) hJ dX4_folded_0 ?_
  refine v_ist1 (pc := 1) hJ dX4_folded_1 (by decide) ?_
  exact dn 2000 p hp.2 hp.1 rfl (by omega)
set_option maxHeartbeats 4000000 in
set_option maxRecDepth 100000 in
theorem qX4_scaleOf {l : Launch} {D : va_G} {cI : ClassId} {O : OT} {adK adV : Nat → Nat} {tT : Nat} (hO : OGC O adK adV tT) {ad : Nat → Nat} {I : Nat → Int} {A : Nat → Int → Int} {k : Int} (hk : -7 ≤ k ∧ k ≤ 7) : CC l D cI O yX4_scaleOf cX4_scaleOf 3 (some .int) 3 [.int (iZ k)] (ad, I, A) (pI fun r u2 => r = scN k 7 ∧ u2 = (ad, I, A)) := by
  refine ct_intro (own := RX4) (by decide) rfl hO.1.1 (Nat.le_of_ble_eq_true rfl) (by simp [Value.category]) (fun X J hJ => ?_)
  have lp : ∀ (fu : Nat) (n : Nat), (n ≤ 7) → (8 - (n : Int)) < (fu : Int) → J 6 [some (.int (iZ k)), some (.int (iZ (scN k n))), some (.int (iZ (k - 1 + (n : Int))))] [] (ad, I, A) := by
    intro fu
    induction fu with
    | zero => intro n hn hmu; exfalso; omega
    | succ fu ih =>
      intro n hn hmu
      refine v_ild2 (pc := 6) hJ dX4_scaleOf_6 ?_
      refine v_ild0 (pc := 7) hJ dX4_scaleOf_7 ?_
      refine v_iconst (pc := 8) hJ dX4_scaleOf_8 ?_
      refine v_iadd (pc := 9) hJ dX4_scaleOf_9 ?_
      refine v_icmp_gt (tgt := 28) (pc := 10) hJ dX4_scaleOf_10 (by decide) (by omega) (by omega) (fun h10 => ?_) (fun h10 => ?_)
      · refine v_ild1 (pc := 28) hJ dX4_scaleOf_28 ?_
        refine v_iret (pc := 29) hJ dX4_scaleOf_29 ⟨_, rfl, ?_⟩
        have e : n = 7 := by omega
        subst e
        exact ⟨rfl, rfl⟩
      · refine v_ild1 (pc := 13) hJ dX4_scaleOf_13 ?_
        refine v_iconst (pc := 14) hJ dX4_scaleOf_14 ?_
        refine v_ild2 (pc := 15) hJ dX4_scaleOf_15 ?_
        refine v_cS1i (pc := 16) hJ lkX4_30 (qX4_toneOf hO (by omega)) (Nat.le_of_ble_eq_true rfl) (rOk_L (by decide) (by decide)) dX4_scaleOf_16 (fun r16 u16 g16 => ?_)
        obtain ⟨rfl, rfl⟩ := g16
        refine v_ishl (pc := 19) hJ dX4_scaleOf_19 ?_
        refine v_ior (pc := 20) hJ dX4_scaleOf_20 ?_
        refine v_ist1 (pc := 21) hJ dX4_scaleOf_21 (by decide) ?_
        refine v_inc2 (pc := 22) hJ dX4_scaleOf_22 (by decide) ?_
        refine v_goto (tgt := 6) (pc := 25) hJ dX4_scaleOf_25 (by decide) ?_
        have h := ih (n + 1) (by omega) (by omega)
        rw [show k - 1 + ((n + 1 : Nat) : Int) = k - 1 + (n : Int) + 1 by omega] at h
        exact h
  show J 0 [some (.int (iZ k)), none, none] [] (ad, I, A)
  refine v_iconst (pc := 0) hJ dX4_scaleOf_0 ?_
  refine v_ist1 (pc := 1) hJ dX4_scaleOf_1 (by decide) ?_
  refine v_ild0 (pc := 2) hJ dX4_scaleOf_2 ?_
  refine v_iconst (pc := 3) hJ dX4_scaleOf_3 ?_
  refine v_isub (pc := 4) hJ dX4_scaleOf_4 ?_
  refine v_ist2 (pc := 5) hJ dX4_scaleOf_5 (by decide) ?_
  have h := lp 9 0 (by omega) (by omega)
  rw [show k - 1 + ((0 : Nat) : Int) = k - 1 by omega] at h
  exact h
set_option maxHeartbeats 4000000 in
set_option maxRecDepth 100000 in
theorem qX3_textOf {l : Launch} {D : va_G} {cI : ClassId} {O : OT} {adK adV : Nat → Nat} {tT : Nat} (hO : OGC O adK adV tT) {ad : Nat → Nat} {I : Nat → Int} {A : Nat → Int → Int} {k : Nat} (hk : k ≤ 13) : CC l D cI O yX3_textOf cX3_textOf 1 (some (.object "java/lang/String")) 1 [.int (iZ (k : Int))] (ad, I, A) (pR fun r u2 => r = adK k ∧ u2 = (ad, I, A)) := by
  refine ct_intro (own := RX3) (by decide) rfl hO.1.1 (Nat.le_of_ble_eq_true rfl) (by simp [Value.category]) (fun X J hJ => ?_)
  show J 0 [some (.int (iZ (k : Int)))] [] (ad, I, A)
  refine v_ild0 (pc := 0) hJ dX3_textOf_0 ?_
  by_cases hsw1 : (k : Int) < 1 ∨ 13 < (k : Int)
  · have hk0 : k = 0 := by omega
    subst hk0
    refine v_tableOut (tgt := 107) (pc := 1) hJ dX3_textOf_1 (by omega) hsw1 (by decide) ?_
    refine v_ldcS (pc := 107) (i := 0) (tx := "") hJ hO.1 (List.mem_of_getElem? (i := 13) rfl) dX3_textOf_107 ?_
    refine v_aret (pc := 109) hJ dX3_textOf_109 ⟨_, rfl, ?_⟩
    exact ⟨rfl, rfl⟩
  · rcases (show k = 1 ∨ k = 2 ∨ k = 3 ∨ k = 4 ∨ k = 5 ∨ k = 6 ∨ k = 7 ∨ k = 8 ∨ k = 9 ∨ k = 10 ∨ k = 11 ∨ k = 12 ∨ k = 13 by omega) with rfl | rfl | rfl | rfl | rfl | rfl | rfl | rfl | rfl | rfl | rfl | rfl | rfl
    · refine v_tableIn (off := 67) (tgt := 68) (pc := 1) hJ dX3_textOf_1 (by omega) (by decide) (by decide) rfl (by decide) ?_
      refine v_ldcS (pc := 68) (i := 1) (tx := "m") hJ hO.1 (List.mem_of_getElem? (i := 0) rfl) dX3_textOf_68 ?_
      refine v_aret (pc := 70) hJ dX3_textOf_70 ⟨_, rfl, ?_⟩
      exact ⟨rfl, rfl⟩
    · refine v_tableIn (off := 70) (tgt := 71) (pc := 1) hJ dX3_textOf_1 (by omega) (by decide) (by decide) rfl (by decide) ?_
      refine v_ldcS (pc := 71) (i := 2) (tx := "7") hJ hO.1 (List.mem_of_getElem? (i := 1) rfl) dX3_textOf_71 ?_
      refine v_aret (pc := 73) hJ dX3_textOf_73 ⟨_, rfl, ?_⟩
      exact ⟨rfl, rfl⟩
    · refine v_tableIn (off := 73) (tgt := 74) (pc := 1) hJ dX3_textOf_1 (by omega) (by decide) (by decide) rfl (by decide) ?_
      refine v_ldcS (pc := 74) (i := 3) (tx := "m7") hJ hO.1 (List.mem_of_getElem? (i := 2) rfl) dX3_textOf_74 ?_
      refine v_aret (pc := 76) hJ dX3_textOf_76 ⟨_, rfl, ?_⟩
      exact ⟨rfl, rfl⟩
    · refine v_tableIn (off := 76) (tgt := 77) (pc := 1) hJ dX3_textOf_1 (by omega) (by decide) (by decide) rfl (by decide) ?_
      refine v_ldcS (pc := 77) (i := 4) (tx := "maj7") hJ hO.1 (List.mem_of_getElem? (i := 3) rfl) dX3_textOf_77 ?_
      refine v_aret (pc := 79) hJ dX3_textOf_79 ⟨_, rfl, ?_⟩
      exact ⟨rfl, rfl⟩
    · refine v_tableIn (off := 79) (tgt := 80) (pc := 1) hJ dX3_textOf_1 (by omega) (by decide) (by decide) rfl (by decide) ?_
      refine v_ldcS (pc := 80) (i := 5) (tx := "dim") hJ hO.1 (List.mem_of_getElem? (i := 4) rfl) dX3_textOf_80 ?_
      refine v_aret (pc := 82) hJ dX3_textOf_82 ⟨_, rfl, ?_⟩
      exact ⟨rfl, rfl⟩
    · refine v_tableIn (off := 82) (tgt := 83) (pc := 1) hJ dX3_textOf_1 (by omega) (by decide) (by decide) rfl (by decide) ?_
      refine v_ldcS (pc := 83) (i := 6) (tx := "aug") hJ hO.1 (List.mem_of_getElem? (i := 5) rfl) dX3_textOf_83 ?_
      refine v_aret (pc := 85) hJ dX3_textOf_85 ⟨_, rfl, ?_⟩
      exact ⟨rfl, rfl⟩
    · refine v_tableIn (off := 85) (tgt := 86) (pc := 1) hJ dX3_textOf_1 (by omega) (by decide) (by decide) rfl (by decide) ?_
      refine v_ldcS (pc := 86) (i := 7) (tx := "sus4") hJ hO.1 (List.mem_of_getElem? (i := 6) rfl) dX3_textOf_86 ?_
      refine v_aret (pc := 88) hJ dX3_textOf_88 ⟨_, rfl, ?_⟩
      exact ⟨rfl, rfl⟩
    · refine v_tableIn (off := 88) (tgt := 89) (pc := 1) hJ dX3_textOf_1 (by omega) (by decide) (by decide) rfl (by decide) ?_
      refine v_ldcS (pc := 89) (i := 8) (tx := "sus2") hJ hO.1 (List.mem_of_getElem? (i := 7) rfl) dX3_textOf_89 ?_
      refine v_aret (pc := 91) hJ dX3_textOf_91 ⟨_, rfl, ?_⟩
      exact ⟨rfl, rfl⟩
    · refine v_tableIn (off := 91) (tgt := 92) (pc := 1) hJ dX3_textOf_1 (by omega) (by decide) (by decide) rfl (by decide) ?_
      refine v_ldcS (pc := 92) (i := 9) (tx := "6") hJ hO.1 (List.mem_of_getElem? (i := 8) rfl) dX3_textOf_92 ?_
      refine v_aret (pc := 94) hJ dX3_textOf_94 ⟨_, rfl, ?_⟩
      exact ⟨rfl, rfl⟩
    · refine v_tableIn (off := 94) (tgt := 95) (pc := 1) hJ dX3_textOf_1 (by omega) (by decide) (by decide) rfl (by decide) ?_
      refine v_ldcS (pc := 95) (i := 10) (tx := "m6") hJ hO.1 (List.mem_of_getElem? (i := 9) rfl) dX3_textOf_95 ?_
      refine v_aret (pc := 97) hJ dX3_textOf_97 ⟨_, rfl, ?_⟩
      exact ⟨rfl, rfl⟩
    · refine v_tableIn (off := 97) (tgt := 98) (pc := 1) hJ dX3_textOf_1 (by omega) (by decide) (by decide) rfl (by decide) ?_
      refine v_ldcS (pc := 98) (i := 11) (tx := "dim7") hJ hO.1 (List.mem_of_getElem? (i := 10) rfl) dX3_textOf_98 ?_
      refine v_aret (pc := 100) hJ dX3_textOf_100 ⟨_, rfl, ?_⟩
      exact ⟨rfl, rfl⟩
    · refine v_tableIn (off := 100) (tgt := 101) (pc := 1) hJ dX3_textOf_1 (by omega) (by decide) (by decide) rfl (by decide) ?_
      refine v_ldcS (pc := 101) (i := 12) (tx := "9") hJ hO.1 (List.mem_of_getElem? (i := 11) rfl) dX3_textOf_101 ?_
      refine v_aret (pc := 103) hJ dX3_textOf_103 ⟨_, rfl, ?_⟩
      exact ⟨rfl, rfl⟩
    · refine v_tableIn (off := 103) (tgt := 104) (pc := 1) hJ dX3_textOf_1 (by omega) (by decide) (by decide) rfl (by decide) ?_
      refine v_ldcS (pc := 104) (i := 13) (tx := "add9") hJ hO.1 (List.mem_of_getElem? (i := 12) rfl) dX3_textOf_104 ?_
      refine v_aret (pc := 106) hJ dX3_textOf_106 ⟨_, rfl, ?_⟩
      exact ⟨rfl, rfl⟩
/-- a KIND's tones above a ROOT's -/
def taF (rt k : Int) : Int := zand (zor (zshl (kT k) rt) (zshr (zshl (kT k) rt) 12)) 4095
set_option maxRecDepth 100000 in
theorem taF_ok0 : ∀ r : Nat, r < 12 → ∀ k : Nat, k < 14 → ∀ b : Nat, b < 12 → zor (taF r k) (zshl 1 b) = tsN r k (zshl 1 b) 12 := by decide +kernel
theorem taF_ok {r k b : Int} (hk : 0 ≤ k ∧ k ≤ 13) : zor (taF (tn r) k) (zshl 1 (tn b)) = tsF r k b := by
  have h1 := tn_lt r
  have h2 := tn_lt b
  have h := taF_ok0 (tn r).toNat (by omega) k.toNat (by omega) (tn b).toNat (by omega)
  rw [show (((tn r).toNat : Nat) : Int) = tn r by omega, show ((k.toNat : Nat) : Int) = k by omega, show (((tn b).toNat : Nat) : Int) = tn b by omega] at h
  exact h
set_option maxHeartbeats 4000000 in
set_option maxRecDepth 100000 in
theorem qX3_tonesAbove {l : Launch} {D : va_G} {cI : ClassId} {O : OT} {adK adV : Nat → Nat} {tT : Nat} (hO : OGC O adK adV tT) {ad : Nat → Nat} {I : Nat → Int} {A : Nat → Int → Int} {rt k : Int} (hk : 0 ≤ k ∧ k ≤ 13) : CC l D cI O yX3_tonesAbove cX3_tonesAbove 3 (some .int) 1 [.int (iZ rt), .int (iZ k)] (ad, I, A) (pI fun r u2 => r = taF rt k ∧ u2 = (ad, I, A)) := by
  refine ct_intro (own := RX3) (by decide) rfl hO.1.1 (Nat.le_of_ble_eq_true rfl) (by simp [Value.category]) (fun X J hJ => ?_)
  show J 0 [some (.int (iZ rt)), some (.int (iZ k)), none] [] (ad, I, A)
  refine v_ild1 (pc := 0) hJ dX3_tonesAbove_0 ?_
  refine v_if_lt (tgt := 12) (pc := 1) hJ dX3_tonesAbove_1 (by decide) (by omega) (fun h1 => ?_) (fun h1 => ?_)
  · exfalso; omega
  · refine v_ild1 (pc := 4) hJ dX3_tonesAbove_4 ?_
    refine v_gets (pc := 5) (v := .ref tT) hJ (fun A U H h => (hO.2 A U H h).1) kX3_35 dX3_tonesAbove_5 ?_
    refine v_tonesL (pc := 8) hJ hO dX3_tonesAbove_8 ?_
    refine v_icmp_lt (tgt := 14) (pc := 9) hJ dX3_tonesAbove_9 (by decide) (by omega) (by omega) (fun h9 => ?_) (fun h9 => ?_)
    · refine v_gets (pc := 14) (v := .ref tT) hJ (fun A U H h => (hO.2 A U H h).1) kX3_35 dX3_tonesAbove_14 ?_
      refine v_ild1 (pc := 17) hJ dX3_tonesAbove_17 ?_
      refine v_tonesA (pc := 18) hJ hO (by omega) (by omega) dX3_tonesAbove_18 ?_
      refine v_ild0 (pc := 19) hJ dX3_tonesAbove_19 ?_
      refine v_ishl (pc := 20) hJ dX3_tonesAbove_20 ?_
      refine v_ist2 (pc := 21) hJ dX3_tonesAbove_21 (by decide) ?_
      refine v_ild2 (pc := 22) hJ dX3_tonesAbove_22 ?_
      refine v_ild2 (pc := 23) hJ dX3_tonesAbove_23 ?_
      refine v_bipush (pc := 24) hJ dX3_tonesAbove_24 (by decide) ?_
      refine v_ishr (pc := 26) hJ dX3_tonesAbove_26 ?_
      refine v_ior (pc := 27) hJ dX3_tonesAbove_27 ?_
      refine v_sipush (pc := 28) hJ dX3_tonesAbove_28 (by decide) ?_
      refine v_iand (pc := 31) hJ dX3_tonesAbove_31 ?_
      refine v_iret (pc := 32) hJ dX3_tonesAbove_32 ⟨_, rfl, ?_⟩
      exact ⟨rfl, rfl⟩
    · exfalso; omega
set_option maxHeartbeats 4000000 in
set_option maxRecDepth 100000 in
theorem qX10_isBar {l : Launch} {D : va_G} {cI : ClassId} {O : OT} {adK adV : Nat → Nat} {tT : Nat} (hO : OGC O adK adV tT) {ad : Nat → Nat} {I : Nat → Int} {A : Nat → Int → Int} {b : Int} (hb : inR b) : CC l D cI O yX10_isBar cX10_isBar 1 (some .boolean) 1 [.int (iZ b)] (ad, I, A) (pI fun r u2 => (r = 0 ∨ r = 1) ∧ (r = 1 ↔ 0 ≤ b ∧ b ≤ 7) ∧ u2 = (ad, I, A)) := by
  refine ct_intro (own := RX10) (by decide) rfl hO.1.1 (Nat.le_of_ble_eq_true rfl) (by simp [Value.category]) (fun X J hJ => ?_)
  show J 0 [some (.int (iZ b))] [] (ad, I, A)
  refine v_ild0 (pc := 0) hJ dX10_isBar_0 ?_
  refine v_if_lt (tgt := 14) (pc := 1) hJ dX10_isBar_1 (by decide) (by omega) (fun h1 => ?_) (fun h1 => ?_)
  · refine v_iconst (pc := 14) hJ dX10_isBar_14 ?_
    refine v_zret (pc := 15) hJ rfl dX10_isBar_15 ⟨_, rfl, ?_⟩
    exact ⟨by omega, by omega, rfl⟩
  · refine v_ild0 (pc := 4) hJ dX10_isBar_4 ?_
    refine v_bipush (pc := 5) hJ dX10_isBar_5 (by decide) ?_
    refine v_icmp_ge (tgt := 14) (pc := 7) hJ dX10_isBar_7 (by decide) (by omega) (by omega) (fun h7 => ?_) (fun h7 => ?_)
    · refine v_iconst (pc := 14) hJ dX10_isBar_14 ?_
      refine v_zret (pc := 15) hJ rfl dX10_isBar_15 ⟨_, rfl, ?_⟩
      exact ⟨by omega, by omega, rfl⟩
    · refine v_iconst (pc := 10) hJ dX10_isBar_10 ?_
      refine v_goto (tgt := 15) (pc := 11) hJ dX10_isBar_11 (by decide) ?_
      refine v_zret (pc := 15) hJ rfl dX10_isBar_15 ⟨_, rfl, ?_⟩
      exact ⟨by omega, by omega, rfl⟩
set_option maxHeartbeats 4000000 in
set_option maxRecDepth 100000 in
theorem qX10_takeFour {l : Launch} {D : va_G} {cI : ClassId} {O : OT} {adK adV : Nat → Nat} {tT : Nat} (hO : OGC O adK adV tT) {ad : Nat → Nat} {I : Nat → Int} {A : Nat → Int → Int} {v : Int} (h2 : 0 ≤ I 1 ∧ I 1 + 4 ≤ 1200) : CC l D cI O yX10_takeFour cX10_takeFour 3 none 1 [.ref (ad 19), .int (iZ v)] (ad, I, A) (pV fun u2 => u2 = (ad, va_up I 1 (I 1 + 4), va_up A 0 (lay4 (A 0) (I 1) v))) := by
  refine ct_intro (own := RX10) (by decide) rfl hO.1.1 (Nat.le_of_ble_eq_true rfl) (by simp [Value.category]) (fun X J hJ => ?_)
  have step : ∀ (k : Int) (I1 : Nat → Int) (A1 : Nat → Int → Int), 0 ≤ k → k < 32 → 0 ≤ I1 1 → I1 1 < 1200 → J 3 [some (.ref (ad 19)), some (.int (iZ v)), some (.int (iZ (k + -8)))] [] (ad, va_up I1 1 (I1 1 + 1), va_up A1 0 (zu (A1 0) (I1 1) (bt8 v k))) → J 3 [some (.ref (ad 19)), some (.int (iZ v)), some (.int (iZ k))] [] (ad, I1, A1) := by
    intro k I1 A1 h1 h3 h4 h5 kk
    refine v_ild2 (pc := 3) hJ dX10_takeFour_3 ?_
    refine v_if_lt (tgt := 49) (pc := 4) hJ dX10_takeFour_4 (by decide) (by omega) (fun h4 => ?_) (fun h4 => ?_)
    · omega
    · refine v_ald0 (pc := 7) hJ dX10_takeFour_7 ?_
      refine cgX10_69 (pc := 8) hJ dX10_takeFour_8 ?_
      refine v_sipush (pc := 11) hJ dX10_takeFour_11 (by decide) ?_
      refine v_icmp_ge (tgt := 49) (pc := 14) hJ dX10_takeFour_14 (by decide) (by omega) (by omega) (fun h14 => ?_) (fun h14 => ?_)
      · omega
      · refine v_ald0 (pc := 17) hJ dX10_takeFour_17 ?_
        refine cgX10_9 (pc := 18) hJ dX10_takeFour_18 ?_
        refine v_ald0 (pc := 21) hJ dX10_takeFour_21 ?_
        refine cgX10_69 (pc := 22) hJ dX10_takeFour_22 ?_
        refine v_ild1 (pc := 25) hJ dX10_takeFour_25 ?_
        refine v_ild2 (pc := 26) hJ dX10_takeFour_26 ?_
        refine v_ishr (pc := 27) hJ dX10_takeFour_27 ?_
        refine v_sipush (pc := 28) hJ dX10_takeFour_28 (by decide) ?_
        refine v_iand (pc := 31) hJ dX10_takeFour_31 ?_
        refine cs0 (pc := 32) hJ (by omega) (by omega) dX10_takeFour_32 ?_
        refine v_ald0 (pc := 33) hJ dX10_takeFour_33 ?_
        refine v_dup (pc := 34) hJ dX10_takeFour_34 rfl ?_
        refine cgX10_69 (pc := 35) hJ dX10_takeFour_35 ?_
        try simp only [up_s, up_n, up_up, ne_eq, Nat.reduceEqDiff, not_false_eq_true]
        refine v_iconst (pc := 38) hJ dX10_takeFour_38 ?_
        refine v_iadd (pc := 39) hJ dX10_takeFour_39 ?_
        refine cpX10_69 (pc := 40) hJ dX10_takeFour_40 ?_
        refine v_inc2 (pc := 43) hJ dX10_takeFour_43 (by decide) ?_
        refine v_goto (tgt := 3) (pc := 46) hJ dX10_takeFour_46 (by decide) ?_
        exact kk
  show J 0 [some (.ref (ad 19)), some (.int (iZ v)), none] [] (ad, I, A)
  refine v_bipush (pc := 0) hJ dX10_takeFour_0 (by decide) ?_
  refine v_ist2 (pc := 2) hJ dX10_takeFour_2 (by decide) ?_
  refine step 24 _ _ (by decide) (by decide) (by omega) (by omega) ?_
  refine step 16 _ _ (by decide) (by decide) (by simp only [up_s]; omega) (by simp only [up_s]; omega) ?_
  refine step 8 _ _ (by decide) (by decide) (by simp only [up_s, up_up]; omega) (by simp only [up_s, up_up]; omega) ?_
  refine step 0 _ _ (by decide) (by decide) (by simp only [up_s, up_up]; omega) (by simp only [up_s, up_up]; omega) ?_
  refine v_ild2 (pc := 3) hJ dX10_takeFour_3 ?_
  refine v_if_lt (tgt := 49) (pc := 4) hJ dX10_takeFour_4 (by decide) (by decide) (fun _ => ?_) (fun h => absurd (by decide) h)
  refine v_vret (pc := 49) hJ dX10_takeFour_49 ⟨rfl, ?_⟩
  simp only [up_s, up_up, lay4]
  rw [show I 1 + 1 + 1 + 1 + 1 = I 1 + 4 by omega, show I 1 + 1 + 1 + 1 = I 1 + 3 by omega, show I 1 + 1 + 1 = I 1 + 2 by omega]
set_option maxHeartbeats 4000000 in
set_option maxRecDepth 100000 in
theorem qX10_feed {l : Launch} {D : va_G} {cI : ClassId} {O : OT} {adK adV : Nat → Nat} {tT : Nat} (hO : OGC O adK adV tT) {ad : Nat → Nat} {I : Nat → Int} {A : Nat → Int → Int} {a b c d e : Int} (h2 : 0 ≤ I 1 ∧ I 1 ≤ 1200) : CC l D cI O yX10_feed cX10_feed 6 (some .int) 2 [.ref (ad 19), .int (iZ a), .int (iZ b), .int (iZ c), .int (iZ d), .int (iZ e)] (ad, I, A) (pI fun r u2 => (I 1 + 20 > 1200 → r = -1 ∧ u2 = (ad, I, A)) ∧ (I 1 + 20 ≤ 1200 → r = I 1 + 20 ∧ u2 = (ad, va_up I 1 (I 1 + 20), va_up A 0 (lay4 (lay4 (lay4 (lay4 (lay4 (A 0) (I 1) a) (I 1 + 4) b) (I 1 + 8) c) (I 1 + 12) d) (I 1 + 16) e)))) := by
  refine ct_intro (own := RX10) (by decide) rfl hO.1.1 (Nat.le_of_ble_eq_true rfl) (by simp [Value.category]) (fun X J hJ => ?_)
  show J 0 [some (.ref (ad 19)), some (.int (iZ a)), some (.int (iZ b)), some (.int (iZ c)), some (.int (iZ d)), some (.int (iZ e))] [] (ad, I, A)
  refine v_ald0 (pc := 0) hJ dX10_feed_0 ?_
  refine cgX10_69 (pc := 1) hJ dX10_feed_1 ?_
  refine v_bipush (pc := 4) hJ dX10_feed_4 (by decide) ?_
  refine v_iadd (pc := 6) hJ dX10_feed_6 ?_
  refine v_sipush (pc := 7) hJ dX10_feed_7 (by decide) ?_
  refine v_icmp_le (tgt := 15) (pc := 10) hJ dX10_feed_10 (by decide) (by omega) (by omega) (fun h10 => ?_) (fun h10 => ?_)
  · refine v_ald0 (pc := 15) hJ dX10_feed_15 ?_
    refine v_ild1 (pc := 16) hJ dX10_feed_16 ?_
    refine v_cV1v (pc := 17) (q0 := 0) (ci := 7) hJ rfl rfl lkX10_72 (qX10_takeFour hO (by omega)) (Nat.le_of_ble_eq_true rfl) (rOk_L (by decide) (by decide)) dX10_feed_17 (fun u17 g17 => ?_)
    subst g17
    refine v_ald0 (pc := 20) hJ dX10_feed_20 ?_
    refine v_ild2 (pc := 21) hJ dX10_feed_21 ?_
    refine v_cV1v (pc := 22) (q0 := 0) (ci := 7) hJ rfl rfl lkX10_72 (qX10_takeFour hO (by simp only [up_s, up_n, up_up, ne_eq, Nat.reduceEqDiff, not_false_eq_true]; omega)) (Nat.le_of_ble_eq_true rfl) (rOk_L (by decide) (by decide)) dX10_feed_22 (fun u22 g22 => ?_)
    subst g22
    try simp only [up_s, up_n, up_up, ne_eq, Nat.reduceEqDiff, not_false_eq_true]
    refine v_ald0 (pc := 25) hJ dX10_feed_25 ?_
    refine v_ild3 (pc := 26) hJ dX10_feed_26 ?_
    refine v_cV1v (pc := 27) (q0 := 0) (ci := 7) hJ rfl rfl lkX10_72 (qX10_takeFour hO (by simp only [up_s, up_n, up_up, ne_eq, Nat.reduceEqDiff, not_false_eq_true]; omega)) (Nat.le_of_ble_eq_true rfl) (rOk_L (by decide) (by decide)) dX10_feed_27 (fun u27 g27 => ?_)
    subst g27
    try simp only [up_s, up_n, up_up, ne_eq, Nat.reduceEqDiff, not_false_eq_true]
    refine v_ald0 (pc := 30) hJ dX10_feed_30 ?_
    refine v_ild4 (pc := 31) hJ dX10_feed_31 ?_
    refine v_cV1v (pc := 33) (q0 := 0) (ci := 7) hJ rfl rfl lkX10_72 (qX10_takeFour hO (by simp only [up_s, up_n, up_up, ne_eq, Nat.reduceEqDiff, not_false_eq_true]; omega)) (Nat.le_of_ble_eq_true rfl) (rOk_L (by decide) (by decide)) dX10_feed_33 (fun u33 g33 => ?_)
    subst g33
    try simp only [up_s, up_n, up_up, ne_eq, Nat.reduceEqDiff, not_false_eq_true]
    refine v_ald0 (pc := 36) hJ dX10_feed_36 ?_
    refine v_ild5 (pc := 37) hJ dX10_feed_37 ?_
    refine v_cV1v (pc := 39) (q0 := 0) (ci := 7) hJ rfl rfl lkX10_72 (qX10_takeFour hO (by simp only [up_s, up_n, up_up, ne_eq, Nat.reduceEqDiff, not_false_eq_true]; omega)) (Nat.le_of_ble_eq_true rfl) (rOk_L (by decide) (by decide)) dX10_feed_39 (fun u39 g39 => ?_)
    subst g39
    try simp only [up_s, up_n, up_up, ne_eq, Nat.reduceEqDiff, not_false_eq_true]
    refine v_ald0 (pc := 42) hJ dX10_feed_42 ?_
    refine cgX10_69 (pc := 43) hJ dX10_feed_43 ?_
    try simp only [up_s, up_n, up_up, ne_eq, Nat.reduceEqDiff, not_false_eq_true]
    refine v_iret (pc := 46) hJ dX10_feed_46 ⟨_, rfl, ?_⟩
    first
      | exact ⟨fun _ => ⟨rfl, rfl⟩, fun q => by omega⟩
      | (simp only [up_s, up_up, up_n, ne_eq, Nat.reduceEqDiff, not_false_eq_true]
         refine ⟨fun q => by omega, fun q => ⟨by omega, ?_⟩⟩
         rw [show I 1 + 4 + 4 = I 1 + 8 by omega, show I 1 + 8 + 4 = I 1 + 12 by omega, show I 1 + 12 + 4 = I 1 + 16 by omega, show I 1 + 16 + 4 = I 1 + 20 by omega])
  · refine v_iconst (pc := 13) hJ dX10_feed_13 ?_
    refine v_iret (pc := 14) hJ dX10_feed_14 ⟨_, rfl, ?_⟩
    first
      | exact ⟨fun _ => ⟨rfl, rfl⟩, fun q => by omega⟩
      | (simp only [up_s, up_up, up_n, ne_eq, Nat.reduceEqDiff, not_false_eq_true]
         refine ⟨fun q => by omega, fun q => ⟨by omega, ?_⟩⟩
         rw [show I 1 + 4 + 4 = I 1 + 8 by omega, show I 1 + 8 + 4 = I 1 + 12 by omega, show I 1 + 12 + 4 = I 1 + 16 by omega, show I 1 + 16 + 4 = I 1 + 20 by omega])
set_option maxHeartbeats 4000000 in
set_option maxRecDepth 100000 in
theorem qX2_forget {l : Launch} {D : va_G} {cI : ClassId} {O : OT} {adK adV : Nat → Nat} {tT : Nat} (hO : OGC O adK adV tT) {ad : Nat → Nat} {I : Nat → Int} {A : Nat → Int → Int}   : CC l D cI O yX2_forget cX2_forget 1 none 2 [.ref (ad 159)] (ad, I, A) (pV fun u2 => ∃ F : Int → Int, (∀ j, 0 ≤ j → j < 480 → F j = -1) ∧ u2 = (ad, I, va_up A 141 F)) := by
  refine ct_intro (own := RX2) (by decide) rfl hO.1.1 (Nat.le_of_ble_eq_true rfl) (by simp [Value.category]) (fun X J hJ => ?_)
  show J 0 [some (.ref (ad 159))] [] (ad, I, A)
  refine v_ald0 (pc := 0) hJ dX2_forget_0 ?_
  refine cgX2_15 (pc := 1) hJ dX2_forget_1 ?_
  refine v_iconst (pc := 4) hJ dX2_forget_4 ?_
  refine v_cS2v (pc := 5) hJ lkX2_18 (qJ7_fill_53178 hO) (Nat.le_of_ble_eq_true rfl) (rOk_L (by decide) (by decide)) dX2_forget_5 (fun u5 g5 => ?_)
  obtain ⟨F, hF, rfl⟩ := g5
  refine v_vret (pc := 8) hJ dX2_forget_8 ⟨rfl, ?_⟩
  exact ⟨F, hF, rfl⟩
set_option maxHeartbeats 4000000 in
set_option maxRecDepth 100000 in
theorem qX10_forgetHands {l : Launch} {D : va_G} {cI : ClassId} {O : OT} {adK adV : Nat → Nat} {tT : Nat} (hO : OGC O adK adV tT) {ad : Nat → Nat} {I : Nat → Int} {A : Nat → Int → Int}   : CC l D cI O yX10_forgetHands cX10_forgetHands 1 none 3 [.ref (ad 19)] (ad, I, A) (pV fun u2 => ∃ F : Int → Int, (∀ j, 0 ≤ j → j < 480 → F j = -1) ∧ u2 = (ad, va_up I 164 (-1), va_up A 141 F)) := by
  refine ct_intro (own := RX10) (by decide) rfl hO.1.1 (Nat.le_of_ble_eq_true rfl) (by simp [Value.category]) (fun X J hJ => ?_)
  show J 0 [some (.ref (ad 19))] [] (ad, I, A)
  refine v_ald0 (pc := 0) hJ dX10_forgetHands_0 ?_
  refine cgX10_58 (pc := 1) hJ dX10_forgetHands_1 ?_
  refine v_cV0v (pc := 4) (q0 := 23) (ci := 1) hJ rfl rfl lkX10_230 (qX2_forget hO) (Nat.le_of_ble_eq_true rfl) (rOk_L (by decide) (by decide)) dX10_forgetHands_4 (fun u4 g4 => ?_)
  obtain ⟨F, hF, rfl⟩ := g4
  refine v_ald0 (pc := 7) hJ dX10_forgetHands_7 ?_
  refine cgX10_65 (pc := 8) hJ dX10_forgetHands_8 ?_
  refine v_iconst (pc := 11) hJ dX10_forgetHands_11 ?_
  refine cpX10_213 (pc := 12) hJ dX10_forgetHands_12 ?_
  refine v_vret (pc := 15) hJ dX10_forgetHands_15 ⟨rfl, ?_⟩
  exact ⟨F, hF, rfl⟩
set_option maxHeartbeats 4000000 in
set_option maxRecDepth 100000 in
theorem qX5_keptLength {l : Launch} {D : va_G} {cI : ClassId} {O : OT} {adK adV : Nat → Nat} {tT : Nat} (hO : OGC O adK adV tT) {ad : Nat → Nat} {I : Nat → Int} {A : Nat → Int → Int}  (h81 : inR (I 81)) : CC l D cI O yX5_keptLength cX5_keptLength 1 (some .int) 2 [.ref (ad 99)] (ad, I, A) (pI fun r u2 => r = (if I 81 < 4000 then I 81 else 4000) ∧ u2 = (ad, I, A)) := by
  refine ct_intro (own := RX5) (by decide) rfl hO.1.1 (Nat.le_of_ble_eq_true rfl) (by simp [Value.category]) (fun X J hJ => ?_)
  show J 0 [some (.ref (ad 99))] [] (ad, I, A)
  refine v_ald0 (pc := 0) hJ dX5_keptLength_0 ?_
  refine cgX5_15 (pc := 1) hJ dX5_keptLength_1 ?_
  refine v_sipush (pc := 4) hJ dX5_keptLength_4 (by decide) ?_
  refine v_mmin (pc := 7) hJ lkX5_19 (by omega) (by omega) (Nat.le_of_ble_eq_true rfl) ⟨by decide, by decide⟩ dX5_keptLength_7 ?_
  refine v_iret (pc := 10) hJ dX5_keptLength_10 ⟨_, rfl, ?_⟩
  exact ⟨by split <;> split <;> omega, rfl⟩
set_option maxHeartbeats 4000000 in
set_option maxRecDepth 100000 in
theorem qX5_put {l : Launch} {D : va_G} {cI : ClassId} {O : OT} {adK adV : Nat → Nat} {tT : Nat} (hO : OGC O adK adV tT) {ad : Nat → Nat} {I : Nat → Int} {A : Nat → Int → Int} {c : Int} (h81 : 0 ≤ I 81 ∧ I 81 < 1000000) : CC l D cI O yX5_put cX5_put 2 none 1 [.ref (ad 99), .int (iZ c)] (ad, I, A) (pV fun u2 => u2 = (ad, va_up I 81 (I 81 + 1), va_up A 80 (if I 81 < 4000 then zu (A 80) (I 81) c else A 80))) := by
  refine ct_intro (own := RX5) (by decide) rfl hO.1.1 (Nat.le_of_ble_eq_true rfl) (by simp [Value.category]) (fun X J hJ => ?_)
  show J 0 [some (.ref (ad 99)), some (.int (iZ c))] [] (ad, I, A)
  refine v_ald0 (pc := 0) hJ dX5_put_0 ?_
  refine cgX5_15 (pc := 1) hJ dX5_put_1 ?_
  refine v_if_lt (tgt := 27) (pc := 4) hJ dX5_put_4 (by decide) (by omega) (fun h4 => ?_) (fun h4 => ?_)
  · exfalso; omega
  · refine v_ald0 (pc := 7) hJ dX5_put_7 ?_
    refine cgX5_15 (pc := 8) hJ dX5_put_8 ?_
    refine v_sipush (pc := 11) hJ dX5_put_11 (by decide) ?_
    refine v_icmp_ge (tgt := 27) (pc := 14) hJ dX5_put_14 (by decide) (by omega) (by omega) (fun h14 => ?_) (fun h14 => ?_)
    · refine v_ald0 (pc := 27) hJ dX5_put_27 ?_
      refine v_dup (pc := 28) hJ dX5_put_28 rfl ?_
      refine cgX5_15 (pc := 29) hJ dX5_put_29 ?_
      refine v_iconst (pc := 32) hJ dX5_put_32 ?_
      refine v_iadd (pc := 33) hJ dX5_put_33 ?_
      refine cpX5_15 (pc := 34) hJ dX5_put_34 ?_
      refine v_vret (pc := 37) hJ dX5_put_37 ⟨rfl, ?_⟩
      first | (rw [if_pos (by omega)]) | (rw [if_neg (by omega), up_id])
    · refine v_ald0 (pc := 17) hJ dX5_put_17 ?_
      refine cgX5_9 (pc := 18) hJ dX5_put_18 ?_
      refine v_ald0 (pc := 21) hJ dX5_put_21 ?_
      refine cgX5_15 (pc := 22) hJ dX5_put_22 ?_
      refine v_ild1 (pc := 25) hJ dX5_put_25 ?_
      refine cs80 (pc := 26) hJ (by omega) (by omega) dX5_put_26 ?_
      refine v_ald0 (pc := 27) hJ dX5_put_27 ?_
      refine v_dup (pc := 28) hJ dX5_put_28 rfl ?_
      refine cgX5_15 (pc := 29) hJ dX5_put_29 ?_
      try simp only [up_s, up_n, up_up, ne_eq, Nat.reduceEqDiff, not_false_eq_true]
      refine v_iconst (pc := 32) hJ dX5_put_32 ?_
      refine v_iadd (pc := 33) hJ dX5_put_33 ?_
      refine cpX5_15 (pc := 34) hJ dX5_put_34 ?_
      refine v_vret (pc := 37) hJ dX5_put_37 ⟨rfl, ?_⟩
      first | (rw [if_pos (by omega)]) | (rw [if_neg (by omega), up_id])
/-- what Page's methods give: so much was put behind -/
def outP (ad : Nat → Nat) (I : Nat → Int) (A : Nat → Int → Int) (ys : List Int) (u : sC) : Prop := ∃ n F, hasO F n ys ∧ u = (ad, va_up I 81 n, va_up A 80 F)
set_option maxHeartbeats 4000000 in
set_option maxRecDepth 100000 in
theorem qX5_putMany {l : Launch} {D : va_G} {cI : ClassId} {O : OT} {adK adV : Nat → Nat} {tT : Nat} (hO : OGC O adK adV tT) {ad : Nat → Nat} {I : Nat → Int} {A : Nat → Int → Int} {c k : Int} {xs : List Int} (hk : -20000 ≤ k ∧ k ≤ 20000) (hx : hasO (A 80) (I 81) xs) (hx2 : xs.length ≤ 500000) : CC l D cI O yX5_putMany cX5_putMany 4 none 2 [.ref (ad 99), .int (iZ c), .int (iZ k)] (ad, I, A) (pV fun u2 => outP ad I A (xs ++ List.replicate k.toNat c) u2) := by
  refine ct_intro (own := RX5) (by decide) rfl hO.1.1 (Nat.le_of_ble_eq_true rfl) (by simp [Value.category]) (fun X J hJ => ?_)
  have lp : ∀ (fu : Nat) (j : Nat) (n : Int) (F : Int → Int), ((j : Int) ≤ k ∨ j = 0) → (hasO F n (xs ++ List.replicate j c)) → (20000 - (j : Int)) < (fu : Int) → J 2 [some (.ref (ad 99)), some (.int (iZ c)), some (.int (iZ k)), some (.int (iZ (j : Int)))] [] (ad, va_up I 81 n, va_up A 80 F) := by
    intro fu
    induction fu with
    | zero => intro j  n  F hj hF hmu; exfalso; omega
    | succ fu ih =>
      intro j  n  F hj hF hmu
      refine v_ild3 (pc := 2) hJ dX5_putMany_2 ?_
      refine v_ild2 (pc := 3) hJ dX5_putMany_3 ?_
      refine v_icmp_ge (tgt := 18) (pc := 4) hJ dX5_putMany_4 (by decide) (by omega) (by omega) (fun h4 => ?_) (fun h4 => ?_)
      · refine v_vret (pc := 18) hJ dX5_putMany_18 ⟨rfl, ?_⟩
        exact ⟨n, F, by rw [show k.toNat = j by omega]; exact hF, rfl⟩
      · refine v_ald0 (pc := 7) hJ dX5_putMany_7 ?_
        refine v_ild1 (pc := 8) hJ dX5_putMany_8 ?_
        refine v_cV1v (pc := 9) (q0 := 15) (ci := 2) hJ rfl rfl lkX5_25 (qX5_put hO (by have := hF.1; simp only [List.length_append, List.length_replicate, List.length_cons, List.length_nil, List.length_take] at this; simp only [up_s, up_n, up_up, ne_eq, Nat.reduceEqDiff, not_false_eq_true]; omega)) (Nat.le_of_ble_eq_true rfl) (rOk_L (by decide) (by decide)) dX5_putMany_9 (fun u9 g9 => ?_)
        subst g9
        simp only [up_s, up_n, up_up, ne_eq, Nat.reduceEqDiff, not_false_eq_true]
        try simp only [up_s, up_n, up_up, ne_eq, Nat.reduceEqDiff, not_false_eq_true]
        refine v_inc3 (pc := 12) hJ dX5_putMany_12 (by decide) ?_
        refine v_goto (tgt := 2) (pc := 15) hJ dX5_putMany_15 (by decide) ?_
        exact ih (j + 1) _ _ (by omega) (by rw [List.replicate_succ', ← List.append_assoc]; exact hasO_add hF) (by omega)
  show J 0 [some (.ref (ad 99)), some (.int (iZ c)), some (.int (iZ k)), none] [] (ad, I, A)
  refine v_iconst (pc := 0) hJ dX5_putMany_0 ?_
  refine v_ist3 (pc := 1) hJ dX5_putMany_1 (by decide) ?_
  have h := lp 20001 0 (I 81) (A 80) (Or.inr rfl) (by simpa using hx) (by omega)
  rw [up_id, up_id] at h
  exact h
set_option maxHeartbeats 4000000 in
set_option maxRecDepth 100000 in
theorem qX5_putNote {l : Launch} {D : va_G} {cI : ClassId} {O : OT} {adK adV : Nat → Nat} {tT : Nat} (hO : OGC O adK adV tT) {ad : Nat → Nat} {I : Nat → Int} {A : Nat → Int → Int} {p : Int} {xs : List Int} (hp : -15 ≤ p ∧ p ≤ 19) (hx : hasO (A 80) (I 81) xs) (hx2 : xs.length ≤ 400000) : CC l D cI O yX5_putNote cX5_putNote 3 none 6 [.ref (ad 99), .int (iZ p)] (ad, I, A) (pV fun u2 => outP ad I A (xs ++ noteL p) u2) := by
  refine ct_intro (own := RX5) (by decide) rfl hO.1.1 (Nat.le_of_ble_eq_true rfl) (by simp [Value.category]) (fun X J hJ => ?_)
  show J 0 [some (.ref (ad 99)), some (.int (iZ p)), none] [] (ad, I, A)
  refine v_ild1 (pc := 0) hJ dX5_putNote_0 ?_
  refine v_cS1i (pc := 1) hJ lkX5_58 (qX4_sharpsOf hO (by omega)) (Nat.le_of_ble_eq_true rfl) (rOk_L (by decide) (by decide)) dX5_putNote_1 (fun r1 u1 g1 => ?_)
  obtain ⟨rfl, rfl⟩ := g1
  refine v_ist2 (pc := 4) hJ dX5_putNote_4 (by decide) ?_
  refine v_ald0 (pc := 5) hJ dX5_putNote_5 ?_
  refine v_ild1 (pc := 6) hJ dX5_putNote_6 ?_
  refine v_cS1i (pc := 7) hJ lkX5_64 (qX4_letterOf hO (by omega)) (Nat.le_of_ble_eq_true rfl) (rOk_L (by decide) (by decide)) dX5_putNote_7 (fun r7 u7 g7 => ?_)
  obtain ⟨rfl, rfl⟩ := g7
  refine v_cV1v (pc := 10) (q0 := 15) (ci := 2) hJ rfl rfl lkX5_25 (qX5_put hO (by have := hx.1; omega)) (Nat.le_of_ble_eq_true rfl) (rOk_L (by decide) (by decide)) dX5_putNote_10 (fun u10 g10 => ?_)
  subst g10
  have hF := hasO_add (c := ltr ((p + 1) % 7).toNat) hx
  refine v_ald0 (pc := 13) hJ dX5_putNote_13 ?_
  refine v_bipush (pc := 14) hJ dX5_putNote_14 (by decide) ?_
  refine v_ild2 (pc := 16) hJ dX5_putNote_16 ?_
  refine v_cV2v (pc := 17) (q0 := 15) (ci := 2) hJ rfl rfl lkX5_67 (qX5_putMany hO (xs := xs ++ [ltr ((p + 1) % 7).toNat]) (by omega) (by simp only [up_s, up_n, up_up, ne_eq, Nat.reduceEqDiff, not_false_eq_true]; exact hF) (by simp only [List.length_append, List.length_singleton]; omega)) (Nat.le_of_ble_eq_true rfl) (rOk_L (by decide) (by decide)) dX5_putNote_17 (fun u17 g17 => ?_)
  obtain ⟨n1, F1, hF1, rfl⟩ := g17
  simp only [up_s, up_n, up_up, ne_eq, Nat.reduceEqDiff, not_false_eq_true]
  try simp only [up_s, up_n, up_up, ne_eq, Nat.reduceEqDiff, not_false_eq_true]
  refine v_ald0 (pc := 20) hJ dX5_putNote_20 ?_
  refine v_bipush (pc := 21) hJ dX5_putNote_21 (by decide) ?_
  refine v_ild2 (pc := 23) hJ dX5_putNote_23 ?_
  refine v_ineg (pc := 24) hJ dX5_putNote_24 ?_
  refine v_cV2v (pc := 25) (q0 := 15) (ci := 2) hJ rfl rfl lkX5_67 (qX5_putMany hO (by omega) (by simp only [up_s, up_n, up_up, ne_eq, Nat.reduceEqDiff, not_false_eq_true]; exact hF1) (by simp only [List.length_append, List.length_singleton, List.length_replicate]; omega)) (Nat.le_of_ble_eq_true rfl) (rOk_L (by decide) (by decide)) dX5_putNote_25 (fun u25 g25 => ?_)
  obtain ⟨n2, F2, hF2, rfl⟩ := g25
  simp only [up_s, up_n, up_up, ne_eq, Nat.reduceEqDiff, not_false_eq_true]
  try simp only [up_s, up_n, up_up, ne_eq, Nat.reduceEqDiff, not_false_eq_true]
  refine v_vret (pc := 28) hJ dX5_putNote_28 ⟨rfl, ?_⟩
  refine ⟨n2, F2, ?_, rfl⟩
  unfold noteL
  simpa using hF2
