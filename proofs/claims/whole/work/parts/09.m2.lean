theorem up_up {α : Type} (f : Nat → α) (k : Nat) (v w : α) : va_up (va_up f k v) k w = va_up f k w := by
  funext j
  unfold va_up
  split <;> rfl
theorem inR_zand (a b : Int) : inR (zand a b) := inR_of _
theorem inR_zor (a b : Int) : inR (zor a b) := inR_of _
theorem inR_zshl (a b : Int) : inR (zshl a b) := inR_of _
theorem inR_zshr (a b : Int) : inR (zshr a b) := inR_of _
theorem inR_zxor (a b : Int) : inR (zxor a b) := inR_of _
/-- a byte of a number -/
def bt8 (v s : Int) : Int := zand (zshr v s) 255
/-- four bytes behind a tape -/
def lay4 (T : Int → Int) (n v : Int) : Int → Int := zu (zu (zu (zu T n (bt8 v 24)) (n + 1) (bt8 v 16)) (n + 2) (bt8 v 8)) (n + 3) (bt8 v 0)
/-- the kinds' tones -/
def kT (k : Int) : Int := if k = 0 then 145 else if k = 1 then 137 else if k = 2 then 1169 else if k = 3 then 1161 else if k = 4 then 2193 else if k = 5 then 73 else if k = 6 then 273 else if k = 7 then 161 else if k = 8 then 133 else if k = 9 then 657 else if k = 10 then 649 else if k = 11 then 585 else if k = 12 then 1173 else 149
theorem kT_in (k : Int) : 0 ≤ kT k ∧ kT k < 4096 := by
  unfold kT
  repeat' split
  all_goals omega
/-- how many of the lowest n bits are set -/
def cntN (b : Int) : Nat → Int
  | 0 => 0
  | n + 1 => cntN b n + zand (zshr b n) 1
/-- a chord's tones as bits -/
def tsN (rt kd b0 : Int) : Nat → Int
  | 0 => b0
  | n + 1 => if zand (zshr (kT kd) n) 1 = 1 then zor (tsN rt kd b0 n) (zshl 1 ((rt + n).tmod 12)) else tsN rt kd b0 n
def tsF (r k b : Int) : Int := tsN (tn r) k (zshl 1 (tn b)) 12
/-- a letter's place on the row -/
def plc (c : Int) : Int := if c = 70 then -1 else if c = 67 then 0 else if c = 71 then 1 else if c = 68 then 2 else if c = 65 then 3 else if c = 69 then 4 else 5
/-- a note, as much as it must be 12 less or more -/
def wi (p : Int) : Int := if 19 < p then p - 12 * ((p - 8) / 12) else if p < -15 then p + 12 * ((-p - 4) / 12) else p
theorem wi_in (p : Int) : -15 ≤ wi p ∧ wi p ≤ 19 := by unfold wi; split <;> (try split) <;> omega
theorem wi_dn {p : Int} (h : 19 < p) (h2 : p < 1000) : wi (p - 12) = wi p := by
  unfold wi
  repeat' split
  all_goals omega
theorem wi_up {p : Int} (h : p < -15) (h2 : -1000 < p) : wi (p + 12) = wi p := by
  unfold wi
  repeat' split
  all_goals omega
theorem wi_id {p : Int} (h : ¬ 19 < p) (h2 : ¬ p < -15) : wi p = p := by unfold wi; rw [if_neg h, if_neg h2]
def mv (k n : Int) : Int := (k + 7 * n + 5) % 12 - 5
set_option maxHeartbeats 4000000 in
theorem qX11_lays {l : Launch} {D : va_G} {cI : ClassId} {ad : Nat → Nat} {O : OT} {adK adV : Nat → Nat} (hO : OG O adK adV) {I : Nat → Int} {A : Nat → Int → Int} {v : Int} (h2 : 0 ≤ I 2 ∧ I 2 + 4 ≤ 1200) : MC l D cI ad O yX11_lays cX11_lays 3 none 1 [.ref (ad 0), .int (iZ v)] (I, A) (pV fun u2 => u2 = (va_up I 2 (I 2 + 4), va_up A 1 (lay4 (A 1) (I 2) v))) := by
  refine ct_intro (own := RX11) (by decide) rfl hO.1 (Nat.le_of_ble_eq_true rfl) (by simp [Value.category]) (fun X J hJ => ?_)
  have step : ∀ (k : Int) (I1 : Nat → Int) (A1 : Nat → Int → Int), 0 ≤ k → k < 32 → 0 ≤ I1 2 → I1 2 < 1200 → J 3 [some (.ref (ad 0)), some (.int (iZ v)), some (.int (iZ (k + -8)))] [] (va_up I1 2 (I1 2 + 1), va_up A1 1 (zu (A1 1) (I1 2) (bt8 v k))) → J 3 [some (.ref (ad 0)), some (.int (iZ v)), some (.int (iZ k))] [] (I1, A1) := by
    intro k I1 A1 h1 h3 h4 h5 kk
    refine v_ild2 (pc := 3) hJ dX11_lays_3 ?_
    refine v_if_lt (tgt := 39) (pc := 4) hJ dX11_lays_4 (by decide) (by omega) (fun h4 => ?_) (fun h4 => ?_)
    · omega
    · refine v_ald0 (pc := 7) hJ dX11_lays_7 ?_
      refine mg1 (pc := 8) hJ dX11_lays_8 ?_
      refine v_ald0 (pc := 11) hJ dX11_lays_11 ?_
      refine mg2 (pc := 12) hJ dX11_lays_12 ?_
      refine v_ild1 (pc := 15) hJ dX11_lays_15 ?_
      refine v_ild2 (pc := 16) hJ dX11_lays_16 ?_
      refine v_ishr (pc := 17) hJ dX11_lays_17 ?_
      refine v_sipush (pc := 18) hJ dX11_lays_18 (by decide) ?_
      refine v_iand (pc := 21) hJ dX11_lays_21 ?_
      refine ms1 (pc := 22) hJ (by omega) (by omega) dX11_lays_22 ?_
      refine v_ald0 (pc := 23) hJ dX11_lays_23 ?_
      refine v_dup (pc := 24) hJ dX11_lays_24 rfl ?_
      refine mg2 (pc := 25) hJ dX11_lays_25 ?_
      try simp only [up_s, up_n, up_up, ne_eq, Nat.reduceEqDiff, not_false_eq_true]
      refine v_iconst (pc := 28) hJ dX11_lays_28 ?_
      refine v_iadd (pc := 29) hJ dX11_lays_29 ?_
      refine mp2 (pc := 30) hJ dX11_lays_30 ?_
      refine v_inc2 (pc := 33) hJ dX11_lays_33 (by decide) ?_
      refine v_goto (tgt := 3) (pc := 36) hJ dX11_lays_36 (by decide) ?_
      exact kk
  show J 0 [some (.ref (ad 0)), some (.int (iZ v)), none] [] (I, A)
  refine v_bipush (pc := 0) hJ dX11_lays_0 (by decide) ?_
  refine v_ist2 (pc := 2) hJ dX11_lays_2 (by decide) ?_
  refine step 24 _ _ (by decide) (by decide) (by omega) (by omega) ?_
  refine step 16 _ _ (by decide) (by decide) (by simp only [up_s]; omega) (by simp only [up_s]; omega) ?_
  refine step 8 _ _ (by decide) (by decide) (by simp only [up_s, up_up]; omega) (by simp only [up_s, up_up]; omega) ?_
  refine step 0 _ _ (by decide) (by decide) (by simp only [up_s, up_up]; omega) (by simp only [up_s, up_up]; omega) ?_
  refine v_ild2 (pc := 3) hJ dX11_lays_3 ?_
  refine v_if_lt (tgt := 39) (pc := 4) hJ dX11_lays_4 (by decide) (by decide) (fun _ => ?_) (fun h => absurd (by decide) h)
  refine v_vret (pc := 39) hJ dX11_lays_39 ⟨rfl, ?_⟩
  simp only [up_s, up_up, lay4]
  rw [show I 2 + 1 + 1 + 1 + 1 = I 2 + 4 by omega, show I 2 + 1 + 1 + 1 = I 2 + 3 by omega, show I 2 + 1 + 1 = I 2 + 2 by omega]
set_option maxHeartbeats 4000000 in
theorem qX11_feed {l : Launch} {D : va_G} {cI : ClassId} {ad : Nat → Nat} {O : OT} {adK adV : Nat → Nat} (hO : OG O adK adV) {I : Nat → Int} {A : Nat → Int → Int} {a b c d e : Int} (h2 : 0 ≤ I 2 ∧ I 2 ≤ 1200) : MC l D cI ad O yX11_feed cX11_feed 6 (some .int) 2 [.ref (ad 0), .int (iZ a), .int (iZ b), .int (iZ c), .int (iZ d), .int (iZ e)] (I, A) (pI fun r u2 => (I 2 + 20 > 1200 → r = -1 ∧ u2 = (va_up I 0 0, A)) ∧ (I 2 + 20 ≤ 1200 → r = I 2 + 20 ∧ u2 = (va_up (va_up I 0 0) 2 (I 2 + 20), va_up A 1 (lay4 (lay4 (lay4 (lay4 (lay4 (A 1) (I 2) a) (I 2 + 4) b) (I 2 + 8) c) (I 2 + 12) d) (I 2 + 16) e)))) := by
  refine ct_intro (own := RX11) (by decide) rfl hO.1 (Nat.le_of_ble_eq_true rfl) (by simp [Value.category]) (fun X J hJ => ?_)
  show J 0 [some (.ref (ad 0)), some (.int (iZ a)), some (.int (iZ b)), some (.int (iZ c)), some (.int (iZ d)), some (.int (iZ e))] [] (I, A)
  refine v_ald0 (pc := 0) hJ dX11_feed_0 ?_
  refine v_iconst (pc := 1) hJ dX11_feed_1 ?_
  refine mp0 (pc := 2) hJ dX11_feed_2 ?_
  refine v_ald0 (pc := 5) hJ dX11_feed_5 ?_
  refine mg2 (pc := 6) hJ dX11_feed_6 ?_
  try simp only [up_s, up_n, up_up, ne_eq, Nat.reduceEqDiff, not_false_eq_true]
  refine v_bipush (pc := 9) hJ dX11_feed_9 (by decide) ?_
  refine v_iadd (pc := 11) hJ dX11_feed_11 ?_
  refine v_sipush (pc := 12) hJ dX11_feed_12 (by decide) ?_
  
  refine v_icmp_le (tgt := 20) (pc := 15) hJ dX11_feed_15 (by decide) (by omega) (by omega) (fun h15 => ?_) (fun h15 => ?_)
  · refine v_ald0 (pc := 20) hJ dX11_feed_20 ?_
    refine v_ild1 (pc := 21) hJ dX11_feed_21 ?_
    refine v_cV1v (pc := 22) (q0 := 0) (ci := 8) hJ rfl rfl lkX11_95 (qX11_lays hO (by simp only [up_s, up_n, up_up, ne_eq, Nat.reduceEqDiff, not_false_eq_true]; omega)) (Nat.le_of_ble_eq_true rfl) (rOk_L (by decide) (by decide)) dX11_feed_22 (fun u22 g22 => ?_)
    subst g22
    refine v_ald0 (pc := 25) hJ dX11_feed_25 ?_
    refine v_ild2 (pc := 26) hJ dX11_feed_26 ?_
    refine v_cV1v (pc := 27) (q0 := 0) (ci := 8) hJ rfl rfl lkX11_95 (qX11_lays hO (by simp only [up_s, up_n, up_up, ne_eq, Nat.reduceEqDiff, not_false_eq_true]; omega)) (Nat.le_of_ble_eq_true rfl) (rOk_L (by decide) (by decide)) dX11_feed_27 (fun u27 g27 => ?_)
    subst g27
    refine v_ald0 (pc := 30) hJ dX11_feed_30 ?_
    refine v_ild3 (pc := 31) hJ dX11_feed_31 ?_
    refine v_cV1v (pc := 32) (q0 := 0) (ci := 8) hJ rfl rfl lkX11_95 (qX11_lays hO (by simp only [up_s, up_n, up_up, ne_eq, Nat.reduceEqDiff, not_false_eq_true]; omega)) (Nat.le_of_ble_eq_true rfl) (rOk_L (by decide) (by decide)) dX11_feed_32 (fun u32 g32 => ?_)
    subst g32
    refine v_ald0 (pc := 35) hJ dX11_feed_35 ?_
    refine v_ild4 (pc := 36) hJ dX11_feed_36 ?_
    refine v_cV1v (pc := 38) (q0 := 0) (ci := 8) hJ rfl rfl lkX11_95 (qX11_lays hO (by simp only [up_s, up_n, up_up, ne_eq, Nat.reduceEqDiff, not_false_eq_true]; omega)) (Nat.le_of_ble_eq_true rfl) (rOk_L (by decide) (by decide)) dX11_feed_38 (fun u38 g38 => ?_)
    subst g38
    refine v_ald0 (pc := 41) hJ dX11_feed_41 ?_
    refine v_ild5 (pc := 42) hJ dX11_feed_42 ?_
    refine v_cV1v (pc := 44) (q0 := 0) (ci := 8) hJ rfl rfl lkX11_95 (qX11_lays hO (by simp only [up_s, up_n, up_up, ne_eq, Nat.reduceEqDiff, not_false_eq_true]; omega)) (Nat.le_of_ble_eq_true rfl) (rOk_L (by decide) (by decide)) dX11_feed_44 (fun u44 g44 => ?_)
    subst g44
    refine v_ald0 (pc := 47) hJ dX11_feed_47 ?_
    refine mg2 (pc := 48) hJ dX11_feed_48 ?_
    try simp only [up_s, up_n, up_up, ne_eq, Nat.reduceEqDiff, not_false_eq_true]
    refine v_iret (pc := 51) hJ dX11_feed_51 ⟨_, rfl, ?_⟩
    first
      | exact ⟨fun _ => ⟨rfl, rfl⟩, fun q => by omega⟩
      | (simp only [up_s, up_up, up_n, ne_eq, Nat.reduceEqDiff, not_false_eq_true]
         refine ⟨fun q => by omega, fun q => ⟨by omega, ?_⟩⟩
         rw [show I 2 + 4 + 4 = I 2 + 8 by omega, show I 2 + 8 + 4 = I 2 + 12 by omega, show I 2 + 12 + 4 = I 2 + 16 by omega, show I 2 + 16 + 4 = I 2 + 20 by omega])
  · refine v_iconst (pc := 18) hJ dX11_feed_18 ?_
    refine v_iret (pc := 19) hJ dX11_feed_19 ⟨_, rfl, ?_⟩
    first
      | exact ⟨fun _ => ⟨rfl, rfl⟩, fun q => by omega⟩
      | (simp only [up_s, up_up, up_n, ne_eq, Nat.reduceEqDiff, not_false_eq_true]
         refine ⟨fun q => by omega, fun q => ⟨by omega, ?_⟩⟩
         rw [show I 2 + 4 + 4 = I 2 + 8 by omega, show I 2 + 8 + 4 = I 2 + 12 by omega, show I 2 + 12 + 4 = I 2 + 16 by omega, show I 2 + 16 + 4 = I 2 + 20 by omega])
set_option maxHeartbeats 4000000 in
theorem qX11_tonesOf {l : Launch} {D : va_G} {cI : ClassId} {ad : Nat → Nat} {O : OT} {adK adV : Nat → Nat} (hO : OG O adK adV) {I : Nat → Int} {A : Nat → Int → Int} {k : Int} (hk : inR k) : MC l D cI ad O yX11_tonesOf cX11_tonesOf 1 (some .int) 1 [.int (iZ k)] (I, A) (pI fun r u2 => r = kT k ∧ u2 = (I, A)) := by
  refine ct_intro (own := RX11) (by decide) rfl hO.1 (Nat.le_of_ble_eq_true rfl) (by simp [Value.category]) (fun X J hJ => ?_)
  show J 0 [some (.int (iZ k))] [] (I, A)
  refine v_ild0 (pc := 0) hJ dX11_tonesOf_0 ?_
  by_cases hsw1 : k < 0 ∨ 12 < k
  · refine v_tableOut (tgt := 119) (pc := 1) hJ dX11_tonesOf_1 (by omega) hsw1 (by decide) ?_
    refine v_sipush (pc := 119) hJ dX11_tonesOf_119 (by decide) ?_
    refine v_iret (pc := 122) hJ dX11_tonesOf_122 ⟨_, rfl, ?_⟩
    exact ⟨by first | rfl | (unfold kT; repeat (rw [if_neg (by omega)])), rfl⟩
  · rcases (show k = 0 ∨ k = 1 ∨ k = 2 ∨ k = 3 ∨ k = 4 ∨ k = 5 ∨ k = 6 ∨ k = 7 ∨ k = 8 ∨ k = 9 ∨ k = 10 ∨ k = 11 ∨ k = 12 by omega) with rfl | rfl | rfl | rfl | rfl | rfl | rfl | rfl | rfl | rfl | rfl | rfl | rfl
    · refine v_tableIn (off := 67) (tgt := 68) (pc := 1) hJ dX11_tonesOf_1 (by omega) (by decide) (by decide) rfl (by decide) ?_
      refine v_sipush (pc := 68) hJ dX11_tonesOf_68 (by decide) ?_
      refine v_iret (pc := 71) hJ dX11_tonesOf_71 ⟨_, rfl, ?_⟩
      exact ⟨by first | rfl | (unfold kT; repeat (rw [if_neg (by omega)])), rfl⟩
    · refine v_tableIn (off := 71) (tgt := 72) (pc := 1) hJ dX11_tonesOf_1 (by omega) (by decide) (by decide) rfl (by decide) ?_
      refine v_sipush (pc := 72) hJ dX11_tonesOf_72 (by decide) ?_
      refine v_iret (pc := 75) hJ dX11_tonesOf_75 ⟨_, rfl, ?_⟩
      exact ⟨by first | rfl | (unfold kT; repeat (rw [if_neg (by omega)])), rfl⟩
    · refine v_tableIn (off := 75) (tgt := 76) (pc := 1) hJ dX11_tonesOf_1 (by omega) (by decide) (by decide) rfl (by decide) ?_
      refine v_sipush (pc := 76) hJ dX11_tonesOf_76 (by decide) ?_
      refine v_iret (pc := 79) hJ dX11_tonesOf_79 ⟨_, rfl, ?_⟩
      exact ⟨by first | rfl | (unfold kT; repeat (rw [if_neg (by omega)])), rfl⟩
    · refine v_tableIn (off := 79) (tgt := 80) (pc := 1) hJ dX11_tonesOf_1 (by omega) (by decide) (by decide) rfl (by decide) ?_
      refine v_sipush (pc := 80) hJ dX11_tonesOf_80 (by decide) ?_
      refine v_iret (pc := 83) hJ dX11_tonesOf_83 ⟨_, rfl, ?_⟩
      exact ⟨by first | rfl | (unfold kT; repeat (rw [if_neg (by omega)])), rfl⟩
    · refine v_tableIn (off := 83) (tgt := 84) (pc := 1) hJ dX11_tonesOf_1 (by omega) (by decide) (by decide) rfl (by decide) ?_
      refine v_sipush (pc := 84) hJ dX11_tonesOf_84 (by decide) ?_
      refine v_iret (pc := 87) hJ dX11_tonesOf_87 ⟨_, rfl, ?_⟩
      exact ⟨by first | rfl | (unfold kT; repeat (rw [if_neg (by omega)])), rfl⟩
    · refine v_tableIn (off := 87) (tgt := 88) (pc := 1) hJ dX11_tonesOf_1 (by omega) (by decide) (by decide) rfl (by decide) ?_
      refine v_bipush (pc := 88) hJ dX11_tonesOf_88 (by decide) ?_
      refine v_iret (pc := 90) hJ dX11_tonesOf_90 ⟨_, rfl, ?_⟩
      exact ⟨by first | rfl | (unfold kT; repeat (rw [if_neg (by omega)])), rfl⟩
    · refine v_tableIn (off := 90) (tgt := 91) (pc := 1) hJ dX11_tonesOf_1 (by omega) (by decide) (by decide) rfl (by decide) ?_
      refine v_sipush (pc := 91) hJ dX11_tonesOf_91 (by decide) ?_
      refine v_iret (pc := 94) hJ dX11_tonesOf_94 ⟨_, rfl, ?_⟩
      exact ⟨by first | rfl | (unfold kT; repeat (rw [if_neg (by omega)])), rfl⟩
    · refine v_tableIn (off := 94) (tgt := 95) (pc := 1) hJ dX11_tonesOf_1 (by omega) (by decide) (by decide) rfl (by decide) ?_
      refine v_sipush (pc := 95) hJ dX11_tonesOf_95 (by decide) ?_
      refine v_iret (pc := 98) hJ dX11_tonesOf_98 ⟨_, rfl, ?_⟩
      exact ⟨by first | rfl | (unfold kT; repeat (rw [if_neg (by omega)])), rfl⟩
    · refine v_tableIn (off := 98) (tgt := 99) (pc := 1) hJ dX11_tonesOf_1 (by omega) (by decide) (by decide) rfl (by decide) ?_
      refine v_sipush (pc := 99) hJ dX11_tonesOf_99 (by decide) ?_
      refine v_iret (pc := 102) hJ dX11_tonesOf_102 ⟨_, rfl, ?_⟩
      exact ⟨by first | rfl | (unfold kT; repeat (rw [if_neg (by omega)])), rfl⟩
    · refine v_tableIn (off := 102) (tgt := 103) (pc := 1) hJ dX11_tonesOf_1 (by omega) (by decide) (by decide) rfl (by decide) ?_
      refine v_sipush (pc := 103) hJ dX11_tonesOf_103 (by decide) ?_
      refine v_iret (pc := 106) hJ dX11_tonesOf_106 ⟨_, rfl, ?_⟩
      exact ⟨by first | rfl | (unfold kT; repeat (rw [if_neg (by omega)])), rfl⟩
    · refine v_tableIn (off := 106) (tgt := 107) (pc := 1) hJ dX11_tonesOf_1 (by omega) (by decide) (by decide) rfl (by decide) ?_
      refine v_sipush (pc := 107) hJ dX11_tonesOf_107 (by decide) ?_
      refine v_iret (pc := 110) hJ dX11_tonesOf_110 ⟨_, rfl, ?_⟩
      exact ⟨by first | rfl | (unfold kT; repeat (rw [if_neg (by omega)])), rfl⟩
    · refine v_tableIn (off := 110) (tgt := 111) (pc := 1) hJ dX11_tonesOf_1 (by omega) (by decide) (by decide) rfl (by decide) ?_
      refine v_sipush (pc := 111) hJ dX11_tonesOf_111 (by decide) ?_
      refine v_iret (pc := 114) hJ dX11_tonesOf_114 ⟨_, rfl, ?_⟩
      exact ⟨by first | rfl | (unfold kT; repeat (rw [if_neg (by omega)])), rfl⟩
    · refine v_tableIn (off := 114) (tgt := 115) (pc := 1) hJ dX11_tonesOf_1 (by omega) (by decide) (by decide) rfl (by decide) ?_
      refine v_sipush (pc := 115) hJ dX11_tonesOf_115 (by decide) ?_
      refine v_iret (pc := 118) hJ dX11_tonesOf_118 ⟨_, rfl, ?_⟩
      exact ⟨by first | rfl | (unfold kT; repeat (rw [if_neg (by omega)])), rfl⟩
set_option maxHeartbeats 4000000 in
theorem qX11_placeOf {l : Launch} {D : va_G} {cI : ClassId} {ad : Nat → Nat} {O : OT} {adK adV : Nat → Nat} (hO : OG O adK adV) {I : Nat → Int} {A : Nat → Int → Int} {c : Int} (hc : inR c) : MC l D cI ad O yX11_placeOf cX11_placeOf 1 (some .int) 1 [.int (iZ c)] (I, A) (pI fun r u2 => r = plc c ∧ u2 = (I, A)) := by
  refine ct_intro (own := RX11) (by decide) rfl hO.1 (Nat.le_of_ble_eq_true rfl) (by simp [Value.category]) (fun X J hJ => ?_)
  show J 0 [some (.int (iZ c))] [] (I, A)
  refine v_ild0 (pc := 0) hJ dX11_placeOf_0 ?_
  by_cases hsw1 : c < 65 ∨ 71 < c
  · refine v_tableOut (tgt := 56) (pc := 1) hJ dX11_placeOf_1 (by omega) hsw1 (by decide) ?_
    refine v_iconst (pc := 56) hJ dX11_placeOf_56 ?_
    refine v_iret (pc := 57) hJ dX11_placeOf_57 ⟨_, rfl, ?_⟩
    exact ⟨by first | rfl | (unfold plc; repeat (rw [if_neg (by omega)])), rfl⟩
  · rcases (show c = 65 ∨ c = 66 ∨ c = 67 ∨ c = 68 ∨ c = 69 ∨ c = 70 ∨ c = 71 by omega) with rfl | rfl | rfl | rfl | rfl | rfl | rfl
    · refine v_tableIn (off := 51) (tgt := 52) (pc := 1) hJ dX11_placeOf_1 (by omega) (by decide) (by decide) rfl (by decide) ?_
      refine v_iconst (pc := 52) hJ dX11_placeOf_52 ?_
      refine v_iret (pc := 53) hJ dX11_placeOf_53 ⟨_, rfl, ?_⟩
      exact ⟨by first | rfl | (unfold plc; repeat (rw [if_neg (by omega)])), rfl⟩
    · refine v_tableIn (off := 55) (tgt := 56) (pc := 1) hJ dX11_placeOf_1 (by omega) (by decide) (by decide) rfl (by decide) ?_
      refine v_iconst (pc := 56) hJ dX11_placeOf_56 ?_
      refine v_iret (pc := 57) hJ dX11_placeOf_57 ⟨_, rfl, ?_⟩
      exact ⟨by first | rfl | (unfold plc; repeat (rw [if_neg (by omega)])), rfl⟩
    · refine v_tableIn (off := 45) (tgt := 46) (pc := 1) hJ dX11_placeOf_1 (by omega) (by decide) (by decide) rfl (by decide) ?_
      refine v_iconst (pc := 46) hJ dX11_placeOf_46 ?_
      refine v_iret (pc := 47) hJ dX11_placeOf_47 ⟨_, rfl, ?_⟩
      exact ⟨by first | rfl | (unfold plc; repeat (rw [if_neg (by omega)])), rfl⟩
    · refine v_tableIn (off := 49) (tgt := 50) (pc := 1) hJ dX11_placeOf_1 (by omega) (by decide) (by decide) rfl (by decide) ?_
      refine v_iconst (pc := 50) hJ dX11_placeOf_50 ?_
      refine v_iret (pc := 51) hJ dX11_placeOf_51 ⟨_, rfl, ?_⟩
      exact ⟨by first | rfl | (unfold plc; repeat (rw [if_neg (by omega)])), rfl⟩
    · refine v_tableIn (off := 53) (tgt := 54) (pc := 1) hJ dX11_placeOf_1 (by omega) (by decide) (by decide) rfl (by decide) ?_
      refine v_iconst (pc := 54) hJ dX11_placeOf_54 ?_
      refine v_iret (pc := 55) hJ dX11_placeOf_55 ⟨_, rfl, ?_⟩
      exact ⟨by first | rfl | (unfold plc; repeat (rw [if_neg (by omega)])), rfl⟩
    · refine v_tableIn (off := 43) (tgt := 44) (pc := 1) hJ dX11_placeOf_1 (by omega) (by decide) (by decide) rfl (by decide) ?_
      refine v_iconst (pc := 44) hJ dX11_placeOf_44 ?_
      refine v_iret (pc := 45) hJ dX11_placeOf_45 ⟨_, rfl, ?_⟩
      exact ⟨by first | rfl | (unfold plc; repeat (rw [if_neg (by omega)])), rfl⟩
    · refine v_tableIn (off := 47) (tgt := 48) (pc := 1) hJ dX11_placeOf_1 (by omega) (by decide) (by decide) rfl (by decide) ?_
      refine v_iconst (pc := 48) hJ dX11_placeOf_48 ?_
      refine v_iret (pc := 49) hJ dX11_placeOf_49 ⟨_, rfl, ?_⟩
      exact ⟨by first | rfl | (unfold plc; repeat (rw [if_neg (by omega)])), rfl⟩
set_option maxHeartbeats 4000000 in
theorem qX11_many {l : Launch} {D : va_G} {cI : ClassId} {ad : Nat → Nat} {O : OT} {adK adV : Nat → Nat} (hO : OG O adK adV) {I : Nat → Int} {A : Nat → Int → Int} {b : Int}  : MC l D cI ad O yX11_many cX11_many 3 (some .int) 1 [.int (iZ b)] (I, A) (pI fun r u2 => r = cntN b 12 ∧ u2 = (I, A)) := by
  refine ct_intro (own := RX11) (by decide) rfl hO.1 (Nat.le_of_ble_eq_true rfl) (by simp [Value.category]) (fun X J hJ => ?_)
  have lp : ∀ (n : Nat) (k : Nat), (k ≤ 12) → (12 - (k : Int)) < (n : Int) → J 4 [some (.int (iZ b)), some (.int (iZ (cntN b k))), some (.int (iZ (k : Int)))] [] (I, A) := by
    intro n
    induction n with
    | zero => intro k hk hmu; exfalso; omega
    | succ n ih =>
      intro k hk hmu
      refine v_ild2 (pc := 4) hJ dX11_many_4 ?_
      refine v_bipush (pc := 5) hJ dX11_many_5 (by decide) ?_
      refine v_icmp_ge (tgt := 24) (pc := 7) hJ dX11_many_7 (by decide) (by omega) (by omega) (fun h7 => ?_) (fun h7 => ?_)
      · refine v_ild1 (pc := 24) hJ dX11_many_24 ?_
        refine v_iret (pc := 25) hJ dX11_many_25 ⟨_, rfl, ?_⟩
        have e : k = 12 := by omega
        subst e
        exact ⟨rfl, rfl⟩
      · refine v_ild1 (pc := 10) hJ dX11_many_10 ?_
        refine v_ild0 (pc := 11) hJ dX11_many_11 ?_
        refine v_ild2 (pc := 12) hJ dX11_many_12 ?_
        refine v_ishr (pc := 13) hJ dX11_many_13 ?_
        refine v_iconst (pc := 14) hJ dX11_many_14 ?_
        refine v_iand (pc := 15) hJ dX11_many_15 ?_
        refine v_iadd (pc := 16) hJ dX11_many_16 ?_
        refine v_ist1 (pc := 17) hJ dX11_many_17 (by decide) ?_
        refine v_inc2 (pc := 18) hJ dX11_many_18 (by decide) ?_
        refine v_goto (tgt := 4) (pc := 21) hJ dX11_many_21 (by decide) ?_
        exact ih (k + 1) (by omega) (by omega)
  show J 0 [some (.int (iZ b)), none, none] [] (I, A)
  refine v_iconst (pc := 0) hJ dX11_many_0 ?_
  refine v_ist1 (pc := 1) hJ dX11_many_1 (by decide) ?_
  refine v_iconst (pc := 2) hJ dX11_many_2 ?_
  refine v_ist2 (pc := 3) hJ dX11_many_3 (by decide) ?_
  exact lp 13 0 (by omega) (by omega)
set_option maxHeartbeats 4000000 in
theorem qX11_within {l : Launch} {D : va_G} {cI : ClassId} {ad : Nat → Nat} {O : OT} {adK adV : Nat → Nat} (hO : OG O adK adV) {I : Nat → Int} {A : Nat → Int → Int} {p : Int} (hp : -900 < p ∧ p < 900) : MC l D cI ad O yX11_within cX11_within 2 (some .int) 1 [.int (iZ p)] (I, A) (pI fun r u2 => r = wi p ∧ u2 = (I, A)) := by
  refine ct_intro (own := RX11) (by decide) rfl hO.1 (Nat.le_of_ble_eq_true rfl) (by simp [Value.category]) (fun X J hJ => ?_)
  have up : ∀ (n : Nat) (z : Int), (z < 20) → (-900 < z) → (wi z = wi p) → (-z + 20) < (n : Int) → J 14 [some (.int (iZ p)), some (.int (iZ z))] [] (I, A) := by
    intro n
    induction n with
    | zero => intro z h1 h2 h3 hmu; exfalso; omega
    | succ n ih =>
      intro z h1 h2 h3 hmu
      refine v_ild1 (pc := 14) hJ dX11_within_14 ?_
      refine v_bipush (pc := 15) hJ dX11_within_15 (by decide) ?_
      refine v_icmp_ge (tgt := 26) (pc := 17) hJ dX11_within_17 (by decide) (by omega) (by omega) (fun h17 => ?_) (fun h17 => ?_)
      · refine v_ild1 (pc := 26) hJ dX11_within_26 ?_
        refine v_iret (pc := 27) hJ dX11_within_27 ⟨_, rfl, ?_⟩
        exact ⟨by rw [← h3, wi_id (by omega) (by omega)], rfl⟩
      · refine v_inc1 (pc := 20) hJ dX11_within_20 (by decide) ?_
        refine v_goto (tgt := 14) (pc := 23) hJ dX11_within_23 (by decide) ?_
        exact ih (z + 12) (by omega) (by omega) (by rw [← h3]; exact wi_up (by omega) (by omega)) (by omega)
  have dn : ∀ (n : Nat) (z : Int), (z < 900) → (-900 < z) → (wi z = wi p) → (z + 1000) < (n : Int) → J 2 [some (.int (iZ p)), some (.int (iZ z))] [] (I, A) := by
    intro n
    induction n with
    | zero => intro z h1 h2 h3 hmu; exfalso; omega
    | succ n ih =>
      intro z h1 h2 h3 hmu
      refine v_ild1 (pc := 2) hJ dX11_within_2 ?_
      refine v_bipush (pc := 3) hJ dX11_within_3 (by decide) ?_
      refine v_icmp_le (tgt := 14) (pc := 5) hJ dX11_within_5 (by decide) (by omega) (by omega) (fun h5 => ?_) (fun h5 => ?_)
      · exact up 1000 z (by omega) h2 h3 (by omega)
      · refine v_inc1 (pc := 8) hJ dX11_within_8 (by decide) ?_
        refine v_goto (tgt := 2) (pc := 11) hJ dX11_within_11 (by decide) ?_
        exact ih (z + -12) (by omega) (by omega) (by rw [← h3]; exact wi_dn (by omega) (by omega)) (by omega)
  show J 0 [some (.int (iZ p)), none] [] (I, A)
  refine v_ild0 (pc := 0) hJ dX11_within_0 ?_
  refine v_ist1 (pc := 1) hJ dX11_within_1 (by decide) ?_
  exact dn 2000 p hp.2 hp.1 rfl (by omega)
