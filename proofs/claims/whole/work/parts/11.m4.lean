/-- what holds of a song's chords in the reference -/
abbrev okC (I : Nat → Int) (A : Nat → Int → Int) : Prop := (0 ≤ I 6 ∧ I 6 ≤ 60) ∧ ∀ j : Int, 0 ≤ j → j < I 6 → (-15 ≤ A 11 j ∧ A 11 j ≤ 19) ∧ (0 ≤ A 12 j ∧ A 12 j ≤ 13) ∧ (-15 ≤ A 13 j ∧ A 13 j ≤ 19)
theorem up_id {α : Type} (f : Nat → α) (k : Nat) : va_up f k (f k) = f := by
  funext j
  unfold va_up
  split <;> simp_all
theorem kT_r (k : Int) : inR (kT k) := by have := kT_in k; omega
theorem tm12 {x : Int} (h : 0 ≤ x) : x.tmod 12 = x % 12 := Int.tmod_eq_emod_of_nonneg h
/-- the seven tones of a key, as bits -/
def scN (k : Int) : Nat → Int
  | 0 => 0
  | n + 1 => zor (scN k n) (zshl 1 (tn (k - 1 + n)))
/-- how many of the first n chords have their tones among these -/
def fitN (f : Int → Int) (b : Int) : Nat → Int
  | 0 => 0
  | n + 1 => if zand (f n) (zxor b (-1)) = 0 then fitN f b n + 1 else fitN f b n
theorem fitN_in (f : Int → Int) (b : Int) : ∀ n : Nat, 0 ≤ fitN f b n ∧ fitN f b n ≤ n
  | 0 => by simp [fitN]
  | n + 1 => by
    have := fitN_in f b n
    unfold fitN
    split <;> omega
/-- the guess: of the keys from -6 on, the first n: the best one, and how many fit -/
def gsN (cnt : Int → Int) : Nat → Int × Int
  | 0 => (-100, -1)
  | n + 1 => if (gsN cnt n).2 < cnt ((n : Int) - 6) then ((n : Int) - 6, cnt ((n : Int) - 6)) else if cnt ((n : Int) - 6) = (gsN cnt n).2 then (-100, (gsN cnt n).2) else gsN cnt n
theorem gsN_in {cnt : Int → Int} (h : ∀ k, 0 ≤ cnt k ∧ cnt k ≤ 60) : ∀ n : Nat, -1 ≤ (gsN cnt n).2 ∧ (gsN cnt n).2 ≤ 60
  | 0 => by simp [gsN]
  | n + 1 => by
    have h1 := gsN_in h n
    have h2 := h ((n : Int) - 6)
    unfold gsN
    split
    · exact ⟨by show -1 ≤ cnt _; omega, by show cnt _ ≤ 60; omega⟩
    · split
      · exact h1
      · exact h1
theorem fitN_pos {f : Int → Int} {b : Int} {n : Nat} (h : zand (f n) (zxor b (-1)) = 0) : fitN f b n + 1 = fitN f b (n + 1) := by rw [fitN, if_pos h]
theorem fitN_neg {f : Int → Int} {b : Int} {n : Nat} (h : zand (f n) (zxor b (-1)) ≠ 0) : fitN f b n = fitN f b (n + 1) := by rw [fitN, if_neg h]
theorem gsN_1 {cnt : Int → Int} {n : Nat} (h : (gsN cnt n).2 < cnt ((n : Int) - 6)) : gsN cnt (n + 1) = ((n : Int) - 6, cnt ((n : Int) - 6)) := by rw [gsN, if_pos h]
theorem gsN_2 {cnt : Int → Int} {n : Nat} (h : ¬ (gsN cnt n).2 < cnt ((n : Int) - 6)) (h2 : cnt ((n : Int) - 6) = (gsN cnt n).2) : gsN cnt (n + 1) = (-100, (gsN cnt n).2) := by rw [gsN, if_neg h, if_pos h2]
theorem gsN_3 {cnt : Int → Int} {n : Nat} (h : ¬ (gsN cnt n).2 < cnt ((n : Int) - 6)) (h2 : ¬ cnt ((n : Int) - 6) = (gsN cnt n).2) : gsN cnt (n + 1) = gsN cnt n := by rw [gsN, if_neg h, if_neg h2]
theorem tsN_pos {rt kd b0 : Int} {n : Nat} (h : zand (zshr (kT kd) n) 1 = 1) : zor (tsN rt kd b0 n) (zshl 1 ((rt + n).tmod 12)) = tsN rt kd b0 (n + 1) := by rw [tsN, if_pos h]
theorem tsN_neg {rt kd b0 : Int} {n : Nat} (h : zand (zshr (kT kd) n) 1 ≠ 1) : tsN rt kd b0 n = tsN rt kd b0 (n + 1) := by rw [tsN, if_neg h]
def tsA (A : Nat → Int → Int) (i : Int) : Int := tsF (A 11 i) (A 12 i) (A 13 i)
set_option maxHeartbeats 4000000 in
set_option maxRecDepth 100000 in
theorem qX11_tones {l : Launch} {D : va_G} {cI : ClassId} {ad : Nat → Nat} {O : OT} {adK adV : Nat → Nat} (hO : OG O adK adV) {I : Nat → Int} {A : Nat → Int → Int} {i : Int} (hC : okC I A) (hi : 0 ≤ i ∧ i < I 6) : MC l D cI ad O yX11_tones cX11_tones 4 (some .int) 2 [.ref (ad 0), .int (iZ i)] (I, A) (pI fun r u2 => r = tsA A i ∧ u2 = (I, A)) := by
  refine ct_intro (own := RX11) (by decide) rfl hO.1 (Nat.le_of_ble_eq_true rfl) (by simp [Value.category]) (fun X J hJ => ?_)
  obtain ⟨⟨c1, c2⟩, c3⟩ := hC
  obtain ⟨k1, k2, k3⟩ := c3 i hi.1 hi.2
  have lp : ∀ (n : Nat) (k : Nat), (k ≤ 12) → (12 - (k : Int)) < (n : Int) → J 14 [some (.ref (ad 0)), some (.int (iZ i)), some (.int (iZ (tsN (tn (A 11 i)) (A 12 i) (zshl 1 (tn (A 13 i))) k))), some (.int (iZ (k : Int)))] [] (I, A) := by
    intro n
    induction n with
    | zero => intro k hk hmu; exfalso; omega
    | succ n ih =>
      intro k hk hmu
      refine v_ild3 (pc := 14) hJ dX11_tones_14 ?_
      refine v_bipush (pc := 15) hJ dX11_tones_15 (by decide) ?_
      refine v_icmp_ge (tgt := 62) (pc := 17) hJ dX11_tones_17 (by decide) (by omega) (by omega) (fun h17 => ?_) (fun h17 => ?_)
      · refine v_ild2 (pc := 62) hJ dX11_tones_62 ?_
        refine v_iret (pc := 63) hJ dX11_tones_63 ⟨_, rfl, ?_⟩
        have e : k = 12 := by omega
        subst e
        exact ⟨rfl, rfl⟩
      · refine v_ald0 (pc := 20) hJ dX11_tones_20 ?_
        refine mg12 (pc := 21) hJ dX11_tones_21 ?_
        refine v_ild1 (pc := 24) hJ dX11_tones_24 ?_
        refine ma12 (pc := 25) hJ (by omega) (by omega) dX11_tones_25 ?_
        refine v_cS1i (pc := 26) hJ lkX11_131 (qX11_tonesOf hO (by omega)) (Nat.le_of_ble_eq_true rfl) (rOk_L (by decide) (by decide)) dX11_tones_26 (fun r26 u26 g26 => ?_)
        obtain ⟨rfl, rfl⟩ := g26
        refine v_ild3 (pc := 29) hJ dX11_tones_29 ?_
        refine v_ishr (pc := 30) hJ dX11_tones_30 ?_
        refine v_iconst (pc := 31) hJ dX11_tones_31 ?_
        refine v_iand (pc := 32) hJ dX11_tones_32 ?_
        refine v_iconst (pc := 33) hJ dX11_tones_33 ?_
        refine v_icmp_ne (tgt := 56) (pc := 34) hJ dX11_tones_34 (by decide) (inR_zand _ _) (by decide) (fun h34 => ?_) (fun h34 => ?_)
        · refine v_inc3 (pc := 56) hJ dX11_tones_56 (by decide) ?_
          refine v_goto (tgt := 14) (pc := 59) hJ dX11_tones_59 (by decide) ?_
          first | rw [tsN_neg h34] | rw [tsN_pos (Classical.not_not.mp (fun q => q h34))] | rw [tsN_pos h34]
          exact ih (k + 1) (by omega) (by omega)
        · refine v_ild2 (pc := 37) hJ dX11_tones_37 ?_
          refine v_iconst (pc := 38) hJ dX11_tones_38 ?_
          refine v_ald0 (pc := 39) hJ dX11_tones_39 ?_
          refine mg11 (pc := 40) hJ dX11_tones_40 ?_
          refine v_ild1 (pc := 43) hJ dX11_tones_43 ?_
          refine ma11 (pc := 44) hJ (by omega) (by omega) dX11_tones_44 ?_
          try simp only [up_s, up_n, up_up, ne_eq, Nat.reduceEqDiff, not_false_eq_true]
          refine v_cS1i (pc := 45) hJ lkX11_127 (qX11_tone hO (by omega)) (Nat.le_of_ble_eq_true rfl) (rOk_L (by decide) (by decide)) dX11_tones_45 (fun r45 u45 g45 => ?_)
          obtain ⟨rfl, rfl⟩ := g45
          try simp only [up_s, up_n, up_up, ne_eq, Nat.reduceEqDiff, not_false_eq_true]
          refine v_ild3 (pc := 48) hJ dX11_tones_48 ?_
          refine v_iadd (pc := 49) hJ dX11_tones_49 ?_
          refine v_bipush (pc := 50) hJ dX11_tones_50 (by decide) ?_
          have ht := tn_lt (A 11 i)
          refine v_irem (pc := 52) hJ dX11_tones_52 (by omega) (by omega) (by omega) ?_
          refine v_ishl (pc := 53) hJ dX11_tones_53 ?_
          refine v_ior (pc := 54) hJ dX11_tones_54 ?_
          refine v_ist2 (pc := 55) hJ dX11_tones_55 (by decide) ?_
          refine v_inc3 (pc := 56) hJ dX11_tones_56 (by decide) ?_
          refine v_goto (tgt := 14) (pc := 59) hJ dX11_tones_59 (by decide) ?_
          first | rw [tsN_neg h34] | rw [tsN_pos (Classical.not_not.mp (fun q => q h34))] | rw [tsN_pos h34]
          exact ih (k + 1) (by omega) (by omega)
  show J 0 [some (.ref (ad 0)), some (.int (iZ i)), none, none] [] (I, A)
  refine v_iconst (pc := 0) hJ dX11_tones_0 ?_
  refine v_ald0 (pc := 1) hJ dX11_tones_1 ?_
  refine mg13 (pc := 2) hJ dX11_tones_2 ?_
  refine v_ild1 (pc := 5) hJ dX11_tones_5 ?_
  refine ma13 (pc := 6) hJ (by omega) (by omega) dX11_tones_6 ?_
  refine v_cS1i (pc := 7) hJ lkX11_127 (qX11_tone hO (by omega)) (Nat.le_of_ble_eq_true rfl) (rOk_L (by decide) (by decide)) dX11_tones_7 (fun r7 u7 g7 => ?_)
  obtain ⟨rfl, rfl⟩ := g7
  refine v_ishl (pc := 10) hJ dX11_tones_10 ?_
  refine v_ist2 (pc := 11) hJ dX11_tones_11 (by decide) ?_
  refine v_iconst (pc := 12) hJ dX11_tones_12 ?_
  refine v_ist3 (pc := 13) hJ dX11_tones_13 (by decide) ?_
  exact lp 13 0 (by omega) (by omega)
set_option maxHeartbeats 4000000 in
set_option maxRecDepth 100000 in
theorem qX11_chord {l : Launch} {D : va_G} {cI : ClassId} {ad : Nat → Nat} {O : OT} {adK adV : Nat → Nat} (hO : OG O adK adV) {I : Nat → Int} {A : Nat → Int → Int} {i w : Int} (hC : okC I A) (hi : inR i) (hw : inR w) : MC l D cI ad O yX11_chord cX11_chord 3 (some .int) 3 [.ref (ad 0), .int (iZ i), .int (iZ w)] (I, A) (pI fun r u2 => ((0 ≤ i ∧ i < I 6) ∧ 0 ≤ w ∧ w ≤ 4 → r = (if w = 0 then A 11 i else if w = 1 then A 12 i else if w = 2 then A 13 i else if w = 3 then tsA A i else A 14 i) ∧ u2 = (va_up I 0 0, A)) ∧ (¬ ((0 ≤ i ∧ i < I 6) ∧ 0 ≤ w ∧ w ≤ 4) → u2 = (va_up I 0 1, A))) := by
  refine ct_intro (own := RX11) (by decide) rfl hO.1 (Nat.le_of_ble_eq_true rfl) (by simp [Value.category]) (fun X J hJ => ?_)
  show J 0 [some (.ref (ad 0)), some (.int (iZ i)), some (.int (iZ w))] [] (I, A)
  obtain ⟨⟨c1, c2⟩, c3⟩ := id hC
  by_cases hin : 0 ≤ i ∧ i < I 6
  · skip
    refine v_ald0 (pc := 0) hJ dX11_chord_0 ?_
    refine v_ild1 (pc := 1) hJ dX11_chord_1 ?_
    refine v_cV1i (pc := 2) (q0 := 0) (ci := 8) hJ rfl rfl lkX11_219 (qX11_isChord hO (by omega) (by omega)) (Nat.le_of_ble_eq_true rfl) (rOk_L (by decide) (by decide)) dX11_chord_2 (fun r2 u2 g2 => ?_)
    obtain ⟨rfl, rfl⟩ := g2.1 hin
    refine v_if_eq (tgt := 30) (pc := 5) hJ dX11_chord_5 (by decide) (by decide) (fun h => by first | exact absurd h (by decide) | exact absurd (by decide) h) (fun _ => ?_)
    refine v_ald0 (pc := 8) hJ dX11_chord_8 ?_
    refine v_ild2 (pc := 9) hJ dX11_chord_9 ?_
    refine v_if_lt (tgt := 22) (pc := 10) hJ dX11_chord_10 (by decide) (by omega) (fun h10 => ?_) (fun h10 => ?_)
    · refine v_iconst (pc := 22) hJ dX11_chord_22 ?_
      refine v_iconst (pc := 23) hJ dX11_chord_23 ?_
      refine v_cV2i (pc := 24) (q0 := 0) (ci := 8) hJ rfl rfl lkX11_190 (qX11_right0 hO (by first | (simp only [up_s, up_n, up_up, ne_eq, Nat.reduceEqDiff, not_false_eq_true]; done) | assumption | (simp only [up_s, up_n, up_up, ne_eq, Nat.reduceEqDiff, not_false_eq_true]; assumption)) (by decide)) (Nat.le_of_ble_eq_true rfl) (rOk_L (by decide) (by decide)) dX11_chord_24 (fun r24 u24 g24 => ?_)
      obtain ⟨rfl, rfl⟩ := g24
      try simp only [up_s, up_n, up_up, ne_eq, Nat.reduceEqDiff, not_false_eq_true]
      refine v_if_ne (tgt := 32) (pc := 27) hJ dX11_chord_27 (by decide) (by decide) (fun h => by first | exact absurd h (by decide) | exact absurd (by decide) h) (fun _ => ?_)
      refine v_iconst (pc := 30) hJ dX11_chord_30 ?_
      refine v_iret (pc := 31) hJ dX11_chord_31 ⟨_, rfl, ?_⟩
      refine ⟨fun q => ?_, fun q => ?_⟩ <;> first | (exfalso; omega) | (refine ⟨?_, rfl⟩; first | (simp; done) | (repeat (rw [if_neg (by omega)]))) | simp only [up_up]
    · refine v_ild2 (pc := 13) hJ dX11_chord_13 ?_
      refine v_iconst (pc := 14) hJ dX11_chord_14 ?_
      refine v_icmp_gt (tgt := 22) (pc := 15) hJ dX11_chord_15 (by decide) (by omega) (by omega) (fun h15 => ?_) (fun h15 => ?_)
      · refine v_iconst (pc := 22) hJ dX11_chord_22 ?_
        refine v_iconst (pc := 23) hJ dX11_chord_23 ?_
        refine v_cV2i (pc := 24) (q0 := 0) (ci := 8) hJ rfl rfl lkX11_190 (qX11_right0 hO (by first | (simp only [up_s, up_n, up_up, ne_eq, Nat.reduceEqDiff, not_false_eq_true]; done) | assumption | (simp only [up_s, up_n, up_up, ne_eq, Nat.reduceEqDiff, not_false_eq_true]; assumption)) (by decide)) (Nat.le_of_ble_eq_true rfl) (rOk_L (by decide) (by decide)) dX11_chord_24 (fun r24 u24 g24 => ?_)
        obtain ⟨rfl, rfl⟩ := g24
        try simp only [up_s, up_n, up_up, ne_eq, Nat.reduceEqDiff, not_false_eq_true]
        refine v_if_ne (tgt := 32) (pc := 27) hJ dX11_chord_27 (by decide) (by decide) (fun h => by first | exact absurd h (by decide) | exact absurd (by decide) h) (fun _ => ?_)
        refine v_iconst (pc := 30) hJ dX11_chord_30 ?_
        refine v_iret (pc := 31) hJ dX11_chord_31 ⟨_, rfl, ?_⟩
        refine ⟨fun q => ?_, fun q => ?_⟩ <;> first | (exfalso; omega) | (refine ⟨?_, rfl⟩; first | (simp; done) | (repeat (rw [if_neg (by omega)]))) | simp only [up_up]
      · refine v_iconst (pc := 18) hJ dX11_chord_18 ?_
        refine v_goto (tgt := 23) (pc := 19) hJ dX11_chord_19 (by decide) ?_
        refine v_iconst (pc := 23) hJ dX11_chord_23 ?_
        refine v_cV2i (pc := 24) (q0 := 0) (ci := 8) hJ rfl rfl lkX11_190 (qX11_right1 hO (by first | (simp only [up_s, up_n, up_up, ne_eq, Nat.reduceEqDiff, not_false_eq_true]; done) | assumption | (simp only [up_s, up_n, up_up, ne_eq, Nat.reduceEqDiff, not_false_eq_true]; assumption))) (Nat.le_of_ble_eq_true rfl) (rOk_L (by decide) (by decide)) dX11_chord_24 (fun r24 u24 g24 => ?_)
        obtain ⟨rfl, rfl⟩ := g24
        try simp only [up_s, up_n, up_up, ne_eq, Nat.reduceEqDiff, not_false_eq_true]
        refine v_if_ne (tgt := 32) (pc := 27) hJ dX11_chord_27 (by decide) (by decide) (fun _ => ?_) (fun h => by first | exact absurd h (by decide) | exact absurd (by decide) h)
        refine v_ild2 (pc := 32) hJ dX11_chord_32 ?_
        by_cases hsw33 : w < 0 ∨ 3 < w
        · refine v_tableOut (tgt := 91) (pc := 33) hJ dX11_chord_33 (by omega) hsw33 (by decide) ?_
          refine v_ald0 (pc := 91) hJ dX11_chord_91 ?_
          refine mg14 (pc := 92) hJ dX11_chord_92 ?_
          refine v_ild1 (pc := 95) hJ dX11_chord_95 ?_
          refine ma14 (pc := 96) hJ (by omega) (by omega) dX11_chord_96 ?_
          try simp only [up_s, up_n, up_up, ne_eq, Nat.reduceEqDiff, not_false_eq_true]
          refine v_iret (pc := 97) hJ dX11_chord_97 ⟨_, rfl, ?_⟩
          refine ⟨fun q => ?_, fun q => ?_⟩ <;> first | (exfalso; omega) | (refine ⟨?_, rfl⟩; first | (simp; done) | (repeat (rw [if_neg (by omega)]))) | simp only [up_up]
        · rcases (show w = 0 ∨ w = 1 ∨ w = 2 ∨ w = 3 by omega) with rfl | rfl | rfl | rfl
          · refine v_tableIn (off := 31) (tgt := 64) (pc := 33) hJ dX11_chord_33 (by omega) (by decide) (by decide) rfl (by decide) ?_
            refine v_ald0 (pc := 64) hJ dX11_chord_64 ?_
            refine mg11 (pc := 65) hJ dX11_chord_65 ?_
            refine v_ild1 (pc := 68) hJ dX11_chord_68 ?_
            refine ma11 (pc := 69) hJ (by omega) (by omega) dX11_chord_69 ?_
            try simp only [up_s, up_n, up_up, ne_eq, Nat.reduceEqDiff, not_false_eq_true]
            refine v_iret (pc := 70) hJ dX11_chord_70 ⟨_, rfl, ?_⟩
            refine ⟨fun q => ?_, fun q => ?_⟩ <;> first | (exfalso; omega) | (refine ⟨?_, rfl⟩; first | (simp; done) | (repeat (rw [if_neg (by omega)]))) | simp only [up_up]
          · refine v_tableIn (off := 38) (tgt := 71) (pc := 33) hJ dX11_chord_33 (by omega) (by decide) (by decide) rfl (by decide) ?_
            refine v_ald0 (pc := 71) hJ dX11_chord_71 ?_
            refine mg12 (pc := 72) hJ dX11_chord_72 ?_
            refine v_ild1 (pc := 75) hJ dX11_chord_75 ?_
            refine ma12 (pc := 76) hJ (by omega) (by omega) dX11_chord_76 ?_
            try simp only [up_s, up_n, up_up, ne_eq, Nat.reduceEqDiff, not_false_eq_true]
            refine v_iret (pc := 77) hJ dX11_chord_77 ⟨_, rfl, ?_⟩
            refine ⟨fun q => ?_, fun q => ?_⟩ <;> first | (exfalso; omega) | (refine ⟨?_, rfl⟩; first | (simp; done) | (repeat (rw [if_neg (by omega)]))) | simp only [up_up]
          · refine v_tableIn (off := 45) (tgt := 78) (pc := 33) hJ dX11_chord_33 (by omega) (by decide) (by decide) rfl (by decide) ?_
            refine v_ald0 (pc := 78) hJ dX11_chord_78 ?_
            refine mg13 (pc := 79) hJ dX11_chord_79 ?_
            refine v_ild1 (pc := 82) hJ dX11_chord_82 ?_
            refine ma13 (pc := 83) hJ (by omega) (by omega) dX11_chord_83 ?_
            try simp only [up_s, up_n, up_up, ne_eq, Nat.reduceEqDiff, not_false_eq_true]
            refine v_iret (pc := 84) hJ dX11_chord_84 ⟨_, rfl, ?_⟩
            refine ⟨fun q => ?_, fun q => ?_⟩ <;> first | (exfalso; omega) | (refine ⟨?_, rfl⟩; first | (simp; done) | (repeat (rw [if_neg (by omega)]))) | simp only [up_up]
          · refine v_tableIn (off := 52) (tgt := 85) (pc := 33) hJ dX11_chord_33 (by omega) (by decide) (by decide) rfl (by decide) ?_
            refine v_ald0 (pc := 85) hJ dX11_chord_85 ?_
            refine v_ild1 (pc := 86) hJ dX11_chord_86 ?_
            refine v_cV1i (pc := 87) (q0 := 0) (ci := 8) hJ rfl rfl lkX11_223 (qX11_tones hO (by simp only [okC, up_s, up_n, up_up, ne_eq, Nat.reduceEqDiff, not_false_eq_true]; exact hC) (by simp only [up_s, up_n, up_up, ne_eq, Nat.reduceEqDiff, not_false_eq_true]; exact hin)) (Nat.le_of_ble_eq_true rfl) (rOk_L (by decide) (by decide)) dX11_chord_87 (fun r87 u87 g87 => ?_)
            obtain ⟨rfl, rfl⟩ := g87
            try simp only [up_s, up_n, up_up, ne_eq, Nat.reduceEqDiff, not_false_eq_true]
            refine v_iret (pc := 90) hJ dX11_chord_90 ⟨_, rfl, ?_⟩
            refine ⟨fun q => ?_, fun q => ?_⟩ <;> first | (exfalso; omega) | (refine ⟨?_, rfl⟩; first | (simp; done) | (repeat (rw [if_neg (by omega)]))) | simp only [up_up]
  · skip
    refine v_ald0 (pc := 0) hJ dX11_chord_0 ?_
    refine v_ild1 (pc := 1) hJ dX11_chord_1 ?_
    refine v_cV1i (pc := 2) (q0 := 0) (ci := 8) hJ rfl rfl lkX11_219 (qX11_isChord hO (by omega) (by omega)) (Nat.le_of_ble_eq_true rfl) (rOk_L (by decide) (by decide)) dX11_chord_2 (fun r2 u2 g2 => ?_)
    obtain ⟨rfl, rfl⟩ := g2.2 hin
    refine v_if_eq (tgt := 30) (pc := 5) hJ dX11_chord_5 (by decide) (by decide) (fun _ => ?_) (fun h => by first | exact absurd h (by decide) | exact absurd (by decide) h)
    refine v_iconst (pc := 30) hJ dX11_chord_30 ?_
    refine v_iret (pc := 31) hJ dX11_chord_31 ⟨_, rfl, ?_⟩
    refine ⟨fun q => ?_, fun q => ?_⟩ <;> first | (exfalso; omega) | (refine ⟨?_, rfl⟩; first | (simp; done) | (repeat (rw [if_neg (by omega)]))) | simp only [up_up]
set_option maxHeartbeats 4000000 in
set_option maxRecDepth 100000 in
theorem qX11_unstring {l : Launch} {D : va_G} {cI : ClassId} {ad : Nat → Nat} {O : OT} {adK adV : Nat → Nat} (hO : OG O adK adV) {I : Nat → Int} {A : Nat → Int → Int}   : MC l D cI ad O yX11_unstring cX11_unstring 2 (some .int) 2 [.ref (ad 0)] (I, A) (pI fun r u2 => r = I 9 ∧ ∃ M, (∀ j, 0 ≤ j → j < 480 → M j = -1) ∧ u2 = (va_up (va_up (va_up I 0 0) 9 0) 10 (-1), va_up A 38 M)) := by
  refine ct_intro (own := RX11) (by decide) rfl hO.1 (Nat.le_of_ble_eq_true rfl) (by simp [Value.category]) (fun X J hJ => ?_)
  show J 0 [some (.ref (ad 0)), none] [] (I, A)
  refine v_ald0 (pc := 0) hJ dX11_unstring_0 ?_
  refine v_iconst (pc := 1) hJ dX11_unstring_1 ?_
  refine mp0 (pc := 2) hJ dX11_unstring_2 ?_
  refine v_ald0 (pc := 5) hJ dX11_unstring_5 ?_
  refine mg9 (pc := 6) hJ dX11_unstring_6 ?_
  try simp only [up_s, up_n, up_up, ne_eq, Nat.reduceEqDiff, not_false_eq_true]
  refine v_ist1 (pc := 9) hJ dX11_unstring_9 (by decide) ?_
  refine v_ald0 (pc := 10) hJ dX11_unstring_10 ?_
  refine v_iconst (pc := 11) hJ dX11_unstring_11 ?_
  refine mp9 (pc := 12) hJ dX11_unstring_12 ?_
  refine v_ald0 (pc := 15) hJ dX11_unstring_15 ?_
  refine v_cV0v (pc := 16) (q0 := 0) (ci := 8) hJ rfl rfl lkX11_210 (qX11_changes hO) (Nat.le_of_ble_eq_true rfl) (rOk_L (by decide) (by decide)) dX11_unstring_16 (fun u16 g16 => ?_)
  obtain ⟨M, hM, rfl⟩ := g16
  try simp only [up_s, up_n, up_up, ne_eq, Nat.reduceEqDiff, not_false_eq_true]
  refine v_ild1 (pc := 19) hJ dX11_unstring_19 ?_
  refine v_iret (pc := 20) hJ dX11_unstring_20 ⟨_, rfl, ?_⟩
  exact ⟨rfl, M, hM, rfl⟩
set_option maxHeartbeats 4000000 in
set_option maxRecDepth 100000 in
theorem qX11_string {l : Launch} {D : va_G} {cI : ClassId} {ad : Nat → Nat} {O : OT} {adK adV : Nat → Nat} (hO : OG O adK adV) {I : Nat → Int} {A : Nat → Int → Int} {p : Int} (hp : inR p) (h9 : 0 ≤ I 9 ∧ I 9 ≤ 6) : MC l D cI ad O yX11_string cX11_string 2 (some .int) 2 [.ref (ad 0), .int (iZ p)] (I, A) (pI fun r u2 => (0 ≤ p ∧ p ≤ 60 → (I 9 = 6 → r = -1 ∧ u2 = (va_up I 0 0, A)) ∧ (I 9 < 6 → r = I 9 + 1 ∧ ∃ M, (∀ j, 0 ≤ j → j < 480 → M j = -1) ∧ u2 = (va_up (va_up (va_up I 0 0) 9 (I 9 + 1)) 10 (-1), va_up (va_up A 23 (zu (A 23) (I 9) p)) 38 M))) ∧ (¬ (0 ≤ p ∧ p ≤ 60) → u2 = (va_up I 0 1, A))) := by
  refine ct_intro (own := RX11) (by decide) rfl hO.1 (Nat.le_of_ble_eq_true rfl) (by simp [Value.category]) (fun X J hJ => ?_)
  show J 0 [some (.ref (ad 0)), some (.int (iZ p))] [] (I, A)
  refine v_ald0 (pc := 0) hJ dX11_string_0 ?_
  refine v_iconst (pc := 1) hJ dX11_string_1 ?_
  refine mp0 (pc := 2) hJ dX11_string_2 ?_
  refine v_ald0 (pc := 5) hJ dX11_string_5 ?_
  refine v_ild1 (pc := 6) hJ dX11_string_6 ?_
  refine v_if_lt (tgt := 20) (pc := 7) hJ dX11_string_7 (by decide) (by omega) (fun h7 => ?_) (fun h7 => ?_)
  · refine v_iconst (pc := 20) hJ dX11_string_20 ?_
    refine v_iconst (pc := 21) hJ dX11_string_21 ?_
    refine v_cV2i (pc := 22) (q0 := 0) (ci := 8) hJ rfl rfl lkX11_190 (qX11_right0 hO (by first | (simp only [up_s, up_n, up_up, ne_eq, Nat.reduceEqDiff, not_false_eq_true]; done) | assumption | (simp only [up_s, up_n, up_up, ne_eq, Nat.reduceEqDiff, not_false_eq_true]; assumption)) (by decide)) (Nat.le_of_ble_eq_true rfl) (rOk_L (by decide) (by decide)) dX11_string_22 (fun r22 u22 g22 => ?_)
    obtain ⟨rfl, rfl⟩ := g22
    try simp only [up_s, up_n, up_up, ne_eq, Nat.reduceEqDiff, not_false_eq_true]
    refine v_if_ne (tgt := 30) (pc := 25) hJ dX11_string_25 (by decide) (by decide) (fun h => by first | exact absurd h (by decide) | exact absurd (by decide) h) (fun _ => ?_)
    refine v_iconst (pc := 28) hJ dX11_string_28 ?_
    refine v_iret (pc := 29) hJ dX11_string_29 ⟨_, rfl, ?_⟩
    refine ⟨fun q => ⟨fun q2 => ?_, fun q2 => ?_⟩, fun q => ?_⟩ <;> first | (exfalso; omega) | exact ⟨rfl, rfl⟩ | exact ⟨rfl, M, hM, rfl⟩ | simp only [up_up]
  · refine v_ild1 (pc := 10) hJ dX11_string_10 ?_
    refine v_bipush (pc := 11) hJ dX11_string_11 (by decide) ?_
    refine v_icmp_gt (tgt := 20) (pc := 13) hJ dX11_string_13 (by decide) (by omega) (by omega) (fun h13 => ?_) (fun h13 => ?_)
    · refine v_iconst (pc := 20) hJ dX11_string_20 ?_
      refine v_iconst (pc := 21) hJ dX11_string_21 ?_
      refine v_cV2i (pc := 22) (q0 := 0) (ci := 8) hJ rfl rfl lkX11_190 (qX11_right0 hO (by first | (simp only [up_s, up_n, up_up, ne_eq, Nat.reduceEqDiff, not_false_eq_true]; done) | assumption | (simp only [up_s, up_n, up_up, ne_eq, Nat.reduceEqDiff, not_false_eq_true]; assumption)) (by decide)) (Nat.le_of_ble_eq_true rfl) (rOk_L (by decide) (by decide)) dX11_string_22 (fun r22 u22 g22 => ?_)
      obtain ⟨rfl, rfl⟩ := g22
      try simp only [up_s, up_n, up_up, ne_eq, Nat.reduceEqDiff, not_false_eq_true]
      refine v_if_ne (tgt := 30) (pc := 25) hJ dX11_string_25 (by decide) (by decide) (fun h => by first | exact absurd h (by decide) | exact absurd (by decide) h) (fun _ => ?_)
      refine v_iconst (pc := 28) hJ dX11_string_28 ?_
      refine v_iret (pc := 29) hJ dX11_string_29 ⟨_, rfl, ?_⟩
      refine ⟨fun q => ⟨fun q2 => ?_, fun q2 => ?_⟩, fun q => ?_⟩ <;> first | (exfalso; omega) | exact ⟨rfl, rfl⟩ | exact ⟨rfl, M, hM, rfl⟩ | simp only [up_up]
    · refine v_iconst (pc := 16) hJ dX11_string_16 ?_
      refine v_goto (tgt := 21) (pc := 17) hJ dX11_string_17 (by decide) ?_
      refine v_iconst (pc := 21) hJ dX11_string_21 ?_
      refine v_cV2i (pc := 22) (q0 := 0) (ci := 8) hJ rfl rfl lkX11_190 (qX11_right1 hO (by first | (simp only [up_s, up_n, up_up, ne_eq, Nat.reduceEqDiff, not_false_eq_true]; done) | assumption | (simp only [up_s, up_n, up_up, ne_eq, Nat.reduceEqDiff, not_false_eq_true]; assumption))) (Nat.le_of_ble_eq_true rfl) (rOk_L (by decide) (by decide)) dX11_string_22 (fun r22 u22 g22 => ?_)
      obtain ⟨rfl, rfl⟩ := g22
      try simp only [up_s, up_n, up_up, ne_eq, Nat.reduceEqDiff, not_false_eq_true]
      refine v_if_ne (tgt := 30) (pc := 25) hJ dX11_string_25 (by decide) (by decide) (fun _ => ?_) (fun h => by first | exact absurd h (by decide) | exact absurd (by decide) h)
      refine v_ald0 (pc := 30) hJ dX11_string_30 ?_
      refine mg9 (pc := 31) hJ dX11_string_31 ?_
      try simp only [up_s, up_n, up_up, ne_eq, Nat.reduceEqDiff, not_false_eq_true]
      refine v_bipush (pc := 34) hJ dX11_string_34 (by decide) ?_
      refine v_icmp_ne (tgt := 41) (pc := 36) hJ dX11_string_36 (by decide) (by omega) (by omega) (fun h36 => ?_) (fun h36 => ?_)
      · refine v_ald0 (pc := 41) hJ dX11_string_41 ?_
        refine mg23 (pc := 42) hJ dX11_string_42 ?_
        refine v_ald0 (pc := 45) hJ dX11_string_45 ?_
        refine mg9 (pc := 46) hJ dX11_string_46 ?_
        try simp only [up_s, up_n, up_up, ne_eq, Nat.reduceEqDiff, not_false_eq_true]
        refine v_ild1 (pc := 49) hJ dX11_string_49 ?_
        refine ms23 (pc := 50) hJ (by omega) (by omega) dX11_string_50 ?_
        refine v_ald0 (pc := 51) hJ dX11_string_51 ?_
        refine v_dup (pc := 52) hJ dX11_string_52 rfl ?_
        refine mg9 (pc := 53) hJ dX11_string_53 ?_
        try simp only [up_s, up_n, up_up, ne_eq, Nat.reduceEqDiff, not_false_eq_true]
        refine v_iconst (pc := 56) hJ dX11_string_56 ?_
        refine v_iadd (pc := 57) hJ dX11_string_57 ?_
        refine mp9 (pc := 58) hJ dX11_string_58 ?_
        refine v_ald0 (pc := 61) hJ dX11_string_61 ?_
        refine v_cV0v (pc := 62) (q0 := 0) (ci := 8) hJ rfl rfl lkX11_210 (qX11_changes hO) (Nat.le_of_ble_eq_true rfl) (rOk_L (by decide) (by decide)) dX11_string_62 (fun u62 g62 => ?_)
        obtain ⟨M, hM, rfl⟩ := g62
        try simp only [up_s, up_n, up_up, ne_eq, Nat.reduceEqDiff, not_false_eq_true]
        refine v_ald0 (pc := 65) hJ dX11_string_65 ?_
        refine mg9 (pc := 66) hJ dX11_string_66 ?_
        try simp only [up_s, up_n, up_up, ne_eq, Nat.reduceEqDiff, not_false_eq_true]
        refine v_iret (pc := 69) hJ dX11_string_69 ⟨_, rfl, ?_⟩
        refine ⟨fun q => ⟨fun q2 => ?_, fun q2 => ?_⟩, fun q => ?_⟩ <;> first | (exfalso; omega) | exact ⟨rfl, rfl⟩ | exact ⟨rfl, M, hM, rfl⟩ | simp only [up_up]
      · refine v_iconst (pc := 39) hJ dX11_string_39 ?_
        refine v_iret (pc := 40) hJ dX11_string_40 ⟨_, rfl, ?_⟩
        refine ⟨fun q => ⟨fun q2 => ?_, fun q2 => ?_⟩, fun q => ?_⟩ <;> first | (exfalso; omega) | exact ⟨rfl, rfl⟩ | exact ⟨rfl, M, hM, rfl⟩ | simp only [up_up]
set_option maxHeartbeats 4000000 in
set_option maxRecDepth 100000 in
theorem qX11_guess {l : Launch} {D : va_G} {cI : ClassId} {ad : Nat → Nat} {O : OT} {adK adV : Nat → Nat} (hO : OG O adK adV) {I : Nat → Int} {A : Nat → Int → Int}  (hC : okC I A) : MC l D cI ad O yX11_guess cX11_guess 7 (some .int) 3 [.ref (ad 0)] (I, A) (pI fun r u2 => r = (gsN (fun k => fitN (tsA A) (scN k 7) (I 6).toNat) 13).1 ∧ u2 = (va_up I 0 0, A)) := by
  refine ct_intro (own := RX11) (by decide) rfl hO.1 (Nat.le_of_ble_eq_true rfl) (by simp [Value.category]) (fun X J hJ => ?_)
  obtain ⟨⟨c1, c2⟩, c3⟩ := id hC
  have hcnt : ∀ k, 0 ≤ fitN (tsA A) (scN k 7) (I 6).toNat ∧ fitN (tsA A) (scN k 7) (I 6).toNat ≤ 60 := fun k => by have := fitN_in (tsA A) (scN k 7) (I 6).toNat; omega
  have lp : ∀ (n0 kn : Nat) (a4 a5 a6 : Option Value), kn ≤ 13 → (13 - (kn : Int)) < (n0 : Int) → J 13 [some (.ref (ad 0)), some (.int (iZ ((gsN (fun k => fitN (tsA A) (scN k 7) (I 6).toNat) kn).1))), some (.int (iZ ((gsN (fun k => fitN (tsA A) (scN k 7) (I 6).toNat) kn).2))), some (.int (iZ (((kn : Int) - 6)))), a4, a5, a6] [] (va_up I 0 0, A) := by
    intro n0
    induction n0 with
    | zero => intro kn a4 a5 a6 hk hmu; exfalso; omega
    | succ n0 ih0 =>
      intro kn a4 a5 a6 hk hmu0
      have hg := gsN_in (cnt := fun k => fitN (tsA A) (scN k 7) (I 6).toNat) hcnt kn
      have e2 : ((kn + 1 : Nat) : Int) - 6 = (kn : Int) - 6 + 1 := by omega
      have lp3 : ∀ (n : Nat) (j : Nat), (kn < 13) → ((j : Int) ≤ I 6) → (I 6 - (j : Int)) < (n : Int) → J 59 [some (.ref (ad 0)), some (.int (iZ ((gsN (fun k => fitN (tsA A) (scN k 7) (I 6).toNat) kn).1))), some (.int (iZ ((gsN (fun k => fitN (tsA A) (scN k 7) (I 6).toNat) kn).2))), some (.int (iZ (((kn : Int) - 6)))), some (.int (iZ (scN ((kn : Int) - 6) 7))), some (.int (iZ (fitN (tsA A) (scN ((kn : Int) - 6) 7) j))), some (.int (iZ ((j : Int))))] [] (va_up I 0 0, A) := by
        intro n
        induction n with
        | zero => intro j hk13 hj hmu; exfalso; omega
        | succ n ih =>
          intro j hk13 hj hmu
          refine v_ild6 (pc := 59) hJ dX11_guess_59 ?_
          refine v_ald0 (pc := 61) hJ dX11_guess_61 ?_
          refine mg6 (pc := 62) hJ dX11_guess_62 ?_
          try simp only [up_s, up_n, up_up, ne_eq, Nat.reduceEqDiff, not_false_eq_true]
          refine v_icmp_ge (tgt := 91) (pc := 65) hJ dX11_guess_65 (by decide) (by omega) (by omega) (fun h65 => ?_) (fun h65 => ?_)
          · have e : j = (I 6).toNat := by omega
            subst e
            have hcc := hcnt ((kn : Int) - 6)
            refine v_ild5 (pc := 91) hJ dX11_guess_91 ?_
            refine v_ild2 (pc := 93) hJ dX11_guess_93 ?_
            refine v_icmp_le (tgt := 105) (pc := 94) hJ dX11_guess_94 (by decide) (by omega) (by omega) (fun h94 => ?_) (fun h94 => ?_)
            · refine v_ild5 (pc := 105) hJ dX11_guess_105 ?_
              refine v_ild2 (pc := 107) hJ dX11_guess_107 ?_
              refine v_icmp_ne (tgt := 114) (pc := 108) hJ dX11_guess_108 (by decide) (by omega) (by omega) (fun h108 => ?_) (fun h108 => ?_)
              · refine v_inc3 (pc := 114) hJ dX11_guess_114 (by decide) ?_
                refine v_goto (tgt := 13) (pc := 117) hJ dX11_guess_117 (by decide) ?_
                have hn := ih0 (kn + 1) (some (.int (iZ (scN ((kn : Int) - 6) 7)))) (some (.int (iZ (fitN (tsA A) (scN ((kn : Int) - 6) 7) (I 6).toNat)))) (some (.int (iZ ((I 6).toNat : Int)))) (by omega) (by omega)
                rw [e2] at hn
                first
                  | (rw [gsN_1 (cnt := (fun k => fitN (tsA A) (scN k 7) (I 6).toNat)) (by omega)] at hn; exact hn)
                  | (rw [gsN_2 (cnt := (fun k => fitN (tsA A) (scN k 7) (I 6).toNat)) (by omega) (by omega)] at hn; exact hn)
                  | (rw [gsN_3 (cnt := (fun k => fitN (tsA A) (scN k 7) (I 6).toNat)) (by omega) (by omega)] at hn; exact hn)
              · refine v_bipush (pc := 111) hJ dX11_guess_111 (by decide) ?_
                refine v_ist1 (pc := 113) hJ dX11_guess_113 (by decide) ?_
                refine v_inc3 (pc := 114) hJ dX11_guess_114 (by decide) ?_
                refine v_goto (tgt := 13) (pc := 117) hJ dX11_guess_117 (by decide) ?_
                have hn := ih0 (kn + 1) (some (.int (iZ (scN ((kn : Int) - 6) 7)))) (some (.int (iZ (fitN (tsA A) (scN ((kn : Int) - 6) 7) (I 6).toNat)))) (some (.int (iZ ((I 6).toNat : Int)))) (by omega) (by omega)
                rw [e2] at hn
                first
                  | (rw [gsN_1 (cnt := (fun k => fitN (tsA A) (scN k 7) (I 6).toNat)) (by omega)] at hn; exact hn)
                  | (rw [gsN_2 (cnt := (fun k => fitN (tsA A) (scN k 7) (I 6).toNat)) (by omega) (by omega)] at hn; exact hn)
                  | (rw [gsN_3 (cnt := (fun k => fitN (tsA A) (scN k 7) (I 6).toNat)) (by omega) (by omega)] at hn; exact hn)
            · refine v_ild3 (pc := 97) hJ dX11_guess_97 ?_
              refine v_ist1 (pc := 98) hJ dX11_guess_98 (by decide) ?_
              refine v_ild5 (pc := 99) hJ dX11_guess_99 ?_
              refine v_ist2 (pc := 101) hJ dX11_guess_101 (by decide) ?_
              refine v_goto (tgt := 114) (pc := 102) hJ dX11_guess_102 (by decide) ?_
              refine v_inc3 (pc := 114) hJ dX11_guess_114 (by decide) ?_
              refine v_goto (tgt := 13) (pc := 117) hJ dX11_guess_117 (by decide) ?_
              have hn := ih0 (kn + 1) (some (.int (iZ (scN ((kn : Int) - 6) 7)))) (some (.int (iZ (fitN (tsA A) (scN ((kn : Int) - 6) 7) (I 6).toNat)))) (some (.int (iZ ((I 6).toNat : Int)))) (by omega) (by omega)
              rw [e2] at hn
              first
                | (rw [gsN_1 (cnt := (fun k => fitN (tsA A) (scN k 7) (I 6).toNat)) (by omega)] at hn; exact hn)
                | (rw [gsN_2 (cnt := (fun k => fitN (tsA A) (scN k 7) (I 6).toNat)) (by omega) (by omega)] at hn; exact hn)
                | (rw [gsN_3 (cnt := (fun k => fitN (tsA A) (scN k 7) (I 6).toNat)) (by omega) (by omega)] at hn; exact hn)
          · refine v_ald0 (pc := 68) hJ dX11_guess_68 ?_
            refine v_ild6 (pc := 69) hJ dX11_guess_69 ?_
            refine v_cV1i (pc := 71) (q0 := 0) (ci := 8) hJ rfl rfl lkX11_223 (qX11_tones hO (by simp only [okC, up_s, up_n, up_up, ne_eq, Nat.reduceEqDiff, not_false_eq_true]; exact hC) (by simp only [up_s, up_n, up_up, ne_eq, Nat.reduceEqDiff, not_false_eq_true]; omega)) (Nat.le_of_ble_eq_true rfl) (rOk_L (by decide) (by decide)) dX11_guess_71 (fun r71 u71 g71 => ?_)
            obtain ⟨rfl, rfl⟩ := g71
            try simp only [up_s, up_n, up_up, ne_eq, Nat.reduceEqDiff, not_false_eq_true]
            refine v_ild4 (pc := 74) hJ dX11_guess_74 ?_
            refine v_iconst (pc := 76) hJ dX11_guess_76 ?_
            refine v_ixor (pc := 77) hJ dX11_guess_77 ?_
            refine v_iand (pc := 78) hJ dX11_guess_78 ?_
            refine v_if_ne (tgt := 85) (pc := 79) hJ dX11_guess_79 (by decide) (inR_zand _ _) (fun h79 => ?_) (fun h79 => ?_)
            · refine v_inc6 (pc := 85) hJ dX11_guess_85 (by decide) ?_
              refine v_goto (tgt := 59) (pc := 88) hJ dX11_guess_88 (by decide) ?_
              first | rw [fitN_neg h79] | rw [fitN_pos h79]
              exact ih (j + 1) hk13 (by omega) (by omega)
            · refine v_inc5 (pc := 82) hJ dX11_guess_82 (by decide) ?_
              refine v_inc6 (pc := 85) hJ dX11_guess_85 (by decide) ?_
              refine v_goto (tgt := 59) (pc := 88) hJ dX11_guess_88 (by decide) ?_
              first | rw [fitN_neg h79] | rw [fitN_pos h79]
              exact ih (j + 1) hk13 (by omega) (by omega)
      have lp2 : ∀ (n : Nat) (j : Nat) (a6 : Option Value), (kn < 13) → (j ≤ 7) → (7 - (j : Int)) < (n : Int) → J 27 [some (.ref (ad 0)), some (.int (iZ ((gsN (fun k => fitN (tsA A) (scN k 7) (I 6).toNat) kn).1))), some (.int (iZ ((gsN (fun k => fitN (tsA A) (scN k 7) (I 6).toNat) kn).2))), some (.int (iZ (((kn : Int) - 6)))), some (.int (iZ (scN ((kn : Int) - 6) j))), some (.int (iZ (((kn : Int) - 6) - 1 + (j : Int)))), a6] [] (va_up I 0 0, A) := by
        intro n
        induction n with
        | zero => intro j  a6 hk13 hj hmu; exfalso; omega
        | succ n ih =>
          intro j  a6 hk13 hj hmu
          refine v_ild5 (pc := 27) hJ dX11_guess_27 ?_
          refine v_ild3 (pc := 29) hJ dX11_guess_29 ?_
          refine v_iconst (pc := 30) hJ dX11_guess_30 ?_
          refine v_iadd (pc := 31) hJ dX11_guess_31 ?_
          refine v_icmp_gt (tgt := 53) (pc := 32) hJ dX11_guess_32 (by decide) (by omega) (by omega) (fun h32 => ?_) (fun h32 => ?_)
          · have e : j = 7 := by omega
            subst e
            refine v_iconst (pc := 53) hJ dX11_guess_53 ?_
            refine v_ist5 (pc := 54) hJ dX11_guess_54 (by decide) ?_
            refine v_iconst (pc := 56) hJ dX11_guess_56 ?_
            refine v_ist6 (pc := 57) hJ dX11_guess_57 (by decide) ?_
            exact lp3 100 0 hk13 (by omega) (by omega)
          · refine v_ild4 (pc := 35) hJ dX11_guess_35 ?_
            refine v_iconst (pc := 37) hJ dX11_guess_37 ?_
            refine v_ild5 (pc := 38) hJ dX11_guess_38 ?_
            refine v_cS1i (pc := 40) hJ lkX11_127 (qX11_tone hO (by omega)) (Nat.le_of_ble_eq_true rfl) (rOk_L (by decide) (by decide)) dX11_guess_40 (fun r40 u40 g40 => ?_)
            obtain ⟨rfl, rfl⟩ := g40
            try simp only [up_s, up_n, up_up, ne_eq, Nat.reduceEqDiff, not_false_eq_true]
            refine v_ishl (pc := 43) hJ dX11_guess_43 ?_
            refine v_ior (pc := 44) hJ dX11_guess_44 ?_
            refine v_ist4 (pc := 45) hJ dX11_guess_45 (by decide) ?_
            refine v_inc5 (pc := 47) hJ dX11_guess_47 (by decide) ?_
            refine v_goto (tgt := 27) (pc := 50) hJ dX11_guess_50 (by decide) ?_
            rw [show (kn : Int) - 6 - 1 + (j : Int) + 1 = (kn : Int) - 6 - 1 + ((j + 1 : Nat) : Int) by omega]
            exact ih (j + 1) a6 hk13 (by omega) (by omega)
      refine v_ild3 (pc := 13) hJ dX11_guess_13 ?_
      refine v_bipush (pc := 14) hJ dX11_guess_14 (by decide) ?_
      refine v_icmp_gt (tgt := 120) (pc := 16) hJ dX11_guess_16 (by decide) (by omega) (by omega) (fun h16 => ?_) (fun h16 => ?_)
      · refine v_ild1 (pc := 120) hJ dX11_guess_120 ?_
        refine v_iret (pc := 121) hJ dX11_guess_121 ⟨_, rfl, ?_⟩
        have e : kn = 13 := by omega
        subst e
        exact ⟨rfl, rfl⟩
      · refine v_iconst (pc := 19) hJ dX11_guess_19 ?_
        refine v_ist4 (pc := 20) hJ dX11_guess_20 (by decide) ?_
        refine v_ild3 (pc := 22) hJ dX11_guess_22 ?_
        refine v_iconst (pc := 23) hJ dX11_guess_23 ?_
        refine v_isub (pc := 24) hJ dX11_guess_24 ?_
        refine v_ist5 (pc := 25) hJ dX11_guess_25 (by decide) ?_
        rw [show (kn : Int) - 6 - 1 = (kn : Int) - 6 - 1 + ((0 : Nat) : Int) by omega]
        exact lp2 8 0 _ (by omega) (by omega) (by omega)
  show J 0 [some (.ref (ad 0)), none, none, none, none, none, none] [] (I, A)
  refine v_ald0 (pc := 0) hJ dX11_guess_0 ?_
  refine v_iconst (pc := 1) hJ dX11_guess_1 ?_
  refine mp0 (pc := 2) hJ dX11_guess_2 ?_
  refine v_bipush (pc := 5) hJ dX11_guess_5 (by decide) ?_
  refine v_ist1 (pc := 7) hJ dX11_guess_7 (by decide) ?_
  refine v_iconst (pc := 8) hJ dX11_guess_8 ?_
  refine v_ist2 (pc := 9) hJ dX11_guess_9 (by decide) ?_
  refine v_bipush (pc := 10) hJ dX11_guess_10 (by decide) ?_
  refine v_ist3 (pc := 12) hJ dX11_guess_12 (by decide) ?_
  exact lp 14 0 _ _ _ (by omega) (by omega)
