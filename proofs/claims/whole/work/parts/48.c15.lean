theorem ezN_m {v : Int → Int} (h : ∀ b : Int, 0 ≤ b → b ≤ 7 → v b = -1 ∨ (0 ≤ v b ∧ v b ≤ 7000)) : ∀ n : Nat, n ≤ 8 → ((ezN v n).1 = -1 → (ezN v n).2 = 1000000000) ∧ ((ezN v n).1 ≠ -1 → 0 ≤ (ezN v n).2 ∧ (ezN v n).2 ≤ 7000)
  | 0, _ => by simp [ezN]
  | n + 1, hn => by
    obtain ⟨h1, h2⟩ := ezN_m h n (by omega)
    have h4 := h n (by omega) (by omega)
    rw [ezN]
    split
    · exact ⟨h1, h2⟩
    · rename_i hx
      exact ⟨fun q => by dsimp only at q; omega, fun _ => by dsimp only; omega⟩
/-- the sums at the bars -/
def csV (I : Nat → Int) (A : Nat → Int → Int) (n : Nat) (v : Int → Int) : Prop := ∀ b : Int, (gdL (fun i => chdA I A i b) (I 43) → v b = mnN (rsG n (fun i => chdA I A i b) (I 43) 0) (chdA I A 0 b).length) ∧ (¬ gdL (fun i => chdA I A i b) (I 43) → v b = -1)
theorem csV_ex (I : Nat → Int) (A : Nat → Int → Int) (n : Nat) : ∃ v, csV I A n v := by
  refine ⟨fun b => haveI := Classical.propDecidable (gdL (fun i => chdA I A i b) (I 43)); if gdL (fun i => chdA I A i b) (I 43) then mnN (rsG n (fun i => chdA I A i b) (I 43) 0) (chdA I A 0 b).length else -1, fun b => ⟨fun h => ?_, fun h => ?_⟩⟩
  · exact if_pos h
  · exact if_neg h
theorem csV_in {I : Nat → Int} {A : Nat → Int → Int} {n : Nat} {v : Int → Int} (hn : (n : Int) = I 121) (hn6 : n ≤ 6) (hc : I 43 ≤ 60) (h : csV I A n v) (b : Int) : (v b = -1 ∧ ¬ gdL (fun i => chdA I A i b) (I 43)) ∨ (0 ≤ v b ∧ v b ≤ 7000 ∧ gdL (fun i => chdA I A i b) (I 43)) := by
  by_cases e : gdL (fun i => chdA I A i b) (I 43)
  · have e1 := (h b).1 e
    have := mnN_in (f := rsG n (fun i => chdA I A i b) (I 43) 0) (B := 7000) (by decide) (chdA I A 0 b).length (e.2 0 (by omega) e.1) (fun k hk => rsG_in hn6 hc (fun i2 a b2 => ⟨chd_ok hn hn6 i2 b, e.2 i2 a b2⟩) (by omega) e.1 hk)
    exact Or.inr ⟨by omega, by omega, e⟩
  · exact Or.inl ⟨(h b).2 e, e⟩
def ceaP (ad : Nat → Nat) (I : Nat → Int) (A : Nat → Int → Int) (n : Nat) (r : Int) (u : sC) : Prop := u.1 = ad ∧ cokH u.2.1 u.2.2 ∧ (∀ k, k ≠ 123 → k ≠ 125 → k ≠ 126 → k ≠ 127 → k ≠ 128 → k ≠ 162 → k ≠ 164 → u.2.1 k = I k) ∧ (∀ k, k ≠ 122 → k ≠ 124 → k ≠ 140 → k ≠ 141 → k ≠ 160 → k ≠ 161 → k ≠ 163 → u.2.2 k = A k) ∧ ∃ v, csV I A n v ∧ r = (ezN v 8).1 ∧ (r = -1 → u.2.1 164 = I 164 ∧ u.2.2 163 = A 163) ∧ (r ≠ -1 → (0 ≤ r ∧ r ≤ 7) ∧ gdL (fun i => chdA I A i r) (I 43) ∧ u.2.1 164 = r ∧ ∀ i : Nat, (i : Int) < I 43 → u.2.2 163 i = (jsG n (fun i => chdA I A i r) (I 43) i : Int))
set_option maxHeartbeats 4000000 in
set_option maxRecDepth 100000 in
theorem qX10_easiest {l : Launch} {D : va_G} {cI : ClassId} {O : OT} {adK adV : Nat → Nat} {tT : Nat} (hO : OGC O adK adV tT) {ad : Nat → Nat} {I : Nat → Int} {A : Nat → Int → Int} {n : Nat} (h3 : ad 3 = ad 59) (hC : cokC I A) (hN : cokN I A) (hH : cokH I A) (hn : (n : Int) = I 121) : CC l D cI O yX10_easiest cX10_easiest 5 (some .int) 14 [.ref (ad 19)] (ad, I, A) (pI fun r u2 => ceaP ad I A n r u2) := by
  refine ct_intro (own := RX10) (by decide) rfl hO.1.1 (Nat.le_of_ble_eq_true rfl) (by simp [Value.category]) (fun X J hJ => ?_)
  obtain ⟨⟨c1, c2⟩, c3⟩ := id hC
  have n1 := hN.1
  have hn6 : n ≤ 6 := by omega
  obtain ⟨v, hv⟩ := csV_ex I A n
  have hvi := csV_in hn hn6 c2 hv
  have hvr : ∀ b : Int, 0 ≤ b → b ≤ 7 → v b = -1 ∨ (0 ≤ v b ∧ v b ≤ 7000) := fun b _ _ => by rcases hvi b with q | q; exact Or.inl q.1; exact Or.inr ⟨q.1, q.2.1⟩
  have hez := ezN_in hvr
  have hem := ezN_m hvr
  have hSw : ∀ {I1 : Nat → Int} {A1 : Nat → Int → Int} {b : Int}, frL I A I1 A1 → cokH I1 A1 → (0 ≤ b ∧ b ≤ 7) → CC l D cI O yX6_leastSum cX6_leastSum 8 (some .int) 13 [.ref (ad 179), .ref (ad 59), .ref (ad 139), .ref (ad 159), .int (iZ b)] (ad, I1, A1) (pI fun r u2 => r = v b ∧ lsP ad I1 A1 n (fun i => chdA I A i b) r u2) := fun {I1 A1 b} h1 h2 h3 => by
    have := qX6_leastSum (l := l) (D := D) (cI := cI) hO (ad := ad) (I := I1) (A := A1) (bar := b) (n := n) (hs := fun i => chdA I A i b) (by rw [h1.1 121 (by decide) (by decide) (by decide) (by decide) (by decide) (by decide)]; exact hn) (fun i => (frL_hd h1 i b).symm) (frL_C h1 hC) (frL_N h1 hN) h2 h3
    intro sz
    refine ct_mono (this sz) ?_
    rintro w u2 ⟨r, rfl, hs⟩
    refine ⟨r, rfl, ?_, hs⟩
    obtain ⟨-, -, -, s4, s5⟩ := hs
    rw [h1.1 43 (by decide) (by decide) (by decide) (by decide) (by decide) (by decide)] at s4 s5
    by_cases e : gdL (fun i => chdA I A i b) (I 43)
    · rw [(s4 e).1.1, (hv b).1 e]
    · rw [s5 e, (hv b).2 e]
  have lp : ∀ (fu : Nat) (b : Nat) (I1 : Nat → Int) (A1 : Nat → Int → Int) (a4 : Option Value) (bs : Int), (b ≤ 8) → (frL I A I1 A1) → (cokH I1 A1) → (((ezN v b).1 = -1 ∧ bs = -1) ∨ ((ezN v b).1 ≠ -1 ∧ bs = (ezN v b).2)) → (9 - (b : Int)) < (fu : Int) → J 6 [some (.ref (ad 19)), some (.int (iZ ((ezN v b).1))), some (.int (iZ (bs))), some (.int (iZ ((b : Int)))), a4] [] (ad, I1, A1) := by
    intro fu
    induction fu with
    | zero => intro b  I1  A1  a4  bs hbn hf1 hH1 hbs hmu; exfalso; omega
    | succ fu ih =>
      intro b  I1  A1  a4  bs hbn hf1 hH1 hbs hmu
      refine v_ild3 (pc := 6) hJ dX10_easiest_6 ?_
      refine v_bipush (pc := 7) hJ dX10_easiest_7 (by decide) ?_
      have hzb := hez b hbn
      have hzm := hem b hbn
      have hbr : -1 ≤ bs ∧ bs ≤ 7000 := by rcases hbs with q | q <;> omega
      refine v_icmp_ge (tgt := 62) (pc := 9) hJ dX10_easiest_9 (by decide) (by omega) (by omega) (fun h9 => ?_) (fun h9 => ?_)
      · have eb : b = 8 := by omega
        subst eb
        refine v_ild1 (pc := 62) hJ dX10_easiest_62 ?_
        refine v_iconst (pc := 63) hJ dX10_easiest_63 ?_
        refine v_icmp_eq (tgt := 103) (pc := 64) hJ dX10_easiest_64 (by decide) (by omega) (by omega) (fun h64 => ?_) (fun h64 => ?_)
        · refine v_ild1 (pc := 103) hJ dX10_easiest_103 ?_
          refine v_iret (pc := 104) hJ dX10_easiest_104 ⟨_, rfl, ?_⟩
          exact ⟨rfl, hH1, fun k q1 q2 q3 q4 q5 q6 q7 => hf1.1 k q1 q2 q3 q4 q5 q6, fun k q1 q2 q3 q4 q5 q6 q7 => hf1.2 k q1 q2 q3 q4 q5 q6, v, hv, rfl, fun _ => ⟨hf1.1 164 (by decide) (by decide) (by decide) (by decide) (by decide) (by decide), hf1.2 163 (by decide) (by decide) (by decide) (by decide) (by decide) (by decide)⟩, fun q => absurd h64 q⟩
        · have hz1 : 0 ≤ (ezN v 8).1 ∧ (ezN v 8).1 ≤ 7 ∧ v (ezN v 8).1 ≠ -1 := by omega
          have hal : gdL (fun i => chdA I A i (ezN v 8).1) (I 43) := by rcases hvi (ezN v 8).1 with q | q; exact absurd q.1 hz1.2.2; exact q.2.2
          have hal0 := hal.1
          refine v_ald0 (pc := 67) hJ dX10_easiest_67 ?_
          refine cgX10_65 (pc := 68) hJ dX10_easiest_68 ?_
          refine v_ald0 (pc := 71) hJ dX10_easiest_71 ?_
          refine cgX10_23 (pc := 72) hJ dX10_easiest_72 ?_
          rw [h3]
          refine v_ald0 (pc := 75) hJ dX10_easiest_75 ?_
          refine cgX10_51 (pc := 76) hJ dX10_easiest_76 ?_
          refine v_ald0 (pc := 79) hJ dX10_easiest_79 ?_
          refine cgX10_58 (pc := 80) hJ dX10_easiest_80 ?_
          refine v_ild1 (pc := 83) hJ dX10_easiest_83 ?_
          refine v_cV4i (pc := 84) (q0 := 26) (ci := 3) hJ rfl rfl lkX10_202 (hSw hf1 hH1 (by omega)) (Nat.le_of_ble_eq_true rfl) (rOk_L (by decide) (by decide)) dX10_easiest_84 (fun r84 u84 g84 => ?_)
          obtain ⟨rfl, hs84⟩ := g84
          obtain ⟨ad2, I2, A2⟩ := u84
          obtain ⟨s1, s2, s3, s4, s5⟩ := hs84
          dsimp only at s1 s2 s3 s4 s5
          subst s1
          have hf2 := frL_tr hf1 s2
          rw [hf1.1 43 (by decide) (by decide) (by decide) (by decide) (by decide) (by decide)] at s4
          have s4x := s4 hal
          refine v_pop (pc := 87) hJ dX10_easiest_87 rfl ?_
          refine v_ald0 (pc := 88) hJ dX10_easiest_88 ?_
          refine cgX10_65 (pc := 89) hJ dX10_easiest_89 ?_
          refine v_ald0 (pc := 92) hJ dX10_easiest_92 ?_
          refine cgX10_23 (pc := 93) hJ dX10_easiest_93 ?_
          rw [h3]
          refine cgX10_206a (pc := 96) hJ dX10_easiest_96 ?_
          try simp only [up_s, up_n, up_up, ne_eq, Nat.reduceEqDiff, not_false_eq_true]
          rw [hf2.1 43 (by decide) (by decide) (by decide) (by decide) (by decide) (by decide)]
          refine v_ild1 (pc := 99) hJ dX10_easiest_99 ?_
          refine v_cV2v (pc := 100) (q0 := 26) (ci := 3) hJ rfl rfl lkX10_209 (qX6_keepAt (n := n) (hs := fun i => chdA I A i (ezN v 8).1) hO hn6 (by omega) (fun i a b => ⟨chd_ok hn hn6 i _, hal.2 i a (by omega)⟩) (fun i => chd_l6 hn hn6 i _) (s4x.2.1) (fun i h a b c => s4x.2.2 i h a (by omega) c)) (Nat.le_of_ble_eq_true rfl) (rOk_L (by decide) (by decide)) dX10_easiest_100 (fun u100 g100 => ?_)
          obtain ⟨P100, hP100, rfl⟩ := g100
          try simp only [up_s, up_n, up_up, ne_eq, Nat.reduceEqDiff, not_false_eq_true]
          refine v_ild1 (pc := 103) hJ dX10_easiest_103 ?_
          refine v_iret (pc := 104) hJ dX10_easiest_104 ⟨_, rfl, ?_⟩
          refine ⟨rfl, cokH_kp s3, fun k q1 q2 q3 q4 q5 q6 q7 => (up_n q7).trans (hf2.1 k q1 q2 q3 q4 q5 q6), fun k q1 q2 q3 q4 q5 q6 q7 => (up_n q7).trans (hf2.2 k q1 q2 q3 q4 q5 q6), v, hv, rfl, fun q => absurd q h64, fun _ => ⟨⟨hz1.1, hz1.2.1⟩, hal, by simp only [up_s, up_n, up_up, ne_eq, Nat.reduceEqDiff, not_false_eq_true], fun i hi => ?_⟩⟩
          simp only [up_s, up_n, up_up, ne_eq, Nat.reduceEqDiff, not_false_eq_true]
          exact hP100 i hi
      · have hvb := hvr (b : Int) (by omega) (by omega)
        refine v_ald0 (pc := 12) hJ dX10_easiest_12 ?_
        refine cgX10_65 (pc := 13) hJ dX10_easiest_13 ?_
        refine v_ald0 (pc := 16) hJ dX10_easiest_16 ?_
        refine cgX10_23 (pc := 17) hJ dX10_easiest_17 ?_
        rw [h3]
        refine v_ald0 (pc := 20) hJ dX10_easiest_20 ?_
        refine cgX10_51 (pc := 21) hJ dX10_easiest_21 ?_
        refine v_ald0 (pc := 24) hJ dX10_easiest_24 ?_
        refine cgX10_58 (pc := 25) hJ dX10_easiest_25 ?_
        refine v_ild3 (pc := 28) hJ dX10_easiest_28 ?_
        refine v_cV4i (pc := 29) (q0 := 26) (ci := 3) hJ rfl rfl lkX10_202 (hSw hf1 hH1 (by omega)) (Nat.le_of_ble_eq_true rfl) (rOk_L (by decide) (by decide)) dX10_easiest_29 (fun r29 u29 g29 => ?_)
        obtain ⟨rfl, hs29⟩ := g29
        obtain ⟨ad2, I2, A2⟩ := u29
        obtain ⟨s1, s2, s3, s4, s5⟩ := hs29
        dsimp only at s1 s2 s3 s4 s5
        subst s1
        have hf2 := frL_tr hf1 s2
        refine v_ist4 (pc := 32) hJ dX10_easiest_32 (by decide) ?_
        refine v_ild4 (pc := 34) hJ dX10_easiest_34 ?_
        refine v_iconst (pc := 36) hJ dX10_easiest_36 ?_
        refine v_icmp_eq (tgt := 56) (pc := 37) hJ dX10_easiest_37 (by decide) (by omega) (by omega) (fun h37 => ?_) (fun h37 => ?_)
        · refine v_inc3 (pc := 56) hJ dX10_easiest_56 (by decide) ?_
          refine v_goto (tgt := 6) (pc := 59) hJ dX10_easiest_59 (by decide) ?_
          have hk : ezN v (b + 1) = ezN v b := by rw [ezN, if_pos (by omega)]
          have hn2 := ih (b + 1) I2 A2 (some (.int (iZ (v b)))) bs (by omega) hf2 s3 (by rw [hk]; exact hbs) (by omega)
          rw [hk] at hn2
          exact hn2
        · refine v_ild1 (pc := 40) hJ dX10_easiest_40 ?_
          refine v_iconst (pc := 41) hJ dX10_easiest_41 ?_
          refine v_icmp_eq (tgt := 51) (pc := 42) hJ dX10_easiest_42 (by decide) (by omega) (by omega) (fun h42 => ?_) (fun h42 => ?_)
          · refine v_ild3 (pc := 51) hJ dX10_easiest_51 ?_
            refine v_ist1 (pc := 52) hJ dX10_easiest_52 (by decide) ?_
            refine v_ild4 (pc := 53) hJ dX10_easiest_53 ?_
            refine v_ist2 (pc := 55) hJ dX10_easiest_55 (by decide) ?_
            refine v_inc3 (pc := 56) hJ dX10_easiest_56 (by decide) ?_
            refine v_goto (tgt := 6) (pc := 59) hJ dX10_easiest_59 (by decide) ?_
            have hk : ezN v (b + 1) = ((b : Int), v b) := by rw [ezN, if_neg (by rcases hbs with q | q <;> omega)]
            have hn2 := ih (b + 1) I2 A2 (some (.int (iZ (v b)))) (v b) (by omega) hf2 s3 (by rw [hk]; exact Or.inr ⟨by dsimp only; omega, rfl⟩) (by omega)
            rw [hk] at hn2
            exact hn2
          · refine v_ild4 (pc := 45) hJ dX10_easiest_45 ?_
            refine v_ild2 (pc := 47) hJ dX10_easiest_47 ?_
            refine v_icmp_ge (tgt := 56) (pc := 48) hJ dX10_easiest_48 (by decide) (by omega) (by omega) (fun h48 => ?_) (fun h48 => ?_)
            · refine v_inc3 (pc := 56) hJ dX10_easiest_56 (by decide) ?_
              refine v_goto (tgt := 6) (pc := 59) hJ dX10_easiest_59 (by decide) ?_
              have hk : ezN v (b + 1) = ezN v b := by rw [ezN, if_pos (by omega)]
              have hn2 := ih (b + 1) I2 A2 (some (.int (iZ (v b)))) bs (by omega) hf2 s3 (by rw [hk]; exact hbs) (by omega)
              rw [hk] at hn2
              exact hn2
            · refine v_ild3 (pc := 51) hJ dX10_easiest_51 ?_
              refine v_ist1 (pc := 52) hJ dX10_easiest_52 (by decide) ?_
              refine v_ild4 (pc := 53) hJ dX10_easiest_53 ?_
              refine v_ist2 (pc := 55) hJ dX10_easiest_55 (by decide) ?_
              refine v_inc3 (pc := 56) hJ dX10_easiest_56 (by decide) ?_
              refine v_goto (tgt := 6) (pc := 59) hJ dX10_easiest_59 (by decide) ?_
              have hk : ezN v (b + 1) = ((b : Int), v b) := by rw [ezN, if_neg (by rcases hbs with q | q <;> omega)]
              have hn2 := ih (b + 1) I2 A2 (some (.int (iZ (v b)))) (v b) (by omega) hf2 s3 (by rw [hk]; exact Or.inr ⟨by dsimp only; omega, rfl⟩) (by omega)
              rw [hk] at hn2
              exact hn2
  show J 0 [some (.ref (ad 19)), none, none, none, none] [] (ad, I, A)
  refine v_iconst (pc := 0) hJ dX10_easiest_0 ?_
  refine v_ist1 (pc := 1) hJ dX10_easiest_1 (by decide) ?_
  refine v_iconst (pc := 2) hJ dX10_easiest_2 ?_
  refine v_ist2 (pc := 3) hJ dX10_easiest_3 (by decide) ?_
  refine v_iconst (pc := 4) hJ dX10_easiest_4 ?_
  refine v_ist3 (pc := 5) hJ dX10_easiest_5 (by decide) ?_
  exact lp 10 0 I A none (-1) (by omega) (frL_id I A) hH (Or.inl ⟨rfl, rfl⟩) (by omega)
set_option maxHeartbeats 4000000 in
set_option maxRecDepth 100000 in
theorem qX10_played {l : Launch} {D : va_G} {cI : ClassId} {O : OT} {adK adV : Nat → Nat} {tT : Nat} (hO : OGC O adK adV tT) {ad : Nat → Nat} {I : Nat → Int} {A : Nat → Int → Int} {i : Int} (h3 : ad 3 = ad 59) (hi : inR i) (h164 : inR (I 164)) (h43 : 0 ≤ I 43 ∧ I 43 ≤ 60) : CC l D cI O yX10_played cX10_played 2 (some .int) 3 [.ref (ad 19), .int (iZ i)] (ad, I, A) (pI fun r u2 => r = (if I 164 = -1 ∨ i = -1 then I 164 else if 0 ≤ i ∧ i < I 43 then A 163 i else -1) ∧ u2 = (ad, I, A)) := by
  refine ct_intro (own := RX10) (by decide) rfl hO.1.1 (Nat.le_of_ble_eq_true rfl) (by simp [Value.category]) (fun X J hJ => ?_)
  show J 0 [some (.ref (ad 19)), some (.int (iZ i))] [] (ad, I, A)
  refine v_ald0 (pc := 0) hJ dX10_played_0 ?_
  refine cgX10_65 (pc := 1) hJ dX10_played_1 ?_
  refine cgX10_213 (pc := 4) hJ dX10_played_4 ?_
  refine v_iconst (pc := 7) hJ dX10_played_7 ?_
  refine v_icmp_eq (tgt := 16) (pc := 8) hJ dX10_played_8 (by decide) (by omega) (by omega) (fun h8 => ?_) (fun h8 => ?_)
  · refine v_ald0 (pc := 16) hJ dX10_played_16 ?_
    refine cgX10_65 (pc := 17) hJ dX10_played_17 ?_
    refine cgX10_213 (pc := 20) hJ dX10_played_20 ?_
    refine v_iret (pc := 23) hJ dX10_played_23 ⟨_, rfl, ?_⟩
    exact ⟨by rw [if_pos (by omega)], rfl⟩
  · refine v_ild1 (pc := 11) hJ dX10_played_11 ?_
    refine v_iconst (pc := 12) hJ dX10_played_12 ?_
    refine v_icmp_ne (tgt := 24) (pc := 13) hJ dX10_played_13 (by decide) (by omega) (by omega) (fun h13 => ?_) (fun h13 => ?_)
    · refine v_ald0 (pc := 24) hJ dX10_played_24 ?_
      refine cgX10_23 (pc := 25) hJ dX10_played_25 ?_
      rw [h3]
      refine v_ild1 (pc := 28) hJ dX10_played_28 ?_
      refine v_cV1i (pc := 29) (q0 := 3) (ci := 5) hJ rfl rfl lkX10_120 (qX8_hasChord hO hi (by omega)) (Nat.le_of_ble_eq_true rfl) (rOk_L (by decide) (by decide)) dX10_played_29 (fun r29 u29 g29 => ?_)
      obtain ⟨g29a, g29b, rfl⟩ := g29
      refine v_if_eq (tgt := 47) (pc := 32) hJ dX10_played_32 (by decide) (by omega) (fun h32 => ?_) (fun h32 => ?_)
      · have hin : ¬ (0 ≤ i ∧ i < I 43) := fun q => by have := g29b.mpr q; omega
        refine v_iconst (pc := 47) hJ dX10_played_47 ?_
        refine v_iret (pc := 48) hJ dX10_played_48 ⟨_, rfl, ?_⟩
        exact ⟨by rw [if_neg (by omega), if_neg hin], rfl⟩
      · have hin := g29b.mp (by omega)
        refine v_ald0 (pc := 35) hJ dX10_played_35 ?_
        refine cgX10_65 (pc := 36) hJ dX10_played_36 ?_
        refine cgX10_216 (pc := 39) hJ dX10_played_39 ?_
        refine v_ild1 (pc := 42) hJ dX10_played_42 ?_
        refine ca163 (pc := 43) hJ (by omega) (by omega) dX10_played_43 ?_
        try simp only [up_s, up_n, up_up, ne_eq, Nat.reduceEqDiff, not_false_eq_true]
        refine v_goto (tgt := 48) (pc := 44) hJ dX10_played_44 (by decide) ?_
        refine v_iret (pc := 48) hJ dX10_played_48 ⟨_, rfl, ?_⟩
        exact ⟨by rw [if_neg (by omega), if_pos hin], rfl⟩
    · refine v_ald0 (pc := 16) hJ dX10_played_16 ?_
      refine cgX10_65 (pc := 17) hJ dX10_played_17 ?_
      refine cgX10_213 (pc := 20) hJ dX10_played_20 ?_
      refine v_iret (pc := 23) hJ dX10_played_23 ⟨_, rfl, ?_⟩
      exact ⟨by rw [if_pos (by omega)], rfl⟩
set_option maxHeartbeats 4000000 in
set_option maxRecDepth 100000 in
theorem qX10_guess {l : Launch} {D : va_G} {cI : ClassId} {O : OT} {adK adV : Nat → Nat} {tT : Nat} (hO : OGC O adK adV tT) {ad : Nat → Nat} {I : Nat → Int} {A : Nat → Int → Int}  (h3 : ad 3 = ad 59) (hC : cokC I A) : CC l D cI O yX10_guess cX10_guess 5 (some .int) 5 [.ref (ad 19)] (ad, I, A) (pI fun r u2 => r = (gsN (fun k => fitN (ctsA A) (scN k 7) (I 43).toNat) 13).1 ∧ u2 = (ad, I, A)) := by
  refine ct_intro (own := RX10) (by decide) rfl hO.1.1 (Nat.le_of_ble_eq_true rfl) (by simp [Value.category]) (fun X J hJ => ?_)
  obtain ⟨⟨c1, c2⟩, c3⟩ := id hC
  obtain ⟨cnt, hcnt⟩ : ∃ z : Int → Int, z = fun k => fitN (ctsA A) (scN k 7) (I 43).toNat := ⟨_, rfl⟩
  have hcr : ∀ k, 0 ≤ cnt k ∧ cnt k ≤ 60 := fun k => by rw [hcnt]; have := fitN_in (ctsA A) (scN k 7) (I 43).toNat; dsimp only; omega
  have hgr := gsN_in hcr
  rw [← hcnt] at hJ
  have lp : ∀ (fu : Nat) (b : Nat) (a4 : Option Value), (b ≤ 13) → (14 - (b : Int)) < (fu : Int) → J 8 [some (.ref (ad 19)), some (.int (iZ ((gsN cnt b).1))), some (.int (iZ ((gsN cnt b).2))), some (.int (iZ ((b : Int) - 6))), a4] [] (ad, I, A) := by
    intro fu
    induction fu with
    | zero => intro b  a4 hb hmu; exfalso; omega
    | succ fu ih =>
      intro b  a4 hb hmu
      refine v_ild3 (pc := 8) hJ dX10_guess_8 ?_
      refine v_bipush (pc := 9) hJ dX10_guess_9 (by decide) ?_
      refine v_icmp_gt (tgt := 56) (pc := 11) hJ dX10_guess_11 (by decide) (by omega) (by omega) (fun h11 => ?_) (fun h11 => ?_)
      · refine v_ild1 (pc := 56) hJ dX10_guess_56 ?_
        refine v_iret (pc := 57) hJ dX10_guess_57 ⟨_, rfl, ?_⟩
        have eb : b = 13 := by omega
        subst eb
        exact ⟨rfl, rfl⟩
      · refine v_ald0 (pc := 14) hJ dX10_guess_14 ?_
        refine cgX10_23 (pc := 15) hJ dX10_guess_15 ?_
        rw [h3]
        refine v_ild3 (pc := 18) hJ dX10_guess_18 ?_
        refine v_cS1i (pc := 19) hJ lkX10_217 (qX4_scaleOf hO (by omega)) (Nat.le_of_ble_eq_true rfl) (rOk_L (by decide) (by decide)) dX10_guess_19 (fun r19 u19 g19 => ?_)
        obtain ⟨rfl, rfl⟩ := g19
        refine v_cV1i (pc := 22) (q0 := 3) (ci := 5) hJ rfl rfl lkX10_222 (qX8_chordsWithin hO hC) (Nat.le_of_ble_eq_true rfl) (rOk_L (by decide) (by decide)) dX10_guess_22 (fun r22 u22 g22 => ?_)
        obtain ⟨rfl, rfl⟩ := g22
        try simp only [up_s, up_n, up_up, ne_eq, Nat.reduceEqDiff, not_false_eq_true]
        rw [show fitN (ctsA A) (scN ((b : Int) - 6) 7) (I 43).toNat = cnt ((b : Int) - 6) by rw [hcnt]]
        have hc1 := hcr ((b : Int) - 6)
        have hg1 := hgr b
        refine v_ist4 (pc := 25) hJ dX10_guess_25 (by decide) ?_
        refine v_ild4 (pc := 27) hJ dX10_guess_27 ?_
        refine v_ild2 (pc := 29) hJ dX10_guess_29 ?_
        refine v_icmp_le (tgt := 41) (pc := 30) hJ dX10_guess_30 (by decide) (by omega) (by omega) (fun h30 => ?_) (fun h30 => ?_)
        · refine v_ild4 (pc := 41) hJ dX10_guess_41 ?_
          refine v_ild2 (pc := 43) hJ dX10_guess_43 ?_
          refine v_icmp_ne (tgt := 50) (pc := 44) hJ dX10_guess_44 (by decide) (by omega) (by omega) (fun h44 => ?_) (fun h44 => ?_)
          · refine v_inc3 (pc := 50) hJ dX10_guess_50 (by decide) ?_
            refine v_goto (tgt := 8) (pc := 53) hJ dX10_guess_53 (by decide) ?_
            have hn2 := ih (b + 1) (some (.int (iZ (cnt ((b : Int) - 6))))) (by omega) (by omega)
            rw [show ((b + 1 : Nat) : Int) - 6 = (b : Int) - 6 + 1 by omega] at hn2
            rw [gsN, if_neg (by omega), if_neg (by omega)] at hn2
            exact hn2
          · refine v_bipush (pc := 47) hJ dX10_guess_47 (by decide) ?_
            refine v_ist1 (pc := 49) hJ dX10_guess_49 (by decide) ?_
            refine v_inc3 (pc := 50) hJ dX10_guess_50 (by decide) ?_
            refine v_goto (tgt := 8) (pc := 53) hJ dX10_guess_53 (by decide) ?_
            have hn2 := ih (b + 1) (some (.int (iZ (cnt ((b : Int) - 6))))) (by omega) (by omega)
            rw [show ((b + 1 : Nat) : Int) - 6 = (b : Int) - 6 + 1 by omega] at hn2
            rw [gsN, if_neg (by omega), if_pos (by omega)] at hn2
            exact hn2
        · refine v_ild4 (pc := 33) hJ dX10_guess_33 ?_
          refine v_ist2 (pc := 35) hJ dX10_guess_35 (by decide) ?_
          refine v_ild3 (pc := 36) hJ dX10_guess_36 ?_
          refine v_ist1 (pc := 37) hJ dX10_guess_37 (by decide) ?_
          refine v_goto (tgt := 50) (pc := 38) hJ dX10_guess_38 (by decide) ?_
          refine v_inc3 (pc := 50) hJ dX10_guess_50 (by decide) ?_
          refine v_goto (tgt := 8) (pc := 53) hJ dX10_guess_53 (by decide) ?_
          have hn2 := ih (b + 1) (some (.int (iZ (cnt ((b : Int) - 6))))) (by omega) (by omega)
          rw [show ((b + 1 : Nat) : Int) - 6 = (b : Int) - 6 + 1 by omega] at hn2
          rw [gsN, if_pos (by omega)] at hn2
          exact hn2
  show J 0 [some (.ref (ad 19)), none, none, none, none] [] (ad, I, A)
  refine v_bipush (pc := 0) hJ dX10_guess_0 (by decide) ?_
  refine v_ist1 (pc := 2) hJ dX10_guess_2 (by decide) ?_
  refine v_iconst (pc := 3) hJ dX10_guess_3 ?_
  refine v_ist2 (pc := 4) hJ dX10_guess_4 (by decide) ?_
  refine v_bipush (pc := 5) hJ dX10_guess_5 (by decide) ?_
  refine v_ist3 (pc := 7) hJ dX10_guess_7 (by decide) ?_
  exact lp 15 0 none (by omega) (by omega)
set_option maxHeartbeats 4000000 in
set_option maxRecDepth 100000 in
theorem qX10_count {l : Launch} {D : va_G} {cI : ClassId} {O : OT} {adK adV : Nat → Nat} {tT : Nat} (hO : OGC O adK adV tT) {ad : Nat → Nat} {I : Nat → Int} {A : Nat → Int → Int} {w : Int} (h3 : ad 3 = ad 59) (hw : 0 ≤ w ∧ w ≤ 5) (h81 : 0 ≤ I 81 ∧ I 81 < 1000000) : CC l D cI O yX10_count cX10_count 2 (some .int) 3 [.ref (ad 19), .int (iZ w)] (ad, I, A) (pI fun r u2 => r = (if w = 0 then I 43 else if w = 1 then I 42 else if w = 2 then I 7 else if w = 3 then I 121 else if w = 4 then (if I 81 < 4000 then I 81 else 4000) else I 1) ∧ u2 = (ad, I, A)) := by
  refine ct_intro (own := RX10) (by decide) rfl hO.1.1 (Nat.le_of_ble_eq_true rfl) (by simp [Value.category]) (fun X J hJ => ?_)
  show J 0 [some (.ref (ad 19)), some (.int (iZ w))] [] (ad, I, A)
  refine v_ild1 (pc := 0) hJ dX10_count_0 ?_
  by_cases hsw1 : w < 0 ∨ 5 < w
  · refine v_tableOut (tgt := 82) (pc := 1) hJ dX10_count_1 (by omega) hsw1 (by decide) ?_
    exfalso; omega
  · rcases (show w = 0 ∨ w = 1 ∨ w = 2 ∨ w = 3 ∨ w = 4 ∨ w = 5 by omega) with rfl | rfl | rfl | rfl | rfl | rfl
    · refine v_tableIn (off := 39) (tgt := 40) (pc := 1) hJ dX10_count_1 (by omega) (by decide) (by decide) rfl (by decide) ?_
      refine v_ald0 (pc := 40) hJ dX10_count_40 ?_
      refine cgX10_23 (pc := 41) hJ dX10_count_41 ?_
      rw [h3]
      refine cgX10_206a (pc := 44) hJ dX10_count_44 ?_
      refine v_iret (pc := 47) hJ dX10_count_47 ⟨_, rfl, ?_⟩
      exact ⟨by simp, rfl⟩
    · refine v_tableIn (off := 47) (tgt := 48) (pc := 1) hJ dX10_count_1 (by omega) (by decide) (by decide) rfl (by decide) ?_
      refine v_ald0 (pc := 48) hJ dX10_count_48 ?_
      refine cgX10_23 (pc := 49) hJ dX10_count_49 ?_
      rw [h3]
      refine cgX10_225a (pc := 52) hJ dX10_count_52 ?_
      refine v_iret (pc := 55) hJ dX10_count_55 ⟨_, rfl, ?_⟩
      exact ⟨by simp, rfl⟩
    · refine v_tableIn (off := 55) (tgt := 56) (pc := 1) hJ dX10_count_1 (by omega) (by decide) (by decide) rfl (by decide) ?_
      refine v_ald0 (pc := 56) hJ dX10_count_56 ?_
      refine cgX10_106 (pc := 57) hJ dX10_count_57 ?_
      refine v_iret (pc := 60) hJ dX10_count_60 ⟨_, rfl, ?_⟩
      exact ⟨by simp, rfl⟩
    · refine v_tableIn (off := 60) (tgt := 61) (pc := 1) hJ dX10_count_1 (by omega) (by decide) (by decide) rfl (by decide) ?_
      refine v_ald0 (pc := 61) hJ dX10_count_61 ?_
      refine cgX10_51 (pc := 62) hJ dX10_count_62 ?_
      refine cgX10_166 (pc := 65) hJ dX10_count_65 ?_
      refine v_iret (pc := 68) hJ dX10_count_68 ⟨_, rfl, ?_⟩
      exact ⟨by simp, rfl⟩
    · refine v_tableIn (off := 68) (tgt := 69) (pc := 1) hJ dX10_count_1 (by omega) (by decide) (by decide) rfl (by decide) ?_
      refine v_ald0 (pc := 69) hJ dX10_count_69 ?_
      refine cgX10_37 (pc := 70) hJ dX10_count_70 ?_
      refine v_cV0i (pc := 73) (q0 := 15) (ci := 2) hJ rfl rfl lkX10_155 (qX5_keptLength hO (by omega)) (Nat.le_of_ble_eq_true rfl) (rOk_L (by decide) (by decide)) dX10_count_73 (fun r73 u73 g73 => ?_)
      obtain ⟨rfl, rfl⟩ := g73
      refine v_iret (pc := 76) hJ dX10_count_76 ⟨_, rfl, ?_⟩
      exact ⟨by simp, rfl⟩
    · refine v_tableIn (off := 76) (tgt := 77) (pc := 1) hJ dX10_count_1 (by omega) (by decide) (by decide) rfl (by decide) ?_
      refine v_ald0 (pc := 77) hJ dX10_count_77 ?_
      refine cgX10_69 (pc := 78) hJ dX10_count_78 ?_
      refine v_iret (pc := 81) hJ dX10_count_81 ⟨_, rfl, ?_⟩
      exact ⟨by simp, rfl⟩
/-- the song and the spare one change their names -/
def swK (k : Nat) : Nat := if 40 ≤ k ∧ k < 60 then k + 20 else if 60 ≤ k ∧ k < 80 then k - 20 else k
theorem v_swap {l : Launch} {R : Room} {cc : ByteArray} {nL : Nat} {own : String} {rt : Option FieldType} {D : va_G} {cI : ClassId} {ad : Nat → Nat} {O : OT} {post : Option Value → sC → Prop} {X : CtxT} {J : KT sC} {pc : Nat} {lv : List (Option Value)} {st : List Value} {I : Nat → Int} {A : Nat → Int → Int} (hJ : Snd l R cc nL own rt D [(cI, .int)] O (wC cI) post X J) (k : J pc lv st (fun i => ad (swK i), fun i => I (swK i), fun i => A (swK i))) : J pc lv st (ad, I, A) := by
  obtain ⟨p, e, s, m, args, below, meth, c, B, Q⟩ := X
  obtain ⟨hx, hb, hml, hown, hts, hr, hlk, hK, hA, hOL, hO, hQ, hW⟩ := hJ
  refine (hW _ _ _ _).mpr (fun H locs ls hP hD hS hl => ?_)
  exact (hW _ _ _ _).mp k H locs ls (hP.sub [0, 1, 2, 9, 10, 11, 12, 13, 14, 3, 4, 5, 6, 7, 8, 15, 16, 17, 18, 19, 20, 21, 22, 23, 24, 25, 26, 27, 28, 29] rfl) (hD.sub [0, 1, 2, 9, 10, 11, 12, 13, 14, 3, 4, 5, 6, 7, 8, 15, 16, 17, 18, 19, 20, 21, 22, 23, 24, 25, 26, 27, 28, 29] (by decide) rfl) hS hl
def sngC (ad : Nat → Nat) (I : Nat → Int) (A : Nat → Int → Int) (res : (Int × Int) ⊕ PS) (r : Int) (u : sC) : Prop := (u.1 19 = ad 19 ∧ u.1 3 = u.1 59 ∧ u.1 4 = u.1 79) ∧ u.2.1 1 = 0 ∧ match res with
  | .inl (k, p) => r = k ∧ u.2.1 5 = k ∧ u.2.1 6 = p ∧ (∀ i, i ≠ 1 → i ≠ 5 → i ≠ 6 → i ≠ 21 → i ≠ 22 → i ≠ 23 → i ≠ 24 → i ≠ 61 → i ≠ 62 → i ≠ 63 → u.2.1 i = I i) ∧ (∀ i, i ≠ 60 → i ≠ 64 → i ≠ 65 → i ≠ 66 → i ≠ 67 → u.2.2 i = A i)
  | .inr ((_, ch, ln, sz), R, K, B, L, S) => r = 0 ∧ u.2.1 5 = 0 ∧ u.2.1 6 = -1 ∧ u.2.1 43 = ch ∧ u.2.1 42 = ln ∧ u.2.1 41 = sz ∧ u.2.1 164 = -1 ∧ (∀ j, 0 ≤ j → j < 480 → u.2.2 141 j = -1) ∧ (∀ j, 0 ≤ j → j < sz → u.2.2 40 j = dI (S j)) ∧ (∀ j, 0 ≤ j → j < ch → u.2.2 44 j = R j ∧ u.2.2 45 j = K j ∧ u.2.2 46 j = B j ∧ u.2.2 47 j = L j) ∧ u.2.1 7 = I 7 ∧ u.2.1 81 = I 81 ∧ u.2.1 121 = I 121 ∧ u.2.2 80 = A 80 ∧ u.2.2 120 = A 120 ∧ u.2.2 0 = A 0
set_option maxHeartbeats 4000000 in
set_option maxRecDepth 100000 in
theorem qX10_song {l : Launch} {D : va_G} {cI : ClassId} {O : OT} {adK adV : Nat → Nat} {tT : Nat} (hO : OGC O adK adV tT) {ad : Nat → Nat} {I : Nat → Int} {A : Nat → Int → Int} {n : Int} {R K B L S : Int → Int} (h3 : ad 3 = ad 59) (h4 : ad 4 = ad 79) (hn : 0 ≤ n ∧ n ≤ I 1) (h1 : I 1 ≤ 1200) (hT : ∀ j, 0 ≤ j → j < n → 0 ≤ A 0 j ∧ A 0 j ≤ 255) : CC l D cI O yX10_song cX10_song 3 (some .int) 10 [.ref (ad 19), .int (iZ n)] (ad, I, A) (pI fun r u2 => sngC ad I A (prun (bA (A 0) n) n 1201 ((0, 0, 1, 0), R, K, B, L, S)) r u2) := by
  refine ct_intro (own := RX10) (by decide) rfl hO.1.1 (Nat.le_of_ble_eq_true rfl) (by simp [Value.category]) (fun X J hJ => ?_)
  obtain ⟨res, hres⟩ : ∃ z, z = prun (bA (A 0) n) n 1201 ((0, 0, 1, 0), R, K, B, L, S) := ⟨_, rfl⟩
  rw [← hres] at hJ
  show J 0 [some (.ref (ad 19)), some (.int (iZ n)), none] [] (ad, I, A)
  refine v_ild1 (pc := 0) hJ dX10_song_0 ?_
  refine v_if_lt (tgt := 12) (pc := 1) hJ dX10_song_1 (by decide) (by omega) (fun h1 => ?_) (fun h1 => ?_)
  · exfalso; omega
  · refine v_ild1 (pc := 4) hJ dX10_song_4 ?_
    refine v_ald0 (pc := 5) hJ dX10_song_5 ?_
    refine cgX10_69 (pc := 6) hJ dX10_song_6 ?_
    refine v_icmp_le (tgt := 22) (pc := 9) hJ dX10_song_9 (by decide) (by omega) (by omega) (fun h9 => ?_) (fun h9 => ?_)
    · refine v_ald0 (pc := 22) hJ dX10_song_22 ?_
      refine cgX10_16 (pc := 23) hJ dX10_song_23 ?_
      refine v_ald0 (pc := 26) hJ dX10_song_26 ?_
      refine cgX10_27 (pc := 27) hJ dX10_song_27 ?_
      rw [h4]
      refine v_ald0 (pc := 30) hJ dX10_song_30 ?_
      refine cgX10_9 (pc := 31) hJ dX10_song_31 ?_
      refine v_ild1 (pc := 34) hJ dX10_song_34 ?_
      refine v_cV3v (pc := 35) (q0 := 2) (ci := 4) hJ rfl rfl lkX10_83 (qX7_readInto (R := R) (K := K) (B := B) (L := L) (S := S) hO (by omega) hT) (Nat.le_of_ble_eq_true rfl) (rOk_L (by decide) (by decide)) dX10_song_35 (fun u35 g35 => ?_)
      rw [← hres] at g35
      obtain ⟨ad2, I2, A2⟩ := u35
      obtain ⟨y1, y2, y3, y4⟩ := g35
      dsimp only at y1 y2 y3 y4
      have a19 : ad 19 = ad2 19 := by rw [y1, up_n (by decide)]
      have h3 : ad2 3 = ad2 59 := by rw [y1, up_n (by decide), up_n (by decide)]; exact h3
      have h4 : ad2 4 = ad2 79 := by rw [y1, up_n (by decide), up_n (by decide)]; exact h4
      rw [a19]
      refine v_ald0 (pc := 38) hJ dX10_song_38 ?_
      refine v_iconst (pc := 39) hJ dX10_song_39 ?_
      refine cpX10_69 (pc := 40) hJ dX10_song_40 ?_
      refine v_ald0 (pc := 43) hJ dX10_song_43 ?_
      refine v_ald0 (pc := 44) hJ dX10_song_44 ?_
      refine cgX10_16 (pc := 45) hJ dX10_song_45 ?_
      refine cgX10_87 (pc := 48) hJ dX10_song_48 ?_
      try simp only [up_s, up_n, up_up, ne_eq, Nat.reduceEqDiff, not_false_eq_true]
      refine cpX10_90 (pc := 51) hJ dX10_song_51 ?_
      refine v_ald0 (pc := 54) hJ dX10_song_54 ?_
      refine v_ald0 (pc := 55) hJ dX10_song_55 ?_
      refine cgX10_16 (pc := 56) hJ dX10_song_56 ?_
      refine cgX10_93 (pc := 59) hJ dX10_song_59 ?_
      try simp only [up_s, up_n, up_up, ne_eq, Nat.reduceEqDiff, not_false_eq_true]
      refine cpX10_30 (pc := 62) hJ dX10_song_62 ?_
      refine v_ald0 (pc := 65) hJ dX10_song_65 ?_
      refine cgX10_90 (pc := 66) hJ dX10_song_66 ?_
      try simp only [up_s, up_n, up_up, ne_eq, Nat.reduceEqDiff, not_false_eq_true]
      refine v_if_ne (tgt := 94) (pc := 69) hJ dX10_song_69 (by decide) (by rcases res with ⟨k, p⟩ | s2; (have := y4.1; have := y4.2.1; dsimp only at *; omega); (have := y4.1; dsimp only at *; omega)) (fun h69 => ?_) (fun h69 => ?_)
      · have hrs : ∃ k p, res = .inl (k, p) := by
          rcases res with ⟨k, p⟩ | s2
          · exact ⟨k, p, rfl⟩
          · exfalso; have := y4.1; dsimp only at *; omega
        obtain ⟨k, p, hrs⟩ := hrs
        rw [hrs] at y4 hJ
        obtain ⟨z1, z2, z3⟩ := y4
        refine v_ald0 (pc := 94) hJ dX10_song_94 ?_
        refine cgX10_90 (pc := 95) hJ dX10_song_95 ?_
        try simp only [up_s, up_n, up_up, ne_eq, Nat.reduceEqDiff, not_false_eq_true]
        refine v_iret (pc := 98) hJ dX10_song_98 ⟨_, rfl, ?_⟩
        refine ⟨⟨a19.symm, h3, h4⟩, by simp only [up_s, up_n, up_up, ne_eq, Nat.reduceEqDiff, not_false_eq_true], ?_⟩
        refine ⟨?_, ?_, ?_, fun i q1 q2 q3 q4 q5 q6 q7 q8 q9 q10 => ?_, y3⟩
        · (try simp only [up_s, up_n, up_up, ne_eq, Nat.reduceEqDiff, not_false_eq_true]); exact z2
        · (try simp only [up_s, up_n, up_up, ne_eq, Nat.reduceEqDiff, not_false_eq_true]); exact z2
        · (try simp only [up_s, up_n, up_up, ne_eq, Nat.reduceEqDiff, not_false_eq_true]); exact z3
        · simp only [up_n, q1, q2, q3, ne_eq, not_false_eq_true]
          exact y2 i q4 q5 q6 q7 q8 q9 q10
      · have hrs : ∃ s2, res = .inr s2 := by
          rcases res with ⟨k, p⟩ | s2
          · exfalso; have := y4.1; have := y4.2.1; dsimp only at *; omega
          · exact ⟨s2, rfl⟩
        obtain ⟨s2, hrs⟩ := hrs
        rw [hrs] at y4 hJ
        obtain ⟨⟨pa, ch, ln, sz⟩, R2, K2, B2, L2, S2⟩ := s2
        obtain ⟨z1, z2, z3, z4, z5, z6, z7, z8⟩ := y4
        refine v_ald0 (pc := 72) hJ dX10_song_72 ?_
        refine cgX10_23 (pc := 73) hJ dX10_song_73 ?_
        rw [h3]
        refine v_ast2 (pc := 76) hJ dX10_song_76 (by decide) ?_
        refine v_ald0 (pc := 77) hJ dX10_song_77 ?_
        refine v_ald0 (pc := 78) hJ dX10_song_78 ?_
        refine cgX10_27 (pc := 79) hJ dX10_song_79 ?_
        rw [h4]
        refine cpX10_23 (pc := 82) hJ dX10_song_82 ?_
        obtain ⟨ad3, had3⟩ : ∃ z, z = va_up ad2 3 (ad2 79) := ⟨_, rfl⟩
        rw [← had3]
        rw [show ad2 19 = ad3 19 by rw [had3, up_n (by decide)], show ad2 59 = ad3 59 by rw [had3, up_n (by decide)]]
        refine v_ald0 (pc := 85) hJ dX10_song_85 ?_
        refine v_ald2 (pc := 86) hJ dX10_song_86 ?_
        refine cpX10_27 (pc := 87) hJ dX10_song_87 ?_
        obtain ⟨ad4, had4⟩ : ∃ z, z = va_up ad3 4 (ad3 59) := ⟨_, rfl⟩
        rw [← had4]
        rw [show ad3 19 = ad4 19 by rw [had4, up_n (by decide)]]
        refine v_ald0 (pc := 90) hJ dX10_song_90 ?_
        refine v_cV0v (pc := 91) (q0 := 0) (ci := 7) hJ rfl rfl lkX10_96 (qX10_forgetHands hO) (Nat.le_of_ble_eq_true rfl) (rOk_L (by decide) (by decide)) dX10_song_91 (fun u91 g91 => ?_)
        obtain ⟨F91, hF91, rfl⟩ := g91
        refine v_swap hJ ?_
        have k19 : ad4 19 = ad 19 := by rw [had4, up_n (by decide), had3, up_n (by decide), ← a19]
        have k3 : ad4 3 = ad2 79 := by rw [had4, up_n (by decide), had3, up_s]
        have k4 : ad4 4 = ad2 59 := by rw [had4, up_s, had3, up_n (by decide)]
        have k59 : ad4 59 = ad2 59 := by rw [had4, up_n (by decide), had3, up_n (by decide)]
        have k79 : ad4 79 = ad2 79 := by rw [had4, up_n (by decide), had3, up_n (by decide)]
        obtain ⟨ad5, had5⟩ : ∃ z, z = fun i => ad4 (swK i) := ⟨_, rfl⟩
        obtain ⟨I5, hI5⟩ : ∃ z : Nat → Int, z = fun i => va_up (va_up (va_up (va_up I2 1 0) 5 (I2 23)) 6 (I2 24)) 164 (-1) (swK i) := ⟨_, rfl⟩
        obtain ⟨A5, hA5⟩ : ∃ z : Nat → Int → Int, z = fun i => va_up A2 141 F91 (swK i) := ⟨_, rfl⟩
        have hfin : sngC ad I A (.inr ((pa, ch, ln, sz), R2, K2, B2, L2, S2)) (I5 5) (ad5, I5, A5) := by
          have e1 : ∀ k, swK k ≠ 1 → swK k ≠ 5 → swK k ≠ 6 → swK k ≠ 164 → I5 k = I2 (swK k) := fun k q1 q2 q3 q4 => by rw [hI5]; simp only [up_n, q1, q2, q3, q4, ne_eq, not_false_eq_true]
          have e2 : ∀ k, swK k ≠ 141 → A5 k = A2 (swK k) := fun k q1 => by rw [hA5]; simp only [up_n, q1, ne_eq, not_false_eq_true]
          have e5 : I5 5 = I2 23 := by rw [hI5]; rfl
          refine ⟨⟨?_, ?_, ?_⟩, ?_, ?_⟩
          · rw [had5]; exact k19
          · rw [had5]; show ad4 3 = ad4 79; rw [k3, k79]
          · rw [had5]; show ad4 4 = ad4 59; rw [k4, k59]
          · rw [hI5]; rfl
          refine ⟨by rw [e5]; exact z1, by dsimp only; rw [e5]; exact z1, ?_, ?_, ?_, ?_, ?_, fun j j0 j1 => ?_, fun j j0 j1 => ?_, fun j j0 j1 => ?_, ?_, ?_, ?_, ?_, ?_, ?_⟩
          · show I5 6 = _; rw [hI5]; exact z2
          · show I5 43 = _; rw [e1 43 (by decide) (by decide) (by decide) (by decide)]; exact z4
          · show I5 42 = _; rw [e1 42 (by decide) (by decide) (by decide) (by decide)]; exact z5
          · show I5 41 = _; rw [e1 41 (by decide) (by decide) (by decide) (by decide)]; exact z6
          · show I5 164 = _; rw [hI5]; rfl
          · show A5 141 j = _; rw [hA5]; exact hF91 j j0 j1
          · show A5 40 j = _; rw [e2 40 (by decide)]; exact z8 j j0 j1
          · show A5 44 j = _ ∧ A5 45 j = _ ∧ A5 46 j = _ ∧ A5 47 j = _; rw [e2 44 (by decide), e2 45 (by decide), e2 46 (by decide), e2 47 (by decide)]; exact z7 j j0 j1
          · show I5 7 = _; rw [e1 7 (by decide) (by decide) (by decide) (by decide)]; exact y2 7 (by decide) (by decide) (by decide) (by decide) (by decide) (by decide) (by decide)
          · show I5 81 = _; rw [e1 81 (by decide) (by decide) (by decide) (by decide)]; exact y2 81 (by decide) (by decide) (by decide) (by decide) (by decide) (by decide) (by decide)
          · show I5 121 = _; rw [e1 121 (by decide) (by decide) (by decide) (by decide)]; exact y2 121 (by decide) (by decide) (by decide) (by decide) (by decide) (by decide) (by decide)
          · show A5 80 = _; rw [e2 80 (by decide)]; exact y3 80 (by decide) (by decide) (by decide) (by decide) (by decide)
          · show A5 120 = _; rw [e2 120 (by decide)]; exact y3 120 (by decide) (by decide) (by decide) (by decide) (by decide)
          · show A5 0 = _; rw [e2 0 (by decide)]; exact y3 0 (by decide) (by decide) (by decide) (by decide) (by decide)
        rw [← had5, ← hI5, ← hA5, show ad4 19 = ad5 19 by rw [had5]; rfl]
        try simp only [up_s, up_n, up_up, ne_eq, Nat.reduceEqDiff, not_false_eq_true]
        refine v_ald0 (pc := 94) hJ dX10_song_94 ?_
        refine cgX10_90 (pc := 95) hJ dX10_song_95 ?_
        try simp only [up_s, up_n, up_up, ne_eq, Nat.reduceEqDiff, not_false_eq_true]
        refine v_iret (pc := 98) hJ dX10_song_98 ⟨_, rfl, ?_⟩
        exact hfin
    · exfalso; omega
