/-- every chord has a hand -/
def gdL (hs : Int → HS) (c : Int) : Prop := 0 < c ∧ ∀ i : Int, 0 ≤ i → i < c → 0 < (hs i).length
/-- what a sum leaves as it was -/
def frL (I : Nat → Int) (A : Nat → Int → Int) (I1 : Nat → Int) (A1 : Nat → Int → Int) : Prop := (∀ k, k ≠ 123 → k ≠ 125 → k ≠ 126 → k ≠ 127 → k ≠ 128 → k ≠ 162 → I1 k = I k) ∧ (∀ k, k ≠ 122 → k ≠ 124 → k ≠ 140 → k ≠ 141 → k ≠ 160 → k ≠ 161 → A1 k = A k)
theorem frL_id (I : Nat → Int) (A : Nat → Int → Int) : frL I A I A := ⟨fun _ _ _ _ _ _ _ => rfl, fun _ _ _ _ _ _ _ => rfl⟩
theorem frL_tr {I I1 I2 : Nat → Int} {A A1 A2 : Nat → Int → Int} (h : frL I A I1 A1) (h2 : frL I1 A1 I2 A2) : frL I A I2 A2 := ⟨fun k q1 q2 q3 q4 q5 q6 => (h2.1 k q1 q2 q3 q4 q5 q6).trans (h.1 k q1 q2 q3 q4 q5 q6), fun k q1 q2 q3 q4 q5 q6 => (h2.2 k q1 q2 q3 q4 q5 q6).trans (h.2 k q1 q2 q3 q4 q5 q6)⟩
theorem frL_P {I I1 : Nat → Int} {A A1 : Nat → Int → Int} (h : frP I A I1 A1) : frL I A I1 A1 := ⟨fun k q1 q2 q3 q4 q5 q6 => h.1 k q1 q2 q3 q4 q5, fun k q1 q2 q3 q4 q5 q6 => h.2.1 k q1 q2 q3 q4⟩
theorem chd_cg {I I1 : Nat → Int} {A A1 : Nat → Int → Int} (h1 : I1 121 = I 121) (h2 : A1 120 = A 120) (h3 : A1 44 = A 44) (h4 : A1 45 = A 45) (h5 : A1 46 = A 46) (i bar : Int) : chdA I1 A1 i bar = chdA I A i bar := by
  unfold chdA ctsA
  rw [h1, h2, h3, h4, h5]
theorem frL_hd {I I1 : Nat → Int} {A A1 : Nat → Int → Int} (h : frL I A I1 A1) (i bar : Int) : chdA I1 A1 i bar = chdA I A i bar := chd_cg (h.1 121 (by decide) (by decide) (by decide) (by decide) (by decide) (by decide)) (h.2 120 (by decide) (by decide) (by decide) (by decide) (by decide) (by decide)) (h.2 44 (by decide) (by decide) (by decide) (by decide) (by decide) (by decide)) (h.2 45 (by decide) (by decide) (by decide) (by decide) (by decide) (by decide)) (h.2 46 (by decide) (by decide) (by decide) (by decide) (by decide) (by decide)) i bar
theorem frL_C {I I1 : Nat → Int} {A A1 : Nat → Int → Int} (h : frL I A I1 A1) (hC : cokC I A) : cokC I1 A1 := by
  unfold cokC
  rw [h.1 43 (by decide) (by decide) (by decide) (by decide) (by decide) (by decide), h.2 44 (by decide) (by decide) (by decide) (by decide) (by decide) (by decide), h.2 45 (by decide) (by decide) (by decide) (by decide) (by decide) (by decide), h.2 46 (by decide) (by decide) (by decide) (by decide) (by decide) (by decide)]
  exact hC
theorem frL_N {I I1 : Nat → Int} {A A1 : Nat → Int → Int} (h : frL I A I1 A1) (hN : cokN I A) : cokN I1 A1 := by
  unfold cokN
  rw [h.1 121 (by decide) (by decide) (by decide) (by decide) (by decide) (by decide), h.2 120 (by decide) (by decide) (by decide) (by decide) (by decide) (by decide)]
  exact hN
theorem crep_cg {A A1 : Nat → Int → Int} (h1 : A1 140 = A 140) (h2 : A1 141 = A 141) {q : Int} {H : HS} (h : crepH A q H) : crepH A1 q H := by
  unfold crepH
  rw [h1, h2]
  exact h
theorem cokH_cg {I I1 : Nat → Int} {A A1 : Nat → Int → Int} (h0 : I1 43 = I 43) (h1 : I1 121 = I 121) (h2 : A1 120 = A 120) (h3 : A1 44 = A 44) (h4 : A1 45 = A 45) (h5 : A1 46 = A 46) (h6 : A1 140 = A 140) (h7 : A1 141 = A 141) (h : cokH I A) : cokH I1 A1 := fun i bar a b c d => by
  rw [chd_cg h1 h2 h3 h4 h5, h7]
  rcases h i bar a (by omega) c d with q | q
  · exact Or.inl q
  · exact Or.inr (crep_cg h6 h7 q)
def lsP (ad : Nat → Nat) (I : Nat → Int) (A : Nat → Int → Int) (n : Nat) (hs : Int → HS) (r : Int) (u : sC) : Prop := u.1 = ad ∧ frL I A u.2.1 u.2.2 ∧ cokH u.2.1 u.2.2 ∧ (gdL hs (I 43) → (r = mnN (rsG n hs (I 43) 0) (hs 0).length ∧ 0 ≤ r ∧ r ≤ 7000) ∧ u.2.1 162 = (amN (rsG n hs (I 43) 0) (hs 0).length : Int) ∧ ∀ (i : Int) (h : Nat), 0 ≤ i → i < I 43 → h < (hs i).length → u.2.2 161 (i * 6 + h) = nxG n hs (I 43) i h) ∧ (¬ gdL hs (I 43) → r = -1)
theorem chd_ok {I : Nat → Int} {A : Nat → Int → Int} {n : Nat} (hn : (n : Int) = I 121) (hn6 : n ≤ 6) (i bar : Int) : okHS n (chdA I A i bar) := by
  unfold chdA
  rw [show (I 121).toNat = n by omega]
  exact hdX_ok hn6
theorem chd_l6 {I : Nat → Int} {A : Nat → Int → Int} {n : Nat} (hn : (n : Int) = I 121) (hn6 : n ≤ 6) (i bar : Int) : (chdA I A i bar).length ≤ 6 := by
  unfold chdA
  rw [show (I 121).toNat = n by omega, hdX_sub]
  exact (sub_Q hn6 n [] [] (by simp) (fun v hv => by cases hv) ⟨fun e he => by (cases he), by simp, fun i j _ hj => absurd hj (Nat.not_lt_zero _), fun e he => by (cases he)⟩).2.1
set_option maxHeartbeats 4000000 in
set_option maxRecDepth 100000 in
theorem qX6_leastSum {l : Launch} {D : va_G} {cI : ClassId} {O : OT} {adK adV : Nat → Nat} {tT : Nat} (hO : OGC O adK adV tT) {ad : Nat → Nat} {I : Nat → Int} {A : Nat → Int → Int} {bar : Int} {n : Nat} {hs : Int → HS} (hn : (n : Int) = I 121) (hhs : ∀ i, hs i = chdA I A i bar) (hC : cokC I A) (hN : cokN I A) (hH : cokH I A) (hb : 0 ≤ bar ∧ bar ≤ 7) : CC l D cI O yX6_leastSum cX6_leastSum 8 (some .int) 13 [.ref (ad 179), .ref (ad 59), .ref (ad 139), .ref (ad 159), .int (iZ bar)] (ad, I, A) (pI fun r u2 => lsP ad I A n hs r u2) := by
  refine ct_intro (own := RX6) (by decide) rfl hO.1.1 (Nat.le_of_ble_eq_true rfl) (by simp [Value.category]) (fun X J hJ => ?_)
  obtain ⟨⟨c1, c2⟩, c3⟩ := id hC
  have n1 := hN.1
  have hn6 : n ≤ 6 := by omega
  have hso : ∀ i, okHS n (hs i) := fun i => by rw [hhs]; exact chd_ok hn hn6 i bar
  have hL6 : ∀ k, (hs k).length ≤ 6 := fun k => by rw [hhs]; exact chd_l6 hn hn6 k bar
  obtain ⟨c, hc⟩ : ∃ z, z = I 43 := ⟨_, rfl⟩
  have l2 : ∀ (q : Int) (I1 : Nat → Int) (A1 : Nat → Int → Int) (a7 : Option Value), gdL hs c → (0 ≤ q ∧ q < 480) → frL I A I1 A1 → cokH I1 A1 → crepH A1 q (hs 0) → (∀ (k : Int) (h : Nat), 0 ≤ k → k < c → h < (hs k).length → A1 160 (k * 6 + h) = rsG n hs c k h ∧ A1 161 (k * 6 + h) = nxG n hs c k h) → ∀ (fu h : Nat), 1 ≤ h → h ≤ (hs 0).length → ((hs 0).length : Int) - (h : Int) < (fu : Int) → J 77 [some (.ref (ad 179)), some (.ref (ad 59)), some (.ref (ad 139)), some (.ref (ad 159)), some (.int (iZ (bar))), some (.int (iZ (q))), some (.int (iZ ((h : Int)))), a7] [] (ad, va_up I1 162 (amN (rsG n hs c 0) h : Int), A1) := by
    intro q I1 A1 a7 hgd hq hfr hH1 hrq hdn fu
    have hl6 := hrq.2.1
    have hr1 := hrq.1
    have hok : ∀ i2 : Int, 0 ≤ i2 → i2 < c → okHS n (hs i2) ∧ 0 < (hs i2).length := fun i2 a b => ⟨hso i2, hgd.2 i2 a b⟩
    obtain ⟨f, hf⟩ : ∃ z, z = rsG n hs c 0 := ⟨_, rfl⟩
    have hfi : ∀ k, k < (hs 0).length → 0 ≤ f k ∧ f k ≤ 7000 := fun k hk => by rw [hf]; exact rsG_in hn6 (by omega) (fun i2 a b => hok i2 a b) (by omega) hgd.1 hk
    have hrs : ∀ h : Nat, h < (hs 0).length → A1 160 h = f h := fun h hh => by
      have := (hdn 0 h (by omega) hgd.1 hh).1
      rw [Int.zero_mul, Int.zero_add] at this
      rw [this, hf]
    have ham : ∀ h, 1 ≤ h → h ≤ (hs 0).length → amN f h < h ∧ f (amN f h) = mnN f h := fun h a b => by
      have := amN_ok (f := f) h (by omega) (fun k hk => by have := hfi k (by omega); omega)
      exact ⟨this.1, this.2.1⟩
    rw [← hf]
    induction fu with
    | zero => intro h h1 h2 hmu; exfalso; omega
    | succ fu ih =>
      intro h h1 h2 hmu
      obtain ⟨m1, m2⟩ := ham h h1 h2
      have m3 := hfi _ (show amN f h < (hs 0).length by omega)
      have m4 := hrs _ (show amN f h < (hs 0).length by omega)
      refine v_ild6 (pc := 77) hJ dX6_leastSum_77 ?_
      refine v_ald3 (pc := 79) hJ dX6_leastSum_79 ?_
      refine cgX6_36 (pc := 80) hJ dX6_leastSum_80 ?_
      refine v_ild5 (pc := 83) hJ dX6_leastSum_83 ?_
      refine ca141 (pc := 85) hJ (by omega) (by omega) dX6_leastSum_85 ?_
      try simp only [up_s, up_n, up_up, ne_eq, Nat.reduceEqDiff, not_false_eq_true]
      rw [hr1]
      refine v_icmp_ge (tgt := 120) (pc := 86) hJ dX6_leastSum_86 (by decide) (by omega) (by omega) (fun h86 => ?_) (fun h86 => ?_)
      · have he : h = (hs 0).length := by omega
        refine v_ald0 (pc := 120) hJ dX6_leastSum_120 ?_
        refine cgX6_9 (pc := 121) hJ dX6_leastSum_121 ?_
        refine v_ald0 (pc := 124) hJ dX6_leastSum_124 ?_
        refine cgX6_43 (pc := 125) hJ dX6_leastSum_125 ?_
        try simp only [up_s, up_n, up_up, ne_eq, Nat.reduceEqDiff, not_false_eq_true]
        refine ca160 (pc := 128) hJ (by omega) (by omega) dX6_leastSum_128 ?_
        try simp only [up_s, up_n, up_up, ne_eq, Nat.reduceEqDiff, not_false_eq_true]
        refine v_iret (pc := 129) hJ dX6_leastSum_129 ⟨_, rfl, ?_⟩
        rw [m4]
        refine ⟨rfl, ⟨fun k q1 q2 q3 q4 q5 q6 => by simp only [up_n, q6, ne_eq, not_false_eq_true]; exact hfr.1 k q1 q2 q3 q4 q5 q6, hfr.2⟩, cokH_cg (by simp only [up_s, up_n, up_up, ne_eq, Nat.reduceEqDiff, not_false_eq_true]) (by simp only [up_s, up_n, up_up, ne_eq, Nat.reduceEqDiff, not_false_eq_true]) rfl rfl rfl rfl rfl rfl hH1, fun _ => ⟨⟨?_, m3.1, m3.2⟩, ?_, fun i h a b c => (hdn i h a (by omega) c).2.trans (by rw [hc])⟩, fun q => absurd (by rw [← hc]; exact hgd) q⟩
        · rw [m2, ← he, hf, hc]
        · simp only [up_s, up_n, up_up, ne_eq, Nat.reduceEqDiff, not_false_eq_true]
          rw [← he, hf, hc]
      · have m5 := hfi h (by omega)
        have m6 := hrs h (by omega)
        refine v_ald0 (pc := 89) hJ dX6_leastSum_89 ?_
        refine cgX6_9 (pc := 90) hJ dX6_leastSum_90 ?_
        refine v_ild6 (pc := 93) hJ dX6_leastSum_93 ?_
        refine ca160 (pc := 95) hJ (by omega) (by omega) dX6_leastSum_95 ?_
        try simp only [up_s, up_n, up_up, ne_eq, Nat.reduceEqDiff, not_false_eq_true]
        
        refine v_ald0 (pc := 96) hJ dX6_leastSum_96 ?_
        refine cgX6_9 (pc := 97) hJ dX6_leastSum_97 ?_
        refine v_ald0 (pc := 100) hJ dX6_leastSum_100 ?_
        refine cgX6_43 (pc := 101) hJ dX6_leastSum_101 ?_
        try simp only [up_s, up_n, up_up, ne_eq, Nat.reduceEqDiff, not_false_eq_true]
        refine ca160 (pc := 104) hJ (by omega) (by omega) dX6_leastSum_104 ?_
        try simp only [up_s, up_n, up_up, ne_eq, Nat.reduceEqDiff, not_false_eq_true]
        rw [m6, m4]
        refine v_icmp_ge (tgt := 114) (pc := 105) hJ dX6_leastSum_105 (by decide) (by omega) (by omega) (fun h105 => ?_) (fun h105 => ?_)
        · refine v_inc6 (pc := 114) hJ dX6_leastSum_114 (by decide) ?_
          refine v_goto (tgt := 77) (pc := 117) hJ dX6_leastSum_117 (by decide) ?_
          have hn2 := ih (h + 1) (by omega) (by omega) (by omega)
          rw [amN, if_neg (by omega)] at hn2
          exact hn2
        · refine v_ald0 (pc := 108) hJ dX6_leastSum_108 ?_
          refine v_ild6 (pc := 109) hJ dX6_leastSum_109 ?_
          refine cpX6_43 (pc := 111) hJ dX6_leastSum_111 ?_
          refine v_inc6 (pc := 114) hJ dX6_leastSum_114 (by decide) ?_
          refine v_goto (tgt := 77) (pc := 117) hJ dX6_leastSum_117 (by decide) ?_
          have hn2 := ih (h + 1) (by omega) (by omega) (by omega)
          rw [amN, if_pos (by omega)] at hn2
          rw [up_up]
          exact hn2
  have lp : ∀ (fu : Nat) (i q : Int) (I1 : Nat → Int) (A1 : Nat → Int → Int) (a7 : Option Value), (-1 ≤ i ∧ i < c) → (frL I A I1 A1) → (cokH I1 A1) → ((q = -1 ∧ i = c - 1) ∨ ((0 ≤ q ∧ q < 480) ∧ i < c - 1 ∧ crepH A1 q (hs (i + 1)))) → (∀ (k : Int) (h : Nat), i < k → k < c → h < (hs k).length → A1 160 (k * 6 + h) = rsG n hs c k h ∧ A1 161 (k * 6 + h) = nxG n hs c k h) → (∀ k, i < k → k < c → 0 < (hs k).length) → (i + 2) < (fu : Int) → J 11 [some (.ref (ad 179)), some (.ref (ad 59)), some (.ref (ad 139)), some (.ref (ad 159)), some (.int (iZ (bar))), some (.int (iZ (q))), some (.int (iZ (i))), a7] [] (ad, I1, A1) := by
    intro fu
    induction fu with
    | zero => intro i q  I1  A1  a7 hi hfr hH1 hq hdn hps hmu; exfalso; omega
    | succ fu ih =>
      intro i q  I1  A1  a7 hi hfr hH1 hq hdn hps hmu
      refine v_ild6 (pc := 11) hJ dX6_leastSum_11 ?_
      have e43 : I1 43 = I 43 := hfr.1 43 (by decide) (by decide) (by decide) (by decide) (by decide) (by decide)
      refine v_if_lt (tgt := 61) (pc := 13) hJ dX6_leastSum_13 (by decide) (by omega) (fun h13 => ?_) (fun h13 => ?_)
      · refine v_ild5 (pc := 61) hJ dX6_leastSum_61 ?_
        refine v_iconst (pc := 63) hJ dX6_leastSum_63 ?_
        refine v_icmp_ne (tgt := 69) (pc := 64) hJ dX6_leastSum_64 (by decide) (by rcases hq with w | w <;> omega) (by decide) (fun h64 => ?_) (fun h64 => ?_)
        · have hei : i = -1 := by omega
          subst hei
          obtain ⟨q1, q2, q3⟩ : (0 ≤ q ∧ q < 480) ∧ -1 < c - 1 ∧ crepH A1 q (hs 0) := by
            rcases hq with w | w
            · exact absurd w.1 h64
            · exact w
          have hgd : gdL hs c := ⟨by omega, fun k k0 k1 => hps k (by omega) k1⟩
          refine v_ald0 (pc := 69) hJ dX6_leastSum_69 ?_
          refine v_iconst (pc := 70) hJ dX6_leastSum_70 ?_
          refine cpX6_43 (pc := 71) hJ dX6_leastSum_71 ?_
          refine v_iconst (pc := 74) hJ dX6_leastSum_74 ?_
          refine v_ist6 (pc := 75) hJ dX6_leastSum_75 (by decide) ?_
          have hn2 := l2 q I1 A1 a7 hgd q1 hfr hH1 q3 (fun k h k0 k1 hh => hdn k h (by omega) k1 hh) 8 1 (by omega) (hgd.2 0 (by omega) hgd.1) (by have := q3.2.1; omega)
          rw [show amN (rsG n hs c 0) 1 = 0 by rw [amN]; split <;> rfl] at hn2
          exact hn2
        · have hc0 : c = 0 := by rcases hq with w | w <;> omega
          refine v_iconst (pc := 67) hJ dX6_leastSum_67 ?_
          refine v_iret (pc := 68) hJ dX6_leastSum_68 ⟨_, rfl, ?_⟩
          exact ⟨rfl, hfr, hH1, fun w => absurd w.1 (by omega), fun _ => rfl⟩
      · refine v_ald3 (pc := 16) hJ dX6_leastSum_16 ?_
        refine v_ald1 (pc := 17) hJ dX6_leastSum_17 ?_
        refine v_ald2 (pc := 18) hJ dX6_leastSum_18 ?_
        refine v_ild6 (pc := 19) hJ dX6_leastSum_19 ?_
        refine v_ild4 (pc := 21) hJ dX6_leastSum_21 ?_
        refine v_cV4i (pc := 23) (q0 := 23) (ci := 1) hJ rfl rfl lkX6_30 (qX2_pageOf hO (frL_C hfr hC) (frL_N hfr hN) hH1 (by omega) hb) (Nat.le_of_ble_eq_true rfl) (rOk_L (by decide) (by decide)) dX6_leastSum_23 (fun r23 u23 g23 => ?_)
        obtain ⟨ad2, I2, A2⟩ := u23
        obtain ⟨p1, p2, p3, p4, p5⟩ := g23
        dsimp only at p2 p3 p4 p5
        subst p2
        rw [frL_hd hfr, ← hhs] at p5
        refine v_ist7 (pc := 26) hJ dX6_leastSum_26 (by decide) ?_
        refine v_ald3 (pc := 28) hJ dX6_leastSum_28 ?_
        refine cgX6_36 (pc := 29) hJ dX6_leastSum_29 ?_
        refine v_ild7 (pc := 32) hJ dX6_leastSum_32 ?_
        refine ca141 (pc := 34) hJ (by omega) (by omega) dX6_leastSum_34 ?_
        try simp only [up_s, up_n, up_up, ne_eq, Nat.reduceEqDiff, not_false_eq_true]
        have l23 := p5.1
        have l24 := p5.2.1
        rw [l23]
        refine v_if_ne (tgt := 40) (pc := 35) hJ dX6_leastSum_35 (by decide) (by omega) (fun h35 => ?_) (fun h35 => ?_)
        · have b160 : A2 160 = A1 160 := p3.2.1 160 (by decide) (by decide) (by decide) (by decide)
          have b161 : A2 161 = A1 161 := p3.2.1 161 (by decide) (by decide) (by decide) (by decide)
          have hle : ∀ k, 0 ≤ k → k < c → (hs k).length ≤ 6 := fun k _ _ => hL6 k
          refine v_ald0 (pc := 40) hJ dX6_leastSum_40 ?_
          refine v_ald3 (pc := 41) hJ dX6_leastSum_41 ?_
          refine v_ild6 (pc := 42) hJ dX6_leastSum_42 ?_
          refine v_ild7 (pc := 44) hJ dX6_leastSum_44 ?_
          refine v_ild5 (pc := 46) hJ dX6_leastSum_46 ?_
          refine v_cV4v (pc := 48) (q0 := 26) (ci := 3) hJ rfl rfl lkX6_39 (qX6_weigh (n := n) (hs := hs) (c := c) hO hn6 (by omega) (by omega) p1 p5 (fun i2 a b => ⟨hso i2, by by_cases e : i2 = i; (rw [e]; omega); exact hps i2 (by omega) b⟩) (by rcases hq with w | w; exact Or.inl w; exact Or.inr ⟨w.1, w.2.1, frP_rep p3 w.2.2, fun g hg => by rw [b160]; exact (hdn (i + 1) g (by omega) (by omega) hg).1⟩)) (Nat.le_of_ble_eq_true rfl) (rOk_L (by decide) (by decide)) dX6_leastSum_48 (fun u48 g48 => ?_)
          obtain ⟨ad3, I3, A3⟩ := u48
          obtain ⟨y1, y2, y3, y4, y5⟩ := g48
          dsimp only at y1 y2 y3 y4 y5
          subst y1
          subst y2
          try simp only [up_s, up_n, up_up, ne_eq, Nat.reduceEqDiff, not_false_eq_true]
          refine v_ild7 (pc := 51) hJ dX6_leastSum_51 ?_
          refine v_ist5 (pc := 53) hJ dX6_leastSum_53 (by decide) ?_
          refine v_inc6 (pc := 55) hJ dX6_leastSum_55 (by decide) ?_
          refine v_goto (tgt := 11) (pc := 58) hJ dX6_leastSum_58 (by decide) ?_
          refine ih (i + -1) r23 I3 A3 _ (by omega) ⟨fun k q1 q2 q3 q4 q5 q6 => (p3.1 k q1 q2 q3 q4 q5).trans (hfr.1 k q1 q2 q3 q4 q5 q6), fun k q1 q2 q3 q4 q5 q6 => (y3 k q5 q6).trans ((p3.2.1 k q1 q2 q3 q4).trans (hfr.2 k q1 q2 q3 q4 q5 q6))⟩ (cokH_cg rfl rfl (y3 120 (by decide) (by decide)) (y3 44 (by decide) (by decide)) (y3 45 (by decide) (by decide)) (y3 46 (by decide) (by decide)) (y3 140 (by decide) (by decide)) (y3 141 (by decide) (by decide)) p4) (Or.inr ⟨p1, by omega, by rw [show i + -1 + 1 = i by omega]; exact crep_cg (y3 140 (by decide) (by decide)) (y3 141 (by decide) (by decide)) p5⟩) (fun k h k1 k2 hh => ?_) (fun k k1 k2 => ?_) (by omega)
          · by_cases e : k = i
            · rw [e] at hh ⊢; exact y5 h hh
            · have hl6 : (hs k).length ≤ 6 := hle k (by omega) k2
              obtain ⟨z1, z2⟩ := y4 (k * 6 + h) (by omega)
              rw [z1, z2, b160, b161]
              exact hdn k h (by omega) k2 hh
          · by_cases e : k = i
            · rw [e]; omega
            · exact hps k (by omega) k2
        · refine v_iconst (pc := 38) hJ dX6_leastSum_38 ?_
          refine v_iret (pc := 39) hJ dX6_leastSum_39 ⟨_, rfl, ?_⟩
          refine ⟨rfl, frL_tr hfr (frL_P p3), p4, fun w => absurd (w.2 i (by omega) (by omega)) (by omega), fun _ => rfl⟩
  show J 0 [some (.ref (ad 179)), some (.ref (ad 59)), some (.ref (ad 139)), some (.ref (ad 159)), some (.int (iZ bar)), none, none, none] [] (ad, I, A)
  refine v_iconst (pc := 0) hJ dX6_leastSum_0 ?_
  refine v_ist5 (pc := 1) hJ dX6_leastSum_1 (by decide) ?_
  refine v_ald1 (pc := 3) hJ dX6_leastSum_3 ?_
  refine cgX6_25a (pc := 4) hJ dX6_leastSum_4 ?_
  refine v_iconst (pc := 7) hJ dX6_leastSum_7 ?_
  refine v_isub (pc := 8) hJ dX6_leastSum_8 ?_
  refine v_ist6 (pc := 9) hJ dX6_leastSum_9 (by decide) ?_
  exact lp 62 (I 43 - 1) (-1) I A none (by omega) (frL_id I A) hH (Or.inl ⟨rfl, by omega⟩) (fun k h a b => absurd b (by omega)) (fun k a b => absurd b (by omega)) (by omega)
set_option maxHeartbeats 4000000 in
set_option maxRecDepth 100000 in
theorem qX6_keepAt {l : Launch} {D : va_G} {cI : ClassId} {O : OT} {adK adV : Nat → Nat} {tT : Nat} (hO : OGC O adK adV tT) {ad : Nat → Nat} {I : Nat → Int} {A : Nat → Int → Int} {c bar : Int} {n : Nat} {hs : Int → HS} (hn : n ≤ 6) (hc : 0 < c ∧ c ≤ 60) (hok : gdH n hs c) (hl6 : ∀ i, (hs i).length ≤ 6) (h162 : I 162 = (jsG n hs c 0 : Int)) (h161 : ∀ (i : Int) (h : Nat), 0 ≤ i → i < c → h < (hs i).length → A 161 (i * 6 + h) = nxG n hs c i h) : CC l D cI O yX6_keepAt cX6_keepAt 5 none 1 [.ref (ad 179), .int (iZ c), .int (iZ bar)] (ad, I, A) (pV fun u2 => ∃ P, (∀ i : Nat, (i : Int) < c → P i = (jsG n hs c i : Int)) ∧ u2 = (ad, va_up I 164 bar, va_up A 163 P)) := by
  refine ct_intro (own := RX6) (by decide) rfl hO.1.1 (Nat.le_of_ble_eq_true rfl) (by simp [Value.category]) (fun X J hJ => ?_)
  have hjs := jsG_in hn hc.2 hok
  have lp : ∀ (fu : Nat) (i : Nat) (h : Int) (P : Int → Int), ((i : Int) ≤ c) → ((i : Int) < c → h = (jsG n hs c i : Int)) → (∀ i2 : Nat, i2 < i → P i2 = (jsG n hs c i2 : Int)) → (c - (i : Int)) < (fu : Int) → J 8 [some (.ref (ad 179)), some (.int (iZ (c))), some (.int (iZ (bar))), some (.int (iZ (h))), some (.int (iZ ((i : Int))))] [] (ad, I, va_up A 163 P) := by
    intro fu
    induction fu with
    | zero => intro i  h  P hi hh hP hmu; exfalso; omega
    | succ fu ih =>
      intro i  h  P hi hh hP hmu
      refine v_ild4 (pc := 8) hJ dX6_keepAt_8 ?_
      refine v_ild1 (pc := 10) hJ dX6_keepAt_10 ?_
      refine v_icmp_ge (tgt := 58) (pc := 11) hJ dX6_keepAt_11 (by decide) (by omega) (by omega) (fun h11 => ?_) (fun h11 => ?_)
      · refine v_ald0 (pc := 58) hJ dX6_keepAt_58 ?_
        refine v_ild2 (pc := 59) hJ dX6_keepAt_59 ?_
        refine cpX6_21 (pc := 60) hJ dX6_keepAt_60 ?_
        refine v_vret (pc := 63) hJ dX6_keepAt_63 ⟨rfl, ?_⟩
        exact ⟨P, fun i2 h2 => hP i2 (by omega), rfl⟩
      · have hh := hh (by omega)
        subst hh
        have hj1 := hjs i (by omega)
        have hj2 := hl6 (i : Int)
        have hj3 := h161 (i : Int) (jsG n hs c i) (by omega) (by omega) hj1
        refine v_ild4 (pc := 14) hJ dX6_keepAt_14 ?_
        refine v_bipush (pc := 16) hJ dX6_keepAt_16 (by decide) ?_
        refine v_icmp_ge (tgt := 58) (pc := 18) hJ dX6_keepAt_18 (by decide) (by omega) (by omega) (fun h18 => ?_) (fun h18 => ?_)
        · exfalso; omega
        · refine v_ild3 (pc := 21) hJ dX6_keepAt_21 ?_
          refine v_if_lt (tgt := 58) (pc := 22) hJ dX6_keepAt_22 (by decide) (by omega) (fun h22 => ?_) (fun h22 => ?_)
          · exfalso; omega
          · refine v_ild3 (pc := 25) hJ dX6_keepAt_25 ?_
            refine v_bipush (pc := 26) hJ dX6_keepAt_26 (by decide) ?_
            refine v_icmp_ge (tgt := 58) (pc := 28) hJ dX6_keepAt_28 (by decide) (by omega) (by omega) (fun h28 => ?_) (fun h28 => ?_)
            · exfalso; omega
            · refine v_ald0 (pc := 31) hJ dX6_keepAt_31 ?_
              refine cgX6_18 (pc := 32) hJ dX6_keepAt_32 ?_
              refine v_ild4 (pc := 35) hJ dX6_keepAt_35 ?_
              refine v_ild3 (pc := 37) hJ dX6_keepAt_37 ?_
              refine cs163 (pc := 38) hJ (by omega) (by omega) dX6_keepAt_38 ?_
              refine v_ald0 (pc := 39) hJ dX6_keepAt_39 ?_
              refine cgX6_15 (pc := 40) hJ dX6_keepAt_40 ?_
              refine v_ild4 (pc := 43) hJ dX6_keepAt_43 ?_
              refine v_bipush (pc := 45) hJ dX6_keepAt_45 (by decide) ?_
              refine v_imul (pc := 47) hJ dX6_keepAt_47 ?_
              refine v_ild3 (pc := 48) hJ dX6_keepAt_48 ?_
              refine v_iadd (pc := 49) hJ dX6_keepAt_49 ?_
              refine ca161 (pc := 50) hJ (by omega) (by omega) dX6_keepAt_50 ?_
              try simp only [up_s, up_n, up_up, ne_eq, Nat.reduceEqDiff, not_false_eq_true]
              rw [hj3]
              refine v_ist3 (pc := 51) hJ dX6_keepAt_51 (by decide) ?_
              refine v_inc4 (pc := 52) hJ dX6_keepAt_52 (by decide) ?_
              refine v_goto (tgt := 8) (pc := 55) hJ dX6_keepAt_55 (by decide) ?_
              refine ih (i + 1) _ _ (by omega) (fun h2 => ?_) (fun i2 h2 => ?_) (by omega)
              · unfold nxG
                rw [if_neg (by omega)]
                rfl
              · by_cases e2 : i2 = i
                · rw [e2, zu_same]
                · rw [zu_ne (by omega)]; exact hP i2 (by omega)
  show J 0 [some (.ref (ad 179)), some (.int (iZ c)), some (.int (iZ bar)), none, none] [] (ad, I, A)
  refine v_ald0 (pc := 0) hJ dX6_keepAt_0 ?_
  refine cgX6_43 (pc := 1) hJ dX6_keepAt_1 ?_
  refine v_ist3 (pc := 4) hJ dX6_keepAt_4 (by decide) ?_
  refine v_iconst (pc := 5) hJ dX6_keepAt_5 ?_
  refine v_ist4 (pc := 6) hJ dX6_keepAt_6 (by decide) ?_
  rw [← up_id A 163]
  exact lp 61 0 _ (A 163) (by omega) (fun _ => h162) (fun i2 h => absurd h (Nat.not_lt_zero _)) (by omega)
