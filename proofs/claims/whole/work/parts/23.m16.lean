/-- the strings of the reference; and what it keeps of hands is right -/
abbrev okN (I : Nat → Int) (A : Nat → Int → Int) : Prop := (0 ≤ I 9 ∧ I 9 ≤ 6) ∧ ∀ s : Int, 0 ≤ s → s < I 9 → 0 ≤ A 23 s ∧ A 23 s ≤ 60
def okH (I : Nat → Int) (A : Nat → Int → Int) : Prop := ∀ i bar : Int, 0 ≤ i → i < I 6 → 0 ≤ bar → bar ≤ 7 → A 38 (8 * i + bar) = -1 ∨ repH A (8 * i + bar) (I 9).toNat (hdA I A i bar)
theorem hdA_eq {I I1 : Nat → Int} {A A1 : Nat → Int → Int} {i bar : Int} (h9 : I1 9 = I 9) (h11 : A1 11 = A 11) (h12 : A1 12 = A 12) (h13 : A1 13 = A 13) (h23 : A1 23 = A 23) : hdA I1 A1 i bar = hdA I A i bar := by
  unfold hdA tsA
  rw [h9, h11, h12, h13, h23]
theorem frF_hd {I I1 : Nat → Int} {A A1 : Nat → Int → Int} {a i bar : Int} (h9 : I1 9 = I 9) (h : frF A a A1) : hdA I1 A1 i bar = hdA I A i bar := hdA_eq h9 (h.1 11 (by decide) (by decide) (by decide) (by decide) (by decide) (by decide)) (h.1 12 (by decide) (by decide) (by decide) (by decide) (by decide) (by decide)) (h.1 13 (by decide) (by decide) (by decide) (by decide) (by decide) (by decide)) (h.1 23 (by decide) (by decide) (by decide) (by decide) (by decide) (by decide))
theorem repH_fr {A A1 : Nat → Int → Int} {a b : Int} {n : Nat} {H : HS} (hn : n ≤ 6) (h : frF A a A1) (hb : b ≠ a) (hr : repH A b n H) : repH A1 b n H := by
  obtain ⟨r1, r2, r3⟩ := hr
  refine ⟨by rw [h.2.1 b hb]; exact r1, r2, fun j hj => ⟨?_, fun s hs => ?_⟩⟩
  · rw [h.2.2.1 _ (by omega)]; exact (r3 j hj).1
  · rw [h.2.2.2 _ (by omega)]; exact (r3 j hj).2 s hs
theorem okH_fr {I I1 : Nat → Int} {A A1 : Nat → Int → Int} {i bar : Int} (hb : 0 ≤ bar ∧ bar ≤ 7) (h6 : I1 6 = I 6) (h9 : I1 9 = I 9) (hN : I 9 ≤ 6) (h : okH I A) (hf : frF A (8 * i + bar) A1) (hr : repH A1 (8 * i + bar) (I 9).toNat (hdA I A i bar)) : okH I1 A1 := by
  intro j b j0 j1 b0 b1
  rw [frF_hd h9 hf, h9]
  by_cases e : 8 * j + b = 8 * i + bar
  · have e1 : j = i := by omega
    have e2 : b = bar := by omega
    subst e1; subst e2
    exact Or.inr hr
  · rcases h j b j0 (by omega) b0 b1 with q | q
    · exact Or.inl (by rw [hf.2.1 _ e]; exact q)
    · exact Or.inr (repH_fr (by omega) hf e q)
theorem okH_I {I I1 : Nat → Int} {A : Nat → Int → Int} (h6 : I1 6 = I 6) (h9 : I1 9 = I 9) (h : okH I A) : okH I1 A := fun i bar a b c d => by rw [h9, hdA_eq (I := I) (A := A) h9 rfl rfl rfl rfl]; exact h i bar a (by omega) c d
theorem okC_I {I I1 : Nat → Int} {A : Nat → Int → Int} (h6 : I1 6 = I 6) (h : okC I A) : okC I1 A := by unfold okC; rw [h6]; exact h
theorem okC_fr {I I1 : Nat → Int} {A A1 : Nat → Int → Int} {a : Int} (h6 : I1 6 = I 6) (h : okC I A) (hf : frF A a A1) : okC I1 A1 := by
  unfold okC
  rw [h6, hf.1 11 (by decide) (by decide) (by decide) (by decide) (by decide) (by decide), hf.1 12 (by decide) (by decide) (by decide) (by decide) (by decide) (by decide), hf.1 13 (by decide) (by decide) (by decide) (by decide) (by decide) (by decide)]
  exact h
theorem okN_fr {I I1 : Nat → Int} {A A1 : Nat → Int → Int} {a : Int} (h9 : I1 9 = I 9) (h : okN I A) (hf : frF A a A1) : okN I1 A1 := by
  unfold okN
  rw [h9, hf.1 23 (by decide) (by decide) (by decide) (by decide) (by decide) (by decide)]
  exact h
theorem okN_I {I I1 : Nat → Int} {A : Nat → Int → Int} (h9 : I1 9 = I 9) (h : okN I A) : okN I1 A := by unfold okN; rw [h9]; exact h
/-- find, over what is kept -/
theorem findW {l : Launch} {D : va_G} {cI : ClassId} {ad : Nat → Nat} {O : OT} {adK adV : Nat → Nat} (hO : OG O adK adV) {I : Nat → Int} {A : Nat → Int → Int} {i bar : Int} (hC : okC I A) (hN : okN I A) (hH : okH I A) (hi : 0 ≤ i ∧ i < I 6) (hb : 0 ≤ bar ∧ bar ≤ 7) : MC l D cI ad O yX11_find cX11_find 8 (some .int) 3 [.ref (ad 0), .int (iZ i), .int (iZ bar)] (I, A) (pI fun r u2 => r = ((hdA I A i bar).length : Int) ∧ u2.1 = I ∧ frF A (8 * i + bar) u2.2 ∧ repH u2.2 (8 * i + bar) (I 9).toNat (hdA I A i bar)) := qX11_find hO hC hi hb hN.1 hN.2 (hH i bar hi.1 hi.2 hb.1 hb.2)
theorem rightE {r r2 : Int} {b : Int} {u : sM} {I : Nat → Int} {A : Nat → Int → Int} {w : Int} (h1 : (r = 0 ∨ r = 1) ∧ (r = 1 ↔ 0 ≤ b ∧ b ≤ 7)) (g : (r = 0 → r2 = 0 ∧ u = (va_up I 0 w, A)) ∧ (r = 1 → r2 = 1 ∧ u = (I, A))) : ((0 ≤ b ∧ b ≤ 7) → r2 = 1 ∧ u = (I, A)) ∧ (¬ (0 ≤ b ∧ b ≤ 7) → r2 = 0 ∧ u = (va_up I 0 w, A)) :=
  ⟨fun q => g.2 (h1.2.mpr q), fun q => g.1 (by rcases h1.1 with e | e; exact e; exact absurd (h1.2.mp e) q)⟩
set_option maxHeartbeats 4000000 in
set_option maxRecDepth 100000 in
theorem qX11_hands {l : Launch} {D : va_G} {cI : ClassId} {ad : Nat → Nat} {O : OT} {adK adV : Nat → Nat} (hO : OG O adK adV) {I : Nat → Int} {A : Nat → Int → Int} {i bar : Int} (hC : okC I A) (hN : okN I A) (hH : okH I A) (hi : inR i) (hb : inR bar) : MC l D cI ad O yX11_hands cX11_hands 3 (some .int) 4 [.ref (ad 0), .int (iZ i), .int (iZ bar)] (I, A) (pI fun r u2 => ((0 ≤ i ∧ i < I 6) ∧ (0 ≤ bar ∧ bar ≤ 7) → r = ((hdA I A i bar).length : Int) ∧ u2.1 = va_up I 0 0 ∧ frF A (8 * i + bar) u2.2 ∧ repH u2.2 (8 * i + bar) (I 9).toNat (hdA I A i bar)) ∧ (¬ (0 ≤ i ∧ i < I 6) → u2 = (va_up I 0 1, A)) ∧ ((0 ≤ i ∧ i < I 6) → ¬ (0 ≤ bar ∧ bar ≤ 7) → u2 = (va_up I 0 2, A))) := by
  refine ct_intro (own := RX11) (by decide) rfl hO.1 (Nat.le_of_ble_eq_true rfl) (by simp [Value.category]) (fun X J hJ => ?_)
  show J 0 [some (.ref (ad 0)), some (.int (iZ i)), some (.int (iZ bar))] [] (I, A)
  obtain ⟨⟨c1, c2⟩, c3⟩ := id hC
  refine v_ald0 (pc := 0) hJ dX11_hands_0 ?_
  refine v_ild1 (pc := 1) hJ dX11_hands_1 ?_
  refine v_cV1i (pc := 2) (q0 := 0) (ci := 8) hJ rfl rfl lkX11_219 (qX11_isChord hO (by omega) (by omega)) (Nat.le_of_ble_eq_true rfl) (rOk_L (by decide) (by decide)) dX11_hands_2 (fun r2 u2 g2 => ?_)
  skip
  refine v_if_eq (tgt := 29) (pc := 5) hJ dX11_hands_5 (by decide) (emR g2) (fun h5 => ?_) (fun h5 => ?_)
  · obtain ⟨hin, rfl, rfl⟩ := emF g2 h5
    refine v_iconst (pc := 29) hJ dX11_hands_29 ?_
    refine v_iret (pc := 30) hJ dX11_hands_30 ⟨_, rfl, ?_⟩
    exact ⟨fun q => absurd q.1 hin, fun _ => rfl, fun q => absurd q hin⟩
  · obtain ⟨hin, rfl, rfl⟩ := emT g2 h5
    refine v_ald0 (pc := 8) hJ dX11_hands_8 ?_
    refine v_ild2 (pc := 9) hJ dX11_hands_9 ?_
    refine v_cS1i (pc := 10) hJ lkX11_279 (qX11_isBar hO (by omega)) (Nat.le_of_ble_eq_true rfl) (rOk_L (by decide) (by decide)) dX11_hands_10 (fun r10 u10 g10 => ?_)
    obtain ⟨g10a, g10b, rfl⟩ := g10
    try simp only [up_s, up_n, up_up, ne_eq, Nat.reduceEqDiff, not_false_eq_true]
    refine v_iconst (pc := 13) hJ dX11_hands_13 ?_
    refine v_cV2i (pc := 14) (q0 := 0) (ci := 8) hJ rfl rfl lkX11_190 (qX11_right hO (by simp only [up_s, up_n, up_up, ne_eq, Nat.reduceEqDiff, not_false_eq_true]) g10a (by decide)) (Nat.le_of_ble_eq_true rfl) (rOk_L (by decide) (by decide)) dX11_hands_14 (fun r14 u14 g14 => ?_)
    have g14 := rightE ⟨g10a, g10b⟩ g14
    try simp only [up_s, up_n, up_up, ne_eq, Nat.reduceEqDiff, not_false_eq_true]
    refine v_if_eq (tgt := 29) (pc := 17) hJ dX11_hands_17 (by decide) (emR g14) (fun h17 => ?_) (fun h17 => ?_)
    · obtain ⟨hbr, rfl, rfl⟩ := emF g14 h17
      refine v_iconst (pc := 29) hJ dX11_hands_29 ?_
      refine v_iret (pc := 30) hJ dX11_hands_30 ⟨_, rfl, ?_⟩
      exact ⟨fun q => absurd q.2 hbr, fun q => absurd hin q, fun _ _ => by simp only [up_up]⟩
    · obtain ⟨hbr, rfl, rfl⟩ := emT g14 h17
      refine v_ald0 (pc := 20) hJ dX11_hands_20 ?_
      refine v_ild1 (pc := 21) hJ dX11_hands_21 ?_
      refine v_ild2 (pc := 22) hJ dX11_hands_22 ?_
      refine v_cV2i (pc := 23) (q0 := 0) (ci := 8) hJ rfl rfl lkX11_282 (findW hO (okC_I (by simp only [up_s, up_n, up_up, ne_eq, Nat.reduceEqDiff, not_false_eq_true]) hC) (okN_I (by simp only [up_s, up_n, up_up, ne_eq, Nat.reduceEqDiff, not_false_eq_true]) hN) (okH_I (by simp only [up_s, up_n, up_up, ne_eq, Nat.reduceEqDiff, not_false_eq_true]) (by simp only [up_s, up_n, up_up, ne_eq, Nat.reduceEqDiff, not_false_eq_true]) hH) (by simp only [up_s, up_n, up_up, ne_eq, Nat.reduceEqDiff, not_false_eq_true]; exact hin) hbr) (Nat.le_of_ble_eq_true rfl) (rOk_L (by decide) (by decide)) dX11_hands_23 (fun r23 u23 g23 => ?_)
      obtain ⟨I9, A9⟩ := u23
      obtain ⟨rfl, e9, f9, r9⟩ := g23
      dsimp only at e9 f9 r9
      subst e9
      rw [hdA_eq (I := I) (A := A) (by simp only [up_s, up_n, up_up, ne_eq, Nat.reduceEqDiff, not_false_eq_true]) rfl rfl rfl rfl] at r9 ⊢
      simp only [up_s, up_n, up_up, ne_eq, Nat.reduceEqDiff, not_false_eq_true] at r9
      try simp only [up_s, up_n, up_up, ne_eq, Nat.reduceEqDiff, not_false_eq_true]
      refine v_goto (tgt := 30) (pc := 26) hJ dX11_hands_26 (by decide) ?_
      refine v_iret (pc := 30) hJ dX11_hands_30 ⟨_, rfl, ?_⟩
      exact ⟨fun _ => ⟨rfl, rfl, f9, r9⟩, fun q => absurd hin q, fun _ q => absurd hbr q⟩
set_option maxHeartbeats 4000000 in
set_option maxRecDepth 100000 in
theorem qX11_fret {l : Launch} {D : va_G} {cI : ClassId} {ad : Nat → Nat} {O : OT} {adK adV : Nat → Nat} (hO : OG O adK adV) {I : Nat → Int} {A : Nat → Int → Int} {i bar j s : Int} (hC : okC I A) (hN : okN I A) (hH : okH I A) (hi : inR i) (hb : inR bar) (hj : inR j) (hs : inR s) : MC l D cI ad O yX11_fret cX11_fret 7 (some .int) 4 [.ref (ad 0), .int (iZ i), .int (iZ bar), .int (iZ j), .int (iZ s)] (I, A) (pI fun r u2 => ((0 ≤ i ∧ i < I 6) ∧ (0 ≤ bar ∧ bar ≤ 7) → frF A (8 * i + bar) u2.2 ∧ repH u2.2 (8 * i + bar) (I 9).toNat (hdA I A i bar) ∧ ((0 ≤ j ∧ j < ((hdA I A i bar).length : Int)) ∧ -1 ≤ s ∧ s < I 9 → r = (if s = -1 then ((hdA I A i bar).getD j.toNat (0, [])).1 else ((hdA I A i bar).getD j.toNat (0, [])).2.getD s.toNat 0) ∧ u2.1 = va_up I 0 0) ∧ (¬ ((0 ≤ j ∧ j < ((hdA I A i bar).length : Int)) ∧ -1 ≤ s ∧ s < I 9) → u2.1 = va_up I 0 1)) ∧ (¬ (0 ≤ i ∧ i < I 6) → u2 = (va_up I 0 1, A)) ∧ ((0 ≤ i ∧ i < I 6) → ¬ (0 ≤ bar ∧ bar ≤ 7) → u2 = (va_up I 0 2, A))) := by
  refine ct_intro (own := RX11) (by decide) rfl hO.1 (Nat.le_of_ble_eq_true rfl) (by simp [Value.category]) (fun X J hJ => ?_)
  show J 0 [some (.ref (ad 0)), some (.int (iZ i)), some (.int (iZ bar)), some (.int (iZ j)), some (.int (iZ s)), none, none] [] (I, A)
  obtain ⟨⟨c1, c2⟩, c3⟩ := id hC
  refine v_ald0 (pc := 0) hJ dX11_fret_0 ?_
  refine v_ild1 (pc := 1) hJ dX11_fret_1 ?_
  refine v_cV1i (pc := 2) (q0 := 0) (ci := 8) hJ rfl rfl lkX11_219 (qX11_isChord hO (by omega) (by omega)) (Nat.le_of_ble_eq_true rfl) (rOk_L (by decide) (by decide)) dX11_fret_2 (fun r2 u2 g2 => ?_)
  skip
  refine v_if_eq (tgt := 20) (pc := 5) hJ dX11_fret_5 (by decide) (emR g2) (fun h5 => ?_) (fun h5 => ?_)
  · obtain ⟨hin, rfl, rfl⟩ := emF g2 h5
    refine v_iconst (pc := 20) hJ dX11_fret_20 ?_
    refine v_iret (pc := 21) hJ dX11_fret_21 ⟨_, rfl, ?_⟩
    exact ⟨fun q => absurd q.1 hin, fun _ => rfl, fun q => absurd q hin⟩
  · obtain ⟨hin, rfl, rfl⟩ := emT g2 h5
    refine v_ald0 (pc := 8) hJ dX11_fret_8 ?_
    refine v_ild2 (pc := 9) hJ dX11_fret_9 ?_
    refine v_cS1i (pc := 10) hJ lkX11_279 (qX11_isBar hO (by omega)) (Nat.le_of_ble_eq_true rfl) (rOk_L (by decide) (by decide)) dX11_fret_10 (fun r10 u10 g10 => ?_)
    obtain ⟨g10a, g10b, rfl⟩ := g10
    try simp only [up_s, up_n, up_up, ne_eq, Nat.reduceEqDiff, not_false_eq_true]
    refine v_iconst (pc := 13) hJ dX11_fret_13 ?_
    refine v_cV2i (pc := 14) (q0 := 0) (ci := 8) hJ rfl rfl lkX11_190 (qX11_right hO (by simp only [up_s, up_n, up_up, ne_eq, Nat.reduceEqDiff, not_false_eq_true]) g10a (by decide)) (Nat.le_of_ble_eq_true rfl) (rOk_L (by decide) (by decide)) dX11_fret_14 (fun r14 u14 g14 => ?_)
    have g14 := rightE ⟨g10a, g10b⟩ g14
    try simp only [up_s, up_n, up_up, ne_eq, Nat.reduceEqDiff, not_false_eq_true]
    refine v_if_ne (tgt := 22) (pc := 17) hJ dX11_fret_17 (by decide) (emR g14) (fun h17 => ?_) (fun h17 => ?_)
    · obtain ⟨hbr, rfl, rfl⟩ := emT g14 h17
      refine v_ald0 (pc := 22) hJ dX11_fret_22 ?_
      refine v_ild1 (pc := 23) hJ dX11_fret_23 ?_
      refine v_ild2 (pc := 24) hJ dX11_fret_24 ?_
      refine v_cV2i (pc := 25) (q0 := 0) (ci := 8) hJ rfl rfl lkX11_282 (findW hO (okC_I (by simp only [up_s, up_n, up_up, ne_eq, Nat.reduceEqDiff, not_false_eq_true]) hC) (okN_I (by simp only [up_s, up_n, up_up, ne_eq, Nat.reduceEqDiff, not_false_eq_true]) hN) (okH_I (by simp only [up_s, up_n, up_up, ne_eq, Nat.reduceEqDiff, not_false_eq_true]) (by simp only [up_s, up_n, up_up, ne_eq, Nat.reduceEqDiff, not_false_eq_true]) hH) (by simp only [up_s, up_n, up_up, ne_eq, Nat.reduceEqDiff, not_false_eq_true]; exact hin) hbr) (Nat.le_of_ble_eq_true rfl) (rOk_L (by decide) (by decide)) dX11_fret_25 (fun r25 u25 g25 => ?_)
      obtain ⟨I9, A9⟩ := u25
      obtain ⟨rfl, e9, f9, r9⟩ := g25
      dsimp only at e9 f9 r9
      subst e9
      rw [hdA_eq (I := I) (A := A) (by simp only [up_s, up_n, up_up, ne_eq, Nat.reduceEqDiff, not_false_eq_true]) rfl rfl rfl rfl] at r9 ⊢
      simp only [up_s, up_n, up_up, ne_eq, Nat.reduceEqDiff, not_false_eq_true] at r9
      try simp only [up_s, up_n, up_up, ne_eq, Nat.reduceEqDiff, not_false_eq_true]
      have hl6 := r9.2.1
      have hn9 := hN.1
      refine v_ist5 (pc := 28) hJ dX11_fret_28 (by decide) ?_
      refine v_ald0 (pc := 30) hJ dX11_fret_30 ?_
      refine v_ild3 (pc := 31) hJ dX11_fret_31 ?_
      refine v_if_lt (tgt := 60) (pc := 32) hJ dX11_fret_32 (by decide) (by omega) (fun h32 => ?_) (fun h32 => ?_)
      · refine v_iconst (pc := 60) hJ dX11_fret_60 ?_
        refine v_iconst (pc := 61) hJ dX11_fret_61 ?_
        refine v_cV2i (pc := 62) (q0 := 0) (ci := 8) hJ rfl rfl lkX11_190 (qX11_right0 hO (by first | (simp only [up_s, up_n, up_up, ne_eq, Nat.reduceEqDiff, not_false_eq_true]; done) | assumption | (simp only [up_s, up_n, up_up, ne_eq, Nat.reduceEqDiff, not_false_eq_true]; assumption)) (by decide)) (Nat.le_of_ble_eq_true rfl) (rOk_L (by decide) (by decide)) dX11_fret_62 (fun r62 u62 g62 => ?_)
        obtain ⟨rfl, rfl⟩ := g62
        try simp only [up_s, up_n, up_up, ne_eq, Nat.reduceEqDiff, not_false_eq_true]
        refine v_if_ne (tgt := 70) (pc := 65) hJ dX11_fret_65 (by decide) (by decide) (fun h => by first | exact absurd h (by decide) | exact absurd (by decide) h) (fun _ => ?_)
        refine v_iconst (pc := 68) hJ dX11_fret_68 ?_
        refine v_iret (pc := 69) hJ dX11_fret_69 ⟨_, rfl, ?_⟩
        refine ⟨fun _ => ⟨f9, r9, fun q => ?_, fun q => by simp only [up_up]⟩, fun q => absurd hin q, fun _ q => absurd hbr q⟩
        exfalso; omega
      · refine v_ild3 (pc := 35) hJ dX11_fret_35 ?_
        refine v_ild5 (pc := 36) hJ dX11_fret_36 ?_
        refine v_icmp_ge (tgt := 60) (pc := 38) hJ dX11_fret_38 (by decide) (by omega) (by omega) (fun h38 => ?_) (fun h38 => ?_)
        · refine v_iconst (pc := 60) hJ dX11_fret_60 ?_
          refine v_iconst (pc := 61) hJ dX11_fret_61 ?_
          refine v_cV2i (pc := 62) (q0 := 0) (ci := 8) hJ rfl rfl lkX11_190 (qX11_right0 hO (by first | (simp only [up_s, up_n, up_up, ne_eq, Nat.reduceEqDiff, not_false_eq_true]; done) | assumption | (simp only [up_s, up_n, up_up, ne_eq, Nat.reduceEqDiff, not_false_eq_true]; assumption)) (by decide)) (Nat.le_of_ble_eq_true rfl) (rOk_L (by decide) (by decide)) dX11_fret_62 (fun r62 u62 g62 => ?_)
          obtain ⟨rfl, rfl⟩ := g62
          try simp only [up_s, up_n, up_up, ne_eq, Nat.reduceEqDiff, not_false_eq_true]
          refine v_if_ne (tgt := 70) (pc := 65) hJ dX11_fret_65 (by decide) (by decide) (fun h => by first | exact absurd h (by decide) | exact absurd (by decide) h) (fun _ => ?_)
          refine v_iconst (pc := 68) hJ dX11_fret_68 ?_
          refine v_iret (pc := 69) hJ dX11_fret_69 ⟨_, rfl, ?_⟩
          refine ⟨fun _ => ⟨f9, r9, fun q => ?_, fun q => by simp only [up_up]⟩, fun q => absurd hin q, fun _ q => absurd hbr q⟩
          exfalso; omega
        · refine v_ild4 (pc := 41) hJ dX11_fret_41 ?_
          refine v_iconst (pc := 43) hJ dX11_fret_43 ?_
          refine v_icmp_lt (tgt := 60) (pc := 44) hJ dX11_fret_44 (by decide) (by omega) (by omega) (fun h44 => ?_) (fun h44 => ?_)
          · refine v_iconst (pc := 60) hJ dX11_fret_60 ?_
            refine v_iconst (pc := 61) hJ dX11_fret_61 ?_
            refine v_cV2i (pc := 62) (q0 := 0) (ci := 8) hJ rfl rfl lkX11_190 (qX11_right0 hO (by first | (simp only [up_s, up_n, up_up, ne_eq, Nat.reduceEqDiff, not_false_eq_true]; done) | assumption | (simp only [up_s, up_n, up_up, ne_eq, Nat.reduceEqDiff, not_false_eq_true]; assumption)) (by decide)) (Nat.le_of_ble_eq_true rfl) (rOk_L (by decide) (by decide)) dX11_fret_62 (fun r62 u62 g62 => ?_)
            obtain ⟨rfl, rfl⟩ := g62
            try simp only [up_s, up_n, up_up, ne_eq, Nat.reduceEqDiff, not_false_eq_true]
            refine v_if_ne (tgt := 70) (pc := 65) hJ dX11_fret_65 (by decide) (by decide) (fun h => by first | exact absurd h (by decide) | exact absurd (by decide) h) (fun _ => ?_)
            refine v_iconst (pc := 68) hJ dX11_fret_68 ?_
            refine v_iret (pc := 69) hJ dX11_fret_69 ⟨_, rfl, ?_⟩
            refine ⟨fun _ => ⟨f9, r9, fun q => ?_, fun q => by simp only [up_up]⟩, fun q => absurd hin q, fun _ q => absurd hbr q⟩
            exfalso; omega
          · refine v_ild4 (pc := 47) hJ dX11_fret_47 ?_
            refine v_ald0 (pc := 49) hJ dX11_fret_49 ?_
            refine mg9 (pc := 50) hJ dX11_fret_50 ?_
            try simp only [up_s, up_n, up_up, ne_eq, Nat.reduceEqDiff, not_false_eq_true]
            refine v_icmp_ge (tgt := 60) (pc := 53) hJ dX11_fret_53 (by decide) (by omega) (by omega) (fun h53 => ?_) (fun h53 => ?_)
            · refine v_iconst (pc := 60) hJ dX11_fret_60 ?_
              refine v_iconst (pc := 61) hJ dX11_fret_61 ?_
              refine v_cV2i (pc := 62) (q0 := 0) (ci := 8) hJ rfl rfl lkX11_190 (qX11_right0 hO (by first | (simp only [up_s, up_n, up_up, ne_eq, Nat.reduceEqDiff, not_false_eq_true]; done) | assumption | (simp only [up_s, up_n, up_up, ne_eq, Nat.reduceEqDiff, not_false_eq_true]; assumption)) (by decide)) (Nat.le_of_ble_eq_true rfl) (rOk_L (by decide) (by decide)) dX11_fret_62 (fun r62 u62 g62 => ?_)
              obtain ⟨rfl, rfl⟩ := g62
              try simp only [up_s, up_n, up_up, ne_eq, Nat.reduceEqDiff, not_false_eq_true]
              refine v_if_ne (tgt := 70) (pc := 65) hJ dX11_fret_65 (by decide) (by decide) (fun h => by first | exact absurd h (by decide) | exact absurd (by decide) h) (fun _ => ?_)
              refine v_iconst (pc := 68) hJ dX11_fret_68 ?_
              refine v_iret (pc := 69) hJ dX11_fret_69 ⟨_, rfl, ?_⟩
              refine ⟨fun _ => ⟨f9, r9, fun q => ?_, fun q => by simp only [up_up]⟩, fun q => absurd hin q, fun _ q => absurd hbr q⟩
              exfalso; omega
            · refine v_iconst (pc := 56) hJ dX11_fret_56 ?_
              refine v_goto (tgt := 61) (pc := 57) hJ dX11_fret_57 (by decide) ?_
              refine v_iconst (pc := 61) hJ dX11_fret_61 ?_
              refine v_cV2i (pc := 62) (q0 := 0) (ci := 8) hJ rfl rfl lkX11_190 (qX11_right1 hO (by first | (simp only [up_s, up_n, up_up, ne_eq, Nat.reduceEqDiff, not_false_eq_true]; done) | assumption | (simp only [up_s, up_n, up_up, ne_eq, Nat.reduceEqDiff, not_false_eq_true]; assumption))) (Nat.le_of_ble_eq_true rfl) (rOk_L (by decide) (by decide)) dX11_fret_62 (fun r62 u62 g62 => ?_)
              obtain ⟨rfl, rfl⟩ := g62
              try simp only [up_s, up_n, up_up, ne_eq, Nat.reduceEqDiff, not_false_eq_true]
              refine v_if_ne (tgt := 70) (pc := 65) hJ dX11_fret_65 (by decide) (by decide) (fun _ => ?_) (fun h => by first | exact absurd h (by decide) | exact absurd (by decide) h)
              refine v_bipush (pc := 70) hJ dX11_fret_70 (by decide) ?_
              refine v_ild1 (pc := 72) hJ dX11_fret_72 ?_
              refine v_imul (pc := 73) hJ dX11_fret_73 ?_
              refine v_ild2 (pc := 74) hJ dX11_fret_74 ?_
              refine v_iadd (pc := 75) hJ dX11_fret_75 ?_
              refine v_ist6 (pc := 76) hJ dX11_fret_76 (by decide) ?_
              refine v_ild4 (pc := 78) hJ dX11_fret_78 ?_
              refine v_iconst (pc := 80) hJ dX11_fret_80 ?_
              refine v_icmp_ne (tgt := 99) (pc := 81) hJ dX11_fret_81 (by decide) (by omega) (by omega) (fun h81 => ?_) (fun h81 => ?_)
              · refine v_ald0 (pc := 99) hJ dX11_fret_99 ?_
                refine mg39 (pc := 100) hJ dX11_fret_100 ?_
                refine v_bipush (pc := 103) hJ dX11_fret_103 (by decide) ?_
                refine v_ild6 (pc := 105) hJ dX11_fret_105 ?_
                refine v_imul (pc := 107) hJ dX11_fret_107 ?_
                refine v_bipush (pc := 108) hJ dX11_fret_108 (by decide) ?_
                refine v_ild3 (pc := 110) hJ dX11_fret_110 ?_
                refine v_imul (pc := 111) hJ dX11_fret_111 ?_
                refine v_iadd (pc := 112) hJ dX11_fret_112 ?_
                refine v_ild4 (pc := 113) hJ dX11_fret_113 ?_
                refine v_iadd (pc := 115) hJ dX11_fret_115 ?_
                refine ma39 (pc := 116) hJ (by omega) (by omega) dX11_fret_116 ?_
                try simp only [up_s, up_n, up_up, ne_eq, Nat.reduceEqDiff, not_false_eq_true]
                refine v_iret (pc := 117) hJ dX11_fret_117 ⟨_, rfl, ?_⟩
                refine ⟨fun _ => ⟨f9, r9, fun q => ⟨?_, rfl⟩, fun q => absurd (by omega) q⟩, fun q => absurd hin q, fun _ q => absurd hbr q⟩
                rw [if_neg h81]
                have r10 := (r9.2.2 j.toNat (by omega)).2 s.toNat (by omega)
                rw [show ((j.toNat : Nat) : Int) = j by omega, show ((s.toNat : Nat) : Int) = s by omega] at r10
                exact r10
              · refine v_ald0 (pc := 84) hJ dX11_fret_84 ?_
                refine mg40 (pc := 85) hJ dX11_fret_85 ?_
                refine v_bipush (pc := 88) hJ dX11_fret_88 (by decide) ?_
                refine v_ild6 (pc := 90) hJ dX11_fret_90 ?_
                refine v_imul (pc := 92) hJ dX11_fret_92 ?_
                refine v_ild3 (pc := 93) hJ dX11_fret_93 ?_
                refine v_iadd (pc := 94) hJ dX11_fret_94 ?_
                refine ma40 (pc := 95) hJ (by omega) (by omega) dX11_fret_95 ?_
                try simp only [up_s, up_n, up_up, ne_eq, Nat.reduceEqDiff, not_false_eq_true]
                refine v_goto (tgt := 117) (pc := 96) hJ dX11_fret_96 (by decide) ?_
                refine v_iret (pc := 117) hJ dX11_fret_117 ⟨_, rfl, ?_⟩
                refine ⟨fun _ => ⟨f9, r9, fun q => ⟨?_, rfl⟩, fun q => absurd (by omega) q⟩, fun q => absurd hin q, fun _ q => absurd hbr q⟩
                rw [if_pos h81]
                have r10 := ((r9.2.2 j.toNat (by omega)).1).1
                rw [show ((j.toNat : Nat) : Int) = j by omega] at r10
                exact r10
    · obtain ⟨hbr, rfl, rfl⟩ := emF g14 h17
      refine v_iconst (pc := 20) hJ dX11_fret_20 ?_
      refine v_iret (pc := 21) hJ dX11_fret_21 ⟨_, rfl, ?_⟩
      exact ⟨fun q => absurd q.2 hbr, fun q => absurd hin q, fun _ _ => by simp only [up_up]⟩
def ab0 (x : Int) : Int := if x < 0 then 0 else x
/-- how far the frets of two hands are apart -/
def chN (f g : Int → Int) : Nat → Int
  | 0 => 0
  | s + 1 => chN f g s + (if ab0 (f s) < ab0 (g s) then ab0 (g s) - ab0 (f s) else ab0 (f s) - ab0 (g s))
theorem chN_in {f g : Int → Int} : ∀ n : Nat, (∀ s : Nat, s < n → (-1 ≤ f s ∧ f s ≤ 9) ∧ -1 ≤ g s ∧ g s ≤ 9) → 0 ≤ chN f g n ∧ chN f g n ≤ 9 * n
  | 0, _ => by simp [chN]
  | n + 1, h => by
    have h1 := chN_in n (fun s hs => h s (by omega))
    have h2 := h n (by omega)
    rw [chN]
    unfold ab0
    repeat' split
    all_goals omega
theorem chN_eq {f g f2 g2 : Int → Int} : ∀ n : Nat, (∀ s : Nat, s < n → f s = f2 s ∧ g s = g2 s) → chN f g n = chN f2 g2 n
  | 0, _ => rfl
  | n + 1, h => by
    rw [chN, chN, chN_eq n (fun s hs => h s (by omega)), (h n (by omega)).1, (h n (by omega)).2]
set_option maxHeartbeats 4000000 in
set_option maxRecDepth 100000 in
theorem qX11_change {l : Launch} {D : va_G} {cI : ClassId} {ad : Nat → Nat} {O : OT} {adK adV : Nat → Nat} (hO : OG O adK adV) {I : Nat → Int} {A : Nat → Int → Int} {i j ni t bar : Int} (hi : 0 ≤ i ∧ i < 60) (hj : 0 ≤ j ∧ j < 6) (hni : 0 ≤ ni ∧ ni < 60) (ht : 0 ≤ t ∧ t < 6) (hb : 0 ≤ bar ∧ bar ≤ 7) (h9 : 0 ≤ I 9 ∧ I 9 ≤ 6) (hv : ∀ s : Int, 0 ≤ s → s < I 9 → (-1 ≤ A 39 (36 * (8 * i + bar) + 6 * j + s) ∧ A 39 (36 * (8 * i + bar) + 6 * j + s) ≤ 9) ∧ -1 ≤ A 39 (36 * (8 * ni + bar) + 6 * t + s) ∧ A 39 (36 * (8 * ni + bar) + 6 * t + s) ≤ 9) : MC l D cI ad O yX11_change cX11_change 10 (some .int) 1 [.ref (ad 0), .int (iZ i), .int (iZ j), .int (iZ ni), .int (iZ t), .int (iZ bar)] (I, A) (pI fun r u2 => r = chN (fun s => A 39 (36 * (8 * i + bar) + 6 * j + s)) (fun s => A 39 (36 * (8 * ni + bar) + 6 * t + s)) (I 9).toNat ∧ u2 = (I, A)) := by
  refine ct_intro (own := RX11) (by decide) rfl hO.1 (Nat.le_of_ble_eq_true rfl) (by simp [Value.category]) (fun X J hJ => ?_)
  have lp : ∀ (fu s : Nat) (a8 a9 : Option Value), (s : Int) ≤ I 9 → I 9 - (s : Int) < (fu : Int) → J 6 [some (.ref (ad 0)), some (.int (iZ (i))), some (.int (iZ (j))), some (.int (iZ (ni))), some (.int (iZ (t))), some (.int (iZ (bar))), some (.int (iZ (chN (fun s => A 39 (36 * (8 * i + bar) + 6 * j + s)) (fun s => A 39 (36 * (8 * ni + bar) + 6 * t + s)) s))), some (.int (iZ ((s : Int)))), a8, a9] [] (I, A) := by
    intro fu
    induction fu with
    | zero => intro s a8 a9 hs hmu; exfalso; omega
    | succ fu ih =>
      intro s a8 a9 hs hmu
      by_cases hsn : (s : Int) < I 9
      · obtain ⟨v1, v2⟩ := hv s (by omega) hsn
        have j92 : J 92 [some (.ref (ad 0)), some (.int (iZ (i))), some (.int (iZ (j))), some (.int (iZ (ni))), some (.int (iZ (t))), some (.int (iZ (bar))), some (.int (iZ (chN (fun s => A 39 (36 * (8 * i + bar) + 6 * j + s)) (fun s => A 39 (36 * (8 * ni + bar) + 6 * t + s)) s))), some (.int (iZ ((s : Int)))), some (.int (iZ (ab0 (A 39 (36 * (8 * i + bar) + 6 * j + (s : Int)))))), some (.int (iZ (ab0 (A 39 (36 * (8 * ni + bar) + 6 * t + (s : Int))))))] [] (I, A) := by
          have b1 : 0 ≤ ab0 (A 39 (36 * (8 * i + bar) + 6 * j + (s : Int))) ∧ ab0 (A 39 (36 * (8 * i + bar) + 6 * j + (s : Int))) ≤ 9 := by unfold ab0; split <;> omega
          have b2 : 0 ≤ ab0 (A 39 (36 * (8 * ni + bar) + 6 * t + (s : Int))) ∧ ab0 (A 39 (36 * (8 * ni + bar) + 6 * t + (s : Int))) ≤ 9 := by unfold ab0; split <;> omega
          refine v_ild6 (pc := 92) hJ dX11_change_92 ?_
          refine v_ild8 (pc := 94) hJ dX11_change_94 ?_
          refine v_ild9 (pc := 96) hJ dX11_change_96 ?_
          refine v_icmp_ge (tgt := 109) (pc := 98) hJ dX11_change_98 (by decide) (by omega) (by omega) (fun h98 => ?_) (fun h98 => ?_)
          · refine v_ild8 (pc := 109) hJ dX11_change_109 ?_
            refine v_ild9 (pc := 111) hJ dX11_change_111 ?_
            refine v_isub (pc := 113) hJ dX11_change_113 ?_
            refine v_iadd (pc := 114) hJ dX11_change_114 ?_
            refine v_ist6 (pc := 115) hJ dX11_change_115 (by decide) ?_
            refine v_inc7 (pc := 117) hJ dX11_change_117 (by decide) ?_
            refine v_goto (tgt := 6) (pc := 120) hJ dX11_change_120 (by decide) ?_
            have hn := ih (s + 1) (some (.int (iZ (ab0 (A 39 (36 * (8 * i + bar) + 6 * j + (s : Int))))))) (some (.int (iZ (ab0 (A 39 (36 * (8 * ni + bar) + 6 * t + (s : Int))))))) (by omega) (by omega)
            rw [chN] at hn
            first
              | (rw [if_pos (by omega)] at hn; exact hn)
              | (rw [if_neg (by omega)] at hn; exact hn)
          · refine v_ild9 (pc := 101) hJ dX11_change_101 ?_
            refine v_ild8 (pc := 103) hJ dX11_change_103 ?_
            refine v_isub (pc := 105) hJ dX11_change_105 ?_
            refine v_goto (tgt := 114) (pc := 106) hJ dX11_change_106 (by decide) ?_
            refine v_iadd (pc := 114) hJ dX11_change_114 ?_
            refine v_ist6 (pc := 115) hJ dX11_change_115 (by decide) ?_
            refine v_inc7 (pc := 117) hJ dX11_change_117 (by decide) ?_
            refine v_goto (tgt := 6) (pc := 120) hJ dX11_change_120 (by decide) ?_
            have hn := ih (s + 1) (some (.int (iZ (ab0 (A 39 (36 * (8 * i + bar) + 6 * j + (s : Int))))))) (some (.int (iZ (ab0 (A 39 (36 * (8 * ni + bar) + 6 * t + (s : Int))))))) (by omega) (by omega)
            rw [chN] at hn
            first
              | (rw [if_pos (by omega)] at hn; exact hn)
              | (rw [if_neg (by omega)] at hn; exact hn)
        refine v_ild7 (pc := 6) hJ dX11_change_6 ?_
        refine v_ald0 (pc := 8) hJ dX11_change_8 ?_
        refine mg9 (pc := 9) hJ dX11_change_9 ?_
        refine v_icmp_ge (tgt := 123) (pc := 12) hJ dX11_change_12 (by decide) (by omega) (by omega) (fun h12 => ?_) (fun h12 => ?_)
        · omega
        · refine v_ald0 (pc := 15) hJ dX11_change_15 ?_
          refine mg39 (pc := 16) hJ dX11_change_16 ?_
          refine v_bipush (pc := 19) hJ dX11_change_19 (by decide) ?_
          refine v_bipush (pc := 21) hJ dX11_change_21 (by decide) ?_
          refine v_ild1 (pc := 23) hJ dX11_change_23 ?_
          refine v_imul (pc := 24) hJ dX11_change_24 ?_
          refine v_ild5 (pc := 25) hJ dX11_change_25 ?_
          refine v_iadd (pc := 27) hJ dX11_change_27 ?_
          refine v_imul (pc := 28) hJ dX11_change_28 ?_
          refine v_bipush (pc := 29) hJ dX11_change_29 (by decide) ?_
          refine v_ild2 (pc := 31) hJ dX11_change_31 ?_
          refine v_imul (pc := 32) hJ dX11_change_32 ?_
          refine v_iadd (pc := 33) hJ dX11_change_33 ?_
          refine v_ild7 (pc := 34) hJ dX11_change_34 ?_
          refine v_iadd (pc := 36) hJ dX11_change_36 ?_
          refine ma39 (pc := 37) hJ (by omega) (by omega) dX11_change_37 ?_
          refine v_ist8 (pc := 38) hJ dX11_change_38 (by decide) ?_
          refine v_ald0 (pc := 40) hJ dX11_change_40 ?_
          refine mg39 (pc := 41) hJ dX11_change_41 ?_
          refine v_bipush (pc := 44) hJ dX11_change_44 (by decide) ?_
          refine v_bipush (pc := 46) hJ dX11_change_46 (by decide) ?_
          refine v_ild3 (pc := 48) hJ dX11_change_48 ?_
          refine v_imul (pc := 49) hJ dX11_change_49 ?_
          refine v_ild5 (pc := 50) hJ dX11_change_50 ?_
          refine v_iadd (pc := 52) hJ dX11_change_52 ?_
          refine v_imul (pc := 53) hJ dX11_change_53 ?_
          refine v_bipush (pc := 54) hJ dX11_change_54 (by decide) ?_
          refine v_ild4 (pc := 56) hJ dX11_change_56 ?_
          refine v_imul (pc := 58) hJ dX11_change_58 ?_
          refine v_iadd (pc := 59) hJ dX11_change_59 ?_
          refine v_ild7 (pc := 60) hJ dX11_change_60 ?_
          refine v_iadd (pc := 62) hJ dX11_change_62 ?_
          refine ma39 (pc := 63) hJ (by omega) (by omega) dX11_change_63 ?_
          refine v_ist9 (pc := 64) hJ dX11_change_64 (by decide) ?_
          refine v_ild8 (pc := 66) hJ dX11_change_66 ?_
          refine v_if_ge (tgt := 75) (pc := 68) hJ dX11_change_68 (by decide) (by omega) (fun h68 => ?_) (fun h68 => ?_)
          · refine v_ild8 (pc := 75) hJ dX11_change_75 ?_
            refine v_ist8 (pc := 77) hJ dX11_change_77 (by decide) ?_
            refine v_ild9 (pc := 79) hJ dX11_change_79 ?_
            refine v_if_ge (tgt := 88) (pc := 81) hJ dX11_change_81 (by decide) (by omega) (fun h81 => ?_) (fun h81 => ?_)
            · refine v_ild9 (pc := 88) hJ dX11_change_88 ?_
              refine v_ist9 (pc := 90) hJ dX11_change_90 (by decide) ?_
              rw [show ab0 (A 39 (36 * (8 * i + bar) + 6 * j + (s : Int))) = A 39 (36 * (8 * i + bar) + 6 * j + (s : Int)) by unfold ab0; rw [if_neg (by omega)], show ab0 (A 39 (36 * (8 * ni + bar) + 6 * t + (s : Int))) = A 39 (36 * (8 * ni + bar) + 6 * t + (s : Int)) by unfold ab0; rw [if_neg (by omega)]] at j92
              exact j92
            · refine v_iconst (pc := 84) hJ dX11_change_84 ?_
              refine v_goto (tgt := 90) (pc := 85) hJ dX11_change_85 (by decide) ?_
              refine v_ist9 (pc := 90) hJ dX11_change_90 (by decide) ?_
              rw [show ab0 (A 39 (36 * (8 * i + bar) + 6 * j + (s : Int))) = A 39 (36 * (8 * i + bar) + 6 * j + (s : Int)) by unfold ab0; rw [if_neg (by omega)], show ab0 (A 39 (36 * (8 * ni + bar) + 6 * t + (s : Int))) = 0 by unfold ab0; rw [if_pos (by omega)]] at j92
              exact j92
          · refine v_iconst (pc := 71) hJ dX11_change_71 ?_
            refine v_goto (tgt := 77) (pc := 72) hJ dX11_change_72 (by decide) ?_
            refine v_ist8 (pc := 77) hJ dX11_change_77 (by decide) ?_
            refine v_ild9 (pc := 79) hJ dX11_change_79 ?_
            refine v_if_ge (tgt := 88) (pc := 81) hJ dX11_change_81 (by decide) (by omega) (fun h81 => ?_) (fun h81 => ?_)
            · refine v_ild9 (pc := 88) hJ dX11_change_88 ?_
              refine v_ist9 (pc := 90) hJ dX11_change_90 (by decide) ?_
              rw [show ab0 (A 39 (36 * (8 * i + bar) + 6 * j + (s : Int))) = 0 by unfold ab0; rw [if_pos (by omega)], show ab0 (A 39 (36 * (8 * ni + bar) + 6 * t + (s : Int))) = A 39 (36 * (8 * ni + bar) + 6 * t + (s : Int)) by unfold ab0; rw [if_neg (by omega)]] at j92
              exact j92
            · refine v_iconst (pc := 84) hJ dX11_change_84 ?_
              refine v_goto (tgt := 90) (pc := 85) hJ dX11_change_85 (by decide) ?_
              refine v_ist9 (pc := 90) hJ dX11_change_90 (by decide) ?_
              rw [show ab0 (A 39 (36 * (8 * i + bar) + 6 * j + (s : Int))) = 0 by unfold ab0; rw [if_pos (by omega)], show ab0 (A 39 (36 * (8 * ni + bar) + 6 * t + (s : Int))) = 0 by unfold ab0; rw [if_pos (by omega)]] at j92
              exact j92
      · have es : s = (I 9).toNat := by omega
        subst es
        refine v_ild7 (pc := 6) hJ dX11_change_6 ?_
        refine v_ald0 (pc := 8) hJ dX11_change_8 ?_
        refine mg9 (pc := 9) hJ dX11_change_9 ?_
        refine v_icmp_ge (tgt := 123) (pc := 12) hJ dX11_change_12 (by decide) (by omega) (by omega) (fun h12 => ?_) (fun h12 => ?_)
        · refine v_ild6 (pc := 123) hJ dX11_change_123 ?_
          refine v_iret (pc := 125) hJ dX11_change_125 ⟨_, rfl, ?_⟩
          exact ⟨rfl, rfl⟩
        · omega
  show J 0 [some (.ref (ad 0)), some (.int (iZ i)), some (.int (iZ j)), some (.int (iZ ni)), some (.int (iZ t)), some (.int (iZ bar)), none, none, none, none] [] (I, A)
  refine v_iconst (pc := 0) hJ dX11_change_0 ?_
  refine v_ist6 (pc := 1) hJ dX11_change_1 (by decide) ?_
  refine v_iconst (pc := 3) hJ dX11_change_3 ?_
  refine v_ist7 (pc := 4) hJ dX11_change_4 (by decide) ?_
  exact lp 7 0 _ _ (by omega) (by omega)
