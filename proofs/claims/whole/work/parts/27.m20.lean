theorem sumP_ok {I : Nat → Int} {A : Nat → Int → Int} {bar r : Int} {u : sM} (h9 : 0 ≤ I 9 ∧ I 9 ≤ 6) (h6 : I 6 ≤ 60) (h : sumP I A bar r u) : (r = -1 ∧ ¬ allH I A bar) ∨ (0 ≤ r ∧ r ≤ 7000 ∧ allH I A bar) := by
  obtain ⟨-, -, -, h1, h2⟩ := h
  by_cases e : allH I A bar
  · obtain ⟨e1, -⟩ := h1 e
    have := mnN_in (f := rsA I A bar 0) (B := 7000) (by decide) (hdA I A 0 bar).length (e.2 0 (by omega) e.1) (fun k hk => rsA_in h9 h6 e (by omega) e.1 hk)
    exact Or.inr ⟨by omega, by omega, e⟩
  · exact Or.inl ⟨h2 e, e⟩
theorem allH_eq {I I1 : Nat → Int} {A A1 : Nat → Int → Int} {bar : Int} (h6 : I1 6 = I 6) (h9 : I1 9 = I 9) (h : frS A A1) : (allH I1 A1 bar ↔ allH I A bar) ∧ (∀ i, hdA I1 A1 i bar = hdA I A i bar) ∧ (∀ i j, rsA I1 A1 bar i j = rsA I A bar i j) ∧ ∀ i, jsA I1 A1 bar i = jsA I A bar i := by
  have e1 : ∀ i, hdA I1 A1 i bar = hdA I A i bar := fun i => by rw [← frS_hd (I := I) h]; exact hdA_eq h9 rfl rfl rfl rfl
  have e2 : ∀ i j, rsA I1 A1 bar i j = rsA I A bar i j := fun i j => by
    unfold rsA
    rw [h6, h9, show (fun i => hdA I1 A1 i bar) = fun i => hdA I A i bar from funext e1]
  refine ⟨by unfold allH; rw [h6]; simp only [e1], e1, e2, fun i => ?_⟩
  induction i with
  | zero => rw [jsA, jsA, e1, show rsA I1 A1 bar 0 = rsA I A bar 0 from funext (e2 0)]
  | succ i ih => rw [jsA, jsA, e1, e1, ih, h9]; simp only [e2]
/-- what play does -/
def playP (I : Nat → Int) (A : Nat → Int → Int) (bar r : Int) (u : sM) : Prop := okH I u.2 ∧ (∀ k, k ≠ 24 → k ≠ 38 → k ≠ 39 → k ≠ 40 → k ≠ 41 → k ≠ 42 → k ≠ 43 → k ≠ 44 → u.2 k = A k) ∧ (allH I A bar → r = mnN (rsA I A bar 0) (hdA I A 0 bar).length ∧ u.1 = va_up (va_up I 0 0) 10 bar ∧ ∀ i : Nat, (i : Int) < I 6 → u.2 24 i = (jsA I A bar i : Int)) ∧ (¬ allH I A bar → r = -1 ∧ u.1 = va_up I 0 0 ∧ u.2 24 = A 24)
theorem okH_24 {I : Nat → Int} {A : Nat → Int → Int} {F : Int → Int} (h : okH I A) : okH I (va_up A 24 F) := fun i bar a b c d => by
  rw [hdA_eq (I := I) (A := A) rfl (by simp only [up_n, ne_eq, Nat.reduceEqDiff, not_false_eq_true]) (by simp only [up_n, ne_eq, Nat.reduceEqDiff, not_false_eq_true]) (by simp only [up_n, ne_eq, Nat.reduceEqDiff, not_false_eq_true]) (by simp only [up_n, ne_eq, Nat.reduceEqDiff, not_false_eq_true])]
  rcases h i bar a b c d with q | q
  · exact Or.inl (by rw [up_n (by decide)]; exact q)
  · refine Or.inr ?_
    unfold repH
    simp only [up_n, ne_eq, Nat.reduceEqDiff, not_false_eq_true]
    exact q
set_option maxHeartbeats 4000000 in
set_option maxRecDepth 100000 in
theorem qX11_play {l : Launch} {D : va_G} {cI : ClassId} {ad : Nat → Nat} {O : OT} {adK adV : Nat → Nat} (hO : OG O adK adV) {I : Nat → Int} {A : Nat → Int → Int} {bar : Int} (hC : okC I A) (hN : okN I A) (hH : okH I A) (hb : inR bar) : MC l D cI ad O yX11_play cX11_play 3 (some .int) 5 [.ref (ad 0), .int (iZ bar)] (I, A) (pI fun r u2 => (0 ≤ bar ∧ bar ≤ 7 → playP I A bar r u2) ∧ (¬ (0 ≤ bar ∧ bar ≤ 7) → u2 = (va_up I 0 1, A))) := by
  refine ct_intro (own := RX11) (by decide) rfl hO.1 (Nat.le_of_ble_eq_true rfl) (by simp [Value.category]) (fun X J hJ => ?_)
  show J 0 [some (.ref (ad 0)), some (.int (iZ bar)), none] [] (I, A)
  obtain ⟨⟨c1, c2⟩, c3⟩ := id hC
  obtain ⟨n1, n2⟩ := id hN
  have hq := fun (bar : Int) {A1 : Nat → Int → Int} (h : frS A A1) => allH_eq (I := I) (I1 := va_up I 0 0) (A := A) (A1 := A1) (bar := bar) (by simp only [up_s, up_n, up_up, ne_eq, Nat.reduceEqDiff, not_false_eq_true]) (by simp only [up_s, up_n, up_up, ne_eq, Nat.reduceEqDiff, not_false_eq_true]) h
  refine v_ald0 (pc := 0) hJ dX11_play_0 ?_
  refine v_iconst (pc := 1) hJ dX11_play_1 ?_
  refine mp0 (pc := 2) hJ dX11_play_2 ?_
  refine v_ald0 (pc := 5) hJ dX11_play_5 ?_
  refine v_ild1 (pc := 6) hJ dX11_play_6 ?_
  refine v_cS1i (pc := 7) hJ lkX11_279 (qX11_isBar hO (by omega)) (Nat.le_of_ble_eq_true rfl) (rOk_L (by decide) (by decide)) dX11_play_7 (fun r7 u7 g7 => ?_)
  obtain ⟨g7a, g7b, rfl⟩ := g7
  try simp only [up_s, up_n, up_up, ne_eq, Nat.reduceEqDiff, not_false_eq_true]
  refine v_iconst (pc := 10) hJ dX11_play_10 ?_
  refine v_cV2i (pc := 11) (q0 := 0) (ci := 8) hJ rfl rfl lkX11_190 (qX11_right hO (by simp only [up_s, up_n, up_up, ne_eq, Nat.reduceEqDiff, not_false_eq_true]) g7a (by decide)) (Nat.le_of_ble_eq_true rfl) (rOk_L (by decide) (by decide)) dX11_play_11 (fun r11 u11 g11 => ?_)
  have g11 := rightE ⟨g7a, g7b⟩ g11
  try simp only [up_s, up_n, up_up, ne_eq, Nat.reduceEqDiff, not_false_eq_true]
  refine v_if_ne (tgt := 19) (pc := 14) hJ dX11_play_14 (by decide) (emR g11) (fun h14 => ?_) (fun h14 => ?_)
  · obtain ⟨hbr, rfl, rfl⟩ := emT g11 h14
    refine v_ald0 (pc := 19) hJ dX11_play_19 ?_
    refine v_ild1 (pc := 20) hJ dX11_play_20 ?_
    refine v_cV1i (pc := 21) (q0 := 0) (ci := 8) hJ rfl rfl lkX11_290 (qX11_sum hO (okC_I (by simp only [up_s, up_n, up_up, ne_eq, Nat.reduceEqDiff, not_false_eq_true]) hC) (okN_I (by simp only [up_s, up_n, up_up, ne_eq, Nat.reduceEqDiff, not_false_eq_true]) hN) (okH_I (by simp only [up_s, up_n, up_up, ne_eq, Nat.reduceEqDiff, not_false_eq_true]) (by simp only [up_s, up_n, up_up, ne_eq, Nat.reduceEqDiff, not_false_eq_true]) hH) hbr) (Nat.le_of_ble_eq_true rfl) (rOk_L (by decide) (by decide)) dX11_play_21 (fun r21 u21 g21 => ?_)
    have hsm := sumP_ok (by simp only [up_s, up_n, up_up, ne_eq, Nat.reduceEqDiff, not_false_eq_true]; exact n1) (by simp only [up_s, up_n, up_up, ne_eq, Nat.reduceEqDiff, not_false_eq_true]; exact c2) g21
    obtain ⟨I2, A2⟩ := u21
    obtain ⟨s1, s2, s3, s4, s5⟩ := g21
    dsimp only at s1 s2 s3 s4 s5
    subst s1
    have hq0 := hq bar (A1 := A) (fun k _ _ _ _ _ _ _ => rfl)
    rw [hq0.1] at hsm
    try simp only [up_s, up_n, up_up, ne_eq, Nat.reduceEqDiff, not_false_eq_true]
    refine v_ist2 (pc := 24) hJ dX11_play_24 (by decide) ?_
    refine v_ild2 (pc := 25) hJ dX11_play_25 ?_
    refine v_iconst (pc := 26) hJ dX11_play_26 ?_
    refine v_icmp_eq (tgt := 36) (pc := 27) hJ dX11_play_27 (by decide) (by rcases hsm with q | q <;> omega) (by decide) (fun h27 => ?_) (fun h27 => ?_)
    · refine v_ild2 (pc := 36) hJ dX11_play_36 ?_
      refine v_iret (pc := 37) hJ dX11_play_37 ⟨_, rfl, ?_⟩
      refine ⟨fun _ => ?_, fun q => absurd hbr q⟩
      have hno : ¬ allH I A bar := by rcases hsm with q | q; exact q.2; omega
      refine ⟨okH_I (I := va_up I 0 0) (by simp only [up_s, up_n, up_up, ne_eq, Nat.reduceEqDiff, not_false_eq_true]) (by simp only [up_s, up_n, up_up, ne_eq, Nat.reduceEqDiff, not_false_eq_true]) s3, fun k h24 h38 h39 h40 h41 h42 h43 h44 => s2 k h38 h39 h40 h41 h42 h43 h44, fun q => absurd q hno, fun _ => ⟨h27, rfl, s2 24 (by decide) (by decide) (by decide) (by decide) (by decide) (by decide) (by decide)⟩⟩
    · refine v_ald0 (pc := 30) hJ dX11_play_30 ?_
      refine v_ild1 (pc := 31) hJ dX11_play_31 ?_
      refine v_ild2 (pc := 32) hJ dX11_play_32 ?_
      have hal : allH I A bar := by rcases hsm with q | q; omega; exact q.2.2
      refine v_cV2v (pc := 33) (q0 := 0) (ci := 8) hJ rfl rfl lkX11_293 (qX11_plays hO (frS_C s2 (okC_I (by simp only [up_s, up_n, up_up, ne_eq, Nat.reduceEqDiff, not_false_eq_true]) hC)) (frS_N s2 (okN_I (by simp only [up_s, up_n, up_up, ne_eq, Nat.reduceEqDiff, not_false_eq_true]) hN)) hbr ((allH_eq (I := va_up I 0 0) rfl rfl s2).1.mpr (hq0.1.mpr hal)) (by rw [(s4 (hq0.1.mpr hal)).1, (allH_eq (I := va_up I 0 0) rfl rfl s2).2.1, show rsA (va_up I 0 0) A2 bar 0 = rsA (va_up I 0 0) A bar 0 from funext ((allH_eq (I := va_up I 0 0) rfl rfl s2).2.2.1 0)]) (fun i i0 i1 => by rw [(allH_eq (I := va_up I 0 0) rfl rfl s2).2.1]; simp only [(allH_eq (I := va_up I 0 0) (bar := bar) rfl rfl s2).2.2.1]; exact (s4 (hq0.1.mpr hal)).2 i i0 i1)) (Nat.le_of_ble_eq_true rfl) (rOk_L (by decide) (by decide)) dX11_play_33 (fun u33 g33 => ?_)
      obtain ⟨P, hP, rfl⟩ := g33
      try simp only [up_s, up_n, up_up, ne_eq, Nat.reduceEqDiff, not_false_eq_true]
      refine v_ild2 (pc := 36) hJ dX11_play_36 ?_
      refine v_iret (pc := 37) hJ dX11_play_37 ⟨_, rfl, ?_⟩
      refine ⟨fun _ => ?_, fun q => absurd hbr q⟩
      obtain ⟨e1, e2⟩ := s4 (hq0.1.mpr hal)
      simp only [hq0.2.1] at e1
      rw [show rsA (va_up I 0 0) A bar 0 = rsA I A bar 0 from funext (hq0.2.2.1 0)] at e1
      refine ⟨okH_I (I := va_up I 0 0) (by simp only [up_s, up_n, up_up, ne_eq, Nat.reduceEqDiff, not_false_eq_true]) (by simp only [up_s, up_n, up_up, ne_eq, Nat.reduceEqDiff, not_false_eq_true]) (okH_24 s3), fun k h24 h38 h39 h40 h41 h42 h43 h44 => ?_, fun _ => ⟨e1, rfl, fun i hi => ?_⟩, fun q => absurd hal q⟩
      · show va_up A2 24 P k = A k
        rw [up_n h24]; exact s2 k h38 h39 h40 h41 h42 h43 h44
      · show va_up A2 24 P 24 i = _
        rw [up_s, hP i (by simp only [up_s, up_n, up_up, ne_eq, Nat.reduceEqDiff, not_false_eq_true]; exact hi), (allH_eq (I := I) (I1 := va_up I 0 0) (by simp only [up_s, up_n, up_up, ne_eq, Nat.reduceEqDiff, not_false_eq_true]) (by simp only [up_s, up_n, up_up, ne_eq, Nat.reduceEqDiff, not_false_eq_true]) s2).2.2.2 i]
  · obtain ⟨hbr, rfl, rfl⟩ := emF g11 h14
    refine v_iconst (pc := 17) hJ dX11_play_17 ?_
    refine v_iret (pc := 18) hJ dX11_play_18 ⟨_, rfl, ?_⟩
    exact ⟨fun q => absurd q hbr, fun _ => by simp only [up_up]⟩
