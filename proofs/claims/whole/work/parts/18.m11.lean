/-- the song written: of the first lines, the place behind them, and the bytes -/
def wrN (S : Int → Int) (sz : Int) (nm : Int → List Int) : Nat → Int × List Int
  | 0 => (0, [])
  | n + 1 => ((wl S sz nm 1202 (wrN S sz nm n).1 [] [] 0).2.2 + 1, (((wrN S sz nm n).2 ++ (if 0 < n then [10] else [])) ++ (wl S sz nm 1202 (wrN S sz nm n).1 [] [] 0).1 ++ (if 0 < (wl S sz nm 1202 (wrN S sz nm n).1 [] [] 0).1.length then [10] else [])) ++ (wl S sz nm 1202 (wrN S sz nm n).1 [] [] 0).2.1)
def frX (I : Nat → Int) (A : Nat → Int → Int) (I1 : Nat → Int) (A1 : Nat → Int → Int) : Prop := (∀ k, k ≠ 26 → k ≠ 33 → k ≠ 36 → k ≠ 37 → I1 k = I k) ∧ (∀ k, k ≠ 25 → k ≠ 32 → k ≠ 34 → k ≠ 35 → A1 k = A k)
theorem frX_I {I I1 : Nat → Int} {A A1 : Nat → Int → Int} {j : Nat} {v : Int} (h : frX I A I1 A1) (hj : j = 26 ∨ j = 33 ∨ j = 36 ∨ j = 37) : frX I A (va_up I1 j v) A1 := ⟨fun k h1 h2 h3 h4 => by rw [up_n (by omega)]; exact h.1 k h1 h2 h3 h4, h.2⟩
theorem frX_A {I I1 : Nat → Int} {A A1 : Nat → Int → Int} {j : Nat} {v : Int → Int} (h : frX I A I1 A1) (hj : j = 25 ∨ j = 32 ∨ j = 34 ∨ j = 35) : frX I A I1 (va_up A1 j v) := ⟨h.1, fun k h1 h2 h3 h4 => by rw [up_n (by omega)]; exact h.2 k h1 h2 h3 h4⟩
theorem frX_W {I I1 I2 : Nat → Int} {A A1 A2 : Nat → Int → Int} (h : frX I A I1 A1) (h2 : frW I1 A1 I2 A2) : frX I A I2 A2 := ⟨fun k k1 k2 k3 k4 => by rw [h2.1 k k2 k3 k4]; exact h.1 k k1 k2 k3 k4, fun k k1 k2 k3 k4 => by rw [h2.2 k k2 k3 k4]; exact h.2 k k1 k2 k3 k4⟩
/-- a byte said -/
theorem say_eq {A : Nat → Int → Int} {n c : Int} : (if n < 4000 then va_up A 25 (zu (A 25) n c) else A) = va_up A 25 (if n < 4000 then zu (A 25) n c else A 25) := by
  split
  · rfl
  · rw [up_id]
set_option maxHeartbeats 4000000 in
set_option maxRecDepth 100000 in
theorem qX11_write {l : Launch} {D : va_G} {cI : ClassId} {ad : Nat → Nat} {O : OT} {adK adV : Nat → Nat} (hO : OG O adK adV) {I : Nat → Int} {A : Nat → Int → Int}  (h5 : I 5 = 0 ∨ I 5 = 1) (h7 : 0 ≤ I 7 ∧ I 7 ≤ 40) (hC : okC I A) (hI : okI I A) : MC l D cI ad O yX11_write cX11_write 5 (some .int) 9 [.ref (ad 0)] (I, A) (pI fun r u2 => (I 5 = 0 → r = 0 ∧ u2 = (va_up (va_up I 0 0) 26 0, A)) ∧ (I 5 = 1 → r = (wrN (A 19) (I 21) (nmA A) (I 7).toNat).2.length ∧ frX (va_up I 0 0) A u2.1 u2.2 ∧ hasO (u2.2 25) (u2.1 26) (wrN (A 19) (I 21) (nmA A) (I 7).toNat).2)) := by
  refine ct_intro (own := RX11) (by decide) rfl hO.1 (Nat.le_of_ble_eq_true rfl) (by simp [Value.category]) (fun X J hJ => ?_)
  obtain ⟨⟨c1, c2⟩, c3⟩ := id hC
  obtain ⟨s1, s2, s3⟩ := id hI
  have hCw : ∀ {I1 : Nat → Int} {A1 : Nat → Int → Int}, frX (va_up I 0 0) A I1 A1 → okC I1 A1 := fun h => by
    unfold okC
    rw [h.1 6 (by decide) (by decide) (by decide) (by decide), h.2 11 (by decide) (by decide) (by decide) (by decide), h.2 12 (by decide) (by decide) (by decide) (by decide), h.2 13 (by decide) (by decide) (by decide) (by decide)]
    simp only [up_s, up_n, up_up, ne_eq, Nat.reduceEqDiff, not_false_eq_true]
    exact hC
  have hIw : ∀ {I1 : Nat → Int} {A1 : Nat → Int → Int}, frX (va_up I 0 0) A I1 A1 → okI I1 A1 := fun h => by
    unfold okI
    rw [h.1 6 (by decide) (by decide) (by decide) (by decide), h.1 21 (by decide) (by decide) (by decide) (by decide), h.2 19 (by decide) (by decide) (by decide) (by decide)]
    simp only [up_s, up_n, up_up, ne_eq, Nat.reduceEqDiff, not_false_eq_true]
    exact hI
  obtain ⟨wf, hwf⟩ : ∃ z, z = wl (A 19) (I 21) (nmA A) 1202 := ⟨_, rfl⟩
  have hWw : ∀ {I1 : Nat → Int} {A1 : Nat → Int → Int} {p : Int}, frX (va_up I 0 0) A I1 A1 → (0 ≤ p ∧ p ≤ 1300) → MC l D cI ad O yX11_writes cX11_writes 6 (some .int) 8 [.ref (ad 0), .int (iZ p)] (I1, A1) (pI fun r u2 => (wf p [] [] 0).2.2 = r ∧ (0 ≤ r ∧ (r ≤ p ∨ r ≤ 1200)) ∧ frW I1 A1 u2.1 u2.2 ∧ hasL (u2.2 34) (u2.1 36) (wf p [] [] 0).1 ∧ hasL (u2.2 35) (u2.1 37) (wf p [] [] 0).2.1 ∧ u2.1 36 < 3000 ∧ u2.1 37 < 3000) := fun {I1 A1 p} h hp => by
    have := qX11_writes (l := l) (D := D) (cI := cI) (ad := ad) hO (I := I1) (A := A1) (p := p) hp (hCw h) (hIw h)
    rw [show nmA A1 = nmA A by unfold nmA; rw [h.2 11 (by decide) (by decide) (by decide) (by decide), h.2 12 (by decide) (by decide) (by decide) (by decide), h.2 13 (by decide) (by decide) (by decide) (by decide)], h.2 19 (by decide) (by decide) (by decide) (by decide), h.1 21 (by decide) (by decide) (by decide) (by decide), show va_up I 0 0 21 = I 21 by simp only [up_s, up_n, up_up, ne_eq, Nat.reduceEqDiff, not_false_eq_true], ← hwf] at this
    exact this
  have hws : ∀ n : Nat, wrN (A 19) (I 21) (nmA A) (n + 1) = ((wf (wrN (A 19) (I 21) (nmA A) n).1 [] [] 0).2.2 + 1, (((wrN (A 19) (I 21) (nmA A) n).2 ++ (if 0 < n then [10] else [])) ++ (wf (wrN (A 19) (I 21) (nmA A) n).1 [] [] 0).1 ++ (if 0 < (wf (wrN (A 19) (I 21) (nmA A) n).1 [] [] 0).1.length then [10] else [])) ++ (wf (wrN (A 19) (I 21) (nmA A) n).1 [] [] 0).2.1) := fun n => by rw [wrN, hwf]
  obtain ⟨wr, hwr⟩ : ∃ z, z = wrN (A 19) (I 21) (nmA A) := ⟨_, rfl⟩
  rw [← hwr] at hws hJ
  have lp : ∀ (m : Nat) (l0 : Nat) (a3 a4 : Option Value) (I1 : Nat → Int) (A1 : Nat → Int → Int), I 5 = 1 → (l0 : Int) ≤ I 7 → frX (va_up I 0 0) A I1 A1 → hasO (A1 25) (I1 26) (wr l0).2 → (0 ≤ (wr l0).1 ∧ (wr l0).1 ≤ 1201 + l0) → ((wr l0).2.length ≤ 6010 * l0) → I 7 - (l0 : Int) < (m : Int) → J 23 [some (.ref (ad 0)), some (.int (iZ (wr l0).1)), some (.int (iZ (l0 : Int))), a3, a4] [] (I1, A1) := by
    intro m
    induction m with
    | zero => intro l0 a3 a4 I1 A1 h51 hl hw hO2 hk hln hm; exfalso; omega
    | succ m ih0 =>
      intro l0 a3 a4 I1 A1 h51 hl hw hO2 hk hln hm
      have e7 : I1 7 = I 7 := by rw [hw.1 7 (by decide) (by decide) (by decide) (by decide)]; simp only [up_s, up_n, up_up, ne_eq, Nat.reduceEqDiff, not_false_eq_true]
      have hO21 := hO2.1
      obtain ⟨k, hkk⟩ : ∃ z, z = (wr l0).1 := ⟨_, rfl⟩
      obtain ⟨w, hww⟩ : ∃ z, z = wf k [] [] 0 := ⟨_, rfl⟩
      obtain ⟨xs, hxs⟩ : ∃ z, z = (wr l0).2 ++ (if 0 < l0 then [10] else []) := ⟨_, rfl⟩
      have hxl : xs.length ≤ 6010 * l0 + 1 := by rw [hxs, List.length_append]; split <;> simp only [List.length_cons, List.length_nil] <;> omega
      have hws1 := hws l0
      rw [← hkk, ← hww, ← hxs] at hws1
      rw [← hkk]
      have lb : ∀ (fu : Nat) (j : Nat) (I3 : Nat → Int) (A3 : Nat → Int → Int) (ys : List Int), (j ≤ w.2.1.length) → (frX (va_up I 0 0) A I3 A3) → (hasL (A3 35) (I3 37) w.2.1) → (hasO (A3 25) (I3 26) (ys ++ w.2.1.take j)) → (ys.length ≤ 6010 * l0 + 3002) → (w.2.1.length < 3000) → ((0 ≤ w.2.2 ∧ (w.2.2 ≤ k ∨ w.2.2 ≤ 1200))) → (wr (l0 + 1) = (w.2.2 + 1, ys ++ w.2.1)) → ((l0 : Int) < I 7) → (3000 - (j : Int)) < (fu : Int) → J 92 [some (.ref (ad 0)), some (.int (iZ k)), some (.int (iZ (l0 : Int))), some (.int (iZ w.2.2)), some (.int (iZ (j : Int)))] [] (I3, A3) := by
        intro fu
        induction fu with
        | zero => intro j  I3  A3  ys hj hw3 hL3 hO3 hy hl3 hk3 hfin3 hl7 hmu; exfalso; omega
        | succ fu ih =>
          intro j  I3  A3  ys hj hw3 hL3 hO3 hy hl3 hk3 hfin3 hl7 hmu
          refine v_ild4 (pc := 92) hJ dX11_write_92 ?_
          refine v_ald0 (pc := 94) hJ dX11_write_94 ?_
          refine mg37 (pc := 95) hJ dX11_write_95 ?_
          have hL31 := hL3.1
          have hO31 := hO3.1
          simp only [List.length_append, List.length_take] at hO31
          refine v_icmp_ge (tgt := 118) (pc := 98) hJ dX11_write_98 (by decide) (by omega) (by omega) (fun h98 => ?_) (fun h98 => ?_)
          · refine v_ild3 (pc := 118) hJ dX11_write_118 ?_
            refine v_iconst (pc := 119) hJ dX11_write_119 ?_
            refine v_iadd (pc := 120) hJ dX11_write_120 ?_
            refine v_ist1 (pc := 121) hJ dX11_write_121 (by decide) ?_
            refine v_inc2 (pc := 122) hJ dX11_write_122 (by decide) ?_
            refine v_goto (tgt := 23) (pc := 125) hJ dX11_write_125 (by decide) ?_
            rw [List.take_of_length_le (by omega)] at hO3
            have hn := ih0 (l0 + 1) (some (.int (iZ w.2.2))) (some (.int (iZ (j : Int)))) I3 A3 h51 (by omega) hw3 (by rw [hfin3]; exact hO3) (by rw [hfin3]; constructor <;> simp only <;> omega) (by rw [hfin3]; simp only [List.length_append]; omega) (by omega)
            rw [hfin3] at hn
            exact hn
          · refine v_ald0 (pc := 101) hJ dX11_write_101 ?_
            refine v_ald0 (pc := 102) hJ dX11_write_102 ?_
            refine mg35 (pc := 103) hJ dX11_write_103 ?_
            refine v_ild4 (pc := 106) hJ dX11_write_106 ?_
            refine ma35 (pc := 108) hJ (by omega) (by omega) dX11_write_108 ?_
            refine v_cV1v (pc := 109) (q0 := 0) (ci := 8) hJ rfl rfl lkX11_243 (qX11_says hO (by have := hO3.1; simp only [List.length_append, List.length_take] at this; omega)) (Nat.le_of_ble_eq_true rfl) (rOk_L (by decide) (by decide)) dX11_write_109 (fun u109 g109 => ?_)
            subst g109
            rw [say_eq]
            refine v_inc4 (pc := 112) hJ dX11_write_112 (by decide) ?_
            refine v_goto (tgt := 92) (pc := 115) hJ dX11_write_115 (by decide) ?_
            rw [hL3.2 j (by omega)]
            refine ih (j + 1) _ _ ys (by omega) (frX_I (frX_A hw3 (by decide)) (by decide)) ?_ ?_ hy hl3 hk3 hfin3 hl7 (by omega)
            · simp only [up_s, up_n, up_up, ne_eq, Nat.reduceEqDiff, not_false_eq_true]; exact hL3
            · simp only [up_s, up_n, up_up, ne_eq, Nat.reduceEqDiff, not_false_eq_true]; rw [take_add (by omega), ← List.append_assoc]; exact hasO_add hO3
      have la : ∀ (fu : Nat) (j : Nat) (I3 : Nat → Int) (A3 : Nat → Int → Int), (j ≤ w.1.length) → (frX (va_up I 0 0) A I3 A3) → (hasL (A3 34) (I3 36) w.1) → (hasL (A3 35) (I3 37) w.2.1) → (hasO (A3 25) (I3 26) (xs ++ w.1.take j)) → (w.1.length < 3000 ∧ w.2.1.length < 3000) → ((0 ≤ w.2.2 ∧ (w.2.2 ≤ k ∨ w.2.2 ≤ 1200))) → ((l0 : Int) < I 7) → (3000 - (j : Int)) < (fu : Int) → J 50 [some (.ref (ad 0)), some (.int (iZ k)), some (.int (iZ (l0 : Int))), some (.int (iZ w.2.2)), some (.int (iZ (j : Int)))] [] (I3, A3) := by
        intro fu
        induction fu with
        | zero => intro j  I3  A3 hj hw3 hU3 hL3 hO3 hl3 hk3 hl7 hmu; exfalso; omega
        | succ fu ih =>
          intro j  I3  A3 hj hw3 hU3 hL3 hO3 hl3 hk3 hl7 hmu
          refine v_ild4 (pc := 50) hJ dX11_write_50 ?_
          refine v_ald0 (pc := 52) hJ dX11_write_52 ?_
          refine mg36 (pc := 53) hJ dX11_write_53 ?_
          have hU31 := hU3.1
          have hO31 := hO3.1
          simp only [List.length_append, List.length_take] at hO31
          refine v_icmp_ge (tgt := 76) (pc := 56) hJ dX11_write_56 (by decide) (by omega) (by omega) (fun h56 => ?_) (fun h56 => ?_)
          · rw [List.take_of_length_le (by omega)] at hO3
            have hO32 := hO3.1
            rw [List.length_append] at hO32
            refine v_ald0 (pc := 76) hJ dX11_write_76 ?_
            refine mg36 (pc := 77) hJ dX11_write_77 ?_
            refine v_if_le (tgt := 89) (pc := 80) hJ dX11_write_80 (by decide) (by omega) (fun h80 => ?_) (fun h80 => ?_)
            · refine v_iconst (pc := 89) hJ dX11_write_89 ?_
              refine v_ist4 (pc := 90) hJ dX11_write_90 (by decide) ?_
              refine lb 3001 0 _ _ (xs ++ w.1 ++ []) (by omega) hw3 hL3 (by rw [List.append_nil, List.take_zero, List.append_nil]; exact hO3) (by simp only [List.length_append, List.length_nil]; omega) hl3.2 hk3 (by rw [hws1, if_neg (by omega)]) hl7 (by omega)
            · refine v_ald0 (pc := 83) hJ dX11_write_83 ?_
              refine v_bipush (pc := 84) hJ dX11_write_84 (by decide) ?_
              refine v_cV1v (pc := 86) (q0 := 0) (ci := 8) hJ rfl rfl lkX11_243 (qX11_says hO (by omega)) (Nat.le_of_ble_eq_true rfl) (rOk_L (by decide) (by decide)) dX11_write_86 (fun u86 g86 => ?_)
              subst g86
              rw [say_eq]
              refine v_iconst (pc := 89) hJ dX11_write_89 ?_
              refine v_ist4 (pc := 90) hJ dX11_write_90 (by decide) ?_
              refine lb 3001 0 _ _ (xs ++ w.1 ++ [10]) (by omega) (frX_I (frX_A hw3 (by decide)) (by decide)) ?_ ?_ (by simp only [List.length_append, List.length_cons, List.length_nil]; omega) hl3.2 hk3 (by rw [hws1, if_pos (by omega)]) hl7 (by omega)
              · simp only [up_s, up_n, up_up, ne_eq, Nat.reduceEqDiff, not_false_eq_true]; exact hL3
              · simp only [up_s, up_n, up_up, ne_eq, Nat.reduceEqDiff, not_false_eq_true, List.take_zero, List.append_nil]; exact hasO_add hO3
          · refine v_ald0 (pc := 59) hJ dX11_write_59 ?_
            refine v_ald0 (pc := 60) hJ dX11_write_60 ?_
            refine mg34 (pc := 61) hJ dX11_write_61 ?_
            refine v_ild4 (pc := 64) hJ dX11_write_64 ?_
            refine ma34 (pc := 66) hJ (by omega) (by omega) dX11_write_66 ?_
            refine v_cV1v (pc := 67) (q0 := 0) (ci := 8) hJ rfl rfl lkX11_243 (qX11_says hO (by have := hO3.1; simp only [List.length_append, List.length_take] at this; omega)) (Nat.le_of_ble_eq_true rfl) (rOk_L (by decide) (by decide)) dX11_write_67 (fun u67 g67 => ?_)
            subst g67
            rw [say_eq]
            refine v_inc4 (pc := 70) hJ dX11_write_70 (by decide) ?_
            refine v_goto (tgt := 50) (pc := 73) hJ dX11_write_73 (by decide) ?_
            rw [hU3.2 j (by omega)]
            refine ih (j + 1) _ _ (by omega) (frX_I (frX_A hw3 (by decide)) (by decide)) ?_ ?_ ?_ hl3 hk3 hl7 (by omega)
            · simp only [up_s, up_n, up_up, ne_eq, Nat.reduceEqDiff, not_false_eq_true]; exact hU3
            · simp only [up_s, up_n, up_up, ne_eq, Nat.reduceEqDiff, not_false_eq_true]; exact hL3
            · simp only [up_s, up_n, up_up, ne_eq, Nat.reduceEqDiff, not_false_eq_true]; rw [take_add (by omega), ← List.append_assoc]; exact hasO_add hO3
      refine v_ild2 (pc := 23) hJ dX11_write_23 ?_
      refine v_ald0 (pc := 24) hJ dX11_write_24 ?_
      refine mg7 (pc := 25) hJ dX11_write_25 ?_
      refine v_icmp_ge (tgt := 128) (pc := 28) hJ dX11_write_28 (by decide) (by omega) (by omega) (fun h28 => ?_) (fun h28 => ?_)
      · refine v_ald0 (pc := 128) hJ dX11_write_128 ?_
        refine mg26 (pc := 129) hJ dX11_write_129 ?_
        refine v_iret (pc := 132) hJ dX11_write_132 ⟨_, rfl, ?_⟩
        have el : l0 = (I 7).toNat := by omega
        subst el
        exact ⟨fun q => by omega, fun _ => ⟨hO2.1, hw, hO2⟩⟩
      · refine v_ild2 (pc := 31) hJ dX11_write_31 ?_
        refine v_if_le (tgt := 41) (pc := 32) hJ dX11_write_32 (by decide) (by omega) (fun h32 => ?_) (fun h32 => ?_)
        · refine v_ald0 (pc := 41) hJ dX11_write_41 ?_
          refine v_ild1 (pc := 42) hJ dX11_write_42 ?_
          refine v_cV1i (pc := 43) (q0 := 0) (ci := 8) hJ rfl rfl lkX11_258 (hWw (by first | exact hw | exact frX_I (frX_A hw (by decide)) (by decide)) (by omega)) (Nat.le_of_ble_eq_true rfl) (rOk_L (by decide) (by decide)) dX11_write_43 (fun r43 u43 g43 => ?_)
          obtain ⟨I4, A4⟩ := u43
          obtain ⟨gr, gk, gw4, gU, gL, gb1, gb2⟩ := g43
          rw [← hww] at gr gU gL
          dsimp only at gw4 gU gL gb1 gb2
          have gU1 := gU.1
          have gL1 := gL.1
          subst gr
          refine v_ist3 (pc := 46) hJ dX11_write_46 (by decide) ?_
          refine v_iconst (pc := 47) hJ dX11_write_47 ?_
          refine v_ist4 (pc := 48) hJ dX11_write_48 (by decide) ?_
          have e25 : A4 25 = A1 25 := gw4.2 25 (by decide) (by decide) (by decide)
          have e26 : I4 26 = I1 26 := gw4.1 26 (by decide) (by decide) (by decide)
          refine la 3001 0 I4 A4 (by omega) (frX_W hw gw4) gU gL ?_ (by omega) gk (by omega) (by omega)
          rw [e25, e26, List.take_zero, List.append_nil, hxs, if_neg (show ¬ 0 < l0 by omega), List.append_nil]
          exact hO2
        · refine v_ald0 (pc := 35) hJ dX11_write_35 ?_
          refine v_bipush (pc := 36) hJ dX11_write_36 (by decide) ?_
          refine v_cV1v (pc := 38) (q0 := 0) (ci := 8) hJ rfl rfl lkX11_243 (qX11_says hO (by omega)) (Nat.le_of_ble_eq_true rfl) (rOk_L (by decide) (by decide)) dX11_write_38 (fun u38 g38 => ?_)
          subst g38
          rw [say_eq]
          refine v_ald0 (pc := 41) hJ dX11_write_41 ?_
          refine v_ild1 (pc := 42) hJ dX11_write_42 ?_
          refine v_cV1i (pc := 43) (q0 := 0) (ci := 8) hJ rfl rfl lkX11_258 (hWw (by first | exact hw | exact frX_I (frX_A hw (by decide)) (by decide)) (by omega)) (Nat.le_of_ble_eq_true rfl) (rOk_L (by decide) (by decide)) dX11_write_43 (fun r43 u43 g43 => ?_)
          obtain ⟨I4, A4⟩ := u43
          obtain ⟨gr, gk, gw4, gU, gL, gb1, gb2⟩ := g43
          rw [← hww] at gr gU gL
          dsimp only at gw4 gU gL gb1 gb2
          have gU1 := gU.1
          have gL1 := gL.1
          subst gr
          try simp only [up_s, up_n, up_up, ne_eq, Nat.reduceEqDiff, not_false_eq_true]
          refine v_ist3 (pc := 46) hJ dX11_write_46 (by decide) ?_
          refine v_iconst (pc := 47) hJ dX11_write_47 ?_
          refine v_ist4 (pc := 48) hJ dX11_write_48 (by decide) ?_
          have e25 := gw4.2 25 (by decide) (by decide) (by decide)
          have e26 := gw4.1 26 (by decide) (by decide) (by decide)
          simp only [up_s, up_n, up_up, ne_eq, Nat.reduceEqDiff, not_false_eq_true] at e25 e26
          refine la 3001 0 I4 A4 (by omega) (frX_W (frX_I (frX_A hw (by decide)) (by decide)) gw4) gU gL ?_ (by omega) gk (by omega) (by omega)
          rw [e25, e26, List.take_zero, List.append_nil, hxs, if_pos (show 0 < l0 by omega)]
          exact hasO_add hO2
  show J 0 [some (.ref (ad 0)), none, none, none, none] [] (I, A)
  refine v_ald0 (pc := 0) hJ dX11_write_0 ?_
  refine v_iconst (pc := 1) hJ dX11_write_1 ?_
  refine mp0 (pc := 2) hJ dX11_write_2 ?_
  refine v_ald0 (pc := 5) hJ dX11_write_5 ?_
  refine v_iconst (pc := 6) hJ dX11_write_6 ?_
  refine mp26 (pc := 7) hJ dX11_write_7 ?_
  refine v_ald0 (pc := 10) hJ dX11_write_10 ?_
  refine mg5 (pc := 11) hJ dX11_write_11 ?_
  try simp only [up_s, up_n, up_up, ne_eq, Nat.reduceEqDiff, not_false_eq_true]
  refine v_if_ne (tgt := 19) (pc := 14) hJ dX11_write_14 (by decide) (by omega) (fun h14 => ?_) (fun h14 => ?_)
  · refine v_iconst (pc := 19) hJ dX11_write_19 ?_
    refine v_ist1 (pc := 20) hJ dX11_write_20 (by decide) ?_
    refine v_iconst (pc := 21) hJ dX11_write_21 ?_
    refine v_ist2 (pc := 22) hJ dX11_write_22 (by decide) ?_
    have h50 : wr 0 = (0, []) := by rw [hwr]; rfl
    have hn := lp 41 0 none none _ A (by omega) (by omega) (frX_I (j := 26) (v := 0) ⟨fun _ _ _ _ _ => rfl, fun _ _ _ _ _ => rfl⟩ (by decide)) (by rw [h50]; simp only [up_s, up_n, up_up, ne_eq, Nat.reduceEqDiff, not_false_eq_true]; exact hasO_nil _) (by rw [h50]; simp) (by rw [h50]; simp) (by omega)
    rw [h50] at hn
    exact hn
  · refine v_iconst (pc := 17) hJ dX11_write_17 ?_
    refine v_iret (pc := 18) hJ dX11_write_18 ⟨_, rfl, ?_⟩
    exact ⟨fun _ => ⟨rfl, rfl⟩, fun q => by omega⟩
