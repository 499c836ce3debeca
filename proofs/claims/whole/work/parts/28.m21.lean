/-- the easiest of the first bars, and its sum -/
def ezN (v : Int → Int) : Nat → Int × Int
  | 0 => (-1, 1000000000)
  | b + 1 => if v b = -1 ∨ (ezN v b).2 ≤ v b then ezN v b else ((b : Int), v b)
theorem ezN_in {v : Int → Int} (h : ∀ b : Int, 0 ≤ b → b ≤ 7 → v b = -1 ∨ (0 ≤ v b ∧ v b ≤ 7000)) : ∀ n : Nat, n ≤ 8 → ((ezN v n).1 = -1 ∨ (0 ≤ (ezN v n).1 ∧ (ezN v n).1 < n ∧ v (ezN v n).1 ≠ -1)) ∧ 0 ≤ (ezN v n).2 ∧ (ezN v n).2 ≤ 1000000000
  | 0, _ => by simp [ezN]
  | n + 1, hn => by
    obtain ⟨h1, h2, h3⟩ := ezN_in h n (by omega)
    have h4 := h n (by omega) (by omega)
    rw [ezN]
    split
    · exact ⟨by omega, h2, h3⟩
    · rename_i hx
      refine ⟨Or.inr ⟨by dsimp only; omega, by dsimp only; omega, fun q => hx (Or.inl q)⟩, by dsimp only; omega, by dsimp only; omega⟩
def sumV (I : Nat → Int) (A : Nat → Int → Int) (v : Int → Int) : Prop := ∀ b : Int, (allH I A b → v b = mnN (rsA I A b 0) (hdA I A 0 b).length) ∧ (¬ allH I A b → v b = -1)
theorem sumV_ex (I : Nat → Int) (A : Nat → Int → Int) : ∃ v, sumV I A v := by
  refine ⟨fun b => haveI := Classical.propDecidable (allH I A b); if allH I A b then mnN (rsA I A b 0) (hdA I A 0 b).length else -1, fun b => ⟨fun h => ?_, fun h => ?_⟩⟩
  · exact if_pos h
  · exact if_neg h
theorem sumV_in {I : Nat → Int} {A : Nat → Int → Int} {v : Int → Int} (h9 : 0 ≤ I 9 ∧ I 9 ≤ 6) (h6 : I 6 ≤ 60) (h : sumV I A v) (b : Int) : (v b = -1 ∧ ¬ allH I A b) ∨ (0 ≤ v b ∧ v b ≤ 7000 ∧ allH I A b) := by
  by_cases e : allH I A b
  · have e1 := (h b).1 e
    have := mnN_in (f := rsA I A b 0) (B := 7000) (by decide) (hdA I A 0 b).length (e.2 0 (by omega) e.1) (fun k hk => rsA_in h9 h6 e (by omega) e.1 hk)
    exact Or.inr ⟨by omega, by omega, e⟩
  · exact Or.inl ⟨(h b).2 e, e⟩
/-- what easiest does -/
def easP (I : Nat → Int) (A : Nat → Int → Int) (r : Int) (u : sM) : Prop := okH I u.2 ∧ (∀ k, k ≠ 24 → k ≠ 38 → k ≠ 39 → k ≠ 40 → k ≠ 41 → k ≠ 42 → k ≠ 43 → k ≠ 44 → u.2 k = A k) ∧ ∃ v, sumV I A v ∧ r = (ezN v 8).1 ∧ (r = -1 → u.1 = va_up I 0 0 ∧ u.2 24 = A 24) ∧ (r ≠ -1 → (0 ≤ r ∧ r ≤ 7) ∧ allH I A r ∧ u.1 = va_up (va_up I 0 0) 10 r ∧ ∀ i : Nat, (i : Int) < I 6 → u.2 24 i = (jsA I A r i : Int))
theorem ct_mono {σ : Type} {l : Launch} {y : MethodName} {ws : List Cond} {rm : Room} {D : va_G} {tys : List (ClassId × FieldType)} {wld : σ → va_W} {A : Nat → Prop} {Pc : Array Value → State → Prop} {p1 p2 : Option Value → σ → Prop} {mc ms : Nat} {free : Addr → Prop} (h : Met l y ws rm Pc (cQ D tys wld A p1) mc ms free) (hp : ∀ v u, p1 v u → p2 v u) : Met l y ws rm Pc (cQ D tys wld A p2) mc ms free := by
  intro p e h1 h2 h3 s m args below h4 h5 h6 h7
  obtain ⟨n, o, a1, a2, a3, ⟨⟨⟨v, u, b1, b2, b3⟩, b4⟩, a5⟩⟩ := h p e h1 h2 h3 s m args below h4 h5 h6 h7
  exact ⟨n, o, a1, a2, a3, ⟨⟨⟨v, u, b1, hp v u b2, b3⟩, b4⟩, a5⟩⟩
set_option maxHeartbeats 4000000 in
set_option maxRecDepth 100000 in
theorem qX11_easiest {l : Launch} {D : va_G} {cI : ClassId} {ad : Nat → Nat} {O : OT} {adK adV : Nat → Nat} (hO : OG O adK adV) {I : Nat → Int} {A : Nat → Int → Int}  (hC : okC I A) (hN : okN I A) (hH : okH I A) : MC l D cI ad O yX11_easiest cX11_easiest 5 (some .int) 5 [.ref (ad 0)] (I, A) (pI fun r u2 => easP I A r u2) := by
  refine ct_intro (own := RX11) (by decide) rfl hO.1 (Nat.le_of_ble_eq_true rfl) (by simp [Value.category]) (fun X J hJ => ?_)
  obtain ⟨⟨c1, c2⟩, c3⟩ := id hC
  obtain ⟨n1, n2⟩ := id hN
  obtain ⟨v, hv⟩ := sumV_ex I A
  have hvi := sumV_in n1 c2 hv
  have hez := ezN_in (v := v) (fun b _ _ => by rcases hvi b with q | q; exact Or.inl q.1; exact Or.inr ⟨q.1, q.2.1⟩)
  have hq := fun (bar : Int) {A1 : Nat → Int → Int} (h : frS A A1) => allH_eq (I := I) (I1 := va_up I 0 0) (A := A) (A1 := A1) (bar := bar) (by simp only [up_s, up_n, up_up, ne_eq, Nat.reduceEqDiff, not_false_eq_true]) (by simp only [up_s, up_n, up_up, ne_eq, Nat.reduceEqDiff, not_false_eq_true]) h
  have hSw : ∀ {A1 : Nat → Int → Int} {b : Int}, frS A A1 → okH (va_up I 0 0) A1 → (0 ≤ b ∧ b ≤ 7) → MC l D cI ad O yX11_sum cX11_sum 8 (some .int) 4 [.ref (ad 0), .int (iZ b)] (va_up I 0 0, A1) (pI fun r u2 => r = v b ∧ sumP (va_up I 0 0) A1 b r u2) := fun {A1 b} h1 h2 h3 => by
    have := qX11_sum (l := l) (D := D) (cI := cI) (ad := ad) hO (I := va_up I 0 0) (A := A1) (bar := b) (frS_C h1 (okC_I (by simp only [up_s, up_n, up_up, ne_eq, Nat.reduceEqDiff, not_false_eq_true]) hC)) (frS_N h1 (okN_I (by simp only [up_s, up_n, up_up, ne_eq, Nat.reduceEqDiff, not_false_eq_true]) hN)) h2 h3
    intro sz
    refine ct_mono (this sz) ?_
    rintro w u2 ⟨r, rfl, hs⟩
    refine ⟨r, rfl, ?_, hs⟩
    obtain ⟨-, -, -, s4, s5⟩ := hs
    by_cases e : allH I A b
    · rw [(s4 ((hq b h1).1.mpr e)).1, (hv b).1 e, (hq b h1).2.1, show rsA (va_up I 0 0) A1 b 0 = rsA I A b 0 from funext ((hq b h1).2.2.1 0)]
    · rw [s5 (fun q => e ((hq b h1).1.mp q)), (hv b).2 e]
  have lp : ∀ (fu : Nat) (b : Nat) (A1 : Nat → Int → Int) (a4 : Option Value), (b ≤ 8) → (frS A A1) → (okH (va_up I 0 0) A1) → (9 - (b : Int)) < (fu : Int) → J 13 [some (.ref (ad 0)), some (.int (iZ ((ezN v b).1))), some (.int (iZ ((ezN v b).2))), some (.int (iZ ((b : Int)))), a4] [] (va_up I 0 0, A1) := by
    intro fu
    induction fu with
    | zero => intro b  A1  a4 hbn hf1 hH1 hmu; exfalso; omega
    | succ fu ih =>
      intro b  A1  a4 hbn hf1 hH1 hmu
      refine v_ild3 (pc := 13) hJ dX11_easiest_13 ?_
      refine v_bipush (pc := 14) hJ dX11_easiest_14 (by decide) ?_
      have hzb := hez b hbn
      refine v_icmp_gt (tgt := 52) (pc := 16) hJ dX11_easiest_16 (by decide) (by omega) (by omega) (fun h16 => ?_) (fun h16 => ?_)
      · have eb : b = 8 := by omega
        subst eb
        refine v_ild1 (pc := 52) hJ dX11_easiest_52 ?_
        refine v_iconst (pc := 53) hJ dX11_easiest_53 ?_
        
        refine v_icmp_eq (tgt := 67) (pc := 54) hJ dX11_easiest_54 (by decide) (by omega) (by omega) (fun h54 => ?_) (fun h54 => ?_)
        · refine v_ild1 (pc := 67) hJ dX11_easiest_67 ?_
          refine v_iret (pc := 68) hJ dX11_easiest_68 ⟨_, rfl, ?_⟩
          exact ⟨okH_I (I := va_up I 0 0) (by simp only [up_s, up_n, up_up, ne_eq, Nat.reduceEqDiff, not_false_eq_true]) (by simp only [up_s, up_n, up_up, ne_eq, Nat.reduceEqDiff, not_false_eq_true]) hH1, fun k h24 h38 h39 h40 h41 h42 h43 h44 => hf1 k h38 h39 h40 h41 h42 h43 h44, v, hv, rfl, fun _ => ⟨rfl, hf1 24 (by decide) (by decide) (by decide) (by decide) (by decide) (by decide) (by decide)⟩, fun q => absurd h54 q⟩
        · have hz1 : 0 ≤ (ezN v 8).1 ∧ (ezN v 8).1 ≤ 7 ∧ v (ezN v 8).1 ≠ -1 := by omega
          have hal : allH I A (ezN v 8).1 := by rcases hvi (ezN v 8).1 with q | q; exact absurd q.1 hz1.2.2; exact q.2.2
          refine v_ald0 (pc := 57) hJ dX11_easiest_57 ?_
          refine v_ild1 (pc := 58) hJ dX11_easiest_58 ?_
          refine v_ald0 (pc := 59) hJ dX11_easiest_59 ?_
          refine v_ild1 (pc := 60) hJ dX11_easiest_60 ?_
          refine v_cV1i (pc := 61) (q0 := 0) (ci := 8) hJ rfl rfl lkX11_290 (hSw hf1 hH1 (by omega)) (Nat.le_of_ble_eq_true rfl) (rOk_L (by decide) (by decide)) dX11_easiest_61 (fun r61 u61 g61 => ?_)
          obtain ⟨rfl, hs61⟩ := g61
          obtain ⟨I2, A2⟩ := u61
          obtain ⟨s1, s2, s3, s4, s5⟩ := hs61
          dsimp only at s1 s2 s3 s4 s5
          subst s1
          have hf2 : frS A A2 := fun k h38 h39 h40 h41 h42 h43 h44 => by rw [s2 k h38 h39 h40 h41 h42 h43 h44]; exact hf1 k h38 h39 h40 h41 h42 h43 h44
          try simp only [up_s, up_n, up_up, ne_eq, Nat.reduceEqDiff, not_false_eq_true]
          refine v_cV2v (pc := 64) (q0 := 0) (ci := 8) hJ rfl rfl lkX11_293 (qX11_plays hO (frS_C hf2 (okC_I (by simp only [up_s, up_n, up_up, ne_eq, Nat.reduceEqDiff, not_false_eq_true]) hC)) (frS_N hf2 (okN_I (by simp only [up_s, up_n, up_up, ne_eq, Nat.reduceEqDiff, not_false_eq_true]) hN)) (by omega) ((hq _ hf2).1.mpr hal) (by rw [(hv _).1 hal, (hq _ hf2).2.1, show rsA (va_up I 0 0) A2 (ezN v 8).1 0 = rsA I A (ezN v 8).1 0 from funext ((hq _ hf2).2.2.1 0)]) (fun i i0 i1 => by
              have s6 := (s4 ((hq _ hf1).1.mpr hal)).2 i i0 i1
              rw [(hq _ hf1).2.1] at s6
              simp only [(hq _ hf1).2.2.1] at s6
              rw [(hq _ hf2).2.1]
              simp only [(hq _ hf2).2.2.1]
              exact s6)) (Nat.le_of_ble_eq_true rfl) (rOk_L (by decide) (by decide)) dX11_easiest_64 (fun u64 g64 => ?_)
          obtain ⟨P, hP, rfl⟩ := g64
          try simp only [up_s, up_n, up_up, ne_eq, Nat.reduceEqDiff, not_false_eq_true]
          refine v_ild1 (pc := 67) hJ dX11_easiest_67 ?_
          refine v_iret (pc := 68) hJ dX11_easiest_68 ⟨_, rfl, ?_⟩
          refine ⟨okH_I (I := va_up I 0 0) (by simp only [up_s, up_n, up_up, ne_eq, Nat.reduceEqDiff, not_false_eq_true]) (by simp only [up_s, up_n, up_up, ne_eq, Nat.reduceEqDiff, not_false_eq_true]) (okH_24 s3), fun k h24 h38 h39 h40 h41 h42 h43 h44 => ?_, v, hv, rfl, fun q => absurd q h54, fun _ => ⟨⟨hz1.1, hz1.2.1⟩, hal, rfl, fun i hi => ?_⟩⟩
          · show va_up A2 24 P k = A k
            rw [up_n h24]; exact hf2 k h38 h39 h40 h41 h42 h43 h44
          · show va_up A2 24 P 24 i = _
            rw [up_s, hP i (by simp only [up_s, up_n, up_up, ne_eq, Nat.reduceEqDiff, not_false_eq_true]; exact hi), (hq _ hf2).2.2.2 i]
      · refine v_ald0 (pc := 19) hJ dX11_easiest_19 ?_
        refine v_ild3 (pc := 20) hJ dX11_easiest_20 ?_
        refine v_cV1i (pc := 21) (q0 := 0) (ci := 8) hJ rfl rfl lkX11_290 (hSw hf1 hH1 (by omega)) (Nat.le_of_ble_eq_true rfl) (rOk_L (by decide) (by decide)) dX11_easiest_21 (fun r21 u21 g21 => ?_)
        obtain ⟨rfl, hs21⟩ := g21
        obtain ⟨I2, A2⟩ := u21
        obtain ⟨s1, s2, s3, s4, s5⟩ := hs21
        dsimp only at s1 s2 s3 s4 s5
        subst s1
        try simp only [up_s, up_n, up_up, ne_eq, Nat.reduceEqDiff, not_false_eq_true]
        refine v_ist4 (pc := 24) hJ dX11_easiest_24 (by decide) ?_
        refine v_ild4 (pc := 26) hJ dX11_easiest_26 ?_
        refine v_iconst (pc := 28) hJ dX11_easiest_28 ?_
        have hvb := hvi (b : Int)
        have hvr : v (b : Int) = -1 ∨ (0 ≤ v (b : Int) ∧ v (b : Int) ≤ 7000) := by rcases hvb with q | q; exact Or.inl q.1; exact Or.inr ⟨q.1, q.2.1⟩
        refine v_icmp_eq (tgt := 46) (pc := 29) hJ dX11_easiest_29 (by decide) (by omega) (by omega) (fun h29 => ?_) (fun h29 => ?_)
        · refine v_inc3 (pc := 46) hJ dX11_easiest_46 (by decide) ?_
          refine v_goto (tgt := 13) (pc := 49) hJ dX11_easiest_49 (by decide) ?_
          have hf2 : frS A A2 := fun k h38 h39 h40 h41 h42 h43 h44 => by rw [s2 k h38 h39 h40 h41 h42 h43 h44]; exact hf1 k h38 h39 h40 h41 h42 h43 h44
          have hn := ih (b + 1) A2 (some (.int (iZ (v b)))) (by omega) hf2 s3 (by omega)
          rw [ezN, if_pos (by omega)] at hn
          exact hn
        · refine v_ild4 (pc := 32) hJ dX11_easiest_32 ?_
          refine v_ild2 (pc := 34) hJ dX11_easiest_34 ?_
          refine v_icmp_lt (tgt := 41) (pc := 35) hJ dX11_easiest_35 (by decide) (by omega) (by omega) (fun h35 => ?_) (fun h35 => ?_)
          · refine v_ild3 (pc := 41) hJ dX11_easiest_41 ?_
            refine v_ist1 (pc := 42) hJ dX11_easiest_42 (by decide) ?_
            refine v_ild4 (pc := 43) hJ dX11_easiest_43 ?_
            refine v_ist2 (pc := 45) hJ dX11_easiest_45 (by decide) ?_
            refine v_inc3 (pc := 46) hJ dX11_easiest_46 (by decide) ?_
            refine v_goto (tgt := 13) (pc := 49) hJ dX11_easiest_49 (by decide) ?_
            have hf2 : frS A A2 := fun k h38 h39 h40 h41 h42 h43 h44 => by rw [s2 k h38 h39 h40 h41 h42 h43 h44]; exact hf1 k h38 h39 h40 h41 h42 h43 h44
            have hn := ih (b + 1) A2 (some (.int (iZ (v b)))) (by omega) hf2 s3 (by omega)
            rw [ezN, if_neg (by omega)] at hn
            exact hn
          · refine v_goto (tgt := 46) (pc := 38) hJ dX11_easiest_38 (by decide) ?_
            refine v_inc3 (pc := 46) hJ dX11_easiest_46 (by decide) ?_
            refine v_goto (tgt := 13) (pc := 49) hJ dX11_easiest_49 (by decide) ?_
            have hf2 : frS A A2 := fun k h38 h39 h40 h41 h42 h43 h44 => by rw [s2 k h38 h39 h40 h41 h42 h43 h44]; exact hf1 k h38 h39 h40 h41 h42 h43 h44
            have hn := ih (b + 1) A2 (some (.int (iZ (v b)))) (by omega) hf2 s3 (by omega)
            rw [ezN, if_pos (by omega)] at hn
            exact hn
  show J 0 [some (.ref (ad 0)), none, none, none, none] [] (I, A)
  refine v_ald0 (pc := 0) hJ dX11_easiest_0 ?_
  refine v_iconst (pc := 1) hJ dX11_easiest_1 ?_
  refine mp0 (pc := 2) hJ dX11_easiest_2 ?_
  refine v_iconst (pc := 5) hJ dX11_easiest_5 ?_
  refine v_ist1 (pc := 6) hJ dX11_easiest_6 (by decide) ?_
  refine v_ldcwK (pc := 7) hJ dX11_easiest_7 k_const_X11_271 ?_
  refine v_ist2 (pc := 10) hJ dX11_easiest_10 (by decide) ?_
  refine v_iconst (pc := 11) hJ dX11_easiest_11 ?_
  refine v_ist3 (pc := 12) hJ dX11_easiest_12 (by decide) ?_
  exact lp 10 0 A none (by omega) (fun k _ _ _ _ _ _ _ => rfl) (okH_I (by simp only [up_s, up_n, up_up, ne_eq, Nat.reduceEqDiff, not_false_eq_true]) (by simp only [up_s, up_n, up_up, ne_eq, Nat.reduceEqDiff, not_false_eq_true]) hH) (by omega)
def shR (f : Int → Int) (c by_ : Int) (k : Int) (j : Int) : Int := if 0 ≤ j ∧ j < k then wi (f j + c - by_) else f j
set_option maxHeartbeats 4000000 in
set_option maxRecDepth 100000 in
theorem qX11_move {l : Launch} {D : va_G} {cI : ClassId} {ad : Nat → Nat} {O : OT} {adK adV : Nat → Nat} (hO : OG O adK adV) {I : Nat → Int} {A : Nat → Int → Int} {n : Int} (hn : inR n) (hC : okC I A) (h8 : -7 ≤ I 8 ∧ I 8 ≤ 7) : MC l D cI ad O yX11_move cX11_move 4 (some .int) 2 [.ref (ad 0), .int (iZ n)] (I, A) (pI fun r u2 => (-11 ≤ n ∧ n ≤ 11 → r = mv (I 8) n ∧ ∃ M R B, (∀ j, 0 ≤ j → j < 480 → M j = -1) ∧ (∀ j, R j = shR (A 11) (mv (I 8) n) (I 8) (I 6) j ∧ B j = shR (A 13) (mv (I 8) n) (I 8) (I 6) j) ∧ (∀ k, k ≠ 0 → k ≠ 8 → k ≠ 10 → u2.1 k = I k) ∧ u2.1 0 = 0 ∧ u2.1 8 = mv (I 8) n ∧ u2.1 10 = -1 ∧ (∀ k, k ≠ 11 → k ≠ 13 → k ≠ 38 → u2.2 k = A k) ∧ u2.2 11 = R ∧ u2.2 13 = B ∧ u2.2 38 = M) ∧ (¬ (-11 ≤ n ∧ n ≤ 11) → u2 = (va_up I 0 1, A))) := by
  refine ct_intro (own := RX11) (by decide) rfl hO.1 (Nat.le_of_ble_eq_true rfl) (by simp [Value.category]) (fun X J hJ => ?_)
  obtain ⟨⟨c1, c2⟩, c3⟩ := id hC
  obtain ⟨t, hte⟩ : ∃ z, z = mv (I 8) n := ⟨_, rfl⟩
  have htm : (t + 5) % 12 = (I 8 + 7 * n + 5) % 12 ∧ -5 ≤ t ∧ t ≤ 6 := by rw [hte]; unfold mv; omega
  rw [← hte] at hJ
  have l3 : ∀ (fu : Nat) (k : Nat) (A1 : Nat → Int → Int), (-11 ≤ n ∧ n ≤ 11) → ((k : Int) ≤ I 6) → (∀ k, k ≠ 11 → k ≠ 13 → A1 k = A k) → (∀ j, A1 11 j = shR (A 11) t (I 8) k j) → (∀ j, A1 13 j = shR (A 13) t (I 8) k j) → (I 6 - (k : Int)) < (fu : Int) → J 68 [some (.ref (ad 0)), some (.int (iZ (n))), some (.int (iZ (t))), some (.int (iZ ((k : Int))))] [] (va_up I 0 0, A1) := by
    intro fu
    induction fu with
    | zero => intro k  A1 hin hk hf h11 h13 hmu; exfalso; omega
    | succ fu ih =>
      intro k  A1 hin hk hf h11 h13 hmu
      refine v_ild3 (pc := 68) hJ dX11_move_68 ?_
      refine v_ald0 (pc := 69) hJ dX11_move_69 ?_
      refine mg6 (pc := 70) hJ dX11_move_70 ?_
      try simp only [up_s, up_n, up_up, ne_eq, Nat.reduceEqDiff, not_false_eq_true]
      refine v_icmp_ge (tgt := 126) (pc := 73) hJ dX11_move_73 (by decide) (by omega) (by omega) (fun h73 => ?_) (fun h73 => ?_)
      · have ek : (k : Int) = I 6 := by omega
        refine v_ald0 (pc := 126) hJ dX11_move_126 ?_
        refine v_ild2 (pc := 127) hJ dX11_move_127 ?_
        refine mp8 (pc := 128) hJ dX11_move_128 ?_
        refine v_ald0 (pc := 131) hJ dX11_move_131 ?_
        refine v_cV0v (pc := 132) (q0 := 0) (ci := 8) hJ rfl rfl lkX11_210 (qX11_changes hO) (Nat.le_of_ble_eq_true rfl) (rOk_L (by decide) (by decide)) dX11_move_132 (fun u132 g132 => ?_)
        obtain ⟨M, hM, rfl⟩ := g132
        try simp only [up_s, up_n, up_up, ne_eq, Nat.reduceEqDiff, not_false_eq_true]
        refine v_ald0 (pc := 135) hJ dX11_move_135 ?_
        refine mg8 (pc := 136) hJ dX11_move_136 ?_
        try simp only [up_s, up_n, up_up, ne_eq, Nat.reduceEqDiff, not_false_eq_true]
        refine v_iret (pc := 139) hJ dX11_move_139 ⟨_, rfl, ?_⟩
        refine ⟨fun _ => ⟨by simp only [up_s, up_n, up_up, ne_eq, Nat.reduceEqDiff, not_false_eq_true], M, A1 11, A1 13, hM, fun j => by rw [h11, h13, ek]; exact ⟨rfl, rfl⟩, fun k h1 h2 h3 => by simp only [up_n, h1, h2, h3, ne_eq, not_false_eq_true], ?_, ?_, ?_, fun k h1 h2 h3 => ?_, ?_, ?_, ?_⟩, fun q => absurd hin q⟩ <;> simp only [up_s, up_n, up_up, ne_eq, Nat.reduceEqDiff, not_false_eq_true]
        simp only [up_n, h3, ne_eq, not_false_eq_true]
        exact hf k h1 h2
      · have hck := c3 k (by omega) (by omega)
        have e11 : A1 11 k = A 11 k := by rw [h11]; unfold shR; rw [if_neg (by omega)]
        have e13 : A1 13 k = A 13 k := by rw [h13]; unfold shR; rw [if_neg (by omega)]
        refine v_ald0 (pc := 76) hJ dX11_move_76 ?_
        refine mg11 (pc := 77) hJ dX11_move_77 ?_
        refine v_ild3 (pc := 80) hJ dX11_move_80 ?_
        refine v_ald0 (pc := 81) hJ dX11_move_81 ?_
        refine mg11 (pc := 82) hJ dX11_move_82 ?_
        refine v_ild3 (pc := 85) hJ dX11_move_85 ?_
        refine ma11 (pc := 86) hJ (by omega) (by omega) dX11_move_86 ?_
        try simp only [up_s, up_n, up_up, ne_eq, Nat.reduceEqDiff, not_false_eq_true]
        rw [e11]
        refine v_ild2 (pc := 87) hJ dX11_move_87 ?_
        refine v_iadd (pc := 88) hJ dX11_move_88 ?_
        refine v_ald0 (pc := 89) hJ dX11_move_89 ?_
        refine mg8 (pc := 90) hJ dX11_move_90 ?_
        try simp only [up_s, up_n, up_up, ne_eq, Nat.reduceEqDiff, not_false_eq_true]
        refine v_isub (pc := 93) hJ dX11_move_93 ?_
        refine v_cS1i (pc := 94) hJ lkX11_216 (qX11_within hO (by omega)) (Nat.le_of_ble_eq_true rfl) (rOk_L (by decide) (by decide)) dX11_move_94 (fun r94 u94 g94 => ?_)
        obtain ⟨rfl, rfl⟩ := g94
        try simp only [up_s, up_n, up_up, ne_eq, Nat.reduceEqDiff, not_false_eq_true]
        refine ms11 (pc := 97) hJ (by omega) (by omega) dX11_move_97 ?_
        refine v_ald0 (pc := 98) hJ dX11_move_98 ?_
        refine mg13 (pc := 99) hJ dX11_move_99 ?_
        refine v_ild3 (pc := 102) hJ dX11_move_102 ?_
        refine v_ald0 (pc := 103) hJ dX11_move_103 ?_
        refine mg13 (pc := 104) hJ dX11_move_104 ?_
        refine v_ild3 (pc := 107) hJ dX11_move_107 ?_
        refine ma13 (pc := 108) hJ (by omega) (by omega) dX11_move_108 ?_
        try simp only [up_s, up_n, up_up, ne_eq, Nat.reduceEqDiff, not_false_eq_true]
        rw [e13]
        refine v_ild2 (pc := 109) hJ dX11_move_109 ?_
        refine v_iadd (pc := 110) hJ dX11_move_110 ?_
        refine v_ald0 (pc := 111) hJ dX11_move_111 ?_
        refine mg8 (pc := 112) hJ dX11_move_112 ?_
        try simp only [up_s, up_n, up_up, ne_eq, Nat.reduceEqDiff, not_false_eq_true]
        refine v_isub (pc := 115) hJ dX11_move_115 ?_
        refine v_cS1i (pc := 116) hJ lkX11_216 (qX11_within hO (by omega)) (Nat.le_of_ble_eq_true rfl) (rOk_L (by decide) (by decide)) dX11_move_116 (fun r116 u116 g116 => ?_)
        obtain ⟨rfl, rfl⟩ := g116
        try simp only [up_s, up_n, up_up, ne_eq, Nat.reduceEqDiff, not_false_eq_true]
        refine ms13 (pc := 119) hJ (by omega) (by omega) dX11_move_119 ?_
        refine v_inc3 (pc := 120) hJ dX11_move_120 (by decide) ?_
        refine v_goto (tgt := 68) (pc := 123) hJ dX11_move_123 (by decide) ?_
        refine ih (k + 1) _ hin (by omega) (fun q h1 h2 => by simp only [up_n, h1, h2, ne_eq, not_false_eq_true]; exact hf q h1 h2) (fun j => ?_) (fun j => ?_) (by omega)
        · simp only [up_s, up_n, up_up, ne_eq, Nat.reduceEqDiff, not_false_eq_true]
          unfold zu shR
          by_cases e : j = (k : Int)
          · rw [if_pos e, if_pos (by omega), e]
          · rw [if_neg e, h11 j]
            unfold shR
            by_cases e2 : 0 ≤ j ∧ j < (k : Int)
            · rw [if_pos e2, if_pos (by omega)]
            · rw [if_neg e2, if_neg (by omega)]
        · simp only [up_s, up_n, up_up, ne_eq, Nat.reduceEqDiff, not_false_eq_true]
          unfold zu shR
          by_cases e : j = (k : Int)
          · rw [if_pos e, if_pos (by omega), e]
          · rw [if_neg e, h13 j]
            unfold shR
            by_cases e2 : 0 ≤ j ∧ j < (k : Int)
            · rw [if_pos e2, if_pos (by omega)]
            · rw [if_neg e2, if_neg (by omega)]
  have l2 : ∀ (fu : Nat) (z : Int), (-11 ≤ n ∧ n ≤ 11) → (z ≤ 6) → (-100 < z) → ((z + 5) % 12 = (t + 5) % 12) → (-z + 20) < (fu : Int) → J 54 [some (.ref (ad 0)), some (.int (iZ (n))), some (.int (iZ (z))), none] [] (va_up I 0 0, A) := by
    intro fu
    induction fu with
    | zero => intro z hin z1 z2 z3 hmu; exfalso; omega
    | succ fu ih =>
      intro z hin z1 z2 z3 hmu
      refine v_ild2 (pc := 54) hJ dX11_move_54 ?_
      refine v_bipush (pc := 55) hJ dX11_move_55 (by decide) ?_
      refine v_icmp_ge (tgt := 66) (pc := 57) hJ dX11_move_57 (by decide) (by omega) (by omega) (fun h57 => ?_) (fun h57 => ?_)
      · refine v_iconst (pc := 66) hJ dX11_move_66 ?_
        refine v_ist3 (pc := 67) hJ dX11_move_67 (by decide) ?_
        have ez : z = t := by omega
        subst ez
        exact l3 61 0 A hin (by omega) (fun _ _ _ => rfl) (fun j => by unfold shR; rw [if_neg (by omega)]) (fun j => by unfold shR; rw [if_neg (by omega)]) (by omega)
      · refine v_inc2 (pc := 60) hJ dX11_move_60 (by decide) ?_
        refine v_goto (tgt := 54) (pc := 63) hJ dX11_move_63 (by decide) ?_
        exact ih (z + 12) hin (by omega) (by omega) (by omega) (by omega)
  have l1 : ∀ (fu : Nat) (z : Int), (-11 ≤ n ∧ n ≤ 11) → (z < 100) → (-100 < z) → ((z + 5) % 12 = (t + 5) % 12) → (z + 200) < (fu : Int) → J 42 [some (.ref (ad 0)), some (.int (iZ (n))), some (.int (iZ (z))), none] [] (va_up I 0 0, A) := by
    intro fu
    induction fu with
    | zero => intro z hin z1 z2 z3 hmu; exfalso; omega
    | succ fu ih =>
      intro z hin z1 z2 z3 hmu
      refine v_ild2 (pc := 42) hJ dX11_move_42 ?_
      refine v_bipush (pc := 43) hJ dX11_move_43 (by decide) ?_
      refine v_icmp_le (tgt := 54) (pc := 45) hJ dX11_move_45 (by decide) (by omega) (by omega) (fun h45 => ?_) (fun h45 => ?_)
      · exact l2 200 z hin (by omega) z2 z3 (by omega)
      · refine v_inc2 (pc := 48) hJ dX11_move_48 (by decide) ?_
        refine v_goto (tgt := 42) (pc := 51) hJ dX11_move_51 (by decide) ?_
        exact ih (z + -12) hin (by omega) (by omega) (by omega) (by omega)
  show J 0 [some (.ref (ad 0)), some (.int (iZ n)), none, none] [] (I, A)
  refine v_ald0 (pc := 0) hJ dX11_move_0 ?_
  refine v_iconst (pc := 1) hJ dX11_move_1 ?_
  refine mp0 (pc := 2) hJ dX11_move_2 ?_
  refine v_ald0 (pc := 5) hJ dX11_move_5 ?_
  refine v_ild1 (pc := 6) hJ dX11_move_6 ?_
  refine v_bipush (pc := 7) hJ dX11_move_7 (by decide) ?_
  refine v_icmp_lt (tgt := 22) (pc := 9) hJ dX11_move_9 (by decide) (by omega) (by omega) (fun h9 => ?_) (fun h9 => ?_)
  · refine v_iconst (pc := 22) hJ dX11_move_22 ?_
    refine v_iconst (pc := 23) hJ dX11_move_23 ?_
    refine v_cV2i (pc := 24) (q0 := 0) (ci := 8) hJ rfl rfl lkX11_190 (qX11_right0 hO (by first | (simp only [up_s, up_n, up_up, ne_eq, Nat.reduceEqDiff, not_false_eq_true]; done) | assumption | (simp only [up_s, up_n, up_up, ne_eq, Nat.reduceEqDiff, not_false_eq_true]; assumption)) (by decide)) (Nat.le_of_ble_eq_true rfl) (rOk_L (by decide) (by decide)) dX11_move_24 (fun r24 u24 g24 => ?_)
    obtain ⟨rfl, rfl⟩ := g24
    try simp only [up_s, up_n, up_up, ne_eq, Nat.reduceEqDiff, not_false_eq_true]
    refine v_if_ne (tgt := 32) (pc := 27) hJ dX11_move_27 (by decide) (by decide) (fun h => by first | exact absurd h (by decide) | exact absurd (by decide) h) (fun _ => ?_)
    refine v_iconst (pc := 30) hJ dX11_move_30 ?_
    refine v_iret (pc := 31) hJ dX11_move_31 ⟨_, rfl, ?_⟩
    exact ⟨fun q => by omega, fun q => by simp only [up_up]⟩
  · refine v_ild1 (pc := 12) hJ dX11_move_12 ?_
    refine v_bipush (pc := 13) hJ dX11_move_13 (by decide) ?_
    refine v_icmp_gt (tgt := 22) (pc := 15) hJ dX11_move_15 (by decide) (by omega) (by omega) (fun h15 => ?_) (fun h15 => ?_)
    · refine v_iconst (pc := 22) hJ dX11_move_22 ?_
      refine v_iconst (pc := 23) hJ dX11_move_23 ?_
      refine v_cV2i (pc := 24) (q0 := 0) (ci := 8) hJ rfl rfl lkX11_190 (qX11_right0 hO (by first | (simp only [up_s, up_n, up_up, ne_eq, Nat.reduceEqDiff, not_false_eq_true]; done) | assumption | (simp only [up_s, up_n, up_up, ne_eq, Nat.reduceEqDiff, not_false_eq_true]; assumption)) (by decide)) (Nat.le_of_ble_eq_true rfl) (rOk_L (by decide) (by decide)) dX11_move_24 (fun r24 u24 g24 => ?_)
      obtain ⟨rfl, rfl⟩ := g24
      try simp only [up_s, up_n, up_up, ne_eq, Nat.reduceEqDiff, not_false_eq_true]
      refine v_if_ne (tgt := 32) (pc := 27) hJ dX11_move_27 (by decide) (by decide) (fun h => by first | exact absurd h (by decide) | exact absurd (by decide) h) (fun _ => ?_)
      refine v_iconst (pc := 30) hJ dX11_move_30 ?_
      refine v_iret (pc := 31) hJ dX11_move_31 ⟨_, rfl, ?_⟩
      exact ⟨fun q => by omega, fun q => by simp only [up_up]⟩
    · refine v_iconst (pc := 18) hJ dX11_move_18 ?_
      refine v_goto (tgt := 23) (pc := 19) hJ dX11_move_19 (by decide) ?_
      refine v_iconst (pc := 23) hJ dX11_move_23 ?_
      refine v_cV2i (pc := 24) (q0 := 0) (ci := 8) hJ rfl rfl lkX11_190 (qX11_right1 hO (by first | (simp only [up_s, up_n, up_up, ne_eq, Nat.reduceEqDiff, not_false_eq_true]; done) | assumption | (simp only [up_s, up_n, up_up, ne_eq, Nat.reduceEqDiff, not_false_eq_true]; assumption))) (Nat.le_of_ble_eq_true rfl) (rOk_L (by decide) (by decide)) dX11_move_24 (fun r24 u24 g24 => ?_)
      obtain ⟨rfl, rfl⟩ := g24
      try simp only [up_s, up_n, up_up, ne_eq, Nat.reduceEqDiff, not_false_eq_true]
      refine v_if_ne (tgt := 32) (pc := 27) hJ dX11_move_27 (by decide) (by decide) (fun _ => ?_) (fun h => by first | exact absurd h (by decide) | exact absurd (by decide) h)
      refine v_ald0 (pc := 32) hJ dX11_move_32 ?_
      refine mg8 (pc := 33) hJ dX11_move_33 ?_
      try simp only [up_s, up_n, up_up, ne_eq, Nat.reduceEqDiff, not_false_eq_true]
      refine v_bipush (pc := 36) hJ dX11_move_36 (by decide) ?_
      refine v_ild1 (pc := 38) hJ dX11_move_38 ?_
      refine v_imul (pc := 39) hJ dX11_move_39 ?_
      refine v_iadd (pc := 40) hJ dX11_move_40 ?_
      refine v_ist2 (pc := 41) hJ dX11_move_41 (by decide) ?_
      exact l1 400 _ (by omega) (by omega) (by omega) (by omega) (by omega)
