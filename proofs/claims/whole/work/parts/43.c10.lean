def layP (ad : Nat → Nat) (I : Nat → Int) (A : Nat → Int → Int) (p : List Int) (H : HS) (u : sC) : Prop := u.1 = ad ∧ (∀ k, k ≠ 123 → u.2.1 k = I k) ∧ (∀ k, k ≠ 122 → k ≠ 124 → u.2.2 k = A k) ∧ (∀ s : Nat, s < p.length → u.2.2 124 s = p.getD s 0) ∧ hasB (u.2.1 123) (u.2.2 122) H
theorem getD_in {p : List Int} (hv : ∀ v ∈ p, -1 ≤ v ∧ v ≤ 9) {j : Nat} (hj : j < p.length) : -1 ≤ p.getD j 0 ∧ p.getD j 0 ≤ 9 := by
  rw [List.getD, List.getElem?_eq_getElem hj]
  exact hv _ (List.getElem_mem hj)
theorem mayP_eq {g g2 pt : Int → Int} {bar nd : Int} {n d : Nat} {H : HS} (h : ∀ s : Nat, s < d → g s = g2 s) : mayP g pt bar nd n d H ↔ mayP g2 pt bar nd n d H := by
  unfold mayP cS
  rw [(fg_eq h).2.2, (g_eq (pt := pt) (bar := bar) d h).2.2.2.2.2.2.1]
theorem gL_fr {F : Int → Int} {p : List Int} (h : ∀ s : Nat, s < p.length → F s = p.getD s 0) (s : Nat) (hs : s < p.length) : F s = gL p s := by
  rw [h s hs]; unfold gL; rw [Int.toNat_natCast]
/-- what mayFit refuses can be left out -/
theorem may_dead {pt : Int → Int} {n : Nat} {bar tones rt bs : Int} (hb : 0 ≤ bar) (hpt : ∀ s : Nat, s < n → 0 ≤ pt s) {k : Nat} {p : List Int} {v : Int} {H : HS} (hl : p.length + (k + 1) = n) (h : ¬ mayP (gL (p ++ [v])) pt bar (ndX rt tones) n (p.length + 1) H) : brH pt n bar tones rt bs k p H v = H := by
  unfold brH
  split
  · rename_i hok
    refine subH_dead hb hpt k (p ++ [v]) H (by rw [List.length_append, List.length_singleton]; omega) ?_
    have hlen : (p ++ [v]).length = p.length + 1 := by rw [List.length_append, List.length_singleton]
    obtain ⟨e1, e2⟩ := lsL_all (p ++ [v])
    rw [hlen] at e1 e2
    unfold deadP
    rw [hlen]
    by_cases c1 : 4 < fgN (gL (p ++ [v])) (p.length + 1)
    · exact Or.inl c1
    · have hso : soN (gL (p ++ [v])) (p.length + 1) = st0 (gL (p ++ [v])) (p.length + 1) := by
        unfold soN
        rw [if_neg]
        rintro (w | w)
        · exact hok.2 (by rw [e1, e2]; exact w)
        · exact c1 w
      have hst : soN (gL (p ++ [v])) (p.length + 1) ≠ -1 := by
        intro w
        rw [hso] at w
        obtain ⟨b1, b2, b3, b4⟩ := st_b (gL (p ++ [v])) pt bar (lsN (gL (p ++ [v])) (p.length + 1)) (p.length + 1)
        have b5 := atl_fin (gL (p ++ [v])) (lsN (gL (p ++ [v])) (p.length + 1)) (p.length + 1)
        have hms : ∀ m : Nat, 0 ≤ msN (gL (p ++ [v])) m := by
          intro m
          induction m with
          | zero => exact Int.le_refl 0
          | succ m ih => rw [msN]; unfold msF; split <;> omega
        have := hms (p.length + 1)
        unfold st0 fgN at w
        split at w <;> omega
      refine Or.inr ?_
      by_cases c2 : (k : Int) < cS (gL (p ++ [v])) pt bar (ndX rt tones) (p.length + 1)
      · exact Or.inl c2
      · refine Or.inr ?_
        by_cases c3 : H.length = 6 ∧ sj H 5 ≤ soN (gL (p ++ [v])) (p.length + 1)
        · rw [hso] at c3; exact c3
        · exact absurd ⟨hst, c3, by omega⟩ h
  · rfl
set_option maxHeartbeats 4000000 in
set_option maxRecDepth 100000 in
theorem layF {l : Launch} {D : va_G} {cI : ClassId} {O : OT} {adK adV : Nat → Nat} {tT : Nat} (hO : OGC O adK adV tT) {ad : Nat → Nat} {n : Nat} {rt : Int} (hn6 : n ≤ 6) : ∀ (k : Nat) (p : List Int) (H : HS) (I : Nat → Int) (A : Nat → Int → Int), p.length + k = n → (n : Int) = I 121 → cokN I A → (0 ≤ I 125 ∧ I 125 ≤ 7) → I 127 = ndX rt (I 126) → (0 ≤ I 127 ∧ I 127 < 4096) → inR (I 128) → (∀ v ∈ p, -1 ≤ v ∧ v ≤ 9) → (∀ s : Nat, s < p.length → A 124 s = p.getD s 0) → hasB (I 123) (A 122) H → QH n (rvL p) H → (p = [] ∨ mayP (gL p) (A 120) (I 125) (I 127) n p.length H) → CC l D cI O yX0_layFrom cX0_layFrom 3 none (4 + k) [.ref (ad 139), .int (iZ (p.length : Int))] (ad, I, A) (pV fun u2 => layP ad I A p (subH (A 120) n (I 125) (I 126) rt (I 128) k p H) u2) := by
  intro k
  induction k with
  | zero =>
    intro p H I A hpl hn hN hb h127 hnd h128 hv hfr hB hQ hM
    refine ct_intro (own := RX0) (by decide) rfl hO.1.1 (Nat.le_of_ble_eq_true rfl) (by simp [Value.category]) (fun X J hJ => ?_)
    show J 0 [some (.ref (ad 139)), some (.int (iZ (p.length : Int))), none] [] (ad, I, A)
    have hp : p.length = n := by omega
    have hg : frN A (I 121) := fun j hj => by rw [hfr j (by omega)]; exact getD_in hv (by omega)
    have hgn : frN A (n : Int) := by rw [hn]; exact hg
    have hgl : ∀ s : Nat, s < n → A 124 s = gL p s := fun s hs => gL_fr hfr s (by omega)
    obtain ⟨e1, e2, e3, e4, e5, e6, e7, e8, e9⟩ := g_eq (pt := A 120) (bar := I 125) n hgl
    have hN9 : (I 121).toNat = n := by omega
    have hso := soN_in (g := A 124) (n := n) hn6 (fun j hj => hgn j (by omega))
    have hsoe := (fg_eq hgl).2.2
    have hfge := (fg_eq hgl).1
    have hste := (fg_eq hgl).2.1
    refine v_ild1 (pc := 0) hJ dX0_layFrom_0 ?_
    refine v_ald0 (pc := 1) hJ dX0_layFrom_1 ?_
    refine cgX0_59 (pc := 2) hJ dX0_layFrom_2 ?_
    refine v_icmp_ge (tgt := 14) (pc := 5) hJ dX0_layFrom_5 (by decide) (by omega) (by omega) (fun h5 => ?_) (fun h5 => ?_)
    · refine v_ald0 (pc := 14) hJ dX0_layFrom_14 ?_
      refine v_cV0i (pc := 15) (q0 := 19) (ci := 0) hJ rfl rfl lkX0_62 (qX0_leastIsBass hO hN hb hg h128) (Nat.le_of_ble_eq_true rfl) (rOk_L (by decide) (by decide)) dX0_layFrom_15 (fun r15 u15 g15 => ?_)
      obtain ⟨g15a, g15b, rfl⟩ := g15
      rw [hN9] at g15b
      refine v_if_eq (tgt := 44) (pc := 18) hJ dX0_layFrom_18 (by decide) (by omega) (fun h18 => ?_) (fun h18 => ?_)
      · have c1 : lowN (A 124) (A 120) (I 125) n = 1000000000 ∨ (lowN (A 124) (A 120) (I 125) n).tmod 12 ≠ I 128 := Classical.byContradiction (fun w => by have := g15b.mpr w; omega)
        rw [e8] at c1
        have hsub : subH (A 120) n (I 125) (I 126) rt (I 128) 0 p H = H := by
          show leafH _ _ _ _ _ _ _ _ = H
          unfold leafH
          rw [stL_eq hp, if_pos c1, if_neg (by omega)]
        rw [hsub] at hJ
        refine v_vret (pc := 44) hJ dX0_layFrom_44 ⟨rfl, ?_⟩
        exact ⟨rfl, fun _ _ => rfl, fun _ _ _ => rfl, hfr, hB⟩
      · have c1 : ¬ (lowN (gL p) (A 120) (I 125) n = 1000000000 ∨ (lowN (gL p) (A 120) (I 125) n).tmod 12 ≠ I 128) := by rw [← e8]; exact g15b.mp (by omega)
        have hM2 : mayP (gL p) (A 120) (I 125) (I 127) n n H := by
          rcases hM with w | w
          · exfalso
            subst w
            have : n = 0 := by simpa using hp.symm
            subst this
            exact c1 (Or.inl rfl)
          · rw [hp] at w; exact w
        obtain ⟨m1, m2, m3⟩ := hM2
        have hx : soN (A 124) n = st0 (gL p) n ∧ 0 ≤ soN (A 124) n ∧ soN (A 124) n ≤ 60 := by
          rcases hso.2.2 with w | w
          · exact absurd (by rw [← hsoe]; exact w) m1
          · exact ⟨by rw [← hste]; exact w.1, w.2⟩
        have hfg4 : ¬ 4 < fgN (gL p) n := fun w => m1 (by unfold soN; rw [if_pos (Or.inr w)])
        have hzi := zand_in (a := I 127) (b := zxor (sndN (gL p) (A 120) (I 125) n) (-1)) (by omega)
        have hz0 : zand (ndX rt (I 126)) (zxor (sndN (gL p) (A 120) (I 125) n) (-1)) = 0 := by
          rw [← h127]
          refine cnt_0 (by omega) ?_
          unfold cS at m3
          omega
        have hsub : subH (A 120) n (I 125) (I 126) rt (I 128) 0 p H = insH H (soN (A 124) n) p := by
          show leafH _ _ _ _ _ _ _ _ = _
          unfold leafH
          have hstl : stL (A 120) n (I 125) (I 126) rt (I 128) p = soN (A 124) n := by
            rw [stL_eq hp, if_neg c1, if_neg (show ¬ (zand (ndX rt (I 126)) (zxor (sndN (gL p) (A 120) (I 125) n) (-1)) ≠ 0) from fun q => q hz0), if_neg hfg4, hx.1]
          rw [hstl, if_pos (by omega)]
        rw [hsub] at hJ
        refine v_ald0 (pc := 21) hJ dX0_layFrom_21 ?_
        refine v_ald0 (pc := 22) hJ dX0_layFrom_22 ?_
        refine v_ald0 (pc := 23) hJ dX0_layFrom_23 ?_
        refine cgX0_59 (pc := 24) hJ dX0_layFrom_24 ?_
        try simp only [up_s, up_n, up_up, ne_eq, Nat.reduceEqDiff, not_false_eq_true]
        rw [← hn]
        refine v_cV1i (pc := 27) (q0 := 19) (ci := 0) hJ rfl rfl lkX0_66 (qX0_strainOfFirst hO hn6 hgn) (Nat.le_of_ble_eq_true rfl) (rOk_L (by decide) (by decide)) dX0_layFrom_27 (fun r27 u27 g27 => ?_)
        obtain ⟨rfl, rfl⟩ := g27
        try simp only [up_s, up_n, up_up, ne_eq, Nat.reduceEqDiff, not_false_eq_true]
        refine v_ald0 (pc := 30) hJ dX0_layFrom_30 ?_
        refine cgX0_18 (pc := 31) hJ dX0_layFrom_31 ?_
        refine v_ald0 (pc := 34) hJ dX0_layFrom_34 ?_
        refine cgX0_59 (pc := 35) hJ dX0_layFrom_35 ?_
        try simp only [up_s, up_n, up_up, ne_eq, Nat.reduceEqDiff, not_false_eq_true]
        refine v_cS3i (pc := 38) hJ lkX0_69 (qX1_of hO (by omega) (by omega) (by exact hg)) (Nat.le_of_ble_eq_true rfl) (rOk_L (by decide) (by decide)) dX0_layFrom_38 (fun r38 u38 g38 => ?_)
        obtain ⟨rfl, rfl⟩ := g38
        try simp only [up_s, up_n, up_up, ne_eq, Nat.reduceEqDiff, not_false_eq_true]
        rw [hN9, e9, show soN (A 124) n * 16777216 + rvN (gL p) n = hnE (soN (A 124) n, p) by unfold hnE rvL; rw [hp]]
        refine v_cV1v (pc := 41) (q0 := 19) (ci := 0) hJ rfl rfl lkX0_75 (qX0_keep hO hn6 hp hv hx.2 hB hQ) (Nat.le_of_ble_eq_true rfl) (rOk_L (by decide) (by decide)) dX0_layFrom_41 (fun u41 g41 => ?_)
        obtain ⟨m41, F41, hF41, rfl⟩ := g41
        try simp only [up_s, up_n, up_up, ne_eq, Nat.reduceEqDiff, not_false_eq_true]
        refine v_vret (pc := 44) hJ dX0_layFrom_44 ⟨rfl, ?_⟩
        exact ⟨rfl, fun k hk => by simp [up_n, hk], fun k k1 k2 => by simp [up_n, k1], fun s hs => by simp only [up_s, up_n, up_up, ne_eq, Nat.reduceEqDiff, not_false_eq_true]; exact hfr s hs, by simp only [up_s, up_n, up_up, ne_eq, Nat.reduceEqDiff, not_false_eq_true]; exact hF41⟩
    · exfalso; omega
  | succ k ihk =>
    intro p H I A hpl hn hN hb h127 hnd h128 hv hfr hB hQ hM
    refine ct_intro (own := RX0) (by decide) rfl hO.1.1 (Nat.le_of_ble_eq_true rfl) (by simp [Value.category]) (fun X J hJ => ?_)
    obtain ⟨w, hw⟩ : ∃ w : Nat, w = 2 ^ (4 * (5 - p.length)) := ⟨_, rfl⟩
    have hw0 : 0 < w := by rw [hw]; exact Nat.two_pow_pos _
    obtain ⟨⟨n1, n2⟩, n3⟩ := id hN
    obtain ⟨fin, hfin⟩ : ∃ z, z = subH (A 120) n (I 125) (I 126) rt (I 128) (k + 1) p H := ⟨_, rfl⟩
    rw [← hfin] at hJ
    rw [subH_s] at hfin
    have lp : ∀ (c : Nat) (H1 : HS) (I1 : Nat → Int) (A1 : Nat → Int → Int), c ≤ 11 → layP ad I A p H1 (ad, I1, A1) → QH n (rvL p + (11 - (c : Int)) * (w : Int)) H1 → (vals c).foldl (brH (A 120) n (I 125) (I 126) rt (I 128) k p) H1 = fin → J 47 [some (.ref (ad 139)), some (.int (iZ (p.length : Int))), some (.int (iZ (10 - (c : Int))))] [] (ad, I1, A1) := by
      intro c
      induction c with
      | zero =>
        intro H1 I1 A1 hc hP hQ1 hf
        refine v_ild2 (pc := 47) hJ dX0_layFrom_47 ?_
        refine v_bipush (pc := 48) hJ dX0_layFrom_48 (by decide) ?_
        refine v_icmp_gt (tgt := 105) (pc := 50) hJ dX0_layFrom_50 (by decide) (by omega) (by omega) (fun h50 => ?_) (fun h50 => ?_)
        · refine v_vret (pc := 105) hJ dX0_layFrom_105 ⟨rfl, ?_⟩
          rw [← hf]; exact hP
        · exfalso; omega
      | succ c ihc =>
        intro H1 I1 A1 hc hP hQ1 hf
        obtain ⟨v, hve⟩ : ∃ z, z = 10 - ((c + 1 : Nat) : Int) := ⟨_, rfl⟩
        have hv9 : v = 9 - (c : Int) := by omega
        have hvr : -1 ≤ v ∧ v ≤ 9 := by omega
        rw [← hve]
        have hfs : (vals c).foldl (brH (A 120) n (I 125) (I 126) rt (I 128) k p) (brH (A 120) n (I 125) (I 126) rt (I 128) k p H1 v) = fin := by rw [← hf, hv9]; rfl
        obtain ⟨-, f1, f2, f3, f4⟩ := hP
        dsimp only at f1 f2 f3 f4
        have i121 : I1 121 = I 121 := f1 121 (by decide)
        have i125 : I1 125 = I 125 := f1 125 (by decide)
        have i126 : I1 126 = I 126 := f1 126 (by decide)
        have i127 : I1 127 = I 127 := f1 127 (by decide)
        have i128 : I1 128 = I 128 := f1 128 (by decide)
        have a120 : A1 120 = A 120 := f2 120 (by decide) (by decide)
        have hlen : (p ++ [v]).length = p.length + 1 := by rw [List.length_append, List.length_singleton]
        have hz : (11 - (c : Int)) * (w : Int) = (v + 1) * (w : Int) + w := by
          rw [show (11 - (c : Int)) = (v + 1) + 1 by omega, Int.add_mul, Int.one_mul]
        have hQv : QH n (rvL (p ++ [v])) H1 := by
          rw [rvL_snoc, ← hw, show v + 1 = 11 - ((c + 1 : Nat) : Int) by omega]
          exact hQ1
        have hQn : QH n (rvL p + (11 - (c : Int)) * (w : Int)) H1 := QH_mono hQ1 (by rw [hz, show (11 - ((c + 1 : Nat) : Int)) = v + 1 by omega]; omega)
        have hvv : ∀ z ∈ p ++ [v], -1 ≤ z ∧ z ≤ 9 := fun z hz2 => by
          rcases List.mem_append.mp hz2 with q | q
          · exact hv z q
          · rw [List.mem_singleton.mp q]; exact hvr
        have hps := n3 (p.length : Int) (by omega) (by omega)
        have skip : ∀ (I2 : Nat → Int) (A2 : Nat → Int → Int), layP ad I A p H1 (ad, I2, A2) → brH (A 120) n (I 125) (I 126) rt (I 128) k p H1 v = H1 → J 47 [some (.ref (ad 139)), some (.int (iZ (p.length : Int))), some (.int (iZ (v + 1)))] [] (ad, I2, A2) := fun I2 A2 h1 h2 => by
          rw [h2] at hfs
          have := ihc H1 I2 A2 (by omega) h1 hQn hfs
          rw [show 10 - (c : Int) = v + 1 by omega] at this
          exact this
        obtain ⟨A2, hA2⟩ : ∃ z, z = va_up A1 124 (zu (A1 124) (p.length : Int) v) := ⟨_, rfl⟩
        have g1 : ∀ k, k ≠ 124 → A2 k = A1 k := fun k hk => by rw [hA2, up_n hk]
        have g2 : ∀ s : Nat, s < (p ++ [v]).length → A2 124 s = (p ++ [v]).getD s 0 := fun s hs => by
          rw [hA2, up_s, getD_snoc p v s (by omega)]
          by_cases q : s < p.length
          · rw [if_pos q, zu_ne (by omega)]; exact f3 s q
          · rw [if_neg q, show (s : Int) = (p.length : Int) by omega, zu_same]
        have g3 : ∀ s : Nat, s < p.length → A2 124 s = p.getD s 0 := fun s hs => by rw [g2 s (by omega), getD_snoc p v s (by omega), if_pos hs]
        have hN2 : cokN I1 A2 := by unfold cokN; rw [i121, g1 120 (by decide), a120]; exact hN
        have hB2 : hasB (I1 123) (A2 122) H1 := by rw [g1 122 (by decide)]; exact f4
        have hgl2 : ∀ s : Nat, s < p.length + 1 → A2 124 s = gL (p ++ [v]) s := fun s hs => gL_fr g2 s (by omega)
        have hP2 : layP ad I A p H1 (ad, I1, A2) := ⟨rfl, f1, fun k k1 k2 => by show A2 k = _; rw [g1 k k2]; exact f2 k k1 k2, g3, hB2⟩
        have hMay : CC l D cI O yX0_mayFit cX0_mayFit 3 (some .boolean) 3 [.ref (ad 139), .int (iZ ((p.length + 1 : Nat) : Int))] (ad, I1, A2) (pI fun r u2 => (r = 0 ∨ r = 1) ∧ (r = 1 ↔ mayP (gL (p ++ [v])) (A 120) (I 125) (I 127) n (p.length + 1) H1) ∧ u2 = (ad, I1, A2)) := by
          have := qX0_mayFit (l := l) (D := D) (cI := cI) hO (ad := ad) (I := I1) (A := A2) (n := n) (d := p.length + 1) (H := H1) (by rw [i121]; exact hn) (by omega) hN2 (by rw [i125]; exact hb) (fun j hj => by rw [g2 j (by omega)]; exact getD_in hvv (by omega)) (by rw [i127]; exact hnd) hB2 hQv
          rw [mayP_eq hgl2, g1 120 (by decide), a120, i125, i127] at this
          exact this
        refine v_ild2 (pc := 47) hJ dX0_layFrom_47 ?_
        refine v_bipush (pc := 48) hJ dX0_layFrom_48 (by decide) ?_
        refine v_icmp_gt (tgt := 105) (pc := 50) hJ dX0_layFrom_50 (by decide) (by omega) (by omega) (fun h50 => ?_) (fun h50 => ?_)
        · exfalso; omega
        · refine v_ild2 (pc := 53) hJ dX0_layFrom_53 ?_
          refine v_iconst (pc := 54) hJ dX0_layFrom_54 ?_
          refine v_icmp_eq (tgt := 75) (pc := 55) hJ dX0_layFrom_55 (by decide) (by omega) (by omega) (fun h55 => ?_) (fun h55 => ?_)
          · refine v_ald0 (pc := 75) hJ dX0_layFrom_75 ?_
            refine cgX0_18 (pc := 76) hJ dX0_layFrom_76 ?_
            refine v_ild1 (pc := 79) hJ dX0_layFrom_79 ?_
            refine v_ild2 (pc := 80) hJ dX0_layFrom_80 ?_
            refine cs124 (pc := 81) hJ (by omega) (by omega) dX0_layFrom_81 ?_
            rw [← hA2]
            refine v_ald0 (pc := 82) hJ dX0_layFrom_82 ?_
            refine v_ild1 (pc := 83) hJ dX0_layFrom_83 ?_
            refine v_iconst (pc := 84) hJ dX0_layFrom_84 ?_
            refine v_iadd (pc := 85) hJ dX0_layFrom_85 ?_
            rw [show (p.length : Int) + 1 = ((p.length + 1 : Nat) : Int) by omega]
            refine v_cV1i (pc := 86) (q0 := 19) (ci := 0) hJ rfl rfl lkX0_81 hMay (Nat.le_of_ble_eq_true rfl) (rOk_L (by omega) (by decide)) dX0_layFrom_86 (fun r86 u86 g86 => ?_)
            obtain ⟨g86a, g86b, rfl⟩ := g86
            try simp only [up_s, up_n, up_up, ne_eq, Nat.reduceEqDiff, not_false_eq_true]
            refine v_if_eq (tgt := 99) (pc := 89) hJ dX0_layFrom_89 (by decide) (by omega) (fun h89 => ?_) (fun h89 => ?_)
            · refine v_inc2 (pc := 99) hJ dX0_layFrom_99 (by decide) ?_
              refine v_goto (tgt := 47) (pc := 102) hJ dX0_layFrom_102 (by decide) ?_
              refine skip I1 A2 hP2 (may_dead hb.1 (fun s hs => (n3 s (by omega) (by omega)).1) (by omega) ?_)
              rw [← h127]
              intro w1
              have := g86b.mpr w1
              omega
            · have hmy := g86b.mp (by omega)
              refine v_ald0 (pc := 92) hJ dX0_layFrom_92 ?_
              refine v_ild1 (pc := 93) hJ dX0_layFrom_93 ?_
              refine v_iconst (pc := 94) hJ dX0_layFrom_94 ?_
              refine v_iadd (pc := 95) hJ dX0_layFrom_95 ?_
              rw [show (p.length : Int) + 1 = ((p ++ [v]).length : Int) by omega]
              refine v_cV1v (pc := 96) (q0 := 19) (ci := 0) hJ rfl rfl lkX0_55 (ihk (p ++ [v]) H1 I1 A2 (by omega) (by rw [i121]; exact hn) hN2 (by rw [i125]; exact hb) (by rw [i126, i127]; exact h127) (by rw [i127]; exact hnd) (by rw [i128]; exact h128) hvv g2 hB2 hQv (Or.inr (by rw [hlen, g1 120 (by decide), a120, i125, i127]; exact hmy))) (Nat.le_of_ble_eq_true rfl) (rOk_L (by omega) (by decide)) dX0_layFrom_96 (fun u96 g96 => ?_)
              rw [g1 120 (by decide), a120, i125, i126, i128] at g96
              try simp only [up_s, up_n, up_up, ne_eq, Nat.reduceEqDiff, not_false_eq_true]
              refine v_inc2 (pc := 99) hJ dX0_layFrom_99 (by decide) ?_
              refine v_goto (tgt := 47) (pc := 102) hJ dX0_layFrom_102 (by decide) ?_
              obtain ⟨ad3, I3, A3⟩ := u96
              obtain ⟨y1, y2, y3, y4, y5⟩ := g96
              dsimp only at y1 y2 y3 y4 y5
              subst y1
              have hok : okV (A 120) (I 125) (I 126) p v := by
                refine ⟨Or.inl (by omega), fun w1 => ?_⟩
                obtain ⟨e1, e2⟩ := lsL_all (p ++ [v])
                rw [hlen] at e1 e2
                have := hmy.1
                unfold soN at this
                rw [if_pos (Or.inl (by rw [← e1, ← e2]; exact w1))] at this
                exact this rfl
              have hbr : brH (A 120) n (I 125) (I 126) rt (I 128) k p H1 v = subH (A 120) n (I 125) (I 126) rt (I 128) k (p ++ [v]) H1 := by unfold brH; rw [if_pos hok]
              rw [hbr] at hfs
              have hsq := sub_Q (pt := A 120) (bar := I 125) (tones := I 126) (rt := rt) (bs := I 128) hn6 k (p ++ [v]) H1 (by omega) hvv hQv
              rw [rvL_snoc, ← hw, hlen, show 4 * (6 - (p.length + 1)) = 4 * (5 - p.length) by omega, ← hw, Int.add_assoc, ← hz] at hsq
              have hnx := ihc _ I3 A3 (by omega) ⟨rfl, fun k hk => (y2 k hk).trans (f1 k hk), fun k k1 k2 => (y3 k k1 k2).trans ((g1 k k2).trans (f2 k k1 k2)), fun s hs => (y4 s (by omega)).trans (by rw [getD_snoc p v s (by omega), if_pos hs]), y5⟩ hsq hfs
              rw [show 10 - (c : Int) = v + 1 by omega] at hnx
              exact hnx
          · refine v_ald0 (pc := 58) hJ dX0_layFrom_58 ?_
            
            refine cgX0_31 (pc := 59) hJ dX0_layFrom_59 ?_
            rw [i126]
            refine v_ald0 (pc := 62) hJ dX0_layFrom_62 ?_
            refine v_ild1 (pc := 63) hJ dX0_layFrom_63 ?_
            refine v_ild2 (pc := 64) hJ dX0_layFrom_64 ?_
            refine v_cV2i (pc := 65) (q0 := 19) (ci := 0) hJ rfl rfl lkX0_78 (qX0_toneAt hO (by omega) (by rw [a120]; exact hps) (by rw [i125]; exact hb) (by omega)) (Nat.le_of_ble_eq_true rfl) (rOk_L (by omega) (by decide)) dX0_layFrom_65 (fun r65 u65 g65 => ?_)
            obtain ⟨rfl, rfl⟩ := g65
            rw [a120, i125]
            refine v_ishr (pc := 68) hJ dX0_layFrom_68 ?_
            refine v_iconst (pc := 69) hJ dX0_layFrom_69 ?_
            refine v_iand (pc := 70) hJ dX0_layFrom_70 ?_
            refine v_iconst (pc := 71) hJ dX0_layFrom_71 ?_
            refine v_icmp_ne (tgt := 99) (pc := 72) hJ dX0_layFrom_72 (by decide) (inR_of _) (by decide) (fun h72 => ?_) (fun h72 => ?_)
            · refine v_inc2 (pc := 99) hJ dX0_layFrom_99 (by decide) ?_
              refine v_goto (tgt := 47) (pc := 102) hJ dX0_layFrom_102 (by decide) ?_
              refine skip I1 A1 ⟨rfl, f1, f2, f3, f4⟩ ?_
              unfold brH
              rw [if_neg]
              rintro ⟨w1 | w1, -⟩
              · omega
              · have := zand1 (zshr (I 126) ((A 120 p.length + I 125 + v).tmod 12))
                omega
            · refine v_ald0 (pc := 75) hJ dX0_layFrom_75 ?_
              refine cgX0_18 (pc := 76) hJ dX0_layFrom_76 ?_
              refine v_ild1 (pc := 79) hJ dX0_layFrom_79 ?_
              refine v_ild2 (pc := 80) hJ dX0_layFrom_80 ?_
              refine cs124 (pc := 81) hJ (by omega) (by omega) dX0_layFrom_81 ?_
              rw [← hA2]
              refine v_ald0 (pc := 82) hJ dX0_layFrom_82 ?_
              refine v_ild1 (pc := 83) hJ dX0_layFrom_83 ?_
              refine v_iconst (pc := 84) hJ dX0_layFrom_84 ?_
              refine v_iadd (pc := 85) hJ dX0_layFrom_85 ?_
              rw [show (p.length : Int) + 1 = ((p.length + 1 : Nat) : Int) by omega]
              refine v_cV1i (pc := 86) (q0 := 19) (ci := 0) hJ rfl rfl lkX0_81 hMay (Nat.le_of_ble_eq_true rfl) (rOk_L (by omega) (by decide)) dX0_layFrom_86 (fun r86 u86 g86 => ?_)
              obtain ⟨g86a, g86b, rfl⟩ := g86
              try simp only [up_s, up_n, up_up, ne_eq, Nat.reduceEqDiff, not_false_eq_true]
              refine v_if_eq (tgt := 99) (pc := 89) hJ dX0_layFrom_89 (by decide) (by omega) (fun h89 => ?_) (fun h89 => ?_)
              · refine v_inc2 (pc := 99) hJ dX0_layFrom_99 (by decide) ?_
                refine v_goto (tgt := 47) (pc := 102) hJ dX0_layFrom_102 (by decide) ?_
                refine skip I1 A2 hP2 (may_dead hb.1 (fun s hs => (n3 s (by omega) (by omega)).1) (by omega) ?_)
                rw [← h127]
                intro w1
                have := g86b.mpr w1
                omega
              · have hmy := g86b.mp (by omega)
                refine v_ald0 (pc := 92) hJ dX0_layFrom_92 ?_
                refine v_ild1 (pc := 93) hJ dX0_layFrom_93 ?_
                refine v_iconst (pc := 94) hJ dX0_layFrom_94 ?_
                refine v_iadd (pc := 95) hJ dX0_layFrom_95 ?_
                rw [show (p.length : Int) + 1 = ((p ++ [v]).length : Int) by omega]
                refine v_cV1v (pc := 96) (q0 := 19) (ci := 0) hJ rfl rfl lkX0_55 (ihk (p ++ [v]) H1 I1 A2 (by omega) (by rw [i121]; exact hn) hN2 (by rw [i125]; exact hb) (by rw [i126, i127]; exact h127) (by rw [i127]; exact hnd) (by rw [i128]; exact h128) hvv g2 hB2 hQv (Or.inr (by rw [hlen, g1 120 (by decide), a120, i125, i127]; exact hmy))) (Nat.le_of_ble_eq_true rfl) (rOk_L (by omega) (by decide)) dX0_layFrom_96 (fun u96 g96 => ?_)
                rw [g1 120 (by decide), a120, i125, i126, i128] at g96
                try simp only [up_s, up_n, up_up, ne_eq, Nat.reduceEqDiff, not_false_eq_true]
                refine v_inc2 (pc := 99) hJ dX0_layFrom_99 (by decide) ?_
                refine v_goto (tgt := 47) (pc := 102) hJ dX0_layFrom_102 (by decide) ?_
                obtain ⟨ad3, I3, A3⟩ := u96
                obtain ⟨y1, y2, y3, y4, y5⟩ := g96
                dsimp only at y1 y2 y3 y4 y5
                subst y1
                have hok : okV (A 120) (I 125) (I 126) p v := by
                  refine ⟨Or.inr (by omega), fun w1 => ?_⟩
                  obtain ⟨e1, e2⟩ := lsL_all (p ++ [v])
                  rw [hlen] at e1 e2
                  have := hmy.1
                  unfold soN at this
                  rw [if_pos (Or.inl (by rw [← e1, ← e2]; exact w1))] at this
                  exact this rfl
                have hbr : brH (A 120) n (I 125) (I 126) rt (I 128) k p H1 v = subH (A 120) n (I 125) (I 126) rt (I 128) k (p ++ [v]) H1 := by unfold brH; rw [if_pos hok]
                rw [hbr] at hfs
                have hsq := sub_Q (pt := A 120) (bar := I 125) (tones := I 126) (rt := rt) (bs := I 128) hn6 k (p ++ [v]) H1 (by omega) hvv hQv
                rw [rvL_snoc, ← hw, hlen, show 4 * (6 - (p.length + 1)) = 4 * (5 - p.length) by omega, ← hw, Int.add_assoc, ← hz] at hsq
                have hnx := ihc _ I3 A3 (by omega) ⟨rfl, fun k hk => (y2 k hk).trans (f1 k hk), fun k k1 k2 => (y3 k k1 k2).trans ((g1 k k2).trans (f2 k k1 k2)), fun s hs => (y4 s (by omega)).trans (by rw [getD_snoc p v s (by omega), if_pos hs]), y5⟩ hsq hfs
                rw [show 10 - (c : Int) = v + 1 by omega] at hnx
                exact hnx
    show J 0 [some (.ref (ad 139)), some (.int (iZ (p.length : Int))), none] [] (ad, I, A)
    refine v_ild1 (pc := 0) hJ dX0_layFrom_0 ?_
    refine v_ald0 (pc := 1) hJ dX0_layFrom_1 ?_
    refine cgX0_59 (pc := 2) hJ dX0_layFrom_2 ?_
    refine v_icmp_ge (tgt := 14) (pc := 5) hJ dX0_layFrom_5 (by decide) (by omega) (by omega) (fun h5 => ?_) (fun h5 => ?_)
    · exfalso; omega
    · refine v_ild1 (pc := 8) hJ dX0_layFrom_8 ?_
      refine v_bipush (pc := 9) hJ dX0_layFrom_9 (by decide) ?_
      refine v_icmp_lt (tgt := 45) (pc := 11) hJ dX0_layFrom_11 (by decide) (by omega) (by omega) (fun h11 => ?_) (fun h11 => ?_)
      · refine v_iconst (pc := 45) hJ dX0_layFrom_45 ?_
        refine v_ist2 (pc := 46) hJ dX0_layFrom_46 (by decide) ?_
        have h := lp 11 H I A (by omega) ⟨rfl, fun _ _ => rfl, fun _ _ _ => rfl, hfr, hB⟩ (by rw [show (11 - ((11 : Nat) : Int)) * (w : Int) = 0 by rw [show (11 - ((11 : Nat) : Int)) = 0 by omega, Int.zero_mul], Int.add_zero]; exact hQ) hfin.symm
        exact h
      · exfalso; omega
