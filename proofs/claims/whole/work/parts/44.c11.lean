/-- the first six hands of a chord, over the class's state -/
def chdA (I : Nat → Int) (A : Nat → Int → Int) (i bar : Int) : HS := hdX (A 120) (I 121).toNat bar (ctsA A i) (tn (A 44 i)) (tn (A 46 i))
theorem hdX_sub (pt : Int → Int) (n : Nat) (bar tones rt bs : Int) : hdX pt n bar tones rt bs = subH pt n bar tones rt bs n [] [] := by
  unfold hdX
  split
  · rename_i h
    subst h
    show [] = leafH pt 0 bar tones rt bs [] []
    unfold leafH
    rw [stL_eq (p := []) (n := 0) rfl, if_pos (show lowN (gL []) pt bar 0 = 1000000000 ∨ (lowN (gL []) pt bar 0).tmod 12 ≠ bs from Or.inl rfl), if_neg (by omega)]
  · rfl
theorem like_hd {I : Nat → Int} {A : Nat → Int → Int} {k i bar : Int} (h : likeC A k i) : chdA I A k bar = chdA I A i bar := by
  unfold chdA ctsA tsF
  rw [h.1, h.2.1, h.2.2]
def srchP (ad : Nat → Nat) (I : Nat → Int) (A : Nat → Int → Int) (H : HS) (u : sC) : Prop := u.1 = ad ∧ (∀ k, k ≠ 123 → k ≠ 125 → k ≠ 126 → k ≠ 127 → k ≠ 128 → u.2.1 k = I k) ∧ (∀ k, k ≠ 122 → k ≠ 124 → u.2.2 k = A k) ∧ hasB (u.2.1 123) (u.2.2 122) H
theorem ndX_in {rt t : Int} (h : 0 ≤ t ∧ t < 4096) : 0 ≤ ndX rt t ∧ ndX rt t < 4096 := by
  unfold ndX
  split
  · exact h
  · have := zand_in (a := t) (b := zxor (zshl 1 ((rt + 7).tmod 12)) (-1)) (by omega)
    omega
set_option maxHeartbeats 4000000 in
set_option maxRecDepth 100000 in
theorem qX0_search {l : Launch} {D : va_G} {cI : ClassId} {O : OT} {adK adV : Nat → Nat} {tT : Nat} (hO : OGC O adK adV tT) {ad : Nat → Nat} {I : Nat → Int} {A : Nat → Int → Int} {i bar : Int} (hC : cokC I A) (hN : cokN I A) (hi : 0 ≤ i ∧ i < I 43) (hb : 0 ≤ bar ∧ bar ≤ 7) : CC l D cI O yX0_search cX0_search 4 none 11 [.ref (ad 139), .ref (ad 59), .int (iZ i), .int (iZ bar)] (ad, I, A) (pV fun u2 => srchP ad I A (chdA I A i bar) u2) := by
  refine ct_intro (own := RX0) (by decide) rfl hO.1.1 (Nat.le_of_ble_eq_true rfl) (by simp [Value.category]) (fun X J hJ => ?_)
  obtain ⟨⟨c1, c2⟩, c3⟩ := id hC
  obtain ⟨k1, k2, k3⟩ := c3 i hi.1 hi.2
  obtain ⟨⟨n1, n2⟩, n3⟩ := id hN
  have hts := tsF_in (r := A 44 i) (b := A 46 i) k2
  have htn := tn_lt (A 46 i)
  obtain ⟨n, hn⟩ : ∃ z : Nat, z = (I 121).toNat := ⟨_, rfl⟩
  have hnd := ndX_in (rt := tn (A 44 i)) hts
  show J 0 [some (.ref (ad 139)), some (.ref (ad 59)), some (.int (iZ i)), some (.int (iZ bar))] [] (ad, I, A)
  refine v_ald0 (pc := 0) hJ dX0_search_0 ?_
  refine v_ild3 (pc := 1) hJ dX0_search_1 ?_
  refine cpX0_21 (pc := 2) hJ dX0_search_2 ?_
  refine v_ald0 (pc := 5) hJ dX0_search_5 ?_
  refine v_ald1 (pc := 6) hJ dX0_search_6 ?_
  refine v_ild2 (pc := 7) hJ dX0_search_7 ?_
  refine v_cV1i (pc := 8) (q0 := 3) (ci := 5) hJ rfl rfl lkX0_25 (qX8_tonesOf hO (by simp only [cokC, up_s, up_n, up_up, ne_eq, Nat.reduceEqDiff, not_false_eq_true]; exact hC) (by simp only [up_s, up_n, up_up, ne_eq, Nat.reduceEqDiff, not_false_eq_true]; exact hi)) (Nat.le_of_ble_eq_true rfl) (rOk_L (by decide) (by decide)) dX0_search_8 (fun r8 u8 g8 => ?_)
  obtain ⟨rfl, rfl⟩ := g8
  try simp only [up_s, up_n, up_up, ne_eq, Nat.reduceEqDiff, not_false_eq_true]
  refine cpX0_31 (pc := 11) hJ dX0_search_11 ?_
  refine v_ald0 (pc := 14) hJ dX0_search_14 ?_
  refine v_ald1 (pc := 15) hJ dX0_search_15 ?_
  refine v_ild2 (pc := 16) hJ dX0_search_16 ?_
  refine v_ald0 (pc := 17) hJ dX0_search_17 ?_
  refine cgX0_31 (pc := 18) hJ dX0_search_18 ?_
  try simp only [up_s, up_n, up_up, ne_eq, Nat.reduceEqDiff, not_false_eq_true]
  refine v_cV2i (pc := 21) (q0 := 3) (ci := 5) hJ rfl rfl lkX0_34 (qX8_neededOf hO (by simp only [cokC, up_s, up_n, up_up, ne_eq, Nat.reduceEqDiff, not_false_eq_true]; exact hC) (by simp only [up_s, up_n, up_up, ne_eq, Nat.reduceEqDiff, not_false_eq_true]; exact hi) (by unfold ctsA; omega)) (Nat.le_of_ble_eq_true rfl) (rOk_L (by decide) (by decide)) dX0_search_21 (fun r21 u21 g21 => ?_)
  obtain ⟨rfl, rfl⟩ := g21
  try simp only [up_s, up_n, up_up, ne_eq, Nat.reduceEqDiff, not_false_eq_true]
  refine cpX0_38 (pc := 24) hJ dX0_search_24 ?_
  refine v_ald0 (pc := 27) hJ dX0_search_27 ?_
  refine v_ald1 (pc := 28) hJ dX0_search_28 ?_
  refine cgX0_41a (pc := 29) hJ dX0_search_29 ?_
  refine v_ild2 (pc := 32) hJ dX0_search_32 ?_
  refine ca46 (pc := 33) hJ (by omega) (by omega) dX0_search_33 ?_
  try simp only [up_s, up_n, up_up, ne_eq, Nat.reduceEqDiff, not_false_eq_true]
  refine v_cS1i (pc := 34) hJ lkX0_44 (qX4_toneOf hO (by omega)) (Nat.le_of_ble_eq_true rfl) (rOk_L (by decide) (by decide)) dX0_search_34 (fun r34 u34 g34 => ?_)
  obtain ⟨rfl, rfl⟩ := g34
  try simp only [up_s, up_n, up_up, ne_eq, Nat.reduceEqDiff, not_false_eq_true]
  refine cpX0_49 (pc := 37) hJ dX0_search_37 ?_
  refine v_ald0 (pc := 40) hJ dX0_search_40 ?_
  refine v_iconst (pc := 41) hJ dX0_search_41 ?_
  refine cpX0_52 (pc := 42) hJ dX0_search_42 ?_
  refine v_ald0 (pc := 45) hJ dX0_search_45 ?_
  refine v_iconst (pc := 46) hJ dX0_search_46 ?_
  try simp only [up_s, up_n, up_up, ne_eq, Nat.reduceEqDiff, not_false_eq_true]
  rw [show ndF (A 44 i) (ctsA A i) = ndX (tn (A 44 i)) (ctsA A i) from rfl]
  have hlay := layF (l := l) (D := D) (cI := cI) hO (ad := ad) (n := n) (rt := tn (A 44 i)) (by omega) n [] [] (va_up (va_up (va_up (va_up (va_up I 125 bar) 126 (ctsA A i)) 127 (ndX (tn (A 44 i)) (ctsA A i))) 128 (tn (A 46 i))) 123 0) A (by simp) (by simp only [up_s, up_n, up_up, ne_eq, Nat.reduceEqDiff, not_false_eq_true]; omega) (by simp only [cokN, up_s, up_n, up_up, ne_eq, Nat.reduceEqDiff, not_false_eq_true]; exact hN) (by simp only [up_s, up_n, up_up, ne_eq, Nat.reduceEqDiff, not_false_eq_true]; exact hb) (by simp only [up_s, up_n, up_up, ne_eq, Nat.reduceEqDiff, not_false_eq_true]) (by simp only [up_s, up_n, up_up, ne_eq, Nat.reduceEqDiff, not_false_eq_true]; exact hnd) (by simp only [up_s, up_n, up_up, ne_eq, Nat.reduceEqDiff, not_false_eq_true]; omega) (fun v hv => by cases hv) (fun s hs => absurd hs (Nat.not_lt_zero _)) (by simp only [up_s, up_n, up_up, ne_eq, Nat.reduceEqDiff, not_false_eq_true]; exact ⟨rfl, fun j hj => absurd hj (Nat.not_lt_zero _)⟩) ⟨fun e he => by (cases he), by simp, fun i j _ hj => absurd hj (Nat.not_lt_zero _), fun e he => by (cases he)⟩ (Or.inl rfl)
  simp only [up_s, up_n, up_up, ne_eq, Nat.reduceEqDiff, not_false_eq_true] at hlay
  rw [show ctsA A i = tsF (A 44 i) (A 45 i) (A 46 i) from rfl] at *
  refine v_cV1v (pc := 47) (q0 := 19) (ci := 0) hJ rfl rfl lkX0_55 hlay (Nat.le_of_ble_eq_true rfl) (rOk_L (by omega) (by decide)) dX0_search_47 (fun u47 g47 => ?_)
  skip
  try simp only [up_s, up_n, up_up, ne_eq, Nat.reduceEqDiff, not_false_eq_true]
  refine v_vret (pc := 50) hJ dX0_search_50 ⟨rfl, ?_⟩
  obtain ⟨y1, y2, y3, y4, y5⟩ := g47
  refine ⟨y1, fun k q1 q2 q3 q4 q5 => (y2 k q1).trans (by simp [up_n, q1, q2, q3, q4, q5]), y3, ?_⟩
  unfold chdA
  rw [hdX_sub, ← hn, show ctsA A i = tsF (A 44 i) (A 45 i) (A 46 i) from rfl]
  exact y5
/-- a page of the book -/
def crepH (A : Nat → Int → Int) (q : Int) (H : HS) : Prop := A 141 q = (H.length : Int) ∧ H.length ≤ 6 ∧ ∀ j : Nat, j < H.length → A 140 (6 * q + j) = hnE (H.getD j (0, []))
def cokH (I : Nat → Int) (A : Nat → Int → Int) : Prop := ∀ i bar : Int, 0 ≤ i → i < I 43 → 0 ≤ bar → bar ≤ 7 → A 141 (8 * i + bar) = -1 ∨ crepH A (8 * i + bar) (chdA I A i bar)
/-- what pageOf leaves as it was -/
def frP (I : Nat → Int) (A : Nat → Int → Int) (I1 : Nat → Int) (A1 : Nat → Int → Int) : Prop := (∀ k, k ≠ 123 → k ≠ 125 → k ≠ 126 → k ≠ 127 → k ≠ 128 → I1 k = I k) ∧ (∀ k, k ≠ 122 → k ≠ 124 → k ≠ 140 → k ≠ 141 → A1 k = A k) ∧ ∀ q, A 141 q ≠ -1 → A1 141 q = A 141 q ∧ ∀ j, 6 * q ≤ j → j < 6 * q + 6 → A1 140 j = A 140 j
theorem frP_hd {I I1 : Nat → Int} {A A1 : Nat → Int → Int} (h : frP I A I1 A1) (i bar : Int) : chdA I1 A1 i bar = chdA I A i bar := by
  unfold chdA ctsA
  rw [h.1 121 (by decide) (by decide) (by decide) (by decide) (by decide), h.2.1 120 (by decide) (by decide) (by decide) (by decide), h.2.1 44 (by decide) (by decide) (by decide) (by decide), h.2.1 45 (by decide) (by decide) (by decide) (by decide), h.2.1 46 (by decide) (by decide) (by decide) (by decide)]
theorem frP_rep {I I1 : Nat → Int} {A A1 : Nat → Int → Int} (h : frP I A I1 A1) {q : Int} {H : HS} (hr : crepH A q H) : crepH A1 q H := by
  obtain ⟨r1, r2, r3⟩ := hr
  obtain ⟨z1, z2⟩ := h.2.2 q (by omega)
  exact ⟨by rw [z1]; exact r1, r2, fun j hj => by rw [z2 _ (by omega) (by omega)]; exact r3 j hj⟩
theorem frP_C {I I1 : Nat → Int} {A A1 : Nat → Int → Int} (h : frP I A I1 A1) (hC : cokC I A) : cokC I1 A1 := by
  unfold cokC
  rw [h.1 43 (by decide) (by decide) (by decide) (by decide) (by decide), h.2.1 44 (by decide) (by decide) (by decide) (by decide), h.2.1 45 (by decide) (by decide) (by decide) (by decide), h.2.1 46 (by decide) (by decide) (by decide) (by decide)]
  exact hC
theorem frP_N {I I1 : Nat → Int} {A A1 : Nat → Int → Int} (h : frP I A I1 A1) (hN : cokN I A) : cokN I1 A1 := by
  unfold cokN
  rw [h.1 121 (by decide) (by decide) (by decide) (by decide) (by decide), h.2.1 120 (by decide) (by decide) (by decide) (by decide)]
  exact hN
theorem frP_id (I : Nat → Int) (A : Nat → Int → Int) : frP I A I A := ⟨fun _ _ _ _ _ _ => rfl, fun _ _ _ _ _ => rfl, fun _ _ => ⟨rfl, fun _ _ _ => rfl⟩⟩
theorem frP_tr {I I1 I2 : Nat → Int} {A A1 A2 : Nat → Int → Int} (h : frP I A I1 A1) (h2 : frP I1 A1 I2 A2) : frP I A I2 A2 := ⟨fun k q1 q2 q3 q4 q5 => (h2.1 k q1 q2 q3 q4 q5).trans (h.1 k q1 q2 q3 q4 q5), fun k q1 q2 q3 q4 => (h2.2.1 k q1 q2 q3 q4).trans (h.2.1 k q1 q2 q3 q4), fun q hq => by
  obtain ⟨z1, z2⟩ := h.2.2 q hq
  obtain ⟨z3, z4⟩ := h2.2.2 q (by rw [z1]; exact hq)
  exact ⟨z3.trans z1, fun j j0 j1 => (z4 j j0 j1).trans (z2 j j0 j1)⟩⟩
set_option maxHeartbeats 4000000 in
set_option maxRecDepth 100000 in
theorem qX2_pageOf {l : Launch} {D : va_G} {cI : ClassId} {O : OT} {adK adV : Nat → Nat} {tT : Nat} (hO : OGC O adK adV tT) {ad : Nat → Nat} {I : Nat → Int} {A : Nat → Int → Int} {i bar : Int} (hC : cokC I A) (hN : cokN I A) (hH : cokH I A) (hi : 0 ≤ i ∧ i < I 43) (hb : 0 ≤ bar ∧ bar ≤ 7) : CC l D cI O yX2_pageOf cX2_pageOf 7 (some .int) 12 [.ref (ad 159), .ref (ad 59), .ref (ad 139), .int (iZ i), .int (iZ bar)] (ad, I, A) (pI fun r u2 => (0 ≤ r ∧ r < 480) ∧ u2.1 = ad ∧ frP I A u2.2.1 u2.2.2 ∧ cokH u2.2.1 u2.2.2 ∧ crepH u2.2.2 r (chdA I A i bar)) := by
  refine ct_intro (own := RX2) (by decide) rfl hO.1.1 (Nat.le_of_ble_eq_true rfl) (by simp [Value.category]) (fun X J hJ => ?_)
  obtain ⟨⟨c1, c2⟩, c3⟩ := id hC
  show J 0 [some (.ref (ad 159)), some (.ref (ad 59)), some (.ref (ad 139)), some (.int (iZ i)), some (.int (iZ bar)), none, none] [] (ad, I, A)
  refine v_ald1 (pc := 0) hJ dX2_pageOf_0 ?_
  refine v_ild3 (pc := 1) hJ dX2_pageOf_1 ?_
  refine v_cV1i (pc := 2) (q0 := 3) (ci := 5) hJ rfl rfl lkX2_24 (qX8_firstLike hO hC hi) (Nat.le_of_ble_eq_true rfl) (rOk_L (by decide) (by decide)) dX2_pageOf_2 (fun r2 u2 g2 => ?_)
  obtain ⟨f1, f2, f3, rfl⟩ := g2
  have hfl : r2 < I 43 := by omega
  have hlk := like_hd (I := I) (bar := bar) f2
  obtain ⟨q, hq⟩ : ∃ z, z = r2 * 8 + bar := ⟨_, rfl⟩
  have hq480 : 0 ≤ q ∧ q < 480 := by omega
  have hca := hH r2 bar f1.1 hfl hb.1 hb.2
  rw [show 8 * r2 + bar = q by omega] at hca
  have hqr : inR (A 141 q) := by rcases hca with w | w; (omega); (have := w.1; have := w.2.1; omega)
  refine v_ist5 (pc := 5) hJ dX2_pageOf_5 (by decide) ?_
  refine v_ild5 (pc := 7) hJ dX2_pageOf_7 ?_
  refine v_bipush (pc := 9) hJ dX2_pageOf_9 (by decide) ?_
  refine v_imul (pc := 11) hJ dX2_pageOf_11 ?_
  refine v_ild4 (pc := 12) hJ dX2_pageOf_12 ?_
  refine v_iadd (pc := 14) hJ dX2_pageOf_14 ?_
  rw [← hq]
  refine v_ist6 (pc := 15) hJ dX2_pageOf_15 (by decide) ?_
  refine v_ald0 (pc := 17) hJ dX2_pageOf_17 ?_
  refine cgX2_15 (pc := 18) hJ dX2_pageOf_18 ?_
  refine v_ild6 (pc := 21) hJ dX2_pageOf_21 ?_
  refine ca141 (pc := 23) hJ (by omega) (by omega) dX2_pageOf_23 ?_
  refine v_iconst (pc := 24) hJ dX2_pageOf_24 ?_
  refine v_icmp_ne (tgt := 69) (pc := 25) hJ dX2_pageOf_25 (by decide) hqr (by decide) (fun h25 => ?_) (fun h25 => ?_)
  · refine v_ild6 (pc := 69) hJ dX2_pageOf_69 ?_
    refine v_iret (pc := 71) hJ dX2_pageOf_71 ⟨_, rfl, ?_⟩
    refine ⟨hq480, rfl, frP_id I A, hH, ?_⟩
    rw [← hlk]
    rcases hca with w | w
    · exact absurd w h25
    · rw [show r2 = r2 from rfl]
      exact w
  · refine v_ald2 (pc := 28) hJ dX2_pageOf_28 ?_
    refine v_ald1 (pc := 29) hJ dX2_pageOf_29 ?_
    refine v_ild5 (pc := 30) hJ dX2_pageOf_30 ?_
    refine v_ild4 (pc := 32) hJ dX2_pageOf_32 ?_
    refine v_cV3v (pc := 34) (q0 := 19) (ci := 0) hJ rfl rfl lkX2_30 (qX0_search hO hC hN (by omega) hb) (Nat.le_of_ble_eq_true rfl) (rOk_L (by decide) (by decide)) dX2_pageOf_34 (fun u34 g34 => ?_)
    skip
    obtain ⟨ad3, I3, A3⟩ := u34
    obtain ⟨y1, y2, y3, y4⟩ := g34
    dsimp only at y1 y2 y3 y4
    subst y1
    have hlen6 : (chdA I A r2 bar).length ≤ 6 := by
      have hq0 : QH (I 121).toNat (rvL []) [] := ⟨fun e he => by (cases he), by simp, fun i j _ hj => absurd hj (Nat.not_lt_zero _), fun e he => by (cases he)⟩
      have := sub_Q (pt := A 120) (bar := bar) (tones := ctsA A r2) (rt := tn (A 44 r2)) (bs := tn (A 46 r2)) (show (I 121).toNat ≤ 6 by have := hN.1; omega) (I 121).toNat [] [] (by simp) (fun v hv => by cases hv) hq0
      unfold chdA
      rw [hdX_sub]
      exact this.2.1
    have hf6 : 0 ≤ I3 123 ∧ I3 123 ≤ 6 := by have := y4.1; omega
    refine v_ald2 (pc := 37) hJ dX2_pageOf_37 ?_
    refine cgX2_36 (pc := 38) hJ dX2_pageOf_38 ?_
    refine v_iconst (pc := 41) hJ dX2_pageOf_41 ?_
    refine v_ald0 (pc := 42) hJ dX2_pageOf_42 ?_
    refine cgX2_9 (pc := 43) hJ dX2_pageOf_43 ?_
    refine v_ild6 (pc := 46) hJ dX2_pageOf_46 ?_
    refine v_bipush (pc := 48) hJ dX2_pageOf_48 (by decide) ?_
    refine v_imul (pc := 50) hJ dX2_pageOf_50 ?_
    refine v_ald2 (pc := 51) hJ dX2_pageOf_51 ?_
    refine cgX2_39 (pc := 52) hJ dX2_pageOf_52 ?_
    refine v_cpB (pc := 55) hJ (by omega) (by omega) (by omega) (by omega) (Nat.le_of_ble_eq_true rfl) ⟨by decide, by decide⟩ dX2_pageOf_55 ?_
    refine v_ald0 (pc := 58) hJ dX2_pageOf_58 ?_
    refine cgX2_15 (pc := 59) hJ dX2_pageOf_59 ?_
    refine v_ild6 (pc := 62) hJ dX2_pageOf_62 ?_
    refine v_ald2 (pc := 64) hJ dX2_pageOf_64 ?_
    refine cgX2_39 (pc := 65) hJ dX2_pageOf_65 ?_
    try simp only [up_s, up_n, up_up, ne_eq, Nat.reduceEqDiff, not_false_eq_true]
    refine cs141 (pc := 68) hJ (by omega) (by omega) dX2_pageOf_68 ?_
    refine v_ild6 (pc := 69) hJ dX2_pageOf_69 ?_
    refine v_iret (pc := 71) hJ dX2_pageOf_71 ⟨_, rfl, ?_⟩
    simp only [up_s, up_n, up_up, ne_eq, Nat.reduceEqDiff, not_false_eq_true]
    have hl6 := hdX_ok (pt := A 120) (n := (I 121).toNat) (bar := bar) (tones := ctsA A r2) (rt := tn (A 44 r2)) (bs := tn (A 46 r2)) (by have := hN.1; omega)
    have hrep : crepH (va_up (va_up A3 140 (zcp (A3 122) (A3 140) (q * 6) (I3 123))) 141 (zu (A3 141) q (I3 123))) q (chdA I A r2 bar) := by
      refine ⟨by rw [up_s, zu_same]; exact y4.1, hlen6, fun j hj => ?_⟩
      rw [up_n (by decide), up_s]
      unfold zcp
      have y41 := y4.1
      rw [if_pos (by omega), show 6 * q + (j : Int) - q * 6 = j by omega]
      exact y4.2 j hj
    have hfr : frP I A I3 (va_up (va_up A3 140 (zcp (A3 122) (A3 140) (q * 6) (I3 123))) 141 (zu (A3 141) q (I3 123))) := by
      refine ⟨y2, fun k q1 q2 q3 q4 => by rw [up_n q4, up_n q3]; exact y3 k q1 q2, fun z hz => ?_⟩
      have hzq : z ≠ q := fun w => hz (by rw [w]; exact h25)
      refine ⟨by rw [up_s, zu_ne hzq, y3 141 (by decide) (by decide)], fun j j0 j1 => ?_⟩
      rw [up_n (by decide), up_s]
      unfold zcp
      have y41 := y4.1
      rw [if_neg (by omega), y3 140 (by decide) (by decide)]
    refine ⟨hq480, trivial, hfr, fun a b a0 a1 b0 b1 => ?_, by rw [← hlk]; exact hrep⟩
    try dsimp only at a1 ⊢
    rw [frP_hd hfr]
    have a43 : I3 43 = I 43 := y2 43 (by decide) (by decide) (by decide) (by decide) (by decide)
    by_cases w : 8 * a + b = q
    · rw [w]
      refine Or.inr ?_
      have e1 : a = r2 := by omega
      have e2 : b = bar := by omega
      rw [e1, e2]
      exact hrep
    · rcases hH a b a0 (by omega) b0 b1 with h | h
      · refine Or.inl ?_
        rw [up_s, zu_ne w, y3 141 (by decide) (by decide)]
        exact h
      · exact Or.inr (frP_rep hfr h)
