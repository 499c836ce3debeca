/-- the best hands so far, as the class keeps them -/
def hasB (m : Int) (F : Int → Int) (H : HS) : Prop := m = (H.length : Int) ∧ ∀ j : Nat, j < H.length → F j = hnE (H.getD j (0, []))
theorem okHS_g {n : Nat} {H : HS} (h : okHS n H) {j : Nat} (hj : j < H.length) : okE n (H.getD j (0, [])) := by
  refine h _ ?_
  rw [List.getD, List.getElem?_eq_getElem hj]
  exact List.getElem_mem hj
def mayP (g pt : Int → Int) (bar nd : Int) (n d : Nat) (H : HS) : Prop := soN g d ≠ -1 ∧ ¬ (H.length = 6 ∧ sj H 5 ≤ soN g d) ∧ cS g pt bar nd d ≤ (n : Int) - d
theorem soN_in {g : Int → Int} {n : Nat} (hn : n ≤ 6) (h : ∀ j : Nat, j < n → -1 ≤ g j ∧ g j ≤ 9) : (0 ≤ fgN g n ∧ fgN g n ≤ 6) ∧ (0 ≤ msN g n ∧ msN g n ≤ 9) ∧ (soN g n = -1 ∨ (soN g n = st0 g n ∧ 0 ≤ soN g n ∧ soN g n ≤ 60)) := by
  obtain ⟨b1, b2, b3, b4⟩ := st_b g g 0 (lsN g n) n
  have b5 := atl_fin g (lsN g n) n
  have hm : ∀ k : Nat, k ≤ n → 0 ≤ msN g k ∧ msN g k ≤ 9 := by
    intro k
    induction k with
    | zero => intro _; exact ⟨Int.le_refl 0, by show (0 : Int) ≤ 9; decide⟩
    | succ k ih =>
      intro hk
      have h1 := ih (by omega)
      have h2 := h k (by omega)
      rw [msN]
      unfold msF
      split <;> omega
  have hm2 := hm n (Nat.le_refl _)
  have hf : 0 ≤ fgN g n ∧ fgN g n ≤ 6 := by unfold fgN; split <;> omega
  refine ⟨hf, hm2, ?_⟩
  unfold soN
  split
  · exact Or.inl rfl
  · refine Or.inr ⟨rfl, ?_⟩
    unfold st0
    omega
set_option maxHeartbeats 4000000 in
set_option maxRecDepth 100000 in
theorem qX0_mayFit {l : Launch} {D : va_G} {cI : ClassId} {O : OT} {adK adV : Nat → Nat} {tT : Nat} (hO : OGC O adK adV tT) {ad : Nat → Nat} {I : Nat → Int} {A : Nat → Int → Int} {n d : Nat} {b : Int} {H : HS} (hn : (n : Int) = I 121) (hd : d ≤ n) (hN : cokN I A) (hb : 0 ≤ I 125 ∧ I 125 ≤ 7) (hg : frN A d) (h127 : 0 ≤ I 127 ∧ I 127 < 4096) (hB : hasB (I 123) (A 122) H) (hQ : QH n b H) : CC l D cI O yX0_mayFit cX0_mayFit 3 (some .boolean) 3 [.ref (ad 139), .int (iZ (d : Int))] (ad, I, A) (pI fun r u2 => (r = 0 ∨ r = 1) ∧ (r = 1 ↔ mayP (A 124) (A 120) (I 125) (I 127) n d H) ∧ u2 = (ad, I, A)) := by
  refine ct_intro (own := RX0) (by decide) rfl hO.1.1 (Nat.le_of_ble_eq_true rfl) (by simp [Value.category]) (fun X J hJ => ?_)
  obtain ⟨⟨n1, n2⟩, n3⟩ := id hN
  obtain ⟨q1, q2, q3, q4⟩ := id hQ
  have hso := soN_in (g := A 124) (n := d) (by omega) (fun j hj => hg j (by omega))
  have hzi := zand_in (a := I 127) (b := zxor (sndN (A 124) (A 120) (I 125) d) (-1)) (by omega)
  have hcn := cntN_in (zand (I 127) (zxor (sndN (A 124) (A 120) (I 125) d) (-1))) 12
  have hB1 := hB.1
  show J 0 [some (.ref (ad 139)), some (.int (iZ (d : Int))), none] [] (ad, I, A)
  refine v_ald0 (pc := 0) hJ dX0_mayFit_0 ?_
  refine v_ild1 (pc := 1) hJ dX0_mayFit_1 ?_
  refine v_cV1i (pc := 2) (q0 := 19) (ci := 0) hJ rfl rfl lkX0_66 (qX0_strainOfFirst hO (by omega) hg) (Nat.le_of_ble_eq_true rfl) (rOk_L (by decide) (by decide)) dX0_mayFit_2 (fun r2 u2 g2 => ?_)
  obtain ⟨rfl, rfl⟩ := g2
  refine v_ist2 (pc := 5) hJ dX0_mayFit_5 (by decide) ?_
  refine v_ild2 (pc := 6) hJ dX0_mayFit_6 ?_
  refine v_iconst (pc := 7) hJ dX0_mayFit_7 ?_
  refine v_icmp_ne (tgt := 13) (pc := 8) hJ dX0_mayFit_8 (by decide) (by omega) (by omega) (fun h8 => ?_) (fun h8 => ?_)
  · refine v_ald0 (pc := 13) hJ dX0_mayFit_13 ?_
    refine cgX0_52 (pc := 14) hJ dX0_mayFit_14 ?_
    try simp only [up_s, up_n, up_up, ne_eq, Nat.reduceEqDiff, not_false_eq_true]
    refine v_bipush (pc := 17) hJ dX0_mayFit_17 (by decide) ?_
    refine v_icmp_ne (tgt := 37) (pc := 19) hJ dX0_mayFit_19 (by decide) (by omega) (by omega) (fun h19 => ?_) (fun h19 => ?_)
    · refine v_ald0 (pc := 37) hJ dX0_mayFit_37 ?_
      refine cgX0_38 (pc := 38) hJ dX0_mayFit_38 ?_
      try simp only [up_s, up_n, up_up, ne_eq, Nat.reduceEqDiff, not_false_eq_true]
      refine v_ald0 (pc := 41) hJ dX0_mayFit_41 ?_
      refine v_ild1 (pc := 42) hJ dX0_mayFit_42 ?_
      refine v_cV1i (pc := 43) (q0 := 19) (ci := 0) hJ rfl rfl lkX0_88 (qX0_soundingOfFirst hO (by omega) hN hb hg) (Nat.le_of_ble_eq_true rfl) (rOk_L (by decide) (by decide)) dX0_mayFit_43 (fun r43 u43 g43 => ?_)
      obtain ⟨rfl, rfl⟩ := g43
      try simp only [up_s, up_n, up_up, ne_eq, Nat.reduceEqDiff, not_false_eq_true]
      refine v_iconst (pc := 46) hJ dX0_mayFit_46 ?_
      refine v_ixor (pc := 47) hJ dX0_mayFit_47 ?_
      refine v_iand (pc := 48) hJ dX0_mayFit_48 ?_
      refine v_cS1i (pc := 49) hJ lkX0_91 (qJ6_bitCount_0f7a4 hO.1.1 (by omega)) (Nat.le_of_ble_eq_true rfl) (rOk_L (by decide) (by decide)) dX0_mayFit_49 (fun r49 u49 g49 => ?_)
      obtain ⟨rfl, rfl⟩ := g49
      try simp only [up_s, up_n, up_up, ne_eq, Nat.reduceEqDiff, not_false_eq_true]
      refine v_ald0 (pc := 52) hJ dX0_mayFit_52 ?_
      refine cgX0_59 (pc := 53) hJ dX0_mayFit_53 ?_
      try simp only [up_s, up_n, up_up, ne_eq, Nat.reduceEqDiff, not_false_eq_true]
      refine v_ild1 (pc := 56) hJ dX0_mayFit_56 ?_
      refine v_isub (pc := 57) hJ dX0_mayFit_57 ?_
      refine v_icmp_gt (tgt := 65) (pc := 58) hJ dX0_mayFit_58 (by decide) (by omega) (by omega) (fun h58 => ?_) (fun h58 => ?_)
      · refine v_iconst (pc := 65) hJ dX0_mayFit_65 ?_
        refine v_zret (pc := 66) hJ rfl dX0_mayFit_66 ⟨_, rfl, ?_⟩
        refine ⟨by omega, ⟨fun q => ?_, fun q => ?_⟩, rfl⟩
        · exact absurd q (by decide)
        · exfalso; have := q.2.2; unfold cS at this; omega
      · refine v_iconst (pc := 61) hJ dX0_mayFit_61 ?_
        refine v_goto (tgt := 66) (pc := 62) hJ dX0_mayFit_62 (by decide) ?_
        refine v_zret (pc := 66) hJ rfl dX0_mayFit_66 ⟨_, rfl, ?_⟩
        refine ⟨by omega, ⟨fun q => ?_, fun q => ?_⟩, rfl⟩
        · exact ⟨by omega, fun w => by omega, by unfold cS; omega⟩
        · rfl
    · refine v_ild2 (pc := 22) hJ dX0_mayFit_22 ?_
      refine v_ald0 (pc := 23) hJ dX0_mayFit_23 ?_
      refine cgX0_15 (pc := 24) hJ dX0_mayFit_24 ?_
      refine v_iconst (pc := 27) hJ dX0_mayFit_27 ?_
      refine ca122 (pc := 28) hJ (by omega) (by omega) dX0_mayFit_28 ?_
      try simp only [up_s, up_n, up_up, ne_eq, Nat.reduceEqDiff, not_false_eq_true]
      have h5 := hB.2 5 (by omega)
      have hk5 := hn_in (show n ≤ 6 by omega) (okHS_g q1 (show 5 < H.length by omega))
      rw [show A 122 5 = A 122 ((5 : Nat) : Int) from rfl, h5]
      have hs5 : (H.getD 5 (0, [])).1 = sj H 5 := rfl
      have hs60 := (okHS_j q1 (show 5 < H.length by omega)).1
      refine v_cS1i (pc := 29) hJ lkX0_85 (qX1_strainOf hO (by omega)) (Nat.le_of_ble_eq_true rfl) (rOk_L (by decide) (by decide)) dX0_mayFit_29 (fun r29 u29 g29 => ?_)
      obtain ⟨r29e, rfl⟩ := g29
      rw [hk5.2.2, hs5] at r29e
      try simp only [up_s, up_n, up_up, ne_eq, Nat.reduceEqDiff, not_false_eq_true]
      refine v_icmp_lt (tgt := 37) (pc := 32) hJ dX0_mayFit_32 (by decide) (by omega) (by omega) (fun h32 => ?_) (fun h32 => ?_)
      · refine v_ald0 (pc := 37) hJ dX0_mayFit_37 ?_
        refine cgX0_38 (pc := 38) hJ dX0_mayFit_38 ?_
        try simp only [up_s, up_n, up_up, ne_eq, Nat.reduceEqDiff, not_false_eq_true]
        refine v_ald0 (pc := 41) hJ dX0_mayFit_41 ?_
        refine v_ild1 (pc := 42) hJ dX0_mayFit_42 ?_
        refine v_cV1i (pc := 43) (q0 := 19) (ci := 0) hJ rfl rfl lkX0_88 (qX0_soundingOfFirst hO (by omega) hN hb hg) (Nat.le_of_ble_eq_true rfl) (rOk_L (by decide) (by decide)) dX0_mayFit_43 (fun r43 u43 g43 => ?_)
        obtain ⟨rfl, rfl⟩ := g43
        try simp only [up_s, up_n, up_up, ne_eq, Nat.reduceEqDiff, not_false_eq_true]
        refine v_iconst (pc := 46) hJ dX0_mayFit_46 ?_
        refine v_ixor (pc := 47) hJ dX0_mayFit_47 ?_
        refine v_iand (pc := 48) hJ dX0_mayFit_48 ?_
        refine v_cS1i (pc := 49) hJ lkX0_91 (qJ6_bitCount_0f7a4 hO.1.1 (by omega)) (Nat.le_of_ble_eq_true rfl) (rOk_L (by decide) (by decide)) dX0_mayFit_49 (fun r49 u49 g49 => ?_)
        obtain ⟨rfl, rfl⟩ := g49
        try simp only [up_s, up_n, up_up, ne_eq, Nat.reduceEqDiff, not_false_eq_true]
        refine v_ald0 (pc := 52) hJ dX0_mayFit_52 ?_
        refine cgX0_59 (pc := 53) hJ dX0_mayFit_53 ?_
        try simp only [up_s, up_n, up_up, ne_eq, Nat.reduceEqDiff, not_false_eq_true]
        refine v_ild1 (pc := 56) hJ dX0_mayFit_56 ?_
        refine v_isub (pc := 57) hJ dX0_mayFit_57 ?_
        refine v_icmp_gt (tgt := 65) (pc := 58) hJ dX0_mayFit_58 (by decide) (by omega) (by omega) (fun h58 => ?_) (fun h58 => ?_)
        · refine v_iconst (pc := 65) hJ dX0_mayFit_65 ?_
          refine v_zret (pc := 66) hJ rfl dX0_mayFit_66 ⟨_, rfl, ?_⟩
          refine ⟨by omega, ⟨fun q => ?_, fun q => ?_⟩, rfl⟩
          · exact absurd q (by decide)
          · exfalso; have := q.2.2; unfold cS at this; omega
        · refine v_iconst (pc := 61) hJ dX0_mayFit_61 ?_
          refine v_goto (tgt := 66) (pc := 62) hJ dX0_mayFit_62 (by decide) ?_
          refine v_zret (pc := 66) hJ rfl dX0_mayFit_66 ⟨_, rfl, ?_⟩
          refine ⟨by omega, ⟨fun q => ?_, fun q => ?_⟩, rfl⟩
          · exact ⟨by omega, fun w => by omega, by unfold cS; omega⟩
          · rfl
      · refine v_iconst (pc := 35) hJ dX0_mayFit_35 ?_
        refine v_zret (pc := 36) hJ rfl dX0_mayFit_36 ⟨_, rfl, ?_⟩
        exact ⟨Or.inl rfl, ⟨fun q => absurd q (by decide), fun q => absurd ⟨by omega, by omega⟩ q.2.1⟩, rfl⟩
  · refine v_iconst (pc := 11) hJ dX0_mayFit_11 ?_
    refine v_zret (pc := 12) hJ rfl dX0_mayFit_12 ⟨_, rfl, ?_⟩
    exact ⟨Or.inl rfl, ⟨fun q => absurd q (by decide), fun q => absurd h8 q.1⟩, rfl⟩
theorem posN_dn {st : Int → Int} {x : Int} {j : Nat} (h0 : 0 < j) (h : x < st ((j - 1 : Nat) : Int)) : posN st x j = posN st x (j - 1) := by
  cases j with
  | zero => omega
  | succ j =>
    have h2 : x < st (j : Int) := h
    show posN st x (j + 1) = posN st x j
    rw [posN, if_pos h2]
theorem posN_full {st : Int → Int} {x : Int} {n : Nat} (h : ¬ x < st (n : Int)) : posN st x (n + 1) = n + 1 := by rw [posN, if_neg h]
set_option maxHeartbeats 4000000 in
set_option maxRecDepth 100000 in
theorem qX0_keep {l : Launch} {D : va_G} {cI : ClassId} {O : OT} {adK adV : Nat → Nat} {tT : Nat} (hO : OGC O adK adV tT) {ad : Nat → Nat} {I : Nat → Int} {A : Nat → Int → Int} {n : Nat} {x : Int} {p : List Int} {H : HS} (hn : n ≤ 6) (hp : p.length = n) (hv : ∀ v ∈ p, -1 ≤ v ∧ v ≤ 9) (hx : 0 ≤ x ∧ x ≤ 60) (hB : hasB (I 123) (A 122) H) (hQ : QH n (rvL p) H) : CC l D cI O yX0_keep cX0_keep 3 none 1 [.ref (ad 139), .int (iZ (hnE (x, p)))] (ad, I, A) (pV fun u2 => ∃ m F, hasB m F (insH H x p) ∧ u2 = (ad, va_up I 123 m, va_up A 122 F)) := by
  refine ct_intro (own := RX0) (by decide) rfl hO.1.1 (Nat.le_of_ble_eq_true rfl) (by simp [Value.category]) (fun X J hJ => ?_)
  obtain ⟨q1, q2, q3, q4⟩ := id hQ
  obtain ⟨hB1, hB2⟩ := id hB
  have hhi := hn_in (e := (x, p)) hn ⟨hx, hp, hv⟩
  obtain ⟨hd, hhd⟩ : ∃ z, z = hnE (x, p) := ⟨_, rfl⟩
  have hcmp : ∀ j : Nat, j < H.length → (x < hst H j ↔ hd < A 122 j) ∧ (0 ≤ A 122 j ∧ A 122 j < 1023410176) := fun j hj => by
    have k := okHS_g q1 hj
    have k2 := hn_lt (x := x) hn k hp hv (q4 _ (by rw [List.getD, List.getElem?_eq_getElem hj]; exact List.getElem_mem hj))
    have k3 := hn_in hn k
    rw [hB2 j hj, hhd, show hst H (j : Int) = (H.getD j (0, [])).1 by unfold hst; rw [Int.toNat_natCast]]
    exact ⟨k2.1, k3.1, k3.2.1⟩
  rw [← hhd] at hhi
  have hlen := insH_len H x p
  obtain ⟨M, hM⟩ : ∃ z : Nat, z = (insH H x p).length := ⟨_, rfl⟩
  have fin : ∀ (j : Nat) (F : Int → Int), j < M → posN (hst H) x H.length = j → (∀ i : Nat, i < M → F i = if j < i then A 122 ((i : Int) - 1) else A 122 i) → hasB (M : Int) (zu F j hd) (insH H x p) := fun j F hj hps hF => ⟨by rw [← hM], fun i hi => by
    rw [insH_get H x p hi, hps]
    by_cases c1 : i < j
    · rw [if_pos c1, zu_ne (by omega), hF i (by omega), if_neg (by omega)]
      exact hB2 i (by omega)
    · rw [if_neg c1]
      by_cases c2 : i = j
      · rw [if_pos c2, c2, zu_same, hhd]
      · rw [if_neg c2, zu_ne (by omega), hF i (by omega), if_pos (by omega), show (i : Int) - 1 = ((i - 1 : Nat) : Int) by omega]
        exact hB2 (i - 1) (by omega)⟩
  have lp : ∀ (fu : Nat) (j : Nat) (F : Int → Int), (j < M) → (posN (hst H) x H.length = posN (hst H) x j) → (∀ i : Nat, i < M → F i = if j < i then A 122 ((i : Int) - 1) else A 122 i) → (7 - (6 - (j : Int)) + 1) < (fu : Int) → J 40 [some (.ref (ad 139)), some (.int (iZ hd)), some (.int (iZ (j : Int)))] [] (ad, va_up I 123 (M : Int), va_up A 122 F) := by
    intro fu
    induction fu with
    | zero => intro j  F hj hps hF hmu; exfalso; omega
    | succ fu ih =>
      intro j  F hj hps hF hmu
      refine v_ild2 (pc := 40) hJ dX0_keep_40 ?_
      refine v_if_le (tgt := 76) (pc := 41) hJ dX0_keep_41 (by decide) (by omega) (fun h41 => ?_) (fun h41 => ?_)
      · refine v_ald0 (pc := 76) hJ dX0_keep_76 ?_
        refine cgX0_15 (pc := 77) hJ dX0_keep_77 ?_
        refine v_ild2 (pc := 80) hJ dX0_keep_80 ?_
        refine v_ild1 (pc := 81) hJ dX0_keep_81 ?_
        refine cs122 (pc := 82) hJ (by omega) (by omega) dX0_keep_82 ?_
        refine v_vret (pc := 83) hJ dX0_keep_83 ⟨rfl, ?_⟩
        refine ⟨_, _, fin j F hj ?_ hF, by simp only [up_up, up_s]⟩
        rw [hps]
        rw [show j = 0 by omega]; rfl
      · have hFj : F ((j : Int) - 1) = A 122 ((j - 1 : Nat) : Int) := by
          have := hF (j - 1) (by omega)
          rw [if_neg (by omega)] at this
          rw [show (j : Int) - 1 = ((j - 1 : Nat) : Int) by omega]
          exact this
        have hcj := hcmp (j - 1) (by omega)
        refine v_ald0 (pc := 44) hJ dX0_keep_44 ?_
        refine cgX0_15 (pc := 45) hJ dX0_keep_45 ?_
        refine v_ild2 (pc := 48) hJ dX0_keep_48 ?_
        refine v_iconst (pc := 49) hJ dX0_keep_49 ?_
        refine v_isub (pc := 50) hJ dX0_keep_50 ?_
        refine ca122 (pc := 51) hJ (by omega) (by omega) dX0_keep_51 ?_
        try simp only [up_s, up_n, up_up, ne_eq, Nat.reduceEqDiff, not_false_eq_true]
        refine v_ild1 (pc := 52) hJ dX0_keep_52 ?_
        refine v_icmp_le (tgt := 76) (pc := 53) hJ dX0_keep_53 (by decide) (by rw [hFj]; omega) (by omega) (fun h53 => ?_) (fun h53 => ?_)
        · refine v_ald0 (pc := 76) hJ dX0_keep_76 ?_
          refine cgX0_15 (pc := 77) hJ dX0_keep_77 ?_
          refine v_ild2 (pc := 80) hJ dX0_keep_80 ?_
          refine v_ild1 (pc := 81) hJ dX0_keep_81 ?_
          refine cs122 (pc := 82) hJ (by omega) (by omega) dX0_keep_82 ?_
          refine v_vret (pc := 83) hJ dX0_keep_83 ⟨rfl, ?_⟩
          refine ⟨_, _, fin j F hj ?_ hF, by simp only [up_up, up_s]⟩
          rw [hps]
          have hc := hcj.1
          have e : j = j - 1 + 1 := by omega
          rw [e, posN_full (fun w => by have := hc.mp w; rw [hFj] at h53; omega)]
        · refine v_ald0 (pc := 56) hJ dX0_keep_56 ?_
          refine cgX0_15 (pc := 57) hJ dX0_keep_57 ?_
          refine v_ild2 (pc := 60) hJ dX0_keep_60 ?_
          refine v_ald0 (pc := 61) hJ dX0_keep_61 ?_
          refine cgX0_15 (pc := 62) hJ dX0_keep_62 ?_
          refine v_ild2 (pc := 65) hJ dX0_keep_65 ?_
          refine v_iconst (pc := 66) hJ dX0_keep_66 ?_
          refine v_isub (pc := 67) hJ dX0_keep_67 ?_
          refine ca122 (pc := 68) hJ (by omega) (by omega) dX0_keep_68 ?_
          try simp only [up_s, up_n, up_up, ne_eq, Nat.reduceEqDiff, not_false_eq_true]
          refine cs122 (pc := 69) hJ (by omega) (by omega) dX0_keep_69 ?_
          refine v_inc2 (pc := 70) hJ dX0_keep_70 (by decide) ?_
          refine v_goto (tgt := 40) (pc := 73) hJ dX0_keep_73 (by decide) ?_
          simp only [up_up, up_s]
          rw [show ((j : Int) + -1) = ((j - 1 : Nat) : Int) by omega]
          refine ih (j - 1) _ (by omega) (by rw [hps]; exact posN_dn (by omega) (hcj.1.mpr (by rw [hFj] at h53; omega))) (fun i hi => ?_) (by omega)
          by_cases c : i = j
          · rw [c, zu_same, if_pos (by omega), hFj, show (((j - 1 : Nat)) : Int) = (j : Int) - 1 by omega]
          · rw [zu_ne (by omega), hF i hi]
            by_cases c2 : j < i
            · rw [if_pos c2, if_pos (by omega)]
            · rw [if_neg c2, if_neg (by omega)]
  rw [← hhd]
  show J 0 [some (.ref (ad 139)), some (.int (iZ hd)), none] [] (ad, I, A)
  refine v_ald0 (pc := 0) hJ dX0_keep_0 ?_
  refine cgX0_52 (pc := 1) hJ dX0_keep_1 ?_
  refine v_bipush (pc := 4) hJ dX0_keep_4 (by decide) ?_
  refine v_icmp_ge (tgt := 22) (pc := 6) hJ dX0_keep_6 (by decide) (by omega) (by omega) (fun h6 => ?_) (fun h6 => ?_)
  · have h5 := hcmp 5 (by omega)
    refine v_ald0 (pc := 22) hJ dX0_keep_22 ?_
    refine cgX0_15 (pc := 23) hJ dX0_keep_23 ?_
    refine v_iconst (pc := 26) hJ dX0_keep_26 ?_
    refine ca122 (pc := 27) hJ (by omega) (by omega) dX0_keep_27 ?_
    refine v_ild1 (pc := 28) hJ dX0_keep_28 ?_
    refine v_icmp_gt (tgt := 33) (pc := 29) hJ dX0_keep_29 (by decide) (by show inR (A 122 ((5 : Nat) : Int)); omega) (by omega) (fun h29 => ?_) (fun h29 => ?_)
    · refine v_ald0 (pc := 33) hJ dX0_keep_33 ?_
      refine cgX0_52 (pc := 34) hJ dX0_keep_34 ?_
      refine v_iconst (pc := 37) hJ dX0_keep_37 ?_
      refine v_isub (pc := 38) hJ dX0_keep_38 ?_
      refine v_ist2 (pc := 39) hJ dX0_keep_39 (by decide) ?_
      have h6 : H.length = 6 := by omega
      have hMl : (M : Int) = I 123 := by omega
      have hn2 := lp 20 5 (A 122) (by omega) (by rw [h6, posN, if_pos (h5.1.mpr (by show hd < A 122 5; omega))]) (fun i hi => by rw [if_neg (by omega)]) (by omega)
      rw [up_id, hMl, up_id] at hn2
      rw [show I 123 - 1 = ((5 : Nat) : Int) by omega]
      exact hn2
    · refine v_vret (pc := 32) hJ dX0_keep_32 ⟨rfl, ?_⟩
      have h6 : H.length = 6 := by omega
      have e : insH H x p = H := by
        refine rep_full q2 ?_
        rw [h6]
        refine posN_full (fun w => ?_)
        have := h5.1.mp w
        have h29b : A 122 ((5 : Nat) : Int) ≤ hd := by show A 122 5 ≤ hd; omega
        omega
      exact ⟨I 123, A 122, by rw [e]; exact hB, by rw [up_id, up_id]⟩
  · refine v_ald0 (pc := 9) hJ dX0_keep_9 ?_
    refine v_dup (pc := 10) hJ dX0_keep_10 rfl ?_
    refine cgX0_52 (pc := 11) hJ dX0_keep_11 ?_
    refine v_iconst (pc := 14) hJ dX0_keep_14 ?_
    refine v_iadd (pc := 15) hJ dX0_keep_15 ?_
    refine cpX0_52 (pc := 16) hJ dX0_keep_16 ?_
    refine v_goto (tgt := 33) (pc := 19) hJ dX0_keep_19 (by decide) ?_
    refine v_ald0 (pc := 33) hJ dX0_keep_33 ?_
    refine cgX0_52 (pc := 34) hJ dX0_keep_34 ?_
    try simp only [up_s, up_n, up_up, ne_eq, Nat.reduceEqDiff, not_false_eq_true]
    refine v_iconst (pc := 37) hJ dX0_keep_37 ?_
    refine v_isub (pc := 38) hJ dX0_keep_38 ?_
    refine v_ist2 (pc := 39) hJ dX0_keep_39 (by decide) ?_
    have hMl : (M : Int) = I 123 + 1 := by omega
    rw [show I 123 + 1 - 1 = ((H.length : Nat) : Int) by omega, ← hMl]
    have hn2 := lp 20 H.length (A 122) (by omega) rfl (fun i hi => by rw [if_neg (by omega)]) (by omega)
    rw [up_id] at hn2
    exact hn2
