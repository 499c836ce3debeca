/-- an item of the reference as one of the class -/
def dI (x : Int) : Int := if x < 0 then 255 - x else x
def relP (I : Nat → Int) (A : Nat → Int → Int) : PS → Prop
  | ((a, ch, ln, sz), R, K, B, L, S) => I 22 = a ∧ I 63 = ch ∧ I 62 = ln ∧ I 61 = sz ∧ (∀ j, 0 ≤ j → j < ch → A 64 j = R j ∧ A 65 j = K j ∧ A 66 j = B j ∧ A 67 j = L j) ∧ (∀ j, 0 ≤ j → j < sz → A 60 j = dI (S j))
def frR (I : Nat → Int) (A : Nat → Int → Int) (I1 : Nat → Int) (A1 : Nat → Int → Int) : Prop := (∀ k, k ≠ 22 → k ≠ 23 → k ≠ 24 → k ≠ 61 → k ≠ 62 → k ≠ 63 → I1 k = I k) ∧ (∀ k, k ≠ 60 → k ≠ 64 → k ≠ 65 → k ≠ 66 → k ≠ 67 → A1 k = A k)
def itemP (ad : Nat → Nat) (I : Nat → Int) (A : Nat → Int → Int) (res : (Int × Int) ⊕ PS) (u : sC) : Prop := u.1 = ad ∧ frR I A u.2.1 u.2.2 ∧ match res with
  | .inl (k, p) => u.2.1 23 = k ∧ u.2.1 24 = p ∧ 0 ≤ u.2.1 22 ∧ u.2.1 22 ≤ 2000
  | .inr s2 => relP u.2.1 u.2.2 s2 ∧ u.2.1 23 = I 23 ∧ u.2.1 24 = I 24
theorem itm_s {F S : Int → Int} {sz x y : Int} (h : ∀ j, 0 ≤ j → j < sz → F j = dI (S j)) (e : x = dI y) (j : Int) (j0 : 0 ≤ j) (j1 : j < sz + 1) : zu F sz x j = dI (zu S sz y j) := by
  by_cases q : j = sz
  · subst q; rw [zu_same, zu_same, e]
  · rw [zu_ne q, zu_ne q]; exact h j j0 (by omega)
theorem zuz {F R : Int → Int} {ch x j : Int} (h : j ≠ ch → F j = R j) : zu F ch x j = zu R ch x j := by
  by_cases q : j = ch
  · subst q; rw [zu_same, zu_same]
  · rw [zu_ne q, zu_ne q]; exact h q
theorem chordAt_l {f : Int → Int} {p q : Int} (hp : 0 ≤ p) (h : chordAt f p = .inl q) : p ≤ q ∧ q ≤ p + 50 := by
  have n1 := ncnt_in f p
  obtain ⟨p1, hp1⟩ : ∃ z, z = p + 1 + ncnt f p := ⟨_, rfl⟩
  have hkb := kbN_lt f p1 14 (by omega)
  have hlk := lenS_ok (kdAt f p1) (by show kbN f p1 14 < 15; omega)
  obtain ⟨p2, hp2⟩ : ∃ z, z = p1 + ((txS (kdAt f p1)).length : Int) := ⟨_, rfl⟩
  have n2 := ncnt_in f (p2 + 1)
  unfold chordAt at h
  rw [← hp1, ← hp2] at h
  unfold tailAt closeAt at h
  repeat' split at h
  all_goals first
    | (injection h with h; omega)
    | cases h
theorem pst_k {f : Int → Int} {s : PS} {k p : Int} (h : pst f s = .inl (k, p)) : k = 1 ∨ k = 2 := by
  obtain ⟨⟨a, ch, ln, sz⟩, R, K, B, L, S⟩ := s
  rw [pst_eq] at h
  split at h
  · split at h
    · injection h with h; simp only [Prod.mk.injEq] at h; omega
    · split at h
      · injection h with h; simp only [Prod.mk.injEq] at h; omega
      · cases h
  · split at h
    · injection h with h; simp only [Prod.mk.injEq] at h; omega
    · split at h
      · injection h with h; simp only [Prod.mk.injEq] at h; omega
      · cases h
theorem pst_adv {T : Int → Int} {n : Int} {s s2 : PS} (h0 : 0 ≤ s.1.1) (h : pst (bA T n) s = .inr s2) : s.1.1 < s2.1.1 := by
  obtain ⟨⟨a, ch, ln, sz⟩, R, K, B, L, S⟩ := s
  dsimp only at h0 ⊢
  rw [pst_eq] at h
  split at h
  · split at h
    · cases h
    · split at h
      · cases h
      · rename_i ro kd ba p hc
        have := chordAt_in (by omega) hc
        injection h with h
        subst h
        show a < p
        omega
  · split at h
    · cases h
    · split at h
      · cases h
      · injection h with h
        subst h
        show a < a + 1
        omega
set_option maxHeartbeats 4000000 in
set_option maxRecDepth 100000 in
theorem qX7_readItem {l : Launch} {D : va_G} {cI : ClassId} {O : OT} {adK adV : Nat → Nat} {tT : Nat} (hO : OGC O adK adV tT) {ad : Nat → Nat} {I : Nat → Int} {A : Nat → Int → Int} {s : PS} (h20 : ad 20 = ad 0) (h21 : 0 ≤ I 21 ∧ I 21 ≤ 1200) (hT : ∀ j, 0 ≤ j → j < I 21 → 0 ≤ A 0 j ∧ A 0 j ≤ 255) (hs : okP (I 21) s) (hr : relP I A s) (hl : s.1.1 < I 21) : CC l D cI O yX7_readItem cX7_readItem 3 none 8 [.ref (ad 39), .ref (ad 79)] (ad, I, A) (pV fun u2 => itemP ad I A (pst (bA (A 0) (I 21)) s) u2) := by
  refine ct_intro (own := RX7) (by decide) rfl hO.1.1 (Nat.le_of_ble_eq_true rfl) (by simp [Value.category]) (fun X J hJ => ?_)
  obtain ⟨f, hf⟩ : ∃ f, f = bA (A 0) (I 21) := ⟨_, rfl⟩
  obtain ⟨⟨a, ch, ln, sz⟩, R, K, B, L, S⟩ := s
  obtain ⟨k1, k2, k3, k4, -, -, -⟩ := hs
  obtain ⟨y1, y2, y3, y4, y5, y6⟩ := hr
  dsimp only at hl
  rw [← hf] at hJ
  show J 0 [some (.ref (ad 39)), some (.ref (ad 79)), none] [] (ad, I, A)
  refine v_ald0 (pc := 0) hJ dX7_readItem_0 ?_
  refine v_ald0 (pc := 1) hJ dX7_readItem_1 ?_
  refine cgX7_28 (pc := 2) hJ dX7_readItem_2 ?_
  refine v_cV1i (pc := 5) (q0 := 2) (ci := 4) hJ rfl rfl lkX7_43 (qX7_signAt hO h20 (by omega) h21 hT) (Nat.le_of_ble_eq_true rfl) (rOk_L (by decide) (by decide)) dX7_readItem_5 (fun r5 u5 g5 => ?_)
  obtain ⟨g5, rfl⟩ := g5
  rw [← hf] at g5
  refine v_ist2 (pc := 8) hJ dX7_readItem_8 (by decide) ?_
  refine v_ild2 (pc := 9) hJ dX7_readItem_9 ?_
  refine v_bipush (pc := 10) hJ dX7_readItem_10 (by decide) ?_
  refine v_icmp_ne (tgt := 23) (pc := 12) hJ dX7_readItem_12 (by decide) (by omega) (by omega) (fun h12 => ?_) (fun h12 => ?_)
  · refine v_ild2 (pc := 23) hJ dX7_readItem_23 ?_
    refine v_bipush (pc := 24) hJ dX7_readItem_24 (by decide) ?_
    refine v_icmp_ne (tgt := 37) (pc := 26) hJ dX7_readItem_26 (by decide) (by omega) (by omega) (fun h26 => ?_) (fun h26 => ?_)
    · refine v_ild2 (pc := 37) hJ dX7_readItem_37 ?_
      refine v_bipush (pc := 38) hJ dX7_readItem_38 (by decide) ?_
      refine v_icmp_lt (tgt := 55) (pc := 40) hJ dX7_readItem_40 (by decide) (by omega) (by omega) (fun h40 => ?_) (fun h40 => ?_)
      · refine v_ald0 (pc := 55) hJ dX7_readItem_55 ?_
        refine v_iconst (pc := 56) hJ dX7_readItem_56 ?_
        refine v_cV1v (pc := 57) (q0 := 2) (ci := 4) hJ rfl rfl lkX7_53 (qX7_refuse hO) (Nat.le_of_ble_eq_true rfl) (rOk_L (by decide) (by decide)) dX7_readItem_57 (fun u57 g57 => ?_)
        subst g57
        try simp only [up_s, up_n, up_up, ne_eq, Nat.reduceEqDiff, not_false_eq_true]
        refine v_goto (tgt := 78) (pc := 60) hJ dX7_readItem_60 (by decide) ?_
        refine v_vret (pc := 78) hJ dX7_readItem_78 ⟨rfl, ?_⟩
        have e91 : f a = r5 := by rw [← y1]; omega
        rw [pst_w1 (by omega) (by omega)]
        exact ⟨rfl, ⟨fun k k1 k2 k3 k4 k5 k6 => by simp [up_n, k1, k2, k3, k4, k5, k6], fun k k1 k2 k3 k4 k5 => by simp [up_n, k1, k2, k3, k4, k5]⟩, by simp only [up_s, up_n, up_up, ne_eq, Nat.reduceEqDiff, not_false_eq_true], by simp only [up_s, up_n, up_up, ne_eq, Nat.reduceEqDiff, not_false_eq_true]; exact y1, by simp only [up_s, up_n, up_up, ne_eq, Nat.reduceEqDiff, not_false_eq_true]; omega⟩
      · refine v_ild2 (pc := 43) hJ dX7_readItem_43 ?_
        refine v_bipush (pc := 44) hJ dX7_readItem_44 (by decide) ?_
        refine v_icmp_gt (tgt := 55) (pc := 46) hJ dX7_readItem_46 (by decide) (by omega) (by omega) (fun h46 => ?_) (fun h46 => ?_)
        · refine v_ald0 (pc := 55) hJ dX7_readItem_55 ?_
          refine v_iconst (pc := 56) hJ dX7_readItem_56 ?_
          refine v_cV1v (pc := 57) (q0 := 2) (ci := 4) hJ rfl rfl lkX7_53 (qX7_refuse hO) (Nat.le_of_ble_eq_true rfl) (rOk_L (by decide) (by decide)) dX7_readItem_57 (fun u57 g57 => ?_)
          subst g57
          try simp only [up_s, up_n, up_up, ne_eq, Nat.reduceEqDiff, not_false_eq_true]
          refine v_goto (tgt := 78) (pc := 60) hJ dX7_readItem_60 (by decide) ?_
          refine v_vret (pc := 78) hJ dX7_readItem_78 ⟨rfl, ?_⟩
          have e91 : f a = r5 := by rw [← y1]; omega
          rw [pst_w1 (by omega) (by omega)]
          exact ⟨rfl, ⟨fun k k1 k2 k3 k4 k5 k6 => by simp [up_n, k1, k2, k3, k4, k5, k6], fun k k1 k2 k3 k4 k5 => by simp [up_n, k1, k2, k3, k4, k5]⟩, by simp only [up_s, up_n, up_up, ne_eq, Nat.reduceEqDiff, not_false_eq_true], by simp only [up_s, up_n, up_up, ne_eq, Nat.reduceEqDiff, not_false_eq_true]; exact y1, by simp only [up_s, up_n, up_up, ne_eq, Nat.reduceEqDiff, not_false_eq_true]; omega⟩
        · refine v_ild2 (pc := 49) hJ dX7_readItem_49 ?_
          refine v_bipush (pc := 50) hJ dX7_readItem_50 (by decide) ?_
          refine v_icmp_ne (tgt := 63) (pc := 52) hJ dX7_readItem_52 (by decide) (by omega) (by omega) (fun h52 => ?_) (fun h52 => ?_)
          · refine v_ald1 (pc := 63) hJ dX7_readItem_63 ?_
            refine v_ild2 (pc := 64) hJ dX7_readItem_64 ?_
            refine v_cV1v (pc := 65) (q0 := 9) (ci := 5) hJ rfl rfl lkX7_57 (qX8_addItem hO (by omega)) (Nat.le_of_ble_eq_true rfl) (rOk_L (by decide) (by decide)) dX7_readItem_65 (fun u65 g65 => ?_)
            subst g65
            try simp only [up_s, up_n, up_up, ne_eq, Nat.reduceEqDiff, not_false_eq_true]
            refine v_ald0 (pc := 68) hJ dX7_readItem_68 ?_
            refine v_dup (pc := 69) hJ dX7_readItem_69 rfl ?_
            refine cgX7_28 (pc := 70) hJ dX7_readItem_70 ?_
            try simp only [up_s, up_n, up_up, ne_eq, Nat.reduceEqDiff, not_false_eq_true]
            refine v_iconst (pc := 73) hJ dX7_readItem_73 ?_
            refine v_iadd (pc := 74) hJ dX7_readItem_74 ?_
            refine cpX7_28 (pc := 75) hJ dX7_readItem_75 ?_
            refine v_vret (pc := 78) hJ dX7_readItem_78 ⟨rfl, ?_⟩
            have e91 : f a = r5 := by rw [← y1]; omega
            rw [pst_by (by omega) (by omega) (by omega)]
            refine ⟨rfl, ⟨fun k k1 k2 k3 k4 k5 k6 => by simp [up_n, k1, k2, k3, k4, k5, k6], fun k k1 k2 k3 k4 k5 => by simp [up_n, k1, k2, k3, k4, k5]⟩, ⟨by simp only [up_s, up_n, up_up, ne_eq, Nat.reduceEqDiff, not_false_eq_true]; omega, by simp only [up_s, up_n, up_up, ne_eq, Nat.reduceEqDiff, not_false_eq_true]; exact y2, by simp only [up_s, up_n, up_up, ne_eq, Nat.reduceEqDiff, not_false_eq_true]; exact y3, by simp only [up_s, up_n, up_up, ne_eq, Nat.reduceEqDiff, not_false_eq_true]; omega, fun j j0 j1 => by simp only [up_s, up_n, up_up, ne_eq, Nat.reduceEqDiff, not_false_eq_true]; exact y5 j j0 j1, fun j j0 j1 => ?_⟩, by simp only [up_s, up_n, up_up, ne_eq, Nat.reduceEqDiff, not_false_eq_true], by simp only [up_s, up_n, up_up, ne_eq, Nat.reduceEqDiff, not_false_eq_true]⟩
            simp only [up_s, up_n, up_up, ne_eq, Nat.reduceEqDiff, not_false_eq_true]
            rw [y4]
            exact itm_s y6 (by unfold dI; rw [if_neg (by omega)]; omega) j j0 j1
          · refine v_ald0 (pc := 55) hJ dX7_readItem_55 ?_
            refine v_iconst (pc := 56) hJ dX7_readItem_56 ?_
            refine v_cV1v (pc := 57) (q0 := 2) (ci := 4) hJ rfl rfl lkX7_53 (qX7_refuse hO) (Nat.le_of_ble_eq_true rfl) (rOk_L (by decide) (by decide)) dX7_readItem_57 (fun u57 g57 => ?_)
            subst g57
            try simp only [up_s, up_n, up_up, ne_eq, Nat.reduceEqDiff, not_false_eq_true]
            refine v_goto (tgt := 78) (pc := 60) hJ dX7_readItem_60 (by decide) ?_
            refine v_vret (pc := 78) hJ dX7_readItem_78 ⟨rfl, ?_⟩
            have e91 : f a = r5 := by rw [← y1]; omega
            rw [pst_w1 (by omega) (by omega)]
            exact ⟨rfl, ⟨fun k k1 k2 k3 k4 k5 k6 => by simp [up_n, k1, k2, k3, k4, k5, k6], fun k k1 k2 k3 k4 k5 => by simp [up_n, k1, k2, k3, k4, k5]⟩, by simp only [up_s, up_n, up_up, ne_eq, Nat.reduceEqDiff, not_false_eq_true], by simp only [up_s, up_n, up_up, ne_eq, Nat.reduceEqDiff, not_false_eq_true]; exact y1, by simp only [up_s, up_n, up_up, ne_eq, Nat.reduceEqDiff, not_false_eq_true]; omega⟩
    · refine v_ald0 (pc := 29) hJ dX7_readItem_29 ?_
      refine v_ald1 (pc := 30) hJ dX7_readItem_30 ?_
      refine v_cV1v (pc := 31) (q0 := 2) (ci := 4) hJ rfl rfl lkX7_50 (qX7_readLineEnd hO (by omega) (by omega)) (Nat.le_of_ble_eq_true rfl) (rOk_L (by decide) (by decide)) dX7_readItem_31 (fun u31 g31 => ?_)
      skip
      try simp only [up_s, up_n, up_up, ne_eq, Nat.reduceEqDiff, not_false_eq_true]
      refine v_goto (tgt := 78) (pc := 34) hJ dX7_readItem_34 (by decide) ?_
      refine v_vret (pc := 78) hJ dX7_readItem_78 ⟨rfl, ?_⟩
      have e91 : f a = r5 := by rw [← y1]; omega
      obtain ⟨q1, q2⟩ := g31
      by_cases c40 : ln = 40
      · have := q1 (by omega)
        subst this
        rw [pst_w2 (by omega) c40]
        exact ⟨rfl, ⟨fun k k1 k2 k3 k4 k5 k6 => by simp [up_n, k1, k2, k3, k4, k5, k6], fun k k1 k2 k3 k4 k5 => by simp [up_n, k1, k2, k3, k4, k5]⟩, by simp only [up_s, up_n, up_up, ne_eq, Nat.reduceEqDiff, not_false_eq_true], by simp only [up_s, up_n, up_up, ne_eq, Nat.reduceEqDiff, not_false_eq_true]; exact y1, by simp only [up_s, up_n, up_up, ne_eq, Nat.reduceEqDiff, not_false_eq_true]; omega⟩
      · have := q2 (by omega)
        subst this
        rw [pst_10 (by omega) c40]
        refine ⟨rfl, ⟨fun k k1 k2 k3 k4 k5 k6 => by simp [up_n, k1, k2, k3, k4, k5, k6], fun k k1 k2 k3 k4 k5 => by simp [up_n, k1, k2, k3, k4, k5]⟩, ⟨by simp only [up_s, up_n, up_up, ne_eq, Nat.reduceEqDiff, not_false_eq_true]; omega, by simp only [up_s, up_n, up_up, ne_eq, Nat.reduceEqDiff, not_false_eq_true]; exact y2, by simp only [up_s, up_n, up_up, ne_eq, Nat.reduceEqDiff, not_false_eq_true]; omega, by simp only [up_s, up_n, up_up, ne_eq, Nat.reduceEqDiff, not_false_eq_true]; omega, fun j j0 j1 => by simp only [up_s, up_n, up_up, ne_eq, Nat.reduceEqDiff, not_false_eq_true]; exact y5 j j0 j1, fun j j0 j1 => ?_⟩, by simp only [up_s, up_n, up_up, ne_eq, Nat.reduceEqDiff, not_false_eq_true], by simp only [up_s, up_n, up_up, ne_eq, Nat.reduceEqDiff, not_false_eq_true]⟩
        simp only [up_s, up_n, up_up, ne_eq, Nat.reduceEqDiff, not_false_eq_true]
        rw [y4]
        exact itm_s y6 (by unfold dI; rw [if_neg (by omega)]; omega) j j0 j1
  · refine v_ald0 (pc := 15) hJ dX7_readItem_15 ?_
    refine v_ald1 (pc := 16) hJ dX7_readItem_16 ?_
    refine v_cV1v (pc := 17) (q0 := 2) (ci := 4) hJ rfl rfl lkX7_47 (qX7_readChord hO h20 h21 (by omega) hT (by omega) (by omega) (by omega)) (Nat.le_of_ble_eq_true rfl) (rOk_L (by decide) (by decide)) dX7_readItem_17 (fun u17 g17 => ?_)
    skip
    try simp only [up_s, up_n, up_up, ne_eq, Nat.reduceEqDiff, not_false_eq_true]
    refine v_goto (tgt := 78) (pc := 20) hJ dX7_readItem_20 (by decide) ?_
    refine v_vret (pc := 78) hJ dX7_readItem_78 ⟨rfl, ?_⟩
    have e91 : f a = r5 := by rw [← y1]; omega
    obtain ⟨q1, q2⟩ := g17
    by_cases c60 : ch = 60
    · have := q1 (by omega)
      subst this
      rw [pst_60 (by omega) c60]
      exact ⟨rfl, ⟨fun k k1 k2 k3 k4 k5 k6 => by simp [up_n, k1, k2, k3, k4, k5, k6], fun k k1 k2 k3 k4 k5 => by simp [up_n, k1, k2, k3, k4, k5]⟩, by simp only [up_s, up_n, up_up, ne_eq, Nat.reduceEqDiff, not_false_eq_true], by simp only [up_s, up_n, up_up, ne_eq, Nat.reduceEqDiff, not_false_eq_true]; exact y1, by simp only [up_s, up_n, up_up, ne_eq, Nat.reduceEqDiff, not_false_eq_true]; omega⟩
    · have q3 := q2 (by omega)
      rw [y1, ← hf] at q3
      rcases hc : chordAt f (a + 1) with p | ⟨ro, kd, ba, p⟩
      · rw [hc] at q3
        have q4 : u17 = _ := q3
        subst q4
        rw [pst_cl (by omega) c60 hc]
        have hcb := chordAt_l (by omega) hc
        exact ⟨rfl, ⟨fun k k1 k2 k3 k4 k5 k6 => by simp [up_n, k1, k2, k3, k4, k5, k6], fun k k1 k2 k3 k4 k5 => by simp [up_n, k1, k2, k3, k4, k5]⟩, by simp only [up_s, up_n, up_up, ne_eq, Nat.reduceEqDiff, not_false_eq_true], by simp only [up_s, up_n, up_up, ne_eq, Nat.reduceEqDiff, not_false_eq_true], by simp only [up_s, up_n, up_up, ne_eq, Nat.reduceEqDiff, not_false_eq_true]; omega⟩
      · rw [hc] at q3
        have q4 : u17 = _ := q3
        subst q4
        rw [pst_cr (by omega) c60 hc]
        refine ⟨rfl, ⟨fun k k1 k2 k3 k4 k5 k6 => by simp [up_n, k1, k2, k3, k4, k5, k6], fun k k1 k2 k3 k4 k5 => by simp [up_n, k1, k2, k3, k4, k5]⟩, ⟨by simp only [up_s, up_n, up_up, ne_eq, Nat.reduceEqDiff, not_false_eq_true], by simp only [up_s, up_n, up_up, ne_eq, Nat.reduceEqDiff, not_false_eq_true]; omega, by simp only [up_s, up_n, up_up, ne_eq, Nat.reduceEqDiff, not_false_eq_true]; exact y3, by simp only [up_s, up_n, up_up, ne_eq, Nat.reduceEqDiff, not_false_eq_true]; omega, fun j j0 j1 => ?_, fun j j0 j1 => ?_⟩, by simp only [up_s, up_n, up_up, ne_eq, Nat.reduceEqDiff, not_false_eq_true], by simp only [up_s, up_n, up_up, ne_eq, Nat.reduceEqDiff, not_false_eq_true]⟩
        · simp only [up_s, up_n, up_up, ne_eq, Nat.reduceEqDiff, not_false_eq_true]
          rw [y2]
          refine ⟨zuz (fun w => (y5 j j0 (by omega)).1), zuz (fun w => (y5 j j0 (by omega)).2.1), zuz (fun w => (y5 j j0 (by omega)).2.2.1), ?_⟩
          rw [y3]
          exact zuz (fun w => (y5 j j0 (by omega)).2.2.2)
        · simp only [up_s, up_n, up_up, ne_eq, Nat.reduceEqDiff, not_false_eq_true]
          rw [y4, y2]
          exact itm_s y6 (by unfold dI; rw [if_pos (by omega)]; omega) j j0 j1
def readC (ad : Nat → Nat) (I : Nat → Int) (A : Nat → Int → Int) (res : (Int × Int) ⊕ PS) (u : sC) : Prop := u.1 = va_up ad 20 (ad 0) ∧ (∀ k, k ≠ 21 → k ≠ 22 → k ≠ 23 → k ≠ 24 → k ≠ 61 → k ≠ 62 → k ≠ 63 → u.2.1 k = I k) ∧ (∀ k, k ≠ 60 → k ≠ 64 → k ≠ 65 → k ≠ 66 → k ≠ 67 → u.2.2 k = A k) ∧ match res with
  | .inl (k, p) => (k = 1 ∨ k = 2) ∧ u.2.1 23 = k ∧ u.2.1 24 = p
  | .inr s2 => u.2.1 23 = 0 ∧ u.2.1 24 = -1 ∧ relP u.2.1 u.2.2 s2
set_option maxHeartbeats 4000000 in
set_option maxRecDepth 100000 in
theorem qX7_readInto {l : Launch} {D : va_G} {cI : ClassId} {O : OT} {adK adV : Nat → Nat} {tT : Nat} (hO : OGC O adK adV tT) {ad : Nat → Nat} {I : Nat → Int} {A : Nat → Int → Int} {n : Int} {R K B L S : Int → Int} (hn : 0 ≤ n ∧ n ≤ 1200) (hT : ∀ j, 0 ≤ j → j < n → 0 ≤ A 0 j ∧ A 0 j ≤ 255) : CC l D cI O yX7_readInto cX7_readInto 5 none 9 [.ref (ad 39), .ref (ad 79), .ref (ad 0), .int (iZ n)] (ad, I, A) (pV fun u2 => readC ad I A (prun (bA (A 0) n) n 1201 ((0, 0, 1, 0), R, K, B, L, S)) u2) := by
  refine ct_intro (own := RX7) (by decide) rfl hO.1.1 (Nat.le_of_ble_eq_true rfl) (by simp [Value.category]) (fun X J hJ => ?_)
  obtain ⟨f, hf⟩ : ∃ f, f = bA (A 0) n := ⟨_, rfl⟩
  obtain ⟨fin, hfin⟩ : ∃ z, z = prun f n 1201 ((0, 0, 1, 0), R, K, B, L, S) := ⟨_, rfl⟩
  obtain ⟨ad2, h2⟩ : ∃ z, z = va_up ad 20 (ad 0) := ⟨_, rfl⟩
  rw [← hf, ← hfin] at hJ
  have a39 : ad 39 = ad2 39 := by rw [h2, up_n (by decide)]
  have a79 : ad 79 = ad2 79 := by rw [h2, up_n (by decide)]
  have a0 : ad 0 = ad2 0 := by rw [h2, up_n (by decide)]
  have h20 : ad2 20 = ad2 0 := by rw [← a0, h2, up_s]
  have dn : ∀ (I1 : Nat → Int) (A1 : Nat → Int → Int) (st : Int), I1 21 = n → inR st → inR (I1 22) → (I1 23 = 1 ∨ I1 23 = 2) → readC ad I A fin (ad2, I1, A1) → J 37 [some (.ref (ad2 39)), some (.ref (ad2 79)), some (.ref (ad2 0)), some (.int (iZ n)), some (.int (iZ st))] [] (ad2, I1, A1) := by
    intro I1 A1 st e21 hst e22 e23 hc
    refine v_ild4 (pc := 37) hJ dX7_readInto_37 ?_
    refine v_ald0 (pc := 39) hJ dX7_readInto_39 ?_
    refine cgX7_25 (pc := 40) hJ dX7_readInto_40 ?_
    refine v_icmp_ge (tgt := 75) (pc := 43) hJ dX7_readInto_43 (by decide) (by omega) (by omega) (fun h43 => ?_) (fun h43 => ?_)
    · refine v_vret (pc := 75) hJ dX7_readInto_75 ⟨rfl, ?_⟩
      exact hc
    · refine v_ald0 (pc := 46) hJ dX7_readInto_46 ?_
      refine cgX7_28 (pc := 47) hJ dX7_readInto_47 ?_
      refine v_ald0 (pc := 50) hJ dX7_readInto_50 ?_
      refine cgX7_25 (pc := 51) hJ dX7_readInto_51 ?_
      refine v_icmp_ge (tgt := 75) (pc := 54) hJ dX7_readInto_54 (by decide) (by omega) (by omega) (fun h54 => ?_) (fun h54 => ?_)
      · refine v_vret (pc := 75) hJ dX7_readInto_75 ⟨rfl, ?_⟩
        exact hc
      · refine v_ald0 (pc := 57) hJ dX7_readInto_57 ?_
        refine cgX7_31 (pc := 58) hJ dX7_readInto_58 ?_
        refine v_if_ne (tgt := 75) (pc := 61) hJ dX7_readInto_61 (by decide) (by omega) (fun h61 => ?_) (fun h61 => ?_)
        · refine v_vret (pc := 75) hJ dX7_readInto_75 ⟨rfl, ?_⟩
          exact hc
        · exfalso; omega
  have lp : ∀ (m : Nat) (s : PS) (st : Int) (I1 : Nat → Int) (A1 : Nat → Int → Int), okP n s → relP I1 A1 s → I1 21 = n → A1 0 = A 0 → (∀ k, k ≠ 21 → k ≠ 22 → k ≠ 23 → k ≠ 24 → k ≠ 61 → k ≠ 62 → k ≠ 63 → I1 k = I k) → (∀ k, k ≠ 60 → k ≠ 64 → k ≠ 65 → k ≠ 66 → k ≠ 67 → A1 k = A k) → I1 23 = 0 → I1 24 = -1 → (0 ≤ st ∧ st ≤ s.1.1) → prun f n m s = fin → n - s.1.1 < (m : Int) → 0 < m → J 37 [some (.ref (ad2 39)), some (.ref (ad2 79)), some (.ref (ad2 0)), some (.int (iZ n)), some (.int (iZ st))] [] (ad2, I1, A1) := by
    intro m
    induction m with
    | zero => intro s st I1 A1 ho hr e21 ea hfi hfa e23 e24 hst hp hm hm0; exfalso; omega
    | succ m ih =>
      intro s st I1 A1 ho hr e21 ea hfi hfa e23 e24 hst hp hm hm0
      have e22 : I1 22 = s.1.1 := by obtain ⟨⟨a, ch, ln, sz⟩, R, K, B, L, S⟩ := s; exact hr.1
      have hab : 0 ≤ s.1.1 ∧ s.1.1 ≤ n := by obtain ⟨⟨a, ch, ln, sz⟩, R, K, B, L, S⟩ := s; exact ho.1
      by_cases hl : s.1.1 < n
      · skip
        refine v_ild4 (pc := 37) hJ dX7_readInto_37 ?_
        refine v_ald0 (pc := 39) hJ dX7_readInto_39 ?_
        refine cgX7_25 (pc := 40) hJ dX7_readInto_40 ?_
        refine v_icmp_ge (tgt := 75) (pc := 43) hJ dX7_readInto_43 (by decide) (by omega) (by omega) (fun h43 => ?_) (fun h43 => ?_)
        · exfalso; omega
        · refine v_ald0 (pc := 46) hJ dX7_readInto_46 ?_
          refine cgX7_28 (pc := 47) hJ dX7_readInto_47 ?_
          refine v_ald0 (pc := 50) hJ dX7_readInto_50 ?_
          refine cgX7_25 (pc := 51) hJ dX7_readInto_51 ?_
          refine v_icmp_ge (tgt := 75) (pc := 54) hJ dX7_readInto_54 (by decide) (by omega) (by omega) (fun h54 => ?_) (fun h54 => ?_)
          · exfalso; omega
          · refine v_ald0 (pc := 57) hJ dX7_readInto_57 ?_
            refine cgX7_31 (pc := 58) hJ dX7_readInto_58 ?_
            refine v_if_ne (tgt := 75) (pc := 61) hJ dX7_readInto_61 (by decide) (by omega) (fun h61 => ?_) (fun h61 => ?_)
            · exfalso; omega
            · refine v_ald0 (pc := 64) hJ dX7_readInto_64 ?_
              refine v_ald1 (pc := 65) hJ dX7_readInto_65 ?_
              refine v_cV1v (pc := 66) (q0 := 2) (ci := 4) hJ rfl rfl lkX7_39 (qX7_readItem (s := s) hO h20 (by rw [e21]; exact hn) (by rw [e21, ea]; exact hT) (by rw [e21]; exact ho) hr (by rw [e21]; exact hl)) (Nat.le_of_ble_eq_true rfl) (rOk_L (by decide) (by decide)) dX7_readInto_66 (fun u66 g66 => ?_)
              rw [e21, ea, ← hf] at g66
              refine v_inc4 (pc := 69) hJ dX7_readInto_69 (by decide) ?_
              refine v_goto (tgt := 37) (pc := 72) hJ dX7_readInto_72 (by decide) ?_
              obtain ⟨ad3, I3, A3⟩ := u66
              obtain ⟨w1, ⟨w2, w3⟩, w4⟩ := g66
              dsimp only at w1
              subst w1
              have z21 : I3 21 = n := by rw [← e21]; exact w2 21 (by decide) (by decide) (by decide) (by decide) (by decide) (by decide)
              rcases hps : pst f s with ⟨k, p⟩ | s2
              · rw [hps] at w4
                obtain ⟨v1, v2, v3, v4⟩ := w4
                have hk12 := pst_k hps
                rw [prun_l hl hps] at hp
                refine dn I3 A3 (st + 1) z21 (by omega) (by dsimp only at v3 v4; omega) (by dsimp only at v1; omega) ⟨h2, fun k k0 k1 k2 k3 k4 k5 k6 => ?_, fun k k1 k2 k3 k4 k5 => ?_, ?_⟩
                · exact (w2 k k1 k2 k3 k4 k5 k6).trans (hfi k k0 k1 k2 k3 k4 k5 k6)
                · exact (w3 k k1 k2 k3 k4 k5).trans (hfa k k1 k2 k3 k4 k5)
                · rw [← hp]
                  exact ⟨hk12, v1, v2⟩
              · rw [hps] at w4
                obtain ⟨v1, v2, v3⟩ := w4
                rw [prun_r hl hps] at hp
                have hps2 := hps
                rw [hf] at hps2
                have ho2 := okP_st ho hl hps2
                have hadv := pst_adv hab.1 hps2
                exact ih s2 (st + 1) I3 A3 ho2 v1 z21 ((w3 0 (by decide) (by decide) (by decide) (by decide) (by decide)).trans ea) (fun k k0 k1 k2 k3 k4 k5 k6 => (w2 k k1 k2 k3 k4 k5 k6).trans (hfi k k0 k1 k2 k3 k4 k5 k6)) (fun k k1 k2 k3 k4 k5 => (w3 k k1 k2 k3 k4 k5).trans (hfa k k1 k2 k3 k4 k5)) (v2.trans e23) (v3.trans e24) (by omega) hp (by omega) (by omega)
      · skip
        refine v_ild4 (pc := 37) hJ dX7_readInto_37 ?_
        refine v_ald0 (pc := 39) hJ dX7_readInto_39 ?_
        refine cgX7_25 (pc := 40) hJ dX7_readInto_40 ?_
        refine v_icmp_ge (tgt := 75) (pc := 43) hJ dX7_readInto_43 (by decide) (by omega) (by omega) (fun h43 => ?_) (fun h43 => ?_)
        · refine v_vret (pc := 75) hJ dX7_readInto_75 ⟨rfl, ?_⟩
          rw [prun_end hl] at hp
          refine ⟨h2, hfi, hfa, ?_⟩
          rw [← hp]
          exact ⟨e23, e24, hr⟩
        · refine v_ald0 (pc := 46) hJ dX7_readInto_46 ?_
          refine cgX7_28 (pc := 47) hJ dX7_readInto_47 ?_
          refine v_ald0 (pc := 50) hJ dX7_readInto_50 ?_
          refine cgX7_25 (pc := 51) hJ dX7_readInto_51 ?_
          refine v_icmp_ge (tgt := 75) (pc := 54) hJ dX7_readInto_54 (by decide) (by omega) (by omega) (fun h54 => ?_) (fun h54 => ?_)
          · refine v_vret (pc := 75) hJ dX7_readInto_75 ⟨rfl, ?_⟩
            rw [prun_end hl] at hp
            refine ⟨h2, hfi, hfa, ?_⟩
            rw [← hp]
            exact ⟨e23, e24, hr⟩
          · exfalso; omega
  show J 0 [some (.ref (ad 39)), some (.ref (ad 79)), some (.ref (ad 0)), some (.int (iZ n)), none] [] (ad, I, A)
  refine v_ald0 (pc := 0) hJ dX7_readInto_0 ?_
  refine v_ald2 (pc := 1) hJ dX7_readInto_1 ?_
  refine cpX7_9 (pc := 2) hJ dX7_readInto_2 ?_
  rw [← h2, a39, a79, a0]
  refine v_ald0 (pc := 5) hJ dX7_readInto_5 ?_
  refine v_ild3 (pc := 6) hJ dX7_readInto_6 ?_
  refine v_ald2 (pc := 7) hJ dX7_readInto_7 ?_
  refine cl0 (pc := 8) hJ dX7_readInto_8 ?_
  refine v_mmin (pc := 9) hJ lkX7_19 (by omega) (by omega) (Nat.le_of_ble_eq_true rfl) ⟨by decide, by decide⟩ dX7_readInto_9 ?_
  rw [show (if (1200 : Int) < n then (1200 : Int) else n) = n from if_neg (by omega)]
  refine cpX7_25 (pc := 12) hJ dX7_readInto_12 ?_
  refine v_ald0 (pc := 15) hJ dX7_readInto_15 ?_
  refine v_iconst (pc := 16) hJ dX7_readInto_16 ?_
  refine cpX7_28 (pc := 17) hJ dX7_readInto_17 ?_
  refine v_ald0 (pc := 20) hJ dX7_readInto_20 ?_
  refine v_iconst (pc := 21) hJ dX7_readInto_21 ?_
  refine cpX7_31 (pc := 22) hJ dX7_readInto_22 ?_
  refine v_ald0 (pc := 25) hJ dX7_readInto_25 ?_
  refine v_iconst (pc := 26) hJ dX7_readInto_26 ?_
  refine cpX7_15 (pc := 27) hJ dX7_readInto_27 ?_
  refine v_ald1 (pc := 30) hJ dX7_readInto_30 ?_
  refine v_cV0v (pc := 31) (q0 := 9) (ci := 5) hJ rfl rfl lkX7_34 (qX8_startAnew hO) (Nat.le_of_ble_eq_true rfl) (rOk_L (by decide) (by decide)) dX7_readInto_31 (fun u31 g31 => ?_)
  subst g31
  try simp only [up_s, up_n, up_up, ne_eq, Nat.reduceEqDiff, not_false_eq_true]
  refine v_iconst (pc := 34) hJ dX7_readInto_34 ?_
  refine v_ist4 (pc := 35) hJ dX7_readInto_35 (by decide) ?_
  refine lp 1201 ((0, 0, 1, 0), R, K, B, L, S) 0 _ _ (okP_0 hn.1 R K B L S) ⟨by simp only [up_s, up_n, up_up, ne_eq, Nat.reduceEqDiff, not_false_eq_true], by simp only [up_s, up_n, up_up, ne_eq, Nat.reduceEqDiff, not_false_eq_true], by simp only [up_s, up_n, up_up, ne_eq, Nat.reduceEqDiff, not_false_eq_true], by simp only [up_s, up_n, up_up, ne_eq, Nat.reduceEqDiff, not_false_eq_true], fun j j0 j1 => by omega, fun j j0 j1 => by omega⟩ (by simp only [up_s, up_n, up_up, ne_eq, Nat.reduceEqDiff, not_false_eq_true]) rfl (fun k k0 k1 k2 k3 k4 k5 k6 => by simp [up_n, k0, k1, k2, k3, k4, k5, k6]) (fun _ _ _ _ _ _ => rfl) (by simp only [up_s, up_n, up_up, ne_eq, Nat.reduceEqDiff, not_false_eq_true]) (by simp only [up_s, up_n, up_up, ne_eq, Nat.reduceEqDiff, not_false_eq_true]) ⟨Int.le_refl _, Int.le_refl _⟩ hfin.symm (by show n - 0 < _; omega) (by decide)
