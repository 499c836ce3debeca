/-- a line as it is after n items: the names, the words, the latest byte -/
def wsN (S : Int → Int) (sz : Int) (nm : Int → List Int) (s : Int) : Nat → List Int × List Int × Int
  | 0 => ([], [], 0)
  | n + 1 => if S (s + n) < 0 then (padTo (wsN S sz nm s n).1 (loPad (wsN S sz nm s n).1 (wsN S sz nm s n).2.1 (filr S sz (wsN S sz nm s n).2.2 (s + n))).length 32 ++ nm (-1 - S (s + n)), loPad (wsN S sz nm s n).1 (wsN S sz nm s n).2.1 (filr S sz (wsN S sz nm s n).2.2 (s + n)), (wsN S sz nm s n).2.2) else ((wsN S sz nm s n).1, (wsN S sz nm s n).2.1 ++ [S (s + n)], S (s + n))
theorem wsN_neg {S : Int → Int} {sz : Int} {nm : Int → List Int} {s : Int} {n : Nat} (h : S (s + n) < 0) : wsN S sz nm s (n + 1) = (padTo (wsN S sz nm s n).1 (loPad (wsN S sz nm s n).1 (wsN S sz nm s n).2.1 (filr S sz (wsN S sz nm s n).2.2 (s + n))).length 32 ++ nm (-1 - S (s + n)), loPad (wsN S sz nm s n).1 (wsN S sz nm s n).2.1 (filr S sz (wsN S sz nm s n).2.2 (s + n)), (wsN S sz nm s n).2.2) := by rw [wsN, if_pos h]
theorem wsN_pos {S : Int → Int} {sz : Int} {nm : Int → List Int} {s : Int} {n : Nat} (h : ¬ S (s + n) < 0) : wsN S sz nm s (n + 1) = ((wsN S sz nm s n).1, (wsN S sz nm s n).2.1 ++ [S (s + n)], S (s + n)) := by rw [wsN, if_neg h]
theorem wl_ws {S : Int → Int} {sz : Int} {nm : Int → List Int} {s e : Int} (h1 : ∀ j, s ≤ j → j < e → j < sz ∧ S j ≠ 10) (h2 : ¬ (e < sz ∧ S e ≠ 10)) : ∀ (m n : Nat), s + n ≤ e → e - (s + n) < m → wl S sz nm m (s + n) (wsN S sz nm s n).1 (wsN S sz nm s n).2.1 (wsN S sz nm s n).2.2 = ((wsN S sz nm s (e - s).toNat).1, (wsN S sz nm s (e - s).toNat).2.1, e)
  | 0, n, ha, hb => by exfalso; omega
  | m + 1, n, ha, hb => by
    rw [wl]
    by_cases q : s + n < e
    · rw [if_pos (h1 (s + n) (by omega) q)]
      have ih := wl_ws (nm := nm) h1 h2 m (n + 1) (by omega) (by omega)
      rw [show s + ((n + 1 : Nat) : Int) = s + n + 1 by omega] at ih
      by_cases q2 : S (s + n) < 0
      · rw [if_pos q2]
        rw [wsN_neg q2] at ih
        exact ih
      · rw [if_neg q2]
        rw [wsN_pos q2] at ih
        exact ih
    · have e1 : s + n = e := by omega
      rw [e1, if_neg h2, show (e - s).toNat = n by omega]
/-- how far the words are pushed apart there -/
def gpN (S : Int → Int) (sz : Int) (nm : Int → List Int) (s : Int) (n : Nat) : Int := if (wsN S sz nm s n).1.length = 0 then 0 else ((((wsN S sz nm s n).1.length + 1 - (wsN S sz nm s n).2.1.length : Nat)) : Int)
theorem loPad_gp (S : Int → Int) (sz : Int) (nm : Int → List Int) (s : Int) (n : Nat) (c : Int) : loPad (wsN S sz nm s n).1 (wsN S sz nm s n).2.1 c = (wsN S sz nm s n).2.1 ++ List.replicate (gpN S sz nm s n).toNat c := by
  unfold loPad gpN padTo
  split
  · simp
  · rw [Int.toNat_natCast]
theorem gpN_0 (S : Int → Int) (sz : Int) (nm : Int → List Int) (s : Int) (n : Nat) : 0 ≤ gpN S sz nm s n := by unfold gpN; split <;> omega
theorem wsN_len {S : Int → Int} {sz : Int} {nm : Int → List Int} {s : Int} : ∀ n : Nat, (∀ j : Nat, j < n → S (s + j) < 0 → (nm (-1 - S (s + j))).length ≤ 11) → (wsN S sz nm s n).1.length ≤ 12 * n ∧ (wsN S sz nm s n).2.1.length ≤ 12 * n
  | 0, _ => by simp [wsN]
  | n + 1, h => by
    obtain ⟨a, b⟩ := wsN_len (S := S) (sz := sz) (nm := nm) (s := s) n (fun j hj => h j (by omega))
    by_cases q : S (s + n) < 0
    · have hn := h n (by omega) q
      rw [wsN_neg q]
      have hl : (loPad (wsN S sz nm s n).1 (wsN S sz nm s n).2.1 (filr S sz (wsN S sz nm s n).2.2 (s + n))).length ≤ 12 * n + 1 := by
        unfold loPad
        split
        · omega
        · rw [padTo_len]; omega
      refine ⟨?_, by show (loPad _ _ _).length ≤ _; omega⟩
      show (padTo _ _ _ ++ _).length ≤ _
      rw [List.length_append, padTo_len]
      omega
    · rw [wsN_pos q]
      refine ⟨by show (wsN S sz nm s n).1.length ≤ _; omega, ?_⟩
      show ((wsN S sz nm s n).2.1 ++ _).length ≤ _
      rw [List.length_append, List.length_singleton]
      omega
theorem wsN_nil {S : Int → Int} {sz : Int} {nm : Int → List Int} {s : Int} : ∀ n : Nat, (∀ j : Nat, j < n → ¬ S (s + j) < 0) → (wsN S sz nm s n).1 = []
  | 0, _ => rfl
  | n + 1, h => by
    rw [wsN_pos (h n (by omega))]
    exact wsN_nil n (fun j hj => h j (by omega))
theorem wsN_ne {S : Int → Int} {sz : Int} {nm : Int → List Int} {s : Int} {j : Nat} (hq : S (s + j) < 0) (hn : 1 ≤ (nm (-1 - S (s + j))).length) : ∀ n : Nat, j < n → 0 < (wsN S sz nm s n).1.length
  | 0, h => by omega
  | n + 1, h => by
    by_cases e : j = n
    · subst e
      rw [wsN_neg hq]
      show 0 < (padTo _ _ _ ++ _).length
      rw [List.length_append]
      omega
    · have ih := wsN_ne (sz := sz) hq hn n (by omega)
      by_cases q : S (s + n) < 0
      · rw [wsN_neg q]
        show 0 < (padTo _ _ _ ++ _).length
        rw [List.length_append, padTo_len]
        omega
      · rw [wsN_pos q]
        exact ih
theorem wsN_ah {S : Int → Int} {sz : Int} {nm : Int → List Int} {s : Int} {n : Nat} : (wsN S sz nm s (n + 1)).2.2 = if S (s + n) < 0 then (wsN S sz nm s n).2.2 else S (s + n) := by
  by_cases q : S (s + n) < 0
  · rw [wsN_neg q, if_pos q]
  · rw [wsN_pos q, if_neg q]
/-- no chord stands twice -/
def incS (A : Nat → Int → Int) (sz : Int) : Prop := ∀ j k : Int, 0 ≤ j → j < k → k < sz → 256 ≤ A 40 j → A 40 j ≠ A 40 k
abbrev gapP (A : Nat → Int → Int) (sz : Int) (nm : Int → List Int) (s : Int) (N : Nat) (G : Int → Int) : Prop := ∀ n : Nat, n < N → sU A (s + n) < 0 → G (A 40 (s + n) - 256) = gpN (sU A) sz nm s n
theorem sU_neg {A : Nat → Int → Int} {j : Int} (h : 256 ≤ A 40 j) : sU A j = 255 - A 40 j := by unfold sU uI; rw [if_pos h]
theorem sU_pos {A : Nat → Int → Int} {j : Int} (h : ¬ 256 ≤ A 40 j) : sU A j = A 40 j := by unfold sU uI; rw [if_neg h]
/-- a line's bounds -/
abbrev lineP (I : Nat → Int) (A : Nat → Int → Int) (s e : Int) : Prop := (0 ≤ s ∧ s ≤ e ∧ e ≤ 2000) ∧ (∀ j, s ≤ j → j < e → j < I 41 ∧ A 40 j ≠ 10) ∧ ¬ (e < I 41 ∧ A 40 e ≠ 10)
set_option maxHeartbeats 4000000 in
set_option maxRecDepth 100000 in
theorem qX9_isLetter {l : Launch} {D : va_G} {cI : ClassId} {O : OT} {adK adV : Nat → Nat} {tT : Nat} (hO : OGC O adK adV tT) {ad : Nat → Nat} {I : Nat → Int} {A : Nat → Int → Int} {c : Int} (hc : inR c) : CC l D cI O yX9_isLetter cX9_isLetter 1 (some .boolean) 1 [.int (iZ c)] (ad, I, A) (pI fun r u2 => (r = 0 ∨ r = 1) ∧ (r = 1 ↔ isLt c) ∧ u2 = (ad, I, A)) := by
  refine ct_intro (own := RX9) (by decide) rfl hO.1.1 (Nat.le_of_ble_eq_true rfl) (by simp [Value.category]) (fun X J hJ => ?_)
  show J 0 [some (.int (iZ c))] [] (ad, I, A)
  refine v_ild0 (pc := 0) hJ dX9_isLetter_0 ?_
  refine v_bipush (pc := 1) hJ dX9_isLetter_1 (by decide) ?_
  refine v_icmp_lt (tgt := 12) (pc := 3) hJ dX9_isLetter_3 (by decide) (by omega) (by omega) (fun h3 => ?_) (fun h3 => ?_)
  · refine v_ild0 (pc := 12) hJ dX9_isLetter_12 ?_
    refine v_bipush (pc := 13) hJ dX9_isLetter_13 (by decide) ?_
    refine v_icmp_lt (tgt := 28) (pc := 15) hJ dX9_isLetter_15 (by decide) (by omega) (by omega) (fun h15 => ?_) (fun h15 => ?_)
    · refine v_iconst (pc := 28) hJ dX9_isLetter_28 ?_
      refine v_zret (pc := 29) hJ rfl dX9_isLetter_29 ⟨_, rfl, ?_⟩
      exact ⟨by omega, by omega, rfl⟩
    · refine v_ild0 (pc := 18) hJ dX9_isLetter_18 ?_
      refine v_bipush (pc := 19) hJ dX9_isLetter_19 (by decide) ?_
      refine v_icmp_gt (tgt := 28) (pc := 21) hJ dX9_isLetter_21 (by decide) (by omega) (by omega) (fun h21 => ?_) (fun h21 => ?_)
      · refine v_iconst (pc := 28) hJ dX9_isLetter_28 ?_
        refine v_zret (pc := 29) hJ rfl dX9_isLetter_29 ⟨_, rfl, ?_⟩
        exact ⟨by omega, by omega, rfl⟩
      · refine v_iconst (pc := 24) hJ dX9_isLetter_24 ?_
        refine v_goto (tgt := 29) (pc := 25) hJ dX9_isLetter_25 (by decide) ?_
        refine v_zret (pc := 29) hJ rfl dX9_isLetter_29 ⟨_, rfl, ?_⟩
        exact ⟨by omega, by omega, rfl⟩
  · refine v_ild0 (pc := 6) hJ dX9_isLetter_6 ?_
    refine v_bipush (pc := 7) hJ dX9_isLetter_7 (by decide) ?_
    refine v_icmp_le (tgt := 24) (pc := 9) hJ dX9_isLetter_9 (by decide) (by omega) (by omega) (fun h9 => ?_) (fun h9 => ?_)
    · refine v_iconst (pc := 24) hJ dX9_isLetter_24 ?_
      refine v_goto (tgt := 29) (pc := 25) hJ dX9_isLetter_25 (by decide) ?_
      refine v_zret (pc := 29) hJ rfl dX9_isLetter_29 ⟨_, rfl, ?_⟩
      exact ⟨by omega, by omega, rfl⟩
    · refine v_ild0 (pc := 12) hJ dX9_isLetter_12 ?_
      refine v_bipush (pc := 13) hJ dX9_isLetter_13 (by decide) ?_
      refine v_icmp_lt (tgt := 28) (pc := 15) hJ dX9_isLetter_15 (by decide) (by omega) (by omega) (fun h15 => ?_) (fun h15 => ?_)
      · refine v_iconst (pc := 28) hJ dX9_isLetter_28 ?_
        refine v_zret (pc := 29) hJ rfl dX9_isLetter_29 ⟨_, rfl, ?_⟩
        exact ⟨by omega, by omega, rfl⟩
      · refine v_ild0 (pc := 18) hJ dX9_isLetter_18 ?_
        refine v_bipush (pc := 19) hJ dX9_isLetter_19 (by decide) ?_
        refine v_icmp_gt (tgt := 28) (pc := 21) hJ dX9_isLetter_21 (by decide) (by omega) (by omega) (fun h21 => ?_) (fun h21 => ?_)
        · refine v_iconst (pc := 28) hJ dX9_isLetter_28 ?_
          refine v_zret (pc := 29) hJ rfl dX9_isLetter_29 ⟨_, rfl, ?_⟩
          exact ⟨by omega, by omega, rfl⟩
        · refine v_iconst (pc := 24) hJ dX9_isLetter_24 ?_
          refine v_goto (tgt := 29) (pc := 25) hJ dX9_isLetter_25 (by decide) ?_
          refine v_zret (pc := 29) hJ rfl dX9_isLetter_29 ⟨_, rfl, ?_⟩
          exact ⟨by omega, by omega, rfl⟩
set_option maxHeartbeats 4000000 in
set_option maxRecDepth 100000 in
theorem qX9_putNames {l : Launch} {D : va_G} {cI : ClassId} {O : OT} {adK adV : Nat → Nat} {tT : Nat} (hO : OGC O adK adV tT) {ad : Nat → Nat} {I : Nat → Int} {A : Nat → Int → Int} {s e : Int} {xs : List Int} (hC : cokC I A) (hI : cokI I A) (hL : lineP I A s e) (hinc : incS A (I 41)) (hx : hasO (A 80) (I 81) xs) (hx2 : xs.length ≤ 100000) : CC l D cI O yX9_putNames cX9_putNames 11 none 8 [.ref (ad 119), .ref (ad 59), .int (iZ s), .int (iZ e), .ref (ad 99)] (ad, I, A) (pV fun u2 => ∃ n F G, hasO F n (xs ++ (wsN (sU A) (I 41) (cnmA A) s (e - s).toNat).1) ∧ gapP A (I 41) (cnmA A) s (e - s).toNat G ∧ u2 = (ad, va_up I 81 n, va_up (va_up A 100 G) 80 F)) := by
  refine ct_intro (own := RX9) (by decide) rfl hO.1.1 (Nat.le_of_ble_eq_true rfl) (by simp [Value.category]) (fun X J hJ => ?_)
  obtain ⟨⟨c1, c2⟩, c3⟩ := id hC
  obtain ⟨s1, s2⟩ := id hI
  obtain ⟨⟨l1, l2, l3⟩, l4, l5⟩ := id hL
  obtain ⟨W, hW⟩ : ∃ W, W = wsN (sU A) (I 41) (cnmA A) s := ⟨_, rfl⟩
  have hnl : ∀ i : Int, 0 ≤ i → i < I 43 → 1 ≤ (cnmA A i).length ∧ (cnmA A i).length ≤ 11 := fun i i0 i1 => by obtain ⟨k1, k2, k3⟩ := c3 i i0 i1; exact nameL_len k1 k2 k3
  have hWl : ∀ n : Nat, s + n ≤ e → (W n).1.length ≤ 12 * n ∧ (W n).2.1.length ≤ 12 * n := fun n hn => by
    rw [hW]
    refine wsN_len n (fun j hj hq => ?_)
    have h4 := l4 (s + j) (by omega) (by omega)
    have h5 := s2 (s + j) (by omega) h4.1
    rcases h5 with h5 | h5 | h5
    · exact absurd h5 h4.2
    · rw [sU_pos (by omega)] at hq; omega
    · rw [sU_neg h5.1]
      exact (hnl _ (by omega) (by omega)).2
  have hcase : ∀ n : Nat, s + n < e → (s + (n : Int) < I 41) ∧ ((32 ≤ A 40 (s + n) ∧ A 40 (s + n) ≤ 126 ∧ sU A (s + n) = A 40 (s + n)) ∨ (256 ≤ A 40 (s + n) ∧ A 40 (s + n) < 256 + I 43 ∧ sU A (s + n) = 255 - A 40 (s + n))) := fun n hn => by
    have h4 := l4 (s + n) (by omega) (by omega)
    have h5 := s2 (s + n) (by omega) h4.1
    refine ⟨h4.1, ?_⟩
    rcases h5 with h5 | h5 | h5
    · exact absurd h5 h4.2
    · exact Or.inl ⟨h5.1, h5.2, sU_pos (by omega)⟩
    · exact Or.inr ⟨h5.1, h5.2, sU_neg h5.1⟩
  have hse : s ≤ 1200 ∨ s = e := by
    by_cases q : s < e
    · have := (l4 s (by omega) q).1; omega
    · omega
  have he12 : e ≤ 1200 ∨ s = e := by
    by_cases q : s < e
    · have := (l4 (e - 1) (by omega) (by omega)).1; omega
    · omega
  have hN2 : e - s ≤ 1200 := by omega
  have lp : ∀ (fu : Nat) (n : Nat) (q : Int) (F G : Int → Int) (a8 a9 a10 : Option Value), (s + (n : Int) ≤ e) → (hasO F q (xs ++ (W n).1)) → (gapP A (I 41) (cnmA A) s n G) → (1300 - (n : Int)) < (fu : Int) → J 9 [some (.ref (ad 119)), some (.ref (ad 59)), some (.int (iZ s)), some (.int (iZ e)), some (.ref (ad 99)), some (.int (iZ ((W n).2.1.length : Int))), some (.int (iZ ((W n).1.length : Int))), some (.int (iZ (s + (n : Int)))), a8, a9, a10] [] (ad, va_up I 81 q, va_up (va_up A 100 G) 80 F) := by
    intro fu
    induction fu with
    | zero => intro n  q  F G  a8 a9 a10 hn hF hG hmu; exfalso; omega
    | succ fu ih =>
      intro n  q  F G  a8 a9 a10 hn hF hG hmu
      refine v_ild7 (pc := 9) hJ dX9_putNames_9 ?_
      refine v_ild3 (pc := 11) hJ dX9_putNames_11 ?_
      refine v_icmp_ge (tgt := 141) (pc := 12) hJ dX9_putNames_12 (by decide) (by omega) (by omega) (fun h12 => ?_) (fun h12 => ?_)
      · refine v_vret (pc := 141) hJ dX9_putNames_141 ⟨rfl, ?_⟩
        have en : (e - s).toNat = n := by omega
        rw [en, ← hW]
        exact ⟨q, F, G, hF, hG, rfl⟩
      · obtain ⟨hc1, hc2⟩ := hcase n (by omega)
        have hlen := hWl n (by omega)
        have hq1 := hF.1
        rw [List.length_append] at hq1
        refine v_ild7 (pc := 15) hJ dX9_putNames_15 ?_
        refine v_ald1 (pc := 17) hJ dX9_putNames_17 ?_
        refine cgX9_42a (pc := 18) hJ dX9_putNames_18 ?_
        try simp only [up_s, up_n, up_up, ne_eq, Nat.reduceEqDiff, not_false_eq_true]
        refine v_icmp_ge (tgt := 141) (pc := 21) hJ dX9_putNames_21 (by decide) (by omega) (by omega) (fun h21 => ?_) (fun h21 => ?_)
        · exfalso; omega
        · refine v_ald1 (pc := 24) hJ dX9_putNames_24 ?_
          refine cgX9_45a (pc := 25) hJ dX9_putNames_25 ?_
          refine v_ild7 (pc := 28) hJ dX9_putNames_28 ?_
          refine ca40 (pc := 30) hJ (by omega) (by omega) dX9_putNames_30 ?_
          try simp only [up_s, up_n, up_up, ne_eq, Nat.reduceEqDiff, not_false_eq_true]
          refine v_sipush (pc := 31) hJ dX9_putNames_31 (by decide) ?_
          refine v_isub (pc := 34) hJ dX9_putNames_34 ?_
          refine v_ist8 (pc := 35) hJ dX9_putNames_35 (by decide) ?_
          refine v_ald1 (pc := 37) hJ dX9_putNames_37 ?_
          refine v_ild8 (pc := 38) hJ dX9_putNames_38 ?_
          refine v_cV1i (pc := 40) (q0 := 3) (ci := 5) hJ rfl rfl lkX9_48 (qX8_hasChord hO (by omega) (by simp only [up_s, up_n, up_up, ne_eq, Nat.reduceEqDiff, not_false_eq_true]; omega)) (Nat.le_of_ble_eq_true rfl) (rOk_L (by decide) (by decide)) dX9_putNames_40 (fun r40 u40 g40 => ?_)
          obtain ⟨g40a, g40b, rfl⟩ := g40
          try simp only [up_s, up_n, up_up, ne_eq, Nat.reduceEqDiff, not_false_eq_true] at g40b
          try simp only [up_s, up_n, up_up, ne_eq, Nat.reduceEqDiff, not_false_eq_true]
          refine v_if_ne (tgt := 52) (pc := 43) hJ dX9_putNames_43 (by decide) (by omega) (fun h43 => ?_) (fun h43 => ?_)
          · have hin : 0 ≤ A 40 (s + n) - 256 ∧ A 40 (s + n) - 256 < I 43 := by omega
            have hneg : sU A (s + n) < 0 := by omega
            have hnm := hnl _ hin.1 hin.2
            obtain ⟨lo, hlo⟩ : ∃ z, z = loPad (W n).1 (W n).2.1 (filr (sU A) (I 41) (W n).2.2 (s + n)) := ⟨_, rfl⟩
            have hlg : (lo.length : Int) = (W n).2.1.length + gpN (sU A) (I 41) (cnmA A) s n := by
              rw [hlo, hW, loPad_gp, List.length_append, List.length_replicate]
              have := gpN_0 (sU A) (I 41) (cnmA A) s n
              omega
            have hgd : gpN (sU A) (I 41) (cnmA A) s n = if (W n).1.length = 0 then 0 else ((((W n).1.length + 1 - (W n).2.1.length : Nat)) : Int) := by rw [hW]; rfl
            refine v_ild6 (pc := 52) hJ dX9_putNames_52 ?_
            refine v_if_ne (tgt := 61) (pc := 54) hJ dX9_putNames_54 (by decide) (by omega) (fun h54 => ?_) (fun h54 => ?_)
            · have hgv : gpN (sU A) (I 41) (cnmA A) s n = if (0 : Int) < ((W n).1.length : Int) + 1 - ((W n).2.1.length : Int) then ((W n).1.length : Int) + 1 - ((W n).2.1.length : Int) else 0 := by rw [hgd, if_neg (by omega)]; split <;> omega
              refine v_ild6 (pc := 61) hJ dX9_putNames_61 ?_
              refine v_iconst (pc := 63) hJ dX9_putNames_63 ?_
              refine v_iadd (pc := 64) hJ dX9_putNames_64 ?_
              refine v_ist9 (pc := 65) hJ dX9_putNames_65 (by decide) ?_
              refine v_ald0 (pc := 67) hJ dX9_putNames_67 ?_
              refine cgX9_9 (pc := 68) hJ dX9_putNames_68 ?_
              refine v_ild8 (pc := 71) hJ dX9_putNames_71 ?_
              refine v_iconst (pc := 73) hJ dX9_putNames_73 ?_
              refine v_ild9 (pc := 74) hJ dX9_putNames_74 ?_
              refine v_ild5 (pc := 76) hJ dX9_putNames_76 ?_
              refine v_isub (pc := 78) hJ dX9_putNames_78 ?_
              refine v_mmax (pc := 79) hJ lkX9_52 (by omega) (by omega) (Nat.le_of_ble_eq_true rfl) ⟨by decide, by decide⟩ dX9_putNames_79 ?_
              rw [← hgv]
              refine cs100 (pc := 82) hJ (by omega) (by omega) dX9_putNames_82 ?_
              refine v_ild5 (pc := 83) hJ dX9_putNames_83 ?_
              refine v_ald0 (pc := 85) hJ dX9_putNames_85 ?_
              refine cgX9_9 (pc := 86) hJ dX9_putNames_86 ?_
              refine v_ild8 (pc := 89) hJ dX9_putNames_89 ?_
              refine ca100 (pc := 91) hJ (by omega) (by omega) dX9_putNames_91 ?_
              try simp only [up_s, up_n, up_up, ne_eq, Nat.reduceEqDiff, not_false_eq_true]
              try simp only [up_s, up_n, up_up, ne_eq, Nat.reduceEqDiff, not_false_eq_true]
              rw [zu_same]
              have hgb : 0 ≤ gpN (sU A) (I 41) (cnmA A) s n := gpN_0 _ _ _ _ _
              have hgb2 : gpN (sU A) (I 41) (cnmA A) s n ≤ 12 * n + 1 := by rw [hgd]; split <;> omega
              refine v_iadd (pc := 92) hJ dX9_putNames_92 ?_
              refine v_ist5 (pc := 93) hJ dX9_putNames_93 (by decide) ?_
              refine v_ald4 (pc := 95) hJ dX9_putNames_95 ?_
              refine v_bipush (pc := 97) hJ dX9_putNames_97 (by decide) ?_
              refine v_ild5 (pc := 99) hJ dX9_putNames_99 ?_
              refine v_ild6 (pc := 101) hJ dX9_putNames_101 ?_
              refine v_isub (pc := 103) hJ dX9_putNames_103 ?_
              refine v_cV2v (pc := 104) (q0 := 15) (ci := 2) hJ rfl rfl lkX9_58 (qX5_putMany hO (xs := xs ++ (W n).1) (by omega) (by simp only [up_s, up_n, up_up, ne_eq, Nat.reduceEqDiff, not_false_eq_true]; exact hF) (by rw [List.length_append]; omega)) (Nat.le_of_ble_eq_true rfl) (rOk_L (by decide) (by decide)) dX9_putNames_104 (fun u104 g104 => ?_)
              obtain ⟨q104, F104, hF104, rfl⟩ := g104
              try simp only [up_s, up_n, up_up, ne_eq, Nat.reduceEqDiff, not_false_eq_true]
              try simp only [up_s, up_n, up_up, ne_eq, Nat.reduceEqDiff, not_false_eq_true]
              refine v_ald4 (pc := 107) hJ dX9_putNames_107 ?_
              refine cgX9_62 (pc := 109) hJ dX9_putNames_109 ?_
              try simp only [up_s, up_n, up_up, ne_eq, Nat.reduceEqDiff, not_false_eq_true]
              refine v_ist10 (pc := 112) hJ dX9_putNames_112 (by decide) ?_
              refine v_ald4 (pc := 114) hJ dX9_putNames_114 ?_
              refine v_ald1 (pc := 116) hJ dX9_putNames_116 ?_
              refine v_ild8 (pc := 117) hJ dX9_putNames_117 ?_
              refine v_cV2v (pc := 119) (q0 := 15) (ci := 2) hJ rfl rfl lkX9_65 (qX5_putName hO (by simp only [cokC, up_s, up_n, up_up, ne_eq, Nat.reduceEqDiff, not_false_eq_true]; exact hC) (by simp only [up_s, up_n, up_up, ne_eq, Nat.reduceEqDiff, not_false_eq_true]; exact hin) (by simp only [up_s, up_n, up_up, ne_eq, Nat.reduceEqDiff, not_false_eq_true]; exact hF104) (by simp only [List.length_append, List.length_replicate]; omega)) (Nat.le_of_ble_eq_true rfl) (rOk_L (by decide) (by decide)) dX9_putNames_119 (fun u119 g119 => ?_)
              obtain ⟨n119, F119, hF119, rfl⟩ := g119
              try simp only [up_s, up_n, up_up, ne_eq, Nat.reduceEqDiff, not_false_eq_true]
              try simp only [cnmA, up_s, up_n, up_up, ne_eq, Nat.reduceEqDiff, not_false_eq_true] at hF119
              rw [show nameL (A 44 (A 40 (s + n) - 256)) (A 45 (A 40 (s + n) - 256)) (A 46 (A 40 (s + n) - 256)) = cnmA A (A 40 (s + n) - 256) from rfl] at hF119
              try simp only [up_s, up_n, up_up, ne_eq, Nat.reduceEqDiff, not_false_eq_true]
              have heq1 : lo.length - (W n).1.length = ((((W n).2.1.length : Int) + gpN (sU A) (I 41) (cnmA A) s n - ((W n).1.length : Int))).toNat := by omega
              refine v_ild5 (pc := 122) hJ dX9_putNames_122 ?_
              refine v_ald4 (pc := 124) hJ dX9_putNames_124 ?_
              refine cgX9_62 (pc := 126) hJ dX9_putNames_126 ?_
              try simp only [up_s, up_n, up_up, ne_eq, Nat.reduceEqDiff, not_false_eq_true]
              refine v_iadd (pc := 129) hJ dX9_putNames_129 ?_
              refine v_ild10 (pc := 130) hJ dX9_putNames_130 ?_
              refine v_isub (pc := 132) hJ dX9_putNames_132 ?_
              refine v_ist6 (pc := 133) hJ dX9_putNames_133 (by decide) ?_
              refine v_inc7 (pc := 135) hJ dX9_putNames_135 (by decide) ?_
              refine v_goto (tgt := 9) (pc := 138) hJ dX9_putNames_138 (by decide) ?_
              have hn := ih (n + 1) n119 F119 (zu G (A 40 (s + n) - 256) (gpN (sU A) (I 41) (cnmA A) s n)) (some (.int (iZ (A 40 (s + n) - 256)))) (some (.int (iZ (((W n).1.length : Int) + 1)))) (some (.int (iZ q104))) (by omega) (by
                  rw [hW, wsN_neg hneg, ← hW]
                  show hasO F119 n119 (xs ++ (padTo _ _ _ ++ _))
                  rw [padTo, ← hlo, heq1, ← List.append_assoc, ← List.append_assoc]
                  rw [show -1 - sU A (s + n) = A 40 (s + n) - 256 by omega]
                  exact hF119) (fun j hj hq => by
                by_cases ej : j = n
                · subst ej; exact zu_same _ _ _
                · rw [zu_ne (by
                    intro qq
                    have hj2 := hcase j (by omega)
                    have := hinc (s + j) (s + n) (by omega) (by omega) hc1 (by omega)
                    omega)]
                  exact hG j (by omega) hq) (by omega)
              rw [show s + ((n + 1 : Nat) : Int) = s + n + 1 by omega, hW, wsN_neg hneg, ← hW] at hn
              have e1 : ((loPad (W n).1 (W n).2.1 (filr (sU A) (I 41) (W n).2.2 (s + n))).length : Int) = (W n).2.1.length + gpN (sU A) (I 41) (cnmA A) s n := by rw [← hlo]; omega
              have e2 : ((padTo (W n).1 (loPad (W n).1 (W n).2.1 (filr (sU A) (I 41) (W n).2.2 (s + n))).length 32 ++ cnmA A (-1 - sU A (s + n))).length : Int) = (W n).2.1.length + gpN (sU A) (I 41) (cnmA A) s n + n119 - q104 := by
                have z1 := hF119.1
                have z2 := hF104.1
                rw [List.length_append, padTo_len, ← hlo, show -1 - sU A (s + n) = A 40 (s + n) - 256 by omega]
                simp only [List.length_append, List.length_replicate] at z1 z2
                omega
              rw [show ((padTo (W n).1 (loPad (W n).1 (W n).2.1 (filr (sU A) (I 41) (W n).2.2 (s + n))).length 32 ++ cnmA A (-1 - sU A (s + n)), loPad (W n).1 (W n).2.1 (filr (sU A) (I 41) (W n).2.2 (s + n)), (W n).2.2) : List Int × List Int × Int).1 = padTo (W n).1 (loPad (W n).1 (W n).2.1 (filr (sU A) (I 41) (W n).2.2 (s + n))).length 32 ++ cnmA A (-1 - sU A (s + n)) from rfl, show ((padTo (W n).1 (loPad (W n).1 (W n).2.1 (filr (sU A) (I 41) (W n).2.2 (s + n))).length 32 ++ cnmA A (-1 - sU A (s + n)), loPad (W n).1 (W n).2.1 (filr (sU A) (I 41) (W n).2.2 (s + n)), (W n).2.2) : List Int × List Int × Int).2.1 = loPad (W n).1 (W n).2.1 (filr (sU A) (I 41) (W n).2.2 (s + n)) from rfl, e1, e2] at hn
              rw [up4 A _ _ _ _ (by decide)]
              exact hn
            · have hgv : gpN (sU A) (I 41) (cnmA A) s n = if (0 : Int) < 0 - ((W n).2.1.length : Int) then 0 - ((W n).2.1.length : Int) else 0 := by rw [hgd, if_pos (by omega), if_neg (by omega)]
              refine v_iconst (pc := 57) hJ dX9_putNames_57 ?_
              refine v_goto (tgt := 65) (pc := 58) hJ dX9_putNames_58 (by decide) ?_
              refine v_ist9 (pc := 65) hJ dX9_putNames_65 (by decide) ?_
              refine v_ald0 (pc := 67) hJ dX9_putNames_67 ?_
              refine cgX9_9 (pc := 68) hJ dX9_putNames_68 ?_
              refine v_ild8 (pc := 71) hJ dX9_putNames_71 ?_
              refine v_iconst (pc := 73) hJ dX9_putNames_73 ?_
              refine v_ild9 (pc := 74) hJ dX9_putNames_74 ?_
              refine v_ild5 (pc := 76) hJ dX9_putNames_76 ?_
              refine v_isub (pc := 78) hJ dX9_putNames_78 ?_
              refine v_mmax (pc := 79) hJ lkX9_52 (by omega) (by omega) (Nat.le_of_ble_eq_true rfl) ⟨by decide, by decide⟩ dX9_putNames_79 ?_
              rw [← hgv]
              refine cs100 (pc := 82) hJ (by omega) (by omega) dX9_putNames_82 ?_
              refine v_ild5 (pc := 83) hJ dX9_putNames_83 ?_
              refine v_ald0 (pc := 85) hJ dX9_putNames_85 ?_
              refine cgX9_9 (pc := 86) hJ dX9_putNames_86 ?_
              refine v_ild8 (pc := 89) hJ dX9_putNames_89 ?_
              refine ca100 (pc := 91) hJ (by omega) (by omega) dX9_putNames_91 ?_
              try simp only [up_s, up_n, up_up, ne_eq, Nat.reduceEqDiff, not_false_eq_true]
              try simp only [up_s, up_n, up_up, ne_eq, Nat.reduceEqDiff, not_false_eq_true]
              rw [zu_same]
              have hgb : 0 ≤ gpN (sU A) (I 41) (cnmA A) s n := gpN_0 _ _ _ _ _
              have hgb2 : gpN (sU A) (I 41) (cnmA A) s n ≤ 12 * n + 1 := by rw [hgd]; split <;> omega
              refine v_iadd (pc := 92) hJ dX9_putNames_92 ?_
              refine v_ist5 (pc := 93) hJ dX9_putNames_93 (by decide) ?_
              refine v_ald4 (pc := 95) hJ dX9_putNames_95 ?_
              refine v_bipush (pc := 97) hJ dX9_putNames_97 (by decide) ?_
              refine v_ild5 (pc := 99) hJ dX9_putNames_99 ?_
              refine v_ild6 (pc := 101) hJ dX9_putNames_101 ?_
              refine v_isub (pc := 103) hJ dX9_putNames_103 ?_
              refine v_cV2v (pc := 104) (q0 := 15) (ci := 2) hJ rfl rfl lkX9_58 (qX5_putMany hO (xs := xs ++ (W n).1) (by omega) (by simp only [up_s, up_n, up_up, ne_eq, Nat.reduceEqDiff, not_false_eq_true]; exact hF) (by rw [List.length_append]; omega)) (Nat.le_of_ble_eq_true rfl) (rOk_L (by decide) (by decide)) dX9_putNames_104 (fun u104 g104 => ?_)
              obtain ⟨q104, F104, hF104, rfl⟩ := g104
              try simp only [up_s, up_n, up_up, ne_eq, Nat.reduceEqDiff, not_false_eq_true]
              try simp only [up_s, up_n, up_up, ne_eq, Nat.reduceEqDiff, not_false_eq_true]
              refine v_ald4 (pc := 107) hJ dX9_putNames_107 ?_
              refine cgX9_62 (pc := 109) hJ dX9_putNames_109 ?_
              try simp only [up_s, up_n, up_up, ne_eq, Nat.reduceEqDiff, not_false_eq_true]
              refine v_ist10 (pc := 112) hJ dX9_putNames_112 (by decide) ?_
              refine v_ald4 (pc := 114) hJ dX9_putNames_114 ?_
              refine v_ald1 (pc := 116) hJ dX9_putNames_116 ?_
              refine v_ild8 (pc := 117) hJ dX9_putNames_117 ?_
              refine v_cV2v (pc := 119) (q0 := 15) (ci := 2) hJ rfl rfl lkX9_65 (qX5_putName hO (by simp only [cokC, up_s, up_n, up_up, ne_eq, Nat.reduceEqDiff, not_false_eq_true]; exact hC) (by simp only [up_s, up_n, up_up, ne_eq, Nat.reduceEqDiff, not_false_eq_true]; exact hin) (by simp only [up_s, up_n, up_up, ne_eq, Nat.reduceEqDiff, not_false_eq_true]; exact hF104) (by simp only [List.length_append, List.length_replicate]; omega)) (Nat.le_of_ble_eq_true rfl) (rOk_L (by decide) (by decide)) dX9_putNames_119 (fun u119 g119 => ?_)
              obtain ⟨n119, F119, hF119, rfl⟩ := g119
              try simp only [up_s, up_n, up_up, ne_eq, Nat.reduceEqDiff, not_false_eq_true]
              try simp only [cnmA, up_s, up_n, up_up, ne_eq, Nat.reduceEqDiff, not_false_eq_true] at hF119
              rw [show nameL (A 44 (A 40 (s + n) - 256)) (A 45 (A 40 (s + n) - 256)) (A 46 (A 40 (s + n) - 256)) = cnmA A (A 40 (s + n) - 256) from rfl] at hF119
              try simp only [up_s, up_n, up_up, ne_eq, Nat.reduceEqDiff, not_false_eq_true]
              have heq1 : lo.length - (W n).1.length = ((((W n).2.1.length : Int) + gpN (sU A) (I 41) (cnmA A) s n - ((W n).1.length : Int))).toNat := by omega
              refine v_ild5 (pc := 122) hJ dX9_putNames_122 ?_
              refine v_ald4 (pc := 124) hJ dX9_putNames_124 ?_
              refine cgX9_62 (pc := 126) hJ dX9_putNames_126 ?_
              try simp only [up_s, up_n, up_up, ne_eq, Nat.reduceEqDiff, not_false_eq_true]
              refine v_iadd (pc := 129) hJ dX9_putNames_129 ?_
              refine v_ild10 (pc := 130) hJ dX9_putNames_130 ?_
              refine v_isub (pc := 132) hJ dX9_putNames_132 ?_
              refine v_ist6 (pc := 133) hJ dX9_putNames_133 (by decide) ?_
              refine v_inc7 (pc := 135) hJ dX9_putNames_135 (by decide) ?_
              refine v_goto (tgt := 9) (pc := 138) hJ dX9_putNames_138 (by decide) ?_
              have hn := ih (n + 1) n119 F119 (zu G (A 40 (s + n) - 256) (gpN (sU A) (I 41) (cnmA A) s n)) (some (.int (iZ (A 40 (s + n) - 256)))) (some (.int (iZ (0)))) (some (.int (iZ q104))) (by omega) (by
                  rw [hW, wsN_neg hneg, ← hW]
                  show hasO F119 n119 (xs ++ (padTo _ _ _ ++ _))
                  rw [padTo, ← hlo, heq1, ← List.append_assoc, ← List.append_assoc]
                  rw [show -1 - sU A (s + n) = A 40 (s + n) - 256 by omega]
                  exact hF119) (fun j hj hq => by
                by_cases ej : j = n
                · subst ej; exact zu_same _ _ _
                · rw [zu_ne (by
                    intro qq
                    have hj2 := hcase j (by omega)
                    have := hinc (s + j) (s + n) (by omega) (by omega) hc1 (by omega)
                    omega)]
                  exact hG j (by omega) hq) (by omega)
              rw [show s + ((n + 1 : Nat) : Int) = s + n + 1 by omega, hW, wsN_neg hneg, ← hW] at hn
              have e1 : ((loPad (W n).1 (W n).2.1 (filr (sU A) (I 41) (W n).2.2 (s + n))).length : Int) = (W n).2.1.length + gpN (sU A) (I 41) (cnmA A) s n := by rw [← hlo]; omega
              have e2 : ((padTo (W n).1 (loPad (W n).1 (W n).2.1 (filr (sU A) (I 41) (W n).2.2 (s + n))).length 32 ++ cnmA A (-1 - sU A (s + n))).length : Int) = (W n).2.1.length + gpN (sU A) (I 41) (cnmA A) s n + n119 - q104 := by
                have z1 := hF119.1
                have z2 := hF104.1
                rw [List.length_append, padTo_len, ← hlo, show -1 - sU A (s + n) = A 40 (s + n) - 256 by omega]
                simp only [List.length_append, List.length_replicate] at z1 z2
                omega
              rw [show ((padTo (W n).1 (loPad (W n).1 (W n).2.1 (filr (sU A) (I 41) (W n).2.2 (s + n))).length 32 ++ cnmA A (-1 - sU A (s + n)), loPad (W n).1 (W n).2.1 (filr (sU A) (I 41) (W n).2.2 (s + n)), (W n).2.2) : List Int × List Int × Int).1 = padTo (W n).1 (loPad (W n).1 (W n).2.1 (filr (sU A) (I 41) (W n).2.2 (s + n))).length 32 ++ cnmA A (-1 - sU A (s + n)) from rfl, show ((padTo (W n).1 (loPad (W n).1 (W n).2.1 (filr (sU A) (I 41) (W n).2.2 (s + n))).length 32 ++ cnmA A (-1 - sU A (s + n)), loPad (W n).1 (W n).2.1 (filr (sU A) (I 41) (W n).2.2 (s + n)), (W n).2.2) : List Int × List Int × Int).2.1 = loPad (W n).1 (W n).2.1 (filr (sU A) (I 41) (W n).2.2 (s + n)) from rfl, e1, e2] at hn
              rw [up4 A _ _ _ _ (by decide)]
              exact hn
          · have hneg : ¬ sU A (s + n) < 0 := by omega
            refine v_inc5 (pc := 46) hJ dX9_putNames_46 (by decide) ?_
            refine v_goto (tgt := 135) (pc := 49) hJ dX9_putNames_49 (by decide) ?_
            refine v_inc7 (pc := 135) hJ dX9_putNames_135 (by decide) ?_
            refine v_goto (tgt := 9) (pc := 138) hJ dX9_putNames_138 (by decide) ?_
            have hn := ih (n + 1) q F G (some (.int (iZ (A 40 (s + n) - 256)))) a9 a10 (by omega) (by rw [hW, wsN_pos hneg, ← hW]; exact hF) (fun j hj hq => by
              by_cases ej : j = n
              · subst ej; exact absurd hq hneg
              · exact hG j (by omega) hq) (by omega)
            rw [show s + ((n + 1 : Nat) : Int) = s + n + 1 by omega, hW, wsN_pos hneg, ← hW, List.length_append, List.length_singleton, show (((W n).2.1.length + 1 : Nat) : Int) = ((W n).2.1.length : Int) + 1 by omega] at hn
            exact hn
  show J 0 [some (.ref (ad 119)), some (.ref (ad 59)), some (.int (iZ s)), some (.int (iZ e)), some (.ref (ad 99)), none, none, none, none, none, none] [] (ad, I, A)
  refine v_iconst (pc := 0) hJ dX9_putNames_0 ?_
  refine v_ist5 (pc := 1) hJ dX9_putNames_1 (by decide) ?_
  refine v_iconst (pc := 3) hJ dX9_putNames_3 ?_
  refine v_ist6 (pc := 4) hJ dX9_putNames_4 (by decide) ?_
  refine v_ild2 (pc := 6) hJ dX9_putNames_6 ?_
  refine v_ist7 (pc := 7) hJ dX9_putNames_7 (by decide) ?_
  have h := lp 1400 0 (I 81) (A 80) (A 100) none none none (by omega) (by rw [hW]; simpa [wsN] using hx) (fun j hj => by omega) (by omega)
  rw [show s + ((0 : Nat) : Int) = s by omega, hW] at h
  rw [up_id, up_id, up_id] at h
  exact h
