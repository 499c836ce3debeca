set_option maxHeartbeats 4000000 in
set_option maxRecDepth 100000 in
theorem qX9_putWords {l : Launch} {D : va_G} {cI : ClassId} {O : OT} {adK adV : Nat → Nat} {tT : Nat} (hO : OGC O adK adV tT) {ad : Nat → Nat} {I : Nat → Int} {A : Nat → Int → Int} {s e : Int} {xs : List Int} (hC : cokC I A) (hI : cokI I A) (hL : lineP I A s e) (hg : gapP A (I 41) (cnmA A) s (e - s).toNat (A 100)) (hx : hasO (A 80) (I 81) xs) (hx2 : xs.length ≤ 100000) : CC l D cI O yX9_putWords cX9_putWords 10 none 8 [.ref (ad 119), .ref (ad 59), .int (iZ s), .int (iZ e), .ref (ad 99)] (ad, I, A) (pV fun u2 => outP ad I A (xs ++ (wsN (sU A) (I 41) (cnmA A) s (e - s).toNat).2.1) u2) := by
  refine ct_intro (own := RX9) (by decide) rfl hO.1.1 (Nat.le_of_ble_eq_true rfl) (by simp [Value.category]) (fun X J hJ => ?_)
  obtain ⟨⟨c1, c2⟩, c3⟩ := id hC
  obtain ⟨s1, s2⟩ := id hI
  obtain ⟨⟨l1, l2, l3⟩, l4, l5⟩ := id hL
  obtain ⟨W, hW⟩ : ∃ W, W = wsN (sU A) (I 41) (cnmA A) s := ⟨_, rfl⟩
  have hnl : ∀ i : Int, 0 ≤ i → i < I 43 → 1 ≤ (cnmA A i).length ∧ (cnmA A i).length ≤ 11 := fun i i0 i1 => by obtain ⟨k1, k2, k3⟩ := c3 i i0 i1; exact nameL_len k1 k2 k3
  have hWl : ∀ n : Nat, s + n ≤ e → (W n).1.length ≤ 12 * n ∧ (W n).2.1.length ≤ 12 * n := fun n hn => by
    rw [hW]
    refine wsN_len n (fun j hj hq => ?_)
    have h4 := l4 (s + j) (by omega) (by omega)
    have h5 := s2 (s + j) (by omega) h4.1
    rcases h5 with h5 | h5 | h5
    · exact absurd h5 h4.2
    · rw [sU_pos (by omega)] at hq; omega
    · rw [sU_neg h5.1]
      exact (hnl _ (by omega) (by omega)).2
  have hcase : ∀ n : Nat, s + n < e → (s + (n : Int) < I 41) ∧ ((32 ≤ A 40 (s + n) ∧ A 40 (s + n) ≤ 126 ∧ sU A (s + n) = A 40 (s + n)) ∨ (256 ≤ A 40 (s + n) ∧ A 40 (s + n) < 256 + I 43 ∧ sU A (s + n) = 255 - A 40 (s + n))) := fun n hn => by
    have h4 := l4 (s + n) (by omega) (by omega)
    have h5 := s2 (s + n) (by omega) h4.1
    refine ⟨h4.1, ?_⟩
    rcases h5 with h5 | h5 | h5
    · exact absurd h5 h4.2
    · exact Or.inl ⟨h5.1, h5.2, sU_pos (by omega)⟩
    · exact Or.inr ⟨h5.1, h5.2, sU_neg h5.1⟩
  have hse : s ≤ 1200 ∨ s = e := by
    by_cases q : s < e
    · have := (l4 s (by omega) q).1; omega
    · omega
  have he12 : e ≤ 1200 ∨ s = e := by
    by_cases q : s < e
    · have := (l4 (e - 1) (by omega) (by omega)).1; omega
    · omega
  have hN2 : e - s ≤ 1200 := by omega
  have lp : ∀ (fu : Nat) (n : Nat) (q : Int) (F : Int → Int) (a : Int) (a7 a8 a9 : Option Value), (s + (n : Int) ≤ e) → (hasO F q (xs ++ (W n).2.1)) → (-1 ≤ a ∧ a ≤ 126) → (isLt a ↔ isLt (W n).2.2) → (1300 - (n : Int)) < (fu : Int) → J 6 [some (.ref (ad 119)), some (.ref (ad 59)), some (.int (iZ s)), some (.int (iZ e)), some (.ref (ad 99)), some (.int (iZ a)), some (.int (iZ (s + (n : Int)))), a7, a8, a9] [] (ad, va_up I 81 q, va_up A 80 F) := by
    intro fu
    induction fu with
    | zero => intro n  q  F  a  a7 a8 a9 hn hF ha hla hmu; exfalso; omega
    | succ fu ih =>
      intro n  q  F  a  a7 a8 a9 hn hF ha hla hmu
      refine v_ild6 (pc := 6) hJ dX9_putWords_6 ?_
      refine v_ild3 (pc := 8) hJ dX9_putWords_8 ?_
      refine v_icmp_ge (tgt := 119) (pc := 9) hJ dX9_putWords_9 (by decide) (by omega) (by omega) (fun h9 => ?_) (fun h9 => ?_)
      · refine v_vret (pc := 119) hJ dX9_putWords_119 ⟨rfl, ?_⟩
        have en : (e - s).toNat = n := by omega
        rw [en, ← hW]
        exact ⟨q, F, hF, rfl⟩
      · obtain ⟨hc1, hc2⟩ := hcase n (by omega)
        have hlen := hWl n (by omega)
        have hq1 := hF.1
        rw [List.length_append] at hq1
        refine v_ild6 (pc := 12) hJ dX9_putWords_12 ?_
        refine v_ald1 (pc := 14) hJ dX9_putWords_14 ?_
        refine cgX9_42a (pc := 15) hJ dX9_putWords_15 ?_
        try simp only [up_s, up_n, up_up, ne_eq, Nat.reduceEqDiff, not_false_eq_true]
        refine v_icmp_ge (tgt := 119) (pc := 18) hJ dX9_putWords_18 (by decide) (by omega) (by omega) (fun h18 => ?_) (fun h18 => ?_)
        · exfalso; omega
        · refine v_ald1 (pc := 21) hJ dX9_putWords_21 ?_
          refine cgX9_45a (pc := 22) hJ dX9_putWords_22 ?_
          refine v_ild6 (pc := 25) hJ dX9_putWords_25 ?_
          refine ca40 (pc := 27) hJ (by omega) (by omega) dX9_putWords_27 ?_
          try simp only [up_s, up_n, up_up, ne_eq, Nat.reduceEqDiff, not_false_eq_true]
          refine v_ist7 (pc := 28) hJ dX9_putWords_28 (by decide) ?_
          refine v_ild7 (pc := 30) hJ dX9_putWords_30 ?_
          refine v_sipush (pc := 32) hJ dX9_putWords_32 (by decide) ?_
          refine v_isub (pc := 35) hJ dX9_putWords_35 ?_
          refine v_ist8 (pc := 36) hJ dX9_putWords_36 (by decide) ?_
          refine v_ald1 (pc := 38) hJ dX9_putWords_38 ?_
          refine v_ild8 (pc := 39) hJ dX9_putWords_39 ?_
          refine v_cV1i (pc := 41) (q0 := 3) (ci := 5) hJ rfl rfl lkX9_48 (qX8_hasChord hO (by omega) (by simp only [up_s, up_n, up_up, ne_eq, Nat.reduceEqDiff, not_false_eq_true]; omega)) (Nat.le_of_ble_eq_true rfl) (rOk_L (by decide) (by decide)) dX9_putWords_41 (fun r41 u41 g41 => ?_)
          obtain ⟨g41a, g41b, rfl⟩ := g41
          try simp only [up_s, up_n, up_up, ne_eq, Nat.reduceEqDiff, not_false_eq_true] at g41b
          try simp only [up_s, up_n, up_up, ne_eq, Nat.reduceEqDiff, not_false_eq_true]
          refine v_if_eq (tgt := 102) (pc := 44) hJ dX9_putWords_44 (by decide) (by omega) (fun h44 => ?_) (fun h44 => ?_)
          · have hneg : ¬ sU A (s + n) < 0 := by omega
            refine v_ald4 (pc := 102) hJ dX9_putWords_102 ?_
            refine v_ild7 (pc := 104) hJ dX9_putWords_104 ?_
            refine v_cV1v (pc := 106) (q0 := 15) (ci := 2) hJ rfl rfl lkX9_21 (qX5_put hO (by simp only [up_s, up_n, up_up, ne_eq, Nat.reduceEqDiff, not_false_eq_true]; omega)) (Nat.le_of_ble_eq_true rfl) (rOk_L (by decide) (by decide)) dX9_putWords_106 (fun u106 g106 => ?_)
            subst g106
            simp only [up_s, up_n, up_up, ne_eq, Nat.reduceEqDiff, not_false_eq_true]
            obtain ⟨n106, hn106⟩ : ∃ z, z = q + 1 := ⟨_, rfl⟩
            obtain ⟨F106, hF16⟩ : ∃ z, z = (if q < 4000 then zu F q (A 40 (s + n)) else F) := ⟨_, rfl⟩
            rw [← hn106, ← hF16]
            have hF106 := hasO_add (c := A 40 (s + n)) hF
            rw [← hn106, ← hF16] at hF106
            try simp only [up_s, up_n, up_up, ne_eq, Nat.reduceEqDiff, not_false_eq_true]
            refine v_ild7 (pc := 109) hJ dX9_putWords_109 ?_
            refine v_ist5 (pc := 111) hJ dX9_putWords_111 (by decide) ?_
            refine v_inc6 (pc := 113) hJ dX9_putWords_113 (by decide) ?_
            refine v_goto (tgt := 6) (pc := 116) hJ dX9_putWords_116 (by decide) ?_
            have hn := ih (n + 1) (n106) F106 (A 40 (s + n)) (some (.int (iZ (A 40 (s + n))))) (some (.int (iZ (A 40 (s + n) - 256)))) a9 (by omega) (by rw [hW, wsN_pos hneg, ← hW]; show hasO F106 n106 (xs ++ ((W n).2.1 ++ [sU A (s + n)])); rw [show sU A (s + n) = A 40 (s + n) by omega, ← List.append_assoc]; exact hF106) (by omega) (by rw [hW, wsN_ah, if_neg hneg, show sU A (s + n) = A 40 (s + n) by omega]) (by omega)
            rw [show s + ((n + 1 : Nat) : Int) = s + n + 1 by omega] at hn
            exact hn
          · have hin : 0 ≤ A 40 (s + n) - 256 ∧ A 40 (s + n) - 256 < I 43 := by omega
            have hneg : sU A (s + n) < 0 := by omega
            have hgn := hg n (by omega) hneg
            have hgb : 0 ≤ gpN (sU A) (I 41) (cnmA A) s n := gpN_0 _ _ _ _ _
            have hgb2 : gpN (sU A) (I 41) (cnmA A) s n ≤ 12 * n + 1 := by
              have hgd : gpN (sU A) (I 41) (cnmA A) s n = if (W n).1.length = 0 then 0 else ((((W n).1.length + 1 - (W n).2.1.length : Nat)) : Int) := by rw [hW]; rfl
              rw [hgd]; split <;> omega
            refine v_ild5 (pc := 47) hJ dX9_putWords_47 ?_
            refine v_cS1i (pc := 49) hJ lkX9_69 (qX9_isLetter hO (by omega)) (Nat.le_of_ble_eq_true rfl) (rOk_L (by decide) (by decide)) dX9_putWords_49 (fun r49 u49 g49 => ?_)
            obtain ⟨g49a, g49b, rfl⟩ := g49
            try simp only [up_s, up_n, up_up, ne_eq, Nat.reduceEqDiff, not_false_eq_true]
            refine v_if_eq (tgt := 72) (pc := 52) hJ dX9_putWords_52 (by decide) (by omega) (fun h52 => ?_) (fun h52 => ?_)
            · refine v_iconst (pc := 72) hJ dX9_putWords_72 ?_
              refine v_ist9 (pc := 73) hJ dX9_putWords_73 (by decide) ?_
              refine v_ald4 (pc := 75) hJ dX9_putWords_75 ?_
              refine v_ild9 (pc := 77) hJ dX9_putWords_77 ?_
              refine v_if_eq (tgt := 87) (pc := 79) hJ dX9_putWords_79 (by decide) (by omega) (fun h79 => ?_) (fun h79 => ?_)
              · refine v_bipush (pc := 87) hJ dX9_putWords_87 (by decide) ?_
                refine v_ald0 (pc := 89) hJ dX9_putWords_89 ?_
                refine cgX9_9 (pc := 90) hJ dX9_putWords_90 ?_
                refine v_ild8 (pc := 93) hJ dX9_putWords_93 ?_
                refine ca100 (pc := 95) hJ (by omega) (by omega) dX9_putWords_95 ?_
                try simp only [up_s, up_n, up_up, ne_eq, Nat.reduceEqDiff, not_false_eq_true]
                try simp only [up_s, up_n, up_up, ne_eq, Nat.reduceEqDiff, not_false_eq_true]
                rw [hgn]
                refine v_cV2v (pc := 96) (q0 := 15) (ci := 2) hJ rfl rfl lkX9_58 (qX5_putMany hO (xs := xs ++ (W n).2.1) (by omega) (by simp only [up_s, up_n, up_up, ne_eq, Nat.reduceEqDiff, not_false_eq_true]; exact hF) (by rw [List.length_append]; omega)) (Nat.le_of_ble_eq_true rfl) (rOk_L (by decide) (by decide)) dX9_putWords_96 (fun u96 g96 => ?_)
                obtain ⟨n96, F96, hF96, rfl⟩ := g96
                try simp only [up_s, up_n, up_up, ne_eq, Nat.reduceEqDiff, not_false_eq_true]
                try simp only [up_s, up_n, up_up, ne_eq, Nat.reduceEqDiff, not_false_eq_true]
                refine v_goto (tgt := 113) (pc := 99) hJ dX9_putWords_99 (by decide) ?_
                refine v_inc6 (pc := 113) hJ dX9_putWords_113 (by decide) ?_
                refine v_goto (tgt := 6) (pc := 116) hJ dX9_putWords_116 (by decide) ?_
                have hfl : filr (sU A) (I 41) (W n).2.2 (s + n) = 32 := by
                  unfold filr
                  rw [if_neg (fun q => by have := g49b.mpr (hla.mpr q.1); omega)]
                have hn := ih (n + 1) n96 F96 a (some (.int (iZ (A 40 (s + n))))) (some (.int (iZ (A 40 (s + n) - 256)))) (some (.int (iZ 0))) (by omega) (by
                    rw [hW, wsN_neg hneg, ← hW]
                    show hasO F96 n96 (xs ++ loPad _ _ _)
                    rw [hfl, hW, loPad_gp, ← hW, ← List.append_assoc]
                    exact hF96) ha (by rw [hW, wsN_ah, if_pos hneg, ← hW]; exact hla) (by omega)
                rw [show s + ((n + 1 : Nat) : Int) = s + n + 1 by omega] at hn
                exact hn
              · exact absurd rfl h79
            · refine v_ald1 (pc := 55) hJ dX9_putWords_55 ?_
              refine v_ild6 (pc := 56) hJ dX9_putWords_56 ?_
              refine v_ild3 (pc := 58) hJ dX9_putWords_58 ?_
              refine v_cV2i (pc := 59) (q0 := 3) (ci := 5) hJ rfl rfl lkX9_72 (qX8_nextWordByte hO (by simp only [cokI, up_s, up_n, up_up, ne_eq, Nat.reduceEqDiff, not_false_eq_true]; exact hI) (by simp only [cokC, up_s, up_n, up_up, ne_eq, Nat.reduceEqDiff, not_false_eq_true]; exact hC) (by omega) (by omega) (by simp only [up_s, up_n, up_up, ne_eq, Nat.reduceEqDiff, not_false_eq_true]; exact fun j j0 j1 => l4 j (by omega) j1) (by simp only [up_s, up_n, up_up, ne_eq, Nat.reduceEqDiff, not_false_eq_true]; exact l5)) (Nat.le_of_ble_eq_true rfl) (rOk_L (by decide) (by decide)) dX9_putWords_59 (fun r59 u59 g59 => ?_)
              obtain ⟨g59a, g59b, rfl⟩ := g59
              try simp only [up_s, up_n, up_up, ne_eq, Nat.reduceEqDiff, not_false_eq_true] at g59b
              rw [show sU (va_up A 80 F) = sU A by funext j; unfold sU; rw [up_n (by decide)]] at g59b
              try simp only [up_s, up_n, up_up, ne_eq, Nat.reduceEqDiff, not_false_eq_true]
              refine v_cS1i (pc := 62) hJ lkX9_69 (qX9_isLetter hO (by omega)) (Nat.le_of_ble_eq_true rfl) (rOk_L (by decide) (by decide)) dX9_putWords_62 (fun r62 u62 g62 => ?_)
              obtain ⟨g62a, g62b, rfl⟩ := g62
              try simp only [up_s, up_n, up_up, ne_eq, Nat.reduceEqDiff, not_false_eq_true]
              refine v_if_eq (tgt := 72) (pc := 65) hJ dX9_putWords_65 (by decide) (by omega) (fun h65 => ?_) (fun h65 => ?_)
              · refine v_iconst (pc := 72) hJ dX9_putWords_72 ?_
                refine v_ist9 (pc := 73) hJ dX9_putWords_73 (by decide) ?_
                refine v_ald4 (pc := 75) hJ dX9_putWords_75 ?_
                refine v_ild9 (pc := 77) hJ dX9_putWords_77 ?_
                refine v_if_eq (tgt := 87) (pc := 79) hJ dX9_putWords_79 (by decide) (by omega) (fun h79 => ?_) (fun h79 => ?_)
                · refine v_bipush (pc := 87) hJ dX9_putWords_87 (by decide) ?_
                  refine v_ald0 (pc := 89) hJ dX9_putWords_89 ?_
                  refine cgX9_9 (pc := 90) hJ dX9_putWords_90 ?_
                  refine v_ild8 (pc := 93) hJ dX9_putWords_93 ?_
                  refine ca100 (pc := 95) hJ (by omega) (by omega) dX9_putWords_95 ?_
                  try simp only [up_s, up_n, up_up, ne_eq, Nat.reduceEqDiff, not_false_eq_true]
                  try simp only [up_s, up_n, up_up, ne_eq, Nat.reduceEqDiff, not_false_eq_true]
                  rw [hgn]
                  refine v_cV2v (pc := 96) (q0 := 15) (ci := 2) hJ rfl rfl lkX9_58 (qX5_putMany hO (xs := xs ++ (W n).2.1) (by omega) (by simp only [up_s, up_n, up_up, ne_eq, Nat.reduceEqDiff, not_false_eq_true]; exact hF) (by rw [List.length_append]; omega)) (Nat.le_of_ble_eq_true rfl) (rOk_L (by decide) (by decide)) dX9_putWords_96 (fun u96 g96 => ?_)
                  obtain ⟨n96, F96, hF96, rfl⟩ := g96
                  try simp only [up_s, up_n, up_up, ne_eq, Nat.reduceEqDiff, not_false_eq_true]
                  try simp only [up_s, up_n, up_up, ne_eq, Nat.reduceEqDiff, not_false_eq_true]
                  refine v_goto (tgt := 113) (pc := 99) hJ dX9_putWords_99 (by decide) ?_
                  refine v_inc6 (pc := 113) hJ dX9_putWords_113 (by decide) ?_
                  refine v_goto (tgt := 6) (pc := 116) hJ dX9_putWords_116 (by decide) ?_
                  have hfl : filr (sU A) (I 41) (W n).2.2 (s + n) = 32 := by
                    unfold filr
                    rw [if_neg (fun q => by have := g62b.mpr (g59b.mpr q.2); omega)]
                  have hn := ih (n + 1) n96 F96 a (some (.int (iZ (A 40 (s + n))))) (some (.int (iZ (A 40 (s + n) - 256)))) (some (.int (iZ 0))) (by omega) (by
                      rw [hW, wsN_neg hneg, ← hW]
                      show hasO F96 n96 (xs ++ loPad _ _ _)
                      rw [hfl, hW, loPad_gp, ← hW, ← List.append_assoc]
                      exact hF96) ha (by rw [hW, wsN_ah, if_pos hneg, ← hW]; exact hla) (by omega)
                  rw [show s + ((n + 1 : Nat) : Int) = s + n + 1 by omega] at hn
                  exact hn
                · exact absurd rfl h79
              · refine v_iconst (pc := 68) hJ dX9_putWords_68 ?_
                refine v_goto (tgt := 73) (pc := 69) hJ dX9_putWords_69 (by decide) ?_
                refine v_ist9 (pc := 73) hJ dX9_putWords_73 (by decide) ?_
                refine v_ald4 (pc := 75) hJ dX9_putWords_75 ?_
                refine v_ild9 (pc := 77) hJ dX9_putWords_77 ?_
                refine v_if_eq (tgt := 87) (pc := 79) hJ dX9_putWords_79 (by decide) (by omega) (fun h79 => ?_) (fun h79 => ?_)
                · exact absurd h79 (by decide)
                · refine v_bipush (pc := 82) hJ dX9_putWords_82 (by decide) ?_
                  refine v_goto (tgt := 89) (pc := 84) hJ dX9_putWords_84 (by decide) ?_
                  refine v_ald0 (pc := 89) hJ dX9_putWords_89 ?_
                  refine cgX9_9 (pc := 90) hJ dX9_putWords_90 ?_
                  refine v_ild8 (pc := 93) hJ dX9_putWords_93 ?_
                  refine ca100 (pc := 95) hJ (by omega) (by omega) dX9_putWords_95 ?_
                  try simp only [up_s, up_n, up_up, ne_eq, Nat.reduceEqDiff, not_false_eq_true]
                  try simp only [up_s, up_n, up_up, ne_eq, Nat.reduceEqDiff, not_false_eq_true]
                  rw [hgn]
                  refine v_cV2v (pc := 96) (q0 := 15) (ci := 2) hJ rfl rfl lkX9_58 (qX5_putMany hO (xs := xs ++ (W n).2.1) (by omega) (by simp only [up_s, up_n, up_up, ne_eq, Nat.reduceEqDiff, not_false_eq_true]; exact hF) (by rw [List.length_append]; omega)) (Nat.le_of_ble_eq_true rfl) (rOk_L (by decide) (by decide)) dX9_putWords_96 (fun u96 g96 => ?_)
                  obtain ⟨n96, F96, hF96, rfl⟩ := g96
                  try simp only [up_s, up_n, up_up, ne_eq, Nat.reduceEqDiff, not_false_eq_true]
                  try simp only [up_s, up_n, up_up, ne_eq, Nat.reduceEqDiff, not_false_eq_true]
                  refine v_goto (tgt := 113) (pc := 99) hJ dX9_putWords_99 (by decide) ?_
                  refine v_inc6 (pc := 113) hJ dX9_putWords_113 (by decide) ?_
                  refine v_goto (tgt := 6) (pc := 116) hJ dX9_putWords_116 (by decide) ?_
                  have hfl : filr (sU A) (I 41) (W n).2.2 (s + n) = 45 := by
                    unfold filr
                    rw [if_pos ⟨hla.mp (g49b.mp (by omega)), g59b.mp (g62b.mp (by omega))⟩]
                  have hn := ih (n + 1) n96 F96 a (some (.int (iZ (A 40 (s + n))))) (some (.int (iZ (A 40 (s + n) - 256)))) (some (.int (iZ 1))) (by omega) (by
                      rw [hW, wsN_neg hneg, ← hW]
                      show hasO F96 n96 (xs ++ loPad _ _ _)
                      rw [hfl, hW, loPad_gp, ← hW, ← List.append_assoc]
                      exact hF96) ha (by rw [hW, wsN_ah, if_pos hneg, ← hW]; exact hla) (by omega)
                  rw [show s + ((n + 1 : Nat) : Int) = s + n + 1 by omega] at hn
                  exact hn
  show J 0 [some (.ref (ad 119)), some (.ref (ad 59)), some (.int (iZ s)), some (.int (iZ e)), some (.ref (ad 99)), none, none, none, none, none] [] (ad, I, A)
  refine v_iconst (pc := 0) hJ dX9_putWords_0 ?_
  refine v_ist5 (pc := 1) hJ dX9_putWords_1 (by decide) ?_
  refine v_ild2 (pc := 3) hJ dX9_putWords_3 ?_
  refine v_ist6 (pc := 4) hJ dX9_putWords_4 (by decide) ?_
  have h := lp 1400 0 (I 81) (A 80) (-1) none none none (by omega) (by rw [hW]; simpa [wsN] using hx) (by omega) (by rw [hW]; show isLt (-1) ↔ isLt 0; constructor <;> (intro q; omega)) (by omega)
  rw [show s + ((0 : Nat) : Int) = s by omega] at h
  rw [up_id, up_id] at h
  exact h
set_option maxHeartbeats 4000000 in
set_option maxRecDepth 100000 in
theorem qX9_putSong {l : Launch} {D : va_G} {cI : ClassId} {O : OT} {adK adV : Nat → Nat} {tT : Nat} (hO : OGC O adK adV tT) {ad : Nat → Nat} {I : Nat → Int} {A : Nat → Int → Int}  (hC : cokC I A) (hI : cokI I A) (h42 : 0 ≤ I 42 ∧ I 42 ≤ 40) (hinc : incS A (I 41)) (hx : I 81 = 0) : CC l D cI O yX9_putSong cX9_putSong 6 none 9 [.ref (ad 119), .ref (ad 59), .ref (ad 99)] (ad, I, A) (pV fun u2 => ∃ n F G, hasO F n (wrN (sU A) (I 41) (cnmA A) (I 42).toNat).2 ∧ u2 = (ad, va_up I 81 n, va_up (va_up A 100 G) 80 F)) := by
  refine ct_intro (own := RX9) (by decide) rfl hO.1.1 (Nat.le_of_ble_eq_true rfl) (by simp [Value.category]) (fun X J hJ => ?_)
  obtain ⟨⟨c1, c2⟩, c3⟩ := id hC
  obtain ⟨s1, s2⟩ := id hI
  have hnl : ∀ i : Int, 0 ≤ i → i < I 43 → 1 ≤ (cnmA A i).length ∧ (cnmA A i).length ≤ 11 := fun i i0 i1 => by obtain ⟨k1, k2, k3⟩ := c3 i i0 i1; exact nameL_len k1 k2 k3
  obtain ⟨V, hV⟩ : ∃ V, V = wrN (sU A) (I 41) (cnmA A) := ⟨_, rfl⟩
  rw [← hV] at hJ
  have hsU : ∀ (F G : Int → Int), sU (va_up (va_up A 100 G) 80 F) = sU A := fun F G => by funext j; unfold sU; rw [up_n (by decide), up_n (by decide)]
  have hcn : ∀ (F G : Int → Int), cnmA (va_up (va_up A 100 G) 80 F) = cnmA A := fun F G => by funext j; unfold cnmA; simp only [up_n, ne_eq, Nat.reduceEqDiff, not_false_eq_true]
  have tail : ∀ (n : Nat) (q : Int) (F G : Int → Int) (a5 : Option Value), ((n : Int) < I 42) → hasO F q ((V n).2 ++ (if 0 < n then [10] else [])) → (0 ≤ (V n).1 ∧ (V n).1 ≤ 1201 + n) → (((V n).2.length : Int) ≤ 24 * (V n).1 + 2 * n) → (∀ (q : Int) (F G : Int → Int) (a5 : Option Value), hasO F q (V (n + 1)).2 → (0 ≤ (V (n + 1)).1 ∧ (V (n + 1)).1 ≤ 1201 + ((n + 1 : Nat) : Int)) → (((V (n + 1)).2.length : Int) ≤ 24 * (V (n + 1)).1 + 2 * ((n + 1 : Nat) : Int)) → J 5 [some (.ref (ad 119)), some (.ref (ad 59)), some (.ref (ad 99)), some (.int (iZ (V (n + 1)).1)), some (.int (iZ ((n + 1 : Nat) : Int))), a5] [] (ad, va_up I 81 q, va_up (va_up A 100 G) 80 F)) → J 25 [some (.ref (ad 119)), some (.ref (ad 59)), some (.ref (ad 99)), some (.int (iZ (V n).1)), some (.int (iZ (n : Int))), a5] [] (ad, va_up I 81 q, va_up (va_up A 100 G) 80 F) := by
    intro n q F G a5 hn42 hF hst hln ih
    have hq1 := hF.1
    have z1 : (if 0 < n then [(10 : Int)] else []).length ≤ 1 := by split <;> simp
    rw [List.length_append] at hq1
    refine v_ald1 (pc := 25) hJ dX9_putSong_25 ?_
    refine v_ild3 (pc := 26) hJ dX9_putSong_26 ?_
    refine v_cV1i (pc := 27) (q0 := 3) (ci := 5) hJ rfl rfl lkX9_27 (qX8_endOfLine hO (by simp only [cokI, up_s, up_n, up_up, ne_eq, Nat.reduceEqDiff, not_false_eq_true]; exact hI) (by simp only [cokC, up_s, up_n, up_up, ne_eq, Nat.reduceEqDiff, not_false_eq_true]; exact hC) (by omega)) (Nat.le_of_ble_eq_true rfl) (rOk_L (by decide) (by decide)) dX9_putSong_27 (fun r27 u27 g27 => ?_)
    obtain ⟨g27a, g27b, g27c, rfl⟩ := g27
    try simp only [up_s, up_n, up_up, ne_eq, Nat.reduceEqDiff, not_false_eq_true] at g27b g27c
    have hLn : lineP I A (V n).1 r27 := ⟨⟨hst.1, g27a.1, g27a.2⟩, g27b, g27c⟩
    have he12 : r27 ≤ 1200 ∨ (V n).1 = r27 := by
      by_cases w : (V n).1 < r27
      · have := (g27b (r27 - 1) (by omega) (by omega)).1; omega
      · omega
    have hcase : ∀ j : Nat, (V n).1 + j < r27 → (32 ≤ A 40 ((V n).1 + j) ∧ A 40 ((V n).1 + j) ≤ 126 ∧ sU A ((V n).1 + j) = A 40 ((V n).1 + j)) ∨ (256 ≤ A 40 ((V n).1 + j) ∧ A 40 ((V n).1 + j) < 256 + I 43 ∧ sU A ((V n).1 + j) = 255 - A 40 ((V n).1 + j)) := fun j hj => by
      have h4 := g27b ((V n).1 + j) (by omega) hj
      have h5 := s2 ((V n).1 + j) (by omega) h4.1
      rcases h5 with h5 | h5 | h5
      · exact absurd h5 h4.2
      · exact Or.inl ⟨h5.1, h5.2, sU_pos (by omega)⟩
      · exact Or.inr ⟨h5.1, h5.2, sU_neg h5.1⟩
    have h10 : ∀ j : Int, sU A j = 10 → A 40 j = 10 := fun j w => by
      by_cases k : 256 ≤ A 40 j
      · rw [sU_neg k] at w; omega
      · rw [sU_pos k] at w; exact w
    have hwsl := wsN_len (S := sU A) (sz := I 41) (nm := cnmA A) (s := (V n).1) (r27 - (V n).1).toNat (fun j hj w => by
      rcases hcase j (by omega) with k | k
      · omega
      · rw [k.2.2, show -1 - (255 - A 40 ((V n).1 + j)) = A 40 ((V n).1 + j) - 256 by omega]
        exact (hnl _ (by omega) (by omega)).2)
    try simp only [up_s, up_n, up_up, ne_eq, Nat.reduceEqDiff, not_false_eq_true]
    refine v_ist5 (pc := 30) hJ dX9_putSong_30 (by decide) ?_
    refine v_ald1 (pc := 32) hJ dX9_putSong_32 ?_
    refine v_ild3 (pc := 33) hJ dX9_putSong_33 ?_
    refine v_ild5 (pc := 34) hJ dX9_putSong_34 ?_
    refine v_cV2i (pc := 36) (q0 := 3) (ci := 5) hJ rfl rfl lkX9_31 (qX8_chordsStandIn hO (by simp only [cokI, up_s, up_n, up_up, ne_eq, Nat.reduceEqDiff, not_false_eq_true]; exact hI) (by simp only [cokC, up_s, up_n, up_up, ne_eq, Nat.reduceEqDiff, not_false_eq_true]; exact hC) (by omega) (by omega)) (Nat.le_of_ble_eq_true rfl) (rOk_L (by decide) (by decide)) dX9_putSong_36 (fun r36 u36 g36 => ?_)
    obtain ⟨g36a, g36b, rfl⟩ := g36
    try simp only [up_s, up_n, up_up, ne_eq, Nat.reduceEqDiff, not_false_eq_true] at g36b
    try simp only [up_s, up_n, up_up, ne_eq, Nat.reduceEqDiff, not_false_eq_true]
    refine v_if_eq (tgt := 57) (pc := 39) hJ dX9_putSong_39 (by decide) (by omega) (fun h39 => ?_) (fun h39 => ?_)
    · have hno : ∀ j : Nat, j < (r27 - (V n).1).toNat → ¬ sU A ((V n).1 + j) < 0 := fun j hj w => by
        have k := g27b ((V n).1 + j) (by omega) (by omega)
        rcases hcase j (by omega) with k2 | k2
        · omega
        · have := g36b.mpr ⟨(V n).1 + j, by omega, by omega, k.1, by omega⟩
          omega
      have hU : (wsN (sU A) (I 41) (cnmA A) (V n).1 (r27 - (V n).1).toNat).1 = [] := wsN_nil _ hno
      skip
      refine v_ald0 (pc := 57) hJ dX9_putSong_57 ?_
      refine v_ald1 (pc := 58) hJ dX9_putSong_58 ?_
      refine v_ild3 (pc := 59) hJ dX9_putSong_59 ?_
      refine v_ild5 (pc := 60) hJ dX9_putSong_60 ?_
      refine v_ald2 (pc := 62) hJ dX9_putSong_62 ?_
      refine v_cV4v (pc := 63) (q0 := 17) (ci := 6) hJ rfl rfl lkX9_39 (by first | exact qX9_putWords hO (xs := ((V n).2 ++ (if 0 < n then [10] else [])) ++ (wsN (sU A) (I 41) (cnmA A) (V n).1 (r27 - (V n).1).toNat).1 ++ [10]) (by simp only [cokC, up_s, up_n, up_up, ne_eq, Nat.reduceEqDiff, not_false_eq_true]; exact hC) (by simp only [cokI, up_s, up_n, up_up, ne_eq, Nat.reduceEqDiff, not_false_eq_true]; exact hI) (by simp only [lineP, up_s, up_n, up_up, ne_eq, Nat.reduceEqDiff, not_false_eq_true]; exact hLn) (by simp only [gapP, up_s, up_n, up_up, ne_eq, Nat.reduceEqDiff, not_false_eq_true]; rw [hsU, hcn]; exact hG48) (by simp only [up_s, up_n, up_up, ne_eq, Nat.reduceEqDiff, not_false_eq_true]; exact hF54) (by simp only [List.length_append, List.length_singleton]; omega) | exact qX9_putWords hO (xs := (V n).2 ++ (if 0 < n then [10] else [])) (by simp only [cokC, up_s, up_n, up_up, ne_eq, Nat.reduceEqDiff, not_false_eq_true]; exact hC) (by simp only [cokI, up_s, up_n, up_up, ne_eq, Nat.reduceEqDiff, not_false_eq_true]; exact hI) (by simp only [lineP, up_s, up_n, up_up, ne_eq, Nat.reduceEqDiff, not_false_eq_true]; exact hLn) (by simp only [gapP, up_s, up_n, up_up, ne_eq, Nat.reduceEqDiff, not_false_eq_true]; rw [hsU]; exact fun j hj w => absurd w (hno j hj)) (by simp only [up_s, up_n, up_up, ne_eq, Nat.reduceEqDiff, not_false_eq_true]; exact hF) (by rw [List.length_append]; omega)) (Nat.le_of_ble_eq_true rfl) (rOk_L (by decide) (by decide)) dX9_putSong_63 (fun u63 g63 => ?_)
      obtain ⟨n63, F63, hF63, rfl⟩ := g63
      rw [hsU, hcn] at hF63
      simp only [up_s, up_n, up_up, ne_eq, Nat.reduceEqDiff, not_false_eq_true] at hF63
      try simp only [up_s, up_n, up_up, ne_eq, Nat.reduceEqDiff, not_false_eq_true]
      try simp only [up_s, up_n, up_up, ne_eq, Nat.reduceEqDiff, not_false_eq_true]
      refine v_ild5 (pc := 66) hJ dX9_putSong_66 ?_
      refine v_iconst (pc := 68) hJ dX9_putSong_68 ?_
      refine v_iadd (pc := 69) hJ dX9_putSong_69 ?_
      refine v_ist3 (pc := 70) hJ dX9_putSong_70 (by decide) ?_
      refine v_inc4 (pc := 71) hJ dX9_putSong_71 (by decide) ?_
      refine v_goto (tgt := 5) (pc := 74) hJ dX9_putSong_74 (by decide) ?_
      have hwl := wl_ws (sz := I 41) (S := sU A) (nm := cnmA A) (s := (V n).1) (e := r27) (fun j j0 j1 => ⟨(g27b j j0 j1).1, fun q => (g27b j j0 j1).2 (h10 j q)⟩) (fun q => g27c ⟨q.1, fun w => q.2 (by unfold sU; rw [w]; rfl)⟩) 1202 0 (by omega) (by omega)
      rw [show (V n).1 + ((0 : Nat) : Int) = (V n).1 by omega] at hwl
      have hwl2 : wl (sU A) (I 41) (cnmA A) 1202 (V n).1 [] [] 0 = ((wsN (sU A) (I 41) (cnmA A) (V n).1 (r27 - (V n).1).toNat).1, (wsN (sU A) (I 41) (cnmA A) (V n).1 (r27 - (V n).1).toNat).2.1, r27) := hwl
      have hVn : V (n + 1) = ((wl (sU A) (I 41) (cnmA A) 1202 (V n).1 [] [] 0).2.2 + 1, (((V n).2 ++ (if 0 < n then [10] else [])) ++ (wl (sU A) (I 41) (cnmA A) 1202 (V n).1 [] [] 0).1 ++ (if 0 < (wl (sU A) (I 41) (cnmA A) 1202 (V n).1 [] [] 0).1.length then [10] else [])) ++ (wl (sU A) (I 41) (cnmA A) 1202 (V n).1 [] [] 0).2.1) := by rw [hV]; rfl
      rw [hwl2] at hVn
      have hn := ih n63 F63 G (some (.int (iZ r27))) (by
          rw [hVn]
          show hasO F63 n63 (((((V n).2 ++ (if 0 < n then [10] else [])) ++ (wsN (sU A) (I 41) (cnmA A) (V n).1 (r27 - (V n).1).toNat).1 ++ (if 0 < (wsN (sU A) (I 41) (cnmA A) (V n).1 (r27 - (V n).1).toNat).1.length then [10] else [])) ++ (wsN (sU A) (I 41) (cnmA A) (V n).1 (r27 - (V n).1).toNat).2.1))
          rw [hU]
          simp only [List.length_nil, Nat.lt_irrefl, if_false, List.append_nil]
          exact hF63) (by rw [hVn]; show 0 ≤ r27 + 1 ∧ r27 + 1 ≤ 1201 + ((n + 1 : Nat) : Int); omega) (by
          rw [hVn]
          show ((((((V n).2 ++ (if 0 < n then [10] else [])) ++ (wsN (sU A) (I 41) (cnmA A) (V n).1 (r27 - (V n).1).toNat).1 ++ (if 0 < (wsN (sU A) (I 41) (cnmA A) (V n).1 (r27 - (V n).1).toNat).1.length then [10] else [])) ++ (wsN (sU A) (I 41) (cnmA A) (V n).1 (r27 - (V n).1).toNat).2.1).length : Nat) : Int) ≤ 24 * (r27 + 1) + 2 * ((n + 1 : Nat) : Int)
          simp only [List.length_append]
          have z2 : (if 0 < (wsN (sU A) (I 41) (cnmA A) (V n).1 (r27 - (V n).1).toNat).1.length then [(10 : Int)] else []).length ≤ 1 := by split <;> simp
          omega)
      rw [show ((n + 1 : Nat) : Int) = (n : Int) + 1 by omega, hVn] at hn
      exact hn
    · have hU : 0 < (wsN (sU A) (I 41) (cnmA A) (V n).1 (r27 - (V n).1).toNat).1.length := by
        have k1 : r36 = 1 := by rcases g36a with w | w; (exact absurd w h39); exact w
        obtain ⟨j, j0, j1, j2, j3⟩ := g36b.mp k1
        clear g36b
        have e1 : (V n).1 + (((j - (V n).1).toNat : Nat) : Int) = j := by omega
        refine wsN_ne (j := (j - (V n).1).toNat) (by rw [e1, sU_neg j3]; omega) ?_ _ (by omega)
        rw [e1, sU_neg j3]
        have k := s2 j (by omega) j2
        exact (hnl _ (by omega) (by omega)).1
      refine v_ald0 (pc := 42) hJ dX9_putSong_42 ?_
      refine v_ald1 (pc := 43) hJ dX9_putSong_43 ?_
      refine v_ild3 (pc := 44) hJ dX9_putSong_44 ?_
      refine v_ild5 (pc := 45) hJ dX9_putSong_45 ?_
      refine v_ald2 (pc := 47) hJ dX9_putSong_47 ?_
      refine v_cV4v (pc := 48) (q0 := 17) (ci := 6) hJ rfl rfl lkX9_35 (qX9_putNames hO (xs := (V n).2 ++ (if 0 < n then [10] else [])) (by simp only [cokC, up_s, up_n, up_up, ne_eq, Nat.reduceEqDiff, not_false_eq_true]; exact hC) (by simp only [cokI, up_s, up_n, up_up, ne_eq, Nat.reduceEqDiff, not_false_eq_true]; exact hI) (by simp only [lineP, up_s, up_n, up_up, ne_eq, Nat.reduceEqDiff, not_false_eq_true]; exact hLn) (by unfold incS; simp only [up_s, up_n, up_up, ne_eq, Nat.reduceEqDiff, not_false_eq_true]; exact hinc) (by simp only [up_s, up_n, up_up, ne_eq, Nat.reduceEqDiff, not_false_eq_true]; exact hF) (by rw [List.length_append]; omega)) (Nat.le_of_ble_eq_true rfl) (rOk_L (by decide) (by decide)) dX9_putSong_48 (fun u48 g48 => ?_)
      obtain ⟨n48, F48, G48, hF48, hG48, rfl⟩ := g48
      rw [hsU, hcn] at hF48
      simp only [gapP, up_s, up_n, up_up, ne_eq, Nat.reduceEqDiff, not_false_eq_true] at hG48 hF48
      rw [hsU, hcn] at hG48
      try simp only [up_s, up_n, up_up, ne_eq, Nat.reduceEqDiff, not_false_eq_true]
      rw [up4 A _ _ _ _ (by decide)]
      try simp only [up_s, up_n, up_up, ne_eq, Nat.reduceEqDiff, not_false_eq_true]
      refine v_ald2 (pc := 51) hJ dX9_putSong_51 ?_
      refine v_bipush (pc := 52) hJ dX9_putSong_52 (by decide) ?_
      refine v_cV1v (pc := 54) (q0 := 15) (ci := 2) hJ rfl rfl lkX9_21 (qX5_put hO (by have := hF48.1; simp only [List.length_append] at this; simp only [up_s, up_n, up_up, ne_eq, Nat.reduceEqDiff, not_false_eq_true]; omega)) (Nat.le_of_ble_eq_true rfl) (rOk_L (by decide) (by decide)) dX9_putSong_54 (fun u54 g54 => ?_)
      subst g54
      simp only [up_s, up_n, up_up, ne_eq, Nat.reduceEqDiff, not_false_eq_true]
      have hF54 := hasO_add (c := 10) hF48
      try simp only [up_s, up_n, up_up, ne_eq, Nat.reduceEqDiff, not_false_eq_true]
      skip
      refine v_ald0 (pc := 57) hJ dX9_putSong_57 ?_
      refine v_ald1 (pc := 58) hJ dX9_putSong_58 ?_
      refine v_ild3 (pc := 59) hJ dX9_putSong_59 ?_
      refine v_ild5 (pc := 60) hJ dX9_putSong_60 ?_
      refine v_ald2 (pc := 62) hJ dX9_putSong_62 ?_
      refine v_cV4v (pc := 63) (q0 := 17) (ci := 6) hJ rfl rfl lkX9_39 (by first | exact qX9_putWords hO (xs := ((V n).2 ++ (if 0 < n then [10] else [])) ++ (wsN (sU A) (I 41) (cnmA A) (V n).1 (r27 - (V n).1).toNat).1 ++ [10]) (by simp only [cokC, up_s, up_n, up_up, ne_eq, Nat.reduceEqDiff, not_false_eq_true]; exact hC) (by simp only [cokI, up_s, up_n, up_up, ne_eq, Nat.reduceEqDiff, not_false_eq_true]; exact hI) (by simp only [lineP, up_s, up_n, up_up, ne_eq, Nat.reduceEqDiff, not_false_eq_true]; exact hLn) (by simp only [gapP, up_s, up_n, up_up, ne_eq, Nat.reduceEqDiff, not_false_eq_true]; rw [hsU, hcn]; exact hG48) (by simp only [up_s, up_n, up_up, ne_eq, Nat.reduceEqDiff, not_false_eq_true]; exact hF54) (by simp only [List.length_append, List.length_singleton]; omega) | exact qX9_putWords hO (xs := (V n).2 ++ (if 0 < n then [10] else [])) (by simp only [cokC, up_s, up_n, up_up, ne_eq, Nat.reduceEqDiff, not_false_eq_true]; exact hC) (by simp only [cokI, up_s, up_n, up_up, ne_eq, Nat.reduceEqDiff, not_false_eq_true]; exact hI) (by simp only [lineP, up_s, up_n, up_up, ne_eq, Nat.reduceEqDiff, not_false_eq_true]; exact hLn) (by simp only [gapP, up_s, up_n, up_up, ne_eq, Nat.reduceEqDiff, not_false_eq_true]; rw [hsU]; exact fun j hj w => absurd w (hno j hj)) (by simp only [up_s, up_n, up_up, ne_eq, Nat.reduceEqDiff, not_false_eq_true]; exact hF) (by rw [List.length_append]; omega)) (Nat.le_of_ble_eq_true rfl) (rOk_L (by decide) (by decide)) dX9_putSong_63 (fun u63 g63 => ?_)
      obtain ⟨n63, F63, hF63, rfl⟩ := g63
      rw [hsU, hcn] at hF63
      simp only [up_s, up_n, up_up, ne_eq, Nat.reduceEqDiff, not_false_eq_true] at hF63
      try simp only [up_s, up_n, up_up, ne_eq, Nat.reduceEqDiff, not_false_eq_true]
      try simp only [up_s, up_n, up_up, ne_eq, Nat.reduceEqDiff, not_false_eq_true]
      refine v_ild5 (pc := 66) hJ dX9_putSong_66 ?_
      refine v_iconst (pc := 68) hJ dX9_putSong_68 ?_
      refine v_iadd (pc := 69) hJ dX9_putSong_69 ?_
      refine v_ist3 (pc := 70) hJ dX9_putSong_70 (by decide) ?_
      refine v_inc4 (pc := 71) hJ dX9_putSong_71 (by decide) ?_
      refine v_goto (tgt := 5) (pc := 74) hJ dX9_putSong_74 (by decide) ?_
      have hwl := wl_ws (sz := I 41) (S := sU A) (nm := cnmA A) (s := (V n).1) (e := r27) (fun j j0 j1 => ⟨(g27b j j0 j1).1, fun q => (g27b j j0 j1).2 (h10 j q)⟩) (fun q => g27c ⟨q.1, fun w => q.2 (by unfold sU; rw [w]; rfl)⟩) 1202 0 (by omega) (by omega)
      rw [show (V n).1 + ((0 : Nat) : Int) = (V n).1 by omega] at hwl
      have hwl2 : wl (sU A) (I 41) (cnmA A) 1202 (V n).1 [] [] 0 = ((wsN (sU A) (I 41) (cnmA A) (V n).1 (r27 - (V n).1).toNat).1, (wsN (sU A) (I 41) (cnmA A) (V n).1 (r27 - (V n).1).toNat).2.1, r27) := hwl
      have hVn : V (n + 1) = ((wl (sU A) (I 41) (cnmA A) 1202 (V n).1 [] [] 0).2.2 + 1, (((V n).2 ++ (if 0 < n then [10] else [])) ++ (wl (sU A) (I 41) (cnmA A) 1202 (V n).1 [] [] 0).1 ++ (if 0 < (wl (sU A) (I 41) (cnmA A) 1202 (V n).1 [] [] 0).1.length then [10] else [])) ++ (wl (sU A) (I 41) (cnmA A) 1202 (V n).1 [] [] 0).2.1) := by rw [hV]; rfl
      rw [hwl2] at hVn
      have hn := ih n63 F63 G48 (some (.int (iZ r27))) (by
          rw [hVn]
          show hasO F63 n63 (((((V n).2 ++ (if 0 < n then [10] else [])) ++ (wsN (sU A) (I 41) (cnmA A) (V n).1 (r27 - (V n).1).toNat).1 ++ (if 0 < (wsN (sU A) (I 41) (cnmA A) (V n).1 (r27 - (V n).1).toNat).1.length then [10] else [])) ++ (wsN (sU A) (I 41) (cnmA A) (V n).1 (r27 - (V n).1).toNat).2.1))
          rw [if_pos hU]
          exact hF63) (by rw [hVn]; show 0 ≤ r27 + 1 ∧ r27 + 1 ≤ 1201 + ((n + 1 : Nat) : Int); omega) (by
          rw [hVn]
          show ((((((V n).2 ++ (if 0 < n then [10] else [])) ++ (wsN (sU A) (I 41) (cnmA A) (V n).1 (r27 - (V n).1).toNat).1 ++ (if 0 < (wsN (sU A) (I 41) (cnmA A) (V n).1 (r27 - (V n).1).toNat).1.length then [10] else [])) ++ (wsN (sU A) (I 41) (cnmA A) (V n).1 (r27 - (V n).1).toNat).2.1).length : Nat) : Int) ≤ 24 * (r27 + 1) + 2 * ((n + 1 : Nat) : Int)
          simp only [List.length_append]
          have z2 : (if 0 < (wsN (sU A) (I 41) (cnmA A) (V n).1 (r27 - (V n).1).toNat).1.length then [(10 : Int)] else []).length ≤ 1 := by split <;> simp
          omega)
      rw [show ((n + 1 : Nat) : Int) = (n : Int) + 1 by omega, hVn] at hn
      exact hn
  have lp : ∀ (fu : Nat) (n : Nat) (q : Int) (F G : Int → Int) (a5 : Option Value), ((n : Int) ≤ I 42) → (hasO F q (V n).2) → (0 ≤ (V n).1 ∧ (V n).1 ≤ 1201 + n) → (((V n).2.length : Int) ≤ 24 * (V n).1 + 2 * n) → (41 - (n : Int)) < (fu : Int) → J 5 [some (.ref (ad 119)), some (.ref (ad 59)), some (.ref (ad 99)), some (.int (iZ (V n).1)), some (.int (iZ (n : Int))), a5] [] (ad, va_up I 81 q, va_up (va_up A 100 G) 80 F) := by
    intro fu
    induction fu with
    | zero => intro n  q  F G  a5 hn hF hst hln hmu; exfalso; omega
    | succ fu ih =>
      intro n  q  F G  a5 hn hF hst hln hmu
      refine v_ild4 (pc := 5) hJ dX9_putSong_5 ?_
      refine v_ald1 (pc := 7) hJ dX9_putSong_7 ?_
      refine cgX9_15a (pc := 8) hJ dX9_putSong_8 ?_
      try simp only [up_s, up_n, up_up, ne_eq, Nat.reduceEqDiff, not_false_eq_true]
      refine v_icmp_ge (tgt := 77) (pc := 11) hJ dX9_putSong_11 (by decide) (by omega) (by omega) (fun h11 => ?_) (fun h11 => ?_)
      · refine v_vret (pc := 77) hJ dX9_putSong_77 ⟨rfl, ?_⟩
        have e : (I 42).toNat = n := by omega
        exact ⟨q, F, G, by rw [e]; exact hF, rfl⟩
      · refine v_ild4 (pc := 14) hJ dX9_putSong_14 ?_
        refine v_if_le (tgt := 25) (pc := 16) hJ dX9_putSong_16 (by decide) (by omega) (fun h16 => ?_) (fun h16 => ?_)
        · refine tail n _ _ G a5 (by omega) ?_ hst hln (fun q F G a5 k1 k2 k3 => ih (n + 1) q F G a5 (by omega) k1 k2 k3 (by omega))
          rw [if_neg (by omega), List.append_nil]
          exact hF
        · refine v_ald2 (pc := 19) hJ dX9_putSong_19 ?_
          refine v_bipush (pc := 20) hJ dX9_putSong_20 (by decide) ?_
          refine v_cV1v (pc := 22) (q0 := 15) (ci := 2) hJ rfl rfl lkX9_21 (qX5_put hO (by have := hF.1; simp only [up_s, up_n, up_up, ne_eq, Nat.reduceEqDiff, not_false_eq_true]; omega)) (Nat.le_of_ble_eq_true rfl) (rOk_L (by decide) (by decide)) dX9_putSong_22 (fun u22 g22 => ?_)
          subst g22
          simp only [up_s, up_n, up_up, ne_eq, Nat.reduceEqDiff, not_false_eq_true]
          try simp only [up_s, up_n, up_up, ne_eq, Nat.reduceEqDiff, not_false_eq_true]
          refine tail n _ _ G a5 (by omega) ?_ hst hln (fun q F G a5 k1 k2 k3 => ih (n + 1) q F G a5 (by omega) k1 k2 k3 (by omega))
          rw [show (if 0 < n then [(10 : Int)] else []) = [10] from if_pos (by omega)]
          exact hasO_add hF
  show J 0 [some (.ref (ad 119)), some (.ref (ad 59)), some (.ref (ad 99)), none, none, none] [] (ad, I, A)
  refine v_iconst (pc := 0) hJ dX9_putSong_0 ?_
  refine v_ist3 (pc := 1) hJ dX9_putSong_1 (by decide) ?_
  refine v_iconst (pc := 2) hJ dX9_putSong_2 ?_
  refine v_ist4 (pc := 3) hJ dX9_putSong_3 (by decide) ?_
  have h := lp 42 0 (I 81) (A 80) (A 100) none (by omega) (by rw [hx, hV]; exact hasO_nil _) (by rw [hV]; show (0 : Int) ≤ 0 ∧ (0 : Int) ≤ 1201 + ((0 : Nat) : Int); omega) (by rw [hV]; show (0 : Int) ≤ 24 * 0 + 2 * ((0 : Nat) : Int); omega) (by omega)
  rw [up_id, up_id, up_id, hV] at h
  exact h
