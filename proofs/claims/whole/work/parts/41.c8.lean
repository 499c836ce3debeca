/-- what holds of the class's strings -/
abbrev cokN (I : Nat → Int) (A : Nat → Int → Int) : Prop := (0 ≤ I 121 ∧ I 121 ≤ 6) ∧ ∀ s : Int, 0 ≤ s → s < I 121 → 0 ≤ A 120 s ∧ A 120 s ≤ 60
abbrev frN (A : Nat → Int → Int) (n : Int) : Prop := ∀ j : Nat, (j : Int) < n → -1 ≤ A 124 j ∧ A 124 j ≤ 9
set_option maxHeartbeats 4000000 in
set_option maxRecDepth 100000 in
theorem qX0_toneAt {l : Launch} {D : va_G} {cI : ClassId} {O : OT} {adK adV : Nat → Nat} {tT : Nat} (hO : OGC O adK adV tT) {ad : Nat → Nat} {I : Nat → Int} {A : Nat → Int → Int} {s f : Int} (hs : 0 ≤ s ∧ s < 6) (hp : 0 ≤ A 120 s ∧ A 120 s ≤ 60) (hb : 0 ≤ I 125 ∧ I 125 ≤ 7) (hf : 0 ≤ f ∧ f ≤ 9) : CC l D cI O yX0_toneAt cX0_toneAt 3 (some .int) 1 [.ref (ad 139), .int (iZ s), .int (iZ f)] (ad, I, A) (pI fun r u2 => r = (A 120 s + I 125 + f).tmod 12 ∧ u2 = (ad, I, A)) := by
  refine ct_intro (own := RX0) (by decide) rfl hO.1.1 (Nat.le_of_ble_eq_true rfl) (by simp [Value.category]) (fun X J hJ => ?_)
  show J 0 [some (.ref (ad 139)), some (.int (iZ s)), some (.int (iZ f))] [] (ad, I, A)
  refine v_ald0 (pc := 0) hJ dX0_toneAt_0 ?_
  refine cgX0_9 (pc := 1) hJ dX0_toneAt_1 ?_
  refine v_ild1 (pc := 4) hJ dX0_toneAt_4 ?_
  refine ca120 (pc := 5) hJ (by omega) (by omega) dX0_toneAt_5 ?_
  refine v_ald0 (pc := 6) hJ dX0_toneAt_6 ?_
  refine cgX0_21 (pc := 7) hJ dX0_toneAt_7 ?_
  refine v_iadd (pc := 10) hJ dX0_toneAt_10 ?_
  refine v_ild2 (pc := 11) hJ dX0_toneAt_11 ?_
  refine v_iadd (pc := 12) hJ dX0_toneAt_12 ?_
  refine v_bipush (pc := 13) hJ dX0_toneAt_13 (by decide) ?_
  refine v_irem (pc := 15) hJ dX0_toneAt_15 (by omega) (by omega) (by omega) ?_
  refine v_iret (pc := 16) hJ dX0_toneAt_16 ⟨_, rfl, ?_⟩
  exact ⟨rfl, rfl⟩
set_option maxHeartbeats 4000000 in
set_option maxRecDepth 100000 in
theorem qX0_strainOfFirst {l : Launch} {D : va_G} {cI : ClassId} {O : OT} {adK adV : Nat → Nat} {tT : Nat} (hO : OGC O adK adV tT) {ad : Nat → Nat} {I : Nat → Int} {A : Nat → Int → Int} {n : Nat} (hn : n ≤ 6) (hg : frN A n) : CC l D cI O yX0_strainOfFirst cX0_strainOfFirst 10 (some .int) 1 [.ref (ad 139), .int (iZ (n : Int))] (ad, I, A) (pI fun r u2 => r = soN (A 124) n ∧ u2 = (ad, I, A)) := by
  refine ct_intro (own := RX0) (by decide) rfl hO.1.1 (Nat.le_of_ble_eq_true rfl) (by simp [Value.category]) (fun X J hJ => ?_)
  obtain ⟨g, hge⟩ : ∃ g, g = A 124 := ⟨_, rfl⟩
  rw [← hge] at hJ
  unfold frN at hg
  rw [← hge] at hg
  have lp : ∀ (fu : Nat) (s : Nat) (lc oc : Int) (a9 : Option Value), (s ≤ n) → (((lsN g s = 99 ∧ lc = 9 ∧ finN g s = 0) ∨ (lsN g s = lc ∧ 0 < lc ∧ lc ≤ 9 ∧ 0 < finN g s ∧ 1 ≤ atlN g lc s)) ∧ (oc = 0 ↔ opnN g s = 0) ∧ (0 ≤ oc ∧ oc ≤ s) ∧ (0 ≤ msN g s ∧ msN g s ≤ 9)) → (7 - (s : Int)) < (fu : Int) → J 20 [some (.ref (ad 139)), some (.int (iZ (n : Int))), some (.int (iZ (silN g s))), some (.int (iZ oc)), some (.int (iZ (finN g s))), some (.int (iZ (msN g s))), some (.int (iZ lc)), some (.int (iZ (atlN g (lsN g s) s))), some (.int (iZ (s : Int))), a9] [] (ad, I, A) := by
    intro fu
    induction fu with
    | zero => intro s  lc oc  a9 hs hi hmu; exfalso; omega
    | succ fu ih =>
      intro s  lc oc  a9 hs hi hmu
      refine v_ild8 (pc := 20) hJ dX0_strainOfFirst_20 ?_
      refine v_ild1 (pc := 22) hJ dX0_strainOfFirst_22 ?_
      refine v_icmp_ge (tgt := 121) (pc := 23) hJ dX0_strainOfFirst_23 (by decide) (by omega) (by omega) (fun h23 => ?_) (fun h23 => ?_)
      · obtain ⟨b1, b2, b3, b4⟩ := st_b g g 0 (lsN g s) s
        obtain ⟨j1, j2, j3, j4⟩ := id hi
        refine v_ild3 (pc := 121) hJ dX0_strainOfFirst_121 ?_
        refine v_if_ne (tgt := 140) (pc := 122) hJ dX0_strainOfFirst_122 (by decide) (by omega) (fun h122 => ?_) (fun h122 => ?_)
        · refine v_ild4 (pc := 140) hJ dX0_strainOfFirst_140 ?_
          refine v_ist8 (pc := 142) hJ dX0_strainOfFirst_142 (by decide) ?_
          refine v_ild5 (pc := 144) hJ dX0_strainOfFirst_144 ?_
          refine v_ild6 (pc := 146) hJ dX0_strainOfFirst_146 ?_
          refine v_isub (pc := 148) hJ dX0_strainOfFirst_148 ?_
          refine v_iconst (pc := 149) hJ dX0_strainOfFirst_149 ?_
          refine v_icmp_gt (tgt := 159) (pc := 150) hJ dX0_strainOfFirst_150 (by decide) (by omega) (by omega) (fun h150 => ?_) (fun h150 => ?_)
          · refine v_iconst (pc := 159) hJ dX0_strainOfFirst_159 ?_
            refine v_iret (pc := 160) hJ dX0_strainOfFirst_160 ⟨_, rfl, ?_⟩
            have en : n = s := by omega
            subst en
            obtain ⟨i1, i2, i3, i4⟩ := hi
            obtain ⟨b1, b2, b3, b4⟩ := st_b g g 0 (lsN g n) n
            have b5 := atl_fin g (lsN g n) n
            refine ⟨?_, rfl⟩
            have hfg : fgN g n = finN g n := by
              unfold fgN
              rw [if_neg (by omega)]
            unfold soN
            rw [if_pos (Or.inl (by omega))]
          · refine v_ild8 (pc := 153) hJ dX0_strainOfFirst_153 ?_
            refine v_iconst (pc := 155) hJ dX0_strainOfFirst_155 ?_
            refine v_icmp_le (tgt := 161) (pc := 156) hJ dX0_strainOfFirst_156 (by decide) (by omega) (by omega) (fun h156 => ?_) (fun h156 => ?_)
            · refine v_iconst (pc := 161) hJ dX0_strainOfFirst_161 ?_
              refine v_ild8 (pc := 162) hJ dX0_strainOfFirst_162 ?_
              refine v_imul (pc := 164) hJ dX0_strainOfFirst_164 ?_
              refine v_ild5 (pc := 165) hJ dX0_strainOfFirst_165 ?_
              refine v_iadd (pc := 167) hJ dX0_strainOfFirst_167 ?_
              refine v_iconst (pc := 168) hJ dX0_strainOfFirst_168 ?_
              refine v_ild2 (pc := 169) hJ dX0_strainOfFirst_169 ?_
              refine v_imul (pc := 170) hJ dX0_strainOfFirst_170 ?_
              refine v_iadd (pc := 171) hJ dX0_strainOfFirst_171 ?_
              refine v_iret (pc := 172) hJ dX0_strainOfFirst_172 ⟨_, rfl, ?_⟩
              have en : n = s := by omega
              subst en
              obtain ⟨i1, i2, i3, i4⟩ := hi
              obtain ⟨b1, b2, b3, b4⟩ := st_b g g 0 (lsN g n) n
              have b5 := atl_fin g (lsN g n) n
              refine ⟨?_, rfl⟩
              have hfg : fgN g n = finN g n := by
                unfold fgN
                rw [if_neg (by omega)]
              unfold soN st0
              rw [if_neg (by omega), hfg]
            · refine v_iconst (pc := 159) hJ dX0_strainOfFirst_159 ?_
              refine v_iret (pc := 160) hJ dX0_strainOfFirst_160 ⟨_, rfl, ?_⟩
              have en : n = s := by omega
              subst en
              obtain ⟨i1, i2, i3, i4⟩ := hi
              obtain ⟨b1, b2, b3, b4⟩ := st_b g g 0 (lsN g n) n
              have b5 := atl_fin g (lsN g n) n
              refine ⟨?_, rfl⟩
              have hfg : fgN g n = finN g n := by
                unfold fgN
                rw [if_neg (by omega)]
              unfold soN
              rw [if_pos (Or.inr (by omega))]
        · refine v_ild4 (pc := 125) hJ dX0_strainOfFirst_125 ?_
          refine v_if_le (tgt := 140) (pc := 127) hJ dX0_strainOfFirst_127 (by decide) (by omega) (fun h127 => ?_) (fun h127 => ?_)
          · refine v_ild4 (pc := 140) hJ dX0_strainOfFirst_140 ?_
            refine v_ist8 (pc := 142) hJ dX0_strainOfFirst_142 (by decide) ?_
            refine v_ild5 (pc := 144) hJ dX0_strainOfFirst_144 ?_
            refine v_ild6 (pc := 146) hJ dX0_strainOfFirst_146 ?_
            refine v_isub (pc := 148) hJ dX0_strainOfFirst_148 ?_
            refine v_iconst (pc := 149) hJ dX0_strainOfFirst_149 ?_
            refine v_icmp_gt (tgt := 159) (pc := 150) hJ dX0_strainOfFirst_150 (by decide) (by omega) (by omega) (fun h150 => ?_) (fun h150 => ?_)
            · refine v_iconst (pc := 159) hJ dX0_strainOfFirst_159 ?_
              refine v_iret (pc := 160) hJ dX0_strainOfFirst_160 ⟨_, rfl, ?_⟩
              have en : n = s := by omega
              subst en
              obtain ⟨i1, i2, i3, i4⟩ := hi
              obtain ⟨b1, b2, b3, b4⟩ := st_b g g 0 (lsN g n) n
              have b5 := atl_fin g (lsN g n) n
              refine ⟨?_, rfl⟩
              have hfg : fgN g n = finN g n := by
                unfold fgN
                rw [if_neg (by omega)]
              unfold soN
              rw [if_pos (Or.inl (by omega))]
            · refine v_ild8 (pc := 153) hJ dX0_strainOfFirst_153 ?_
              refine v_iconst (pc := 155) hJ dX0_strainOfFirst_155 ?_
              refine v_icmp_le (tgt := 161) (pc := 156) hJ dX0_strainOfFirst_156 (by decide) (by omega) (by omega) (fun h156 => ?_) (fun h156 => ?_)
              · refine v_iconst (pc := 161) hJ dX0_strainOfFirst_161 ?_
                refine v_ild8 (pc := 162) hJ dX0_strainOfFirst_162 ?_
                refine v_imul (pc := 164) hJ dX0_strainOfFirst_164 ?_
                refine v_ild5 (pc := 165) hJ dX0_strainOfFirst_165 ?_
                refine v_iadd (pc := 167) hJ dX0_strainOfFirst_167 ?_
                refine v_iconst (pc := 168) hJ dX0_strainOfFirst_168 ?_
                refine v_ild2 (pc := 169) hJ dX0_strainOfFirst_169 ?_
                refine v_imul (pc := 170) hJ dX0_strainOfFirst_170 ?_
                refine v_iadd (pc := 171) hJ dX0_strainOfFirst_171 ?_
                refine v_iret (pc := 172) hJ dX0_strainOfFirst_172 ⟨_, rfl, ?_⟩
                have en : n = s := by omega
                subst en
                obtain ⟨i1, i2, i3, i4⟩ := hi
                obtain ⟨b1, b2, b3, b4⟩ := st_b g g 0 (lsN g n) n
                have b5 := atl_fin g (lsN g n) n
                refine ⟨?_, rfl⟩
                have hfg : fgN g n = finN g n := by
                  unfold fgN
                  rw [if_neg (by omega)]
                unfold soN st0
                rw [if_neg (by omega), hfg]
              · refine v_iconst (pc := 159) hJ dX0_strainOfFirst_159 ?_
                refine v_iret (pc := 160) hJ dX0_strainOfFirst_160 ⟨_, rfl, ?_⟩
                have en : n = s := by omega
                subst en
                obtain ⟨i1, i2, i3, i4⟩ := hi
                obtain ⟨b1, b2, b3, b4⟩ := st_b g g 0 (lsN g n) n
                have b5 := atl_fin g (lsN g n) n
                refine ⟨?_, rfl⟩
                have hfg : fgN g n = finN g n := by
                  unfold fgN
                  rw [if_neg (by omega)]
                unfold soN
                rw [if_pos (Or.inr (by omega))]
          · refine v_ild4 (pc := 130) hJ dX0_strainOfFirst_130 ?_
            refine v_ild7 (pc := 132) hJ dX0_strainOfFirst_132 ?_
            refine v_isub (pc := 134) hJ dX0_strainOfFirst_134 ?_
            refine v_iconst (pc := 135) hJ dX0_strainOfFirst_135 ?_
            refine v_iadd (pc := 136) hJ dX0_strainOfFirst_136 ?_
            refine v_goto (tgt := 142) (pc := 137) hJ dX0_strainOfFirst_137 (by decide) ?_
            refine v_ist8 (pc := 142) hJ dX0_strainOfFirst_142 (by decide) ?_
            refine v_ild5 (pc := 144) hJ dX0_strainOfFirst_144 ?_
            refine v_ild6 (pc := 146) hJ dX0_strainOfFirst_146 ?_
            refine v_isub (pc := 148) hJ dX0_strainOfFirst_148 ?_
            refine v_iconst (pc := 149) hJ dX0_strainOfFirst_149 ?_
            refine v_icmp_gt (tgt := 159) (pc := 150) hJ dX0_strainOfFirst_150 (by decide) (by omega) (by omega) (fun h150 => ?_) (fun h150 => ?_)
            · refine v_iconst (pc := 159) hJ dX0_strainOfFirst_159 ?_
              refine v_iret (pc := 160) hJ dX0_strainOfFirst_160 ⟨_, rfl, ?_⟩
              have en : n = s := by omega
              subst en
              obtain ⟨i1, i2, i3, i4⟩ := hi
              obtain ⟨b1, b2, b3, b4⟩ := st_b g g 0 (lsN g n) n
              have b5 := atl_fin g (lsN g n) n
              refine ⟨?_, rfl⟩
              have hfg : fgN g n = finN g n - atlN g (lsN g n) n + 1 := by
                unfold fgN
                have w : 1 ≤ atlN g (lsN g n) n := by rcases i1 with w | w; (exfalso; omega); rw [w.1]; exact w.2.2.2.2
                split <;> omega
              unfold soN
              rw [if_pos (Or.inl (by omega))]
            · refine v_ild8 (pc := 153) hJ dX0_strainOfFirst_153 ?_
              refine v_iconst (pc := 155) hJ dX0_strainOfFirst_155 ?_
              refine v_icmp_le (tgt := 161) (pc := 156) hJ dX0_strainOfFirst_156 (by decide) (by omega) (by omega) (fun h156 => ?_) (fun h156 => ?_)
              · refine v_iconst (pc := 161) hJ dX0_strainOfFirst_161 ?_
                refine v_ild8 (pc := 162) hJ dX0_strainOfFirst_162 ?_
                refine v_imul (pc := 164) hJ dX0_strainOfFirst_164 ?_
                refine v_ild5 (pc := 165) hJ dX0_strainOfFirst_165 ?_
                refine v_iadd (pc := 167) hJ dX0_strainOfFirst_167 ?_
                refine v_iconst (pc := 168) hJ dX0_strainOfFirst_168 ?_
                refine v_ild2 (pc := 169) hJ dX0_strainOfFirst_169 ?_
                refine v_imul (pc := 170) hJ dX0_strainOfFirst_170 ?_
                refine v_iadd (pc := 171) hJ dX0_strainOfFirst_171 ?_
                refine v_iret (pc := 172) hJ dX0_strainOfFirst_172 ⟨_, rfl, ?_⟩
                have en : n = s := by omega
                subst en
                obtain ⟨i1, i2, i3, i4⟩ := hi
                obtain ⟨b1, b2, b3, b4⟩ := st_b g g 0 (lsN g n) n
                have b5 := atl_fin g (lsN g n) n
                refine ⟨?_, rfl⟩
                have hfg : fgN g n = finN g n - atlN g (lsN g n) n + 1 := by
                  unfold fgN
                  have w : 1 ≤ atlN g (lsN g n) n := by rcases i1 with w | w; (exfalso; omega); rw [w.1]; exact w.2.2.2.2
                  split <;> omega
                unfold soN st0
                rw [if_neg (by omega), hfg]
              · refine v_iconst (pc := 159) hJ dX0_strainOfFirst_159 ?_
                refine v_iret (pc := 160) hJ dX0_strainOfFirst_160 ⟨_, rfl, ?_⟩
                have en : n = s := by omega
                subst en
                obtain ⟨i1, i2, i3, i4⟩ := hi
                obtain ⟨b1, b2, b3, b4⟩ := st_b g g 0 (lsN g n) n
                have b5 := atl_fin g (lsN g n) n
                refine ⟨?_, rfl⟩
                have hfg : fgN g n = finN g n - atlN g (lsN g n) n + 1 := by
                  unfold fgN
                  have w : 1 ≤ atlN g (lsN g n) n := by rcases i1 with w | w; (exfalso; omega); rw [w.1]; exact w.2.2.2.2
                  split <;> omega
                unfold soN
                rw [if_pos (Or.inr (by omega))]
      · refine v_ild8 (pc := 26) hJ dX0_strainOfFirst_26 ?_
        refine v_bipush (pc := 28) hJ dX0_strainOfFirst_28 (by decide) ?_
        refine v_icmp_ge (tgt := 121) (pc := 30) hJ dX0_strainOfFirst_30 (by decide) (by omega) (by omega) (fun h30 => ?_) (fun h30 => ?_)
        · exfalso; omega
        · refine v_ald0 (pc := 33) hJ dX0_strainOfFirst_33 ?_
          refine cgX0_18 (pc := 34) hJ dX0_strainOfFirst_34 ?_
          refine v_ild8 (pc := 37) hJ dX0_strainOfFirst_37 ?_
          refine ca124 (pc := 39) hJ (by omega) (by omega) dX0_strainOfFirst_39 ?_
          rw [← hge]
          refine v_ist9 (pc := 40) hJ dX0_strainOfFirst_40 (by decide) ?_
          have hgs0 := hg s (by omega)
          obtain ⟨j1, j2, j3, j4⟩ := id hi
          refine v_ild9 (pc := 42) hJ dX0_strainOfFirst_42 ?_
          refine v_iconst (pc := 44) hJ dX0_strainOfFirst_44 ?_
          refine v_icmp_ne (tgt := 54) (pc := 45) hJ dX0_strainOfFirst_45 (by decide) (by omega) (by omega) (fun h45 => ?_) (fun h45 => ?_)
          · refine v_ild9 (pc := 54) hJ dX0_strainOfFirst_54 ?_
            refine v_if_ne (tgt := 65) (pc := 56) hJ dX0_strainOfFirst_56 (by decide) (by omega) (fun h56 => ?_) (fun h56 => ?_)
            · refine v_inc4 (pc := 65) hJ dX0_strainOfFirst_65 (by decide) ?_
              refine v_ild9 (pc := 68) hJ dX0_strainOfFirst_68 ?_
              refine v_ild5 (pc := 70) hJ dX0_strainOfFirst_70 ?_
              refine v_icmp_le (tgt := 80) (pc := 72) hJ dX0_strainOfFirst_72 (by decide) (by omega) (by omega) (fun h72 => ?_) (fun h72 => ?_)
              · refine v_ild5 (pc := 80) hJ dX0_strainOfFirst_80 ?_
                refine v_ist5 (pc := 82) hJ dX0_strainOfFirst_82 (by decide) ?_
                refine v_ild9 (pc := 84) hJ dX0_strainOfFirst_84 ?_
                refine v_ild6 (pc := 86) hJ dX0_strainOfFirst_86 ?_
                refine v_icmp_ge (tgt := 98) (pc := 88) hJ dX0_strainOfFirst_88 (by decide) (by omega) (by omega) (fun h88 => ?_) (fun h88 => ?_)
                · refine v_ild7 (pc := 98) hJ dX0_strainOfFirst_98 ?_
                  refine v_ild9 (pc := 100) hJ dX0_strainOfFirst_100 ?_
                  refine v_ild6 (pc := 102) hJ dX0_strainOfFirst_102 ?_
                  refine v_icmp_ne (tgt := 111) (pc := 104) hJ dX0_strainOfFirst_104 (by decide) (by omega) (by omega) (fun h104 => ?_) (fun h104 => ?_)
                  · refine v_iconst (pc := 111) hJ dX0_strainOfFirst_111 ?_
                    refine v_iadd (pc := 112) hJ dX0_strainOfFirst_112 ?_
                    refine v_ist7 (pc := 113) hJ dX0_strainOfFirst_113 (by decide) ?_
                    refine v_inc8 (pc := 115) hJ dX0_strainOfFirst_115 (by decide) ?_
                    refine v_goto (tgt := 20) (pc := 118) hJ dX0_strainOfFirst_118 (by decide) ?_
                    have hgs := hg s (by omega)
                    obtain ⟨i1, i2, i3, i4⟩ := hi
                    obtain ⟨b1, b2, b3, b4⟩ := st_b g g 0 (lsN g s) s
                    have b5 := atl_fin g (lsN g s) s
                    have e1 : 0 < g s := by omega
                    have es : silN g (s + 1) = silN g s := by rw [silN, if_neg (by omega)]
                    have eo : opnN g (s + 1) = opnN g s := by
                      rw [opnN, if_neg (by omega)]
                      rcases b4 with o | o
                      · rw [o, if_neg (by omega)]
                      · rw [o, if_pos (by omega)]
                    have ef : finN g (s + 1) = finN g s + 1 := by rw [finN, if_neg (by omega), if_pos e1]
                    have em : msN g (s + 1) = msN g s := by rw [msN]; unfold msF; rw [if_neg (by omega)]
                    have el : lsN g (s + 1) = lsN g s := by rw [lsN]; unfold lsF; rw [if_neg (by omega)]
                    have ea : atlN g (lsN g s) (s + 1) = atlN g (lsN g s) s + 0 := by rw [atlN, if_neg (by omega), if_neg (by omega)]
                    have hn2 := ih (s + 1) lc oc (some (.int (iZ (g s)))) (by omega) ⟨by
                      rcases i1 with w | w
                      · exfalso; omega
                      · have w1 := w.1
                        rw [w1] at ea
                        rw [el, ef]
                        refine Or.inr ⟨w1, w.2.1, w.2.2.1, by omega, by omega⟩, by rw [eo]; exact i2, by omega, by rw [em]; omega⟩ (by omega)
                    rw [es, ef, el, em, ea, show ((s + 1 : Nat) : Int) = (s : Int) + 1 by omega] at hn2
                    exact hn2
                  · refine v_iconst (pc := 107) hJ dX0_strainOfFirst_107 ?_
                    refine v_goto (tgt := 112) (pc := 108) hJ dX0_strainOfFirst_108 (by decide) ?_
                    refine v_iadd (pc := 112) hJ dX0_strainOfFirst_112 ?_
                    refine v_ist7 (pc := 113) hJ dX0_strainOfFirst_113 (by decide) ?_
                    refine v_inc8 (pc := 115) hJ dX0_strainOfFirst_115 (by decide) ?_
                    refine v_goto (tgt := 20) (pc := 118) hJ dX0_strainOfFirst_118 (by decide) ?_
                    have hgs := hg s (by omega)
                    obtain ⟨i1, i2, i3, i4⟩ := hi
                    obtain ⟨b1, b2, b3, b4⟩ := st_b g g 0 (lsN g s) s
                    have b5 := atl_fin g (lsN g s) s
                    have e1 : 0 < g s := by omega
                    have es : silN g (s + 1) = silN g s := by rw [silN, if_neg (by omega)]
                    have eo : opnN g (s + 1) = opnN g s := by
                      rw [opnN, if_neg (by omega)]
                      rcases b4 with o | o
                      · rw [o, if_neg (by omega)]
                      · rw [o, if_pos (by omega)]
                    have ef : finN g (s + 1) = finN g s + 1 := by rw [finN, if_neg (by omega), if_pos e1]
                    have em : msN g (s + 1) = msN g s := by rw [msN]; unfold msF; rw [if_neg (by omega)]
                    have el : lsN g (s + 1) = lc := by rw [lsN]; unfold lsF; split <;> omega
                    have eb : atlN g (lsN g s) s = atlN g lc s := by
                      rcases i1 with w | w
                      · rw [atl_lt s (show lc < lsN g s by omega)]; omega
                      · rw [w.1]
                    have ea : atlN g lc (s + 1) = atlN g (lsN g s) s + 1 := by rw [atlN, if_neg (by omega), if_pos ⟨e1, by omega⟩, eb]
                    have hn2 := ih (s + 1) lc oc (some (.int (iZ (g s)))) (by omega) ⟨by rw [el, ef, ea]; omega, by rw [eo]; exact i2, by omega, by rw [em]; omega⟩ (by omega)
                    rw [es, ef, el, em, ea, show ((s + 1 : Nat) : Int) = (s : Int) + 1 by omega] at hn2
                    exact hn2
                · refine v_ild9 (pc := 91) hJ dX0_strainOfFirst_91 ?_
                  refine v_ist6 (pc := 93) hJ dX0_strainOfFirst_93 (by decide) ?_
                  refine v_iconst (pc := 95) hJ dX0_strainOfFirst_95 ?_
                  refine v_ist7 (pc := 96) hJ dX0_strainOfFirst_96 (by decide) ?_
                  refine v_ild7 (pc := 98) hJ dX0_strainOfFirst_98 ?_
                  refine v_ild9 (pc := 100) hJ dX0_strainOfFirst_100 ?_
                  refine v_ild6 (pc := 102) hJ dX0_strainOfFirst_102 ?_
                  refine v_icmp_ne (tgt := 111) (pc := 104) hJ dX0_strainOfFirst_104 (by decide) (by omega) (by omega) (fun h104 => ?_) (fun h104 => ?_)
                  · exact absurd rfl h104
                  · refine v_iconst (pc := 107) hJ dX0_strainOfFirst_107 ?_
                    refine v_goto (tgt := 112) (pc := 108) hJ dX0_strainOfFirst_108 (by decide) ?_
                    refine v_iadd (pc := 112) hJ dX0_strainOfFirst_112 ?_
                    refine v_ist7 (pc := 113) hJ dX0_strainOfFirst_113 (by decide) ?_
                    refine v_inc8 (pc := 115) hJ dX0_strainOfFirst_115 (by decide) ?_
                    refine v_goto (tgt := 20) (pc := 118) hJ dX0_strainOfFirst_118 (by decide) ?_
                    have hgs := hg s (by omega)
                    obtain ⟨i1, i2, i3, i4⟩ := hi
                    obtain ⟨b1, b2, b3, b4⟩ := st_b g g 0 (lsN g s) s
                    have b5 := atl_fin g (lsN g s) s
                    have e1 : 0 < g s := by omega
                    have es : silN g (s + 1) = silN g s := by rw [silN, if_neg (by omega)]
                    have eo : opnN g (s + 1) = opnN g s := by
                      rw [opnN, if_neg (by omega)]
                      rcases b4 with o | o
                      · rw [o, if_neg (by omega)]
                      · rw [o, if_pos (by omega)]
                    have ef : finN g (s + 1) = finN g s + 1 := by rw [finN, if_neg (by omega), if_pos e1]
                    have em : msN g (s + 1) = msN g s := by rw [msN]; unfold msF; rw [if_neg (by omega)]
                    have el : lsN g (s + 1) = g s := by rw [lsN]; unfold lsF; rw [if_pos (by omega)]
                    have ez : atlN g (g s) s = 0 := atl_lt s (by omega)
                    have ea : atlN g (g s) (s + 1) = 0 + 1 := by rw [atlN, if_neg (by omega), if_pos ⟨e1, rfl⟩, ez]
                    have hn2 := ih (s + 1) (g s) oc (some (.int (iZ (g s)))) (by omega) ⟨by rw [el, ef, ea]; omega, by rw [eo]; exact i2, by omega, by rw [em]; omega⟩ (by omega)
                    rw [es, ef, el, em, ea, show ((s + 1 : Nat) : Int) = (s : Int) + 1 by omega] at hn2
                    exact hn2
              · refine v_ild9 (pc := 75) hJ dX0_strainOfFirst_75 ?_
                refine v_goto (tgt := 82) (pc := 77) hJ dX0_strainOfFirst_77 (by decide) ?_
                refine v_ist5 (pc := 82) hJ dX0_strainOfFirst_82 (by decide) ?_
                refine v_ild9 (pc := 84) hJ dX0_strainOfFirst_84 ?_
                refine v_ild6 (pc := 86) hJ dX0_strainOfFirst_86 ?_
                refine v_icmp_ge (tgt := 98) (pc := 88) hJ dX0_strainOfFirst_88 (by decide) (by omega) (by omega) (fun h88 => ?_) (fun h88 => ?_)
                · refine v_ild7 (pc := 98) hJ dX0_strainOfFirst_98 ?_
                  refine v_ild9 (pc := 100) hJ dX0_strainOfFirst_100 ?_
                  refine v_ild6 (pc := 102) hJ dX0_strainOfFirst_102 ?_
                  refine v_icmp_ne (tgt := 111) (pc := 104) hJ dX0_strainOfFirst_104 (by decide) (by omega) (by omega) (fun h104 => ?_) (fun h104 => ?_)
                  · refine v_iconst (pc := 111) hJ dX0_strainOfFirst_111 ?_
                    refine v_iadd (pc := 112) hJ dX0_strainOfFirst_112 ?_
                    refine v_ist7 (pc := 113) hJ dX0_strainOfFirst_113 (by decide) ?_
                    refine v_inc8 (pc := 115) hJ dX0_strainOfFirst_115 (by decide) ?_
                    refine v_goto (tgt := 20) (pc := 118) hJ dX0_strainOfFirst_118 (by decide) ?_
                    have hgs := hg s (by omega)
                    obtain ⟨i1, i2, i3, i4⟩ := hi
                    obtain ⟨b1, b2, b3, b4⟩ := st_b g g 0 (lsN g s) s
                    have b5 := atl_fin g (lsN g s) s
                    have e1 : 0 < g s := by omega
                    have es : silN g (s + 1) = silN g s := by rw [silN, if_neg (by omega)]
                    have eo : opnN g (s + 1) = opnN g s := by
                      rw [opnN, if_neg (by omega)]
                      rcases b4 with o | o
                      · rw [o, if_neg (by omega)]
                      · rw [o, if_pos (by omega)]
                    have ef : finN g (s + 1) = finN g s + 1 := by rw [finN, if_neg (by omega), if_pos e1]
                    have em : msN g (s + 1) = g s := by rw [msN]; unfold msF; rw [if_pos (by omega)]
                    have el : lsN g (s + 1) = lsN g s := by rw [lsN]; unfold lsF; rw [if_neg (by omega)]
                    have ea : atlN g (lsN g s) (s + 1) = atlN g (lsN g s) s + 0 := by rw [atlN, if_neg (by omega), if_neg (by omega)]
                    have hn2 := ih (s + 1) lc oc (some (.int (iZ (g s)))) (by omega) ⟨by
                      rcases i1 with w | w
                      · exfalso; omega
                      · have w1 := w.1
                        rw [w1] at ea
                        rw [el, ef]
                        refine Or.inr ⟨w1, w.2.1, w.2.2.1, by omega, by omega⟩, by rw [eo]; exact i2, by omega, by rw [em]; omega⟩ (by omega)
                    rw [es, ef, el, em, ea, show ((s + 1 : Nat) : Int) = (s : Int) + 1 by omega] at hn2
                    exact hn2
                  · refine v_iconst (pc := 107) hJ dX0_strainOfFirst_107 ?_
                    refine v_goto (tgt := 112) (pc := 108) hJ dX0_strainOfFirst_108 (by decide) ?_
                    refine v_iadd (pc := 112) hJ dX0_strainOfFirst_112 ?_
                    refine v_ist7 (pc := 113) hJ dX0_strainOfFirst_113 (by decide) ?_
                    refine v_inc8 (pc := 115) hJ dX0_strainOfFirst_115 (by decide) ?_
                    refine v_goto (tgt := 20) (pc := 118) hJ dX0_strainOfFirst_118 (by decide) ?_
                    have hgs := hg s (by omega)
                    obtain ⟨i1, i2, i3, i4⟩ := hi
                    obtain ⟨b1, b2, b3, b4⟩ := st_b g g 0 (lsN g s) s
                    have b5 := atl_fin g (lsN g s) s
                    have e1 : 0 < g s := by omega
                    have es : silN g (s + 1) = silN g s := by rw [silN, if_neg (by omega)]
                    have eo : opnN g (s + 1) = opnN g s := by
                      rw [opnN, if_neg (by omega)]
                      rcases b4 with o | o
                      · rw [o, if_neg (by omega)]
                      · rw [o, if_pos (by omega)]
                    have ef : finN g (s + 1) = finN g s + 1 := by rw [finN, if_neg (by omega), if_pos e1]
                    have em : msN g (s + 1) = g s := by rw [msN]; unfold msF; rw [if_pos (by omega)]
                    have el : lsN g (s + 1) = lc := by rw [lsN]; unfold lsF; split <;> omega
                    have eb : atlN g (lsN g s) s = atlN g lc s := by
                      rcases i1 with w | w
                      · rw [atl_lt s (show lc < lsN g s by omega)]; omega
                      · rw [w.1]
                    have ea : atlN g lc (s + 1) = atlN g (lsN g s) s + 1 := by rw [atlN, if_neg (by omega), if_pos ⟨e1, by omega⟩, eb]
                    have hn2 := ih (s + 1) lc oc (some (.int (iZ (g s)))) (by omega) ⟨by rw [el, ef, ea]; omega, by rw [eo]; exact i2, by omega, by rw [em]; omega⟩ (by omega)
                    rw [es, ef, el, em, ea, show ((s + 1 : Nat) : Int) = (s : Int) + 1 by omega] at hn2
                    exact hn2
                · refine v_ild9 (pc := 91) hJ dX0_strainOfFirst_91 ?_
                  refine v_ist6 (pc := 93) hJ dX0_strainOfFirst_93 (by decide) ?_
                  refine v_iconst (pc := 95) hJ dX0_strainOfFirst_95 ?_
                  refine v_ist7 (pc := 96) hJ dX0_strainOfFirst_96 (by decide) ?_
                  refine v_ild7 (pc := 98) hJ dX0_strainOfFirst_98 ?_
                  refine v_ild9 (pc := 100) hJ dX0_strainOfFirst_100 ?_
                  refine v_ild6 (pc := 102) hJ dX0_strainOfFirst_102 ?_
                  refine v_icmp_ne (tgt := 111) (pc := 104) hJ dX0_strainOfFirst_104 (by decide) (by omega) (by omega) (fun h104 => ?_) (fun h104 => ?_)
                  · exact absurd rfl h104
                  · refine v_iconst (pc := 107) hJ dX0_strainOfFirst_107 ?_
                    refine v_goto (tgt := 112) (pc := 108) hJ dX0_strainOfFirst_108 (by decide) ?_
                    refine v_iadd (pc := 112) hJ dX0_strainOfFirst_112 ?_
                    refine v_ist7 (pc := 113) hJ dX0_strainOfFirst_113 (by decide) ?_
                    refine v_inc8 (pc := 115) hJ dX0_strainOfFirst_115 (by decide) ?_
                    refine v_goto (tgt := 20) (pc := 118) hJ dX0_strainOfFirst_118 (by decide) ?_
                    have hgs := hg s (by omega)
                    obtain ⟨i1, i2, i3, i4⟩ := hi
                    obtain ⟨b1, b2, b3, b4⟩ := st_b g g 0 (lsN g s) s
                    have b5 := atl_fin g (lsN g s) s
                    have e1 : 0 < g s := by omega
                    have es : silN g (s + 1) = silN g s := by rw [silN, if_neg (by omega)]
                    have eo : opnN g (s + 1) = opnN g s := by
                      rw [opnN, if_neg (by omega)]
                      rcases b4 with o | o
                      · rw [o, if_neg (by omega)]
                      · rw [o, if_pos (by omega)]
                    have ef : finN g (s + 1) = finN g s + 1 := by rw [finN, if_neg (by omega), if_pos e1]
                    have em : msN g (s + 1) = g s := by rw [msN]; unfold msF; rw [if_pos (by omega)]
                    have el : lsN g (s + 1) = g s := by rw [lsN]; unfold lsF; rw [if_pos (by omega)]
                    have ez : atlN g (g s) s = 0 := atl_lt s (by omega)
                    have ea : atlN g (g s) (s + 1) = 0 + 1 := by rw [atlN, if_neg (by omega), if_pos ⟨e1, rfl⟩, ez]
                    have hn2 := ih (s + 1) (g s) oc (some (.int (iZ (g s)))) (by omega) ⟨by rw [el, ef, ea]; omega, by rw [eo]; exact i2, by omega, by rw [em]; omega⟩ (by omega)
                    rw [es, ef, el, em, ea, show ((s + 1 : Nat) : Int) = (s : Int) + 1 by omega] at hn2
                    exact hn2
            · refine v_inc3 (pc := 59) hJ dX0_strainOfFirst_59 (by decide) ?_
              refine v_goto (tgt := 115) (pc := 62) hJ dX0_strainOfFirst_62 (by decide) ?_
              refine v_inc8 (pc := 115) hJ dX0_strainOfFirst_115 (by decide) ?_
              refine v_goto (tgt := 20) (pc := 118) hJ dX0_strainOfFirst_118 (by decide) ?_
              have hgs := hg s (by omega)
              obtain ⟨i1, i2, i3, i4⟩ := hi
              obtain ⟨b1, b2, b3, b4⟩ := st_b g g 0 (lsN g s) s
              have b5 := atl_fin g (lsN g s) s
              have e0 : g s = 0 := by omega
              have es : silN g (s + 1) = silN g s := by rw [silN, if_neg (by omega)]
              have eo : opnN g (s + 1) = 1 := by rw [opnN, if_neg (by omega), if_pos (Or.inr e0)]
              have ef : finN g (s + 1) = finN g s := by rw [finN, if_neg (by omega), if_neg (by omega)]; omega
              have el : lsN g (s + 1) = lsN g s := by rw [lsN]; unfold lsF; rw [if_neg (by omega)]
              have em : msN g (s + 1) = msN g s := by rw [msN]; unfold msF; rw [if_neg (by omega)]
              have ea : ∀ l, atlN g l (s + 1) = atlN g l s := fun l => by rw [atlN, if_neg (by omega), if_neg (by omega)]; omega
              have hn2 := ih (s + 1) lc (oc + 1) (some (.int (iZ (g s)))) (by omega) ⟨by rw [el, ef, ea]; exact i1, by rw [eo]; omega, by omega, by rw [em]; exact i4⟩ (by omega)
              rw [es, ef, el, em, ea, show ((s + 1 : Nat) : Int) = (s : Int) + 1 by omega] at hn2
              exact hn2
          · refine v_inc2 (pc := 48) hJ dX0_strainOfFirst_48 (by decide) ?_
            refine v_goto (tgt := 115) (pc := 51) hJ dX0_strainOfFirst_51 (by decide) ?_
            refine v_inc8 (pc := 115) hJ dX0_strainOfFirst_115 (by decide) ?_
            refine v_goto (tgt := 20) (pc := 118) hJ dX0_strainOfFirst_118 (by decide) ?_
            have hgs := hg s (by omega)
            obtain ⟨i1, i2, i3, i4⟩ := hi
            obtain ⟨b1, b2, b3, b4⟩ := st_b g g 0 (lsN g s) s
            have b5 := atl_fin g (lsN g s) s
            have e0 : g s = -1 := by omega
            have es : silN g (s + 1) = silN g s + 1 := by rw [silN, if_pos e0]
            have eo : opnN g (s + 1) = opnN g s := by rw [opnN, if_pos e0]
            have ef : finN g (s + 1) = finN g s := by rw [finN, if_pos e0]
            have el : lsN g (s + 1) = lsN g s := by rw [lsN]; unfold lsF; rw [if_neg (by omega)]
            have em : msN g (s + 1) = msN g s := by rw [msN]; unfold msF; rw [if_neg (by omega)]
            have ea : ∀ l, atlN g l (s + 1) = atlN g l s := fun l => by rw [atlN, if_pos e0]
            have hn2 := ih (s + 1) lc oc (some (.int (iZ (g s)))) (by omega) ⟨by rw [el, ef, ea]; exact i1, by rw [eo]; exact i2, by omega, by rw [em]; exact i4⟩ (by omega)
            rw [es, ef, el, em, ea, show ((s + 1 : Nat) : Int) = (s : Int) + 1 by omega] at hn2
            exact hn2
  show J 0 [some (.ref (ad 139)), some (.int (iZ (n : Int))), none, none, none, none, none, none, none, none] [] (ad, I, A)
  refine v_iconst (pc := 0) hJ dX0_strainOfFirst_0 ?_
  refine v_ist2 (pc := 1) hJ dX0_strainOfFirst_1 (by decide) ?_
  refine v_iconst (pc := 2) hJ dX0_strainOfFirst_2 ?_
  refine v_ist3 (pc := 3) hJ dX0_strainOfFirst_3 (by decide) ?_
  refine v_iconst (pc := 4) hJ dX0_strainOfFirst_4 ?_
  refine v_ist4 (pc := 5) hJ dX0_strainOfFirst_5 (by decide) ?_
  refine v_iconst (pc := 7) hJ dX0_strainOfFirst_7 ?_
  refine v_ist5 (pc := 8) hJ dX0_strainOfFirst_8 (by decide) ?_
  refine v_bipush (pc := 10) hJ dX0_strainOfFirst_10 (by decide) ?_
  refine v_ist6 (pc := 12) hJ dX0_strainOfFirst_12 (by decide) ?_
  refine v_iconst (pc := 14) hJ dX0_strainOfFirst_14 ?_
  refine v_ist7 (pc := 15) hJ dX0_strainOfFirst_15 (by decide) ?_
  refine v_iconst (pc := 17) hJ dX0_strainOfFirst_17 ?_
  refine v_ist8 (pc := 18) hJ dX0_strainOfFirst_18 (by decide) ?_
  exact lp 8 0 9 0 none (by omega) ⟨Or.inl ⟨rfl, rfl, rfl⟩, ⟨fun _ => rfl, fun _ => rfl⟩, by decide, ⟨Int.le_refl 0, by show (0 : Int) ≤ 9; decide⟩⟩ (by omega)
set_option maxHeartbeats 4000000 in
set_option maxRecDepth 100000 in
theorem qX0_soundingOfFirst {l : Launch} {D : va_G} {cI : ClassId} {O : OT} {adK adV : Nat → Nat} {tT : Nat} (hO : OGC O adK adV tT) {ad : Nat → Nat} {I : Nat → Int} {A : Nat → Int → Int} {n : Nat} (hn : (n : Int) ≤ I 121) (hN : cokN I A) (hb : 0 ≤ I 125 ∧ I 125 ≤ 7) (hg : frN A n) : CC l D cI O yX0_soundingOfFirst cX0_soundingOfFirst 4 (some .int) 2 [.ref (ad 139), .int (iZ (n : Int))] (ad, I, A) (pI fun r u2 => r = sndN (A 124) (A 120) (I 125) n ∧ u2 = (ad, I, A)) := by
  refine ct_intro (own := RX0) (by decide) rfl hO.1.1 (Nat.le_of_ble_eq_true rfl) (by simp [Value.category]) (fun X J hJ => ?_)
  obtain ⟨⟨n1, n2⟩, n3⟩ := id hN
  have lp : ∀ (fu : Nat) (s : Nat), (s ≤ n) → (7 - (s : Int)) < (fu : Int) → J 4 [some (.ref (ad 139)), some (.int (iZ (n : Int))), some (.int (iZ (sndN (A 124) (A 120) (I 125) s))), some (.int (iZ (s : Int)))] [] (ad, I, A) := by
    intro fu
    induction fu with
    | zero => intro s hs hmu; exfalso; omega
    | succ fu ih =>
      intro s hs hmu
      refine v_ild3 (pc := 4) hJ dX0_soundingOfFirst_4 ?_
      refine v_ild1 (pc := 5) hJ dX0_soundingOfFirst_5 ?_
      refine v_icmp_ge (tgt := 47) (pc := 6) hJ dX0_soundingOfFirst_6 (by decide) (by omega) (by omega) (fun h6 => ?_) (fun h6 => ?_)
      · refine v_ild2 (pc := 47) hJ dX0_soundingOfFirst_47 ?_
        refine v_iret (pc := 48) hJ dX0_soundingOfFirst_48 ⟨_, rfl, ?_⟩
        have en : n = s := by omega
        subst en
        exact ⟨rfl, rfl⟩
      · refine v_ild3 (pc := 9) hJ dX0_soundingOfFirst_9 ?_
        refine v_bipush (pc := 10) hJ dX0_soundingOfFirst_10 (by decide) ?_
        refine v_icmp_ge (tgt := 47) (pc := 12) hJ dX0_soundingOfFirst_12 (by decide) (by omega) (by omega) (fun h12 => ?_) (fun h12 => ?_)
        · exfalso; omega
        · have hgs := hg s (by omega)
          have hps := n3 s (by omega) (by omega)
          refine v_ald0 (pc := 15) hJ dX0_soundingOfFirst_15 ?_
          refine cgX0_18 (pc := 16) hJ dX0_soundingOfFirst_16 ?_
          refine v_ild3 (pc := 19) hJ dX0_soundingOfFirst_19 ?_
          refine ca124 (pc := 20) hJ (by omega) (by omega) dX0_soundingOfFirst_20 ?_
          refine v_iconst (pc := 21) hJ dX0_soundingOfFirst_21 ?_
          refine v_icmp_eq (tgt := 41) (pc := 22) hJ dX0_soundingOfFirst_22 (by decide) (by omega) (by omega) (fun h22 => ?_) (fun h22 => ?_)
          · refine v_inc3 (pc := 41) hJ dX0_soundingOfFirst_41 (by decide) ?_
            refine v_goto (tgt := 4) (pc := 44) hJ dX0_soundingOfFirst_44 (by decide) ?_
            have hn2 := ih (s + 1) (by omega) (by omega)
            rw [sndN, if_pos h22, show ((s + 1 : Nat) : Int) = (s : Int) + 1 by omega] at hn2
            exact hn2
          · refine v_ild2 (pc := 25) hJ dX0_soundingOfFirst_25 ?_
            refine v_iconst (pc := 26) hJ dX0_soundingOfFirst_26 ?_
            refine v_ald0 (pc := 27) hJ dX0_soundingOfFirst_27 ?_
            refine v_ild3 (pc := 28) hJ dX0_soundingOfFirst_28 ?_
            refine v_ald0 (pc := 29) hJ dX0_soundingOfFirst_29 ?_
            refine cgX0_18 (pc := 30) hJ dX0_soundingOfFirst_30 ?_
            refine v_ild3 (pc := 33) hJ dX0_soundingOfFirst_33 ?_
            refine ca124 (pc := 34) hJ (by omega) (by omega) dX0_soundingOfFirst_34 ?_
            refine v_cV2i (pc := 35) (q0 := 19) (ci := 0) hJ rfl rfl lkX0_78 (qX0_toneAt hO (by omega) hps hb (by omega)) (Nat.le_of_ble_eq_true rfl) (rOk_L (by decide) (by decide)) dX0_soundingOfFirst_35 (fun r35 u35 g35 => ?_)
            obtain ⟨rfl, rfl⟩ := g35
            refine v_ishl (pc := 38) hJ dX0_soundingOfFirst_38 ?_
            refine v_ior (pc := 39) hJ dX0_soundingOfFirst_39 ?_
            refine v_ist2 (pc := 40) hJ dX0_soundingOfFirst_40 (by decide) ?_
            refine v_inc3 (pc := 41) hJ dX0_soundingOfFirst_41 (by decide) ?_
            refine v_goto (tgt := 4) (pc := 44) hJ dX0_soundingOfFirst_44 (by decide) ?_
            have hn2 := ih (s + 1) (by omega) (by omega)
            rw [sndN, if_neg h22, show ((s + 1 : Nat) : Int) = (s : Int) + 1 by omega] at hn2
            exact hn2
  show J 0 [some (.ref (ad 139)), some (.int (iZ (n : Int))), none, none] [] (ad, I, A)
  refine v_iconst (pc := 0) hJ dX0_soundingOfFirst_0 ?_
  refine v_ist2 (pc := 1) hJ dX0_soundingOfFirst_1 (by decide) ?_
  refine v_iconst (pc := 2) hJ dX0_soundingOfFirst_2 ?_
  refine v_ist3 (pc := 3) hJ dX0_soundingOfFirst_3 (by decide) ?_
  exact lp 8 0 (by omega) (by omega)
set_option maxHeartbeats 4000000 in
set_option maxRecDepth 100000 in
theorem qX0_leastIsBass {l : Launch} {D : va_G} {cI : ClassId} {O : OT} {adK adV : Nat → Nat} {tT : Nat} (hO : OGC O adK adV tT) {ad : Nat → Nat} {I : Nat → Int} {A : Nat → Int → Int}  (hN : cokN I A) (hb : 0 ≤ I 125 ∧ I 125 ≤ 7) (hg : frN A (I 121)) (h128 : inR (I 128)) : CC l D cI O yX0_leastIsBass cX0_leastIsBass 4 (some .boolean) 1 [.ref (ad 139)] (ad, I, A) (pI fun r u2 => (r = 0 ∨ r = 1) ∧ (r = 1 ↔ ¬ (lowN (A 124) (A 120) (I 125) (I 121).toNat = 1000000000 ∨ (lowN (A 124) (A 120) (I 125) (I 121).toNat).tmod 12 ≠ I 128)) ∧ u2 = (ad, I, A)) := by
  refine ct_intro (own := RX0) (by decide) rfl hO.1.1 (Nat.le_of_ble_eq_true rfl) (by simp [Value.category]) (fun X J hJ => ?_)
  obtain ⟨⟨n1, n2⟩, n3⟩ := id hN
  obtain ⟨N, hNe⟩ : ∃ z : Nat, z = (I 121).toNat := ⟨_, rfl⟩
  rw [← hNe] at hJ
  have lp : ∀ (fu : Nat) (s : Nat) (L : Int) (a3 : Option Value), (s ≤ N) → ((L = -1 ∧ lowN (A 124) (A 120) (I 125) s = 1000000000) ∨ (L = lowN (A 124) (A 120) (I 125) s ∧ 0 ≤ L ∧ L ≤ 100)) → (7 - (s : Int)) < (fu : Int) → J 4 [some (.ref (ad 139)), some (.int (iZ L)), some (.int (iZ (s : Int))), a3] [] (ad, I, A) := by
    intro fu
    induction fu with
    | zero => intro s  L  a3 hs hL hmu; exfalso; omega
    | succ fu ih =>
      intro s  L  a3 hs hL hmu
      refine v_ild2 (pc := 4) hJ dX0_leastIsBass_4 ?_
      refine v_ald0 (pc := 5) hJ dX0_leastIsBass_5 ?_
      refine cgX0_59 (pc := 6) hJ dX0_leastIsBass_6 ?_
      refine v_icmp_ge (tgt := 65) (pc := 9) hJ dX0_leastIsBass_9 (by decide) (by omega) (by omega) (fun h9 => ?_) (fun h9 => ?_)
      · have en : N = s := by omega
        subst en
        refine v_ild1 (pc := 65) hJ dX0_leastIsBass_65 ?_
        refine v_iconst (pc := 66) hJ dX0_leastIsBass_66 ?_
        refine v_icmp_eq (tgt := 85) (pc := 67) hJ dX0_leastIsBass_67 (by decide) (by omega) (by omega) (fun h67 => ?_) (fun h67 => ?_)
        · refine v_iconst (pc := 85) hJ dX0_leastIsBass_85 ?_
          refine v_zret (pc := 86) hJ rfl dX0_leastIsBass_86 ⟨_, rfl, ?_⟩
          exact ⟨by omega, ⟨fun q => absurd q (by decide), fun q => by exfalso; rcases hL with w | w; (exact q (Or.inl w.2)); (rw [← w.1] at q; omega)⟩, rfl⟩
        · refine v_ild1 (pc := 70) hJ dX0_leastIsBass_70 ?_
          refine v_bipush (pc := 71) hJ dX0_leastIsBass_71 (by decide) ?_
          refine v_irem (pc := 73) hJ dX0_leastIsBass_73 (by omega) (by omega) (by omega) ?_
          refine v_ald0 (pc := 74) hJ dX0_leastIsBass_74 ?_
          refine cgX0_49 (pc := 75) hJ dX0_leastIsBass_75 ?_
          have htm : -12 < L.tmod 12 ∧ L.tmod 12 < 12 := tmodB
          refine v_icmp_ne (tgt := 85) (pc := 78) hJ dX0_leastIsBass_78 (by decide) (by omega) (by omega) (fun h78 => ?_) (fun h78 => ?_)
          · refine v_iconst (pc := 85) hJ dX0_leastIsBass_85 ?_
            refine v_zret (pc := 86) hJ rfl dX0_leastIsBass_86 ⟨_, rfl, ?_⟩
            exact ⟨by omega, ⟨fun q => absurd q (by decide), fun q => by exfalso; rcases hL with w | w; (exact q (Or.inl w.2)); (rw [← w.1] at q; omega)⟩, rfl⟩
          · refine v_iconst (pc := 81) hJ dX0_leastIsBass_81 ?_
            refine v_goto (tgt := 86) (pc := 82) hJ dX0_leastIsBass_82 (by decide) ?_
            refine v_zret (pc := 86) hJ rfl dX0_leastIsBass_86 ⟨_, rfl, ?_⟩
            exact ⟨by omega, ⟨fun _ => by rcases hL with w | w; (exfalso; omega); (rw [← w.1]; omega), fun _ => by first | rfl | omega⟩, rfl⟩
      · refine v_ild2 (pc := 12) hJ dX0_leastIsBass_12 ?_
        refine v_bipush (pc := 13) hJ dX0_leastIsBass_13 (by decide) ?_
        refine v_icmp_ge (tgt := 65) (pc := 15) hJ dX0_leastIsBass_15 (by decide) (by omega) (by omega) (fun h15 => ?_) (fun h15 => ?_)
        · exfalso; omega
        · have hgp : (-1 ≤ A 124 s ∧ A 124 s ≤ 9) ∧ (0 ≤ A 120 s ∧ A 120 s ≤ 60) := ⟨hg s (by omega), n3 s (by omega) (by omega)⟩
          refine v_ald0 (pc := 18) hJ dX0_leastIsBass_18 ?_
          refine cgX0_9 (pc := 19) hJ dX0_leastIsBass_19 ?_
          refine v_ild2 (pc := 22) hJ dX0_leastIsBass_22 ?_
          refine ca120 (pc := 23) hJ (by omega) (by omega) dX0_leastIsBass_23 ?_
          refine v_ald0 (pc := 24) hJ dX0_leastIsBass_24 ?_
          refine cgX0_21 (pc := 25) hJ dX0_leastIsBass_25 ?_
          refine v_iadd (pc := 28) hJ dX0_leastIsBass_28 ?_
          refine v_ald0 (pc := 29) hJ dX0_leastIsBass_29 ?_
          refine cgX0_18 (pc := 30) hJ dX0_leastIsBass_30 ?_
          refine v_ild2 (pc := 33) hJ dX0_leastIsBass_33 ?_
          refine ca124 (pc := 34) hJ (by omega) (by omega) dX0_leastIsBass_34 ?_
          refine v_iadd (pc := 35) hJ dX0_leastIsBass_35 ?_
          refine v_ist3 (pc := 36) hJ dX0_leastIsBass_36 (by decide) ?_
          refine v_ald0 (pc := 37) hJ dX0_leastIsBass_37 ?_
          refine cgX0_18 (pc := 38) hJ dX0_leastIsBass_38 ?_
          refine v_ild2 (pc := 41) hJ dX0_leastIsBass_41 ?_
          refine ca124 (pc := 42) hJ (by omega) (by omega) dX0_leastIsBass_42 ?_
          refine v_iconst (pc := 43) hJ dX0_leastIsBass_43 ?_
          refine v_icmp_eq (tgt := 59) (pc := 44) hJ dX0_leastIsBass_44 (by decide) (by omega) (by omega) (fun h44 => ?_) (fun h44 => ?_)
          · refine v_inc2 (pc := 59) hJ dX0_leastIsBass_59 (by decide) ?_
            refine v_goto (tgt := 4) (pc := 62) hJ dX0_leastIsBass_62 (by decide) ?_
            obtain ⟨hgs, hps⟩ := hgp
            have hn2 := ih (s + 1) L (some (.int (iZ (A 120 s + I 125 + A 124 s)))) (by omega) (by rw [lowN, if_pos h44]; exact hL) (by omega)
            rw [show ((s + 1 : Nat) : Int) = (s : Int) + 1 by omega] at hn2
            exact hn2
          · refine v_ild1 (pc := 47) hJ dX0_leastIsBass_47 ?_
            refine v_iconst (pc := 48) hJ dX0_leastIsBass_48 ?_
            refine v_icmp_eq (tgt := 57) (pc := 49) hJ dX0_leastIsBass_49 (by decide) (by omega) (by omega) (fun h49 => ?_) (fun h49 => ?_)
            · refine v_ild3 (pc := 57) hJ dX0_leastIsBass_57 ?_
              refine v_ist1 (pc := 58) hJ dX0_leastIsBass_58 (by decide) ?_
              refine v_inc2 (pc := 59) hJ dX0_leastIsBass_59 (by decide) ?_
              refine v_goto (tgt := 4) (pc := 62) hJ dX0_leastIsBass_62 (by decide) ?_
              obtain ⟨hgs, hps⟩ := hgp
              have e1 : lowN (A 124) (A 120) (I 125) (s + 1) = A 120 s + I 125 + A 124 s := by
                rw [lowN, if_neg h44, if_pos (by unfold sq; omega)]; rfl
              have hn2 := ih (s + 1) (A 120 s + I 125 + A 124 s) (some (.int (iZ (A 120 s + I 125 + A 124 s)))) (by omega) (by rw [e1]; exact Or.inr (by omega)) (by omega)
              rw [show ((s + 1 : Nat) : Int) = (s : Int) + 1 by omega] at hn2
              exact hn2
            · refine v_ild3 (pc := 52) hJ dX0_leastIsBass_52 ?_
              refine v_ild1 (pc := 53) hJ dX0_leastIsBass_53 ?_
              refine v_icmp_ge (tgt := 59) (pc := 54) hJ dX0_leastIsBass_54 (by decide) (by omega) (by omega) (fun h54 => ?_) (fun h54 => ?_)
              · refine v_inc2 (pc := 59) hJ dX0_leastIsBass_59 (by decide) ?_
                refine v_goto (tgt := 4) (pc := 62) hJ dX0_leastIsBass_62 (by decide) ?_
                obtain ⟨hgs, hps⟩ := hgp
                have e1 : lowN (A 124) (A 120) (I 125) (s + 1) = lowN (A 124) (A 120) (I 125) s := by
                  rw [lowN, if_neg h44, if_neg (by unfold sq; omega)]
                have hn2 := ih (s + 1) L (some (.int (iZ (A 120 s + I 125 + A 124 s)))) (by omega) (by rw [e1]; exact hL) (by omega)
                rw [show ((s + 1 : Nat) : Int) = (s : Int) + 1 by omega] at hn2
                exact hn2
              · refine v_ild3 (pc := 57) hJ dX0_leastIsBass_57 ?_
                refine v_ist1 (pc := 58) hJ dX0_leastIsBass_58 (by decide) ?_
                refine v_inc2 (pc := 59) hJ dX0_leastIsBass_59 (by decide) ?_
                refine v_goto (tgt := 4) (pc := 62) hJ dX0_leastIsBass_62 (by decide) ?_
                obtain ⟨hgs, hps⟩ := hgp
                have e1 : lowN (A 124) (A 120) (I 125) (s + 1) = A 120 s + I 125 + A 124 s := by
                  rw [lowN, if_neg h44, if_pos (by unfold sq; omega)]; rfl
                have hn2 := ih (s + 1) (A 120 s + I 125 + A 124 s) (some (.int (iZ (A 120 s + I 125 + A 124 s)))) (by omega) (by rw [e1]; exact Or.inr (by omega)) (by omega)
                rw [show ((s + 1 : Nat) : Int) = (s : Int) + 1 by omega] at hn2
                exact hn2
  show J 0 [some (.ref (ad 139)), none, none, none] [] (ad, I, A)
  refine v_iconst (pc := 0) hJ dX0_leastIsBass_0 ?_
  refine v_ist1 (pc := 1) hJ dX0_leastIsBass_1 (by decide) ?_
  refine v_iconst (pc := 2) hJ dX0_leastIsBass_2 ?_
  refine v_ist2 (pc := 3) hJ dX0_leastIsBass_3 (by decide) ?_
  exact lp 8 0 (-1) none (by omega) (Or.inl ⟨rfl, rfl⟩) (by omega)
