/-- what a hand's strings make, of the first s of them: g the frets, pt the pitches -/
def sq (g pt : Int → Int) (bar : Int) (s : Nat) : Int := pt s + bar + g s
def sndN (g pt : Int → Int) (bar : Int) : Nat → Int
  | 0 => 0
  | s + 1 => if g s = -1 then sndN g pt bar s else zor (sndN g pt bar s) (zshl 1 ((sq g pt bar s).tmod 12))
def lowN (g pt : Int → Int) (bar : Int) : Nat → Int
  | 0 => 1000000000
  | s + 1 => if g s = -1 then lowN g pt bar s else if sq g pt bar s < lowN g pt bar s then sq g pt bar s else lowN g pt bar s
def silN (g : Int → Int) : Nat → Int
  | 0 => 0
  | s + 1 => if g s = -1 then silN g s + 1 else silN g s
def opnN (g : Int → Int) : Nat → Int
  | 0 => 0
  | s + 1 => if g s = -1 then opnN g s else if opnN g s ≠ 0 ∨ g s = 0 then 1 else 0
def finN (g : Int → Int) : Nat → Int
  | 0 => 0
  | s + 1 => if g s = -1 then finN g s else finN g s + (if 0 < g s then 1 else 0)
def atlN (g : Int → Int) (ls : Int) : Nat → Int
  | 0 => 0
  | s + 1 => if g s = -1 then atlN g ls s else atlN g ls s + (if 0 < g s ∧ g s = ls then 1 else 0)
def FAR : Int := 1000000000
/-- a hand's strain: FAR if it fits not (but for what is looked at string by string) -/
def stX (g pt : Int → Int) (n : Nat) (bar tones ls ms rt bs : Int) : Int :=
  if lowN g pt bar n = 1000000000 ∨ (lowN g pt bar n).tmod 12 ≠ bs then 1000000000
  else if (if cntN tones 12 < 4 then zand tones (zxor (sndN g pt bar n) (-1)) else zand (zand tones (zxor (sndN g pt bar n) (-1))) (zxor (zshl 1 ((rt + 7).tmod 12)) (-1))) ≠ 0 then 1000000000
  else if 4 < (if opnN g n = 0 ∧ 1 < atlN g ls n then finN g n - (atlN g ls n - 1) else finN g n) then 1000000000
  else 3 * (if opnN g n = 0 ∧ 1 < atlN g ls n then finN g n - (atlN g ls n - 1) else finN g n) + ms + 4 * silN g n
theorem st_b (g pt : Int → Int) (bar ls : Int) : ∀ n : Nat, (0 ≤ silN g n ∧ silN g n ≤ n) ∧ (0 ≤ finN g n ∧ finN g n ≤ n) ∧ (0 ≤ atlN g ls n ∧ atlN g ls n ≤ n) ∧ (opnN g n = 0 ∨ opnN g n = 1)
  | 0 => by simp [silN, finN, atlN, opnN]
  | n + 1 => by
    obtain ⟨h1, h2, h3, h4⟩ := st_b g pt bar ls n
    rw [silN, finN, atlN, opnN]
    by_cases e : g n = -1
    · simp only [if_pos e]
      exact ⟨by omega, by omega, by omega, h4⟩
    · simp only [if_neg e]
      refine ⟨by omega, by split <;> omega, by split <;> omega, by split <;> simp⟩
theorem low_b {g pt : Int → Int} {bar : Int} {N : Nat} (hg : ∀ s : Nat, s < N → (-1 ≤ g s ∧ g s ≤ 9) ∧ 0 ≤ pt s ∧ pt s ≤ 60) (hb : 0 ≤ bar ∧ bar ≤ 7) : ∀ n : Nat, n ≤ N → 0 ≤ lowN g pt bar n ∧ lowN g pt bar n ≤ 1000000000
  | 0, _ => by simp [lowN]
  | n + 1, h => by
    have h1 := low_b hg hb n (by omega)
    have h2 := hg n (by omega)
    rw [lowN]
    unfold sq
    split
    · exact h1
    · split <;> omega
theorem cntN_b (b : Int) : ∀ n : Nat, -(2147483648 * n) ≤ cntN b n ∧ cntN b n ≤ 2147483648 * n
  | 0 => by simp [cntN]
  | n + 1 => by
    have h1 := cntN_b b n
    have h2 := inR_zand (zshr b n) 1
    rw [cntN]
    omega
set_option maxHeartbeats 4000000 in
set_option maxRecDepth 100000 in
theorem qX11_strain {l : Launch} {D : va_G} {cI : ClassId} {ad : Nat → Nat} {O : OT} {adK adV : Nat → Nat} (hO : OG O adK adV) {I : Nat → Int} {A : Nat → Int → Int} {i bar tones : Int} (hC : okC I A) (hi : 0 ≤ i ∧ i < I 6) (h9 : 0 ≤ I 9 ∧ I 9 ≤ 6) (hb : 0 ≤ bar ∧ bar ≤ 7) (hg : ∀ s : Nat, (s : Int) < I 9 → (-1 ≤ A 41 s ∧ A 41 s ≤ 9) ∧ 0 ≤ A 23 s ∧ A 23 s ≤ 60) (hl : inR (A 42 (I 9))) (hm : 0 ≤ A 43 (I 9) ∧ A 43 (I 9) ≤ 99) (hts : 0 ≤ cntN tones 12 ∧ cntN tones 12 ≤ 12) : MC l D cI ad O yX11_strain cX11_strain 12 (some .int) 2 [.ref (ad 0), .int (iZ i), .int (iZ bar), .int (iZ tones)] (I, A) (pI fun r u2 => r = stX (A 41) (A 23) (I 9).toNat bar tones (A 42 (I 9)) (A 43 (I 9)) (tn (A 11 i)) (tn (A 13 i)) ∧ u2 = (I, A)) := by
  refine ct_intro (own := RX11) (by decide) rfl hO.1 (Nat.le_of_ble_eq_true rfl) (by simp [Value.category]) (fun X J hJ => ?_)
  obtain ⟨⟨c1, c2⟩, c3⟩ := id hC
  obtain ⟨k1, k2, k3⟩ := c3 i hi.1 hi.2
  obtain ⟨g, hge⟩ : ∃ z, z = A 41 := ⟨_, rfl⟩
  obtain ⟨pt, hpe⟩ : ∃ z, z = A 23 := ⟨_, rfl⟩
  obtain ⟨ls, hle⟩ : ∃ z, z = A 42 (I 9) := ⟨_, rfl⟩
  obtain ⟨N, hNe⟩ : ∃ z : Nat, z = (I 9).toNat := ⟨_, rfl⟩
  have hN9 : (N : Int) = I 9 := by omega
  rw [← hge, ← hpe, ← hle, ← hNe] at hJ
  rw [← hge, ← hpe] at hg
  have hg2 : ∀ s : Nat, s < N → (-1 ≤ g s ∧ g s ≤ 9) ∧ 0 ≤ pt s ∧ pt s ≤ 60 := fun s hs => hg s (by omega)
  have hlow := low_b hg2 hb
  rw [← hle] at hl
  have lp : ∀ (fu : Nat) (s : Nat) (a11 : Option Value), s ≤ N → (N : Int) - (s : Int) < (fu : Int) → J 23 [some (.ref (ad 0)), some (.int (iZ (i))), some (.int (iZ (bar))), some (.int (iZ (tones))), some (.int (iZ (sndN g pt bar s))), some (.int (iZ (lowN g pt bar s))), some (.int (iZ (silN g s))), some (.int (iZ (opnN g s))), some (.int (iZ (finN g s))), some (.int (iZ (atlN g ls s))), some (.int (iZ ((s : Int)))), a11] [] (I, A) := by
    intro fu
    induction fu with
    | zero => intro s a11 hs hmu; exfalso; omega
    | succ fu ih =>
      intro s a11 hs hmu
      obtain ⟨b1, b2, b3, b4⟩ := st_b g pt bar ls s
      have b5 := hlow s hs
      by_cases hsN : s < N
      · obtain ⟨g1, g2⟩ := hg2 s hsN
        by_cases hsil : g s = -1
        · skip
          refine v_ild10 (pc := 23) hJ dX11_strain_23 ?_
          refine v_ald0 (pc := 25) hJ dX11_strain_25 ?_
          refine mg9 (pc := 26) hJ dX11_strain_26 ?_
          refine v_icmp_ge (tgt := 183) (pc := 29) hJ dX11_strain_29 (by decide) (by omega) (by omega) (fun h29 => ?_) (fun h29 => ?_)
          · omega
          · refine v_ald0 (pc := 32) hJ dX11_strain_32 ?_
            refine mg41 (pc := 33) hJ dX11_strain_33 ?_
            refine v_ild10 (pc := 36) hJ dX11_strain_36 ?_
            refine ma41 (pc := 38) hJ (by omega) (by omega) dX11_strain_38 ?_
            rw [← hge]
            refine v_iconst (pc := 39) hJ dX11_strain_39 ?_
            refine v_icmp_ne (tgt := 49) (pc := 40) hJ dX11_strain_40 (by decide) (by omega) (by omega) (fun h40 => ?_) (fun h40 => ?_)
            · exact absurd hsil h40
            · refine v_inc6 (pc := 43) hJ dX11_strain_43 (by decide) ?_
              refine v_goto (tgt := 177) (pc := 46) hJ dX11_strain_46 (by decide) ?_
              refine v_inc10 (pc := 177) hJ dX11_strain_177 (by decide) ?_
              refine v_goto (tgt := 23) (pc := 180) hJ dX11_strain_180 (by decide) ?_
              have hn := ih (s + 1) a11 (by omega) (by omega)
              rw [sndN, lowN, silN, opnN, finN, atlN, if_pos hsil, if_pos hsil, if_pos hsil, if_pos hsil, if_pos hsil, if_pos hsil] at hn
              exact hn
        · have eN : sndN g pt bar (s + 1) = zor (sndN g pt bar s) (zshl 1 ((sq g pt bar s).tmod 12)) := by rw [sndN, if_neg hsil]
          have eL : lowN g pt bar (s + 1) = if sq g pt bar s < lowN g pt bar s then sq g pt bar s else lowN g pt bar s := by rw [lowN, if_neg hsil]
          have eS : silN g (s + 1) = silN g s := by rw [silN, if_neg hsil]
          have eO : opnN g (s + 1) = if opnN g s ≠ 0 ∨ g s = 0 then 1 else 0 := by rw [opnN, if_neg hsil]
          have eF : finN g (s + 1) = finN g s + (if 0 < g s then 1 else 0) := by rw [finN, if_neg hsil]
          have eA : atlN g ls (s + 1) = atlN g ls s + (if 0 < g s ∧ g s = ls then 1 else 0) := by rw [atlN, if_neg hsil]
          have esq : sq g pt bar s = pt s + bar + g s := rfl
          have j174 : J 174 [some (.ref (ad 0)), some (.int (iZ (i))), some (.int (iZ (bar))), some (.int (iZ (tones))), some (.int (iZ (sndN g pt bar (s + 1)))), some (.int (iZ (lowN g pt bar (s + 1)))), some (.int (iZ (silN g s))), some (.int (iZ (opnN g (s + 1)))), some (.int (iZ (finN g (s + 1)))), some (.int (iZ (atlN g ls s))), some (.int (iZ ((s : Int)))), some (.int (iZ (sq g pt bar s)))] [.int (iZ (if 0 < g s ∧ g s = ls then 1 else 0)), .int (iZ (atlN g ls s))] (I, A) := by
            refine v_iadd (pc := 174) hJ dX11_strain_174 ?_
            refine v_ist9 (pc := 175) hJ dX11_strain_175 (by decide) ?_
            refine v_inc10 (pc := 177) hJ dX11_strain_177 (by decide) ?_
            refine v_goto (tgt := 23) (pc := 180) hJ dX11_strain_180 (by decide) ?_
            rw [← eA]
            have hn := ih (s + 1) (some (.int (iZ (sq g pt bar s)))) (by omega) (by omega)
            rw [eS] at hn
            exact hn
          have j135 : J 135 [some (.ref (ad 0)), some (.int (iZ (i))), some (.int (iZ (bar))), some (.int (iZ (tones))), some (.int (iZ (sndN g pt bar (s + 1)))), some (.int (iZ (lowN g pt bar (s + 1)))), some (.int (iZ (silN g s))), some (.int (iZ (opnN g (s + 1)))), some (.int (iZ (finN g s))), some (.int (iZ (atlN g ls s))), some (.int (iZ ((s : Int)))), some (.int (iZ (sq g pt bar s)))] [.int (iZ (if 0 < g s then 1 else 0)), .int (iZ (finN g s))] (I, A) := by
            refine v_iadd (pc := 135) hJ dX11_strain_135 ?_
            rw [← eF]
            refine v_ist8 (pc := 136) hJ dX11_strain_136 (by decide) ?_
            refine v_ild9 (pc := 138) hJ dX11_strain_138 ?_
            refine v_ald0 (pc := 140) hJ dX11_strain_140 ?_
            refine mg41 (pc := 141) hJ dX11_strain_141 ?_
            refine v_ild10 (pc := 144) hJ dX11_strain_144 ?_
            refine ma41 (pc := 146) hJ (by omega) (by omega) dX11_strain_146 ?_
            rw [← hge]
            refine v_if_le (tgt := 173) (pc := 147) hJ dX11_strain_147 (by decide) (by omega) (fun h147 => ?_) (fun h147 => ?_)
            · refine v_iconst (pc := 173) hJ dX11_strain_173 ?_
              first | (rw [if_pos (by omega)] at j174; exact j174) | (rw [if_neg (by omega)] at j174; exact j174)
            · refine v_ald0 (pc := 150) hJ dX11_strain_150 ?_
              refine mg41 (pc := 151) hJ dX11_strain_151 ?_
              refine v_ild10 (pc := 154) hJ dX11_strain_154 ?_
              refine ma41 (pc := 156) hJ (by omega) (by omega) dX11_strain_156 ?_
              rw [← hge]
              refine v_ald0 (pc := 157) hJ dX11_strain_157 ?_
              refine mg42 (pc := 158) hJ dX11_strain_158 ?_
              refine v_ald0 (pc := 161) hJ dX11_strain_161 ?_
              refine mg9 (pc := 162) hJ dX11_strain_162 ?_
              refine ma42 (pc := 165) hJ (by omega) (by omega) dX11_strain_165 ?_
              rw [← hle]
              refine v_icmp_ne (tgt := 173) (pc := 166) hJ dX11_strain_166 (by decide) (by omega) (by omega) (fun h166 => ?_) (fun h166 => ?_)
              · refine v_iconst (pc := 173) hJ dX11_strain_173 ?_
                first | (rw [if_pos (by omega)] at j174; exact j174) | (rw [if_neg (by omega)] at j174; exact j174)
              · refine v_iconst (pc := 169) hJ dX11_strain_169 ?_
                refine v_goto (tgt := 174) (pc := 170) hJ dX11_strain_170 (by decide) ?_
                first | (rw [if_pos (by omega)] at j174; exact j174) | (rw [if_neg (by omega)] at j174; exact j174)
          have j116 : J 116 [some (.ref (ad 0)), some (.int (iZ (i))), some (.int (iZ (bar))), some (.int (iZ (tones))), some (.int (iZ (sndN g pt bar (s + 1)))), some (.int (iZ (lowN g pt bar (s + 1)))), some (.int (iZ (silN g s))), some (.int (iZ (opnN g s))), some (.int (iZ (finN g s))), some (.int (iZ (atlN g ls s))), some (.int (iZ ((s : Int)))), some (.int (iZ (sq g pt bar s)))] [.int (iZ (opnN g (s + 1)))] (I, A) := by
            refine v_ist7 (pc := 116) hJ dX11_strain_116 (by decide) ?_
            refine v_ild8 (pc := 118) hJ dX11_strain_118 ?_
            refine v_ald0 (pc := 120) hJ dX11_strain_120 ?_
            refine mg41 (pc := 121) hJ dX11_strain_121 ?_
            refine v_ild10 (pc := 124) hJ dX11_strain_124 ?_
            refine ma41 (pc := 126) hJ (by omega) (by omega) dX11_strain_126 ?_
            rw [← hge]
            refine v_if_le (tgt := 134) (pc := 127) hJ dX11_strain_127 (by decide) (by omega) (fun h127 => ?_) (fun h127 => ?_)
            · refine v_iconst (pc := 134) hJ dX11_strain_134 ?_
              first | (rw [if_pos (by omega)] at j135; exact j135) | (rw [if_neg (by omega)] at j135; exact j135)
            · refine v_iconst (pc := 130) hJ dX11_strain_130 ?_
              refine v_goto (tgt := 135) (pc := 131) hJ dX11_strain_131 (by decide) ?_
              first | (rw [if_pos (by omega)] at j135; exact j135) | (rw [if_neg (by omega)] at j135; exact j135)
          have j94 : J 94 [some (.ref (ad 0)), some (.int (iZ (i))), some (.int (iZ (bar))), some (.int (iZ (tones))), some (.int (iZ (sndN g pt bar (s + 1)))), some (.int (iZ (lowN g pt bar s))), some (.int (iZ (silN g s))), some (.int (iZ (opnN g s))), some (.int (iZ (finN g s))), some (.int (iZ (atlN g ls s))), some (.int (iZ ((s : Int)))), some (.int (iZ (sq g pt bar s)))] [.int (iZ (lowN g pt bar (s + 1)))] (I, A) := by
            refine v_ist5 (pc := 94) hJ dX11_strain_94 (by decide) ?_
            refine v_ild7 (pc := 96) hJ dX11_strain_96 ?_
            refine v_if_ne (tgt := 111) (pc := 98) hJ dX11_strain_98 (by decide) (by omega) (fun h98 => ?_) (fun h98 => ?_)
            · refine v_iconst (pc := 111) hJ dX11_strain_111 ?_
              refine v_goto (tgt := 116) (pc := 112) hJ dX11_strain_112 (by decide) ?_
              first | (rw [eO, if_pos (by omega)] at j116; exact j116) | (rw [eO, if_neg (by omega)] at j116; exact j116)
            · refine v_ald0 (pc := 101) hJ dX11_strain_101 ?_
              refine mg41 (pc := 102) hJ dX11_strain_102 ?_
              refine v_ild10 (pc := 105) hJ dX11_strain_105 ?_
              refine ma41 (pc := 107) hJ (by omega) (by omega) dX11_strain_107 ?_
              rw [← hge]
              refine v_if_ne (tgt := 115) (pc := 108) hJ dX11_strain_108 (by decide) (by omega) (fun h108 => ?_) (fun h108 => ?_)
              · refine v_iconst (pc := 115) hJ dX11_strain_115 ?_
                first | (rw [eO, if_pos (by omega)] at j116; exact j116) | (rw [eO, if_neg (by omega)] at j116; exact j116)
              · refine v_iconst (pc := 111) hJ dX11_strain_111 ?_
                refine v_goto (tgt := 116) (pc := 112) hJ dX11_strain_112 (by decide) ?_
                first | (rw [eO, if_pos (by omega)] at j116; exact j116) | (rw [eO, if_neg (by omega)] at j116; exact j116)
          refine v_ild10 (pc := 23) hJ dX11_strain_23 ?_
          refine v_ald0 (pc := 25) hJ dX11_strain_25 ?_
          refine mg9 (pc := 26) hJ dX11_strain_26 ?_
          refine v_icmp_ge (tgt := 183) (pc := 29) hJ dX11_strain_29 (by decide) (by omega) (by omega) (fun h29 => ?_) (fun h29 => ?_)
          · omega
          · refine v_ald0 (pc := 32) hJ dX11_strain_32 ?_
            refine mg41 (pc := 33) hJ dX11_strain_33 ?_
            refine v_ild10 (pc := 36) hJ dX11_strain_36 ?_
            refine ma41 (pc := 38) hJ (by omega) (by omega) dX11_strain_38 ?_
            rw [← hge]
            refine v_iconst (pc := 39) hJ dX11_strain_39 ?_
            refine v_icmp_ne (tgt := 49) (pc := 40) hJ dX11_strain_40 (by decide) (by omega) (by omega) (fun h40 => ?_) (fun h40 => ?_)
            · refine v_ald0 (pc := 49) hJ dX11_strain_49 ?_
              refine mg23 (pc := 50) hJ dX11_strain_50 ?_
              refine v_ild10 (pc := 53) hJ dX11_strain_53 ?_
              refine ma23 (pc := 55) hJ (by omega) (by omega) dX11_strain_55 ?_
              rw [← hpe]
              refine v_ild2 (pc := 56) hJ dX11_strain_56 ?_
              refine v_iadd (pc := 57) hJ dX11_strain_57 ?_
              refine v_ald0 (pc := 58) hJ dX11_strain_58 ?_
              refine mg41 (pc := 59) hJ dX11_strain_59 ?_
              refine v_ild10 (pc := 62) hJ dX11_strain_62 ?_
              refine ma41 (pc := 64) hJ (by omega) (by omega) dX11_strain_64 ?_
              rw [← hge]
              refine v_iadd (pc := 65) hJ dX11_strain_65 ?_
              rw [← esq]
              refine v_ist11 (pc := 66) hJ dX11_strain_66 (by decide) ?_
              refine v_ild4 (pc := 68) hJ dX11_strain_68 ?_
              refine v_iconst (pc := 70) hJ dX11_strain_70 ?_
              refine v_ild11 (pc := 71) hJ dX11_strain_71 ?_
              refine v_bipush (pc := 73) hJ dX11_strain_73 (by decide) ?_
              refine v_irem (pc := 75) hJ dX11_strain_75 (by omega) (by omega) (by omega) ?_
              refine v_ishl (pc := 76) hJ dX11_strain_76 ?_
              refine v_ior (pc := 77) hJ dX11_strain_77 ?_
              rw [← eN]
              refine v_ist4 (pc := 78) hJ dX11_strain_78 (by decide) ?_
              refine v_ild11 (pc := 80) hJ dX11_strain_80 ?_
              refine v_ild5 (pc := 82) hJ dX11_strain_82 ?_
              refine v_icmp_ge (tgt := 92) (pc := 84) hJ dX11_strain_84 (by decide) (by omega) (by omega) (fun h84 => ?_) (fun h84 => ?_)
              · refine v_ild5 (pc := 92) hJ dX11_strain_92 ?_
                first | (rw [eL, if_neg (by omega)] at j94; exact j94) | (rw [eL, if_pos (by omega)] at j94; exact j94)
              · refine v_ild11 (pc := 87) hJ dX11_strain_87 ?_
                refine v_goto (tgt := 94) (pc := 89) hJ dX11_strain_89 (by decide) ?_
                first | (rw [eL, if_neg (by omega)] at j94; exact j94) | (rw [eL, if_pos (by omega)] at j94; exact j94)
            · exact absurd h40 hsil
      · have es : s = N := by omega
        subst es
        refine v_ild10 (pc := 23) hJ dX11_strain_23 ?_
        refine v_ald0 (pc := 25) hJ dX11_strain_25 ?_
        refine mg9 (pc := 26) hJ dX11_strain_26 ?_
        refine v_icmp_ge (tgt := 183) (pc := 29) hJ dX11_strain_29 (by decide) (by omega) (by omega) (fun h29 => ?_) (fun h29 => ?_)
        · refine v_ild5 (pc := 183) hJ dX11_strain_183 ?_
          refine v_ldcwK (pc := 185) hJ dX11_strain_185 k_const_X11_271 ?_
          refine v_icmp_eq (tgt := 208) (pc := 188) hJ dX11_strain_188 (by decide) (by omega) (by decide) (fun h188 => ?_) (fun h188 => ?_)
          · refine v_ldcwK (pc := 208) hJ dX11_strain_208 k_const_X11_271 ?_
            refine v_iret (pc := 211) hJ dX11_strain_211 ⟨_, rfl, ?_⟩
            refine ⟨?_, rfl⟩
            unfold stX
            first
              | (rw [if_pos (Or.inl (by omega))]; done)
              | (rw [if_pos (Or.inr (by omega))]; done)
              | (rw [if_neg (show ¬ (lowN g pt bar s = 1000000000 ∨ (lowN g pt bar s).tmod 12 ≠ tn (A 13 i)) by omega)]
                 first | rw [if_pos (show cntN tones 12 < 4 by omega)] | rw [if_neg (show ¬ cntN tones 12 < 4 by omega)]
                 first
                   | (rw [if_pos h254]; done)
                   | (rw [if_neg (fun q => q h254)]
                      first | rw [if_pos (show opnN g s = 0 ∧ 1 < atlN g ls s by omega)] | rw [if_neg (show ¬ (opnN g s = 0 ∧ 1 < atlN g ls s) by omega)]
                      first | (rw [if_pos (by omega)]; done) | (rw [if_neg (by omega)]; done)))
          · refine v_ild5 (pc := 191) hJ dX11_strain_191 ?_
            refine v_bipush (pc := 193) hJ dX11_strain_193 (by decide) ?_
            refine v_irem (pc := 195) hJ dX11_strain_195 (by omega) (by omega) (by omega) ?_
            refine v_ald0 (pc := 196) hJ dX11_strain_196 ?_
            refine mg13 (pc := 197) hJ dX11_strain_197 ?_
            refine v_ild1 (pc := 200) hJ dX11_strain_200 ?_
            refine ma13 (pc := 201) hJ (by omega) (by omega) dX11_strain_201 ?_
            refine v_cS1i (pc := 202) hJ lkX11_127 (qX11_tone hO (by omega)) (Nat.le_of_ble_eq_true rfl) (rOk_L (by decide) (by decide)) dX11_strain_202 (fun r202 u202 g202 => ?_)
            obtain ⟨rfl, rfl⟩ := g202
            have htm := tmodB (x := lowN g pt bar s)
            have htn := tn_lt (A 13 i)
            refine v_icmp_eq (tgt := 212) (pc := 205) hJ dX11_strain_205 (by decide) (by omega) (by omega) (fun h205 => ?_) (fun h205 => ?_)
            · refine v_ild3 (pc := 212) hJ dX11_strain_212 ?_
              refine v_ild4 (pc := 213) hJ dX11_strain_213 ?_
              refine v_iconst (pc := 215) hJ dX11_strain_215 ?_
              refine v_ixor (pc := 216) hJ dX11_strain_216 ?_
              refine v_iand (pc := 217) hJ dX11_strain_217 ?_
              refine v_ist10 (pc := 218) hJ dX11_strain_218 (by decide) ?_
              refine v_ild3 (pc := 220) hJ dX11_strain_220 ?_
              refine v_cS1i (pc := 221) hJ lkX11_276 (qX11_many hO) (Nat.le_of_ble_eq_true rfl) (rOk_L (by decide) (by decide)) dX11_strain_221 (fun r221 u221 g221 => ?_)
              obtain ⟨rfl, rfl⟩ := g221
              try simp only [up_s, up_n, up_up, ne_eq, Nat.reduceEqDiff, not_false_eq_true]
              refine v_iconst (pc := 224) hJ dX11_strain_224 ?_
              refine v_icmp_lt (tgt := 252) (pc := 225) hJ dX11_strain_225 (by decide) (by omega) (by omega) (fun h225 => ?_) (fun h225 => ?_)
              · refine v_ild10 (pc := 252) hJ dX11_strain_252 ?_
                refine v_if_eq (tgt := 261) (pc := 254) hJ dX11_strain_254 (by decide) (inR_zand _ _) (fun h254 => ?_) (fun h254 => ?_)
                · refine v_ild7 (pc := 261) hJ dX11_strain_261 ?_
                  refine v_if_ne (tgt := 281) (pc := 263) hJ dX11_strain_263 (by decide) (by omega) (fun h263 => ?_) (fun h263 => ?_)
                  · refine v_ild8 (pc := 281) hJ dX11_strain_281 ?_
                    refine v_iconst (pc := 283) hJ dX11_strain_283 ?_
                    refine v_icmp_le (tgt := 293) (pc := 284) hJ dX11_strain_284 (by decide) (by omega) (by omega) (fun h284 => ?_) (fun h284 => ?_)
                    · refine v_iconst (pc := 293) hJ dX11_strain_293 ?_
                      refine v_ild8 (pc := 294) hJ dX11_strain_294 ?_
                      refine v_imul (pc := 296) hJ dX11_strain_296 ?_
                      refine v_ald0 (pc := 297) hJ dX11_strain_297 ?_
                      refine mg43 (pc := 298) hJ dX11_strain_298 ?_
                      refine v_ald0 (pc := 301) hJ dX11_strain_301 ?_
                      refine mg9 (pc := 302) hJ dX11_strain_302 ?_
                      try simp only [up_s, up_n, up_up, ne_eq, Nat.reduceEqDiff, not_false_eq_true]
                      refine ma43 (pc := 305) hJ (by omega) (by omega) dX11_strain_305 ?_
                      try simp only [up_s, up_n, up_up, ne_eq, Nat.reduceEqDiff, not_false_eq_true]
                      refine v_iadd (pc := 306) hJ dX11_strain_306 ?_
                      refine v_iconst (pc := 307) hJ dX11_strain_307 ?_
                      refine v_ild6 (pc := 308) hJ dX11_strain_308 ?_
                      refine v_imul (pc := 310) hJ dX11_strain_310 ?_
                      refine v_iadd (pc := 311) hJ dX11_strain_311 ?_
                      refine v_iret (pc := 312) hJ dX11_strain_312 ⟨_, rfl, ?_⟩
                      refine ⟨?_, rfl⟩
                      unfold stX
                      first
                        | (rw [if_pos (Or.inl (by omega))]; done)
                        | (rw [if_pos (Or.inr (by omega))]; done)
                        | (rw [if_neg (show ¬ (lowN g pt bar s = 1000000000 ∨ (lowN g pt bar s).tmod 12 ≠ tn (A 13 i)) by omega)]
                           first | rw [if_pos (show cntN tones 12 < 4 by omega)] | rw [if_neg (show ¬ cntN tones 12 < 4 by omega)]
                           first
                             | (rw [if_pos h254]; done)
                             | (rw [if_neg (fun q => q h254)]
                                first | rw [if_pos (show opnN g s = 0 ∧ 1 < atlN g ls s by omega)] | rw [if_neg (show ¬ (opnN g s = 0 ∧ 1 < atlN g ls s) by omega)]
                                first | (rw [if_pos (by omega)]; done) | (rw [if_neg (by omega)]; done)))
                    · refine v_ldcwK (pc := 287) hJ dX11_strain_287 k_const_X11_271 ?_
                      refine v_goto (tgt := 312) (pc := 290) hJ dX11_strain_290 (by decide) ?_
                      refine v_iret (pc := 312) hJ dX11_strain_312 ⟨_, rfl, ?_⟩
                      refine ⟨?_, rfl⟩
                      unfold stX
                      first
                        | (rw [if_pos (Or.inl (by omega))]; done)
                        | (rw [if_pos (Or.inr (by omega))]; done)
                        | (rw [if_neg (show ¬ (lowN g pt bar s = 1000000000 ∨ (lowN g pt bar s).tmod 12 ≠ tn (A 13 i)) by omega)]
                           first | rw [if_pos (show cntN tones 12 < 4 by omega)] | rw [if_neg (show ¬ cntN tones 12 < 4 by omega)]
                           first
                             | (rw [if_pos h254]; done)
                             | (rw [if_neg (fun q => q h254)]
                                first | rw [if_pos (show opnN g s = 0 ∧ 1 < atlN g ls s by omega)] | rw [if_neg (show ¬ (opnN g s = 0 ∧ 1 < atlN g ls s) by omega)]
                                first | (rw [if_pos (by omega)]; done) | (rw [if_neg (by omega)]; done)))
                  · refine v_ild9 (pc := 266) hJ dX11_strain_266 ?_
                    refine v_iconst (pc := 268) hJ dX11_strain_268 ?_
                    refine v_icmp_le (tgt := 281) (pc := 269) hJ dX11_strain_269 (by decide) (by omega) (by omega) (fun h269 => ?_) (fun h269 => ?_)
                    · refine v_ild8 (pc := 281) hJ dX11_strain_281 ?_
                      refine v_iconst (pc := 283) hJ dX11_strain_283 ?_
                      refine v_icmp_le (tgt := 293) (pc := 284) hJ dX11_strain_284 (by decide) (by omega) (by omega) (fun h284 => ?_) (fun h284 => ?_)
                      · refine v_iconst (pc := 293) hJ dX11_strain_293 ?_
                        refine v_ild8 (pc := 294) hJ dX11_strain_294 ?_
                        refine v_imul (pc := 296) hJ dX11_strain_296 ?_
                        refine v_ald0 (pc := 297) hJ dX11_strain_297 ?_
                        refine mg43 (pc := 298) hJ dX11_strain_298 ?_
                        refine v_ald0 (pc := 301) hJ dX11_strain_301 ?_
                        refine mg9 (pc := 302) hJ dX11_strain_302 ?_
                        try simp only [up_s, up_n, up_up, ne_eq, Nat.reduceEqDiff, not_false_eq_true]
                        refine ma43 (pc := 305) hJ (by omega) (by omega) dX11_strain_305 ?_
                        try simp only [up_s, up_n, up_up, ne_eq, Nat.reduceEqDiff, not_false_eq_true]
                        refine v_iadd (pc := 306) hJ dX11_strain_306 ?_
                        refine v_iconst (pc := 307) hJ dX11_strain_307 ?_
                        refine v_ild6 (pc := 308) hJ dX11_strain_308 ?_
                        refine v_imul (pc := 310) hJ dX11_strain_310 ?_
                        refine v_iadd (pc := 311) hJ dX11_strain_311 ?_
                        refine v_iret (pc := 312) hJ dX11_strain_312 ⟨_, rfl, ?_⟩
                        refine ⟨?_, rfl⟩
                        unfold stX
                        first
                          | (rw [if_pos (Or.inl (by omega))]; done)
                          | (rw [if_pos (Or.inr (by omega))]; done)
                          | (rw [if_neg (show ¬ (lowN g pt bar s = 1000000000 ∨ (lowN g pt bar s).tmod 12 ≠ tn (A 13 i)) by omega)]
                             first | rw [if_pos (show cntN tones 12 < 4 by omega)] | rw [if_neg (show ¬ cntN tones 12 < 4 by omega)]
                             first
                               | (rw [if_pos h254]; done)
                               | (rw [if_neg (fun q => q h254)]
                                  first | rw [if_pos (show opnN g s = 0 ∧ 1 < atlN g ls s by omega)] | rw [if_neg (show ¬ (opnN g s = 0 ∧ 1 < atlN g ls s) by omega)]
                                  first | (rw [if_pos (by omega)]; done) | (rw [if_neg (by omega)]; done)))
                      · refine v_ldcwK (pc := 287) hJ dX11_strain_287 k_const_X11_271 ?_
                        refine v_goto (tgt := 312) (pc := 290) hJ dX11_strain_290 (by decide) ?_
                        refine v_iret (pc := 312) hJ dX11_strain_312 ⟨_, rfl, ?_⟩
                        refine ⟨?_, rfl⟩
                        unfold stX
                        first
                          | (rw [if_pos (Or.inl (by omega))]; done)
                          | (rw [if_pos (Or.inr (by omega))]; done)
                          | (rw [if_neg (show ¬ (lowN g pt bar s = 1000000000 ∨ (lowN g pt bar s).tmod 12 ≠ tn (A 13 i)) by omega)]
                             first | rw [if_pos (show cntN tones 12 < 4 by omega)] | rw [if_neg (show ¬ cntN tones 12 < 4 by omega)]
                             first
                               | (rw [if_pos h254]; done)
                               | (rw [if_neg (fun q => q h254)]
                                  first | rw [if_pos (show opnN g s = 0 ∧ 1 < atlN g ls s by omega)] | rw [if_neg (show ¬ (opnN g s = 0 ∧ 1 < atlN g ls s) by omega)]
                                  first | (rw [if_pos (by omega)]; done) | (rw [if_neg (by omega)]; done)))
                    · refine v_ild8 (pc := 272) hJ dX11_strain_272 ?_
                      refine v_ild9 (pc := 274) hJ dX11_strain_274 ?_
                      refine v_iconst (pc := 276) hJ dX11_strain_276 ?_
                      refine v_isub (pc := 277) hJ dX11_strain_277 ?_
                      refine v_isub (pc := 278) hJ dX11_strain_278 ?_
                      refine v_ist8 (pc := 279) hJ dX11_strain_279 (by decide) ?_
                      refine v_ild8 (pc := 281) hJ dX11_strain_281 ?_
                      refine v_iconst (pc := 283) hJ dX11_strain_283 ?_
                      refine v_icmp_le (tgt := 293) (pc := 284) hJ dX11_strain_284 (by decide) (by omega) (by omega) (fun h284 => ?_) (fun h284 => ?_)
                      · refine v_iconst (pc := 293) hJ dX11_strain_293 ?_
                        refine v_ild8 (pc := 294) hJ dX11_strain_294 ?_
                        refine v_imul (pc := 296) hJ dX11_strain_296 ?_
                        refine v_ald0 (pc := 297) hJ dX11_strain_297 ?_
                        refine mg43 (pc := 298) hJ dX11_strain_298 ?_
                        refine v_ald0 (pc := 301) hJ dX11_strain_301 ?_
                        refine mg9 (pc := 302) hJ dX11_strain_302 ?_
                        try simp only [up_s, up_n, up_up, ne_eq, Nat.reduceEqDiff, not_false_eq_true]
                        refine ma43 (pc := 305) hJ (by omega) (by omega) dX11_strain_305 ?_
                        try simp only [up_s, up_n, up_up, ne_eq, Nat.reduceEqDiff, not_false_eq_true]
                        refine v_iadd (pc := 306) hJ dX11_strain_306 ?_
                        refine v_iconst (pc := 307) hJ dX11_strain_307 ?_
                        refine v_ild6 (pc := 308) hJ dX11_strain_308 ?_
                        refine v_imul (pc := 310) hJ dX11_strain_310 ?_
                        refine v_iadd (pc := 311) hJ dX11_strain_311 ?_
                        refine v_iret (pc := 312) hJ dX11_strain_312 ⟨_, rfl, ?_⟩
                        refine ⟨?_, rfl⟩
                        unfold stX
                        first
                          | (rw [if_pos (Or.inl (by omega))]; done)
                          | (rw [if_pos (Or.inr (by omega))]; done)
                          | (rw [if_neg (show ¬ (lowN g pt bar s = 1000000000 ∨ (lowN g pt bar s).tmod 12 ≠ tn (A 13 i)) by omega)]
                             first | rw [if_pos (show cntN tones 12 < 4 by omega)] | rw [if_neg (show ¬ cntN tones 12 < 4 by omega)]
                             first
                               | (rw [if_pos h254]; done)
                               | (rw [if_neg (fun q => q h254)]
                                  first | rw [if_pos (show opnN g s = 0 ∧ 1 < atlN g ls s by omega)] | rw [if_neg (show ¬ (opnN g s = 0 ∧ 1 < atlN g ls s) by omega)]
                                  first | (rw [if_pos (by omega)]; done) | (rw [if_neg (by omega)]; done)))
                      · refine v_ldcwK (pc := 287) hJ dX11_strain_287 k_const_X11_271 ?_
                        refine v_goto (tgt := 312) (pc := 290) hJ dX11_strain_290 (by decide) ?_
                        refine v_iret (pc := 312) hJ dX11_strain_312 ⟨_, rfl, ?_⟩
                        refine ⟨?_, rfl⟩
                        unfold stX
                        first
                          | (rw [if_pos (Or.inl (by omega))]; done)
                          | (rw [if_pos (Or.inr (by omega))]; done)
                          | (rw [if_neg (show ¬ (lowN g pt bar s = 1000000000 ∨ (lowN g pt bar s).tmod 12 ≠ tn (A 13 i)) by omega)]
                             first | rw [if_pos (show cntN tones 12 < 4 by omega)] | rw [if_neg (show ¬ cntN tones 12 < 4 by omega)]
                             first
                               | (rw [if_pos h254]; done)
                               | (rw [if_neg (fun q => q h254)]
                                  first | rw [if_pos (show opnN g s = 0 ∧ 1 < atlN g ls s by omega)] | rw [if_neg (show ¬ (opnN g s = 0 ∧ 1 < atlN g ls s) by omega)]
                                  first | (rw [if_pos (by omega)]; done) | (rw [if_neg (by omega)]; done)))
                · refine v_ldcwK (pc := 257) hJ dX11_strain_257 k_const_X11_271 ?_
                  refine v_iret (pc := 260) hJ dX11_strain_260 ⟨_, rfl, ?_⟩
                  refine ⟨?_, rfl⟩
                  unfold stX
                  first
                    | (rw [if_pos (Or.inl (by omega))]; done)
                    | (rw [if_pos (Or.inr (by omega))]; done)
                    | (rw [if_neg (show ¬ (lowN g pt bar s = 1000000000 ∨ (lowN g pt bar s).tmod 12 ≠ tn (A 13 i)) by omega)]
                       first | rw [if_pos (show cntN tones 12 < 4 by omega)] | rw [if_neg (show ¬ cntN tones 12 < 4 by omega)]
                       first
                         | (rw [if_pos h254]; done)
                         | (rw [if_neg (fun q => q h254)]
                            first | rw [if_pos (show opnN g s = 0 ∧ 1 < atlN g ls s by omega)] | rw [if_neg (show ¬ (opnN g s = 0 ∧ 1 < atlN g ls s) by omega)]
                            first | (rw [if_pos (by omega)]; done) | (rw [if_neg (by omega)]; done)))
              · refine v_ild10 (pc := 228) hJ dX11_strain_228 ?_
                refine v_iconst (pc := 230) hJ dX11_strain_230 ?_
                refine v_ald0 (pc := 231) hJ dX11_strain_231 ?_
                refine mg11 (pc := 232) hJ dX11_strain_232 ?_
                refine v_ild1 (pc := 235) hJ dX11_strain_235 ?_
                refine ma11 (pc := 236) hJ (by omega) (by omega) dX11_strain_236 ?_
                try simp only [up_s, up_n, up_up, ne_eq, Nat.reduceEqDiff, not_false_eq_true]
                refine v_cS1i (pc := 237) hJ lkX11_127 (qX11_tone hO (by omega)) (Nat.le_of_ble_eq_true rfl) (rOk_L (by decide) (by decide)) dX11_strain_237 (fun r237 u237 g237 => ?_)
                obtain ⟨rfl, rfl⟩ := g237
                try simp only [up_s, up_n, up_up, ne_eq, Nat.reduceEqDiff, not_false_eq_true]
                refine v_bipush (pc := 240) hJ dX11_strain_240 (by decide) ?_
                refine v_iadd (pc := 242) hJ dX11_strain_242 ?_
                refine v_bipush (pc := 243) hJ dX11_strain_243 (by decide) ?_
                have htr := tn_lt (A 11 i)
                refine v_irem (pc := 245) hJ dX11_strain_245 (by omega) (by omega) (by omega) ?_
                refine v_ishl (pc := 246) hJ dX11_strain_246 ?_
                refine v_iconst (pc := 247) hJ dX11_strain_247 ?_
                refine v_ixor (pc := 248) hJ dX11_strain_248 ?_
                refine v_iand (pc := 249) hJ dX11_strain_249 ?_
                refine v_ist10 (pc := 250) hJ dX11_strain_250 (by decide) ?_
                refine v_ild10 (pc := 252) hJ dX11_strain_252 ?_
                refine v_if_eq (tgt := 261) (pc := 254) hJ dX11_strain_254 (by decide) (inR_zand _ _) (fun h254 => ?_) (fun h254 => ?_)
                · refine v_ild7 (pc := 261) hJ dX11_strain_261 ?_
                  refine v_if_ne (tgt := 281) (pc := 263) hJ dX11_strain_263 (by decide) (by omega) (fun h263 => ?_) (fun h263 => ?_)
                  · refine v_ild8 (pc := 281) hJ dX11_strain_281 ?_
                    refine v_iconst (pc := 283) hJ dX11_strain_283 ?_
                    refine v_icmp_le (tgt := 293) (pc := 284) hJ dX11_strain_284 (by decide) (by omega) (by omega) (fun h284 => ?_) (fun h284 => ?_)
                    · refine v_iconst (pc := 293) hJ dX11_strain_293 ?_
                      refine v_ild8 (pc := 294) hJ dX11_strain_294 ?_
                      refine v_imul (pc := 296) hJ dX11_strain_296 ?_
                      refine v_ald0 (pc := 297) hJ dX11_strain_297 ?_
                      refine mg43 (pc := 298) hJ dX11_strain_298 ?_
                      refine v_ald0 (pc := 301) hJ dX11_strain_301 ?_
                      refine mg9 (pc := 302) hJ dX11_strain_302 ?_
                      try simp only [up_s, up_n, up_up, ne_eq, Nat.reduceEqDiff, not_false_eq_true]
                      refine ma43 (pc := 305) hJ (by omega) (by omega) dX11_strain_305 ?_
                      try simp only [up_s, up_n, up_up, ne_eq, Nat.reduceEqDiff, not_false_eq_true]
                      refine v_iadd (pc := 306) hJ dX11_strain_306 ?_
                      refine v_iconst (pc := 307) hJ dX11_strain_307 ?_
                      refine v_ild6 (pc := 308) hJ dX11_strain_308 ?_
                      refine v_imul (pc := 310) hJ dX11_strain_310 ?_
                      refine v_iadd (pc := 311) hJ dX11_strain_311 ?_
                      refine v_iret (pc := 312) hJ dX11_strain_312 ⟨_, rfl, ?_⟩
                      refine ⟨?_, rfl⟩
                      unfold stX
                      first
                        | (rw [if_pos (Or.inl (by omega))]; done)
                        | (rw [if_pos (Or.inr (by omega))]; done)
                        | (rw [if_neg (show ¬ (lowN g pt bar s = 1000000000 ∨ (lowN g pt bar s).tmod 12 ≠ tn (A 13 i)) by omega)]
                           first | rw [if_pos (show cntN tones 12 < 4 by omega)] | rw [if_neg (show ¬ cntN tones 12 < 4 by omega)]
                           first
                             | (rw [if_pos h254]; done)
                             | (rw [if_neg (fun q => q h254)]
                                first | rw [if_pos (show opnN g s = 0 ∧ 1 < atlN g ls s by omega)] | rw [if_neg (show ¬ (opnN g s = 0 ∧ 1 < atlN g ls s) by omega)]
                                first | (rw [if_pos (by omega)]; done) | (rw [if_neg (by omega)]; done)))
                    · refine v_ldcwK (pc := 287) hJ dX11_strain_287 k_const_X11_271 ?_
                      refine v_goto (tgt := 312) (pc := 290) hJ dX11_strain_290 (by decide) ?_
                      refine v_iret (pc := 312) hJ dX11_strain_312 ⟨_, rfl, ?_⟩
                      refine ⟨?_, rfl⟩
                      unfold stX
                      first
                        | (rw [if_pos (Or.inl (by omega))]; done)
                        | (rw [if_pos (Or.inr (by omega))]; done)
                        | (rw [if_neg (show ¬ (lowN g pt bar s = 1000000000 ∨ (lowN g pt bar s).tmod 12 ≠ tn (A 13 i)) by omega)]
                           first | rw [if_pos (show cntN tones 12 < 4 by omega)] | rw [if_neg (show ¬ cntN tones 12 < 4 by omega)]
                           first
                             | (rw [if_pos h254]; done)
                             | (rw [if_neg (fun q => q h254)]
                                first | rw [if_pos (show opnN g s = 0 ∧ 1 < atlN g ls s by omega)] | rw [if_neg (show ¬ (opnN g s = 0 ∧ 1 < atlN g ls s) by omega)]
                                first | (rw [if_pos (by omega)]; done) | (rw [if_neg (by omega)]; done)))
                  · refine v_ild9 (pc := 266) hJ dX11_strain_266 ?_
                    refine v_iconst (pc := 268) hJ dX11_strain_268 ?_
                    refine v_icmp_le (tgt := 281) (pc := 269) hJ dX11_strain_269 (by decide) (by omega) (by omega) (fun h269 => ?_) (fun h269 => ?_)
                    · refine v_ild8 (pc := 281) hJ dX11_strain_281 ?_
                      refine v_iconst (pc := 283) hJ dX11_strain_283 ?_
                      refine v_icmp_le (tgt := 293) (pc := 284) hJ dX11_strain_284 (by decide) (by omega) (by omega) (fun h284 => ?_) (fun h284 => ?_)
                      · refine v_iconst (pc := 293) hJ dX11_strain_293 ?_
                        refine v_ild8 (pc := 294) hJ dX11_strain_294 ?_
                        refine v_imul (pc := 296) hJ dX11_strain_296 ?_
                        refine v_ald0 (pc := 297) hJ dX11_strain_297 ?_
                        refine mg43 (pc := 298) hJ dX11_strain_298 ?_
                        refine v_ald0 (pc := 301) hJ dX11_strain_301 ?_
                        refine mg9 (pc := 302) hJ dX11_strain_302 ?_
                        try simp only [up_s, up_n, up_up, ne_eq, Nat.reduceEqDiff, not_false_eq_true]
                        refine ma43 (pc := 305) hJ (by omega) (by omega) dX11_strain_305 ?_
                        try simp only [up_s, up_n, up_up, ne_eq, Nat.reduceEqDiff, not_false_eq_true]
                        refine v_iadd (pc := 306) hJ dX11_strain_306 ?_
                        refine v_iconst (pc := 307) hJ dX11_strain_307 ?_
                        refine v_ild6 (pc := 308) hJ dX11_strain_308 ?_
                        refine v_imul (pc := 310) hJ dX11_strain_310 ?_
                        refine v_iadd (pc := 311) hJ dX11_strain_311 ?_
                        refine v_iret (pc := 312) hJ dX11_strain_312 ⟨_, rfl, ?_⟩
                        refine ⟨?_, rfl⟩
                        unfold stX
                        first
                          | (rw [if_pos (Or.inl (by omega))]; done)
                          | (rw [if_pos (Or.inr (by omega))]; done)
                          | (rw [if_neg (show ¬ (lowN g pt bar s = 1000000000 ∨ (lowN g pt bar s).tmod 12 ≠ tn (A 13 i)) by omega)]
                             first | rw [if_pos (show cntN tones 12 < 4 by omega)] | rw [if_neg (show ¬ cntN tones 12 < 4 by omega)]
                             first
                               | (rw [if_pos h254]; done)
                               | (rw [if_neg (fun q => q h254)]
                                  first | rw [if_pos (show opnN g s = 0 ∧ 1 < atlN g ls s by omega)] | rw [if_neg (show ¬ (opnN g s = 0 ∧ 1 < atlN g ls s) by omega)]
                                  first | (rw [if_pos (by omega)]; done) | (rw [if_neg (by omega)]; done)))
                      · refine v_ldcwK (pc := 287) hJ dX11_strain_287 k_const_X11_271 ?_
                        refine v_goto (tgt := 312) (pc := 290) hJ dX11_strain_290 (by decide) ?_
                        refine v_iret (pc := 312) hJ dX11_strain_312 ⟨_, rfl, ?_⟩
                        refine ⟨?_, rfl⟩
                        unfold stX
                        first
                          | (rw [if_pos (Or.inl (by omega))]; done)
                          | (rw [if_pos (Or.inr (by omega))]; done)
                          | (rw [if_neg (show ¬ (lowN g pt bar s = 1000000000 ∨ (lowN g pt bar s).tmod 12 ≠ tn (A 13 i)) by omega)]
                             first | rw [if_pos (show cntN tones 12 < 4 by omega)] | rw [if_neg (show ¬ cntN tones 12 < 4 by omega)]
                             first
                               | (rw [if_pos h254]; done)
                               | (rw [if_neg (fun q => q h254)]
                                  first | rw [if_pos (show opnN g s = 0 ∧ 1 < atlN g ls s by omega)] | rw [if_neg (show ¬ (opnN g s = 0 ∧ 1 < atlN g ls s) by omega)]
                                  first | (rw [if_pos (by omega)]; done) | (rw [if_neg (by omega)]; done)))
                    · refine v_ild8 (pc := 272) hJ dX11_strain_272 ?_
                      refine v_ild9 (pc := 274) hJ dX11_strain_274 ?_
                      refine v_iconst (pc := 276) hJ dX11_strain_276 ?_
                      refine v_isub (pc := 277) hJ dX11_strain_277 ?_
                      refine v_isub (pc := 278) hJ dX11_strain_278 ?_
                      refine v_ist8 (pc := 279) hJ dX11_strain_279 (by decide) ?_
                      refine v_ild8 (pc := 281) hJ dX11_strain_281 ?_
                      refine v_iconst (pc := 283) hJ dX11_strain_283 ?_
                      refine v_icmp_le (tgt := 293) (pc := 284) hJ dX11_strain_284 (by decide) (by omega) (by omega) (fun h284 => ?_) (fun h284 => ?_)
                      · refine v_iconst (pc := 293) hJ dX11_strain_293 ?_
                        refine v_ild8 (pc := 294) hJ dX11_strain_294 ?_
                        refine v_imul (pc := 296) hJ dX11_strain_296 ?_
                        refine v_ald0 (pc := 297) hJ dX11_strain_297 ?_
                        refine mg43 (pc := 298) hJ dX11_strain_298 ?_
                        refine v_ald0 (pc := 301) hJ dX11_strain_301 ?_
                        refine mg9 (pc := 302) hJ dX11_strain_302 ?_
                        try simp only [up_s, up_n, up_up, ne_eq, Nat.reduceEqDiff, not_false_eq_true]
                        refine ma43 (pc := 305) hJ (by omega) (by omega) dX11_strain_305 ?_
                        try simp only [up_s, up_n, up_up, ne_eq, Nat.reduceEqDiff, not_false_eq_true]
                        refine v_iadd (pc := 306) hJ dX11_strain_306 ?_
                        refine v_iconst (pc := 307) hJ dX11_strain_307 ?_
                        refine v_ild6 (pc := 308) hJ dX11_strain_308 ?_
                        refine v_imul (pc := 310) hJ dX11_strain_310 ?_
                        refine v_iadd (pc := 311) hJ dX11_strain_311 ?_
                        refine v_iret (pc := 312) hJ dX11_strain_312 ⟨_, rfl, ?_⟩
                        refine ⟨?_, rfl⟩
                        unfold stX
                        first
                          | (rw [if_pos (Or.inl (by omega))]; done)
                          | (rw [if_pos (Or.inr (by omega))]; done)
                          | (rw [if_neg (show ¬ (lowN g pt bar s = 1000000000 ∨ (lowN g pt bar s).tmod 12 ≠ tn (A 13 i)) by omega)]
                             first | rw [if_pos (show cntN tones 12 < 4 by omega)] | rw [if_neg (show ¬ cntN tones 12 < 4 by omega)]
                             first
                               | (rw [if_pos h254]; done)
                               | (rw [if_neg (fun q => q h254)]
                                  first | rw [if_pos (show opnN g s = 0 ∧ 1 < atlN g ls s by omega)] | rw [if_neg (show ¬ (opnN g s = 0 ∧ 1 < atlN g ls s) by omega)]
                                  first | (rw [if_pos (by omega)]; done) | (rw [if_neg (by omega)]; done)))
                      · refine v_ldcwK (pc := 287) hJ dX11_strain_287 k_const_X11_271 ?_
                        refine v_goto (tgt := 312) (pc := 290) hJ dX11_strain_290 (by decide) ?_
                        refine v_iret (pc := 312) hJ dX11_strain_312 ⟨_, rfl, ?_⟩
                        refine ⟨?_, rfl⟩
                        unfold stX
                        first
                          | (rw [if_pos (Or.inl (by omega))]; done)
                          | (rw [if_pos (Or.inr (by omega))]; done)
                          | (rw [if_neg (show ¬ (lowN g pt bar s = 1000000000 ∨ (lowN g pt bar s).tmod 12 ≠ tn (A 13 i)) by omega)]
                             first | rw [if_pos (show cntN tones 12 < 4 by omega)] | rw [if_neg (show ¬ cntN tones 12 < 4 by omega)]
                             first
                               | (rw [if_pos h254]; done)
                               | (rw [if_neg (fun q => q h254)]
                                  first | rw [if_pos (show opnN g s = 0 ∧ 1 < atlN g ls s by omega)] | rw [if_neg (show ¬ (opnN g s = 0 ∧ 1 < atlN g ls s) by omega)]
                                  first | (rw [if_pos (by omega)]; done) | (rw [if_neg (by omega)]; done)))
                · refine v_ldcwK (pc := 257) hJ dX11_strain_257 k_const_X11_271 ?_
                  refine v_iret (pc := 260) hJ dX11_strain_260 ⟨_, rfl, ?_⟩
                  refine ⟨?_, rfl⟩
                  unfold stX
                  first
                    | (rw [if_pos (Or.inl (by omega))]; done)
                    | (rw [if_pos (Or.inr (by omega))]; done)
                    | (rw [if_neg (show ¬ (lowN g pt bar s = 1000000000 ∨ (lowN g pt bar s).tmod 12 ≠ tn (A 13 i)) by omega)]
                       first | rw [if_pos (show cntN tones 12 < 4 by omega)] | rw [if_neg (show ¬ cntN tones 12 < 4 by omega)]
                       first
                         | (rw [if_pos h254]; done)
                         | (rw [if_neg (fun q => q h254)]
                            first | rw [if_pos (show opnN g s = 0 ∧ 1 < atlN g ls s by omega)] | rw [if_neg (show ¬ (opnN g s = 0 ∧ 1 < atlN g ls s) by omega)]
                            first | (rw [if_pos (by omega)]; done) | (rw [if_neg (by omega)]; done)))
            · refine v_ldcwK (pc := 208) hJ dX11_strain_208 k_const_X11_271 ?_
              refine v_iret (pc := 211) hJ dX11_strain_211 ⟨_, rfl, ?_⟩
              refine ⟨?_, rfl⟩
              unfold stX
              first
                | (rw [if_pos (Or.inl (by omega))]; done)
                | (rw [if_pos (Or.inr (by omega))]; done)
                | (rw [if_neg (show ¬ (lowN g pt bar s = 1000000000 ∨ (lowN g pt bar s).tmod 12 ≠ tn (A 13 i)) by omega)]
                   first | rw [if_pos (show cntN tones 12 < 4 by omega)] | rw [if_neg (show ¬ cntN tones 12 < 4 by omega)]
                   first
                     | (rw [if_pos h254]; done)
                     | (rw [if_neg (fun q => q h254)]
                        first | rw [if_pos (show opnN g s = 0 ∧ 1 < atlN g ls s by omega)] | rw [if_neg (show ¬ (opnN g s = 0 ∧ 1 < atlN g ls s) by omega)]
                        first | (rw [if_pos (by omega)]; done) | (rw [if_neg (by omega)]; done)))
        · omega
  show J 0 [some (.ref (ad 0)), some (.int (iZ i)), some (.int (iZ bar)), some (.int (iZ tones)), none, none, none, none, none, none, none, none] [] (I, A)
  refine v_iconst (pc := 0) hJ dX11_strain_0 ?_
  refine v_ist4 (pc := 1) hJ dX11_strain_1 (by decide) ?_
  refine v_ldcwK (pc := 3) hJ dX11_strain_3 k_const_X11_271 ?_
  refine v_ist5 (pc := 6) hJ dX11_strain_6 (by decide) ?_
  refine v_iconst (pc := 8) hJ dX11_strain_8 ?_
  refine v_ist6 (pc := 9) hJ dX11_strain_9 (by decide) ?_
  refine v_iconst (pc := 11) hJ dX11_strain_11 ?_
  refine v_ist7 (pc := 12) hJ dX11_strain_12 (by decide) ?_
  refine v_iconst (pc := 14) hJ dX11_strain_14 ?_
  refine v_ist8 (pc := 15) hJ dX11_strain_15 (by decide) ?_
  refine v_iconst (pc := 17) hJ dX11_strain_17 ?_
  refine v_ist9 (pc := 18) hJ dX11_strain_18 (by decide) ?_
  refine v_iconst (pc := 20) hJ dX11_strain_20 ?_
  refine v_ist10 (pc := 21) hJ dX11_strain_21 (by decide) ?_
  exact lp 7 0 _ (by omega) (by omega)
