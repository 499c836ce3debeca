/-- where the search stands: p the frets of the first strings, H the hands so far -/
def stF (A : Nat → Int → Int) (a : Int) (N : Nat) (p : List Int) (H : HS) (A1 : Nat → Int → Int) : Prop :=
  frF A a A1 ∧ repH A1 a N H ∧ (∀ d : Nat, d < p.length → A1 41 d = p.getD d 0) ∧ (∀ d : Nat, d ≤ p.length → A1 42 d = lsL (p.take d) ∧ A1 43 d = msL (p.take d)) ∧ (∀ d : Nat, d < p.length → -1 ≤ p.getD d 0 ∧ p.getD d 0 ≤ 9)
theorem stF_41 {A A1 : Nat → Int → Int} {a : Int} {N : Nat} {p : List Int} {H : HS} {i v : Int} (h : stF A a N p H A1) (hi : (p.length : Int) ≤ i) : stF A a N p H (va_up A1 41 (zu (A1 41) i v)) := by
  obtain ⟨⟨h1, h2, h3, h4⟩, ⟨r1, r2, r3⟩, h6, h7, h8⟩ := h
  refine ⟨⟨fun k k1 k2 k3 k4 k5 k6 => by rw [up_n k4]; exact h1 k k1 k2 k3 k4 k5 k6, ?_, ?_, ?_⟩, ⟨?_, r2, ?_⟩, fun d hd => ?_, ?_, h8⟩
  · simp only [up_n, ne_eq, Nat.reduceEqDiff, not_false_eq_true]; exact h2
  · simp only [up_n, ne_eq, Nat.reduceEqDiff, not_false_eq_true]; exact h3
  · simp only [up_n, ne_eq, Nat.reduceEqDiff, not_false_eq_true]; exact h4
  · simp only [up_n, ne_eq, Nat.reduceEqDiff, not_false_eq_true]; exact r1
  · simp only [up_n, ne_eq, Nat.reduceEqDiff, not_false_eq_true]; exact r3
  · rw [up_s, zu_ne (by omega)]; exact h6 d hd
  · simp only [up_n, ne_eq, Nat.reduceEqDiff, not_false_eq_true]; exact h7
theorem stF_42 {A A1 : Nat → Int → Int} {a : Int} {N : Nat} {p : List Int} {H : HS} {i v : Int} (h : stF A a N p H A1) (hi : (p.length : Int) < i) : stF A a N p H (va_up A1 42 (zu (A1 42) i v)) := by
  obtain ⟨⟨h1, h2, h3, h4⟩, ⟨r1, r2, r3⟩, h6, h7, h8⟩ := h
  refine ⟨⟨fun k k1 k2 k3 k4 k5 k6 => by rw [up_n k5]; exact h1 k k1 k2 k3 k4 k5 k6, ?_, ?_, ?_⟩, ⟨?_, r2, ?_⟩, ?_, fun d hd => ?_, h8⟩
  · simp only [up_n, ne_eq, Nat.reduceEqDiff, not_false_eq_true]; exact h2
  · simp only [up_n, ne_eq, Nat.reduceEqDiff, not_false_eq_true]; exact h3
  · simp only [up_n, ne_eq, Nat.reduceEqDiff, not_false_eq_true]; exact h4
  · simp only [up_n, ne_eq, Nat.reduceEqDiff, not_false_eq_true]; exact r1
  · simp only [up_n, ne_eq, Nat.reduceEqDiff, not_false_eq_true]; exact r3
  · simp only [up_n, ne_eq, Nat.reduceEqDiff, not_false_eq_true]; exact h6
  · rw [up_s, zu_ne (by omega), up_n (by decide)]; exact h7 d hd
theorem stF_43 {A A1 : Nat → Int → Int} {a : Int} {N : Nat} {p : List Int} {H : HS} {i v : Int} (h : stF A a N p H A1) (hi : (p.length : Int) < i) : stF A a N p H (va_up A1 43 (zu (A1 43) i v)) := by
  obtain ⟨⟨h1, h2, h3, h4⟩, ⟨r1, r2, r3⟩, h6, h7, h8⟩ := h
  refine ⟨⟨fun k k1 k2 k3 k4 k5 k6 => by rw [up_n k6]; exact h1 k k1 k2 k3 k4 k5 k6, ?_, ?_, ?_⟩, ⟨?_, r2, ?_⟩, ?_, fun d hd => ?_, h8⟩
  · simp only [up_n, ne_eq, Nat.reduceEqDiff, not_false_eq_true]; exact h2
  · simp only [up_n, ne_eq, Nat.reduceEqDiff, not_false_eq_true]; exact h3
  · simp only [up_n, ne_eq, Nat.reduceEqDiff, not_false_eq_true]; exact h4
  · simp only [up_n, ne_eq, Nat.reduceEqDiff, not_false_eq_true]; exact r1
  · simp only [up_n, ne_eq, Nat.reduceEqDiff, not_false_eq_true]; exact r3
  · simp only [up_n, ne_eq, Nat.reduceEqDiff, not_false_eq_true]; exact h6
  · rw [up_s, zu_ne (by omega), up_n (by decide)]; exact h7 d hd
theorem getD_snoc (p : List Int) (v : Int) (d : Nat) (hd : d < p.length + 1) : (p ++ [v]).getD d 0 = if d < p.length then p.getD d 0 else v := by
  split
  · rw [List.getD, List.getElem?_append_left (by assumption)]; rfl
  · have : d = p.length := by omega
    subst this
    simp
/-- one string more -/
theorem stF_snoc {A A1 : Nat → Int → Int} {a : Int} {N : Nat} {p : List Int} {H : HS} {v : Int} (h : stF A a N p H A1) (h1 : A1 41 p.length = v) (h2 : A1 42 (p.length + 1) = lsL (p ++ [v])) (h3 : A1 43 (p.length + 1) = msL (p ++ [v])) (hv : -1 ≤ v ∧ v ≤ 9) : stF A a N (p ++ [v]) H A1 := by
  obtain ⟨g1, g2, g3, g4, g5⟩ := h
  refine ⟨g1, g2, fun d hd => ?_, fun d hd => ?_, fun d hd => ?_⟩
  · rw [List.length_append, List.length_singleton] at hd
    rw [getD_snoc p v d hd]
    split
    · exact g3 d (by assumption)
    · rw [show d = p.length by omega]; exact h1
  · rw [List.length_append, List.length_singleton] at hd
    by_cases e : d ≤ p.length
    · rw [List.take_append_of_le_length e]; exact g4 d e
    · rw [List.take_of_length_le (by rw [List.length_append, List.length_singleton]; omega), show (d : Int) = (p.length : Int) + 1 by omega]
      exact ⟨h2, h3⟩
  · rw [List.length_append, List.length_singleton] at hd
    rw [getD_snoc p v d hd]
    split
    · exact g5 d (by assumption)
    · exact hv
theorem stF_init {A A1 : Nat → Int → Int} {a : Int} {N : Nat} {p : List Int} {H : HS} {v : Int} (h : stF A a N (p ++ [v]) H A1) : stF A a N p H A1 ∧ A1 41 p.length = v := by
  obtain ⟨g1, g2, g3, g4, g5⟩ := h
  have hl : (p ++ [v]).length = p.length + 1 := by rw [List.length_append, List.length_singleton]
  refine ⟨⟨g1, g2, fun d hd => ?_, fun d hd => ?_, fun d hd => ?_⟩, ?_⟩
  · rw [g3 d (by omega), getD_snoc p v d (by omega), if_pos hd]
  · rw [← List.take_append_of_le_length (l₂ := [v]) hd]; exact g4 d (by omega)
  · have := g5 d (by omega)
    rw [getD_snoc p v d (by omega), if_pos hd] at this
    exact this
  · have := g3 p.length (by omega)
    rw [getD_snoc p v _ (by omega), if_neg (by omega)] at this
    exact this
def hdA (I : Nat → Int) (A : Nat → Int → Int) (i bar : Int) : HS := hdX (A 23) (I 9).toNat bar (tsA A i) (tn (A 11 i)) (tn (A 13 i))
set_option maxHeartbeats 4000000 in
set_option maxRecDepth 100000 in
theorem qX11_find {l : Launch} {D : va_G} {cI : ClassId} {ad : Nat → Nat} {O : OT} {adK adV : Nat → Nat} (hO : OG O adK adV) {I : Nat → Int} {A : Nat → Int → Int} {i bar : Int} (hC : okC I A) (hi : 0 ≤ i ∧ i < I 6) (hb : 0 ≤ bar ∧ bar ≤ 7) (h9 : 0 ≤ I 9 ∧ I 9 ≤ 6) (hpt : ∀ s : Int, 0 ≤ s → s < I 9 → 0 ≤ A 23 s ∧ A 23 s ≤ 60) (hca : A 38 (8 * i + bar) = -1 ∨ repH A (8 * i + bar) (I 9).toNat (hdA I A i bar)) : MC l D cI ad O yX11_find cX11_find 8 (some .int) 3 [.ref (ad 0), .int (iZ i), .int (iZ bar)] (I, A) (pI fun r u2 => r = ((hdA I A i bar).length : Int) ∧ u2.1 = I ∧ frF A (8 * i + bar) u2.2 ∧ repH u2.2 (8 * i + bar) (I 9).toNat (hdA I A i bar)) := by
  refine ct_intro (own := RX11) (by decide) rfl hO.1 (Nat.le_of_ble_eq_true rfl) (by simp [Value.category]) (fun X J hJ => ?_)
  obtain ⟨⟨c1, c2⟩, c3⟩ := id hC
  obtain ⟨k1, k2, k3⟩ := c3 i hi.1 hi.2
  obtain ⟨a, hae⟩ : ∃ z, z = 8 * i + bar := ⟨_, rfl⟩
  obtain ⟨N, hNe⟩ : ∃ z : Nat, z = (I 9).toNat := ⟨_, rfl⟩
  have hN9 : (N : Int) = I 9 := by omega
  obtain ⟨tones, hte⟩ : ∃ z, z = tsA A i := ⟨_, rfl⟩
  obtain ⟨pt, hpe⟩ : ∃ z, z = A 23 := ⟨_, rfl⟩
  obtain ⟨rt, hre⟩ : ∃ z, z = tn (A 11 i) := ⟨_, rfl⟩
  obtain ⟨bs, hbe⟩ : ∃ z, z = tn (A 13 i) := ⟨_, rfl⟩
  have hhd : hdA I A i bar = hdX pt N bar tones rt bs := by unfold hdA; rw [hNe, hte, hpe, hre, hbe]
  rw [hhd, ← hae, ← hNe] at hJ
  rw [hhd, ← hae, ← hNe] at hca
  rw [← hpe] at hpt
  have hab : 0 ≤ a ∧ a < 480 := by omega
  have hcnt := cntN_in tones 12
  have hCw : ∀ {A1 : Nat → Int → Int}, frF A a A1 → okC I A1 := fun h => by
    unfold okC
    rw [h.1 11 (by decide) (by decide) (by decide) (by decide) (by decide) (by decide), h.1 12 (by decide) (by decide) (by decide) (by decide) (by decide) (by decide), h.1 13 (by decide) (by decide) (by decide) (by decide) (by decide) (by decide)]
    exact hC
  have hSw : ∀ {A1 : Nat → Int → Int} {p : List Int} {H : HS}, stF A a N p H A1 → p.length = N → MC l D cI ad O yX11_strain cX11_strain 12 (some .int) 2 [.ref (ad 0), .int (iZ i), .int (iZ bar), .int (iZ tones)] (I, A1) (pI fun r u2 => r = stL pt N bar tones rt bs p ∧ u2 = (I, A1)) := fun {A1 p H} h hl => by
    obtain ⟨g1, g2, g3, g4, g5⟩ := h
    have e23 : A1 23 = pt := by rw [g1.1 23 (by decide) (by decide) (by decide) (by decide) (by decide) (by decide), hpe]
    have hlm := lm_in g5
    have g4N := g4 N (by omega)
    rw [List.take_of_length_le (by omega), hN9] at g4N
    have := qX11_strain (l := l) (D := D) (cI := cI) (ad := ad) hO (I := I) (A := A1) (i := i) (bar := bar) (tones := tones) (hCw g1) hi h9 hb (fun s hs => ⟨by rw [g3 s (by omega)]; exact g5 s (by omega), by rw [e23]; exact hpt s (by omega) hs⟩) (by rw [g4N.1]; omega) (by rw [g4N.2]; omega) hcnt
    rw [← hNe, e23, g4N.1, g4N.2, g1.1 11 (by decide) (by decide) (by decide) (by decide) (by decide) (by decide), g1.1 13 (by decide) (by decide) (by decide) (by decide) (by decide) (by decide), ← hre, ← hbe, stX_eq (g := A1 41) (g2 := gL p) (fun s hs => by rw [g3 s (by omega)]; unfold gL; rw [Int.toNat_natCast])] at this
    exact this
  have dfs : ∀ (k c : Nat) (p : List Int) (H : HS) (A1 : Nat → Int → Int) (a6 a7 : Option Value), c ≤ 11 → p.length + k + 1 = N → stF A a N p H A1 → A1 41 p.length = 9 - (c : Int) → (∀ (A2 : Nat → Int → Int) (b6 b7 : Option Value), stF A a N p ((vals c).foldl (brH pt N bar tones rt bs k p) H) A2 → J 64 [some (.ref (ad 0)), some (.int (iZ (i))), some (.int (iZ (bar))), some (.int (iZ (a))), some (.int (iZ (tones))), some (.int (iZ ((p.length : Int) - 1))), b6, b7] [] (I, A2)) → J 64 [some (.ref (ad 0)), some (.int (iZ (i))), some (.int (iZ (bar))), some (.int (iZ (a))), some (.int (iZ (tones))), some (.int (iZ ((p.length : Int)))), a6, a7] [] (I, A1) := by
    intro k
    induction k with
    | zero =>
      intro c
      induction c with
      | zero =>
        intro p H A1 a6 a7 hc hpl hz0 h41 hC2
        refine v_ild5 (pc := 64) hJ dX11_find_64 ?_
        refine v_if_lt (tgt := 305) (pc := 66) hJ dX11_find_66 (by decide) (by omega) (fun h66 => ?_) (fun h66 => ?_)
        · omega
        · refine v_ald0 (pc := 69) hJ dX11_find_69 ?_
          refine mg9 (pc := 70) hJ dX11_find_70 ?_
          refine v_if_le (tgt := 305) (pc := 73) hJ dX11_find_73 (by decide) (by omega) (fun h73 => ?_) (fun h73 => ?_)
          · omega
          · refine v_ald0 (pc := 76) hJ dX11_find_76 ?_
            refine mg41 (pc := 77) hJ dX11_find_77 ?_
            refine v_ild5 (pc := 80) hJ dX11_find_80 ?_
            refine v_dup2 (pc := 82) hJ dX11_find_82 rfl rfl ?_
            refine ma41 (pc := 83) hJ (by omega) (by omega) dX11_find_83 ?_
            refine v_iconst (pc := 84) hJ dX11_find_84 ?_
            refine v_iadd (pc := 85) hJ dX11_find_85 ?_
            refine ms41 (pc := 86) hJ (by omega) (by omega) dX11_find_86 ?_
            
            refine v_ald0 (pc := 87) hJ dX11_find_87 ?_
            refine mg41 (pc := 88) hJ dX11_find_88 ?_
            refine v_ild5 (pc := 91) hJ dX11_find_91 ?_
            refine ma41 (pc := 93) hJ (by omega) (by omega) dX11_find_93 ?_
            try simp only [up_s, up_n, up_up, ne_eq, Nat.reduceEqDiff, not_false_eq_true]
            rw [zu_same, h41]
            refine v_ist6 (pc := 94) hJ dX11_find_94 (by decide) ?_
            refine v_ild6 (pc := 96) hJ dX11_find_96 ?_
            refine v_bipush (pc := 98) hJ dX11_find_98 (by decide) ?_
            refine v_icmp_le (tgt := 109) (pc := 100) hJ dX11_find_100 (by decide) (by omega) (by omega) (fun h100 => ?_) (fun h100 => ?_)
            · exfalso; omega
            · refine v_inc5 (pc := 103) hJ dX11_find_103 (by decide) ?_
              refine v_goto (tgt := 64) (pc := 106) hJ dX11_find_106 (by decide) ?_
              rw [show (p.length : Int) + -1 = (p.length : Int) - 1 by omega]
              exact hC2 _ _ _ (stF_41 hz0 (by omega))
      | succ c ihc =>
        intro p H A1 a6 a7 hc hpl hz0 h41 hC2
        obtain ⟨v, hve⟩ : ∃ z, z = 9 - (c : Int) := ⟨_, rfl⟩
        have hv : -1 ≤ v ∧ v ≤ 9 := by omega
        have hvs : (vals (c + 1)).foldl (brH pt N bar tones rt bs 0 p) H = (vals c).foldl (brH pt N bar tones rt bs 0 p) (brH pt N bar tones rt bs 0 p H v) := by rw [vals, hve]; rfl
        rw [hvs] at hC2
        have e41 : A1 41 (p.length : Int) + 1 = v := by omega
        have hst1 : stF A a N p H (va_up A1 41 (zu (A1 41) (p.length : Int) v)) := stF_41 hz0 (by omega)
        have hlm := lm_in hz0.2.2.2.2
        have g42 := (hz0.2.2.2.1 p.length (Nat.le_refl _)).1
        have g43 := (hz0.2.2.2.1 p.length (Nat.le_refl _)).2
        rw [List.take_length] at g42 g43
        have e23 : A1 23 = pt := by rw [hz0.1.1 23 (by decide) (by decide) (by decide) (by decide) (by decide) (by decide), hpe]
        have hptv := hpt (p.length : Int) (by omega) (by omega)
        have skip : ∀ (b6 b7 : Option Value) (A2 : Nat → Int → Int), stF A a N p H A2 → A2 41 p.length = v → ¬ okV pt bar tones p v → J 64 [some (.ref (ad 0)), some (.int (iZ (i))), some (.int (iZ (bar))), some (.int (iZ (a))), some (.int (iZ (tones))), some (.int (iZ ((p.length : Int)))), b6, b7] [] (I, A2) := fun b6 b7 A2 h h2 h3 => by
          rw [show brH pt N bar tones rt bs 0 p H v = H by unfold brH; rw [if_neg h3]] at hC2
          exact ihc p H A2 b6 b7 (by omega) hpl h (by omega) hC2
        have hst3 : stF A a N p H (va_up (va_up (va_up A1 41 (zu (A1 41) (p.length : Int) v)) 42 (zu (A1 42) ((p.length : Int) + 1) (lsF (lsL p) v))) 43 (zu (A1 43) ((p.length : Int) + 1) (msF (msL p) v))) := by
          have h2 := stF_42 (i := (p.length : Int) + 1) (v := lsF (lsL p) v) hst1 (by omega)
          have h3 := stF_43 (i := (p.length : Int) + 1) (v := msF (msL p) v) h2 (by omega)
          simp only [up_s, up_n, up_up, ne_eq, Nat.reduceEqDiff, not_false_eq_true] at h3
          exact h3
        have f41 : (va_up (va_up (va_up A1 41 (zu (A1 41) (p.length : Int) v)) 42 (zu (A1 42) ((p.length : Int) + 1) (lsF (lsL p) v))) 43 (zu (A1 43) ((p.length : Int) + 1) (msF (msL p) v))) 41 p.length = v := by simp only [up_s, up_n, up_up, ne_eq, Nat.reduceEqDiff, not_false_eq_true]; exact zu_same _ _ _
        have f42 : (va_up (va_up (va_up A1 41 (zu (A1 41) (p.length : Int) v)) 42 (zu (A1 42) ((p.length : Int) + 1) (lsF (lsL p) v))) 43 (zu (A1 43) ((p.length : Int) + 1) (msF (msL p) v))) 42 ((p.length : Int) + 1) = lsF (lsL p) v := by simp only [up_s, up_n, up_up, ne_eq, Nat.reduceEqDiff, not_false_eq_true]; exact zu_same _ _ _
        have f43 : (va_up (va_up (va_up A1 41 (zu (A1 41) (p.length : Int) v)) 42 (zu (A1 42) ((p.length : Int) + 1) (lsF (lsL p) v))) 43 (zu (A1 43) ((p.length : Int) + 1) (msF (msL p) v))) 43 ((p.length : Int) + 1) = msF (msL p) v := by simp only [up_s, up_n, up_up, ne_eq, Nat.reduceEqDiff, not_false_eq_true]; exact zu_same _ _ _
        have f9 : stF A a N (p ++ [v]) H (va_up (va_up (va_up A1 41 (zu (A1 41) (p.length : Int) v)) 42 (zu (A1 42) ((p.length : Int) + 1) (lsF (lsL p) v))) 43 (zu (A1 43) ((p.length : Int) + 1) (msF (msL p) v))) := stF_snoc hst3 f41 (by rw [f42, lsL_snoc]) (by rw [f43, msL_snoc]) hv
        have hlm2 := lm_in f9.2.2.2.2
        rw [lsL_snoc, msL_snoc] at hlm2
        have hpv : (p ++ [v]).length = p.length + 1 := by rw [List.length_append, List.length_singleton]
        generalize hA3 : (va_up (va_up (va_up A1 41 (zu (A1 41) (p.length : Int) v)) 42 (zu (A1 42) ((p.length : Int) + 1) (lsF (lsL p) v))) 43 (zu (A1 43) ((p.length : Int) + 1) (msF (msL p) v))) = A3 at hst3 f41 f42 f43 f9
        have j211 : (v < 0 ∨ zand (zshr tones ((pt p.length + bar + v).tmod 12)) 1 ≠ 0) → J 211 [some (.ref (ad 0)), some (.int (iZ (i))), some (.int (iZ (bar))), some (.int (iZ (a))), some (.int (iZ (tones))), some (.int (iZ ((p.length : Int)))), some (.int (iZ (v))), a7] [] (I, A3) := by
          intro hok1
          refine v_ald0 (pc := 211) hJ dX11_find_211 ?_
          refine mg42 (pc := 212) hJ dX11_find_212 ?_
          refine v_ild5 (pc := 215) hJ dX11_find_215 ?_
          refine v_iconst (pc := 217) hJ dX11_find_217 ?_
          refine v_iadd (pc := 218) hJ dX11_find_218 ?_
          refine ma42 (pc := 219) hJ (by omega) (by omega) dX11_find_219 ?_
          rw [f42]
          refine v_bipush (pc := 220) hJ dX11_find_220 (by decide) ?_
          
          refine v_icmp_ge (tgt := 251) (pc := 222) hJ dX11_find_222 (by decide) (by omega) (by omega) (fun h222 => ?_) (fun h222 => ?_)
          · refine v_ild5 (pc := 251) hJ dX11_find_251 ?_
            refine v_iconst (pc := 253) hJ dX11_find_253 ?_
            refine v_iadd (pc := 254) hJ dX11_find_254 ?_
            refine v_ald0 (pc := 255) hJ dX11_find_255 ?_
            refine mg9 (pc := 256) hJ dX11_find_256 ?_
            refine v_icmp_ge (tgt := 277) (pc := 259) hJ dX11_find_259 (by decide) (by omega) (by omega) (fun h259 => ?_) (fun h259 => ?_)
            · refine v_ald0 (pc := 277) hJ dX11_find_277 ?_
              refine v_ild1 (pc := 278) hJ dX11_find_278 ?_
              refine v_ild2 (pc := 279) hJ dX11_find_279 ?_
              refine v_ild4 (pc := 280) hJ dX11_find_280 ?_
              refine v_cV3i (pc := 282) (q0 := 0) (ci := 8) hJ rfl rfl lkX11_267 (hSw f9 (by omega)) (Nat.le_of_ble_eq_true rfl) (rOk_L (by decide) (by decide)) dX11_find_282 (fun r282 u282 g282 => ?_)
              obtain ⟨rfl, rfl⟩ := g282
              have hokv : okV pt bar tones p v := ⟨hok1, by rw [lsL_snoc, msL_snoc]; omega⟩
              have hsr : inR (stL pt N bar tones rt bs (p ++ [v])) := by
                have b1 := st_b (gL (p ++ [v])) pt bar (lsL (p ++ [v])) N
                have hm9 := (lm_in f9.2.2.2.2).2
                unfold stL stX
                repeat' split
                all_goals omega
              refine v_ist7 (pc := 285) hJ dX11_find_285 (by decide) ?_
              refine v_ild7 (pc := 287) hJ dX11_find_287 ?_
              refine v_ldcwK (pc := 289) hJ dX11_find_289 k_const_X11_271 ?_
              refine v_icmp_ge (tgt := 302) (pc := 292) hJ dX11_find_292 (by decide) hsr (by decide) (fun h292 => ?_) (fun h292 => ?_)
              · have ebr : brH pt N bar tones rt bs 0 p H v = leafH pt N bar tones rt bs (p ++ [v]) H := by unfold brH; rw [if_pos hokv]; rfl
                rw [ebr] at hC2
                unfold leafH at hC2
                rw [if_neg (by omega)] at hC2
                refine v_goto (tgt := 64) (pc := 302) hJ dX11_find_302 (by decide) ?_
                exact ihc p H A3 _ _ (by omega) hpl hst3 (by omega) hC2
              · refine v_ald0 (pc := 295) hJ dX11_find_295 ?_
                refine v_ild3 (pc := 296) hJ dX11_find_296 ?_
                refine v_ild7 (pc := 297) hJ dX11_find_297 ?_
                refine v_cV2v (pc := 299) (q0 := 0) (ci := 8) hJ rfl rfl lkX11_272 (qX11_comes hO hab hsr (by rw [f9.2.1.1]; have := f9.2.1.2.1; omega) (fun j j0 j1 => by rw [f9.2.1.1] at j1; have := ((f9.2.1.2.2 j.toNat (by omega)).1).2; rw [show ((j.toNat : Nat) : Int) = j by omega] at this; exact this) h9) (Nat.le_of_ble_eq_true rfl) (rOk_L (by decide) (by decide)) dX11_find_299 (fun u299 g299 => ?_)
                have ebr : brH pt N bar tones rt bs 0 p H v = insH H (stL pt N bar tones rt bs (p ++ [v])) (p ++ [v]) := by
                  unfold brH
                  rw [if_pos hokv]
                  show leafH pt N bar tones rt bs (p ++ [v]) H = _
                  unfold leafH
                  rw [if_pos (by omega)]
                rw [ebr] at hC2
                obtain ⟨I9, A9⟩ := u299
                rw [rep_pos f9.2.1] at g299
                have hrep := f9.2.1
                have done9 : J 302 [some (.ref (ad 0)), some (.int (iZ (i))), some (.int (iZ (bar))), some (.int (iZ (a))), some (.int (iZ (tones))), some (.int (iZ ((p.length : Int)))), some (.int (iZ (v))), some (.int (iZ (stL pt N bar tones rt bs (p ++ [v]))))] [] (I9, A9) := by
                  rcases (show posN (hst H) (stL pt N bar tones rt bs (p ++ [v])) H.length = 6 ∨ posN (hst H) (stL pt N bar tones rt bs (p ++ [v])) H.length < 6 by have := posN_le (hst H) (stL pt N bar tones rt bs (p ++ [v])) H.length; have := hrep.2.1; omega) with h6 | h6
                  · have e9 := g299.1 h6
                    obtain ⟨rfl, rfl⟩ := Prod.mk.inj e9
                    rw [rep_full hrep.2.1 h6] at hC2
                    refine v_goto (tgt := 64) (pc := 302) hJ dX11_find_302 (by decide) ?_
                    exact ihc p H A9 _ _ (by omega) hpl hst3 (by omega) hC2
                  · have e9 := g299.2 h6
                    have hr9 := rep_ins (p := p ++ [v]) hsr hN9.symm (by omega) hrep (fun s hs => by rw [f9.2.2.1 s (by omega)]) h6 rfl e9
                    obtain ⟨e90, e91, e92, e93, e94⟩ := e9
                    dsimp only at e90 e91 e92 e93 e94 hr9
                    subst e90
                    have hM9 : 0 ≤ A3 38 a ∧ A3 38 a ≤ 6 := by rw [hrep.1]; have := hrep.2.1; omega
                    have hp9 := posN_le (hst H) (stL pt N bar tones rt bs (p ++ [v])) H.length
                    have hst9 : stF A a N p (insH H (stL pt N bar tones rt bs (p ++ [v])) (p ++ [v])) A9 := by
                      obtain ⟨q1, q2, q3, q4, q5⟩ := hst3
                      refine ⟨⟨fun k x1 x2 x3 x4 x5 x6 => by rw [e91 k x1 x2 x3]; exact q1.1 k x1 x2 x3 x4 x5 x6, fun q hq => by rw [e92 q, if_neg hq]; exact q1.2.1 q hq, fun q hq => ?_, fun q hq => ?_⟩, hr9, fun d hd => by rw [e91 41 (by decide) (by decide) (by decide)]; exact q3 d hd, fun d hd => by rw [e91 42 (by decide) (by decide) (by decide), e91 43 (by decide) (by decide) (by decide)]; exact q4 d hd, q5⟩
                      · rw [e93 q, if_neg (by omega), if_neg (by split <;> omega)]; exact q1.2.2.1 q hq
                      · rw [e94 q, if_neg (by omega), if_neg (by split <;> omega)]; exact q1.2.2.2 q hq
                    refine v_goto (tgt := 64) (pc := 302) hJ dX11_find_302 (by decide) ?_
                    exact ihc p _ A9 _ _ (by omega) hpl hst9 (by rw [e91 41 (by decide) (by decide) (by decide)]; omega) hC2
                try simp only [up_s, up_n, up_up, ne_eq, Nat.reduceEqDiff, not_false_eq_true]
                exact done9
            · exfalso; omega
          · refine v_ald0 (pc := 225) hJ dX11_find_225 ?_
            refine mg43 (pc := 226) hJ dX11_find_226 ?_
            refine v_ild5 (pc := 229) hJ dX11_find_229 ?_
            refine v_iconst (pc := 231) hJ dX11_find_231 ?_
            refine v_iadd (pc := 232) hJ dX11_find_232 ?_
            refine ma43 (pc := 233) hJ (by omega) (by omega) dX11_find_233 ?_
            rw [f43]
            refine v_ald0 (pc := 234) hJ dX11_find_234 ?_
            refine mg42 (pc := 235) hJ dX11_find_235 ?_
            refine v_ild5 (pc := 238) hJ dX11_find_238 ?_
            refine v_iconst (pc := 240) hJ dX11_find_240 ?_
            refine v_iadd (pc := 241) hJ dX11_find_241 ?_
            refine ma42 (pc := 242) hJ (by omega) (by omega) dX11_find_242 ?_
            rw [f42]
            refine v_isub (pc := 243) hJ dX11_find_243 ?_
            refine v_iconst (pc := 244) hJ dX11_find_244 ?_
            refine v_icmp_le (tgt := 251) (pc := 245) hJ dX11_find_245 (by decide) (by omega) (by omega) (fun h245 => ?_) (fun h245 => ?_)
            · refine v_ild5 (pc := 251) hJ dX11_find_251 ?_
              refine v_iconst (pc := 253) hJ dX11_find_253 ?_
              refine v_iadd (pc := 254) hJ dX11_find_254 ?_
              refine v_ald0 (pc := 255) hJ dX11_find_255 ?_
              refine mg9 (pc := 256) hJ dX11_find_256 ?_
              refine v_icmp_ge (tgt := 277) (pc := 259) hJ dX11_find_259 (by decide) (by omega) (by omega) (fun h259 => ?_) (fun h259 => ?_)
              · refine v_ald0 (pc := 277) hJ dX11_find_277 ?_
                refine v_ild1 (pc := 278) hJ dX11_find_278 ?_
                refine v_ild2 (pc := 279) hJ dX11_find_279 ?_
                refine v_ild4 (pc := 280) hJ dX11_find_280 ?_
                refine v_cV3i (pc := 282) (q0 := 0) (ci := 8) hJ rfl rfl lkX11_267 (hSw f9 (by omega)) (Nat.le_of_ble_eq_true rfl) (rOk_L (by decide) (by decide)) dX11_find_282 (fun r282 u282 g282 => ?_)
                obtain ⟨rfl, rfl⟩ := g282
                have hokv : okV pt bar tones p v := ⟨hok1, by rw [lsL_snoc, msL_snoc]; omega⟩
                have hsr : inR (stL pt N bar tones rt bs (p ++ [v])) := by
                  have b1 := st_b (gL (p ++ [v])) pt bar (lsL (p ++ [v])) N
                  have hm9 := (lm_in f9.2.2.2.2).2
                  unfold stL stX
                  repeat' split
                  all_goals omega
                refine v_ist7 (pc := 285) hJ dX11_find_285 (by decide) ?_
                refine v_ild7 (pc := 287) hJ dX11_find_287 ?_
                refine v_ldcwK (pc := 289) hJ dX11_find_289 k_const_X11_271 ?_
                refine v_icmp_ge (tgt := 302) (pc := 292) hJ dX11_find_292 (by decide) hsr (by decide) (fun h292 => ?_) (fun h292 => ?_)
                · have ebr : brH pt N bar tones rt bs 0 p H v = leafH pt N bar tones rt bs (p ++ [v]) H := by unfold brH; rw [if_pos hokv]; rfl
                  rw [ebr] at hC2
                  unfold leafH at hC2
                  rw [if_neg (by omega)] at hC2
                  refine v_goto (tgt := 64) (pc := 302) hJ dX11_find_302 (by decide) ?_
                  exact ihc p H A3 _ _ (by omega) hpl hst3 (by omega) hC2
                · refine v_ald0 (pc := 295) hJ dX11_find_295 ?_
                  refine v_ild3 (pc := 296) hJ dX11_find_296 ?_
                  refine v_ild7 (pc := 297) hJ dX11_find_297 ?_
                  refine v_cV2v (pc := 299) (q0 := 0) (ci := 8) hJ rfl rfl lkX11_272 (qX11_comes hO hab hsr (by rw [f9.2.1.1]; have := f9.2.1.2.1; omega) (fun j j0 j1 => by rw [f9.2.1.1] at j1; have := ((f9.2.1.2.2 j.toNat (by omega)).1).2; rw [show ((j.toNat : Nat) : Int) = j by omega] at this; exact this) h9) (Nat.le_of_ble_eq_true rfl) (rOk_L (by decide) (by decide)) dX11_find_299 (fun u299 g299 => ?_)
                  have ebr : brH pt N bar tones rt bs 0 p H v = insH H (stL pt N bar tones rt bs (p ++ [v])) (p ++ [v]) := by
                    unfold brH
                    rw [if_pos hokv]
                    show leafH pt N bar tones rt bs (p ++ [v]) H = _
                    unfold leafH
                    rw [if_pos (by omega)]
                  rw [ebr] at hC2
                  obtain ⟨I9, A9⟩ := u299
                  rw [rep_pos f9.2.1] at g299
                  have hrep := f9.2.1
                  have done9 : J 302 [some (.ref (ad 0)), some (.int (iZ (i))), some (.int (iZ (bar))), some (.int (iZ (a))), some (.int (iZ (tones))), some (.int (iZ ((p.length : Int)))), some (.int (iZ (v))), some (.int (iZ (stL pt N bar tones rt bs (p ++ [v]))))] [] (I9, A9) := by
                    rcases (show posN (hst H) (stL pt N bar tones rt bs (p ++ [v])) H.length = 6 ∨ posN (hst H) (stL pt N bar tones rt bs (p ++ [v])) H.length < 6 by have := posN_le (hst H) (stL pt N bar tones rt bs (p ++ [v])) H.length; have := hrep.2.1; omega) with h6 | h6
                    · have e9 := g299.1 h6
                      obtain ⟨rfl, rfl⟩ := Prod.mk.inj e9
                      rw [rep_full hrep.2.1 h6] at hC2
                      refine v_goto (tgt := 64) (pc := 302) hJ dX11_find_302 (by decide) ?_
                      exact ihc p H A9 _ _ (by omega) hpl hst3 (by omega) hC2
                    · have e9 := g299.2 h6
                      have hr9 := rep_ins (p := p ++ [v]) hsr hN9.symm (by omega) hrep (fun s hs => by rw [f9.2.2.1 s (by omega)]) h6 rfl e9
                      obtain ⟨e90, e91, e92, e93, e94⟩ := e9
                      dsimp only at e90 e91 e92 e93 e94 hr9
                      subst e90
                      have hM9 : 0 ≤ A3 38 a ∧ A3 38 a ≤ 6 := by rw [hrep.1]; have := hrep.2.1; omega
                      have hp9 := posN_le (hst H) (stL pt N bar tones rt bs (p ++ [v])) H.length
                      have hst9 : stF A a N p (insH H (stL pt N bar tones rt bs (p ++ [v])) (p ++ [v])) A9 := by
                        obtain ⟨q1, q2, q3, q4, q5⟩ := hst3
                        refine ⟨⟨fun k x1 x2 x3 x4 x5 x6 => by rw [e91 k x1 x2 x3]; exact q1.1 k x1 x2 x3 x4 x5 x6, fun q hq => by rw [e92 q, if_neg hq]; exact q1.2.1 q hq, fun q hq => ?_, fun q hq => ?_⟩, hr9, fun d hd => by rw [e91 41 (by decide) (by decide) (by decide)]; exact q3 d hd, fun d hd => by rw [e91 42 (by decide) (by decide) (by decide), e91 43 (by decide) (by decide) (by decide)]; exact q4 d hd, q5⟩
                        · rw [e93 q, if_neg (by omega), if_neg (by split <;> omega)]; exact q1.2.2.1 q hq
                        · rw [e94 q, if_neg (by omega), if_neg (by split <;> omega)]; exact q1.2.2.2 q hq
                      refine v_goto (tgt := 64) (pc := 302) hJ dX11_find_302 (by decide) ?_
                      exact ihc p _ A9 _ _ (by omega) hpl hst9 (by rw [e91 41 (by decide) (by decide) (by decide)]; omega) hC2
                  try simp only [up_s, up_n, up_up, ne_eq, Nat.reduceEqDiff, not_false_eq_true]
                  exact done9
              · exfalso; omega
            · refine v_goto (tgt := 64) (pc := 248) hJ dX11_find_248 (by decide) ?_
              exact skip _ _ _ hst3 f41 (fun q => q.2 (by rw [lsL_snoc, msL_snoc]; omega))
        have j177 : (v < 0 ∨ zand (zshr tones ((pt p.length + bar + v).tmod 12)) 1 ≠ 0) → J 177 [some (.ref (ad 0)), some (.int (iZ (i))), some (.int (iZ (bar))), some (.int (iZ (a))), some (.int (iZ (tones))), some (.int (iZ ((p.length : Int)))), some (.int (iZ (v))), a7] [.int (iZ (lsF (lsL p) v)), .int (iZ ((p.length : Int) + 1)), .ref (ad 42)] (I, va_up A1 41 (zu (A1 41) (p.length : Int) v)) := by
          intro hok1
          have j211' := j211 hok1
          rw [← hA3] at j211'
          refine ms42 (pc := 177) hJ (by omega) (by omega) dX11_find_177 ?_
          refine v_ald0 (pc := 178) hJ dX11_find_178 ?_
          refine mg43 (pc := 179) hJ dX11_find_179 ?_
          refine v_ild5 (pc := 182) hJ dX11_find_182 ?_
          refine v_iconst (pc := 184) hJ dX11_find_184 ?_
          refine v_iadd (pc := 185) hJ dX11_find_185 ?_
          refine v_ild6 (pc := 186) hJ dX11_find_186 ?_
          
          refine v_ald0 (pc := 188) hJ dX11_find_188 ?_
          refine mg43 (pc := 189) hJ dX11_find_189 ?_
          refine v_ild5 (pc := 192) hJ dX11_find_192 ?_
          refine ma43 (pc := 194) hJ (by omega) (by omega) dX11_find_194 ?_
          try simp only [up_s, up_n, up_up, ne_eq, Nat.reduceEqDiff, not_false_eq_true]
          rw [g43]
          refine v_icmp_le (tgt := 203) (pc := 195) hJ dX11_find_195 (by decide) (by omega) (by omega) (fun h195 => ?_) (fun h195 => ?_)
          · refine v_ald0 (pc := 203) hJ dX11_find_203 ?_
            refine mg43 (pc := 204) hJ dX11_find_204 ?_
            refine v_ild5 (pc := 207) hJ dX11_find_207 ?_
            refine ma43 (pc := 209) hJ (by omega) (by omega) dX11_find_209 ?_
            try simp only [up_s, up_n, up_up, ne_eq, Nat.reduceEqDiff, not_false_eq_true]
            first
              | (rw [show msF (msL p) v = v by unfold msF; rw [if_pos (by omega)]] at j211'
                 refine ms43 (pc := 210) hJ (by omega) (by omega) dX11_find_210 ?_
                 simp only [up_s, up_n, up_up, ne_eq, Nat.reduceEqDiff, not_false_eq_true]
                 exact j211')
              | (rw [g43]
                 rw [show msF (msL p) v = msL p by unfold msF; rw [if_neg (by omega)]] at j211'
                 refine ms43 (pc := 210) hJ (by omega) (by omega) dX11_find_210 ?_
                 simp only [up_s, up_n, up_up, ne_eq, Nat.reduceEqDiff, not_false_eq_true]
                 exact j211')
          · refine v_ild6 (pc := 198) hJ dX11_find_198 ?_
            refine v_goto (tgt := 210) (pc := 200) hJ dX11_find_200 (by decide) ?_
            first
              | (rw [show msF (msL p) v = v by unfold msF; rw [if_pos (by omega)]] at j211'
                 refine ms43 (pc := 210) hJ (by omega) (by omega) dX11_find_210 ?_
                 simp only [up_s, up_n, up_up, ne_eq, Nat.reduceEqDiff, not_false_eq_true]
                 exact j211')
              | (rw [g43]
                 rw [show msF (msL p) v = msL p by unfold msF; rw [if_neg (by omega)]] at j211'
                 refine ms43 (pc := 210) hJ (by omega) (by omega) dX11_find_210 ?_
                 simp only [up_s, up_n, up_up, ne_eq, Nat.reduceEqDiff, not_false_eq_true]
                 exact j211')
        have j140 : (v < 0 ∨ zand (zshr tones ((pt p.length + bar + v).tmod 12)) 1 ≠ 0) → J 140 [some (.ref (ad 0)), some (.int (iZ (i))), some (.int (iZ (bar))), some (.int (iZ (a))), some (.int (iZ (tones))), some (.int (iZ ((p.length : Int)))), some (.int (iZ (v))), a7] [] (I, va_up A1 41 (zu (A1 41) (p.length : Int) v)) := by
          intro hok1
          have j177' := j177 hok1
          refine v_ald0 (pc := 140) hJ dX11_find_140 ?_
          refine mg42 (pc := 141) hJ dX11_find_141 ?_
          refine v_ild5 (pc := 144) hJ dX11_find_144 ?_
          refine v_iconst (pc := 146) hJ dX11_find_146 ?_
          refine v_iadd (pc := 147) hJ dX11_find_147 ?_
          refine v_ild6 (pc := 148) hJ dX11_find_148 ?_
          refine v_if_le (tgt := 170) (pc := 150) hJ dX11_find_150 (by decide) (by omega) (fun h150 => ?_) (fun h150 => ?_)
          · refine v_ald0 (pc := 170) hJ dX11_find_170 ?_
            refine mg42 (pc := 171) hJ dX11_find_171 ?_
            refine v_ild5 (pc := 174) hJ dX11_find_174 ?_
            refine ma42 (pc := 176) hJ (by omega) (by omega) dX11_find_176 ?_
            try simp only [up_s, up_n, up_up, ne_eq, Nat.reduceEqDiff, not_false_eq_true]
            first
              | (rw [show lsF (lsL p) v = v by unfold lsF; rw [if_pos (by omega)]] at j177'; exact j177')
              | (rw [g42]; rw [show lsF (lsL p) v = lsL p by unfold lsF; rw [if_neg (by omega)]] at j177'; exact j177')
          · refine v_ild6 (pc := 153) hJ dX11_find_153 ?_
            refine v_ald0 (pc := 155) hJ dX11_find_155 ?_
            refine mg42 (pc := 156) hJ dX11_find_156 ?_
            refine v_ild5 (pc := 159) hJ dX11_find_159 ?_
            refine ma42 (pc := 161) hJ (by omega) (by omega) dX11_find_161 ?_
            try simp only [up_s, up_n, up_up, ne_eq, Nat.reduceEqDiff, not_false_eq_true]
            rw [g42]
            refine v_icmp_ge (tgt := 170) (pc := 162) hJ dX11_find_162 (by decide) (by omega) (by omega) (fun h162 => ?_) (fun h162 => ?_)
            · refine v_ald0 (pc := 170) hJ dX11_find_170 ?_
              refine mg42 (pc := 171) hJ dX11_find_171 ?_
              refine v_ild5 (pc := 174) hJ dX11_find_174 ?_
              refine ma42 (pc := 176) hJ (by omega) (by omega) dX11_find_176 ?_
              try simp only [up_s, up_n, up_up, ne_eq, Nat.reduceEqDiff, not_false_eq_true]
              first
                | (rw [show lsF (lsL p) v = v by unfold lsF; rw [if_pos (by omega)]] at j177'; exact j177')
                | (rw [g42]; rw [show lsF (lsL p) v = lsL p by unfold lsF; rw [if_neg (by omega)]] at j177'; exact j177')
            · refine v_ild6 (pc := 165) hJ dX11_find_165 ?_
              refine v_goto (tgt := 177) (pc := 167) hJ dX11_find_167 (by decide) ?_
              first
                | (rw [show lsF (lsL p) v = v by unfold lsF; rw [if_pos (by omega)]] at j177'; exact j177')
                | (rw [g42]; rw [show lsF (lsL p) v = lsL p by unfold lsF; rw [if_neg (by omega)]] at j177'; exact j177')
        refine v_ild5 (pc := 64) hJ dX11_find_64 ?_
        refine v_if_lt (tgt := 305) (pc := 66) hJ dX11_find_66 (by decide) (by omega) (fun h66 => ?_) (fun h66 => ?_)
        · omega
        · refine v_ald0 (pc := 69) hJ dX11_find_69 ?_
          refine mg9 (pc := 70) hJ dX11_find_70 ?_
          refine v_if_le (tgt := 305) (pc := 73) hJ dX11_find_73 (by decide) (by omega) (fun h73 => ?_) (fun h73 => ?_)
          · omega
          · refine v_ald0 (pc := 76) hJ dX11_find_76 ?_
            refine mg41 (pc := 77) hJ dX11_find_77 ?_
            refine v_ild5 (pc := 80) hJ dX11_find_80 ?_
            refine v_dup2 (pc := 82) hJ dX11_find_82 rfl rfl ?_
            refine ma41 (pc := 83) hJ (by omega) (by omega) dX11_find_83 ?_
            refine v_iconst (pc := 84) hJ dX11_find_84 ?_
            refine v_iadd (pc := 85) hJ dX11_find_85 ?_
            rw [e41]
            refine ms41 (pc := 86) hJ (by omega) (by omega) dX11_find_86 ?_
            refine v_ald0 (pc := 87) hJ dX11_find_87 ?_
            refine mg41 (pc := 88) hJ dX11_find_88 ?_
            refine v_ild5 (pc := 91) hJ dX11_find_91 ?_
            refine ma41 (pc := 93) hJ (by omega) (by omega) dX11_find_93 ?_
            try simp only [up_s, up_n, up_up, ne_eq, Nat.reduceEqDiff, not_false_eq_true]
            rw [zu_same]
            refine v_ist6 (pc := 94) hJ dX11_find_94 (by decide) ?_
            refine v_ild6 (pc := 96) hJ dX11_find_96 ?_
            refine v_bipush (pc := 98) hJ dX11_find_98 (by decide) ?_
            refine v_icmp_le (tgt := 109) (pc := 100) hJ dX11_find_100 (by decide) (by omega) (by omega) (fun h100 => ?_) (fun h100 => ?_)
            · refine v_ild6 (pc := 109) hJ dX11_find_109 ?_
              refine v_if_lt (tgt := 140) (pc := 111) hJ dX11_find_111 (by decide) (by omega) (fun h111 => ?_) (fun h111 => ?_)
              · exact j140 (Or.inl (by omega))
              · refine v_ild4 (pc := 114) hJ dX11_find_114 ?_
                refine v_ald0 (pc := 116) hJ dX11_find_116 ?_
                refine mg23 (pc := 117) hJ dX11_find_117 ?_
                refine v_ild5 (pc := 120) hJ dX11_find_120 ?_
                refine ma23 (pc := 122) hJ (by omega) (by omega) dX11_find_122 ?_
                try simp only [up_s, up_n, up_up, ne_eq, Nat.reduceEqDiff, not_false_eq_true]
                rw [e23]
                refine v_ild2 (pc := 123) hJ dX11_find_123 ?_
                refine v_iadd (pc := 124) hJ dX11_find_124 ?_
                refine v_ild6 (pc := 125) hJ dX11_find_125 ?_
                refine v_iadd (pc := 127) hJ dX11_find_127 ?_
                refine v_bipush (pc := 128) hJ dX11_find_128 (by decide) ?_
                refine v_irem (pc := 130) hJ dX11_find_130 (by omega) (by omega) (by omega) ?_
                refine v_ishr (pc := 131) hJ dX11_find_131 ?_
                refine v_iconst (pc := 132) hJ dX11_find_132 ?_
                refine v_iand (pc := 133) hJ dX11_find_133 ?_
                refine v_if_ne (tgt := 140) (pc := 134) hJ dX11_find_134 (by decide) (inR_zand _ _) (fun h134 => ?_) (fun h134 => ?_)
                · exact j140 (Or.inr h134)
                · refine v_goto (tgt := 64) (pc := 137) hJ dX11_find_137 (by decide) ?_
                  exact skip _ _ _ hst1 (by simp only [up_s, up_n, up_up, ne_eq, Nat.reduceEqDiff, not_false_eq_true]; exact zu_same _ _ _) (fun q => by rcases q.1 with q | q; omega; exact q h134)
            · exfalso; omega
    | succ k ihk =>
      intro c
      induction c with
      | zero =>
        intro p H A1 a6 a7 hc hpl hz0 h41 hC2
        refine v_ild5 (pc := 64) hJ dX11_find_64 ?_
        refine v_if_lt (tgt := 305) (pc := 66) hJ dX11_find_66 (by decide) (by omega) (fun h66 => ?_) (fun h66 => ?_)
        · omega
        · refine v_ald0 (pc := 69) hJ dX11_find_69 ?_
          refine mg9 (pc := 70) hJ dX11_find_70 ?_
          refine v_if_le (tgt := 305) (pc := 73) hJ dX11_find_73 (by decide) (by omega) (fun h73 => ?_) (fun h73 => ?_)
          · omega
          · refine v_ald0 (pc := 76) hJ dX11_find_76 ?_
            refine mg41 (pc := 77) hJ dX11_find_77 ?_
            refine v_ild5 (pc := 80) hJ dX11_find_80 ?_
            refine v_dup2 (pc := 82) hJ dX11_find_82 rfl rfl ?_
            refine ma41 (pc := 83) hJ (by omega) (by omega) dX11_find_83 ?_
            refine v_iconst (pc := 84) hJ dX11_find_84 ?_
            refine v_iadd (pc := 85) hJ dX11_find_85 ?_
            refine ms41 (pc := 86) hJ (by omega) (by omega) dX11_find_86 ?_
            
            refine v_ald0 (pc := 87) hJ dX11_find_87 ?_
            refine mg41 (pc := 88) hJ dX11_find_88 ?_
            refine v_ild5 (pc := 91) hJ dX11_find_91 ?_
            refine ma41 (pc := 93) hJ (by omega) (by omega) dX11_find_93 ?_
            try simp only [up_s, up_n, up_up, ne_eq, Nat.reduceEqDiff, not_false_eq_true]
            rw [zu_same, h41]
            refine v_ist6 (pc := 94) hJ dX11_find_94 (by decide) ?_
            refine v_ild6 (pc := 96) hJ dX11_find_96 ?_
            refine v_bipush (pc := 98) hJ dX11_find_98 (by decide) ?_
            refine v_icmp_le (tgt := 109) (pc := 100) hJ dX11_find_100 (by decide) (by omega) (by omega) (fun h100 => ?_) (fun h100 => ?_)
            · exfalso; omega
            · refine v_inc5 (pc := 103) hJ dX11_find_103 (by decide) ?_
              refine v_goto (tgt := 64) (pc := 106) hJ dX11_find_106 (by decide) ?_
              rw [show (p.length : Int) + -1 = (p.length : Int) - 1 by omega]
              exact hC2 _ _ _ (stF_41 hz0 (by omega))
      | succ c ihc =>
        intro p H A1 a6 a7 hc hpl hz0 h41 hC2
        obtain ⟨v, hve⟩ : ∃ z, z = 9 - (c : Int) := ⟨_, rfl⟩
        have hv : -1 ≤ v ∧ v ≤ 9 := by omega
        have hvs : (vals (c + 1)).foldl (brH pt N bar tones rt bs (k + 1) p) H = (vals c).foldl (brH pt N bar tones rt bs (k + 1) p) (brH pt N bar tones rt bs (k + 1) p H v) := by rw [vals, hve]; rfl
        rw [hvs] at hC2
        have e41 : A1 41 (p.length : Int) + 1 = v := by omega
        have hst1 : stF A a N p H (va_up A1 41 (zu (A1 41) (p.length : Int) v)) := stF_41 hz0 (by omega)
        have hlm := lm_in hz0.2.2.2.2
        have g42 := (hz0.2.2.2.1 p.length (Nat.le_refl _)).1
        have g43 := (hz0.2.2.2.1 p.length (Nat.le_refl _)).2
        rw [List.take_length] at g42 g43
        have e23 : A1 23 = pt := by rw [hz0.1.1 23 (by decide) (by decide) (by decide) (by decide) (by decide) (by decide), hpe]
        have hptv := hpt (p.length : Int) (by omega) (by omega)
        have skip : ∀ (b6 b7 : Option Value) (A2 : Nat → Int → Int), stF A a N p H A2 → A2 41 p.length = v → ¬ okV pt bar tones p v → J 64 [some (.ref (ad 0)), some (.int (iZ (i))), some (.int (iZ (bar))), some (.int (iZ (a))), some (.int (iZ (tones))), some (.int (iZ ((p.length : Int)))), b6, b7] [] (I, A2) := fun b6 b7 A2 h h2 h3 => by
          rw [show brH pt N bar tones rt bs (k + 1) p H v = H by unfold brH; rw [if_neg h3]] at hC2
          exact ihc p H A2 b6 b7 (by omega) hpl h (by omega) hC2
        have hst3 : stF A a N p H (va_up (va_up (va_up A1 41 (zu (A1 41) (p.length : Int) v)) 42 (zu (A1 42) ((p.length : Int) + 1) (lsF (lsL p) v))) 43 (zu (A1 43) ((p.length : Int) + 1) (msF (msL p) v))) := by
          have h2 := stF_42 (i := (p.length : Int) + 1) (v := lsF (lsL p) v) hst1 (by omega)
          have h3 := stF_43 (i := (p.length : Int) + 1) (v := msF (msL p) v) h2 (by omega)
          simp only [up_s, up_n, up_up, ne_eq, Nat.reduceEqDiff, not_false_eq_true] at h3
          exact h3
        have f41 : (va_up (va_up (va_up A1 41 (zu (A1 41) (p.length : Int) v)) 42 (zu (A1 42) ((p.length : Int) + 1) (lsF (lsL p) v))) 43 (zu (A1 43) ((p.length : Int) + 1) (msF (msL p) v))) 41 p.length = v := by simp only [up_s, up_n, up_up, ne_eq, Nat.reduceEqDiff, not_false_eq_true]; exact zu_same _ _ _
        have f42 : (va_up (va_up (va_up A1 41 (zu (A1 41) (p.length : Int) v)) 42 (zu (A1 42) ((p.length : Int) + 1) (lsF (lsL p) v))) 43 (zu (A1 43) ((p.length : Int) + 1) (msF (msL p) v))) 42 ((p.length : Int) + 1) = lsF (lsL p) v := by simp only [up_s, up_n, up_up, ne_eq, Nat.reduceEqDiff, not_false_eq_true]; exact zu_same _ _ _
        have f43 : (va_up (va_up (va_up A1 41 (zu (A1 41) (p.length : Int) v)) 42 (zu (A1 42) ((p.length : Int) + 1) (lsF (lsL p) v))) 43 (zu (A1 43) ((p.length : Int) + 1) (msF (msL p) v))) 43 ((p.length : Int) + 1) = msF (msL p) v := by simp only [up_s, up_n, up_up, ne_eq, Nat.reduceEqDiff, not_false_eq_true]; exact zu_same _ _ _
        have f9 : stF A a N (p ++ [v]) H (va_up (va_up (va_up A1 41 (zu (A1 41) (p.length : Int) v)) 42 (zu (A1 42) ((p.length : Int) + 1) (lsF (lsL p) v))) 43 (zu (A1 43) ((p.length : Int) + 1) (msF (msL p) v))) := stF_snoc hst3 f41 (by rw [f42, lsL_snoc]) (by rw [f43, msL_snoc]) hv
        have hlm2 := lm_in f9.2.2.2.2
        rw [lsL_snoc, msL_snoc] at hlm2
        have hpv : (p ++ [v]).length = p.length + 1 := by rw [List.length_append, List.length_singleton]
        generalize hA3 : (va_up (va_up (va_up A1 41 (zu (A1 41) (p.length : Int) v)) 42 (zu (A1 42) ((p.length : Int) + 1) (lsF (lsL p) v))) 43 (zu (A1 43) ((p.length : Int) + 1) (msF (msL p) v))) = A3 at hst3 f41 f42 f43 f9
        have j211 : (v < 0 ∨ zand (zshr tones ((pt p.length + bar + v).tmod 12)) 1 ≠ 0) → J 211 [some (.ref (ad 0)), some (.int (iZ (i))), some (.int (iZ (bar))), some (.int (iZ (a))), some (.int (iZ (tones))), some (.int (iZ ((p.length : Int)))), some (.int (iZ (v))), a7] [] (I, A3) := by
          intro hok1
          refine v_ald0 (pc := 211) hJ dX11_find_211 ?_
          refine mg42 (pc := 212) hJ dX11_find_212 ?_
          refine v_ild5 (pc := 215) hJ dX11_find_215 ?_
          refine v_iconst (pc := 217) hJ dX11_find_217 ?_
          refine v_iadd (pc := 218) hJ dX11_find_218 ?_
          refine ma42 (pc := 219) hJ (by omega) (by omega) dX11_find_219 ?_
          rw [f42]
          refine v_bipush (pc := 220) hJ dX11_find_220 (by decide) ?_
          refine v_icmp_ge (tgt := 251) (pc := 222) hJ dX11_find_222 (by decide) (by omega) (by omega) (fun h222 => ?_) (fun h222 => ?_)
          · refine v_ild5 (pc := 251) hJ dX11_find_251 ?_
            refine v_iconst (pc := 253) hJ dX11_find_253 ?_
            refine v_iadd (pc := 254) hJ dX11_find_254 ?_
            refine v_ald0 (pc := 255) hJ dX11_find_255 ?_
            refine mg9 (pc := 256) hJ dX11_find_256 ?_
            refine v_icmp_ge (tgt := 277) (pc := 259) hJ dX11_find_259 (by decide) (by omega) (by omega) (fun h259 => ?_) (fun h259 => ?_)
            · exfalso; omega
            · refine v_inc5 (pc := 262) hJ dX11_find_262 (by decide) ?_
              refine v_ald0 (pc := 265) hJ dX11_find_265 ?_
              refine mg41 (pc := 266) hJ dX11_find_266 ?_
              refine v_ild5 (pc := 269) hJ dX11_find_269 ?_
              refine v_bipush (pc := 271) hJ dX11_find_271 (by decide) ?_
              refine ms41 (pc := 273) hJ (by omega) (by omega) dX11_find_273 ?_
              refine v_goto (tgt := 64) (pc := 274) hJ dX11_find_274 (by decide) ?_
              have hokv : okV pt bar tones p v := ⟨hok1, by rw [lsL_snoc, msL_snoc]; omega⟩
              have ebr : brH pt N bar tones rt bs (k + 1) p H v = (vals 11).foldl (brH pt N bar tones rt bs k (p ++ [v])) H := by unfold brH; rw [if_pos hokv]; rfl
              rw [ebr] at hC2
              have f9b := stF_41 (i := (p.length : Int) + 1) (v := -2) f9 (by omega)
              have hn := ihk 11 (p ++ [v]) H _ (some (.int (iZ v))) a7 (by omega) (by omega) f9b (by rw [up_s, hpv, show ((p.length + 1 : Nat) : Int) = (p.length : Int) + 1 by omega, zu_same]; rfl) (fun A2 b6 b7 h2 => by
                obtain ⟨h3, h4⟩ := stF_init h2
                have hn2 := ihc p _ A2 b6 b7 (by omega) hpl h3 (by omega) hC2
                rw [show ((p ++ [v]).length : Int) - 1 = (p.length : Int) by omega]
                exact hn2)
              rw [hpv, show ((p.length + 1 : Nat) : Int) = (p.length : Int) + 1 by omega] at hn
              exact hn
          · refine v_ald0 (pc := 225) hJ dX11_find_225 ?_
            refine mg43 (pc := 226) hJ dX11_find_226 ?_
            refine v_ild5 (pc := 229) hJ dX11_find_229 ?_
            refine v_iconst (pc := 231) hJ dX11_find_231 ?_
            refine v_iadd (pc := 232) hJ dX11_find_232 ?_
            refine ma43 (pc := 233) hJ (by omega) (by omega) dX11_find_233 ?_
            rw [f43]
            refine v_ald0 (pc := 234) hJ dX11_find_234 ?_
            refine mg42 (pc := 235) hJ dX11_find_235 ?_
            refine v_ild5 (pc := 238) hJ dX11_find_238 ?_
            refine v_iconst (pc := 240) hJ dX11_find_240 ?_
            refine v_iadd (pc := 241) hJ dX11_find_241 ?_
            refine ma42 (pc := 242) hJ (by omega) (by omega) dX11_find_242 ?_
            rw [f42]
            refine v_isub (pc := 243) hJ dX11_find_243 ?_
            refine v_iconst (pc := 244) hJ dX11_find_244 ?_
            refine v_icmp_le (tgt := 251) (pc := 245) hJ dX11_find_245 (by decide) (by omega) (by omega) (fun h245 => ?_) (fun h245 => ?_)
            · refine v_ild5 (pc := 251) hJ dX11_find_251 ?_
              refine v_iconst (pc := 253) hJ dX11_find_253 ?_
              refine v_iadd (pc := 254) hJ dX11_find_254 ?_
              refine v_ald0 (pc := 255) hJ dX11_find_255 ?_
              refine mg9 (pc := 256) hJ dX11_find_256 ?_
              refine v_icmp_ge (tgt := 277) (pc := 259) hJ dX11_find_259 (by decide) (by omega) (by omega) (fun h259 => ?_) (fun h259 => ?_)
              · exfalso; omega
              · refine v_inc5 (pc := 262) hJ dX11_find_262 (by decide) ?_
                refine v_ald0 (pc := 265) hJ dX11_find_265 ?_
                refine mg41 (pc := 266) hJ dX11_find_266 ?_
                refine v_ild5 (pc := 269) hJ dX11_find_269 ?_
                refine v_bipush (pc := 271) hJ dX11_find_271 (by decide) ?_
                refine ms41 (pc := 273) hJ (by omega) (by omega) dX11_find_273 ?_
                refine v_goto (tgt := 64) (pc := 274) hJ dX11_find_274 (by decide) ?_
                have hokv : okV pt bar tones p v := ⟨hok1, by rw [lsL_snoc, msL_snoc]; omega⟩
                have ebr : brH pt N bar tones rt bs (k + 1) p H v = (vals 11).foldl (brH pt N bar tones rt bs k (p ++ [v])) H := by unfold brH; rw [if_pos hokv]; rfl
                rw [ebr] at hC2
                have f9b := stF_41 (i := (p.length : Int) + 1) (v := -2) f9 (by omega)
                have hn := ihk 11 (p ++ [v]) H _ (some (.int (iZ v))) a7 (by omega) (by omega) f9b (by rw [up_s, hpv, show ((p.length + 1 : Nat) : Int) = (p.length : Int) + 1 by omega, zu_same]; rfl) (fun A2 b6 b7 h2 => by
                  obtain ⟨h3, h4⟩ := stF_init h2
                  have hn2 := ihc p _ A2 b6 b7 (by omega) hpl h3 (by omega) hC2
                  rw [show ((p ++ [v]).length : Int) - 1 = (p.length : Int) by omega]
                  exact hn2)
                rw [hpv, show ((p.length + 1 : Nat) : Int) = (p.length : Int) + 1 by omega] at hn
                exact hn
            · refine v_goto (tgt := 64) (pc := 248) hJ dX11_find_248 (by decide) ?_
              exact skip _ _ _ hst3 f41 (fun q => q.2 (by rw [lsL_snoc, msL_snoc]; omega))
        have j177 : (v < 0 ∨ zand (zshr tones ((pt p.length + bar + v).tmod 12)) 1 ≠ 0) → J 177 [some (.ref (ad 0)), some (.int (iZ (i))), some (.int (iZ (bar))), some (.int (iZ (a))), some (.int (iZ (tones))), some (.int (iZ ((p.length : Int)))), some (.int (iZ (v))), a7] [.int (iZ (lsF (lsL p) v)), .int (iZ ((p.length : Int) + 1)), .ref (ad 42)] (I, va_up A1 41 (zu (A1 41) (p.length : Int) v)) := by
          intro hok1
          have j211' := j211 hok1
          rw [← hA3] at j211'
          refine ms42 (pc := 177) hJ (by omega) (by omega) dX11_find_177 ?_
          refine v_ald0 (pc := 178) hJ dX11_find_178 ?_
          refine mg43 (pc := 179) hJ dX11_find_179 ?_
          refine v_ild5 (pc := 182) hJ dX11_find_182 ?_
          refine v_iconst (pc := 184) hJ dX11_find_184 ?_
          refine v_iadd (pc := 185) hJ dX11_find_185 ?_
          refine v_ild6 (pc := 186) hJ dX11_find_186 ?_
          
          refine v_ald0 (pc := 188) hJ dX11_find_188 ?_
          refine mg43 (pc := 189) hJ dX11_find_189 ?_
          refine v_ild5 (pc := 192) hJ dX11_find_192 ?_
          refine ma43 (pc := 194) hJ (by omega) (by omega) dX11_find_194 ?_
          try simp only [up_s, up_n, up_up, ne_eq, Nat.reduceEqDiff, not_false_eq_true]
          rw [g43]
          refine v_icmp_le (tgt := 203) (pc := 195) hJ dX11_find_195 (by decide) (by omega) (by omega) (fun h195 => ?_) (fun h195 => ?_)
          · refine v_ald0 (pc := 203) hJ dX11_find_203 ?_
            refine mg43 (pc := 204) hJ dX11_find_204 ?_
            refine v_ild5 (pc := 207) hJ dX11_find_207 ?_
            refine ma43 (pc := 209) hJ (by omega) (by omega) dX11_find_209 ?_
            try simp only [up_s, up_n, up_up, ne_eq, Nat.reduceEqDiff, not_false_eq_true]
            first
              | (rw [show msF (msL p) v = v by unfold msF; rw [if_pos (by omega)]] at j211'
                 refine ms43 (pc := 210) hJ (by omega) (by omega) dX11_find_210 ?_
                 simp only [up_s, up_n, up_up, ne_eq, Nat.reduceEqDiff, not_false_eq_true]
                 exact j211')
              | (rw [g43]
                 rw [show msF (msL p) v = msL p by unfold msF; rw [if_neg (by omega)]] at j211'
                 refine ms43 (pc := 210) hJ (by omega) (by omega) dX11_find_210 ?_
                 simp only [up_s, up_n, up_up, ne_eq, Nat.reduceEqDiff, not_false_eq_true]
                 exact j211')
          · refine v_ild6 (pc := 198) hJ dX11_find_198 ?_
            refine v_goto (tgt := 210) (pc := 200) hJ dX11_find_200 (by decide) ?_
            first
              | (rw [show msF (msL p) v = v by unfold msF; rw [if_pos (by omega)]] at j211'
                 refine ms43 (pc := 210) hJ (by omega) (by omega) dX11_find_210 ?_
                 simp only [up_s, up_n, up_up, ne_eq, Nat.reduceEqDiff, not_false_eq_true]
                 exact j211')
              | (rw [g43]
                 rw [show msF (msL p) v = msL p by unfold msF; rw [if_neg (by omega)]] at j211'
                 refine ms43 (pc := 210) hJ (by omega) (by omega) dX11_find_210 ?_
                 simp only [up_s, up_n, up_up, ne_eq, Nat.reduceEqDiff, not_false_eq_true]
                 exact j211')
        have j140 : (v < 0 ∨ zand (zshr tones ((pt p.length + bar + v).tmod 12)) 1 ≠ 0) → J 140 [some (.ref (ad 0)), some (.int (iZ (i))), some (.int (iZ (bar))), some (.int (iZ (a))), some (.int (iZ (tones))), some (.int (iZ ((p.length : Int)))), some (.int (iZ (v))), a7] [] (I, va_up A1 41 (zu (A1 41) (p.length : Int) v)) := by
          intro hok1
          have j177' := j177 hok1
          refine v_ald0 (pc := 140) hJ dX11_find_140 ?_
          refine mg42 (pc := 141) hJ dX11_find_141 ?_
          refine v_ild5 (pc := 144) hJ dX11_find_144 ?_
          refine v_iconst (pc := 146) hJ dX11_find_146 ?_
          refine v_iadd (pc := 147) hJ dX11_find_147 ?_
          refine v_ild6 (pc := 148) hJ dX11_find_148 ?_
          refine v_if_le (tgt := 170) (pc := 150) hJ dX11_find_150 (by decide) (by omega) (fun h150 => ?_) (fun h150 => ?_)
          · refine v_ald0 (pc := 170) hJ dX11_find_170 ?_
            refine mg42 (pc := 171) hJ dX11_find_171 ?_
            refine v_ild5 (pc := 174) hJ dX11_find_174 ?_
            refine ma42 (pc := 176) hJ (by omega) (by omega) dX11_find_176 ?_
            try simp only [up_s, up_n, up_up, ne_eq, Nat.reduceEqDiff, not_false_eq_true]
            first
              | (rw [show lsF (lsL p) v = v by unfold lsF; rw [if_pos (by omega)]] at j177'; exact j177')
              | (rw [g42]; rw [show lsF (lsL p) v = lsL p by unfold lsF; rw [if_neg (by omega)]] at j177'; exact j177')
          · refine v_ild6 (pc := 153) hJ dX11_find_153 ?_
            refine v_ald0 (pc := 155) hJ dX11_find_155 ?_
            refine mg42 (pc := 156) hJ dX11_find_156 ?_
            refine v_ild5 (pc := 159) hJ dX11_find_159 ?_
            refine ma42 (pc := 161) hJ (by omega) (by omega) dX11_find_161 ?_
            try simp only [up_s, up_n, up_up, ne_eq, Nat.reduceEqDiff, not_false_eq_true]
            rw [g42]
            refine v_icmp_ge (tgt := 170) (pc := 162) hJ dX11_find_162 (by decide) (by omega) (by omega) (fun h162 => ?_) (fun h162 => ?_)
            · refine v_ald0 (pc := 170) hJ dX11_find_170 ?_
              refine mg42 (pc := 171) hJ dX11_find_171 ?_
              refine v_ild5 (pc := 174) hJ dX11_find_174 ?_
              refine ma42 (pc := 176) hJ (by omega) (by omega) dX11_find_176 ?_
              try simp only [up_s, up_n, up_up, ne_eq, Nat.reduceEqDiff, not_false_eq_true]
              first
                | (rw [show lsF (lsL p) v = v by unfold lsF; rw [if_pos (by omega)]] at j177'; exact j177')
                | (rw [g42]; rw [show lsF (lsL p) v = lsL p by unfold lsF; rw [if_neg (by omega)]] at j177'; exact j177')
            · refine v_ild6 (pc := 165) hJ dX11_find_165 ?_
              refine v_goto (tgt := 177) (pc := 167) hJ dX11_find_167 (by decide) ?_
              first
                | (rw [show lsF (lsL p) v = v by unfold lsF; rw [if_pos (by omega)]] at j177'; exact j177')
                | (rw [g42]; rw [show lsF (lsL p) v = lsL p by unfold lsF; rw [if_neg (by omega)]] at j177'; exact j177')
        refine v_ild5 (pc := 64) hJ dX11_find_64 ?_
        refine v_if_lt (tgt := 305) (pc := 66) hJ dX11_find_66 (by decide) (by omega) (fun h66 => ?_) (fun h66 => ?_)
        · omega
        · refine v_ald0 (pc := 69) hJ dX11_find_69 ?_
          refine mg9 (pc := 70) hJ dX11_find_70 ?_
          refine v_if_le (tgt := 305) (pc := 73) hJ dX11_find_73 (by decide) (by omega) (fun h73 => ?_) (fun h73 => ?_)
          · omega
          · refine v_ald0 (pc := 76) hJ dX11_find_76 ?_
            refine mg41 (pc := 77) hJ dX11_find_77 ?_
            refine v_ild5 (pc := 80) hJ dX11_find_80 ?_
            refine v_dup2 (pc := 82) hJ dX11_find_82 rfl rfl ?_
            refine ma41 (pc := 83) hJ (by omega) (by omega) dX11_find_83 ?_
            refine v_iconst (pc := 84) hJ dX11_find_84 ?_
            refine v_iadd (pc := 85) hJ dX11_find_85 ?_
            rw [e41]
            refine ms41 (pc := 86) hJ (by omega) (by omega) dX11_find_86 ?_
            refine v_ald0 (pc := 87) hJ dX11_find_87 ?_
            refine mg41 (pc := 88) hJ dX11_find_88 ?_
            refine v_ild5 (pc := 91) hJ dX11_find_91 ?_
            refine ma41 (pc := 93) hJ (by omega) (by omega) dX11_find_93 ?_
            try simp only [up_s, up_n, up_up, ne_eq, Nat.reduceEqDiff, not_false_eq_true]
            rw [zu_same]
            refine v_ist6 (pc := 94) hJ dX11_find_94 (by decide) ?_
            refine v_ild6 (pc := 96) hJ dX11_find_96 ?_
            refine v_bipush (pc := 98) hJ dX11_find_98 (by decide) ?_
            refine v_icmp_le (tgt := 109) (pc := 100) hJ dX11_find_100 (by decide) (by omega) (by omega) (fun h100 => ?_) (fun h100 => ?_)
            · refine v_ild6 (pc := 109) hJ dX11_find_109 ?_
              refine v_if_lt (tgt := 140) (pc := 111) hJ dX11_find_111 (by decide) (by omega) (fun h111 => ?_) (fun h111 => ?_)
              · exact j140 (Or.inl (by omega))
              · refine v_ild4 (pc := 114) hJ dX11_find_114 ?_
                refine v_ald0 (pc := 116) hJ dX11_find_116 ?_
                refine mg23 (pc := 117) hJ dX11_find_117 ?_
                refine v_ild5 (pc := 120) hJ dX11_find_120 ?_
                refine ma23 (pc := 122) hJ (by omega) (by omega) dX11_find_122 ?_
                try simp only [up_s, up_n, up_up, ne_eq, Nat.reduceEqDiff, not_false_eq_true]
                rw [e23]
                refine v_ild2 (pc := 123) hJ dX11_find_123 ?_
                refine v_iadd (pc := 124) hJ dX11_find_124 ?_
                refine v_ild6 (pc := 125) hJ dX11_find_125 ?_
                refine v_iadd (pc := 127) hJ dX11_find_127 ?_
                refine v_bipush (pc := 128) hJ dX11_find_128 (by decide) ?_
                refine v_irem (pc := 130) hJ dX11_find_130 (by omega) (by omega) (by omega) ?_
                refine v_ishr (pc := 131) hJ dX11_find_131 ?_
                refine v_iconst (pc := 132) hJ dX11_find_132 ?_
                refine v_iand (pc := 133) hJ dX11_find_133 ?_
                refine v_if_ne (tgt := 140) (pc := 134) hJ dX11_find_134 (by decide) (inR_zand _ _) (fun h134 => ?_) (fun h134 => ?_)
                · exact j140 (Or.inr h134)
                · refine v_goto (tgt := 64) (pc := 137) hJ dX11_find_137 (by decide) ?_
                  exact skip _ _ _ hst1 (by simp only [up_s, up_n, up_up, ne_eq, Nat.reduceEqDiff, not_false_eq_true]; exact zu_same _ _ _) (fun q => by rcases q.1 with q | q; omega; exact q h134)
            · exfalso; omega
  have top : ∀ (A1 : Nat → Int → Int) (a6 a7 : Option Value), stF A a N [] [] A1 → A1 41 0 = -2 → J 64 [some (.ref (ad 0)), some (.int (iZ (i))), some (.int (iZ (bar))), some (.int (iZ (a))), some (.int (iZ (tones))), some (.int (iZ (0))), a6, a7] [] (I, A1) := by
    intro A1 a6 a7 hs1 h41
    by_cases hN0 : N = 0
    · have ehd : hdX pt N bar tones rt bs = [] := by unfold hdX; rw [if_pos hN0]
      refine v_ild5 (pc := 64) hJ dX11_find_64 ?_
      refine v_if_lt (tgt := 305) (pc := 66) hJ dX11_find_66 (by decide) (by omega) (fun h66 => ?_) (fun h66 => ?_)
      · omega
      · refine v_ald0 (pc := 69) hJ dX11_find_69 ?_
        refine mg9 (pc := 70) hJ dX11_find_70 ?_
        refine v_if_le (tgt := 305) (pc := 73) hJ dX11_find_73 (by decide) (by omega) (fun h73 => ?_) (fun h73 => ?_)
        · refine v_ald0 (pc := 305) hJ dX11_find_305 ?_
          refine mg38 (pc := 306) hJ dX11_find_306 ?_
          refine v_ild3 (pc := 309) hJ dX11_find_309 ?_
          refine ma38 (pc := 310) hJ (by omega) (by omega) dX11_find_310 ?_
          refine v_iret (pc := 311) hJ dX11_find_311 ⟨_, rfl, ?_⟩
          rw [ehd]
          exact ⟨hs1.2.1.1, rfl, hs1.1, hs1.2.1⟩
        · omega
    · have ehd : hdX pt N bar tones rt bs = (vals 11).foldl (brH pt N bar tones rt bs (N - 1) []) [] := by
        unfold hdX
        rw [if_neg hN0]
        obtain ⟨n, hn⟩ : ∃ n, N = n + 1 := ⟨N - 1, by omega⟩
        rw [hn, subH_s, Nat.add_sub_cancel]
      have hd := dfs (N - 1) 11 [] [] A1 a6 a7 (by omega) (by rw [List.length_nil]; omega) hs1 h41 (fun A2 b6 b7 h2 => ?_)
      · exact hd
      rw [← ehd] at h2
      show J 64 [some (.ref (ad 0)), some (.int (iZ (i))), some (.int (iZ (bar))), some (.int (iZ (a))), some (.int (iZ (tones))), some (.int (iZ (-1))), b6, b7] [] (I, A2)
      refine v_ild5 (pc := 64) hJ dX11_find_64 ?_
      refine v_if_lt (tgt := 305) (pc := 66) hJ dX11_find_66 (by decide) (by omega) (fun h66 => ?_) (fun h66 => ?_)
      · refine v_ald0 (pc := 305) hJ dX11_find_305 ?_
        refine mg38 (pc := 306) hJ dX11_find_306 ?_
        refine v_ild3 (pc := 309) hJ dX11_find_309 ?_
        refine ma38 (pc := 310) hJ (by omega) (by omega) dX11_find_310 ?_
        refine v_iret (pc := 311) hJ dX11_find_311 ⟨_, rfl, ?_⟩
        exact ⟨h2.2.1.1, rfl, h2.1, h2.2.1⟩
      · omega
  show J 0 [some (.ref (ad 0)), some (.int (iZ i)), some (.int (iZ bar)), none, none, none, none, none] [] (I, A)
  refine v_bipush (pc := 0) hJ dX11_find_0 (by decide) ?_
  refine v_ild1 (pc := 2) hJ dX11_find_2 ?_
  refine v_imul (pc := 3) hJ dX11_find_3 ?_
  refine v_ild2 (pc := 4) hJ dX11_find_4 ?_
  refine v_iadd (pc := 5) hJ dX11_find_5 ?_
  rw [← hae]
  refine v_ist3 (pc := 6) hJ dX11_find_6 (by decide) ?_
  refine v_ald0 (pc := 7) hJ dX11_find_7 ?_
  refine mg38 (pc := 8) hJ dX11_find_8 ?_
  refine v_ild3 (pc := 11) hJ dX11_find_11 ?_
  refine ma38 (pc := 12) hJ (by omega) (by omega) dX11_find_12 ?_
  refine v_iconst (pc := 13) hJ dX11_find_13 ?_
  refine v_icmp_eq (tgt := 24) (pc := 14) hJ dX11_find_14 (by decide) (by rcases hca with q | q; omega; (have := q.1; have := q.2.1; omega)) (by decide) (fun h14 => ?_) (fun h14 => ?_)
  · refine v_ald0 (pc := 24) hJ dX11_find_24 ?_
    refine mg38 (pc := 25) hJ dX11_find_25 ?_
    refine v_ild3 (pc := 28) hJ dX11_find_28 ?_
    refine v_iconst (pc := 29) hJ dX11_find_29 ?_
    refine ms38 (pc := 30) hJ (by omega) (by omega) dX11_find_30 ?_
    refine v_ald0 (pc := 31) hJ dX11_find_31 ?_
    refine v_ild1 (pc := 32) hJ dX11_find_32 ?_
    refine v_cV1i (pc := 33) (q0 := 0) (ci := 8) hJ rfl rfl lkX11_223 (qX11_tones hO (by simp only [okC, up_s, up_n, up_up, ne_eq, Nat.reduceEqDiff, not_false_eq_true]; exact hC) hi) (Nat.le_of_ble_eq_true rfl) (rOk_L (by decide) (by decide)) dX11_find_33 (fun r33 u33 g33 => ?_)
    obtain ⟨rfl, rfl⟩ := g33
    rw [show tsA (va_up A 38 (zu (A 38) a 0)) i = tones by rw [hte]; unfold tsA; simp only [up_s, up_n, up_up, ne_eq, Nat.reduceEqDiff, not_false_eq_true]]
    try simp only [up_s, up_n, up_up, ne_eq, Nat.reduceEqDiff, not_false_eq_true]
    refine v_ist4 (pc := 36) hJ dX11_find_36 (by decide) ?_
    refine v_iconst (pc := 38) hJ dX11_find_38 ?_
    refine v_ist5 (pc := 39) hJ dX11_find_39 (by decide) ?_
    refine v_ald0 (pc := 41) hJ dX11_find_41 ?_
    refine mg41 (pc := 42) hJ dX11_find_42 ?_
    refine v_iconst (pc := 45) hJ dX11_find_45 ?_
    refine v_bipush (pc := 46) hJ dX11_find_46 (by decide) ?_
    refine ms41 (pc := 48) hJ (by omega) (by omega) dX11_find_48 ?_
    refine v_ald0 (pc := 49) hJ dX11_find_49 ?_
    refine mg42 (pc := 50) hJ dX11_find_50 ?_
    refine v_iconst (pc := 53) hJ dX11_find_53 ?_
    refine v_bipush (pc := 54) hJ dX11_find_54 (by decide) ?_
    refine ms42 (pc := 56) hJ (by omega) (by omega) dX11_find_56 ?_
    refine v_ald0 (pc := 57) hJ dX11_find_57 ?_
    refine mg43 (pc := 58) hJ dX11_find_58 ?_
    refine v_iconst (pc := 61) hJ dX11_find_61 ?_
    refine v_iconst (pc := 62) hJ dX11_find_62 ?_
    refine ms43 (pc := 63) hJ (by omega) (by omega) dX11_find_63 ?_
    refine top _ none none ⟨⟨fun k x1 x2 x3 x4 x5 x6 => by simp only [up_n, x1, x4, x5, x6, ne_eq, not_false_eq_true], fun q hq => by simp only [up_s, up_n, up_up, ne_eq, Nat.reduceEqDiff, not_false_eq_true]; exact zu_ne hq, fun q hq => by simp only [up_s, up_n, up_up, ne_eq, Nat.reduceEqDiff, not_false_eq_true], fun q hq => by simp only [up_s, up_n, up_up, ne_eq, Nat.reduceEqDiff, not_false_eq_true]⟩, ⟨by simp only [up_s, up_n, up_up, ne_eq, Nat.reduceEqDiff, not_false_eq_true]; exact zu_same _ _ _, by decide, fun j hj => absurd hj (Nat.not_lt_zero _)⟩, fun d hd => absurd hd (Nat.not_lt_zero _), fun d hd => ?_, fun d hd => absurd hd (Nat.not_lt_zero _)⟩ (by simp only [up_s, up_n, up_up, ne_eq, Nat.reduceEqDiff, not_false_eq_true]; exact zu_same _ _ _)
    rw [show d = 0 from Nat.le_zero.mp hd]
    simp only [up_s, up_n, up_up, ne_eq, Nat.reduceEqDiff, not_false_eq_true]
    exact ⟨zu_same _ _ _, zu_same _ _ _⟩
  · refine v_ald0 (pc := 17) hJ dX11_find_17 ?_
    refine mg38 (pc := 18) hJ dX11_find_18 ?_
    refine v_ild3 (pc := 21) hJ dX11_find_21 ?_
    refine ma38 (pc := 22) hJ (by omega) (by omega) dX11_find_22 ?_
    refine v_iret (pc := 23) hJ dX11_find_23 ⟨_, rfl, ?_⟩
    rcases hca with q | q
    · exact absurd q h14
    · exact ⟨q.1, rfl, ⟨fun k _ _ _ _ _ _ => rfl, fun q _ => rfl, fun q _ => rfl, fun q _ => rfl⟩, q⟩
