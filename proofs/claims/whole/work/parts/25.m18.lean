theorem rsA_last {I : Nat → Int} {A : Nat → Int → Int} {bar i : Int} {j : Nat} (h : i = I 6 - 1) : rsA I A bar i j = sj (hdA I A i bar) j := by
  unfold rsA
  rw [h, show (I 6 - 1 - (I 6 - 1)).toNat = 0 by omega, rsN]
theorem rsA_step {I : Nat → Int} {A : Nat → Int → Int} {bar i : Int} {j : Nat} (h0 : 0 ≤ i) (h : i < I 6 - 1) : rsA I A bar i j = sj (hdA I A i bar) j + mnN (fun k => chL (I 9).toNat (hj (hdA I A i bar) j) (hj (hdA I A (i + 1) bar) k) + rsA I A bar (i + 1) k) (hdA I A (i + 1) bar).length := by
  unfold rsA
  obtain ⟨m, hm⟩ : ∃ m : Nat, (I 6 - 1 - i).toNat = m + 1 := ⟨(I 6 - 1 - i).toNat - 1, by omega⟩
  rw [hm, rsN, show I 6 - 1 - ((m + 1 : Nat) : Int) = i by omega, show I 6 - 1 - (m : Int) = i + 1 by omega, show (I 6 - 1 - (i + 1)).toNat = m by omega]
set_option maxHeartbeats 4000000 in
set_option maxRecDepth 100000 in
theorem qX11_sum {l : Launch} {D : va_G} {cI : ClassId} {ad : Nat → Nat} {O : OT} {adK adV : Nat → Nat} (hO : OG O adK adV) {I : Nat → Int} {A : Nat → Int → Int} {bar : Int} (hC : okC I A) (hN : okN I A) (hH : okH I A) (hb : 0 ≤ bar ∧ bar ≤ 7) : MC l D cI ad O yX11_sum cX11_sum 8 (some .int) 4 [.ref (ad 0), .int (iZ bar)] (I, A) (pI fun r u2 => sumP I A bar r u2) := by
  refine ct_intro (own := RX11) (by decide) rfl hO.1 (Nat.le_of_ble_eq_true rfl) (by simp [Value.category]) (fun X J hJ => ?_)
  obtain ⟨⟨c1, c2⟩, c3⟩ := id hC
  obtain ⟨n1, n2⟩ := id hN
  obtain ⟨hs, hse⟩ : ∃ z : Int → HS, z = fun i => hdA I A i bar := ⟨_, rfl⟩
  have hsi : ∀ i, hdA I A i bar = hs i := fun i => by rw [hse]
  have hso : ∀ i, okHS (I 9).toNat (hs i) := fun i => by rw [hse]; exact hdX_ok (by omega)
  have hfw : ∀ {A1 : Nat → Int → Int} {i : Int}, frS A A1 → okH I A1 → (0 ≤ i ∧ i < I 6) → MC l D cI ad O yX11_find cX11_find 8 (some .int) 3 [.ref (ad 0), .int (iZ i), .int (iZ bar)] (I, A1) (pI fun r u2 => r = ((hs i).length : Int) ∧ u2.1 = I ∧ frF A1 (8 * i + bar) u2.2 ∧ repH u2.2 (8 * i + bar) (I 9).toNat (hs i)) := fun {A1 i} h1 h2 h3 => by
    have := findW (l := l) (D := D) (cI := cI) (ad := ad) hO (frS_C h1 hC) (frS_N h1 hN) h2 h3 hb
    rw [frS_hd h1, hsi] at this
    exact this
  have dp : ∀ (A1 : Nat → Int → Int) (a3 : Option Value), 0 < I 6 → frS A A1 → okH I A1 → (∀ i : Int, 0 ≤ i → i < I 6 → repH A1 (8 * i + bar) (I 9).toNat (hs i) ∧ 0 < (hs i).length) → J 54 [some (.ref (ad 0)), some (.int (iZ (bar))), some (.int (iZ (1))), a3, none, none, none, none] [] (I, A1) := by
    intro A1 a3 hc0 hf1 hH1 hr1
    have hall : allH I A bar := ⟨hc0, fun i i0 i1 => by rw [hsi]; exact (hr1 i i0 i1).2⟩
    have hrin : ∀ (i : Int) (j : Nat), 0 ≤ i → i < I 6 → j < (hs i).length → 0 ≤ rsA I A bar i j ∧ rsA I A bar i j ≤ 7000 := fun i j i0 i1 hjl => by
      have := rsN_in (n := (I 9).toNat) (hs := hs) (c := I 6) (by omega) c2 (fun i i0 i1 => ⟨hso i, (hr1 i i0 i1).2⟩) (I 6 - 1 - i).toNat j (by omega) (by rw [show I 6 - 1 - (((I 6 - 1 - i).toNat : Nat) : Int) = i by omega]; exact hjl)
      unfold rsA
      rw [← hse]
      omega
    have hl6 : ∀ i : Int, 0 ≤ i → i < I 6 → (hs i).length ≤ 6 := fun i i0 i1 => (hr1 i i0 i1).1.2.1
    have l5 : ∀ (fu : Nat) (j : Nat) (F : Int → Int) (a5 a6 a7 : Option Value), (j ≤ (hs 0).length) → ((∀ (q : Int) (j : Nat), (-1 : Int) < q → q < I 6 → j < (hs q).length → F (6 * q + j) = rsA I A bar q j)) → (7 - (j : Int)) < (fu : Int) → J 239 [some (.ref (ad 0)), some (.int (iZ (bar))), some (.int (iZ (1))), some (.int (iZ (mnN (rsA I A bar 0) j))), some (.int (iZ ((j : Int)))), a5, a6, a7] [] (I, va_up A1 44 F) := by
      intro fu
      induction fu with
      | zero => intro j  F  a5 a6 a7 hjl hF hmu; exfalso; have := hl6 0 (by omega) hc0; omega
      | succ fu ih =>
        intro j  F  a5 a6 a7 hjl hF hmu
        refine v_ild4 (pc := 239) hJ dX11_sum_239 ?_
        refine v_ald0 (pc := 241) hJ dX11_sum_241 ?_
        refine mg38 (pc := 242) hJ dX11_sum_242 ?_
        have hz := (hr1 0 (by omega) hc0).1.1
        rw [show 8 * (0 : Int) + bar = bar by omega] at hz
        refine v_ild1 (pc := 245) hJ dX11_sum_245 ?_
        refine ma38 (pc := 246) hJ (by omega) (by omega) dX11_sum_246 ?_
        try simp only [up_s, up_n, up_up, ne_eq, Nat.reduceEqDiff, not_false_eq_true]
        rw [hz]
        have hl60 := hl6 0 (by omega) hc0
        refine v_icmp_ge (tgt := 279) (pc := 247) hJ dX11_sum_247 (by decide) (by omega) (by omega) (fun h247 => ?_) (fun h247 => ?_)
        · refine v_ild3 (pc := 279) hJ dX11_sum_279 ?_
          refine v_iret (pc := 280) hJ dX11_sum_280 ⟨_, rfl, ?_⟩
          have ej : j = (hs 0).length := by omega
          subst ej
          exact ⟨rfl, fun k h38 h39 h40 h41 h42 h43 h44 => by show va_up A1 44 F k = A k; rw [up_n h44]; exact hf1 k h38 h39 h40 h41 h42 h43 h44, okH_44 hH1, fun _ => ⟨by rw [hsi], fun i i0 i1 => ⟨by rw [hsi]; exact repH_44 (hr1 i i0 i1).1, fun j hj => by show va_up A1 44 F 44 _ = _; rw [up_s]; rw [hsi] at hj; exact hF i j (by omega) i1 hj⟩⟩, fun q => absurd hall q⟩
        · have hFj := hF 0 j (by omega) hc0 (by omega)
          rw [show 6 * (0 : Int) + (j : Int) = (j : Int) by omega] at hFj
          have hrj := hrin 0 j (by omega) hc0 (by omega)
          have hmb := mnN_b (f := rsA I A bar 0) j (fun k hk => by have := hrin 0 k (by omega) hc0 (by omega); omega)
          refine v_ald0 (pc := 250) hJ dX11_sum_250 ?_
          refine mg44 (pc := 251) hJ dX11_sum_251 ?_
          refine v_ild4 (pc := 254) hJ dX11_sum_254 ?_
          refine ma44 (pc := 256) hJ (by omega) (by omega) dX11_sum_256 ?_
          try simp only [up_s, up_n, up_up, ne_eq, Nat.reduceEqDiff, not_false_eq_true]
          rw [hFj]
          refine v_ild3 (pc := 257) hJ dX11_sum_257 ?_
          refine v_icmp_ge (tgt := 271) (pc := 258) hJ dX11_sum_258 (by decide) (by omega) (by omega) (fun h258 => ?_) (fun h258 => ?_)
          · refine v_ild3 (pc := 271) hJ dX11_sum_271 ?_
            refine v_ist3 (pc := 272) hJ dX11_sum_272 (by decide) ?_
            refine v_inc4 (pc := 273) hJ dX11_sum_273 (by decide) ?_
            refine v_goto (tgt := 239) (pc := 276) hJ dX11_sum_276 (by decide) ?_
            first
              | (have hn := ih (j + 1) F a5 a6 a7 (by omega) hF (by omega)
                 rw [mnN, if_pos (by omega)] at hn
                 exact hn)
              | (have hn := ih (j + 1) F a5 a6 a7 (by omega) hF (by omega)
                 rw [mnN, if_neg (by omega)] at hn
                 exact hn)
          · refine v_ald0 (pc := 261) hJ dX11_sum_261 ?_
            refine mg44 (pc := 262) hJ dX11_sum_262 ?_
            refine v_ild4 (pc := 265) hJ dX11_sum_265 ?_
            refine ma44 (pc := 267) hJ (by omega) (by omega) dX11_sum_267 ?_
            try simp only [up_s, up_n, up_up, ne_eq, Nat.reduceEqDiff, not_false_eq_true]
            rw [hFj]
            refine v_goto (tgt := 272) (pc := 268) hJ dX11_sum_268 (by decide) ?_
            refine v_ist3 (pc := 272) hJ dX11_sum_272 (by decide) ?_
            refine v_inc4 (pc := 273) hJ dX11_sum_273 (by decide) ?_
            refine v_goto (tgt := 239) (pc := 276) hJ dX11_sum_276 (by decide) ?_
            first
              | (have hn := ih (j + 1) F a5 a6 a7 (by omega) hF (by omega)
                 rw [mnN, if_pos (by omega)] at hn
                 exact hn)
              | (have hn := ih (j + 1) F a5 a6 a7 (by omega) hF (by omega)
                 rw [mnN, if_neg (by omega)] at hn
                 exact hn)
    have l2 : ∀ (fu : Nat) (i : Int) (F : Int → Int) (a4 a5 a6 a7 : Option Value), -1 ≤ i → i < I 6 → (∀ (q : Int) (j : Nat), i < q → q < I 6 → j < (hs q).length → F (6 * q + j) = rsA I A bar q j) → i < (fu : Int) → J 61 [some (.ref (ad 0)), some (.int (iZ (bar))), some (.int (iZ (1))), some (.int (iZ (i))), a4, a5, a6, a7] [] (I, va_up A1 44 F) := by
      intro fu
      induction fu with
      | zero =>
        intro i F a4 a5 a6 a7 i0 i1 hF hmu
        have ei : i = -1 := by omega
        subst ei
        refine v_ild3 (pc := 61) hJ dX11_sum_61 ?_
        refine v_if_lt (tgt := 232) (pc := 62) hJ dX11_sum_62 (by decide) (by omega) (fun h62 => ?_) (fun h62 => ?_)
        · refine v_ldcwK (pc := 232) hJ dX11_sum_232 k_const_X11_271 ?_
          refine v_ist3 (pc := 235) hJ dX11_sum_235 (by decide) ?_
          refine v_iconst (pc := 236) hJ dX11_sum_236 ?_
          refine v_ist4 (pc := 237) hJ dX11_sum_237 (by decide) ?_
          exact l5 8 0 F a5 a6 a7 (by omega) hF (by omega)
        · omega
      | succ fu ih0 =>
        intro i F a4 a5 a6 a7 i0 i1 hF hmu
        by_cases hi0 : i < 0
        · have ei : i = -1 := by omega
          subst ei
          refine v_ild3 (pc := 61) hJ dX11_sum_61 ?_
          refine v_if_lt (tgt := 232) (pc := 62) hJ dX11_sum_62 (by decide) (by omega) (fun h62 => ?_) (fun h62 => ?_)
          · refine v_ldcwK (pc := 232) hJ dX11_sum_232 k_const_X11_271 ?_
            refine v_ist3 (pc := 235) hJ dX11_sum_235 (by decide) ?_
            refine v_iconst (pc := 236) hJ dX11_sum_236 ?_
            refine v_ist4 (pc := 237) hJ dX11_sum_237 (by decide) ?_
            exact l5 8 0 F a5 a6 a7 (by omega) hF (by omega)
          · omega
        · have hri := hr1 i (by omega) i1
          have hl6i := hl6 i (by omega) i1
          have l3 : ∀ (fj : Nat) (j : Nat) (F : Int → Int) (a5 a6 a7 : Option Value), j ≤ (hs i).length → (∀ (q : Int) (j : Nat), i < q → q < I 6 → j < (hs q).length → F (6 * q + j) = rsA I A bar q j) → (∀ j2 : Nat, j2 < j → F (6 * i + j2) = rsA I A bar i j2) → 7 - (j : Int) < (fj : Int) → J 68 [some (.ref (ad 0)), some (.int (iZ (bar))), some (.int (iZ (1))), some (.int (iZ (i))), some (.int (iZ ((j : Int)))), a5, a6, a7] [] (I, va_up A1 44 F) := by
            intro fj
            induction fj with
            | zero => intro j F a5 a6 a7 hjl hF hFj hmj; exfalso; omega
            | succ fj ihj =>
              intro j F a5 a6 a7 hjl hF hFj hmj
              by_cases hjj : j < (hs i).length
              · have hsj := (okHS_j (hso i) hjj).1
                have j188 : ∀ (bst : Int) (a6 a7 : Option Value), sj (hs i) j + bst = rsA I A bar i j → J 188 [some (.ref (ad 0)), some (.int (iZ (bar))), some (.int (iZ (1))), some (.int (iZ (i))), some (.int (iZ ((j : Int)))), some (.int (iZ (bst))), a6, a7] [] (I, va_up A1 44 F) := by
                  intro bst a6 a7 hbst
                  have e40 := ((hri.1.2.2 j hjj).1).1
                  refine v_ald0 (pc := 188) hJ dX11_sum_188 ?_
                  refine mg44 (pc := 189) hJ dX11_sum_189 ?_
                  refine v_bipush (pc := 192) hJ dX11_sum_192 (by decide) ?_
                  refine v_ild3 (pc := 194) hJ dX11_sum_194 ?_
                  refine v_imul (pc := 195) hJ dX11_sum_195 ?_
                  refine v_ild4 (pc := 196) hJ dX11_sum_196 ?_
                  refine v_iadd (pc := 198) hJ dX11_sum_198 ?_
                  refine v_ald0 (pc := 199) hJ dX11_sum_199 ?_
                  refine mg40 (pc := 200) hJ dX11_sum_200 ?_
                  refine v_bipush (pc := 203) hJ dX11_sum_203 (by decide) ?_
                  refine v_bipush (pc := 205) hJ dX11_sum_205 (by decide) ?_
                  refine v_ild3 (pc := 207) hJ dX11_sum_207 ?_
                  refine v_imul (pc := 208) hJ dX11_sum_208 ?_
                  refine v_ild1 (pc := 209) hJ dX11_sum_209 ?_
                  refine v_iadd (pc := 210) hJ dX11_sum_210 ?_
                  refine v_imul (pc := 211) hJ dX11_sum_211 ?_
                  refine v_ild4 (pc := 212) hJ dX11_sum_212 ?_
                  refine v_iadd (pc := 214) hJ dX11_sum_214 ?_
                  refine ma40 (pc := 215) hJ (by omega) (by omega) dX11_sum_215 ?_
                  try simp only [up_s, up_n, up_up, ne_eq, Nat.reduceEqDiff, not_false_eq_true]
                  rw [e40, show ((hs i).getD j (0, [])).1 = sj (hs i) j from rfl]
                  refine v_ild5 (pc := 216) hJ dX11_sum_216 ?_
                  refine v_iadd (pc := 218) hJ dX11_sum_218 ?_
                  rw [hbst]
                  refine ms44 (pc := 219) hJ (by omega) (by omega) dX11_sum_219 ?_
                  refine v_inc4 (pc := 220) hJ dX11_sum_220 (by decide) ?_
                  refine v_goto (tgt := 68) (pc := 223) hJ dX11_sum_223 (by decide) ?_
                  simp only [up_s, up_n, up_up, ne_eq, Nat.reduceEqDiff, not_false_eq_true]
                  refine ihj (j + 1) (zu F (6 * i + (j : Int)) (rsA I A bar i j)) _ _ _ (by omega) (fun q j2 q0 q1 hq => ?_) (fun j2 hj2 => ?_) (by omega)
                  · rw [zu_ne (by have := hl6 q (by omega) q1; omega)]; exact hF q j2 q0 q1 hq
                  · by_cases ej : j2 = j
                    · rw [ej, zu_same]
                    · rw [zu_ne (by omega)]; exact hFj j2 (by omega)
                by_cases hlast : i = I 6 - 1
                · skip
                  refine v_ild4 (pc := 68) hJ dX11_sum_68 ?_
                  refine v_ald0 (pc := 70) hJ dX11_sum_70 ?_
                  refine mg38 (pc := 71) hJ dX11_sum_71 ?_
                  refine v_bipush (pc := 74) hJ dX11_sum_74 (by decide) ?_
                  refine v_ild3 (pc := 76) hJ dX11_sum_76 ?_
                  refine v_imul (pc := 77) hJ dX11_sum_77 ?_
                  refine v_ild1 (pc := 78) hJ dX11_sum_78 ?_
                  refine v_iadd (pc := 79) hJ dX11_sum_79 ?_
                  refine ma38 (pc := 80) hJ (by omega) (by omega) dX11_sum_80 ?_
                  try simp only [up_s, up_n, up_up, ne_eq, Nat.reduceEqDiff, not_false_eq_true]
                  rw [hri.1.1]
                  refine v_icmp_ge (tgt := 226) (pc := 81) hJ dX11_sum_81 (by decide) (by omega) (by omega) (fun h81 => ?_) (fun h81 => ?_)
                  · omega
                  · refine v_ild3 (pc := 84) hJ dX11_sum_84 ?_
                    refine v_ald0 (pc := 85) hJ dX11_sum_85 ?_
                    refine mg6 (pc := 86) hJ dX11_sum_86 ?_
                    try simp only [up_s, up_n, up_up, ne_eq, Nat.reduceEqDiff, not_false_eq_true]
                    refine v_iconst (pc := 89) hJ dX11_sum_89 ?_
                    refine v_isub (pc := 90) hJ dX11_sum_90 ?_
                    refine v_icmp_ne (tgt := 98) (pc := 91) hJ dX11_sum_91 (by decide) (by omega) (by omega) (fun h91 => ?_) (fun h91 => ?_)
                    · exact absurd hlast h91
                    · refine v_iconst (pc := 94) hJ dX11_sum_94 ?_
                      refine v_goto (tgt := 101) (pc := 95) hJ dX11_sum_95 (by decide) ?_
                      refine v_ist5 (pc := 101) hJ dX11_sum_101 (by decide) ?_
                      refine v_iconst (pc := 103) hJ dX11_sum_103 ?_
                      refine v_ist6 (pc := 104) hJ dX11_sum_104 (by decide) ?_
                      refine v_ild3 (pc := 106) hJ dX11_sum_106 ?_
                      refine v_ald0 (pc := 107) hJ dX11_sum_107 ?_
                      refine mg6 (pc := 108) hJ dX11_sum_108 ?_
                      try simp only [up_s, up_n, up_up, ne_eq, Nat.reduceEqDiff, not_false_eq_true]
                      refine v_iconst (pc := 111) hJ dX11_sum_111 ?_
                      refine v_isub (pc := 112) hJ dX11_sum_112 ?_
                      refine v_icmp_ge (tgt := 188) (pc := 113) hJ dX11_sum_113 (by decide) (by omega) (by omega) (fun h113 => ?_) (fun h113 => ?_)
                      · exact j188 0 _ _ (by rw [rsA_last hlast, hsi]; omega)
                      · omega
                · have hr2 := hr1 (i + 1) (by omega) (by omega)
                  have hl62 := hl6 (i + 1) (by omega) (by omega)
                  obtain ⟨fm, hfm⟩ : ∃ z : Nat → Int, z = fun k => chL (I 9).toNat (hj (hs i) j) (hj (hs (i + 1)) k) + rsA I A bar (i + 1) k := ⟨_, rfl⟩
                  have hfm1 : ∀ k : Nat, k < (hs (i + 1)).length → 0 ≤ fm k ∧ fm k ≤ 1000000 := fun k hk => by
                    have a1 := chL_in (n := (I 9).toNat) (by omega) (hso i) (hso (i + 1)) hjj hk
                    have a2 := hrin (i + 1) k (by omega) (by omega) hk
                    rw [hfm]
                    dsimp only
                    omega
                  have h38 : A1 38 (8 * i + 8 + bar) = ((hs (i + 1)).length : Int) := by rw [show 8 * i + 8 + bar = 8 * (i + 1) + bar by omega]; exact hr2.1.1
                  have l4 : ∀ (fk : Nat) (kk : Nat) (a7 : Option Value), kk ≤ (hs (i + 1)).length → 7 - (kk : Int) < (fk : Int) → J 106 [some (.ref (ad 0)), some (.int (iZ (bar))), some (.int (iZ (1))), some (.int (iZ (i))), some (.int (iZ ((j : Int)))), some (.int (iZ (mnN fm kk))), some (.int (iZ ((kk : Int)))), a7] [] (I, va_up A1 44 F) := by
                    intro fk
                    induction fk with
                    | zero => intro kk a7 hkl hmk; exfalso; omega
                    | succ fk ihk =>
                      intro kk a7 hkl hmk
                      have hmb := mnN_b (f := fm) kk (fun k hk => hfm1 k (by omega))
                      refine v_ild3 (pc := 106) hJ dX11_sum_106 ?_
                      refine v_ald0 (pc := 107) hJ dX11_sum_107 ?_
                      refine mg6 (pc := 108) hJ dX11_sum_108 ?_
                      try simp only [up_s, up_n, up_up, ne_eq, Nat.reduceEqDiff, not_false_eq_true]
                      refine v_iconst (pc := 111) hJ dX11_sum_111 ?_
                      refine v_isub (pc := 112) hJ dX11_sum_112 ?_
                      refine v_icmp_ge (tgt := 188) (pc := 113) hJ dX11_sum_113 (by decide) (by omega) (by omega) (fun h113 => ?_) (fun h113 => ?_)
                      · omega
                      · refine v_ild6 (pc := 116) hJ dX11_sum_116 ?_
                        refine v_ald0 (pc := 118) hJ dX11_sum_118 ?_
                        refine mg38 (pc := 119) hJ dX11_sum_119 ?_
                        refine v_bipush (pc := 122) hJ dX11_sum_122 (by decide) ?_
                        refine v_ild3 (pc := 124) hJ dX11_sum_124 ?_
                        refine v_imul (pc := 125) hJ dX11_sum_125 ?_
                        refine v_bipush (pc := 126) hJ dX11_sum_126 (by decide) ?_
                        refine v_iadd (pc := 128) hJ dX11_sum_128 ?_
                        refine v_ild1 (pc := 129) hJ dX11_sum_129 ?_
                        refine v_iadd (pc := 130) hJ dX11_sum_130 ?_
                        refine ma38 (pc := 131) hJ (by omega) (by omega) dX11_sum_131 ?_
                        try simp only [up_s, up_n, up_up, ne_eq, Nat.reduceEqDiff, not_false_eq_true]
                        rw [h38]
                        refine v_icmp_ge (tgt := 188) (pc := 132) hJ dX11_sum_132 (by decide) (by omega) (by omega) (fun h132 => ?_) (fun h132 => ?_)
                        · have ek : kk = (hs (i + 1)).length := by omega
                          subst ek
                          exact j188 _ _ _ (by rw [rsA_step (by omega) (by omega), hsi, hsi, hfm])
                        · have hfk := hfm1 kk (by omega)
                          refine v_ald0 (pc := 135) hJ dX11_sum_135 ?_
                          refine v_ild3 (pc := 136) hJ dX11_sum_136 ?_
                          refine v_ild4 (pc := 137) hJ dX11_sum_137 ?_
                          refine v_ild3 (pc := 139) hJ dX11_sum_139 ?_
                          refine v_iconst (pc := 140) hJ dX11_sum_140 ?_
                          refine v_iadd (pc := 141) hJ dX11_sum_141 ?_
                          refine v_ild6 (pc := 142) hJ dX11_sum_142 ?_
                          refine v_ild1 (pc := 144) hJ dX11_sum_144 ?_
                          refine v_cV5i (pc := 145) (q0 := 0) (ci := 8) hJ rfl rfl lkX11_286 (changeW (n := (I 9).toNat) hO (by omega) (by omega) (by omega) (by omega) hb (repH_44 hri.1) (repH_44 hr2.1) (hso i) (hso (i + 1)) hjj (by omega)) (Nat.le_of_ble_eq_true rfl) (rOk_L (by decide) (by decide)) dX11_sum_145 (fun r145 u145 g145 => ?_)
                          obtain ⟨rfl, rfl⟩ := g145
                          try simp only [up_s, up_n, up_up, ne_eq, Nat.reduceEqDiff, not_false_eq_true]
                          refine v_ald0 (pc := 148) hJ dX11_sum_148 ?_
                          refine mg44 (pc := 149) hJ dX11_sum_149 ?_
                          refine v_bipush (pc := 152) hJ dX11_sum_152 (by decide) ?_
                          refine v_ild3 (pc := 154) hJ dX11_sum_154 ?_
                          refine v_imul (pc := 155) hJ dX11_sum_155 ?_
                          refine v_bipush (pc := 156) hJ dX11_sum_156 (by decide) ?_
                          refine v_iadd (pc := 158) hJ dX11_sum_158 ?_
                          refine v_ild6 (pc := 159) hJ dX11_sum_159 ?_
                          refine v_iadd (pc := 161) hJ dX11_sum_161 ?_
                          refine ma44 (pc := 162) hJ (by omega) (by omega) dX11_sum_162 ?_
                          try simp only [up_s, up_n, up_up, ne_eq, Nat.reduceEqDiff, not_false_eq_true]
                          refine v_iadd (pc := 163) hJ dX11_sum_163 ?_
                          rw [show 6 * i + 6 + (kk : Int) = 6 * (i + 1) + (kk : Int) by omega, hF (i + 1) kk (by omega) (by omega) (by omega), show chL (I 9).toNat (hj (hs i) j) (hj (hs (i + 1)) kk) + rsA I A bar (i + 1) kk = fm kk by rw [hfm]]
                          refine v_ist7 (pc := 164) hJ dX11_sum_164 (by decide) ?_
                          refine v_ild7 (pc := 166) hJ dX11_sum_166 ?_
                          refine v_ild5 (pc := 168) hJ dX11_sum_168 ?_
                          refine v_icmp_ge (tgt := 178) (pc := 170) hJ dX11_sum_170 (by decide) (by omega) (by omega) (fun h170 => ?_) (fun h170 => ?_)
                          · refine v_ild5 (pc := 178) hJ dX11_sum_178 ?_
                            refine v_ist5 (pc := 180) hJ dX11_sum_180 (by decide) ?_
                            refine v_inc6 (pc := 182) hJ dX11_sum_182 (by decide) ?_
                            refine v_goto (tgt := 106) (pc := 185) hJ dX11_sum_185 (by decide) ?_
                            have hn := ihk (kk + 1) (some (.int (iZ (fm kk)))) (by omega) (by omega)
                            rw [mnN, if_neg (by omega)] at hn
                            exact hn
                          · refine v_ild7 (pc := 173) hJ dX11_sum_173 ?_
                            refine v_goto (tgt := 180) (pc := 175) hJ dX11_sum_175 (by decide) ?_
                            refine v_ist5 (pc := 180) hJ dX11_sum_180 (by decide) ?_
                            refine v_inc6 (pc := 182) hJ dX11_sum_182 (by decide) ?_
                            refine v_goto (tgt := 106) (pc := 185) hJ dX11_sum_185 (by decide) ?_
                            have hn := ihk (kk + 1) (some (.int (iZ (fm kk)))) (by omega) (by omega)
                            rw [mnN, if_pos (by omega)] at hn
                            exact hn
                  refine v_ild4 (pc := 68) hJ dX11_sum_68 ?_
                  refine v_ald0 (pc := 70) hJ dX11_sum_70 ?_
                  refine mg38 (pc := 71) hJ dX11_sum_71 ?_
                  refine v_bipush (pc := 74) hJ dX11_sum_74 (by decide) ?_
                  refine v_ild3 (pc := 76) hJ dX11_sum_76 ?_
                  refine v_imul (pc := 77) hJ dX11_sum_77 ?_
                  refine v_ild1 (pc := 78) hJ dX11_sum_78 ?_
                  refine v_iadd (pc := 79) hJ dX11_sum_79 ?_
                  refine ma38 (pc := 80) hJ (by omega) (by omega) dX11_sum_80 ?_
                  try simp only [up_s, up_n, up_up, ne_eq, Nat.reduceEqDiff, not_false_eq_true]
                  rw [hri.1.1]
                  refine v_icmp_ge (tgt := 226) (pc := 81) hJ dX11_sum_81 (by decide) (by omega) (by omega) (fun h81 => ?_) (fun h81 => ?_)
                  · omega
                  · refine v_ild3 (pc := 84) hJ dX11_sum_84 ?_
                    refine v_ald0 (pc := 85) hJ dX11_sum_85 ?_
                    refine mg6 (pc := 86) hJ dX11_sum_86 ?_
                    try simp only [up_s, up_n, up_up, ne_eq, Nat.reduceEqDiff, not_false_eq_true]
                    refine v_iconst (pc := 89) hJ dX11_sum_89 ?_
                    refine v_isub (pc := 90) hJ dX11_sum_90 ?_
                    refine v_icmp_ne (tgt := 98) (pc := 91) hJ dX11_sum_91 (by decide) (by omega) (by omega) (fun h91 => ?_) (fun h91 => ?_)
                    · refine v_ldcwK (pc := 98) hJ dX11_sum_98 k_const_X11_271 ?_
                      refine v_ist5 (pc := 101) hJ dX11_sum_101 (by decide) ?_
                      refine v_iconst (pc := 103) hJ dX11_sum_103 ?_
                      refine v_ist6 (pc := 104) hJ dX11_sum_104 (by decide) ?_
                      exact l4 8 0 a7 (by omega) (by omega)
                    · exact absurd h91 hlast
              · have ej : j = (hs i).length := by omega
                subst ej
                refine v_ild4 (pc := 68) hJ dX11_sum_68 ?_
                refine v_ald0 (pc := 70) hJ dX11_sum_70 ?_
                refine mg38 (pc := 71) hJ dX11_sum_71 ?_
                refine v_bipush (pc := 74) hJ dX11_sum_74 (by decide) ?_
                refine v_ild3 (pc := 76) hJ dX11_sum_76 ?_
                refine v_imul (pc := 77) hJ dX11_sum_77 ?_
                refine v_ild1 (pc := 78) hJ dX11_sum_78 ?_
                refine v_iadd (pc := 79) hJ dX11_sum_79 ?_
                refine ma38 (pc := 80) hJ (by omega) (by omega) dX11_sum_80 ?_
                try simp only [up_s, up_n, up_up, ne_eq, Nat.reduceEqDiff, not_false_eq_true]
                rw [hri.1.1]
                refine v_icmp_ge (tgt := 226) (pc := 81) hJ dX11_sum_81 (by decide) (by omega) (by omega) (fun h81 => ?_) (fun h81 => ?_)
                · refine v_inc3 (pc := 226) hJ dX11_sum_226 (by decide) ?_
                  refine v_goto (tgt := 61) (pc := 229) hJ dX11_sum_229 (by decide) ?_
                  refine ih0 (i + -1) F _ _ _ _ (by omega) (by omega) (fun q j q0 q1 hq => ?_) (by omega)
                  by_cases eq : q = i
                  · subst eq; exact hFj j hq
                  · exact hF q j (by omega) q1 hq
                · omega
          refine v_ild3 (pc := 61) hJ dX11_sum_61 ?_
          refine v_if_lt (tgt := 232) (pc := 62) hJ dX11_sum_62 (by decide) (by omega) (fun h62 => ?_) (fun h62 => ?_)
          · omega
          · refine v_iconst (pc := 65) hJ dX11_sum_65 ?_
            refine v_ist4 (pc := 66) hJ dX11_sum_66 (by decide) ?_
            exact l3 8 0 F a5 a6 a7 (by omega) hF (fun j2 h => absurd h (Nat.not_lt_zero _)) (by omega)
    refine v_ald0 (pc := 54) hJ dX11_sum_54 ?_
    refine mg6 (pc := 55) hJ dX11_sum_55 ?_
    refine v_iconst (pc := 58) hJ dX11_sum_58 ?_
    refine v_isub (pc := 59) hJ dX11_sum_59 ?_
    refine v_ist3 (pc := 60) hJ dX11_sum_60 (by decide) ?_
    rw [← up_id A1 44]
    exact l2 61 (I 6 - 1) (A1 44) none none none none (by omega) (by omega) (fun q j q0 q1 hq => by omega) (by omega)
  have out : ∀ (A1 : Nat → Int → Int) (i : Int) , (0 ≤ i ∧ i ≤ 60) → frS A A1 → okH I A1 → ¬ (0 < I 6 ∧ ∀ i2 : Int, 0 ≤ i2 → i2 < I 6 → 0 < (hs i2).length) → J 15 [some (.ref (ad 0)), some (.int (iZ (bar))), some (.int (iZ (0))), some (.int (iZ (i))), none, none, none, none] [] (I, A1) := by
    intro A1 i hi hf1 hH1 hno
    refine v_ild3 (pc := 15) hJ dX11_sum_15 ?_
    refine v_ald0 (pc := 16) hJ dX11_sum_16 ?_
    refine mg6 (pc := 17) hJ dX11_sum_17 ?_
    refine v_icmp_ge (tgt := 48) (pc := 20) hJ dX11_sum_20 (by decide) (by omega) (by omega) (fun h20 => ?_) (fun h20 => ?_)
    · refine v_ild2 (pc := 48) hJ dX11_sum_48 ?_
      refine v_if_ne (tgt := 54) (pc := 49) hJ dX11_sum_49 (by decide) (by omega) (fun h49 => ?_) (fun h49 => ?_)
      · exact absurd rfl h49
      · refine v_iconst (pc := 52) hJ dX11_sum_52 ?_
        refine v_iret (pc := 53) hJ dX11_sum_53 ⟨_, rfl, ?_⟩
        exact ⟨rfl, hf1, hH1, fun q => absurd ⟨q.1, fun i2 a b => by rw [← hsi]; exact q.2 i2 a b⟩ hno, fun _ => rfl⟩
    · refine v_ild2 (pc := 23) hJ dX11_sum_23 ?_
      refine v_if_eq (tgt := 48) (pc := 24) hJ dX11_sum_24 (by decide) (by omega) (fun h24 => ?_) (fun h24 => ?_)
      · refine v_ild2 (pc := 48) hJ dX11_sum_48 ?_
        refine v_if_ne (tgt := 54) (pc := 49) hJ dX11_sum_49 (by decide) (by omega) (fun h49 => ?_) (fun h49 => ?_)
        · exact absurd rfl h49
        · refine v_iconst (pc := 52) hJ dX11_sum_52 ?_
          refine v_iret (pc := 53) hJ dX11_sum_53 ⟨_, rfl, ?_⟩
          exact ⟨rfl, hf1, hH1, fun q => absurd ⟨q.1, fun i2 a b => by rw [← hsi]; exact q.2 i2 a b⟩ hno, fun _ => rfl⟩
      · exact absurd rfl h24
  have l1 : ∀ (fu : Nat) (A1 : Nat → Int → Int) (i : Int), 0 < I 6 → 0 ≤ i → i ≤ I 6 → frS A A1 → okH I A1 → (∀ i2 : Int, 0 ≤ i2 → i2 < i → repH A1 (8 * i2 + bar) (I 9).toNat (hs i2) ∧ 0 < (hs i2).length) → I 6 - i < (fu : Int) → J 15 [some (.ref (ad 0)), some (.int (iZ (bar))), some (.int (iZ (1))), some (.int (iZ (i))), none, none, none, none] [] (I, A1) := by
    intro fu
    induction fu with
    | zero => intro A1 i hc0 i0 i1 hf1 hH1 hr hmu; exfalso; omega
    | succ fu ih =>
      intro A1 i hc0 i0 i1 hf1 hH1 hr hmu
      refine v_ild3 (pc := 15) hJ dX11_sum_15 ?_
      refine v_ald0 (pc := 16) hJ dX11_sum_16 ?_
      refine mg6 (pc := 17) hJ dX11_sum_17 ?_
      refine v_icmp_ge (tgt := 48) (pc := 20) hJ dX11_sum_20 (by decide) (by omega) (by omega) (fun h20 => ?_) (fun h20 => ?_)
      · refine v_ild2 (pc := 48) hJ dX11_sum_48 ?_
        refine v_if_ne (tgt := 54) (pc := 49) hJ dX11_sum_49 (by decide) (by omega) (fun h49 => ?_) (fun h49 => ?_)
        · exact dp A1 _ hc0 hf1 hH1 (fun i2 a b => hr i2 a (by omega))
        · exact absurd h49 (by decide)
      · refine v_ild2 (pc := 23) hJ dX11_sum_23 ?_
        refine v_if_eq (tgt := 48) (pc := 24) hJ dX11_sum_24 (by decide) (by omega) (fun h24 => ?_) (fun h24 => ?_)
        · exact absurd h24 (by decide)
        · refine v_ald0 (pc := 27) hJ dX11_sum_27 ?_
          refine v_ild3 (pc := 28) hJ dX11_sum_28 ?_
          refine v_ild1 (pc := 29) hJ dX11_sum_29 ?_
          refine v_cV2i (pc := 30) (q0 := 0) (ci := 8) hJ rfl rfl lkX11_282 (hfw hf1 hH1 (by omega)) (Nat.le_of_ble_eq_true rfl) (rOk_L (by decide) (by decide)) dX11_sum_30 (fun r30 u30 g30 => ?_)
          obtain ⟨I3, A3⟩ := u30
          obtain ⟨rfl, e30, f30, r30⟩ := g30
          dsimp only at e30 f30 r30
          subst e30
          have hl30 := r30.2.1
          refine v_if_le (tgt := 40) (pc := 33) hJ dX11_sum_33 (by decide) (by omega) (fun h33 => ?_) (fun h33 => ?_)
          · refine v_iconst (pc := 40) hJ dX11_sum_40 ?_
            refine v_ist2 (pc := 41) hJ dX11_sum_41 (by decide) ?_
            refine v_inc3 (pc := 42) hJ dX11_sum_42 (by decide) ?_
            refine v_goto (tgt := 15) (pc := 45) hJ dX11_sum_45 (by decide) ?_
            exact out A3 (i + 1) (by omega) (frS_F hf1 f30) (okH_fr hb rfl rfl (by omega) hH1 f30 (by rw [frS_hd hf1, hsi]; exact r30)) (fun q => by have := q.2 i i0 (by omega); omega)
          · refine v_iconst (pc := 36) hJ dX11_sum_36 ?_
            refine v_goto (tgt := 41) (pc := 37) hJ dX11_sum_37 (by decide) ?_
            refine v_ist2 (pc := 41) hJ dX11_sum_41 (by decide) ?_
            refine v_inc3 (pc := 42) hJ dX11_sum_42 (by decide) ?_
            refine v_goto (tgt := 15) (pc := 45) hJ dX11_sum_45 (by decide) ?_
            refine ih A3 (i + 1) hc0 (by omega) (by omega) (frS_F hf1 f30) (okH_fr hb rfl rfl (by omega) hH1 f30 (by rw [frS_hd hf1, hsi]; exact r30)) (fun i2 a b => ?_) (by omega)
            by_cases e : i2 = i
            · subst e; exact ⟨r30, by omega⟩
            · exact ⟨repH_fr (by omega) f30 (by omega) (hr i2 a (by omega)).1, (hr i2 a (by omega)).2⟩
  show J 0 [some (.ref (ad 0)), some (.int (iZ bar)), none, none, none, none, none, none] [] (I, A)
  refine v_ald0 (pc := 0) hJ dX11_sum_0 ?_
  refine mg6 (pc := 1) hJ dX11_sum_1 ?_
  refine v_if_le (tgt := 11) (pc := 4) hJ dX11_sum_4 (by decide) (by omega) (fun h4 => ?_) (fun h4 => ?_)
  · refine v_iconst (pc := 11) hJ dX11_sum_11 ?_
    refine v_ist2 (pc := 12) hJ dX11_sum_12 (by decide) ?_
    refine v_iconst (pc := 13) hJ dX11_sum_13 ?_
    refine v_ist3 (pc := 14) hJ dX11_sum_14 (by decide) ?_
    exact out A 0 (by omega) (fun k _ _ _ _ _ _ _ => rfl) hH (fun q => by omega)
  · refine v_iconst (pc := 7) hJ dX11_sum_7 ?_
    refine v_goto (tgt := 12) (pc := 8) hJ dX11_sum_8 (by decide) ?_
    refine v_ist2 (pc := 12) hJ dX11_sum_12 (by decide) ?_
    refine v_iconst (pc := 13) hJ dX11_sum_13 ?_
    refine v_ist3 (pc := 14) hJ dX11_sum_14 (by decide) ?_
    exact l1 61 A 0 (by omega) (by omega) (by omega) (fun k _ _ _ _ _ _ _ => rfl) hH (fun i2 a b => by omega) (by omega)
