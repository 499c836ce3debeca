/-- a hand's frets out of its number -/
theorem frOf_hn {n : Nat} {e : Int × List Int} (hn : n ≤ 6) (he : okE n e) (s : Nat) (hs : s < 6) : frOf (hnE e) s = if s < n then gL e.2 s else -1 := by
  obtain ⟨⟨x1, x2⟩, hl, hv⟩ := he
  have hg : ∀ j : Nat, j < n → -1 ≤ gL e.2 j ∧ gL e.2 j ≤ 9 := fun j hj => by unfold gL; rw [Int.toNat_natCast]; exact getD_in hv (by omega)
  unfold frOf hnE rvL
  rw [hl]
  generalize gL e.2 = g at hg ⊢
  generalize e.1 = x at x1 x2 ⊢
  have h0 := hg 0
  have h1 := hg 1
  have h2 := hg 2
  have h3 := hg 3
  have h4 := hg 4
  have h5 := hg 5
  have hnc : n = 0 ∨ n = 1 ∨ n = 2 ∨ n = 3 ∨ n = 4 ∨ n = 5 ∨ n = 6 := by omega
  have hsc : s = 0 ∨ s = 1 ∨ s = 2 ∨ s = 3 ∨ s = 4 ∨ s = 5 := by omega
  clear hg hv hl
  rcases hnc with e | e | e | e | e | e | e <;> subst e <;> rcases hsc with e | e | e | e | e | e <;> subst e <;> simp only [rvN, Nat.reduceSub, Nat.reduceMul, Nat.reducePow, Nat.reduceLT, if_true, if_false, Nat.lt_irrefl, forall_const, Nat.not_lt_zero, false_implies] at h0 h1 h2 h3 h4 h5 ⊢ <;> omega
theorem chN_cut {f g : Int → Int} : ∀ (m n : Nat), n ≤ m → (∀ s : Nat, n ≤ s → s < m → f s = -1 ∧ g s = -1) → chN f g m = chN f g n
  | 0, n, h, _ => by rw [show n = 0 by omega]
  | m + 1, n, h, hz => by
    by_cases e : n = m + 1
    · rw [e]
    · have ih := chN_cut (f := f) (g := g) m n (by omega) (fun s a b => hz s a (by omega))
      obtain ⟨a, b⟩ := hz m (by omega) (by omega)
      rw [chN, ih, a, b]
      simp [ab0]
theorem ch_hn {n : Nat} {e1 e2 : Int × List Int} (hn : n ≤ 6) (h1 : okE n e1) (h2 : okE n e2) : chN (fun s => frOf (hnE e1) s.toNat) (fun s => frOf (hnE e2) s.toNat) 6 = chL n e1.2 e2.2 := by
  rw [chN_cut 6 n hn (fun s a b => ?_)]
  · refine chN_eq n (fun s hs => ?_)
    try dsimp only
    rw [Int.toNat_natCast, frOf_hn hn h1 s (by omega), frOf_hn hn h2 s (by omega), if_pos hs, if_pos hs]
    exact ⟨rfl, rfl⟩
  · try dsimp only
    rw [Int.toNat_natCast, frOf_hn hn h1 s b, frOf_hn hn h2 s b, if_neg (by omega), if_neg (by omega)]
    exact ⟨rfl, rfl⟩
theorem okHS_E {n : Nat} {H : HS} (h : okHS n H) {j : Nat} (hjl : j < H.length) : okE n (H.getD j (0, [])) := h _ (by rw [List.getD, List.getElem?_eq_getElem hjl]; exact List.getElem_mem hjl)
def rsG (n : Nat) (hs : Int → HS) (c i : Int) (j : Nat) : Int := rsN n hs c (c - 1 - i).toNat j
def nfG (n : Nat) (hs : Int → HS) (c i : Int) (j : Nat) : Nat → Int := fun k => chL n (hj (hs i) j) (hj (hs (i + 1)) k) + rsG n hs c (i + 1) k
def nxG (n : Nat) (hs : Int → HS) (c i : Int) (j : Nat) : Int := if i = c - 1 then -1 else (amN (nfG n hs c i j) (hs (i + 1)).length : Int)
def jsG (n : Nat) (hs : Int → HS) (c : Int) : Nat → Nat
  | 0 => amN (rsG n hs c 0) (hs 0).length
  | i + 1 => amN (nfG n hs c (i : Int) (jsG n hs c i)) (hs ((i : Int) + 1)).length
theorem rsG_last {n : Nat} {hs : Int → HS} {c i : Int} {j : Nat} (h : i = c - 1) : rsG n hs c i j = sj (hs i) j := by
  unfold rsG
  rw [h, show (c - 1 - (c - 1)).toNat = 0 by omega, rsN]
theorem rsG_step {n : Nat} {hs : Int → HS} {c i : Int} {j : Nat} (h0 : 0 ≤ i) (h : i < c - 1) : rsG n hs c i j = sj (hs i) j + mnN (nfG n hs c i j) (hs (i + 1)).length := by
  unfold rsG nfG
  obtain ⟨m, hm⟩ : ∃ m : Nat, (c - 1 - i).toNat = m + 1 := ⟨(c - 1 - i).toNat - 1, by omega⟩
  rw [hm, rsN, show c - 1 - ((m + 1 : Nat) : Int) = i by omega, show c - 1 - (m : Int) = i + 1 by omega]
  unfold rsG
  rw [show (c - 1 - (i + 1)).toNat = m by omega]
def gdH (n : Nat) (hs : Int → HS) (c : Int) : Prop := ∀ i : Int, 0 ≤ i → i < c → okHS n (hs i) ∧ 0 < (hs i).length
theorem rsG_in {n : Nat} {hs : Int → HS} {c i : Int} {j : Nat} (hn : n ≤ 6) (hc : c ≤ 60) (hok : ∀ i2 : Int, i ≤ i2 → i2 < c → okHS n (hs i2) ∧ 0 < (hs i2).length) (i0 : 0 ≤ i) (i1 : i < c) (hjl : j < (hs i).length) : 0 ≤ rsG n hs c i j ∧ rsG n hs c i j ≤ 7000 := by
  have key : ∀ (m : Nat) (i : Int) (j : Nat), c - 1 - i = m → 0 ≤ i → (∀ i2 : Int, i ≤ i2 → i2 < c → okHS n (hs i2) ∧ 0 < (hs i2).length) → j < (hs i).length → 0 ≤ rsG n hs c i j ∧ rsG n hs c i j ≤ 114 * (m + 1) := by
    intro m
    induction m with
    | zero =>
      intro i j hm i0 hok hj
      rw [rsG_last (by omega)]
      have := (okHS_j (hok i (by omega) (by omega)).1 hj).1
      omega
    | succ m ih =>
      intro i j hm i0 hok hj
      rw [rsG_step i0 (by omega)]
      have h1 := (okHS_j (hok i (by omega) (by omega)).1 hj).1
      have h2 := mnN_in (f := nfG n hs c i j) (B := 54 + 114 * ((m : Int) + 1)) (n := (hs (i + 1)).length) (by omega) (hok (i + 1) (by omega) (by omega)).2 (fun k hk => by
        have a1 := ih (i + 1) k (by omega) (by omega) (fun i2 a b => hok i2 (by omega) b) hk
        have a2 := chL_in hn (hok i (by omega) (by omega)).1 (hok (i + 1) (by omega) (by omega)).1 hj hk
        unfold nfG
        omega)
      omega
  have := key (c - 1 - i).toNat i j (by omega) i0 hok hjl
  omega
theorem nfG_in {n : Nat} {hs : Int → HS} {c i : Int} {j k : Nat} (hn : n ≤ 6) (hc : c ≤ 60) (hok : ∀ i2 : Int, i ≤ i2 → i2 < c → okHS n (hs i2) ∧ 0 < (hs i2).length) (i0 : 0 ≤ i) (i1 : i < c - 1) (hjl : j < (hs i).length) (hk : k < (hs (i + 1)).length) : 0 ≤ nfG n hs c i j k ∧ nfG n hs c i j k ≤ 10000 := by
  have a1 := rsG_in (j := k) hn hc (fun i2 a b => hok i2 (by omega) b) (show 0 ≤ i + 1 by omega) (by omega) hk
  have a2 := chL_in hn (hok i (by omega) (by omega)).1 (hok (i + 1) (by omega) (by omega)).1 hjl hk
  unfold nfG
  omega
theorem jsG_in {n : Nat} {hs : Int → HS} {c : Int} (hn : n ≤ 6) (hc : c ≤ 60) (hok : gdH n hs c) : ∀ i : Nat, (i : Int) < c → jsG n hs c i < (hs (i : Int)).length
  | 0, h => (amN_ok _ (hok 0 (by omega) h).2 (fun k hk => by have := rsG_in (i := 0) (j := k) hn hc (fun i2 a b => hok i2 a b) (by omega) h hk; omega)).1
  | i + 1, h => by
    have ih := jsG_in hn hc hok i (by omega)
    rw [show ((i + 1 : Nat) : Int) = (i : Int) + 1 by omega]
    exact (amN_ok _ (hok ((i : Int) + 1) (by omega) (by omega)).2 (fun k hk => by have := nfG_in (i := (i : Int)) (j := jsG n hs c i) (k := k) hn hc (fun i2 a b => hok i2 (by omega) b) (by omega) (by omega) ih hk; omega)).1
theorem changeH {l : Launch} {D : va_G} {cI : ClassId} {O : OT} {adK adV : Nat → Nat} {tT : Nat} (hO : OGC O adK adV tT) {ad : Nat → Nat} {I : Nat → Int} {A : Nat → Int → Int} {n : Nat} {H1 H2 : HS} {j k : Nat} (hn : n ≤ 6) (o1 : okHS n H1) (o2 : okHS n H2) (h1 : j < H1.length) (h2 : k < H2.length) : CC l D cI O yX1_change cX1_change 4 (some .int) 3 [.int (iZ (hnE (H1.getD j (0, [])))), .int (iZ (hnE (H2.getD k (0, []))))] (ad, I, A) (pI fun r u2 => r = chL n (hj H1 j) (hj H2 k) ∧ u2 = (ad, I, A)) := by
  have a1 := okHS_E o1 h1
  have a2 := okHS_E o2 h2
  have b1 := hn_in hn a1
  have b2 := hn_in hn a2
  have := qX1_change (l := l) (D := D) (cI := cI) hO (ad := ad) (I := I) (A := A) (a := hnE (H1.getD j (0, []))) (b := hnE (H2.getD k (0, []))) (by omega) (by omega)
  rw [ch_hn hn a1 a2] at this
  exact this
set_option maxHeartbeats 4000000 in
set_option maxRecDepth 100000 in
theorem qX6_weigh {l : Launch} {D : va_G} {cI : ClassId} {O : OT} {adK adV : Nat → Nat} {tT : Nat} (hO : OGC O adK adV tT) {ad : Nat → Nat} {I : Nat → Int} {A : Nat → Int → Int} {i p q c : Int} {n : Nat} {hs : Int → HS} (hn : n ≤ 6) (hc : c ≤ 60) (hi : 0 ≤ i ∧ i < c) (hp : 0 ≤ p ∧ p < 480) (r1 : crepH A p (hs i)) (hok : ∀ i2 : Int, i ≤ i2 → i2 < c → okHS n (hs i2) ∧ 0 < (hs i2).length) (hq : (q = -1 ∧ i = c - 1) ∨ ((0 ≤ q ∧ q < 480) ∧ i < c - 1 ∧ crepH A q (hs (i + 1)) ∧ ∀ g : Nat, g < (hs (i + 1)).length → A 160 ((i + 1) * 6 + g) = rsG n hs c (i + 1) g)) : CC l D cI O yX6_weigh cX6_weigh 11 none 4 [.ref (ad 179), .ref (ad 159), .int (iZ i), .int (iZ p), .int (iZ q)] (ad, I, A) (pV fun u2 => (u2.1 = ad ∧ u2.2.1 = I ∧ (∀ k, k ≠ 160 → k ≠ 161 → u2.2.2 k = A k) ∧ (∀ j, j < i * 6 ∨ i * 6 + 6 ≤ j → u2.2.2 160 j = A 160 j ∧ u2.2.2 161 j = A 161 j) ∧ ∀ h : Nat, h < (hs i).length → u2.2.2 160 (i * 6 + h) = rsG n hs c i h ∧ u2.2.2 161 (i * 6 + h) = nxG n hs c i h)) := by
  refine ct_intro (own := RX6) (by decide) rfl hO.1.1 (Nat.le_of_ble_eq_true rfl) (by simp [Value.category]) (fun X J hJ => ?_)
  have o1 := (hok i (by omega) hi.2).1
  have hl6 := r1.2.1
  have lp : ∀ (fu : Nat) (h : Nat) (A1 : Nat → Int → Int) (a6 a7 a8 a9 a10 : Option Value), h ≤ (hs i).length → (∀ k, k ≠ 160 → k ≠ 161 → A1 k = A k) → (∀ j, j < i * 6 ∨ i * 6 + 6 ≤ j → A1 160 j = A 160 j ∧ A1 161 j = A 161 j) → (∀ h2 : Nat, h2 < h → A1 160 (i * 6 + h2) = rsG n hs c i h2 ∧ A1 161 (i * 6 + h2) = nxG n hs c i h2) → ((hs i).length : Int) - (h : Int) < (fu : Int) → J 3 [some (.ref (ad 179)), some (.ref (ad 159)), some (.int (iZ (i))), some (.int (iZ (p))), some (.int (iZ (q))), some (.int (iZ ((h : Int)))), a6, a7, a8, a9, a10] [] (ad, I, A1) := by
    intro fu
    induction fu with
    | zero => intro h A1 a6 a7 a8 a9 a10 hh hf hout hin hmu; exfalso; omega
    | succ fu ih0 =>
      intro h A1 a6 a7 a8 a9 a10 hh hf hout hin hmu
      have a140 : A1 140 = A 140 := hf 140 (by decide) (by decide)
      have a141 : A1 141 = A 141 := hf 141 (by decide) (by decide)
      have rp := r1.1
      by_cases hlt : h < (hs i).length
      · have he := okHS_E o1 hlt
        have hni := hn_in hn he
        have j117 : ∀ (lt la : Int) (a9 a10 : Option Value), sj (hs i) h + lt = rsG n hs c i h → la = nxG n hs c i h → J 117 [some (.ref (ad 179)), some (.ref (ad 159)), some (.int (iZ (i))), some (.int (iZ (p))), some (.int (iZ (q))), some (.int (iZ ((h : Int)))), some (.int (iZ (hnE ((hs i).getD h (0, []))))), some (.int (iZ (lt))), some (.int (iZ (la))), a9, a10] [] (ad, I, A1) := by
          intro lt la a9 a10 hlt2 hla
          refine v_ald0 (pc := 117) hJ dX6_weigh_117 ?_
          refine cgX6_9 (pc := 118) hJ dX6_weigh_118 ?_
          refine v_ild2 (pc := 121) hJ dX6_weigh_121 ?_
          refine v_bipush (pc := 122) hJ dX6_weigh_122 (by decide) ?_
          refine v_imul (pc := 124) hJ dX6_weigh_124 ?_
          refine v_ild5 (pc := 125) hJ dX6_weigh_125 ?_
          refine v_iadd (pc := 127) hJ dX6_weigh_127 ?_
          refine v_ild6 (pc := 128) hJ dX6_weigh_128 ?_
          refine v_cS1i (pc := 130) hJ lkX6_55 (qX1_strainOf hO (by omega)) (Nat.le_of_ble_eq_true rfl) (rOk_L (by decide) (by decide)) dX6_weigh_130 (fun r130 u130 g130 => ?_)
          obtain ⟨rfl, rfl⟩ := g130
          refine v_ild7 (pc := 133) hJ dX6_weigh_133 ?_
          rw [show hnE ((hs i).getD h (0, [])) / 16777216 = sj (hs i) h from hni.2.2]
          refine v_iadd (pc := 135) hJ dX6_weigh_135 ?_
          rw [hlt2]
          refine cs160 (pc := 136) hJ (by omega) (by omega) dX6_weigh_136 ?_
          refine v_ald0 (pc := 137) hJ dX6_weigh_137 ?_
          refine cgX6_15 (pc := 138) hJ dX6_weigh_138 ?_
          refine v_ild2 (pc := 141) hJ dX6_weigh_141 ?_
          refine v_bipush (pc := 142) hJ dX6_weigh_142 (by decide) ?_
          refine v_imul (pc := 144) hJ dX6_weigh_144 ?_
          refine v_ild5 (pc := 145) hJ dX6_weigh_145 ?_
          refine v_iadd (pc := 147) hJ dX6_weigh_147 ?_
          refine v_ild8 (pc := 148) hJ dX6_weigh_148 ?_
          rw [hla]
          refine cs161 (pc := 150) hJ (by omega) (by omega) dX6_weigh_150 ?_
          refine v_inc5 (pc := 151) hJ dX6_weigh_151 (by decide) ?_
          refine v_goto (tgt := 3) (pc := 154) hJ dX6_weigh_154 (by decide) ?_
          refine ih0 (h + 1) _ _ _ _ _ _ (by omega) (fun k h1 h2 => by simp only [up_n, h1, h2, ne_eq, not_false_eq_true]; exact hf k h1 h2) (fun j hj => ?_) (fun h2 hh2 => ?_) (by omega)
          · simp only [up_s, up_n, up_up, ne_eq, Nat.reduceEqDiff, not_false_eq_true]
            rw [zu_ne (by omega), zu_ne (by omega)]
            exact hout j hj
          · simp only [up_s, up_n, up_up, ne_eq, Nat.reduceEqDiff, not_false_eq_true]
            by_cases e2 : h2 = h
            · rw [e2, zu_same, zu_same]; exact ⟨rfl, rfl⟩
            · rw [zu_ne (by omega), zu_ne (by omega)]
              exact hin h2 (by omega)
        rcases hq with ⟨q1, q2⟩ | ⟨q1, q2, q3, q4⟩
        · have hj := fun a9 a10 => j117 0 (-1) a9 a10 (by rw [rsG_last q2]; omega) (by unfold nxG; rw [if_pos q2])
          refine v_ild5 (pc := 3) hJ dX6_weigh_3 ?_
          refine v_ald1 (pc := 5) hJ dX6_weigh_5 ?_
          refine cgX6_36 (pc := 6) hJ dX6_weigh_6 ?_
          refine v_ild3 (pc := 9) hJ dX6_weigh_9 ?_
          refine ca141 (pc := 10) hJ (by omega) (by omega) dX6_weigh_10 ?_
          rw [a141, rp]
          refine v_icmp_ge (tgt := 157) (pc := 11) hJ dX6_weigh_11 (by decide) (by omega) (by omega) (fun h11 => ?_) (fun h11 => ?_)
          · exfalso; omega
          · refine v_ald1 (pc := 14) hJ dX6_weigh_14 ?_
            refine cgX6_46 (pc := 15) hJ dX6_weigh_15 ?_
            refine v_ild3 (pc := 18) hJ dX6_weigh_18 ?_
            refine v_bipush (pc := 19) hJ dX6_weigh_19 (by decide) ?_
            refine v_imul (pc := 21) hJ dX6_weigh_21 ?_
            refine v_ild5 (pc := 22) hJ dX6_weigh_22 ?_
            refine v_iadd (pc := 24) hJ dX6_weigh_24 ?_
            refine ca140 (pc := 25) hJ (by omega) (by omega) dX6_weigh_25 ?_
            rw [a140, show p * 6 + (h : Int) = 6 * p + (h : Int) by omega, r1.2.2 h hlt]
            refine v_ist6 (pc := 26) hJ dX6_weigh_26 (by decide) ?_
            refine v_iconst (pc := 28) hJ dX6_weigh_28 ?_
            refine v_ist7 (pc := 29) hJ dX6_weigh_29 (by decide) ?_
            refine v_iconst (pc := 31) hJ dX6_weigh_31 ?_
            refine v_ist8 (pc := 32) hJ dX6_weigh_32 (by decide) ?_
            refine v_iconst (pc := 34) hJ dX6_weigh_34 ?_
            refine v_ist9 (pc := 35) hJ dX6_weigh_35 (by decide) ?_
            refine v_ild4 (pc := 37) hJ dX6_weigh_37 ?_
            refine v_iconst (pc := 39) hJ dX6_weigh_39 ?_
            refine v_icmp_eq (tgt := 117) (pc := 40) hJ dX6_weigh_40 (by decide) (by omega) (by omega) (fun h40 => ?_) (fun h40 => ?_)
            · exact hj _ _
            · exfalso; omega
        · have o2 := (hok (i + 1) (by omega) (by omega)).1
          have hl2 := (hok (i + 1) (by omega) (by omega)).2
          have hq6 := q3.2.1
          have rq := q3.1
          obtain ⟨f, hf2⟩ : ∃ z, z = nfG n hs c i h := ⟨_, rfl⟩
          have hfi : ∀ k, k < (hs (i + 1)).length → 0 ≤ f k ∧ f k ≤ 10000 := fun k hk => by rw [hf2]; exact nfG_in hn hc hok hi.1 q2 hlt hk
          have hmn : ∀ k, k ≤ (hs (i + 1)).length → 0 ≤ mnN f k ∧ mnN f k ≤ 1000000000 := fun k hk => mnN_b k (fun k2 h2 => by have := hfi k2 (by omega); omega)
          have hfr : 0 ≤ mnN f (hs (i + 1)).length ∧ mnN f (hs (i + 1)).length ≤ 10000 := mnN_in (by decide) _ hl2 hfi
          have l2 : ∀ (fg : Nat) (g : Nat) (lt la : Int) (a10 : Option Value), g ≤ (hs (i + 1)).length → ((g = 0 ∧ lt = 0 ∧ la = -1) ∨ (0 < g ∧ lt = mnN f g ∧ la = (amN f g : Int) ∧ la < g)) → ((hs (i + 1)).length : Int) - (g : Int) < (fg : Int) → J 37 [some (.ref (ad 179)), some (.ref (ad 159)), some (.int (iZ (i))), some (.int (iZ (p))), some (.int (iZ (q))), some (.int (iZ ((h : Int)))), some (.int (iZ (hnE ((hs i).getD h (0, []))))), some (.int (iZ (lt))), some (.int (iZ (la))), some (.int (iZ ((g : Int)))), a10] [] (ad, I, A1) := by
            intro fg
            induction fg with
            | zero => intro g lt la a10 hg hlt2 hmg; exfalso; omega
            | succ fg ihg =>
              intro g lt la a10 hg hlt2 hmg
              have hmg2 := hmn g hg
              have hla : -1 ≤ la ∧ la < 6 ∧ 0 ≤ lt ∧ lt ≤ 1000000000 := by rcases hlt2 with w | w <;> omega
              refine v_ild4 (pc := 37) hJ dX6_weigh_37 ?_
              refine v_iconst (pc := 39) hJ dX6_weigh_39 ?_
              refine v_icmp_eq (tgt := 117) (pc := 40) hJ dX6_weigh_40 (by decide) (by omega) (by omega) (fun h40 => ?_) (fun h40 => ?_)
              · exfalso; omega
              · refine v_ild9 (pc := 43) hJ dX6_weigh_43 ?_
                refine v_ald1 (pc := 45) hJ dX6_weigh_45 ?_
                refine cgX6_36 (pc := 46) hJ dX6_weigh_46 ?_
                refine v_ild4 (pc := 49) hJ dX6_weigh_49 ?_
                refine ca141 (pc := 51) hJ (by omega) (by omega) dX6_weigh_51 ?_
                rw [a141, rq]
                refine v_icmp_ge (tgt := 117) (pc := 52) hJ dX6_weigh_52 (by decide) (by omega) (by omega) (fun h52 => ?_) (fun h52 => ?_)
                · have hge : g = (hs (i + 1)).length := by omega
                  have hw : lt = mnN f g ∧ la = (amN f g : Int) := by rcases hlt2 with w | w; (omega); exact ⟨w.2.1, w.2.2.1⟩
                  refine j117 lt la _ _ ?_ ?_
                  · rw [rsG_step hi.1 q2, ← hf2, ← hge, hw.1]
                  · unfold nxG
                    rw [if_neg (by omega), ← hf2, ← hge, hw.2]
                · have hgl : g < (hs (i + 1)).length := by omega
                  have hfg := hfi g hgl
                  have hq4 := q4 g hgl
                  have hou := (hout ((i + 1) * 6 + g) (by omega)).1
                  refine v_ald0 (pc := 55) hJ dX6_weigh_55 ?_
                  refine cgX6_9 (pc := 56) hJ dX6_weigh_56 ?_
                  refine v_ild2 (pc := 59) hJ dX6_weigh_59 ?_
                  refine v_iconst (pc := 60) hJ dX6_weigh_60 ?_
                  refine v_iadd (pc := 61) hJ dX6_weigh_61 ?_
                  refine v_bipush (pc := 62) hJ dX6_weigh_62 (by decide) ?_
                  refine v_imul (pc := 64) hJ dX6_weigh_64 ?_
                  refine v_ild9 (pc := 65) hJ dX6_weigh_65 ?_
                  refine v_iadd (pc := 67) hJ dX6_weigh_67 ?_
                  refine ca160 (pc := 68) hJ (by omega) (by omega) dX6_weigh_68 ?_
                  rw [hou, hq4]
                  refine v_ild6 (pc := 69) hJ dX6_weigh_69 ?_
                  refine v_ald1 (pc := 71) hJ dX6_weigh_71 ?_
                  refine cgX6_46 (pc := 72) hJ dX6_weigh_72 ?_
                  refine v_ild4 (pc := 75) hJ dX6_weigh_75 ?_
                  refine v_bipush (pc := 77) hJ dX6_weigh_77 (by decide) ?_
                  refine v_imul (pc := 79) hJ dX6_weigh_79 ?_
                  refine v_ild9 (pc := 80) hJ dX6_weigh_80 ?_
                  refine v_iadd (pc := 82) hJ dX6_weigh_82 ?_
                  refine ca140 (pc := 83) hJ (by omega) (by omega) dX6_weigh_83 ?_
                  rw [a140, show q * 6 + (g : Int) = 6 * q + (g : Int) by omega, q3.2.2 g hgl]
                  refine v_cS2i (pc := 84) hJ lkX6_49 (changeH hO hn o1 o2 hlt hgl) (Nat.le_of_ble_eq_true rfl) (rOk_L (by decide) (by decide)) dX6_weigh_84 (fun r84 u84 g84 => ?_)
                  obtain ⟨rfl, rfl⟩ := g84
                  refine v_iadd (pc := 87) hJ dX6_weigh_87 ?_
                  rw [show rsG n hs c (i + 1) g + chL n (hj (hs i) h) (hj (hs (i + 1)) g) = f g by rw [hf2]; unfold nfG; omega]
                  refine v_ist10 (pc := 88) hJ dX6_weigh_88 (by decide) ?_
                  refine v_ild8 (pc := 90) hJ dX6_weigh_90 ?_
                  refine v_iconst (pc := 92) hJ dX6_weigh_92 ?_
                  refine v_icmp_eq (tgt := 103) (pc := 93) hJ dX6_weigh_93 (by decide) (by omega) (by omega) (fun h93 => ?_) (fun h93 => ?_)
                  · refine v_ild10 (pc := 103) hJ dX6_weigh_103 ?_
                    refine v_ist7 (pc := 105) hJ dX6_weigh_105 (by decide) ?_
                    refine v_ild9 (pc := 107) hJ dX6_weigh_107 ?_
                    refine v_ist8 (pc := 109) hJ dX6_weigh_109 (by decide) ?_
                    refine v_inc9 (pc := 111) hJ dX6_weigh_111 (by decide) ?_
                    refine v_goto (tgt := 37) (pc := 114) hJ dX6_weigh_114 (by decide) ?_
                    have hg0 : g = 0 := by rcases hlt2 with w | w <;> omega
                    subst hg0
                    have := hfi 0 (by omega)
                    exact ihg (0 + 1) _ _ _ (by omega) (Or.inr ⟨by omega, by rw [mnN, mnN, if_pos (by omega)], by rw [amN, mnN, if_pos (by omega)], by omega⟩) (by omega)
                  · refine v_ild10 (pc := 96) hJ dX6_weigh_96 ?_
                    refine v_ild7 (pc := 98) hJ dX6_weigh_98 ?_
                    refine v_icmp_ge (tgt := 111) (pc := 100) hJ dX6_weigh_100 (by decide) (by omega) (by omega) (fun h100 => ?_) (fun h100 => ?_)
                    · refine v_inc9 (pc := 111) hJ dX6_weigh_111 (by decide) ?_
                      refine v_goto (tgt := 37) (pc := 114) hJ dX6_weigh_114 (by decide) ?_
                      have hw : 0 < g ∧ lt = mnN f g ∧ la = (amN f g : Int) ∧ la < g := by rcases hlt2 with w | w; (omega); exact w
                      exact ihg (g + 1) _ _ _ (by omega) (Or.inr ⟨by omega, by rw [mnN, if_neg (by omega)]; exact hw.2.1, by rw [amN, if_neg (by omega)]; exact hw.2.2.1, by omega⟩) (by omega)
                    · refine v_ild10 (pc := 103) hJ dX6_weigh_103 ?_
                      refine v_ist7 (pc := 105) hJ dX6_weigh_105 (by decide) ?_
                      refine v_ild9 (pc := 107) hJ dX6_weigh_107 ?_
                      refine v_ist8 (pc := 109) hJ dX6_weigh_109 (by decide) ?_
                      refine v_inc9 (pc := 111) hJ dX6_weigh_111 (by decide) ?_
                      refine v_goto (tgt := 37) (pc := 114) hJ dX6_weigh_114 (by decide) ?_
                      have hw : 0 < g ∧ lt = mnN f g := by rcases hlt2 with w | w; (omega); exact ⟨w.1, w.2.1⟩
                      exact ihg (g + 1) _ _ _ (by omega) (Or.inr ⟨by omega, by rw [mnN, if_pos (by omega)], by rw [amN, if_pos (by omega)], by omega⟩) (by omega)
          refine v_ild5 (pc := 3) hJ dX6_weigh_3 ?_
          refine v_ald1 (pc := 5) hJ dX6_weigh_5 ?_
          refine cgX6_36 (pc := 6) hJ dX6_weigh_6 ?_
          refine v_ild3 (pc := 9) hJ dX6_weigh_9 ?_
          refine ca141 (pc := 10) hJ (by omega) (by omega) dX6_weigh_10 ?_
          rw [a141, rp]
          refine v_icmp_ge (tgt := 157) (pc := 11) hJ dX6_weigh_11 (by decide) (by omega) (by omega) (fun h11 => ?_) (fun h11 => ?_)
          · exfalso; omega
          · refine v_ald1 (pc := 14) hJ dX6_weigh_14 ?_
            refine cgX6_46 (pc := 15) hJ dX6_weigh_15 ?_
            refine v_ild3 (pc := 18) hJ dX6_weigh_18 ?_
            refine v_bipush (pc := 19) hJ dX6_weigh_19 (by decide) ?_
            refine v_imul (pc := 21) hJ dX6_weigh_21 ?_
            refine v_ild5 (pc := 22) hJ dX6_weigh_22 ?_
            refine v_iadd (pc := 24) hJ dX6_weigh_24 ?_
            refine ca140 (pc := 25) hJ (by omega) (by omega) dX6_weigh_25 ?_
            rw [a140, show p * 6 + (h : Int) = 6 * p + (h : Int) by omega, r1.2.2 h hlt]
            refine v_ist6 (pc := 26) hJ dX6_weigh_26 (by decide) ?_
            refine v_iconst (pc := 28) hJ dX6_weigh_28 ?_
            refine v_ist7 (pc := 29) hJ dX6_weigh_29 (by decide) ?_
            refine v_iconst (pc := 31) hJ dX6_weigh_31 ?_
            refine v_ist8 (pc := 32) hJ dX6_weigh_32 (by decide) ?_
            refine v_iconst (pc := 34) hJ dX6_weigh_34 ?_
            refine v_ist9 (pc := 35) hJ dX6_weigh_35 (by decide) ?_
            exact l2 8 0 0 (-1) a10 (by omega) (Or.inl ⟨rfl, rfl, rfl⟩) (by omega)
      · skip
        refine v_ild5 (pc := 3) hJ dX6_weigh_3 ?_
        refine v_ald1 (pc := 5) hJ dX6_weigh_5 ?_
        refine cgX6_36 (pc := 6) hJ dX6_weigh_6 ?_
        refine v_ild3 (pc := 9) hJ dX6_weigh_9 ?_
        refine ca141 (pc := 10) hJ (by omega) (by omega) dX6_weigh_10 ?_
        rw [a141, rp]
        refine v_icmp_ge (tgt := 157) (pc := 11) hJ dX6_weigh_11 (by decide) (by omega) (by omega) (fun h11 => ?_) (fun h11 => ?_)
        · refine v_vret (pc := 157) hJ dX6_weigh_157 ⟨rfl, ?_⟩
          exact ⟨rfl, rfl, hf, hout, fun h2 hh2 => hin h2 (by omega)⟩
        · exfalso; omega
  show J 0 [some (.ref (ad 179)), some (.ref (ad 159)), some (.int (iZ i)), some (.int (iZ p)), some (.int (iZ q)), none, none, none, none, none, none] [] (ad, I, A)
  refine v_iconst (pc := 0) hJ dX6_weigh_0 ?_
  refine v_ist5 (pc := 1) hJ dX6_weigh_1 (by decide) ?_
  exact lp 8 0 A _ _ _ _ _ (by omega) (fun _ _ _ => rfl) (fun _ _ => ⟨rfl, rfl⟩) (fun h2 hh2 => absurd hh2 (Nat.not_lt_zero _)) (by omega)
