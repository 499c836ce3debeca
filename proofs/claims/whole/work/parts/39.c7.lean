/-! bits -/
theorem iZ_nat {a : Int} (h : 0 ≤ a ∧ a < 2147483648) : (iZ a).toBitVec.toNat = a.toNat := by
  show (BitVec.ofInt 32 a).toNat = _
  rw [BitVec.toNat_ofInt]
  congr 1
  exact Int.emod_eq_of_lt h.1 (by omega)
theorem toInt_nat {z : Int32} (h : z.toBitVec.toNat < 2147483648) : z.toInt = (z.toBitVec.toNat : Int) := by
  show z.toBitVec.toInt = _
  exact BitVec.toInt_eq_toNat_of_lt (by omega)
theorem zor_nat {a b : Int} (ha : 0 ≤ a ∧ a < 2147483648) (hb : 0 ≤ b ∧ b < 2147483648) : zor a b = ((a.toNat ||| b.toNat : Nat) : Int) := by
  unfold zor
  have e : (iZ a ||| iZ b).toBitVec.toNat = (a.toNat ||| b.toNat) := by
    rw [show (iZ a ||| iZ b).toBitVec = (iZ a).toBitVec ||| (iZ b).toBitVec from rfl, BitVec.toNat_or, iZ_nat ha, iZ_nat hb]
  rw [toInt_nat (by rw [e]; exact Nat.or_lt_two_pow (n := 31) (by omega) (by omega)), e]
theorem zand_nat {a b : Int} (ha : 0 ≤ a ∧ a < 2147483648) (hb : 0 ≤ b ∧ b < 2147483648) : zand a b = ((a.toNat &&& b.toNat : Nat) : Int) := by
  unfold zand
  have e : (iZ a &&& iZ b).toBitVec.toNat = (a.toNat &&& b.toNat) := by
    rw [show (iZ a &&& iZ b).toBitVec = (iZ a).toBitVec &&& (iZ b).toBitVec from rfl, BitVec.toNat_and, iZ_nat ha, iZ_nat hb]
  rw [toInt_nat (by rw [e]; exact Nat.lt_of_le_of_lt Nat.and_le_left (by omega)), e]
theorem zand_in {a b : Int} (ha : 0 ≤ a ∧ a < 2147483648) : 0 ≤ zand a b ∧ zand a b ≤ a := by
  unfold zand
  have e : (iZ a &&& iZ b).toBitVec.toNat ≤ a.toNat := by
    rw [show (iZ a &&& iZ b).toBitVec = (iZ a).toBitVec &&& (iZ b).toBitVec from rfl, BitVec.toNat_and, iZ_nat ha]
    exact Nat.and_le_left
  rw [toInt_nat (by omega)]
  omega
theorem zand_15 {a : Int} (ha : 0 ≤ a ∧ a < 2147483648) : zand a 15 = a % 16 := by
  rw [zand_nat ha (by decide), show ((15 : Int).toNat) = 2 ^ 4 - 1 from rfl, Nat.and_two_pow_sub_one_eq_mod]
  omega
theorem zor_add {a b : Int} {k : Nat} (hb : 0 ≤ b ∧ b < (2 ^ k : Nat)) (ha : 0 ≤ a ∧ a + b < 2147483648) (hm : ((2 ^ k : Nat) : Int) ∣ a) : zor a b = a + b := by
  rw [zor_nat ⟨ha.1, by omega⟩ ⟨hb.1, by omega⟩]
  obtain ⟨c, hc⟩ := hm
  have hp : 0 < 2 ^ k := Nat.two_pow_pos k
  have hc0 : 0 ≤ c := by
    rcases Int.lt_or_le c 0 with q | q
    · exfalso
      have h2 : ((2 ^ k : Nat) : Int) * c < 0 := Int.mul_neg_of_pos_of_neg (by omega) q
      omega
    · exact q
  have e1 : a.toNat = c.toNat <<< k := by
    rw [Nat.shiftLeft_eq]
    have : (a.toNat : Int) = ((c.toNat * 2 ^ k : Nat) : Int) := by
      rw [Int.natCast_mul, Int.toNat_of_nonneg hc0, Int.toNat_of_nonneg ha.1, hc, Int.mul_comm]
    omega
  rw [e1, ← Nat.shiftLeft_add_eq_or_of_lt (by omega), ← e1]
  omega
theorem zshr_div {a : Int} (ha : inR a) {k : Nat} (hk : k < 32) : zshr a k = a / (2 ^ k : Nat) := by
  unfold zshr
  have e0 : ∀ n : Nat, n < 32 → ((iZ (n : Int) &&& 31).toBitVec.smod 32).toNat = n := by decide +kernel
  show (BitVec.sshiftRight' (iZ a).toBitVec ((iZ (k : Int) &&& 31).toBitVec.smod 32)).toInt = _
  rw [BitVec.sshiftRight', BitVec.toInt_sshiftRight, e0 k hk, Int.shiftRight_eq_div_pow]
  rw [show (iZ a).toBitVec.toInt = (iZ a).toInt from rfl, iZ_toInt ha]
theorem zshl24 : ∀ n : Nat, n < 64 → zshl n 24 = n * 16777216 := by decide +kernel
theorem zshl4 : ∀ s : Nat, s < 6 → ∀ n : Nat, n < 16 → zshl n (4 * (5 - (s : Int))) = n * ((2 ^ (4 * (5 - s)) : Nat) : Int) := by decide +kernel
/-! a hand in one number -/
def rvN (g : Int → Int) : Nat → Int
  | 0 => 0
  | s + 1 => rvN g s + (g s + 1) * ((2 ^ (4 * (5 - s)) : Nat) : Int)
theorem rv_dvd (g : Int → Int) : ∀ s : Nat, s ≤ 6 → ((2 ^ (4 * (6 - s)) : Nat) : Int) ∣ rvN g s
  | 0, _ => by exact ⟨0, by simp [rvN]⟩
  | s + 1, h => by
    obtain ⟨c, hc⟩ := rv_dvd g s (by omega)
    rw [rvN, hc]
    refine Int.dvd_add ?_ ?_
    · refine Int.dvd_trans ?_ (Int.dvd_mul_right _ _)
      refine Int.natCast_dvd_natCast.mpr (Nat.pow_dvd_pow 2 (by omega))
    · rw [show 4 * (6 - (s + 1)) = 4 * (5 - s) by omega]
      exact Int.dvd_mul_left _ _
theorem rv_in {g : Int → Int} : ∀ s : Nat, s ≤ 6 → (∀ j : Nat, j < s → -1 ≤ g j ∧ g j ≤ 9) → 0 ≤ rvN g s ∧ rvN g s + ((2 ^ (4 * (6 - s)) : Nat) : Int) ≤ 16777216
  | 0, _, _ => by simp [rvN]
  | s + 1, h, hg => by
    have ih := rv_in (g := g) s (by omega) (fun j hj => hg j (by omega))
    have h1 := hg s (by omega)
    rw [rvN]
    have hs : s = 0 ∨ s = 1 ∨ s = 2 ∨ s = 3 ∨ s = 4 ∨ s = 5 := by omega
    rcases hs with e | e | e | e | e | e <;> subst e <;> simp only [Nat.reduceSub, Nat.reduceMul, Nat.reducePow, Nat.reduceAdd] at ih ⊢ <;> omega
set_option maxHeartbeats 4000000 in
set_option maxRecDepth 100000 in
theorem qX1_shiftOf {l : Launch} {D : va_G} {cI : ClassId} {O : OT} {adK adV : Nat → Nat} {tT : Nat} (hO : OGC O adK adV tT) {ad : Nat → Nat} {I : Nat → Int} {A : Nat → Int → Int} {s : Int}  : CC l D cI O yX1_shiftOf cX1_shiftOf 1 (some .int) 1 [.int (iZ s)] (ad, I, A) (pI fun r u2 => r = 4 * (5 - s) ∧ u2 = (ad, I, A)) := by
  refine ct_intro (own := RX1) (by decide) rfl hO.1.1 (Nat.le_of_ble_eq_true rfl) (by simp [Value.category]) (fun X J hJ => ?_)
  show J 0 [some (.int (iZ s))] [] (ad, I, A)
  refine v_iconst (pc := 0) hJ dX1_shiftOf_0 ?_
  refine v_iconst (pc := 1) hJ dX1_shiftOf_1 ?_
  refine v_ild0 (pc := 2) hJ dX1_shiftOf_2 ?_
  refine v_isub (pc := 3) hJ dX1_shiftOf_3 ?_
  refine v_imul (pc := 4) hJ dX1_shiftOf_4 ?_
  refine v_iret (pc := 5) hJ dX1_shiftOf_5 ⟨_, rfl, ?_⟩
  exact ⟨rfl, rfl⟩
set_option maxHeartbeats 4000000 in
set_option maxRecDepth 100000 in
theorem qX1_strainOf {l : Launch} {D : va_G} {cI : ClassId} {O : OT} {adK adV : Nat → Nat} {tT : Nat} (hO : OGC O adK adV tT) {ad : Nat → Nat} {I : Nat → Int} {A : Nat → Int → Int} {h : Int} (hh : inR h) : CC l D cI O yX1_strainOf cX1_strainOf 1 (some .int) 1 [.int (iZ h)] (ad, I, A) (pI fun r u2 => r = h / 16777216 ∧ u2 = (ad, I, A)) := by
  refine ct_intro (own := RX1) (by decide) rfl hO.1.1 (Nat.le_of_ble_eq_true rfl) (by simp [Value.category]) (fun X J hJ => ?_)
  show J 0 [some (.int (iZ h))] [] (ad, I, A)
  refine v_ild0 (pc := 0) hJ dX1_strainOf_0 ?_
  refine v_bipush (pc := 1) hJ dX1_strainOf_1 (by decide) ?_
  refine v_ishr (pc := 3) hJ dX1_strainOf_3 ?_
  refine v_iret (pc := 4) hJ dX1_strainOf_4 ⟨_, rfl, ?_⟩
  exact ⟨zshr_div hh (k := 24) (by decide), rfl⟩
/-- a fret out of a hand's number -/
def frOf (h : Int) (s : Nat) : Int := h / ((2 ^ (4 * (5 - s)) : Nat) : Int) % 16 - 1
set_option maxHeartbeats 4000000 in
set_option maxRecDepth 100000 in
theorem qX1_fretOf {l : Launch} {D : va_G} {cI : ClassId} {O : OT} {adK adV : Nat → Nat} {tT : Nat} (hO : OGC O adK adV tT) {ad : Nat → Nat} {I : Nat → Int} {A : Nat → Int → Int} {h : Int} {s : Nat} (hh : 0 ≤ h ∧ h < 2147483648) (hs : s < 6) : CC l D cI O yX1_fretOf cX1_fretOf 2 (some .int) 2 [.int (iZ h), .int (iZ (s : Int))] (ad, I, A) (pI fun r u2 => r = frOf h s ∧ u2 = (ad, I, A)) := by
  refine ct_intro (own := RX1) (by decide) rfl hO.1.1 (Nat.le_of_ble_eq_true rfl) (by simp [Value.category]) (fun X J hJ => ?_)
  show J 0 [some (.int (iZ h)), some (.int (iZ (s : Int)))] [] (ad, I, A)
  refine v_ild0 (pc := 0) hJ dX1_fretOf_0 ?_
  refine v_ild1 (pc := 1) hJ dX1_fretOf_1 ?_
  refine v_cS1i (pc := 2) hJ lkX1_11 (qX1_shiftOf hO) (Nat.le_of_ble_eq_true rfl) (rOk_L (by decide) (by decide)) dX1_fretOf_2 (fun r2 u2 g2 => ?_)
  obtain ⟨rfl, rfl⟩ := g2
  refine v_ishr (pc := 5) hJ dX1_fretOf_5 ?_
  refine v_bipush (pc := 6) hJ dX1_fretOf_6 (by decide) ?_
  refine v_iand (pc := 8) hJ dX1_fretOf_8 ?_
  refine v_iconst (pc := 9) hJ dX1_fretOf_9 ?_
  refine v_isub (pc := 10) hJ dX1_fretOf_10 ?_
  refine v_iret (pc := 11) hJ dX1_fretOf_11 ⟨_, rfl, ?_⟩
  refine ⟨?_, rfl⟩
  unfold frOf
  rw [show 4 * (5 - (s : Int)) = ((4 * (5 - s) : Nat) : Int) by omega, zshr_div (by omega) (by omega)]
  have hp : (0 : Int) < ((2 ^ (4 * (5 - s)) : Nat) : Int) := by have := Nat.two_pow_pos (4 * (5 - s)); omega
  rw [zand_15 ⟨Int.ediv_nonneg hh.1 (by omega), Int.lt_of_le_of_lt (Int.ediv_le_self _ hh.1) hh.2⟩]
set_option maxHeartbeats 4000000 in
set_option maxRecDepth 100000 in
theorem qX1_of {l : Launch} {D : va_G} {cI : ClassId} {O : OT} {adK adV : Nat → Nat} {tT : Nat} (hO : OGC O adK adV tT) {ad : Nat → Nat} {I : Nat → Int} {A : Nat → Int → Int} {x n : Int} (hx : 0 ≤ x ∧ x < 64) (hn : 0 ≤ n ∧ n ≤ 6) (hg : ∀ j : Nat, (j : Int) < n → -1 ≤ A 124 j ∧ A 124 j ≤ 9) : CC l D cI O yX1_of cX1_of 5 (some .int) 2 [.int (iZ x), .ref (ad 124), .int (iZ n)] (ad, I, A) (pI fun r u2 => r = x * 16777216 + rvN (A 124) n.toNat ∧ u2 = (ad, I, A)) := by
  refine ct_intro (own := RX1) (by decide) rfl hO.1.1 (Nat.le_of_ble_eq_true rfl) (by simp [Value.category]) (fun X J hJ => ?_)
  have lp : ∀ (fu : Nat) (s : Nat), ((s : Int) ≤ n) → (7 - (s : Int)) < (fu : Int) → J 8 [some (.int (iZ x)), some (.ref (ad 124)), some (.int (iZ n)), some (.int (iZ (x * 16777216 + rvN (A 124) s))), some (.int (iZ (s : Int)))] [] (ad, I, A) := by
    intro fu
    induction fu with
    | zero => intro s hs hmu; exfalso; omega
    | succ fu ih =>
      intro s hs hmu
      refine v_ild4 (pc := 8) hJ dX1_of_8 ?_
      refine v_ild2 (pc := 10) hJ dX1_of_10 ?_
      refine v_icmp_ge (tgt := 42) (pc := 11) hJ dX1_of_11 (by decide) (by omega) (by omega) (fun h11 => ?_) (fun h11 => ?_)
      · refine v_ild3 (pc := 42) hJ dX1_of_42 ?_
        refine v_iret (pc := 43) hJ dX1_of_43 ⟨_, rfl, ?_⟩
        have e : n.toNat = s := by omega
        exact ⟨by rw [e], rfl⟩
      · refine v_ild4 (pc := 14) hJ dX1_of_14 ?_
        refine v_ald1 (pc := 16) hJ dX1_of_16 ?_
        refine cl124 (pc := 17) hJ dX1_of_17 ?_
        refine v_icmp_ge (tgt := 42) (pc := 18) hJ dX1_of_18 (by decide) (by omega) (by omega) (fun h18 => ?_) (fun h18 => ?_)
        · exfalso; omega
        · refine v_ild3 (pc := 21) hJ dX1_of_21 ?_
          refine v_ald1 (pc := 22) hJ dX1_of_22 ?_
          refine v_ild4 (pc := 23) hJ dX1_of_23 ?_
          refine ca124 (pc := 25) hJ (by omega) (by omega) dX1_of_25 ?_
          refine v_iconst (pc := 26) hJ dX1_of_26 ?_
          refine v_iadd (pc := 27) hJ dX1_of_27 ?_
          refine v_ild4 (pc := 28) hJ dX1_of_28 ?_
          refine v_cS1i (pc := 30) hJ lkX1_11 (qX1_shiftOf hO) (Nat.le_of_ble_eq_true rfl) (rOk_L (by decide) (by decide)) dX1_of_30 (fun r30 u30 g30 => ?_)
          obtain ⟨rfl, rfl⟩ := g30
          refine v_ishl (pc := 33) hJ dX1_of_33 ?_
          refine v_ior (pc := 34) hJ dX1_of_34 ?_
          refine v_ist3 (pc := 35) hJ dX1_of_35 (by decide) ?_
          refine v_inc4 (pc := 36) hJ dX1_of_36 (by decide) ?_
          refine v_goto (tgt := 8) (pc := 39) hJ dX1_of_39 (by decide) ?_
          have hgs := hg s (by omega)
          have hri := rv_in (g := A 124) s (by omega) (fun j hj => hg j (by omega))
          have h4 := zshl4 s (by omega) (A 124 s + 1).toNat (by omega)
          rw [show (((A 124 s + 1).toNat : Nat) : Int) = A 124 s + 1 by omega] at h4
          rw [h4]
          have hz : zor (x * 16777216 + rvN (A 124) s) ((A 124 s + 1) * ((2 ^ (4 * (5 - s)) : Nat) : Int)) = x * 16777216 + rvN (A 124) s + (A 124 s + 1) * ((2 ^ (4 * (5 - s)) : Nat) : Int) := by
            have hsc : s = 0 ∨ s = 1 ∨ s = 2 ∨ s = 3 ∨ s = 4 ∨ s = 5 := by omega
            refine zor_add (k := 4 * (6 - s)) ?_ ?_ ?_
            · rcases hsc with e | e | e | e | e | e <;> subst e <;> simp only [Nat.reduceSub, Nat.reduceMul, Nat.reducePow] <;> omega
            · rcases hsc with e | e | e | e | e | e <;> subst e <;> simp only [Nat.reduceSub, Nat.reduceMul, Nat.reducePow] at hri ⊢ <;> omega
            · refine Int.dvd_add ?_ (rv_dvd _ s (by omega))
              refine Int.dvd_trans ?_ (Int.dvd_mul_left _ _)
              exact Int.natCast_dvd_natCast.mpr (Nat.pow_dvd_pow 2 (n := 24) (by omega))
          have hn2 := ih (s + 1) (by omega) (by omega)
          rw [rvN, ← Int.add_assoc, ← hz] at hn2
          exact hn2
  show J 0 [some (.int (iZ x)), some (.ref (ad 124)), some (.int (iZ n)), none, none] [] (ad, I, A)
  refine v_ild0 (pc := 0) hJ dX1_of_0 ?_
  refine v_bipush (pc := 1) hJ dX1_of_1 (by decide) ?_
  refine v_ishl (pc := 3) hJ dX1_of_3 ?_
  have h24 := zshl24 x.toNat (by omega)
  rw [show ((x.toNat : Nat) : Int) = x by omega] at h24
  rw [h24]
  refine v_ist3 (pc := 4) hJ dX1_of_4 (by decide) ?_
  refine v_iconst (pc := 5) hJ dX1_of_5 ?_
  refine v_ist4 (pc := 6) hJ dX1_of_6 (by decide) ?_
  have h := lp 8 0 (by omega) (by omega)
  rw [show x * 16777216 + rvN (A 124) 0 = x * 16777216 by show x * 16777216 + 0 = _; omega] at h
  exact h
set_option maxHeartbeats 4000000 in
set_option maxRecDepth 100000 in
theorem qX1_change {l : Launch} {D : va_G} {cI : ClassId} {O : OT} {adK adV : Nat → Nat} {tT : Nat} (hO : OGC O adK adV tT) {ad : Nat → Nat} {I : Nat → Int} {A : Nat → Int → Int} {a b : Int} (ha : 0 ≤ a ∧ a < 2147483648) (hb : 0 ≤ b ∧ b < 2147483648) : CC l D cI O yX1_change cX1_change 4 (some .int) 3 [.int (iZ a), .int (iZ b)] (ad, I, A) (pI fun r u2 => r = chN (fun s => frOf a s.toNat) (fun s => frOf b s.toNat) 6 ∧ u2 = (ad, I, A)) := by
  refine ct_intro (own := RX1) (by decide) rfl hO.1.1 (Nat.le_of_ble_eq_true rfl) (by simp [Value.category]) (fun X J hJ => ?_)
  have hfr : ∀ (h : Int) (s : Nat), -1 ≤ frOf h s ∧ frOf h s ≤ 14 := fun h s => by unfold frOf; omega
  have lp : ∀ (fu : Nat) (s : Nat), (s ≤ 6) → (7 - (s : Int)) < (fu : Int) → J 4 [some (.int (iZ a)), some (.int (iZ b)), some (.int (iZ (chN (fun s => frOf a s.toNat) (fun s => frOf b s.toNat) s))), some (.int (iZ (s : Int)))] [] (ad, I, A) := by
    intro fu
    induction fu with
    | zero => intro s hs hmu; exfalso; omega
    | succ fu ih =>
      intro s hs hmu
      refine v_ild3 (pc := 4) hJ dX1_change_4 ?_
      refine v_bipush (pc := 5) hJ dX1_change_5 (by decide) ?_
      refine v_icmp_ge (tgt := 41) (pc := 7) hJ dX1_change_7 (by decide) (by omega) (by omega) (fun h7 => ?_) (fun h7 => ?_)
      · refine v_ild2 (pc := 41) hJ dX1_change_41 ?_
        refine v_iret (pc := 42) hJ dX1_change_42 ⟨_, rfl, ?_⟩
        have e : s = 6 := by omega
        subst e
        exact ⟨rfl, rfl⟩
      · refine v_ild2 (pc := 10) hJ dX1_change_10 ?_
        refine v_iconst (pc := 11) hJ dX1_change_11 ?_
        refine v_ild0 (pc := 12) hJ dX1_change_12 ?_
        refine v_ild3 (pc := 13) hJ dX1_change_13 ?_
        have f1 := hfr a s
        have f2 := hfr b s
        refine v_cS2i (pc := 14) hJ lkX1_15 (qX1_fretOf hO ha (by omega)) (Nat.le_of_ble_eq_true rfl) (rOk_L (by decide) (by decide)) dX1_change_14 (fun r14 u14 g14 => ?_)
        obtain ⟨rfl, rfl⟩ := g14
        refine v_mmax (pc := 17) hJ lkX1_19 (by decide) (by omega) (Nat.le_of_ble_eq_true rfl) ⟨by decide, by decide⟩ dX1_change_17 ?_
        refine v_iconst (pc := 20) hJ dX1_change_20 ?_
        refine v_ild1 (pc := 21) hJ dX1_change_21 ?_
        refine v_ild3 (pc := 22) hJ dX1_change_22 ?_
        refine v_cS2i (pc := 23) hJ lkX1_15 (qX1_fretOf hO hb (by omega)) (Nat.le_of_ble_eq_true rfl) (rOk_L (by decide) (by decide)) dX1_change_23 (fun r23 u23 g23 => ?_)
        obtain ⟨rfl, rfl⟩ := g23
        try simp only [up_s, up_n, up_up, ne_eq, Nat.reduceEqDiff, not_false_eq_true]
        refine v_mmax (pc := 26) hJ lkX1_19 (by decide) (by omega) (Nat.le_of_ble_eq_true rfl) ⟨by decide, by decide⟩ dX1_change_26 ?_
        refine v_isub (pc := 29) hJ dX1_change_29 ?_
        refine v_mabs (pc := 30) hJ lkX1_24 (by constructor <;> (repeat' split) <;> omega) (Nat.le_of_ble_eq_true rfl) ⟨by decide, by decide⟩ dX1_change_30 ?_
        refine v_iadd (pc := 33) hJ dX1_change_33 ?_
        refine v_ist2 (pc := 34) hJ dX1_change_34 (by decide) ?_
        refine v_inc3 (pc := 35) hJ dX1_change_35 (by decide) ?_
        refine v_goto (tgt := 4) (pc := 38) hJ dX1_change_38 (by decide) ?_
        have hn2 := ih (s + 1) (by omega) (by omega)
        rw [chN] at hn2
        try dsimp only at hn2
        rw [Int.toNat_natCast] at hn2
        rw [show (if 0 ≤ (if (0 : Int) < frOf a s then frOf a s else 0) - (if (0 : Int) < frOf b s then frOf b s else 0) then (if (0 : Int) < frOf a s then frOf a s else 0) - (if (0 : Int) < frOf b s then frOf b s else 0) else -((if (0 : Int) < frOf a s then frOf a s else 0) - (if (0 : Int) < frOf b s then frOf b s else 0))) = (if ab0 (frOf a s) < ab0 (frOf b s) then ab0 (frOf b s) - ab0 (frOf a s) else ab0 (frOf a s) - ab0 (frOf b s)) by
          unfold ab0
          repeat' split
          all_goals omega]
        exact hn2
  show J 0 [some (.int (iZ a)), some (.int (iZ b)), none, none] [] (ad, I, A)
  refine v_iconst (pc := 0) hJ dX1_change_0 ?_
  refine v_ist2 (pc := 1) hJ dX1_change_1 (by decide) ?_
  refine v_iconst (pc := 2) hJ dX1_change_2 ?_
  refine v_ist3 (pc := 3) hJ dX1_change_3 (by decide) ?_
  exact lp 8 0 (by omega) (by omega)
