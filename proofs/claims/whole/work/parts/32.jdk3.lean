theorem zi2b_ok {c : Int} (h : 0 ≤ c ∧ c < 128) : zi2b c = c := by
  have hh : ∀ n : Nat, n < 128 → zi2b (n : Int) = n := by decide +kernel
  obtain ⟨n, rfl⟩ := Int.eq_ofNat_of_zero_le h.1
  exact hh n (by omega)
theorem tx14 : ∀ k : Nat, k < 7 → plc ((txS 14).getD k 0) + 1 = k := by decide +kernel
theorem tx14i {c : Int} (h : 65 ≤ c ∧ c ≤ 71) : ∃ k : Nat, k < 7 ∧ (txS 14).getD k 0 = c := by
  rcases (show c = 65 ∨ c = 66 ∨ c = 67 ∨ c = 68 ∨ c = 69 ∨ c = 70 ∨ c = 71 by omega) with rfl | rfl | rfl | rfl | rfl | rfl | rfl
  · exact ⟨4, by decide, by decide +kernel⟩
  · exact ⟨6, by decide, by decide +kernel⟩
  · exact ⟨1, by decide, by decide +kernel⟩
  · exact ⟨3, by decide, by decide +kernel⟩
  · exact ⟨5, by decide, by decide +kernel⟩
  · exact ⟨0, by decide, by decide +kernel⟩
  · exact ⟨2, by decide, by decide +kernel⟩
set_option maxHeartbeats 4000000 in
set_option maxRecDepth 100000 in
theorem qJ1_indexOfChar_4cfef {σ : Type} {l : Launch} {D : va_G} {tys : List (ClassId × FieldType)} {O : OT} {wld : σ → va_W} {adK adV : Nat → Nat} (hO : OG O adK adV) {u : σ} {c : Int} (hc : 65 ≤ c ∧ c ≤ 71) : Ct l yJ1_indexOfChar_4cfef cJ1_indexOfChar_4cfef 6 (some .int) (rL 1) D tys O wld [.ref (adV 14), .int (iZ c), .int (iZ 0), .int (iZ 7)] u (pI fun r u2 => r = plc c + 1 ∧ u2 = u) := by
  refine ct_intro (own := RJ1) (by decide) rfl hO.1 (Nat.le_of_ble_eq_true rfl) (by simp [Value.category]) (fun X J hJ => ?_)
  have hi : 14 < 15 := by decide
  have h7 : (txS 14).length = 7 := by decide
  have lp : ∀ (n : Nat) (k : Nat), k ≤ 7 → (∀ j : Nat, j < k → (txS 14).getD j 0 ≠ c) → 7 - (k : Int) < n → J 7 [some (.ref (adV 14)), some (.int (iZ c)), some (.int (iZ 0)), some (.int (iZ 7)), some (.int (iZ c)), some (.int (iZ (k : Int)))] [] u := by
    intro n
    induction n with
    | zero => intro k hk hn hmu; exfalso; omega
    | succ n ih =>
      intro k hk hn hmu
      refine v_ild5 (pc := 7) hJ dJ1_indexOfChar_4cfef_7 ?_
      refine v_ild3 (pc := 9) hJ dJ1_indexOfChar_4cfef_9 ?_
      refine v_icmp_ge (tgt := 31) (pc := 10) hJ dJ1_indexOfChar_4cfef_10 (by decide) (by omega) (by omega) (fun h10 => ?_) (fun h10 => ?_)
      · exfalso
        obtain ⟨q, q1, q2⟩ := tx14i hc
        exact hn q (by omega) q2
      · have hj : k < (txS 14).length := by omega
        have hin := txS_in 14 hi k hj
        refine v_ald0 (pc := 13) hJ dJ1_indexOfChar_4cfef_13 ?_
        refine v_ild5 (pc := 14) hJ dJ1_indexOfChar_4cfef_14 ?_
        refine v_strB (pc := 16) hJ hO hi hj dJ1_indexOfChar_4cfef_16 ?_
        refine v_ild4 (pc := 17) hJ dJ1_indexOfChar_4cfef_17 ?_
        refine v_icmp_ne (tgt := 25) (pc := 19) hJ dJ1_indexOfChar_4cfef_19 (by decide) (by omega) (by omega) (fun h19 => ?_) (fun h19 => ?_)
        · refine v_inc5 (pc := 25) hJ dJ1_indexOfChar_4cfef_25 (by decide) ?_
          refine v_goto (tgt := 7) (pc := 28) hJ dJ1_indexOfChar_4cfef_28 (by decide) ?_
          exact ih (k + 1) (by omega) (fun j j1 => by by_cases e : j = k; (subst e; exact h19); exact hn j (by omega)) (by omega)
        · refine v_ild5 (pc := 22) hJ dJ1_indexOfChar_4cfef_22 ?_
          refine v_iret (pc := 24) hJ dJ1_indexOfChar_4cfef_24 ⟨_, rfl, ?_⟩
          refine ⟨?_, rfl⟩
          have := tx14 k (by omega)
          rw [h19] at this
          omega
  show J 0 [some (.ref (adV 14)), some (.int (iZ c)), some (.int (iZ 0)), some (.int (iZ 7)), none, none] [] u
  refine v_ild1 (pc := 0) hJ dJ1_indexOfChar_4cfef_0 ?_
  refine v_i2b (pc := 1) hJ dJ1_indexOfChar_4cfef_1 ?_
  rw [zi2b_ok (by omega)]
  refine v_ist4 (pc := 2) hJ dJ1_indexOfChar_4cfef_2 (by decide) ?_
  refine v_ild2 (pc := 4) hJ dJ1_indexOfChar_4cfef_4 ?_
  refine v_ist5 (pc := 5) hJ dJ1_indexOfChar_4cfef_5 (by decide) ?_
  exact lp 8 0 (by omega) (fun j j1 => by omega) (by omega)
set_option maxHeartbeats 4000000 in
set_option maxRecDepth 100000 in
theorem qJ1_canEncode_9a6ad {σ : Type} {l : Launch} {D : va_G} {tys : List (ClassId × FieldType)} {O : OT} {wld : σ → va_W} {adK adV : Nat → Nat} (hO : OG O adK adV) {u : σ} {c : Int} (hc : 65 ≤ c ∧ c ≤ 71) : Ct l yJ1_canEncode_9a6ad cJ1_canEncode_9a6ad 1 (some .boolean) (rL 1) D tys O wld [.int (iZ c)] u (pI fun r u2 => r = 1 ∧ u2 = u) := by
  refine ct_intro (own := RJ1) (by decide) rfl hO.1 (Nat.le_of_ble_eq_true rfl) (by simp [Value.category]) (fun X J hJ => ?_)
  show J 0 [some (.int (iZ c))] [] u
  refine v_ild0 (pc := 0) hJ dJ1_canEncode_9a6ad_0 ?_
  refine v_if_lt (tgt := 15) (pc := 1) hJ dJ1_canEncode_9a6ad_1 (by decide) (by omega) (fun h1 => ?_) (fun h1 => ?_)
  · exfalso; omega
  · refine v_ild0 (pc := 4) hJ dJ1_canEncode_9a6ad_4 ?_
    refine v_sipush (pc := 5) hJ dJ1_canEncode_9a6ad_5 (by decide) ?_
    refine v_icmp_gt (tgt := 15) (pc := 8) hJ dJ1_canEncode_9a6ad_8 (by decide) (by omega) (by omega) (fun h8 => ?_) (fun h8 => ?_)
    · exfalso; omega
    · refine v_iconst (pc := 11) hJ dJ1_canEncode_9a6ad_11 ?_
      refine v_goto (tgt := 16) (pc := 12) hJ dJ1_canEncode_9a6ad_12 (by decide) ?_
      refine v_zret (pc := 16) hJ rfl dJ1_canEncode_9a6ad_16 ⟨_, rfl, ?_⟩
      exact ⟨rfl, rfl⟩
set_option maxHeartbeats 4000000 in
set_option maxRecDepth 100000 in
theorem qJ1_indexOf_4cfef {σ : Type} {l : Launch} {D : va_G} {tys : List (ClassId × FieldType)} {O : OT} {wld : σ → va_W} {adK adV : Nat → Nat} (hO : OG O adK adV) {u : σ} {c : Int} (hc : 65 ≤ c ∧ c ≤ 71) : Ct l yJ1_indexOf_4cfef cJ1_indexOf_4cfef 4 (some .int) (rL 2) D tys O wld [.ref (adV 14), .int (iZ c), .int (iZ 0), .int (iZ 7)] u (pI fun r u2 => r = plc c + 1 ∧ u2 = u) := by
  refine ct_intro (own := RJ1) (by decide) rfl hO.1 (Nat.le_of_ble_eq_true rfl) (by simp [Value.category]) (fun X J hJ => ?_)
  show J 0 [some (.ref (adV 14)), some (.int (iZ c)), some (.int (iZ 0)), some (.int (iZ 7))] [] u
  have hi : 14 < 15 := by decide
  refine v_ild1 (pc := 0) hJ dJ1_indexOf_4cfef_0 ?_
  refine v_cS1i (pc := 1) hJ lkJ1_88 (qJ1_canEncode_9a6ad hO hc) (Nat.le_of_ble_eq_true rfl) (rOk_L (by decide) (by decide)) dJ1_indexOf_4cfef_1 (fun r1 u1 g1 => ?_)
  obtain ⟨rfl, rfl⟩ := g1
  refine v_if_ne (tgt := 9) (pc := 4) hJ dJ1_indexOf_4cfef_4 (by decide) (by decide) (fun _ => ?_) (fun h => by first | exact absurd h (by decide) | exact absurd (by decide) h)
  refine v_ild2 (pc := 9) hJ dJ1_indexOf_4cfef_9 ?_
  refine v_iconst (pc := 10) hJ dJ1_indexOf_4cfef_10 ?_
  refine v_mmax (pc := 11) hJ lkJ1_92 (by omega) (by omega) (Nat.le_of_ble_eq_true rfl) ⟨by decide, by decide⟩ dJ1_indexOf_4cfef_11 ?_
  rw [show (if (0 : Int) < 0 then (0 : Int) else 0) = 0 from rfl]
  refine v_ist2 (pc := 14) hJ dJ1_indexOf_4cfef_14 (by decide) ?_
  refine v_ild3 (pc := 15) hJ dJ1_indexOf_4cfef_15 ?_
  refine v_ald0 (pc := 16) hJ dJ1_indexOf_4cfef_16 ?_
  refine v_strL (pc := 17) hJ hO hi dJ1_indexOf_4cfef_17 ?_
  have h7 : ((txS 14).length : Int) = 7 := by decide
  refine v_mmin (pc := 18) hJ lkJ1_38 (by omega) (by omega) (Nat.le_of_ble_eq_true rfl) ⟨by decide, by decide⟩ dJ1_indexOf_4cfef_18 ?_
  rw [show (if ((txS 14).length : Int) < 7 then ((txS 14).length : Int) else 7) = 7 from rfl]
  refine v_ist3 (pc := 21) hJ dJ1_indexOf_4cfef_21 (by decide) ?_
  refine v_ild2 (pc := 22) hJ dJ1_indexOf_4cfef_22 ?_
  refine v_ild3 (pc := 23) hJ dJ1_indexOf_4cfef_23 ?_
  refine v_icmp_lt (tgt := 29) (pc := 24) hJ dJ1_indexOf_4cfef_24 (by decide) (by omega) (by omega) (fun h24 => ?_) (fun h24 => ?_)
  · refine v_ald0 (pc := 29) hJ dJ1_indexOf_4cfef_29 ?_
    refine v_ild1 (pc := 30) hJ dJ1_indexOf_4cfef_30 ?_
    refine v_ild2 (pc := 31) hJ dJ1_indexOf_4cfef_31 ?_
    refine v_ild3 (pc := 32) hJ dJ1_indexOf_4cfef_32 ?_
    refine v_cS4i (pc := 33) hJ lkJ1_95 (qJ1_indexOfChar_4cfef hO hc) (Nat.le_of_ble_eq_true rfl) (rOk_L (by decide) (by decide)) dJ1_indexOf_4cfef_33 (fun r33 u33 g33 => ?_)
    obtain ⟨rfl, rfl⟩ := g33
    refine v_iret (pc := 36) hJ dJ1_indexOf_4cfef_36 ⟨_, rfl, ?_⟩
    exact ⟨rfl, rfl⟩
  · exfalso; omega
set_option maxHeartbeats 4000000 in
set_option maxRecDepth 100000 in
theorem qJ0_indexOf_7cf53 {σ : Type} {l : Launch} {D : va_G} {tys : List (ClassId × FieldType)} {O : OT} {wld : σ → va_W} {adK adV : Nat → Nat} (hO : OG O adK adV) {u : σ} {c : Int} (hc : 65 ≤ c ∧ c ≤ 71) : Ct l yJ0_indexOf_7cf53 cJ0_indexOf_7cf53 3 (some .int) (rL 3) D tys O wld [.ref (adK 14), .int (iZ c), .int (iZ 0)] u (pI fun r u2 => r = plc c + 1 ∧ u2 = u) := by
  refine ct_intro (own := RJ0) (by decide) rfl hO.1 (Nat.le_of_ble_eq_true rfl) (by simp [Value.category]) (fun X J hJ => ?_)
  show J 0 [some (.ref (adK 14)), some (.int (iZ c)), some (.int (iZ 0))] [] u
  have hi : 14 < 15 := by decide
  refine v_ald0 (pc := 0) hJ dJ0_indexOf_7cf53_0 ?_
  refine v_cT0i (pc := 1) hJ hO hi lkJ0_492 (qJ0_isLatin1_aae02 hO hi) (Nat.le_of_ble_eq_true rfl) (rOk_L (by decide) (by decide)) dJ0_indexOf_7cf53_1 (fun r1 u1 g1 => ?_)
  obtain ⟨rfl, rfl⟩ := g1
  refine v_if_eq (tgt := 23) (pc := 4) hJ dJ0_indexOf_7cf53_4 (by decide) (by decide) (fun h => by first | exact absurd h (by decide) | exact absurd (by decide) h) (fun _ => ?_)
  refine v_ald0 (pc := 7) hJ dJ0_indexOf_7cf53_7 ?_
  refine v_strV (pc := 8) hJ hO hi kJ0_9 dJ0_indexOf_7cf53_8 ?_
  refine v_ild1 (pc := 11) hJ dJ0_indexOf_7cf53_11 ?_
  refine v_ild2 (pc := 12) hJ dJ0_indexOf_7cf53_12 ?_
  refine v_ald0 (pc := 13) hJ dJ0_indexOf_7cf53_13 ?_
  refine v_cT0i (pc := 14) hJ hO hi lkJ0_505 (qJ0_length_8abf5 hO hi) (Nat.le_of_ble_eq_true rfl) (rOk_L (by decide) (by decide)) dJ0_indexOf_7cf53_14 (fun r14 u14 g14 => ?_)
  obtain ⟨rfl, rfl⟩ := g14
  rw [show ((txS 14).length : Int) = 7 by decide]
  refine v_cS4i (pc := 17) hJ lkJ0_637 (qJ1_indexOf_4cfef hO hc) (Nat.le_of_ble_eq_true rfl) (rOk_L (by decide) (by decide)) dJ0_indexOf_7cf53_17 (fun r17 u17 g17 => ?_)
  obtain ⟨rfl, rfl⟩ := g17
  refine v_goto (tgt := 36) (pc := 20) hJ dJ0_indexOf_7cf53_20 (by decide) ?_
  refine v_iret (pc := 36) hJ dJ0_indexOf_7cf53_36 ⟨_, rfl, ?_⟩
  exact ⟨rfl, rfl⟩
theorem v_cT2i {σ : Type} {l : Launch} {R : Room} {cc : ByteArray} {nL : Nat} {own : String} {rt : Option FieldType} {D : va_G} {tys : List (ClassId × FieldType)} {O : OT} {wld : σ → va_W} {post : Option Value → σ → Prop} {X : CtxT} {J : KT σ} {adK adV : Nat → Nat} {pc : Nat} {lv : List (Option Value)} {st : List Value} {u : σ} (hJ : Snd l R cc nL own rt D tys O wld post X J) (hG : OG O adK adV) {idx n2 i : Nat} {y : MethodName} {cc2 : ByteArray} {rt2 : Option FieldType} {rm : Room} {v1 v2 : Value} {P : Int → σ → Prop} (hi : i < 15) (lk : LkV own idx "java/lang/String" y cc2 n2 rt2 2) (hM : Ct l y cc2 n2 rt2 rm D tys O wld [.ref (adK i), v1, v2] u (pI P)) (hroom : (st.map fun v => v.category).sum ≤ 8) (hrm : rOk rm R n2) (d : decode cc pc = .ok (.invokevirtual idx, 3)) (kk : ∀ (r : Int) (u2 : σ), P r u2 → J (pc + 3) lv (.int (iZ r) :: st) u2) : J pc lv (v2 :: v1 :: .ref (adK i) :: st) u :=
  v_callT hJ hG hi lk hM rfl rfl hroom hrm d (fun _ u2 q => by obtain ⟨r, e, h⟩ := q; rw [e]; exact kk r u2 h)
set_option maxHeartbeats 4000000 in
set_option maxRecDepth 100000 in
theorem qJ0_indexOf_0f7a4 {σ : Type} {l : Launch} {D : va_G} {tys : List (ClassId × FieldType)} {O : OT} {wld : σ → va_W} {adK adV : Nat → Nat} (hO : OG O adK adV) {u : σ} {c : Int} (hc : 65 ≤ c ∧ c ≤ 71) : Ct l yJ0_indexOf_0f7a4 cJ0_indexOf_0f7a4 2 (some .int) (rL 4) D tys O wld [.ref (adK 14), .int (iZ c)] u (pI fun r u2 => r = plc c + 1 ∧ u2 = u) := by
  refine ct_intro (own := RJ0) (by decide) rfl hO.1 (Nat.le_of_ble_eq_true rfl) (by simp [Value.category]) (fun X J hJ => ?_)
  show J 0 [some (.ref (adK 14)), some (.int (iZ c))] [] u
  have hi : 14 < 15 := by decide
  refine v_ald0 (pc := 0) hJ dJ0_indexOf_0f7a4_0 ?_
  refine v_ild1 (pc := 1) hJ dJ0_indexOf_0f7a4_1 ?_
  refine v_iconst (pc := 2) hJ dJ0_indexOf_0f7a4_2 ?_
  refine v_cT2i (pc := 3) hJ hO hi lkJ0_633 (qJ0_indexOf_7cf53 hO hc) (Nat.le_of_ble_eq_true rfl) (rOk_L (by decide) (by decide)) dJ0_indexOf_0f7a4_3 (fun r3 u3 g3 => ?_)
  obtain ⟨rfl, rfl⟩ := g3
  refine v_iret (pc := 6) hJ dJ0_indexOf_0f7a4_6 ⟨_, rfl, ?_⟩
  exact ⟨rfl, rfl⟩
def zcp (f g : Int → Int) (dp n : Int) : Int → Int := fun j => if dp ≤ j ∧ j < dp + n then f (j - dp) else g j
theorem v_cpB {l : Launch} {R : Room} {cc : ByteArray} {nL : Nat} {rt : Option FieldType} {D : va_G} {cI : ClassId} {ad : Nat → Nat} {O : OT} {post : Option Value → sC → Prop} {X : CtxT} {J : KT sC} {pc : Nat} {lv : List (Option Value)} {st : List Value} {I : Nat → Int} {A : Nat → Int → Int} (hJ : Snd l R cc nL RX2 rt D [(cI, .int)] O (wC cI) post X J) {dp n : Int} (h0 : 0 ≤ dp) (h1 : 0 ≤ n) (h2 : n ≤ 6) (h3 : dp + n ≤ 2880) (hroom : (st.map fun v => v.category).sum ≤ 8) (hR : 1 ≤ R.frames ∧ 40 ≤ R.locals) (d : decode cc pc = .ok (.invokestatic 42, 3)) (k : J (pc + 3) lv st (ad, I, va_up A 140 (zcp (A 122) (A 140) dp n))) : J pc lv (.int (iZ n) :: .int (iZ dp) :: .ref (ad 140) :: .int (iZ 0) :: .ref (ad 122) :: st) (ad, I, A) := by
  obtain ⟨p, e, s, m, args, below, meth, c, A0, Q⟩ := X
  obtain ⟨hx, hb, hml, hown, hts, hr, hlk, hK, hA, hOL, hO, hQ, hW⟩ := hJ
  refine (hW _ _ _ _).mpr (fun H locs ls hP hD hS hl => ?_)
  have k1 : inR dp := ⟨by omega, by omega⟩
  have k2 : inR n := ⟨by omega, by omega⟩
  have kd : (iZ dp).toNatClampNeg = dp.toNat := iZ_clamp k1
  have kn : (iZ n).toNatClampNeg = n.toNat := iZ_clamp k2
  have k0 : (iZ 0).toNatClampNeg = 0 := rfl
  refine va_copyi (D := D) hx hb (by rw [hml, hl.1]) hown (hts _ (gw_of (List.mem_of_getElem? (i := 538) (by decide +kernel)) (by decide +kernel))) (hts _ (gw_of (List.mem_of_getElem? (i := 540) (by decide +kernel)) (by decide +kernel))) (hts _ (gw_of (List.mem_of_getElem? (i := 539) (by decide +kernel)) (by decide +kernel))) (hts _ (gw_of (List.mem_of_getElem? (i := 72) (by decide +kernel)) (by decide +kernel))) hK hP hD hS (20+1) (24) 0 0 (n0 := 6) (n1 := 2880) (f := zrow (A 122)) (g := zrow (A 140)) rfl rfl rfl rfl rfl (by decide) (fun q => by have := (iZ_lt k1 inR_0).mp q; omega) (fun q => by have := (iZ_lt k2 inR_0).mp q; omega) (by rw [k0, kn]; omega) (by rw [kd, kn]; omega) (fun i hi => rfl) hR.1 ?_ d (fun H1 locs1 hP1 hD1 hS1 => ?_)
  · have : nativeFrameWords "java/lang/System" "arraycopy" 5 + 11 ≤ 32 := by decide +kernel
    omega
  · have e1 : va_cpy (zrow (A 122)) (zrow (A 140)) (iZ 0).toNatClampNeg (iZ dp).toNatClampNeg (iZ n).toNatClampNeg = zrow (zcp (A 122) (A 140) dp n) := by
      rw [k0, kd, kn]
      funext j
      unfold va_cpy zrow zcp
      by_cases q : dp.toNat ≤ j ∧ j < dp.toNat + n.toNat
      · rw [if_pos q, if_pos (by omega)]
        congr 2
        omega
      · rw [if_neg q, if_neg (by omega)]
    rw [e1] at hP1 hD1
    exact (hW _ _ _ _).mp k H1 locs1 ls hP1 hD1 hS1 hl
set_option maxHeartbeats 4000000 in
set_option maxRecDepth 100000 in
theorem qJ7_fill_53178 {l : Launch} {D : va_G} {cI : ClassId} {O : OT} {adK adV : Nat → Nat} {tT : Nat} (hO : OGC O adK adV tT) {ad : Nat → Nat} {I : Nat → Int} {A : Nat → Int → Int} : CC l D cI O yJ7_fill_53178 cJ7_fill_53178 4 none 1 [.ref (ad 141), .int (iZ (-1))] (ad, I, A) (pV fun u2 => ∃ F : Int → Int, (∀ j, 0 ≤ j → j < 480 → F j = -1) ∧ u2 = (ad, I, va_up A 141 F)) := by
  refine ct_intro (own := RJ7) (by decide +kernel) rfl hO.1.1 (Nat.le_of_ble_eq_true rfl) (by simp [Value.category]) (fun X J hJ => ?_)
  have lp : ∀ (n : Nat) (k : Nat) (F : Int → Int), k ≤ 480 → (∀ j : Int, 0 ≤ j → j < k → F j = -1) → 480 - (k : Int) < n → J 5 [some (.ref (ad 141)), some (.int (iZ (-1))), some (.int (iZ (k : Int))), some (.int (iZ 480))] [] (ad, I, va_up A 141 F) := by
    intro n
    induction n with
    | zero => intro k F hk hn hmu; exfalso; omega
    | succ n ih =>
      intro k F hk hn hmu
      refine v_ild2 (pc := 5) hJ dJ7_fill_53178_5 ?_
      refine v_ild3 (pc := 6) hJ dJ7_fill_53178_6 ?_
      refine v_icmp_ge (tgt := 20) (pc := 7) hJ dJ7_fill_53178_7 (by decide) (by omega) (by omega) (fun h7 => ?_) (fun h7 => ?_)
      · refine v_vret (pc := 20) hJ dJ7_fill_53178_20 ⟨rfl, ?_⟩
        exact ⟨F, fun j j0 j1 => hn j j0 (by omega), rfl⟩
      · refine v_ald0 (pc := 10) hJ dJ7_fill_53178_10 ?_
        refine v_ild2 (pc := 11) hJ dJ7_fill_53178_11 ?_
        refine v_ild1 (pc := 12) hJ dJ7_fill_53178_12 ?_
        refine cs141 (pc := 13) hJ (by omega) (by omega) dJ7_fill_53178_13 ?_
        refine v_inc2 (pc := 14) hJ dJ7_fill_53178_14 (by decide) ?_
        refine v_goto (tgt := 5) (pc := 17) hJ dJ7_fill_53178_17 (by decide) ?_
        rw [show (k : Int) + 1 = ((k + 1 : Nat) : Int) by omega]
        simp only [up_s, up_up]
        exact ih (k + 1) _ (by omega) (fun j j0 j1 => by by_cases e : j = (k : Int); (subst e; exact zu_same _ _ _); rw [zu_ne e]; exact hn j j0 (by omega)) (by omega)
  show J 0 [some (.ref (ad 141)), some (.int (iZ (-1))), none, none] [] (ad, I, A)
  refine v_iconst (pc := 0) hJ dJ7_fill_53178_0 ?_
  refine v_ist2 (pc := 1) hJ dJ7_fill_53178_1 (by decide) ?_
  refine v_ald0 (pc := 2) hJ dJ7_fill_53178_2 ?_
  refine cl141 (pc := 3) hJ dJ7_fill_53178_3 ?_
  refine v_ist3 (pc := 4) hJ dJ7_fill_53178_4 (by decide) ?_
  have := lp 481 0 (A 141) (by omega) (fun j j0 j1 => by omega) (by omega)
  rw [up_id] at this
  exact this
