def OGC (O : OT) (adK adV : Nat → Nat) (tT : Nat) : Prop := OG O adK adV ∧ ∀ (A : Nat → Prop) (U : State) (H : Heap), O A U H → va_Z "ChordMover$Kinds" "TONES" "[I" (.ref tT) A U H ∧ va_T .int tT 14 (fun j => .int (iZ (kT (j : Int)))) A U H
theorem kM_max : Cond.code Lib.Math.max.name Lib.Math.max.code 2 (some .int) ∈ gw := gw_of (List.mem_of_getElem? (i := 339) (by decide +kernel)) (by decide +kernel)
theorem kM_min : Cond.code Lib.Math.min.name Lib.Math.min.code 2 (some .int) ∈ gw := gw_of (List.mem_of_getElem? (i := 658) (by decide +kernel)) (by decide +kernel)
theorem kM_abs : Cond.code Lib.Math.abs.name Lib.Math.abs.code 1 (some .int) ∈ gw := gw_of (List.mem_of_getElem? (i := 554) (by decide +kernel)) (by decide +kernel)
section JROWS
variable {σ : Type} {l : Launch} {R : Room} {cc : ByteArray} {nL : Nat} {own : String} {rt : Option FieldType} {D : va_G} {tys : List (ClassId × FieldType)} {O : OT} {wld : σ → va_W} {post : Option Value → σ → Prop} {X : CtxT} {J : KT σ} {adK adV : Nat → Nat} {tT : Nat}
variable {pc : Nat} {lv : List (Option Value)} {st : List Value} {u : σ}
theorem v_mmax (hJ : Snd l R cc nL own rt D tys O wld post X J) {idx : Nat} {x y : Int} (lk : LkS own idx yJ9_max_7cf53 cJ9_max_7cf53 2 (some .int) 2) (h1 : inR x) (h2 : inR y) (hroom : (st.map fun v => v.category).sum ≤ 8) (hR : 1 ≤ R.frames ∧ 40 ≤ R.locals) (d : decode cc pc = .ok (.invokestatic idx, 3)) (k : J (pc + 3) lv (.int (iZ (if x < y then y else x)) :: st) u) : J pc lv (.int (iZ y) :: .int (iZ x) :: st) u := by
  obtain ⟨p, e, s, m, args, below, meth, c, A, Q⟩ := X
  obtain ⟨hx, hb, hml, hown, hts, hr, hlk, hK, hA, hOL, hO, hQ, hW⟩ := hJ
  refine (hW _ _ _ _).mpr (fun H locs ls hP hD hS hl => ?_)
  have e0 : iZ (if x < y then y else x) = (if iZ x < iZ y then iZ y else iZ x) := by
    by_cases q : x < y
    · rw [if_pos q, if_pos ((iZ_lt h1 h2).mpr q)]
    · rw [if_neg q, if_neg (fun z => q ((iZ_lt h1 h2).mp z))]
  have k1 := ((hW _ _ _ _).mp k H locs ls hP hD hS hl)
  rw [e0] at k1
  exact va_mmax hx hb (by rw [hml, hl.1]) hown (hts _ (lk.1 (.methodLink own idx yJ9_max_7cf53) (by simp [va_wsS]))) (hts _ (lk.1 (.static yJ9_max_7cf53) (by simp [va_wsS]))) (hts _ (lk.1 (.initialized yJ9_max_7cf53.cls) (by simp [va_wsS]))) (hts _ kM_max) hR.1 (by omega) (Nat.zero_le _) (Nat.zero_le _) d k1
theorem v_mmin (hJ : Snd l R cc nL own rt D tys O wld post X J) {idx : Nat} {x y : Int} (lk : LkS own idx yJ9_min_7cf53 cJ9_min_7cf53 2 (some .int) 2) (h1 : inR x) (h2 : inR y) (hroom : (st.map fun v => v.category).sum ≤ 8) (hR : 1 ≤ R.frames ∧ 40 ≤ R.locals) (d : decode cc pc = .ok (.invokestatic idx, 3)) (k : J (pc + 3) lv (.int (iZ (if y < x then y else x)) :: st) u) : J pc lv (.int (iZ y) :: .int (iZ x) :: st) u := by
  obtain ⟨p, e, s, m, args, below, meth, c, A, Q⟩ := X
  obtain ⟨hx, hb, hml, hown, hts, hr, hlk, hK, hA, hOL, hO, hQ, hW⟩ := hJ
  refine (hW _ _ _ _).mpr (fun H locs ls hP hD hS hl => ?_)
  have e0 : iZ (if y < x then y else x) = (if iZ y < iZ x then iZ y else iZ x) := by
    by_cases q : y < x
    · rw [if_pos q, if_pos ((iZ_lt h2 h1).mpr q)]
    · rw [if_neg q, if_neg (fun z => q ((iZ_lt h2 h1).mp z))]
  have k1 := ((hW _ _ _ _).mp k H locs ls hP hD hS hl)
  rw [e0] at k1
  exact va_mmin hx hb (by rw [hml, hl.1]) hown (hts _ (lk.1 (.methodLink own idx yJ9_min_7cf53) (by simp [va_wsS]))) (hts _ (lk.1 (.static yJ9_min_7cf53) (by simp [va_wsS]))) (hts _ (lk.1 (.initialized yJ9_min_7cf53.cls) (by simp [va_wsS]))) (hts _ kM_min) hR.1 (by omega) (Nat.zero_le _) (Nat.zero_le _) d k1
theorem v_mabs (hJ : Snd l R cc nL own rt D tys O wld post X J) {idx : Nat} {x : Int} (lk : LkS own idx yJ9_abs_0f7a4 cJ9_abs_0f7a4 1 (some .int) 1) (h1 : inR x) (hroom : (st.map fun v => v.category).sum ≤ 8) (hR : 1 ≤ R.frames ∧ 40 ≤ R.locals) (d : decode cc pc = .ok (.invokestatic idx, 3)) (k : J (pc + 3) lv (.int (iZ (if 0 ≤ x then x else -x)) :: st) u) : J pc lv (.int (iZ x) :: st) u := by
  obtain ⟨p, e, s, m, args, below, meth, c, A, Q⟩ := X
  obtain ⟨hx, hb, hml, hown, hts, hr, hlk, hK, hA, hOL, hO, hQ, hW⟩ := hJ
  refine (hW _ _ _ _).mpr (fun H locs ls hP hD hS hl => ?_)
  have e0 : iZ (if 0 ≤ x then x else -x) = (if 0 ≤ iZ x then iZ x else 0 - iZ x) := by
    by_cases q : 0 ≤ x
    · rw [if_pos q, if_pos (show (0 : Int32) ≤ iZ x from (iZ_le inR_0 h1).mpr q)]
    · rw [if_neg q, if_neg (show ¬ (0 : Int32) ≤ iZ x from fun z => q ((iZ_le inR_0 h1).mp z)), ← iZ_0, iZ_sub, Int.zero_sub]
  have k1 := ((hW _ _ _ _).mp k H locs ls hP hD hS hl)
  rw [e0] at k1
  exact va_mabs hx hb (by rw [hml, hl.1]) hown (hts _ (lk.1 (.methodLink own idx yJ9_abs_0f7a4) (by simp [va_wsS]))) (hts _ (lk.1 (.static yJ9_abs_0f7a4) (by simp [va_wsS]))) (hts _ (lk.1 (.initialized yJ9_abs_0f7a4.cls) (by simp [va_wsS]))) (hts _ kM_abs) hR.1 (by omega) (Nat.zero_le _) (Nat.zero_le _) d k1
theorem v_tonesL (hJ : Snd l R cc nL own rt D tys O wld post X J) (hG : OGC O adK adV tT) (d : decode cc pc = .ok (.arraylength, 1)) (k : J (pc + 1) lv (.int (iZ 14) :: st) u) : J pc lv (.ref tT :: st) u := by
  obtain ⟨p, e, s, m, args, below, meth, c, A, Q⟩ := X
  obtain ⟨hx, hb, hml, hown, hts, hr, hlk, hK, hA, hOL, hO, hQ, hW⟩ := hJ
  refine (hW _ _ _ _).mpr (fun H locs ls hP hD hS hl => ?_)
  exact va_tlen hx hb (hG.2 A s s.heap hO).2 hS (show Int32.ofNat 14 = iZ 14 from rfl) d ((hW _ _ _ _).mp k H locs ls hP hD hS hl)
theorem v_tonesA (hJ : Snd l R cc nL own rt D tys O wld post X J) (hG : OGC O adK adV tT) {i : Int} (h0 : 0 ≤ i) (h1 : i < 14) (d : decode cc pc = .ok (.iaload, 1)) (k : J (pc + 1) lv (.int (iZ (kT i)) :: st) u) : J pc lv (.int (iZ i) :: .ref tT :: st) u := by
  obtain ⟨p, e, s, m, args, below, meth, c, A, Q⟩ := X
  obtain ⟨hx, hb, hml, hown, hts, hr, hlk, hK, hA, hOL, hO, hQ, hW⟩ := hJ
  refine (hW _ _ _ _).mpr (fun H locs ls hP hD hS hl => ?_)
  refine va_ti hx hb (hG.2 A s s.heap hO).2 hS (iZ_in h0 h1 (by decide)) (v := .int (iZ (kT i))) ?_ d ((hW _ _ _ _).mp k H locs ls hP hD hS hl)
  rw [iZ_clamp ⟨by omega, by omega⟩]
  show Value.int (iZ (kT ((i.toNat : Nat) : Int))) = _
  rw [Int.toNat_of_nonneg h0]
end JROWS
theorem zxor_neg {x y : Int} (hx : inR x) (hy : 0 ≤ y ∧ y < 2147483648) : zxor x y < 0 ↔ x < 0 := by
  have e : ∀ z : Int32, z.toInt < 0 ↔ z.toBitVec.msb = true := fun z => by
    rw [BitVec.msb_eq_toInt]
    simp only [decide_eq_true_eq]
    rfl
  have ey : (iZ y).toBitVec.msb = false := by
    have h1 := e (iZ y)
    rw [iZ_toInt (show inR y by omega)] at h1
    cases hm : (iZ y).toBitVec.msb with
    | false => rfl
    | true => have := h1.mpr hm; omega
  unfold zxor
  rw [e, show (iZ x ^^^ iZ y).toBitVec = (iZ x).toBitVec ^^^ (iZ y).toBitVec from rfl, BitVec.msb_xor, ey, Bool.xor_false, ← e, iZ_toInt hx]
theorem fmL {a b : Int} (hb : 0 < b) : (0 ≤ a → a.tmod b = a % b) ∧ (a < 0 → (a % b = 0 → a.tmod b = 0) ∧ (a % b ≠ 0 → a.tmod b = a % b - b)) := by
  refine ⟨Int.tmod_eq_emod_of_nonneg, fun h => ⟨fun h2 => ?_, fun h2 => ?_⟩⟩
  · rw [Int.tmod_eq_emod, if_pos (Or.inr (Int.dvd_of_emod_eq_zero h2)), h2]; rfl
  · rw [Int.tmod_eq_emod, if_neg (by rintro (q | q); omega; exact h2 (Int.emod_eq_zero_of_dvd q)), Int.natAbs_of_nonneg (by omega)]
theorem fdL {a : Int} : (0 ≤ a → a.tdiv 7 = a / 7) ∧ (a < 0 → (a % 7 = 0 → a.tdiv 7 = a / 7) ∧ (a % 7 ≠ 0 → a.tdiv 7 = a / 7 + 1)) := by
  refine ⟨Int.tdiv_eq_ediv_of_nonneg, fun h => ⟨fun h2 => ?_, fun h2 => ?_⟩⟩
  · rw [Int.tdiv_eq_ediv, if_pos (Or.inr (Int.dvd_of_emod_eq_zero h2))]; omega
  · rw [Int.tdiv_eq_ediv, if_neg (by rintro (q | q); omega; exact h2 (Int.emod_eq_zero_of_dvd q))]; rfl
set_option maxHeartbeats 4000000 in
set_option maxRecDepth 100000 in
theorem qJ9_floorMod_7cf53 {σ : Type} {l : Launch} {D : va_G} {tys : List (ClassId × FieldType)} {O : OT} {wld : σ → va_W} (hOL : OL O) {u : σ} {a b : Int} (ha : inR a) (hb : 0 < b ∧ b < 1000) : Ct l yJ9_floorMod_7cf53 cJ9_floorMod_7cf53 3 (some .int) (rL 1) D tys O wld [.int (iZ a), .int (iZ b)] u (pI fun r u2 => r = a % b ∧ u2 = u) := by
  refine ct_intro (own := RJ9) (by decide +kernel) rfl hOL (Nat.le_of_ble_eq_true rfl) (by simp [Value.category]) (fun X J hJ => ?_)
  show J 0 [some (.int (iZ a)), some (.int (iZ b)), none] [] u
  have hx := zxor_neg (x := a) (y := b) ha (by omega)
  have hm := fmL (a := a) hb.1
  have h3 := Int.emod_nonneg a (show b ≠ 0 by omega)
  have h4 := Int.emod_lt_of_pos a hb.1
  obtain ⟨e, he⟩ : ∃ z, z = a % b := ⟨_, rfl⟩
  obtain ⟨t, ht⟩ : ∃ z, z = a.tmod b := ⟨_, rfl⟩
  rw [← he] at h3 h4 hm hJ
  rw [← ht] at hm
  refine v_ild0 (pc := 0) hJ dJ9_floorMod_7cf53_0 ?_
  refine v_ild1 (pc := 1) hJ dJ9_floorMod_7cf53_1 ?_
  refine v_irem (pc := 2) hJ dJ9_floorMod_7cf53_2 (by omega) (by omega) (by omega) ?_
  rw [← ht]
  refine v_ist2 (pc := 3) hJ dJ9_floorMod_7cf53_3 (by decide) ?_
  refine v_ild0 (pc := 4) hJ dJ9_floorMod_7cf53_4 ?_
  refine v_ild1 (pc := 5) hJ dJ9_floorMod_7cf53_5 ?_
  refine v_ixor (pc := 6) hJ dJ9_floorMod_7cf53_6 ?_
  refine v_if_ge (tgt := 18) (pc := 7) hJ dJ9_floorMod_7cf53_7 (by decide) (inR_of _) (fun h7 => ?_) (fun h7 => ?_)
  · refine v_ild2 (pc := 18) hJ dJ9_floorMod_7cf53_18 ?_
    refine v_iret (pc := 19) hJ dJ9_floorMod_7cf53_19 ⟨_, rfl, ?_⟩
    refine ⟨?_, rfl⟩
    rcases Int.lt_or_le a 0 with q | q
    · by_cases q2 : e = 0
      · have := (hm.2 q).1 q2; omega
      · have := (hm.2 q).2 q2; omega
    · have := hm.1 q; omega
  · refine v_ild2 (pc := 10) hJ dJ9_floorMod_7cf53_10 ?_
    refine v_if_eq (tgt := 18) (pc := 11) hJ dJ9_floorMod_7cf53_11 (by decide) (by omega) (fun h11 => ?_) (fun h11 => ?_)
    · refine v_ild2 (pc := 18) hJ dJ9_floorMod_7cf53_18 ?_
      refine v_iret (pc := 19) hJ dJ9_floorMod_7cf53_19 ⟨_, rfl, ?_⟩
      refine ⟨?_, rfl⟩
      rcases Int.lt_or_le a 0 with q | q
      · by_cases q2 : e = 0
        · have := (hm.2 q).1 q2; omega
        · have := (hm.2 q).2 q2; omega
      · have := hm.1 q; omega
    · refine v_ild2 (pc := 14) hJ dJ9_floorMod_7cf53_14 ?_
      refine v_ild1 (pc := 15) hJ dJ9_floorMod_7cf53_15 ?_
      refine v_iadd (pc := 16) hJ dJ9_floorMod_7cf53_16 ?_
      refine v_iret (pc := 17) hJ dJ9_floorMod_7cf53_17 ⟨_, rfl, ?_⟩
      refine ⟨?_, rfl⟩
      rcases Int.lt_or_le a 0 with q | q
      · by_cases q2 : e = 0
        · have := (hm.2 q).1 q2; omega
        · have := (hm.2 q).2 q2; omega
      · have := hm.1 q; omega
set_option maxHeartbeats 4000000 in
set_option maxRecDepth 100000 in
theorem qJ9_floorDiv_7cf53 {σ : Type} {l : Launch} {D : va_G} {tys : List (ClassId × FieldType)} {O : OT} {wld : σ → va_W} (hOL : OL O) {u : σ} {a : Int} (ha : -1000000 < a ∧ a < 1000000) : Ct l yJ9_floorDiv_7cf53 cJ9_floorDiv_7cf53 3 (some .int) (rL 1) D tys O wld [.int (iZ a), .int (iZ 7)] u (pI fun r u2 => r = a / 7 ∧ u2 = u) := by
  refine ct_intro (own := RJ9) (by decide +kernel) rfl hOL (Nat.le_of_ble_eq_true rfl) (by simp [Value.category]) (fun X J hJ => ?_)
  show J 0 [some (.int (iZ a)), some (.int (iZ 7)), none] [] u
  have hx := zxor_neg (x := a) (y := 7) (by omega) (by omega)
  have hm := fdL (a := a)
  obtain ⟨t, ht⟩ : ∃ z, z = a.tdiv 7 := ⟨_, rfl⟩
  rw [← ht] at hm
  have htb : -1000000 < t ∧ t < 1000000 := by
    rcases Int.lt_or_le a 0 with q | q
    · by_cases q2 : a % 7 = 0
      · have := (hm.2 q).1 q2; omega
      · have := (hm.2 q).2 q2; omega
    · have := hm.1 q; omega
  refine v_ild0 (pc := 0) hJ dJ9_floorDiv_7cf53_0 ?_
  refine v_ild1 (pc := 1) hJ dJ9_floorDiv_7cf53_1 ?_
  refine v_idiv (pc := 2) hJ dJ9_floorDiv_7cf53_2 (by omega) (by omega) (by omega) ?_
  rw [← ht]
  refine v_ist2 (pc := 3) hJ dJ9_floorDiv_7cf53_3 (by decide) ?_
  refine v_ild0 (pc := 4) hJ dJ9_floorDiv_7cf53_4 ?_
  refine v_ild1 (pc := 5) hJ dJ9_floorDiv_7cf53_5 ?_
  refine v_ixor (pc := 6) hJ dJ9_floorDiv_7cf53_6 ?_
  refine v_if_ge (tgt := 21) (pc := 7) hJ dJ9_floorDiv_7cf53_7 (by decide) (inR_of _) (fun h7 => ?_) (fun h7 => ?_)
  · refine v_ild2 (pc := 21) hJ dJ9_floorDiv_7cf53_21 ?_
    refine v_iret (pc := 22) hJ dJ9_floorDiv_7cf53_22 ⟨_, rfl, ?_⟩
    refine ⟨?_, rfl⟩
    rcases Int.lt_or_le a 0 with q | q
    · by_cases q2 : a % 7 = 0
      · have := (hm.2 q).1 q2; omega
      · have := (hm.2 q).2 q2; omega
    · have := hm.1 q; omega
  · refine v_ild2 (pc := 10) hJ dJ9_floorDiv_7cf53_10 ?_
    refine v_ild1 (pc := 11) hJ dJ9_floorDiv_7cf53_11 ?_
    refine v_imul (pc := 12) hJ dJ9_floorDiv_7cf53_12 ?_
    refine v_ild0 (pc := 13) hJ dJ9_floorDiv_7cf53_13 ?_
    refine v_icmp_eq (tgt := 21) (pc := 14) hJ dJ9_floorDiv_7cf53_14 (by decide) (by omega) (by omega) (fun h14 => ?_) (fun h14 => ?_)
    · refine v_ild2 (pc := 21) hJ dJ9_floorDiv_7cf53_21 ?_
      refine v_iret (pc := 22) hJ dJ9_floorDiv_7cf53_22 ⟨_, rfl, ?_⟩
      refine ⟨?_, rfl⟩
      rcases Int.lt_or_le a 0 with q | q
      · by_cases q2 : a % 7 = 0
        · have := (hm.2 q).1 q2; omega
        · have := (hm.2 q).2 q2; omega
      · have := hm.1 q; omega
    · refine v_ild2 (pc := 17) hJ dJ9_floorDiv_7cf53_17 ?_
      refine v_iconst (pc := 18) hJ dJ9_floorDiv_7cf53_18 ?_
      refine v_isub (pc := 19) hJ dJ9_floorDiv_7cf53_19 ?_
      refine v_iret (pc := 20) hJ dJ9_floorDiv_7cf53_20 ⟨_, rfl, ?_⟩
      refine ⟨?_, rfl⟩
      rcases Int.lt_or_le a 0 with q | q
      · by_cases q2 : a % 7 = 0
        · have := (hm.2 q).1 q2; omega
        · have := (hm.2 q).2 q2; omega
      · have := hm.1 q; omega
def bcF (x : Int) : Int :=
  let a := x - zand (zushr x 1) 1431655765
  let b := zand a 858993459 + zand (zushr a 2) 858993459
  let c := zand (b + zushr b 4) 252645135
  let d := c + zushr c 8
  let e := d + zushr d 16
  zand e 63
set_option maxRecDepth 100000 in
theorem bcF_ok : ∀ n : Nat, n < 4096 → bcF n = cntN n 12 := by decide +kernel
set_option maxHeartbeats 4000000 in
set_option maxRecDepth 100000 in
theorem qJ6_bitCount_0f7a4 {σ : Type} {l : Launch} {D : va_G} {tys : List (ClassId × FieldType)} {O : OT} {wld : σ → va_W} (hOL : OL O) {u : σ} {a : Int} (ha : 0 ≤ a ∧ a < 4096) : Ct l yJ6_bitCount_0f7a4 cJ6_bitCount_0f7a4 1 (some .int) (rL 1) D tys O wld [.int (iZ a)] u (pI fun r u2 => r = cntN a 12 ∧ u2 = u) := by
  refine ct_intro (own := RJ6) (by decide +kernel) rfl hOL (Nat.le_of_ble_eq_true rfl) (by simp [Value.category]) (fun X J hJ => ?_)
  show J 0 [some (.int (iZ a))] [] u
  refine v_ild0 (pc := 0) hJ dJ6_bitCount_0f7a4_0 ?_
  refine v_ild0 (pc := 1) hJ dJ6_bitCount_0f7a4_1 ?_
  refine v_iconst (pc := 2) hJ dJ6_bitCount_0f7a4_2 ?_
  refine v_iushr (pc := 3) hJ dJ6_bitCount_0f7a4_3 ?_
  refine v_ldcwK (pc := 4) hJ dJ6_bitCount_0f7a4_4 k_const_J6_265 ?_
  refine v_iand (pc := 7) hJ dJ6_bitCount_0f7a4_7 ?_
  refine v_isub (pc := 8) hJ dJ6_bitCount_0f7a4_8 ?_
  refine v_ist0 (pc := 9) hJ dJ6_bitCount_0f7a4_9 (by decide) ?_
  refine v_ild0 (pc := 10) hJ dJ6_bitCount_0f7a4_10 ?_
  refine v_ldcwK (pc := 11) hJ dJ6_bitCount_0f7a4_11 k_const_J6_266 ?_
  refine v_iand (pc := 14) hJ dJ6_bitCount_0f7a4_14 ?_
  refine v_ild0 (pc := 15) hJ dJ6_bitCount_0f7a4_15 ?_
  refine v_iconst (pc := 16) hJ dJ6_bitCount_0f7a4_16 ?_
  refine v_iushr (pc := 17) hJ dJ6_bitCount_0f7a4_17 ?_
  refine v_ldcwK (pc := 18) hJ dJ6_bitCount_0f7a4_18 k_const_J6_266 ?_
  refine v_iand (pc := 21) hJ dJ6_bitCount_0f7a4_21 ?_
  refine v_iadd (pc := 22) hJ dJ6_bitCount_0f7a4_22 ?_
  refine v_ist0 (pc := 23) hJ dJ6_bitCount_0f7a4_23 (by decide) ?_
  refine v_ild0 (pc := 24) hJ dJ6_bitCount_0f7a4_24 ?_
  refine v_ild0 (pc := 25) hJ dJ6_bitCount_0f7a4_25 ?_
  refine v_iconst (pc := 26) hJ dJ6_bitCount_0f7a4_26 ?_
  refine v_iushr (pc := 27) hJ dJ6_bitCount_0f7a4_27 ?_
  refine v_iadd (pc := 28) hJ dJ6_bitCount_0f7a4_28 ?_
  refine v_ldcwK (pc := 29) hJ dJ6_bitCount_0f7a4_29 k_const_J6_267 ?_
  refine v_iand (pc := 32) hJ dJ6_bitCount_0f7a4_32 ?_
  refine v_ist0 (pc := 33) hJ dJ6_bitCount_0f7a4_33 (by decide) ?_
  refine v_ild0 (pc := 34) hJ dJ6_bitCount_0f7a4_34 ?_
  refine v_ild0 (pc := 35) hJ dJ6_bitCount_0f7a4_35 ?_
  refine v_bipush (pc := 36) hJ dJ6_bitCount_0f7a4_36 (by decide) ?_
  refine v_iushr (pc := 38) hJ dJ6_bitCount_0f7a4_38 ?_
  refine v_iadd (pc := 39) hJ dJ6_bitCount_0f7a4_39 ?_
  refine v_ist0 (pc := 40) hJ dJ6_bitCount_0f7a4_40 (by decide) ?_
  refine v_ild0 (pc := 41) hJ dJ6_bitCount_0f7a4_41 ?_
  refine v_ild0 (pc := 42) hJ dJ6_bitCount_0f7a4_42 ?_
  refine v_bipush (pc := 43) hJ dJ6_bitCount_0f7a4_43 (by decide) ?_
  refine v_iushr (pc := 45) hJ dJ6_bitCount_0f7a4_45 ?_
  refine v_iadd (pc := 46) hJ dJ6_bitCount_0f7a4_46 ?_
  refine v_ist0 (pc := 47) hJ dJ6_bitCount_0f7a4_47 (by decide) ?_
  refine v_ild0 (pc := 48) hJ dJ6_bitCount_0f7a4_48 ?_
  refine v_bipush (pc := 49) hJ dJ6_bitCount_0f7a4_49 (by decide) ?_
  refine v_iand (pc := 51) hJ dJ6_bitCount_0f7a4_51 ?_
  refine v_iret (pc := 52) hJ dJ6_bitCount_0f7a4_52 ⟨_, rfl, ?_⟩
  refine ⟨?_, rfl⟩
  have := bcF_ok a.toNat (by omega)
  rw [show ((a.toNat : Nat) : Int) = a by omega] at this
  exact this
