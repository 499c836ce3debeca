/-- TONE of a NOTE -/
def tn (p : Int) : Int := 7 * p % 12
theorem tn_lt (p : Int) : 0 ≤ tn p ∧ tn p < 12 := by unfold tn; omega
theorem tn_eq {p : Int} : (((7 * p).tmod 12 + 12).tmod 12) = tn p := by
  unfold tn
  rw [Int.tmod_eq_emod_of_nonneg (a := (7 * p).tmod 12 + 12) (by have := Int.lt_tmod_of_pos (7 * p) (show (0 : Int) < 12 by decide); omega)]
  rw [Int.tmod_eq_emod]
  split <;> omega
theorem up_s {α : Type} (f : Nat → α) (k : Nat) (v : α) : va_up f k v k = v := if_pos rfl
theorem up_n {α : Type} {f : Nat → α} {k j : Nat} {v : α} (h : j ≠ k) : va_up f k v j = f j := if_neg h
theorem tmodB {x : Int} : -12 < x.tmod 12 ∧ x.tmod 12 < 12 := ⟨Int.lt_tmod_of_pos x (by decide), Int.tmod_lt_of_pos x (by decide)⟩
set_option maxHeartbeats 4000000 in
set_option maxRecDepth 100000 in
theorem qX11_thrown {l : Launch} {D : va_G} {cI : ClassId} {ad : Nat → Nat} {O : OT} {adK adV : Nat → Nat} (hO : OG O adK adV) {I : Nat → Int} {A : Nat → Int → Int}   : MC l D cI ad O yX11_thrown cX11_thrown 1 (some .int) 1 [.ref (ad 0)] (I, A) (pI fun r u2 => r = I 0 ∧ u2 = (I, A)) := by
  refine ct_intro (own := RX11) (by decide) rfl hO.1 (Nat.le_of_ble_eq_true rfl) (by simp [Value.category]) (fun X J hJ => ?_)
  show J 0 [some (.ref (ad 0))] [] (I, A)
  refine v_ald0 (pc := 0) hJ dX11_thrown_0 ?_
  refine mg0 (pc := 1) hJ dX11_thrown_1 ?_
  refine v_iret (pc := 4) hJ dX11_thrown_4 ⟨_, rfl, ?_⟩
  exact ⟨rfl, rfl⟩
set_option maxHeartbeats 4000000 in
set_option maxRecDepth 100000 in
theorem qX11_right {l : Launch} {D : va_G} {cI : ClassId} {ad : Nat → Nat} {O : OT} {adK adV : Nat → Nat} (hO : OG O adK adV) {I : Nat → Int} {A : Nat → Int → Int} {b w : Int} (h0 : I 0 = 0) (hb : b = 0 ∨ b = 1) (hw : 0 < w ∧ w < 100) : MC l D cI ad O yX11_right cX11_right 3 (some .boolean) 1 [.ref (ad 0), .int (iZ b), .int (iZ w)] (I, A) (pI fun r u2 => (b = 0 → r = 0 ∧ u2 = (va_up I 0 w, A)) ∧ (b = 1 → r = 1 ∧ u2 = (I, A))) := by
  refine ct_intro (own := RX11) (by decide) rfl hO.1 (Nat.le_of_ble_eq_true rfl) (by simp [Value.category]) (fun X J hJ => ?_)
  show J 0 [some (.ref (ad 0)), some (.int (iZ b)), some (.int (iZ w))] [] (I, A)
  refine v_ald0 (pc := 0) hJ dX11_right_0 ?_
  refine mg0 (pc := 1) hJ dX11_right_1 ?_
  refine v_if_ne (tgt := 16) (pc := 4) hJ dX11_right_4 (by decide) (by omega) (fun h4 => ?_) (fun h4 => ?_)
  · exact absurd h0 h4
  · refine v_ild1 (pc := 7) hJ dX11_right_7 ?_
    refine v_if_ne (tgt := 16) (pc := 8) hJ dX11_right_8 (by decide) (by omega) (fun h8 => ?_) (fun h8 => ?_)
    · try simp only [up_s]
      refine v_ald0 (pc := 16) hJ dX11_right_16 ?_
      refine mg0 (pc := 17) hJ dX11_right_17 ?_
      refine v_if_ne (tgt := 27) (pc := 20) hJ dX11_right_20 (by decide) (by (try simp only [up_s]); omega) (fun h20 => ?_) (fun h20 => ?_)
      · refine v_iconst (pc := 27) hJ dX11_right_27 ?_
        refine v_zret (pc := 28) hJ rfl dX11_right_28 ⟨_, rfl, ?_⟩
        exact absurd h0 h20
      · refine v_iconst (pc := 23) hJ dX11_right_23 ?_
        refine v_goto (tgt := 28) (pc := 24) hJ dX11_right_24 (by decide) ?_
        refine v_zret (pc := 28) hJ rfl dX11_right_28 ⟨_, rfl, ?_⟩
        exact ⟨fun q => absurd q h8, fun q => ⟨rfl, rfl⟩⟩
    · refine v_ald0 (pc := 11) hJ dX11_right_11 ?_
      refine v_ild2 (pc := 12) hJ dX11_right_12 ?_
      refine mp0 (pc := 13) hJ dX11_right_13 ?_
      try simp only [up_s]
      refine v_ald0 (pc := 16) hJ dX11_right_16 ?_
      refine mg0 (pc := 17) hJ dX11_right_17 ?_
      try simp only [up_s, up_n, up_up, ne_eq, Nat.reduceEqDiff, not_false_eq_true]
      refine v_if_ne (tgt := 27) (pc := 20) hJ dX11_right_20 (by decide) (by (try simp only [up_s]); omega) (fun h20 => ?_) (fun h20 => ?_)
      · refine v_iconst (pc := 27) hJ dX11_right_27 ?_
        refine v_zret (pc := 28) hJ rfl dX11_right_28 ⟨_, rfl, ?_⟩
        exact ⟨fun q => ⟨rfl, rfl⟩, fun q => by omega⟩
      · refine v_iconst (pc := 23) hJ dX11_right_23 ?_
        refine v_goto (tgt := 28) (pc := 24) hJ dX11_right_24 (by decide) ?_
        refine v_zret (pc := 28) hJ rfl dX11_right_28 ⟨_, rfl, ?_⟩
        simp only [up_s] at h20; omega
set_option maxHeartbeats 4000000 in
set_option maxRecDepth 100000 in
theorem qX11_tone {l : Launch} {D : va_G} {cI : ClassId} {ad : Nat → Nat} {O : OT} {adK adV : Nat → Nat} (hO : OG O adK adV) {I : Nat → Int} {A : Nat → Int → Int} {p : Int} (hp : -1000 ≤ p ∧ p ≤ 1000) : MC l D cI ad O yX11_tone cX11_tone 1 (some .int) 1 [.int (iZ p)] (I, A) (pI fun r u2 => r = tn p ∧ u2 = (I, A)) := by
  refine ct_intro (own := RX11) (by decide) rfl hO.1 (Nat.le_of_ble_eq_true rfl) (by simp [Value.category]) (fun X J hJ => ?_)
  show J 0 [some (.int (iZ p))] [] (I, A)
  refine v_bipush (pc := 0) hJ dX11_tone_0 (by decide) ?_
  refine v_ild0 (pc := 2) hJ dX11_tone_2 ?_
  refine v_imul (pc := 3) hJ dX11_tone_3 ?_
  refine v_bipush (pc := 4) hJ dX11_tone_4 (by decide) ?_
  refine v_irem (pc := 6) hJ dX11_tone_6 (by omega) (by omega) (by omega) ?_
  refine v_bipush (pc := 7) hJ dX11_tone_7 (by decide) ?_
  refine v_iadd (pc := 9) hJ dX11_tone_9 ?_
  refine v_bipush (pc := 10) hJ dX11_tone_10 (by decide) ?_
  have h12 := tmodB (x := 7 * p)
  refine v_irem (pc := 12) hJ dX11_tone_12 (by omega) (by omega) (by omega) ?_
  refine v_iret (pc := 13) hJ dX11_tone_13 ⟨_, rfl, ?_⟩
  exact ⟨tn_eq, rfl⟩
set_option maxHeartbeats 4000000 in
set_option maxRecDepth 100000 in
theorem qX11_isBar {l : Launch} {D : va_G} {cI : ClassId} {ad : Nat → Nat} {O : OT} {adK adV : Nat → Nat} (hO : OG O adK adV) {I : Nat → Int} {A : Nat → Int → Int} {b : Int} (hb : inR b) : MC l D cI ad O yX11_isBar cX11_isBar 1 (some .boolean) 1 [.int (iZ b)] (I, A) (pI fun r u2 => (r = 0 ∨ r = 1) ∧ (r = 1 ↔ 0 ≤ b ∧ b ≤ 7) ∧ u2 = (I, A)) := by
  refine ct_intro (own := RX11) (by decide) rfl hO.1 (Nat.le_of_ble_eq_true rfl) (by simp [Value.category]) (fun X J hJ => ?_)
  show J 0 [some (.int (iZ b))] [] (I, A)
  refine v_ild0 (pc := 0) hJ dX11_isBar_0 ?_
  refine v_if_lt (tgt := 14) (pc := 1) hJ dX11_isBar_1 (by decide) (by omega) (fun h1 => ?_) (fun h1 => ?_)
  · refine v_iconst (pc := 14) hJ dX11_isBar_14 ?_
    refine v_zret (pc := 15) hJ rfl dX11_isBar_15 ⟨_, rfl, ?_⟩
    exact ⟨by omega, by omega, rfl⟩
  · refine v_ild0 (pc := 4) hJ dX11_isBar_4 ?_
    refine v_bipush (pc := 5) hJ dX11_isBar_5 (by decide) ?_
    refine v_icmp_gt (tgt := 14) (pc := 7) hJ dX11_isBar_7 (by decide) (by omega) (by omega) (fun h7 => ?_) (fun h7 => ?_)
    · refine v_iconst (pc := 14) hJ dX11_isBar_14 ?_
      refine v_zret (pc := 15) hJ rfl dX11_isBar_15 ⟨_, rfl, ?_⟩
      exact ⟨by omega, by omega, rfl⟩
    · refine v_iconst (pc := 10) hJ dX11_isBar_10 ?_
      refine v_goto (tgt := 15) (pc := 11) hJ dX11_isBar_11 (by decide) ?_
      refine v_zret (pc := 15) hJ rfl dX11_isBar_15 ⟨_, rfl, ?_⟩
      exact ⟨by omega, by omega, rfl⟩
set_option maxHeartbeats 4000000 in
set_option maxRecDepth 100000 in
theorem qX11_kept {l : Launch} {D : va_G} {cI : ClassId} {ad : Nat → Nat} {O : OT} {adK adV : Nat → Nat} (hO : OG O adK adV) {I : Nat → Int} {A : Nat → Int → Int}  (h26 : inR (I 26)) : MC l D cI ad O yX11_kept cX11_kept 1 (some .int) 1 [.ref (ad 0)] (I, A) (pI fun r u2 => r = (if I 26 < 4000 then I 26 else 4000) ∧ u2 = (I, A)) := by
  refine ct_intro (own := RX11) (by decide) rfl hO.1 (Nat.le_of_ble_eq_true rfl) (by simp [Value.category]) (fun X J hJ => ?_)
  show J 0 [some (.ref (ad 0))] [] (I, A)
  refine v_ald0 (pc := 0) hJ dX11_kept_0 ?_
  refine mg26 (pc := 1) hJ dX11_kept_1 ?_
  refine v_sipush (pc := 4) hJ dX11_kept_4 (by decide) ?_
  refine v_icmp_ge (tgt := 17) (pc := 7) hJ dX11_kept_7 (by decide) (by omega) (by omega) (fun h7 => ?_) (fun h7 => ?_)
  · refine v_sipush (pc := 17) hJ dX11_kept_17 (by decide) ?_
    refine v_iret (pc := 20) hJ dX11_kept_20 ⟨_, rfl, ?_⟩
    exact ⟨by split <;> omega, rfl⟩
  · refine v_ald0 (pc := 10) hJ dX11_kept_10 ?_
    refine mg26 (pc := 11) hJ dX11_kept_11 ?_
    refine v_goto (tgt := 20) (pc := 14) hJ dX11_kept_14 (by decide) ?_
    refine v_iret (pc := 20) hJ dX11_kept_20 ⟨_, rfl, ?_⟩
    exact ⟨by split <;> omega, rfl⟩
set_option maxHeartbeats 4000000 in
set_option maxRecDepth 100000 in
theorem qX11_isLetter {l : Launch} {D : va_G} {cI : ClassId} {ad : Nat → Nat} {O : OT} {adK adV : Nat → Nat} (hO : OG O adK adV) {I : Nat → Int} {A : Nat → Int → Int} {c : Int} (hc : inR c) : MC l D cI ad O yX11_isLetter cX11_isLetter 1 (some .boolean) 1 [.int (iZ c)] (I, A) (pI fun r u2 => (r = 0 ∨ r = 1) ∧ (r = 1 ↔ (65 ≤ c ∧ c ≤ 90) ∨ (97 ≤ c ∧ c ≤ 122)) ∧ u2 = (I, A)) := by
  refine ct_intro (own := RX11) (by decide) rfl hO.1 (Nat.le_of_ble_eq_true rfl) (by simp [Value.category]) (fun X J hJ => ?_)
  show J 0 [some (.int (iZ c))] [] (I, A)
  refine v_ild0 (pc := 0) hJ dX11_isLetter_0 ?_
  refine v_bipush (pc := 1) hJ dX11_isLetter_1 (by decide) ?_
  refine v_icmp_lt (tgt := 12) (pc := 3) hJ dX11_isLetter_3 (by decide) (by omega) (by omega) (fun h3 => ?_) (fun h3 => ?_)
  · refine v_ild0 (pc := 12) hJ dX11_isLetter_12 ?_
    refine v_bipush (pc := 13) hJ dX11_isLetter_13 (by decide) ?_
    refine v_icmp_lt (tgt := 28) (pc := 15) hJ dX11_isLetter_15 (by decide) (by omega) (by omega) (fun h15 => ?_) (fun h15 => ?_)
    · refine v_iconst (pc := 28) hJ dX11_isLetter_28 ?_
      refine v_zret (pc := 29) hJ rfl dX11_isLetter_29 ⟨_, rfl, ?_⟩
      exact ⟨by omega, by omega, rfl⟩
    · refine v_ild0 (pc := 18) hJ dX11_isLetter_18 ?_
      refine v_bipush (pc := 19) hJ dX11_isLetter_19 (by decide) ?_
      refine v_icmp_gt (tgt := 28) (pc := 21) hJ dX11_isLetter_21 (by decide) (by omega) (by omega) (fun h21 => ?_) (fun h21 => ?_)
      · refine v_iconst (pc := 28) hJ dX11_isLetter_28 ?_
        refine v_zret (pc := 29) hJ rfl dX11_isLetter_29 ⟨_, rfl, ?_⟩
        exact ⟨by omega, by omega, rfl⟩
      · refine v_iconst (pc := 24) hJ dX11_isLetter_24 ?_
        refine v_goto (tgt := 29) (pc := 25) hJ dX11_isLetter_25 (by decide) ?_
        refine v_zret (pc := 29) hJ rfl dX11_isLetter_29 ⟨_, rfl, ?_⟩
        exact ⟨by omega, by omega, rfl⟩
  · refine v_ild0 (pc := 6) hJ dX11_isLetter_6 ?_
    refine v_bipush (pc := 7) hJ dX11_isLetter_7 (by decide) ?_
    refine v_icmp_le (tgt := 24) (pc := 9) hJ dX11_isLetter_9 (by decide) (by omega) (by omega) (fun h9 => ?_) (fun h9 => ?_)
    · refine v_iconst (pc := 24) hJ dX11_isLetter_24 ?_
      refine v_goto (tgt := 29) (pc := 25) hJ dX11_isLetter_25 (by decide) ?_
      refine v_zret (pc := 29) hJ rfl dX11_isLetter_29 ⟨_, rfl, ?_⟩
      exact ⟨by omega, by omega, rfl⟩
    · refine v_ild0 (pc := 12) hJ dX11_isLetter_12 ?_
      refine v_bipush (pc := 13) hJ dX11_isLetter_13 (by decide) ?_
      refine v_icmp_lt (tgt := 28) (pc := 15) hJ dX11_isLetter_15 (by decide) (by omega) (by omega) (fun h15 => ?_) (fun h15 => ?_)
      · refine v_iconst (pc := 28) hJ dX11_isLetter_28 ?_
        refine v_zret (pc := 29) hJ rfl dX11_isLetter_29 ⟨_, rfl, ?_⟩
        exact ⟨by omega, by omega, rfl⟩
      · refine v_ild0 (pc := 18) hJ dX11_isLetter_18 ?_
        refine v_bipush (pc := 19) hJ dX11_isLetter_19 (by decide) ?_
        refine v_icmp_gt (tgt := 28) (pc := 21) hJ dX11_isLetter_21 (by decide) (by omega) (by omega) (fun h21 => ?_) (fun h21 => ?_)
        · refine v_iconst (pc := 28) hJ dX11_isLetter_28 ?_
          refine v_zret (pc := 29) hJ rfl dX11_isLetter_29 ⟨_, rfl, ?_⟩
          exact ⟨by omega, by omega, rfl⟩
        · refine v_iconst (pc := 24) hJ dX11_isLetter_24 ?_
          refine v_goto (tgt := 29) (pc := 25) hJ dX11_isLetter_25 (by decide) ?_
          refine v_zret (pc := 29) hJ rfl dX11_isLetter_29 ⟨_, rfl, ?_⟩
          exact ⟨by omega, by omega, rfl⟩
set_option maxHeartbeats 4000000 in
set_option maxRecDepth 100000 in
theorem qX11_says {l : Launch} {D : va_G} {cI : ClassId} {ad : Nat → Nat} {O : OT} {adK adV : Nat → Nat} (hO : OG O adK adV) {I : Nat → Int} {A : Nat → Int → Int} {c : Int} (h26 : 0 ≤ I 26 ∧ I 26 < 1000000) : MC l D cI ad O yX11_says cX11_says 2 none 1 [.ref (ad 0), .int (iZ c)] (I, A) (pV fun u2 => u2 = (va_up I 26 (I 26 + 1), if I 26 < 4000 then va_up A 25 (zu (A 25) (I 26) c) else A)) := by
  refine ct_intro (own := RX11) (by decide) rfl hO.1 (Nat.le_of_ble_eq_true rfl) (by simp [Value.category]) (fun X J hJ => ?_)
  show J 0 [some (.ref (ad 0)), some (.int (iZ c))] [] (I, A)
  refine v_ald0 (pc := 0) hJ dX11_says_0 ?_
  refine mg26 (pc := 1) hJ dX11_says_1 ?_
  refine v_sipush (pc := 4) hJ dX11_says_4 (by decide) ?_
  refine v_icmp_ge (tgt := 20) (pc := 7) hJ dX11_says_7 (by decide) (by omega) (by omega) (fun h7 => ?_) (fun h7 => ?_)
  · refine v_ald0 (pc := 20) hJ dX11_says_20 ?_
    refine v_dup (pc := 21) hJ dX11_says_21 rfl ?_
    refine mg26 (pc := 22) hJ dX11_says_22 ?_
    refine v_iconst (pc := 25) hJ dX11_says_25 ?_
    refine v_iadd (pc := 26) hJ dX11_says_26 ?_
    refine mp26 (pc := 27) hJ dX11_says_27 ?_
    refine v_vret (pc := 30) hJ dX11_says_30 ⟨rfl, ?_⟩
    first | (rw [if_pos (by omega)]) | (rw [if_neg (by omega)])
  · refine v_ald0 (pc := 10) hJ dX11_says_10 ?_
    refine mg25 (pc := 11) hJ dX11_says_11 ?_
    refine v_ald0 (pc := 14) hJ dX11_says_14 ?_
    refine mg26 (pc := 15) hJ dX11_says_15 ?_
    refine v_ild1 (pc := 18) hJ dX11_says_18 ?_
    refine ms25 (pc := 19) hJ (by omega) (by omega) dX11_says_19 ?_
    refine v_ald0 (pc := 20) hJ dX11_says_20 ?_
    refine v_dup (pc := 21) hJ dX11_says_21 rfl ?_
    refine mg26 (pc := 22) hJ dX11_says_22 ?_
    try simp only [up_s, up_n, up_up, ne_eq, Nat.reduceEqDiff, not_false_eq_true]
    refine v_iconst (pc := 25) hJ dX11_says_25 ?_
    refine v_iadd (pc := 26) hJ dX11_says_26 ?_
    refine mp26 (pc := 27) hJ dX11_says_27 ?_
    refine v_vret (pc := 30) hJ dX11_says_30 ⟨rfl, ?_⟩
    first | (rw [if_pos (by omega)]) | (rw [if_neg (by omega)])
set_option maxHeartbeats 4000000 in
set_option maxRecDepth 100000 in
theorem qX11_add {l : Launch} {D : va_G} {cI : ClassId} {ad : Nat → Nat} {O : OT} {adK adV : Nat → Nat} (hO : OG O adK adV) {I : Nat → Int} {A : Nat → Int → Int} {c : Int} (h33 : 0 ≤ I 33 ∧ I 33 < 16) : MC l D cI ad O yX11_add cX11_add 2 none 1 [.ref (ad 0), .int (iZ c)] (I, A) (pV fun u2 => u2 = (va_up I 33 (I 33 + 1), va_up A 32 (zu (A 32) (I 33) c))) := by
  refine ct_intro (own := RX11) (by decide) rfl hO.1 (Nat.le_of_ble_eq_true rfl) (by simp [Value.category]) (fun X J hJ => ?_)
  show J 0 [some (.ref (ad 0)), some (.int (iZ c))] [] (I, A)
  refine v_ald0 (pc := 0) hJ dX11_add_0 ?_
  refine mg32 (pc := 1) hJ dX11_add_1 ?_
  refine v_ald0 (pc := 4) hJ dX11_add_4 ?_
  refine mg33 (pc := 5) hJ dX11_add_5 ?_
  refine v_ild1 (pc := 8) hJ dX11_add_8 ?_
  refine ms32 (pc := 9) hJ (by omega) (by omega) dX11_add_9 ?_
  refine v_ald0 (pc := 10) hJ dX11_add_10 ?_
  refine v_dup (pc := 11) hJ dX11_add_11 rfl ?_
  refine mg33 (pc := 12) hJ dX11_add_12 ?_
  try simp only [up_s, up_n, up_up, ne_eq, Nat.reduceEqDiff, not_false_eq_true]
  refine v_iconst (pc := 15) hJ dX11_add_15 ?_
  refine v_iadd (pc := 16) hJ dX11_add_16 ?_
  refine mp33 (pc := 17) hJ dX11_add_17 ?_
  refine v_vret (pc := 20) hJ dX11_add_20 ⟨rfl, ?_⟩
  rfl
set_option maxHeartbeats 4000000 in
set_option maxRecDepth 100000 in
theorem qX11_wrong {l : Launch} {D : va_G} {cI : ClassId} {ad : Nat → Nat} {O : OT} {adK adV : Nat → Nat} (hO : OG O adK adV) {I : Nat → Int} {A : Nat → Int → Int} {w p : Int}  : MC l D cI ad O yX11_wrong cX11_wrong 3 (some .boolean) 1 [.ref (ad 0), .int (iZ w), .int (iZ p)] (I, A) (pI fun r u2 => r = 0 ∧ u2 = (va_up (va_up I 3 w) 4 p, A)) := by
  refine ct_intro (own := RX11) (by decide) rfl hO.1 (Nat.le_of_ble_eq_true rfl) (by simp [Value.category]) (fun X J hJ => ?_)
  show J 0 [some (.ref (ad 0)), some (.int (iZ w)), some (.int (iZ p))] [] (I, A)
  refine v_ald0 (pc := 0) hJ dX11_wrong_0 ?_
  refine v_ild1 (pc := 1) hJ dX11_wrong_1 ?_
  refine mp3 (pc := 2) hJ dX11_wrong_2 ?_
  refine v_ald0 (pc := 5) hJ dX11_wrong_5 ?_
  refine v_ild2 (pc := 6) hJ dX11_wrong_6 ?_
  refine mp4 (pc := 7) hJ dX11_wrong_7 ?_
  refine v_iconst (pc := 10) hJ dX11_wrong_10 ?_
  refine v_zret (pc := 11) hJ rfl dX11_wrong_11 ⟨_, rfl, ?_⟩
  exact ⟨rfl, rfl⟩
set_option maxHeartbeats 4000000 in
set_option maxRecDepth 100000 in
theorem qX11_byteAt {l : Launch} {D : va_G} {cI : ClassId} {ad : Nat → Nat} {O : OT} {adK adV : Nat → Nat} (hO : OG O adK adV) {I : Nat → Int} {A : Nat → Int → Int} {k : Int} (hk : 0 ≤ k ∧ k < 2000) (h28 : 0 ≤ I 28 ∧ I 28 ≤ 1200) : MC l D cI ad O yX11_byteAt cX11_byteAt 2 (some .int) 1 [.ref (ad 0), .int (iZ k)] (I, A) (pI fun r u2 => r = (if k < I 28 then A 1 k else 0) ∧ u2 = (I, A)) := by
  refine ct_intro (own := RX11) (by decide) rfl hO.1 (Nat.le_of_ble_eq_true rfl) (by simp [Value.category]) (fun X J hJ => ?_)
  show J 0 [some (.ref (ad 0)), some (.int (iZ k))] [] (I, A)
  refine v_ild1 (pc := 0) hJ dX11_byteAt_0 ?_
  refine v_ald0 (pc := 1) hJ dX11_byteAt_1 ?_
  refine mg28 (pc := 2) hJ dX11_byteAt_2 ?_
  refine v_icmp_ge (tgt := 17) (pc := 5) hJ dX11_byteAt_5 (by decide) (by omega) (by omega) (fun h5 => ?_) (fun h5 => ?_)
  · refine v_iconst (pc := 17) hJ dX11_byteAt_17 ?_
    refine v_iret (pc := 18) hJ dX11_byteAt_18 ⟨_, rfl, ?_⟩
    exact ⟨by split <;> first | rfl | omega, rfl⟩
  · refine v_ald0 (pc := 8) hJ dX11_byteAt_8 ?_
    refine mg1 (pc := 9) hJ dX11_byteAt_9 ?_
    refine v_ild1 (pc := 12) hJ dX11_byteAt_12 ?_
    refine ma1 (pc := 13) hJ (by omega) (by omega) dX11_byteAt_13 ?_
    refine v_goto (tgt := 18) (pc := 14) hJ dX11_byteAt_14 (by decide) ?_
    refine v_iret (pc := 18) hJ dX11_byteAt_18 ⟨_, rfl, ?_⟩
    exact ⟨by split <;> first | rfl | omega, rfl⟩
