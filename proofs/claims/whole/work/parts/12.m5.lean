/-- the byte at k of a text of n bytes, 0 behind it -/
def bA (T : Int → Int) (n k : Int) : Int := if k < n then T k else 0
theorem bA_in {T : Int → Int} {n k : Int} (hT : ∀ j, 0 ≤ j → j < n → 0 ≤ T j ∧ T j ≤ 255) (hk : 0 ≤ k) : 0 ≤ bA T n k ∧ bA T n k ≤ 255 := by
  unfold bA
  split
  · exact hT k hk (by assumption)
  · omega
/-- a text stands there -/
def hereP (f : Int → Int) (p : Int) (t : List Int) (k : Nat) : Prop := ∀ j : Nat, j < k → f (p + j) = t.getD j 0
theorem hereP_0 (f : Int → Int) (p : Int) (t : List Int) : hereP f p t 0 := fun j h => absurd h (Nat.not_lt_zero _)
theorem hereP_s {f : Int → Int} {p : Int} {t : List Int} {k : Nat} (h : hereP f p t k) (h2 : f (p + k) = t.getD k 0) : hereP f p t (k + 1) := fun j hj => by
  by_cases e : j = k
  · subst e; exact h2
  · exact h j (by omega)
theorem hereP_n {f : Int → Int} {p : Int} {t : List Int} {k : Nat} (h2 : f (p + k) ≠ t.getD k 0) {m : Nat} (hm : k < m) : ¬ hereP f p t m := fun h => h2 (h k hm)
/-- the kind of the longest text that stands there, of the first n -/
noncomputable def kbN (f : Int → Int) (p : Int) : Nat → Nat
  | 0 => 0
  | n + 1 => haveI := Classical.propDecidable (hereP f p (txS n) (txS n).length ∧ (txS (kbN f p n)).length < (txS n).length); if hereP f p (txS n) (txS n).length ∧ (txS (kbN f p n)).length < (txS n).length then n else kbN f p n
theorem kbN_pos {f : Int → Int} {p : Int} {n : Nat} (h : hereP f p (txS n) (txS n).length ∧ (txS (kbN f p n)).length < (txS n).length) : kbN f p (n + 1) = n := by
  rw [kbN]
  exact if_pos h
theorem kbN_neg {f : Int → Int} {p : Int} {n : Nat} (h : ¬ (hereP f p (txS n) (txS n).length ∧ (txS (kbN f p n)).length < (txS n).length)) : kbN f p (n + 1) = kbN f p n := by
  rw [kbN]
  exact if_neg h
theorem kbN_lt (f : Int → Int) (p : Int) : ∀ n : Nat, n ≤ 14 → kbN f p n < 14
  | 0, _ => by simp [kbN]
  | n + 1, hn => by
    by_cases h : hereP f p (txS n) (txS n).length ∧ (txS (kbN f p n)).length < (txS n).length
    · rw [kbN_pos h]; omega
    · rw [kbN_neg h]; exact kbN_lt f p n (by omega)
/-- signs behind a letter -/
def ncnt (f : Int → Int) (p : Int) : Int := if f (p + 1) = 35 ∨ f (p + 1) = 98 then (if f (p + 2) = f (p + 1) then 2 else 1) else 0
def nval (f : Int → Int) (p : Int) : Int := plc (f p) + ncnt f p * (if f (p + 1) = 35 then 7 else -7)
theorem plc_in (c : Int) : -1 ≤ plc c ∧ plc c ≤ 5 := by
  unfold plc
  repeat' split
  all_goals omega
theorem ncnt_in (f : Int → Int) (p : Int) : 0 ≤ ncnt f p ∧ ncnt f p ≤ 2 := by
  unfold ncnt
  repeat' split
  all_goals omega
theorem nval_in (f : Int → Int) (p : Int) : -15 ≤ nval f p ∧ nval f p ≤ 19 := by
  have h1 := plc_in (f p)
  have h2 := ncnt_in f p
  unfold nval
  have h3 : ncnt f p = 0 ∨ ncnt f p = 1 ∨ ncnt f p = 2 := by omega
  rcases h3 with e | e | e <;> rw [e] <;> split <;> omega
set_option maxHeartbeats 4000000 in
set_option maxRecDepth 100000 in
theorem qX11_kindOf {l : Launch} {D : va_G} {cI : ClassId} {ad : Nat → Nat} {O : OT} {adK adV : Nat → Nat} (hO : OG O adK adV) {I : Nat → Int} {A : Nat → Int → Int} {k : Nat} (hk : k ≤ 13) : MC l D cI ad O yX11_kindOf cX11_kindOf 1 (some (.object "java/lang/String")) 1 [.int (iZ (k : Int))] (I, A) (pR fun r u2 => r = adK k ∧ u2 = (I, A)) := by
  refine ct_intro (own := RX11) (by decide) rfl hO.1 (Nat.le_of_ble_eq_true rfl) (by simp [Value.category]) (fun X J hJ => ?_)
  show J 0 [some (.int (iZ (k : Int)))] [] (I, A)
  refine v_ild0 (pc := 0) hJ dX11_kindOf_0 ?_
  by_cases hsw1 : (k : Int) < 0 ∨ 12 < (k : Int)
  · have e13 : k = 13 := by omega
    subst e13
    refine v_tableOut (tgt := 107) (pc := 1) hJ dX11_kindOf_1 (by omega) hsw1 (by decide) ?_
    refine v_ldcS (pc := 107) (i := 13) (tx := "add9") hJ hO (List.mem_of_getElem? (i := 28) rfl) dX11_kindOf_107 ?_
    refine v_aret (pc := 109) hJ dX11_kindOf_109 ⟨_, rfl, ?_⟩
    exact ⟨rfl, rfl⟩
  · rcases (show k = 0 ∨ k = 1 ∨ k = 2 ∨ k = 3 ∨ k = 4 ∨ k = 5 ∨ k = 6 ∨ k = 7 ∨ k = 8 ∨ k = 9 ∨ k = 10 ∨ k = 11 ∨ k = 12 by omega) with rfl | rfl | rfl | rfl | rfl | rfl | rfl | rfl | rfl | rfl | rfl | rfl | rfl
    · refine v_tableIn (off := 67) (tgt := 68) (pc := 1) hJ dX11_kindOf_1 (by omega) (by decide) (by decide) rfl (by decide) ?_
      refine v_ldcS (pc := 68) (i := 0) (tx := "") hJ hO (List.mem_of_getElem? (i := 15) rfl) dX11_kindOf_68 ?_
      refine v_aret (pc := 70) hJ dX11_kindOf_70 ⟨_, rfl, ?_⟩
      exact ⟨rfl, rfl⟩
    · refine v_tableIn (off := 70) (tgt := 71) (pc := 1) hJ dX11_kindOf_1 (by omega) (by decide) (by decide) rfl (by decide) ?_
      refine v_ldcS (pc := 71) (i := 1) (tx := "m") hJ hO (List.mem_of_getElem? (i := 16) rfl) dX11_kindOf_71 ?_
      refine v_aret (pc := 73) hJ dX11_kindOf_73 ⟨_, rfl, ?_⟩
      exact ⟨rfl, rfl⟩
    · refine v_tableIn (off := 73) (tgt := 74) (pc := 1) hJ dX11_kindOf_1 (by omega) (by decide) (by decide) rfl (by decide) ?_
      refine v_ldcS (pc := 74) (i := 2) (tx := "7") hJ hO (List.mem_of_getElem? (i := 17) rfl) dX11_kindOf_74 ?_
      refine v_aret (pc := 76) hJ dX11_kindOf_76 ⟨_, rfl, ?_⟩
      exact ⟨rfl, rfl⟩
    · refine v_tableIn (off := 76) (tgt := 77) (pc := 1) hJ dX11_kindOf_1 (by omega) (by decide) (by decide) rfl (by decide) ?_
      refine v_ldcS (pc := 77) (i := 3) (tx := "m7") hJ hO (List.mem_of_getElem? (i := 18) rfl) dX11_kindOf_77 ?_
      refine v_aret (pc := 79) hJ dX11_kindOf_79 ⟨_, rfl, ?_⟩
      exact ⟨rfl, rfl⟩
    · refine v_tableIn (off := 79) (tgt := 80) (pc := 1) hJ dX11_kindOf_1 (by omega) (by decide) (by decide) rfl (by decide) ?_
      refine v_ldcS (pc := 80) (i := 4) (tx := "maj7") hJ hO (List.mem_of_getElem? (i := 19) rfl) dX11_kindOf_80 ?_
      refine v_aret (pc := 82) hJ dX11_kindOf_82 ⟨_, rfl, ?_⟩
      exact ⟨rfl, rfl⟩
    · refine v_tableIn (off := 82) (tgt := 83) (pc := 1) hJ dX11_kindOf_1 (by omega) (by decide) (by decide) rfl (by decide) ?_
      refine v_ldcS (pc := 83) (i := 5) (tx := "dim") hJ hO (List.mem_of_getElem? (i := 20) rfl) dX11_kindOf_83 ?_
      refine v_aret (pc := 85) hJ dX11_kindOf_85 ⟨_, rfl, ?_⟩
      exact ⟨rfl, rfl⟩
    · refine v_tableIn (off := 85) (tgt := 86) (pc := 1) hJ dX11_kindOf_1 (by omega) (by decide) (by decide) rfl (by decide) ?_
      refine v_ldcS (pc := 86) (i := 6) (tx := "aug") hJ hO (List.mem_of_getElem? (i := 21) rfl) dX11_kindOf_86 ?_
      refine v_aret (pc := 88) hJ dX11_kindOf_88 ⟨_, rfl, ?_⟩
      exact ⟨rfl, rfl⟩
    · refine v_tableIn (off := 88) (tgt := 89) (pc := 1) hJ dX11_kindOf_1 (by omega) (by decide) (by decide) rfl (by decide) ?_
      refine v_ldcS (pc := 89) (i := 7) (tx := "sus4") hJ hO (List.mem_of_getElem? (i := 22) rfl) dX11_kindOf_89 ?_
      refine v_aret (pc := 91) hJ dX11_kindOf_91 ⟨_, rfl, ?_⟩
      exact ⟨rfl, rfl⟩
    · refine v_tableIn (off := 91) (tgt := 92) (pc := 1) hJ dX11_kindOf_1 (by omega) (by decide) (by decide) rfl (by decide) ?_
      refine v_ldcS (pc := 92) (i := 8) (tx := "sus2") hJ hO (List.mem_of_getElem? (i := 23) rfl) dX11_kindOf_92 ?_
      refine v_aret (pc := 94) hJ dX11_kindOf_94 ⟨_, rfl, ?_⟩
      exact ⟨rfl, rfl⟩
    · refine v_tableIn (off := 94) (tgt := 95) (pc := 1) hJ dX11_kindOf_1 (by omega) (by decide) (by decide) rfl (by decide) ?_
      refine v_ldcS (pc := 95) (i := 9) (tx := "6") hJ hO (List.mem_of_getElem? (i := 24) rfl) dX11_kindOf_95 ?_
      refine v_aret (pc := 97) hJ dX11_kindOf_97 ⟨_, rfl, ?_⟩
      exact ⟨rfl, rfl⟩
    · refine v_tableIn (off := 97) (tgt := 98) (pc := 1) hJ dX11_kindOf_1 (by omega) (by decide) (by decide) rfl (by decide) ?_
      refine v_ldcS (pc := 98) (i := 10) (tx := "m6") hJ hO (List.mem_of_getElem? (i := 25) rfl) dX11_kindOf_98 ?_
      refine v_aret (pc := 100) hJ dX11_kindOf_100 ⟨_, rfl, ?_⟩
      exact ⟨rfl, rfl⟩
    · refine v_tableIn (off := 100) (tgt := 101) (pc := 1) hJ dX11_kindOf_1 (by omega) (by decide) (by decide) rfl (by decide) ?_
      refine v_ldcS (pc := 101) (i := 11) (tx := "dim7") hJ hO (List.mem_of_getElem? (i := 26) rfl) dX11_kindOf_101 ?_
      refine v_aret (pc := 103) hJ dX11_kindOf_103 ⟨_, rfl, ?_⟩
      exact ⟨rfl, rfl⟩
    · refine v_tableIn (off := 103) (tgt := 104) (pc := 1) hJ dX11_kindOf_1 (by omega) (by decide) (by decide) rfl (by decide) ?_
      refine v_ldcS (pc := 104) (i := 12) (tx := "9") hJ hO (List.mem_of_getElem? (i := 27) rfl) dX11_kindOf_104 ?_
      refine v_aret (pc := 106) hJ dX11_kindOf_106 ⟨_, rfl, ?_⟩
      exact ⟨rfl, rfl⟩
set_option maxHeartbeats 4000000 in
set_option maxRecDepth 100000 in
theorem qX11_isHere {l : Launch} {D : va_G} {cI : ClassId} {ad : Nat → Nat} {O : OT} {adK adV : Nat → Nat} (hO : OG O adK adV) {I : Nat → Int} {A : Nat → Int → Int} {i : Nat} (hi : i < 15) (h28 : 0 ≤ I 28 ∧ I 28 ≤ 1200) (h27 : 0 ≤ I 27 ∧ I 27 ≤ 1300) (hT : ∀ j, 0 ≤ j → j < I 28 → 0 ≤ A 1 j ∧ A 1 j ≤ 255) : MC l D cI ad O yX11_isHere cX11_isHere 4 (some .boolean) 5 [.ref (ad 0), .ref (adK i)] (I, A) (pI fun r u2 => (r = 0 ∨ r = 1) ∧ (r = 1 ↔ hereP (bA (A 1) (I 28)) (I 27) (txS i) (txS i).length) ∧ u2 = (I, A)) := by
  refine ct_intro (own := RX11) (by decide) rfl hO.1 (Nat.le_of_ble_eq_true rfl) (by simp [Value.category]) (fun X J hJ => ?_)
  have hl8 := lenS_ok i hi
  have lp : ∀ (n : Nat) (k : Nat) (b : Int), (k ≤ (txS i).length) → (b = 0 ∨ b = 1) → (b = 1 → hereP (bA (A 1) (I 28)) (I 27) (txS i) k) → (b = 0 → ¬ hereP (bA (A 1) (I 28)) (I 27) (txS i) (txS i).length) → (9 - (k : Int)) < (n : Int) → J 4 [some (.ref (ad 0)), some (.ref (adK i)), some (.int (iZ b)), some (.int (iZ (k : Int)))] [] (I, A) := by
    intro n
    induction n with
    | zero => intro k  b hk hb hP hN hmu; exfalso; omega
    | succ n ih =>
      intro k  b hk hb hP hN hmu
      refine v_ild3 (pc := 4) hJ dX11_isHere_4 ?_
      refine v_ald1 (pc := 5) hJ dX11_isHere_5 ?_
      refine v_cT0i (pc := 6) hJ hO hi lkX11_156 (qJ0_length_8abf5 hO hi) (Nat.le_of_ble_eq_true rfl) (rOk_L (by decide) (by decide)) dX11_isHere_6 (fun r6 u6 g6 => ?_)
      obtain ⟨rfl, rfl⟩ := g6
      refine v_icmp_ge (tgt := 46) (pc := 9) hJ dX11_isHere_9 (by decide) (by omega) (by omega) (fun h9 => ?_) (fun h9 => ?_)
      · refine v_ild2 (pc := 46) hJ dX11_isHere_46 ?_
        refine v_zret (pc := 47) hJ (by rcases hb with e | e <;> subst e <;> rfl) dX11_isHere_47 ⟨_, rfl, ?_⟩
        refine ⟨hb, ⟨fun q => ?_, fun q => ?_⟩, rfl⟩
        · have e : k = (txS i).length := by omega
          rw [← e]; exact hP q
        · rcases hb with e | e
          · exact absurd q (hN e)
          · exact e
      · refine v_ild2 (pc := 12) hJ dX11_isHere_12 ?_
        refine v_if_eq (tgt := 46) (pc := 13) hJ dX11_isHere_13 (by decide) (by omega) (fun h13 => ?_) (fun h13 => ?_)
        · refine v_ild2 (pc := 46) hJ dX11_isHere_46 ?_
          refine v_zret (pc := 47) hJ (by rcases hb with e | e <;> subst e <;> rfl) dX11_isHere_47 ⟨_, rfl, ?_⟩
          refine ⟨hb, ⟨fun q => ?_, fun q => ?_⟩, rfl⟩
          · have e : k = (txS i).length := by omega
            rw [← e]; exact hP q
          · rcases hb with e | e
            · exact absurd q (hN e)
            · exact e
        · refine v_ald0 (pc := 16) hJ dX11_isHere_16 ?_
          refine v_ald0 (pc := 17) hJ dX11_isHere_17 ?_
          refine mg27 (pc := 18) hJ dX11_isHere_18 ?_
          try simp only [up_s, up_n, up_up, ne_eq, Nat.reduceEqDiff, not_false_eq_true]
          refine v_ild3 (pc := 21) hJ dX11_isHere_21 ?_
          refine v_iadd (pc := 22) hJ dX11_isHere_22 ?_
          refine v_cV1i (pc := 23) (q0 := 0) (ci := 8) hJ rfl rfl lkX11_143 (qX11_byteAt hO (by omega) h28) (Nat.le_of_ble_eq_true rfl) (rOk_L (by decide) (by decide)) dX11_isHere_23 (fun r23 u23 g23 => ?_)
          obtain ⟨rfl, rfl⟩ := g23
          try simp only [up_s, up_n, up_up, ne_eq, Nat.reduceEqDiff, not_false_eq_true]
          refine v_ald1 (pc := 26) hJ dX11_isHere_26 ?_
          refine v_ild3 (pc := 27) hJ dX11_isHere_27 ?_
          refine v_cT1i (pc := 28) hJ hO hi lkX11_162 (qJ0_charAt_5068e hO hi (by omega)) (Nat.le_of_ble_eq_true rfl) (rOk_L (by decide) (by decide)) dX11_isHere_28 (fun r28 u28 g28 => ?_)
          obtain ⟨rfl, rfl⟩ := g28
          try simp only [up_s, up_n, up_up, ne_eq, Nat.reduceEqDiff, not_false_eq_true]
          have hb1 := bA_in hT (show 0 ≤ I 27 + (k : Int) by omega)
          have hc1 := txS_in i hi k (by omega)
          refine v_icmp_ne (tgt := 38) (pc := 31) hJ dX11_isHere_31 (by decide) (show inR (bA (A 1) (I 28) (I 27 + (k : Int))) by omega) (by omega) (fun h31 => ?_) (fun h31 => ?_)
          · refine v_iconst (pc := 38) hJ dX11_isHere_38 ?_
            refine v_ist2 (pc := 39) hJ dX11_isHere_39 (by decide) ?_
            refine v_inc3 (pc := 40) hJ dX11_isHere_40 (by decide) ?_
            refine v_goto (tgt := 4) (pc := 43) hJ dX11_isHere_43 (by decide) ?_
            first
              | exact ih (k + 1) 1 (by omega) (Or.inr rfl) (fun _ => hereP_s (hP (by omega)) h31) (fun q => absurd q (by decide)) (by omega)
              | exact ih (k + 1) 0 (by omega) (Or.inl rfl) (fun q => absurd q (by decide)) (fun _ => hereP_n h31 (by omega)) (by omega)
          · refine v_iconst (pc := 34) hJ dX11_isHere_34 ?_
            refine v_goto (tgt := 39) (pc := 35) hJ dX11_isHere_35 (by decide) ?_
            refine v_ist2 (pc := 39) hJ dX11_isHere_39 (by decide) ?_
            refine v_inc3 (pc := 40) hJ dX11_isHere_40 (by decide) ?_
            refine v_goto (tgt := 4) (pc := 43) hJ dX11_isHere_43 (by decide) ?_
            first
              | exact ih (k + 1) 1 (by omega) (Or.inr rfl) (fun _ => hereP_s (hP (by omega)) h31) (fun q => absurd q (by decide)) (by omega)
              | exact ih (k + 1) 0 (by omega) (Or.inl rfl) (fun q => absurd q (by decide)) (fun _ => hereP_n h31 (by omega)) (by omega)
  show J 0 [some (.ref (ad 0)), some (.ref (adK i)), none, none] [] (I, A)
  refine v_iconst (pc := 0) hJ dX11_isHere_0 ?_
  refine v_ist2 (pc := 1) hJ dX11_isHere_1 (by decide) ?_
  refine v_iconst (pc := 2) hJ dX11_isHere_2 ?_
  refine v_ist3 (pc := 3) hJ dX11_isHere_3 (by decide) ?_
  exact lp 10 0 1 (by omega) (Or.inr rfl) (fun _ => hereP_0 _ _ _) (fun q => absurd q (by decide)) (by omega)
theorem up4 {α : Type} (f : Nat → α) {i j : Nat} (a b c d : α) (h : i ≠ j) : va_up (va_up (va_up (va_up f i a) j b) i c) j d = va_up (va_up f i c) j d := by
  funext k
  simp only [va_up]
  by_cases h1 : k = j
  · simp [h1]
  · by_cases h2 : k = i
    · simp [h1, h2, h]
    · simp [h1, h2]
abbrev isN (c : Int) : Prop := 65 ≤ c ∧ c ≤ 71
theorem ncnt_k {f : Int → Int} {p : Int} {k : Nat} (hk : k ≤ 2) (k1 : 1 ≤ k → (f (p + 1) = 35 ∨ f (p + 1) = 98)) (k2 : k = 2 → f (p + 2) = f (p + 1)) (hx : k = 2 ∨ (f (p + 1) ≠ 35 ∧ f (p + 1) ≠ 98) ∨ f (p + 1 + (k : Int)) ≠ f (p + 1)) : ncnt f p = (k : Int) := by
  unfold ncnt
  rcases (show k = 0 ∨ k = 1 ∨ k = 2 by omega) with e | e | e <;> subst e
  · rcases hx with h | h | h
    · omega
    · rw [if_neg (by omega)]; rfl
    · exact absurd (by rw [show p + 1 + ((0 : Nat) : Int) = p + 1 by omega]) h
  · rcases hx with h | h | h
    · omega
    · have := k1 (by omega); omega
    · rw [if_pos (k1 (by omega)), if_neg (by rw [show p + 1 + ((1 : Nat) : Int) = p + 2 by omega] at h; exact h)]; rfl
  · rw [if_pos (k1 (by omega)), if_pos (k2 rfl)]; rfl
set_option maxHeartbeats 4000000 in
set_option maxRecDepth 100000 in
theorem qX11_noted {l : Launch} {D : va_G} {cI : ClassId} {ad : Nat → Nat} {O : OT} {adK adV : Nat → Nat} (hO : OG O adK adV) {I : Nat → Int} {A : Nat → Int → Int}  (h28 : 0 ≤ I 28 ∧ I 28 ≤ 1200) (h27 : 0 ≤ I 27 ∧ I 27 ≤ 1250) (hT : ∀ j, 0 ≤ j → j < I 28 → 0 ≤ A 1 j ∧ A 1 j ≤ 255) : MC l D cI ad O yX11_noted cX11_noted 4 (some .boolean) 2 [.ref (ad 0)] (I, A) (pI fun r u2 => (isN (bA (A 1) (I 28) (I 27)) → r = 1 ∧ u2 = (va_up (va_up I 29 (nval (bA (A 1) (I 28)) (I 27))) 27 (I 27 + 1 + ncnt (bA (A 1) (I 28)) (I 27)), A)) ∧ (¬ isN (bA (A 1) (I 28) (I 27)) → r = 0 ∧ u2 = (va_up (va_up I 3 1) 4 (I 27), A))) := by
  refine ct_intro (own := RX11) (by decide) rfl hO.1 (Nat.le_of_ble_eq_true rfl) (by simp [Value.category]) (fun X J hJ => ?_)
  obtain ⟨f, hf⟩ : ∃ f, f = bA (A 1) (I 28) := ⟨_, rfl⟩
  have hfk : ∀ k, (if k < I 28 then A 1 k else 0) = f k := fun k => by rw [hf]; rfl
  have hfi : ∀ k, 0 ≤ k → 0 ≤ f k ∧ f k ≤ 255 := fun k hk => by rw [hf]; exact bA_in hT hk
  rw [← hf] at hJ
  have hc := hfi (I 27) h27.1
  have hs := hfi (I 27 + 1) (by omega)
  have hs2 := hfi (I 27 + 2) (by omega)
  have hpl := plc_in (f (I 27))
  have hB : ∀ {I1 : Nat → Int} {k : Int}, (0 ≤ k ∧ k < 2000) → I1 28 = I 28 → MC l D cI ad O yX11_byteAt cX11_byteAt 2 (some .int) 1 [.ref (ad 0), .int (iZ k)] (I1, A) (pI fun r u2 => r = f k ∧ u2 = (I1, A)) := fun {I1 k} hk he => by
    have := qX11_byteAt (l := l) (D := D) (cI := cI) (ad := ad) hO (I := I1) (A := A) hk (by rw [he]; exact h28)
    rw [he, hfk] at this
    exact this
  have lp : ∀ (n : Nat) (k : Nat), (k ≤ 2) → (1 ≤ k → (f (I 27 + 1) = 35 ∨ f (I 27 + 1) = 98)) → (k = 2 → f (I 27 + 2) = f (I 27 + 1)) → (isN (f (I 27))) → (3 - (k : Int)) < (n : Int) → J 60 [some (.ref (ad 0)), some (.int (iZ (f (I 27)))), some (.int (iZ (f (I 27 + 1)))), some (.int (iZ (k : Int)))] [] (va_up (va_up I 29 (plc (f (I 27)) + (k : Int) * (if f (I 27 + 1) = 35 then (7 : Int) else -7))) 27 (I 27 + 1 + (k : Int)), A) := by
    intro n
    induction n with
    | zero => intro k hk k1 k2 hin hmu; exfalso; omega
    | succ n ih =>
      intro k hk k1 k2 hin hmu
      refine v_ild3 (pc := 60) hJ dX11_noted_60 ?_
      refine v_iconst (pc := 61) hJ dX11_noted_61 ?_
      refine v_icmp_ge (tgt := 127) (pc := 62) hJ dX11_noted_62 (by decide) (by omega) (by omega) (fun h62 => ?_) (fun h62 => ?_)
      · refine v_iconst (pc := 127) hJ dX11_noted_127 ?_
        refine v_zret (pc := 128) hJ rfl dX11_noted_128 ⟨_, rfl, ?_⟩
        refine ⟨fun _ => ⟨rfl, ?_⟩, fun q => absurd hin q⟩
        have en : ncnt f (I 27) = (k : Int) := ncnt_k hk k1 k2 (by first | exact Or.inl (by omega) | exact Or.inr (Or.inl ⟨by omega, by omega⟩) | exact Or.inr (Or.inr h86))
        unfold nval
        rw [en]
      · refine v_ild2 (pc := 65) hJ dX11_noted_65 ?_
        refine v_bipush (pc := 66) hJ dX11_noted_66 (by decide) ?_
        refine v_icmp_eq (tgt := 77) (pc := 68) hJ dX11_noted_68 (by decide) (by omega) (by omega) (fun h68 => ?_) (fun h68 => ?_)
        · refine v_ald0 (pc := 77) hJ dX11_noted_77 ?_
          refine v_ald0 (pc := 78) hJ dX11_noted_78 ?_
          refine mg27 (pc := 79) hJ dX11_noted_79 ?_
          try simp only [up_s, up_n, up_up, ne_eq, Nat.reduceEqDiff, not_false_eq_true]
          refine v_cV1i (pc := 82) (q0 := 0) (ci := 8) hJ rfl rfl lkX11_143 (hB (by (try simp only [up_s, up_n, up_up, ne_eq, Nat.reduceEqDiff, not_false_eq_true]); omega) (by first | rfl | simp only [up_s, up_n, up_up, ne_eq, Nat.reduceEqDiff, not_false_eq_true])) (Nat.le_of_ble_eq_true rfl) (rOk_L (by decide) (by decide)) dX11_noted_82 (fun r82 u82 g82 => ?_)
          obtain ⟨rfl, rfl⟩ := g82
          try simp only [up_s, up_n, up_up, ne_eq, Nat.reduceEqDiff, not_false_eq_true]
          refine v_ild2 (pc := 85) hJ dX11_noted_85 ?_
          have hf9 := hfi (I 27 + 1 + (k : Int)) (by omega)
          refine v_icmp_ne (tgt := 127) (pc := 86) hJ dX11_noted_86 (by decide) (by omega) (by omega) (fun h86 => ?_) (fun h86 => ?_)
          · refine v_iconst (pc := 127) hJ dX11_noted_127 ?_
            refine v_zret (pc := 128) hJ rfl dX11_noted_128 ⟨_, rfl, ?_⟩
            refine ⟨fun _ => ⟨rfl, ?_⟩, fun q => absurd hin q⟩
            have en : ncnt f (I 27) = (k : Int) := ncnt_k hk k1 k2 (by first | exact Or.inl (by omega) | exact Or.inr (Or.inl ⟨by omega, by omega⟩) | exact Or.inr (Or.inr h86))
            unfold nval
            rw [en]
          · refine v_ald0 (pc := 89) hJ dX11_noted_89 ?_
            refine v_dup (pc := 90) hJ dX11_noted_90 rfl ?_
            refine mg29 (pc := 91) hJ dX11_noted_91 ?_
            try simp only [up_s, up_n, up_up, ne_eq, Nat.reduceEqDiff, not_false_eq_true]
            refine v_ild2 (pc := 94) hJ dX11_noted_94 ?_
            refine v_bipush (pc := 95) hJ dX11_noted_95 (by decide) ?_
            refine v_icmp_ne (tgt := 105) (pc := 97) hJ dX11_noted_97 (by decide) (by omega) (by omega) (fun h97 => ?_) (fun h97 => ?_)
            · refine v_bipush (pc := 105) hJ dX11_noted_105 (by decide) ?_
              refine v_iadd (pc := 107) hJ dX11_noted_107 ?_
              refine mp29 (pc := 108) hJ dX11_noted_108 ?_
              refine v_ald0 (pc := 111) hJ dX11_noted_111 ?_
              refine v_dup (pc := 112) hJ dX11_noted_112 rfl ?_
              refine mg27 (pc := 113) hJ dX11_noted_113 ?_
              try simp only [up_s, up_n, up_up, ne_eq, Nat.reduceEqDiff, not_false_eq_true]
              refine v_iconst (pc := 116) hJ dX11_noted_116 ?_
              refine v_iadd (pc := 117) hJ dX11_noted_117 ?_
              refine mp27 (pc := 118) hJ dX11_noted_118 ?_
              refine v_inc3 (pc := 121) hJ dX11_noted_121 (by decide) ?_
              refine v_goto (tgt := 60) (pc := 124) hJ dX11_noted_124 (by decide) ?_
              rw [up4 _ _ _ _ _ (by decide)]
              have h2' : k + 1 = 2 → f (I 27 + 2) = f (I 27 + 1) := fun q => by rw [← h86, show I 27 + 1 + (k : Int) = I 27 + 2 by omega]
              have hn := ih (k + 1) (by omega) (fun _ => by omega) h2' hin (by omega)
              rw [show plc (f (I 27)) + ((k + 1 : Nat) : Int) * (if f (I 27 + 1) = 35 then (7 : Int) else -7) = plc (f (I 27)) + (k : Int) * (if f (I 27 + 1) = 35 then (7 : Int) else -7) + (if f (I 27 + 1) = 35 then (7 : Int) else -7) by rw [show ((k + 1 : Nat) : Int) = (k : Int) + 1 by omega, Int.add_mul, Int.one_mul, Int.add_assoc], show I 27 + 1 + ((k + 1 : Nat) : Int) = I 27 + 1 + (k : Int) + 1 by omega] at hn
              first
                | (rw [if_pos (show f (I 27 + 1) = 35 by omega)] at hn ⊢; exact hn)
                | (rw [if_neg (show ¬ f (I 27 + 1) = 35 by omega)] at hn ⊢; exact hn)
            · refine v_bipush (pc := 100) hJ dX11_noted_100 (by decide) ?_
              refine v_goto (tgt := 107) (pc := 102) hJ dX11_noted_102 (by decide) ?_
              refine v_iadd (pc := 107) hJ dX11_noted_107 ?_
              refine mp29 (pc := 108) hJ dX11_noted_108 ?_
              refine v_ald0 (pc := 111) hJ dX11_noted_111 ?_
              refine v_dup (pc := 112) hJ dX11_noted_112 rfl ?_
              refine mg27 (pc := 113) hJ dX11_noted_113 ?_
              try simp only [up_s, up_n, up_up, ne_eq, Nat.reduceEqDiff, not_false_eq_true]
              refine v_iconst (pc := 116) hJ dX11_noted_116 ?_
              refine v_iadd (pc := 117) hJ dX11_noted_117 ?_
              refine mp27 (pc := 118) hJ dX11_noted_118 ?_
              refine v_inc3 (pc := 121) hJ dX11_noted_121 (by decide) ?_
              refine v_goto (tgt := 60) (pc := 124) hJ dX11_noted_124 (by decide) ?_
              rw [up4 _ _ _ _ _ (by decide)]
              have h2' : k + 1 = 2 → f (I 27 + 2) = f (I 27 + 1) := fun q => by rw [← h86, show I 27 + 1 + (k : Int) = I 27 + 2 by omega]
              have hn := ih (k + 1) (by omega) (fun _ => by omega) h2' hin (by omega)
              rw [show plc (f (I 27)) + ((k + 1 : Nat) : Int) * (if f (I 27 + 1) = 35 then (7 : Int) else -7) = plc (f (I 27)) + (k : Int) * (if f (I 27 + 1) = 35 then (7 : Int) else -7) + (if f (I 27 + 1) = 35 then (7 : Int) else -7) by rw [show ((k + 1 : Nat) : Int) = (k : Int) + 1 by omega, Int.add_mul, Int.one_mul, Int.add_assoc], show I 27 + 1 + ((k + 1 : Nat) : Int) = I 27 + 1 + (k : Int) + 1 by omega] at hn
              first
                | (rw [if_pos (show f (I 27 + 1) = 35 by omega)] at hn ⊢; exact hn)
                | (rw [if_neg (show ¬ f (I 27 + 1) = 35 by omega)] at hn ⊢; exact hn)
        · refine v_ild2 (pc := 71) hJ dX11_noted_71 ?_
          refine v_bipush (pc := 72) hJ dX11_noted_72 (by decide) ?_
          refine v_icmp_ne (tgt := 127) (pc := 74) hJ dX11_noted_74 (by decide) (by omega) (by omega) (fun h74 => ?_) (fun h74 => ?_)
          · refine v_iconst (pc := 127) hJ dX11_noted_127 ?_
            refine v_zret (pc := 128) hJ rfl dX11_noted_128 ⟨_, rfl, ?_⟩
            refine ⟨fun _ => ⟨rfl, ?_⟩, fun q => absurd hin q⟩
            have en : ncnt f (I 27) = (k : Int) := ncnt_k hk k1 k2 (by first | exact Or.inl (by omega) | exact Or.inr (Or.inl ⟨by omega, by omega⟩) | exact Or.inr (Or.inr h86))
            unfold nval
            rw [en]
          · refine v_ald0 (pc := 77) hJ dX11_noted_77 ?_
            refine v_ald0 (pc := 78) hJ dX11_noted_78 ?_
            refine mg27 (pc := 79) hJ dX11_noted_79 ?_
            try simp only [up_s, up_n, up_up, ne_eq, Nat.reduceEqDiff, not_false_eq_true]
            refine v_cV1i (pc := 82) (q0 := 0) (ci := 8) hJ rfl rfl lkX11_143 (hB (by (try simp only [up_s, up_n, up_up, ne_eq, Nat.reduceEqDiff, not_false_eq_true]); omega) (by first | rfl | simp only [up_s, up_n, up_up, ne_eq, Nat.reduceEqDiff, not_false_eq_true])) (Nat.le_of_ble_eq_true rfl) (rOk_L (by decide) (by decide)) dX11_noted_82 (fun r82 u82 g82 => ?_)
            obtain ⟨rfl, rfl⟩ := g82
            try simp only [up_s, up_n, up_up, ne_eq, Nat.reduceEqDiff, not_false_eq_true]
            refine v_ild2 (pc := 85) hJ dX11_noted_85 ?_
            have hf9 := hfi (I 27 + 1 + (k : Int)) (by omega)
            refine v_icmp_ne (tgt := 127) (pc := 86) hJ dX11_noted_86 (by decide) (by omega) (by omega) (fun h86 => ?_) (fun h86 => ?_)
            · refine v_iconst (pc := 127) hJ dX11_noted_127 ?_
              refine v_zret (pc := 128) hJ rfl dX11_noted_128 ⟨_, rfl, ?_⟩
              refine ⟨fun _ => ⟨rfl, ?_⟩, fun q => absurd hin q⟩
              have en : ncnt f (I 27) = (k : Int) := ncnt_k hk k1 k2 (by first | exact Or.inl (by omega) | exact Or.inr (Or.inl ⟨by omega, by omega⟩) | exact Or.inr (Or.inr h86))
              unfold nval
              rw [en]
            · refine v_ald0 (pc := 89) hJ dX11_noted_89 ?_
              refine v_dup (pc := 90) hJ dX11_noted_90 rfl ?_
              refine mg29 (pc := 91) hJ dX11_noted_91 ?_
              try simp only [up_s, up_n, up_up, ne_eq, Nat.reduceEqDiff, not_false_eq_true]
              refine v_ild2 (pc := 94) hJ dX11_noted_94 ?_
              refine v_bipush (pc := 95) hJ dX11_noted_95 (by decide) ?_
              refine v_icmp_ne (tgt := 105) (pc := 97) hJ dX11_noted_97 (by decide) (by omega) (by omega) (fun h97 => ?_) (fun h97 => ?_)
              · refine v_bipush (pc := 105) hJ dX11_noted_105 (by decide) ?_
                refine v_iadd (pc := 107) hJ dX11_noted_107 ?_
                refine mp29 (pc := 108) hJ dX11_noted_108 ?_
                refine v_ald0 (pc := 111) hJ dX11_noted_111 ?_
                refine v_dup (pc := 112) hJ dX11_noted_112 rfl ?_
                refine mg27 (pc := 113) hJ dX11_noted_113 ?_
                try simp only [up_s, up_n, up_up, ne_eq, Nat.reduceEqDiff, not_false_eq_true]
                refine v_iconst (pc := 116) hJ dX11_noted_116 ?_
                refine v_iadd (pc := 117) hJ dX11_noted_117 ?_
                refine mp27 (pc := 118) hJ dX11_noted_118 ?_
                refine v_inc3 (pc := 121) hJ dX11_noted_121 (by decide) ?_
                refine v_goto (tgt := 60) (pc := 124) hJ dX11_noted_124 (by decide) ?_
                rw [up4 _ _ _ _ _ (by decide)]
                have h2' : k + 1 = 2 → f (I 27 + 2) = f (I 27 + 1) := fun q => by rw [← h86, show I 27 + 1 + (k : Int) = I 27 + 2 by omega]
                have hn := ih (k + 1) (by omega) (fun _ => by omega) h2' hin (by omega)
                rw [show plc (f (I 27)) + ((k + 1 : Nat) : Int) * (if f (I 27 + 1) = 35 then (7 : Int) else -7) = plc (f (I 27)) + (k : Int) * (if f (I 27 + 1) = 35 then (7 : Int) else -7) + (if f (I 27 + 1) = 35 then (7 : Int) else -7) by rw [show ((k + 1 : Nat) : Int) = (k : Int) + 1 by omega, Int.add_mul, Int.one_mul, Int.add_assoc], show I 27 + 1 + ((k + 1 : Nat) : Int) = I 27 + 1 + (k : Int) + 1 by omega] at hn
                first
                  | (rw [if_pos (show f (I 27 + 1) = 35 by omega)] at hn ⊢; exact hn)
                  | (rw [if_neg (show ¬ f (I 27 + 1) = 35 by omega)] at hn ⊢; exact hn)
              · refine v_bipush (pc := 100) hJ dX11_noted_100 (by decide) ?_
                refine v_goto (tgt := 107) (pc := 102) hJ dX11_noted_102 (by decide) ?_
                refine v_iadd (pc := 107) hJ dX11_noted_107 ?_
                refine mp29 (pc := 108) hJ dX11_noted_108 ?_
                refine v_ald0 (pc := 111) hJ dX11_noted_111 ?_
                refine v_dup (pc := 112) hJ dX11_noted_112 rfl ?_
                refine mg27 (pc := 113) hJ dX11_noted_113 ?_
                try simp only [up_s, up_n, up_up, ne_eq, Nat.reduceEqDiff, not_false_eq_true]
                refine v_iconst (pc := 116) hJ dX11_noted_116 ?_
                refine v_iadd (pc := 117) hJ dX11_noted_117 ?_
                refine mp27 (pc := 118) hJ dX11_noted_118 ?_
                refine v_inc3 (pc := 121) hJ dX11_noted_121 (by decide) ?_
                refine v_goto (tgt := 60) (pc := 124) hJ dX11_noted_124 (by decide) ?_
                rw [up4 _ _ _ _ _ (by decide)]
                have h2' : k + 1 = 2 → f (I 27 + 2) = f (I 27 + 1) := fun q => by rw [← h86, show I 27 + 1 + (k : Int) = I 27 + 2 by omega]
                have hn := ih (k + 1) (by omega) (fun _ => by omega) h2' hin (by omega)
                rw [show plc (f (I 27)) + ((k + 1 : Nat) : Int) * (if f (I 27 + 1) = 35 then (7 : Int) else -7) = plc (f (I 27)) + (k : Int) * (if f (I 27 + 1) = 35 then (7 : Int) else -7) + (if f (I 27 + 1) = 35 then (7 : Int) else -7) by rw [show ((k + 1 : Nat) : Int) = (k : Int) + 1 by omega, Int.add_mul, Int.one_mul, Int.add_assoc], show I 27 + 1 + ((k + 1 : Nat) : Int) = I 27 + 1 + (k : Int) + 1 by omega] at hn
                first
                  | (rw [if_pos (show f (I 27 + 1) = 35 by omega)] at hn ⊢; exact hn)
                  | (rw [if_neg (show ¬ f (I 27 + 1) = 35 by omega)] at hn ⊢; exact hn)
  show J 0 [some (.ref (ad 0)), none, none, none] [] (I, A)
  refine v_ald0 (pc := 0) hJ dX11_noted_0 ?_
  refine v_ald0 (pc := 1) hJ dX11_noted_1 ?_
  refine mg27 (pc := 2) hJ dX11_noted_2 ?_
  refine v_cV1i (pc := 5) (q0 := 0) (ci := 8) hJ rfl rfl lkX11_143 (hB (by (try simp only [up_s, up_n, up_up, ne_eq, Nat.reduceEqDiff, not_false_eq_true]); omega) (by first | rfl | simp only [up_s, up_n, up_up, ne_eq, Nat.reduceEqDiff, not_false_eq_true])) (Nat.le_of_ble_eq_true rfl) (rOk_L (by decide) (by decide)) dX11_noted_5 (fun r5 u5 g5 => ?_)
  obtain ⟨rfl, rfl⟩ := g5
  refine v_ist1 (pc := 8) hJ dX11_noted_8 (by decide) ?_
  refine v_ild1 (pc := 9) hJ dX11_noted_9 ?_
  refine v_bipush (pc := 10) hJ dX11_noted_10 (by decide) ?_
  refine v_icmp_lt (tgt := 21) (pc := 12) hJ dX11_noted_12 (by decide) (by omega) (by omega) (fun h12 => ?_) (fun h12 => ?_)
  · refine v_ald0 (pc := 21) hJ dX11_noted_21 ?_
    refine v_iconst (pc := 22) hJ dX11_noted_22 ?_
    refine v_ald0 (pc := 23) hJ dX11_noted_23 ?_
    refine mg27 (pc := 24) hJ dX11_noted_24 ?_
    try simp only [up_s, up_n, up_up, ne_eq, Nat.reduceEqDiff, not_false_eq_true]
    refine v_cV2i (pc := 27) (q0 := 0) (ci := 8) hJ rfl rfl lkX11_146 (qX11_wrong hO) (Nat.le_of_ble_eq_true rfl) (rOk_L (by decide) (by decide)) dX11_noted_27 (fun r27 u27 g27 => ?_)
    obtain ⟨rfl, rfl⟩ := g27
    try simp only [up_s, up_n, up_up, ne_eq, Nat.reduceEqDiff, not_false_eq_true]
    refine v_zret (pc := 30) hJ rfl dX11_noted_30 ⟨_, rfl, ?_⟩
    exact ⟨fun q => absurd q (by unfold isN; omega), fun q => ⟨rfl, rfl⟩⟩
  · refine v_ild1 (pc := 15) hJ dX11_noted_15 ?_
    refine v_bipush (pc := 16) hJ dX11_noted_16 (by decide) ?_
    refine v_icmp_le (tgt := 31) (pc := 18) hJ dX11_noted_18 (by decide) (by omega) (by omega) (fun h18 => ?_) (fun h18 => ?_)
    · refine v_ald0 (pc := 31) hJ dX11_noted_31 ?_
      refine v_ild1 (pc := 32) hJ dX11_noted_32 ?_
      refine v_cS1i (pc := 33) hJ lkX11_150 (qX11_placeOf hO (by omega)) (Nat.le_of_ble_eq_true rfl) (rOk_L (by decide) (by decide)) dX11_noted_33 (fun r33 u33 g33 => ?_)
      obtain ⟨rfl, rfl⟩ := g33
      try simp only [up_s, up_n, up_up, ne_eq, Nat.reduceEqDiff, not_false_eq_true]
      refine mp29 (pc := 36) hJ dX11_noted_36 ?_
      refine v_ald0 (pc := 39) hJ dX11_noted_39 ?_
      refine v_dup (pc := 40) hJ dX11_noted_40 rfl ?_
      refine mg27 (pc := 41) hJ dX11_noted_41 ?_
      try simp only [up_s, up_n, up_up, ne_eq, Nat.reduceEqDiff, not_false_eq_true]
      refine v_iconst (pc := 44) hJ dX11_noted_44 ?_
      refine v_iadd (pc := 45) hJ dX11_noted_45 ?_
      refine mp27 (pc := 46) hJ dX11_noted_46 ?_
      refine v_ald0 (pc := 49) hJ dX11_noted_49 ?_
      refine v_ald0 (pc := 50) hJ dX11_noted_50 ?_
      refine mg27 (pc := 51) hJ dX11_noted_51 ?_
      try simp only [up_s, up_n, up_up, ne_eq, Nat.reduceEqDiff, not_false_eq_true]
      refine v_cV1i (pc := 54) (q0 := 0) (ci := 8) hJ rfl rfl lkX11_143 (hB (by (try simp only [up_s, up_n, up_up, ne_eq, Nat.reduceEqDiff, not_false_eq_true]); omega) (by first | rfl | simp only [up_s, up_n, up_up, ne_eq, Nat.reduceEqDiff, not_false_eq_true])) (Nat.le_of_ble_eq_true rfl) (rOk_L (by decide) (by decide)) dX11_noted_54 (fun r54 u54 g54 => ?_)
      obtain ⟨rfl, rfl⟩ := g54
      try simp only [up_s, up_n, up_up, ne_eq, Nat.reduceEqDiff, not_false_eq_true]
      refine v_ist2 (pc := 57) hJ dX11_noted_57 (by decide) ?_
      refine v_iconst (pc := 58) hJ dX11_noted_58 ?_
      refine v_ist3 (pc := 59) hJ dX11_noted_59 (by decide) ?_
      have hn := lp 4 0 (by omega) (fun q => by omega) (fun q => by omega) ⟨by omega, by omega⟩ (by omega)
      rw [show plc (f (I 27)) + ((0 : Nat) : Int) * (if f (I 27 + 1) = 35 then (7 : Int) else -7) = plc (f (I 27)) by simp, show I 27 + 1 + ((0 : Nat) : Int) = I 27 + 1 by omega] at hn
      exact hn
    · refine v_ald0 (pc := 21) hJ dX11_noted_21 ?_
      refine v_iconst (pc := 22) hJ dX11_noted_22 ?_
      refine v_ald0 (pc := 23) hJ dX11_noted_23 ?_
      refine mg27 (pc := 24) hJ dX11_noted_24 ?_
      try simp only [up_s, up_n, up_up, ne_eq, Nat.reduceEqDiff, not_false_eq_true]
      refine v_cV2i (pc := 27) (q0 := 0) (ci := 8) hJ rfl rfl lkX11_146 (qX11_wrong hO) (Nat.le_of_ble_eq_true rfl) (rOk_L (by decide) (by decide)) dX11_noted_27 (fun r27 u27 g27 => ?_)
      obtain ⟨rfl, rfl⟩ := g27
      try simp only [up_s, up_n, up_up, ne_eq, Nat.reduceEqDiff, not_false_eq_true]
      refine v_zret (pc := 30) hJ rfl dX11_noted_30 ⟨_, rfl, ?_⟩
      exact ⟨fun q => absurd q (by unfold isN; omega), fun q => ⟨rfl, rfl⟩⟩
