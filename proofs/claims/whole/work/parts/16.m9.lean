/-- a row's first n places are a list -/
def hasL (f : Int → Int) (n : Int) (xs : List Int) : Prop := n = xs.length ∧ ∀ j : Nat, j < xs.length → f j = xs.getD j 0
theorem hasL_add {f : Int → Int} {n c : Int} {xs : List Int} (h : hasL f n xs) : hasL (zu f n c) (n + 1) (xs ++ [c]) := by
  obtain ⟨h1, h2⟩ := h
  refine ⟨by rw [List.length_append, List.length_singleton]; omega, fun j hj => ?_⟩
  rw [List.length_append, List.length_singleton] at hj
  by_cases e : j = xs.length
  · subst e
    rw [← h1, zu_same]
    simp
  · rw [zu_ne (by omega), h2 j (by omega)]
    simp [List.getD, List.getElem?_append_left (show j < xs.length by omega)]
theorem hasL_nil (f : Int → Int) : hasL f 0 [] := ⟨rfl, fun j h => absurd h (Nat.not_lt_zero _)⟩
/-- the same, of which the first 4000 are kept -/
def hasO (f : Int → Int) (n : Int) (xs : List Int) : Prop := n = xs.length ∧ ∀ j : Nat, j < xs.length → j < 4000 → f j = xs.getD j 0
theorem hasO_nil (f : Int → Int) : hasO f 0 [] := ⟨rfl, fun j h => absurd h (Nat.not_lt_zero _)⟩
theorem hasO_add {f : Int → Int} {n c : Int} {xs : List Int} (h : hasO f n xs) : hasO (if n < 4000 then zu f n c else f) (n + 1) (xs ++ [c]) := by
  obtain ⟨h1, h2⟩ := h
  refine ⟨by rw [List.length_append, List.length_singleton]; omega, fun j hj h4 => ?_⟩
  rw [List.length_append, List.length_singleton] at hj
  by_cases e : j = xs.length
  · subst e
    rw [if_pos (by omega), ← h1, zu_same]
    simp
  · have e2 : (xs ++ [c]).getD j 0 = xs.getD j 0 := by simp [List.getD, List.getElem?_append_left (show j < xs.length by omega)]
    rw [e2, ← h2 j (by omega) h4]
    split
    · exact zu_ne (by omega)
    · rfl
theorem take_add {xs : List Int} {k : Nat} (hk : k < xs.length) : xs.take (k + 1) = xs.take k ++ [xs.getD k 0] := by
  rw [List.take_add_one, List.getD, List.getElem?_eq_getElem hk]
  rfl
/-- the letters' signs -/
def ltr (k : Nat) : Int := (txS 14).getD k 0
def noteL (p : Int) : List Int := (ltr ((p + 1) % 7).toNat :: List.replicate ((p + 1) / 7).toNat 35) ++ List.replicate (-((p + 1) / 7)).toNat 98
def nameL (r k b : Int) : List Int := noteL r ++ txS k.toNat ++ (if b = r then [] else 47 :: noteL b)
theorem noteL_len {p : Int} (hp : -15 ≤ p ∧ p ≤ 19) : 1 ≤ (noteL p).length ∧ (noteL p).length ≤ 3 := by
  unfold noteL
  simp only [List.length_append, List.length_cons, List.length_replicate]
  omega
theorem txS_4 : ∀ i, i < 14 → (txS i).length ≤ 4 := by decide +kernel
theorem nameL_len {r k b : Int} (hr : -15 ≤ r ∧ r ≤ 19) (hk : 0 ≤ k ∧ k ≤ 13) (hb : -15 ≤ b ∧ b ≤ 19) : 1 ≤ (nameL r k b).length ∧ (nameL r k b).length ≤ 11 := by
  have h1 := noteL_len hr
  have h2 := noteL_len hb
  have h3 := txS_4 k.toNat (by omega)
  unfold nameL
  split <;> simp only [List.length_append, List.length_cons, List.length_nil] <;> omega
theorem ltr_in : ∀ k, k < 7 → 65 ≤ ltr k ∧ ltr k ≤ 71 := by decide +kernel
set_option maxHeartbeats 4000000 in
set_option maxRecDepth 100000 in
theorem qX11_addNote {l : Launch} {D : va_G} {cI : ClassId} {ad : Nat → Nat} {O : OT} {adK adV : Nat → Nat} (hO : OG O adK adV) {I : Nat → Int} {A : Nat → Int → Int} {p : Int} {xs : List Int} (hp : -15 ≤ p ∧ p ≤ 19) (hx : hasL (A 32) (I 33) xs) (hx2 : xs.length ≤ 12) : MC l D cI ad O yX11_addNote cX11_addNote 4 none 5 [.ref (ad 0), .int (iZ p)] (I, A) (pV fun u2 => ∃ n F, hasL F n (xs ++ noteL p) ∧ u2 = (va_up I 33 n, va_up A 32 F)) := by
  refine ct_intro (own := RX11) (by decide) rfl hO.1 (Nat.le_of_ble_eq_true rfl) (by simp [Value.category]) (fun X J hJ => ?_)
  obtain ⟨b, hb⟩ : ∃ b, b = (p + 1) / 7 := ⟨_, rfl⟩
  obtain ⟨d, hd⟩ : ∃ d : Nat, d = ((p + 1) % 7).toNat := ⟨_, rfl⟩
  have hd7 : d < 7 := by omega
  have hb2 : -2 ≤ b ∧ b ≤ 2 := by omega
  have hnl : noteL p = (ltr d :: List.replicate b.toNat 35) ++ List.replicate (-b).toNat 98 := by unfold noteL; rw [← hb, ← hd]
  have hl14 : (txS 14).length = 7 := rfl
  have lb : ∀ (fu : Nat) (k : Nat) (n : Int) (F : Int → Int), ((k : Int) ≤ -b ∨ k = 0) → (hasL F n (xs ++ (ltr d :: List.replicate b.toNat 35) ++ List.replicate k 98)) → (3 - (k : Int)) < (fu : Int) → J 48 [some (.ref (ad 0)), some (.int (iZ p)), some (.int (iZ b)), some (.int (iZ (b + (k : Int))))] [] (va_up I 33 n, va_up A 32 F) := by
    intro fu
    induction fu with
    | zero => intro k  n  F hk hF hmu; exfalso; omega
    | succ fu ih =>
      intro k  n  F hk hF hmu
      refine v_ild3 (pc := 48) hJ dX11_addNote_48 ?_
      refine v_if_ge (tgt := 64) (pc := 49) hJ dX11_addNote_49 (by decide) (by omega) (fun h49 => ?_) (fun h49 => ?_)
      · refine v_vret (pc := 64) hJ dX11_addNote_64 ⟨rfl, ?_⟩
        refine ⟨n, F, ?_, rfl⟩
        rw [hnl, show (-b).toNat = k by omega, ← List.append_assoc]
        exact hF
      · have hln := hF.1
        simp only [List.length_append, List.length_cons, List.length_replicate] at hln
        refine v_ald0 (pc := 52) hJ dX11_addNote_52 ?_
        refine v_bipush (pc := 53) hJ dX11_addNote_53 (by decide) ?_
        refine v_cV1v (pc := 55) (q0 := 0) (ci := 8) hJ rfl rfl lkX11_231 (qX11_add hO (by simp only [up_s, up_n, up_up, ne_eq, Nat.reduceEqDiff, not_false_eq_true]; omega)) (Nat.le_of_ble_eq_true rfl) (rOk_L (by decide) (by decide)) dX11_addNote_55 (fun u55 g55 => ?_)
        subst g55
        simp only [up_s, up_n, up_up, ne_eq, Nat.reduceEqDiff, not_false_eq_true]
        try simp only [up_s, up_n, up_up, ne_eq, Nat.reduceEqDiff, not_false_eq_true]
        refine v_inc3 (pc := 58) hJ dX11_addNote_58 (by decide) ?_
        refine v_goto (tgt := 48) (pc := 61) hJ dX11_addNote_61 (by decide) ?_
        have hn := ih (k + 1) _ _ (by omega) (by rw [List.replicate_succ', ← List.append_assoc]; exact hasL_add hF) (by omega)
        rw [show b + ((k + 1 : Nat) : Int) = b + (k : Int) + 1 by omega] at hn
        exact hn
  have la : ∀ (fu : Nat) (k : Nat) (n : Int) (F : Int → Int), ((k : Int) ≤ b ∨ k = 0) → (hasL F n (xs ++ (ltr d :: List.replicate k 35))) → (3 - (k : Int)) < (fu : Int) → J 29 [some (.ref (ad 0)), some (.int (iZ p)), some (.int (iZ b)), some (.int (iZ (k : Int)))] [] (va_up I 33 n, va_up A 32 F) := by
    intro fu
    induction fu with
    | zero => intro k  n  F hk hF hmu; exfalso; omega
    | succ fu ih =>
      intro k  n  F hk hF hmu
      refine v_ild3 (pc := 29) hJ dX11_addNote_29 ?_
      refine v_ild2 (pc := 30) hJ dX11_addNote_30 ?_
      refine v_icmp_ge (tgt := 46) (pc := 31) hJ dX11_addNote_31 (by decide) (by omega) (by omega) (fun h31 => ?_) (fun h31 => ?_)
      · refine v_ild2 (pc := 46) hJ dX11_addNote_46 ?_
        refine v_ist3 (pc := 47) hJ dX11_addNote_47 (by decide) ?_
        have hn := lb 4 0 n F (Or.inr rfl) (by rw [show b.toNat = k by omega]; simpa using hF) (by omega)
        rw [show b + ((0 : Nat) : Int) = b by omega] at hn
        exact hn
      · have hln := hF.1
        simp only [List.length_append, List.length_cons, List.length_replicate] at hln
        refine v_ald0 (pc := 34) hJ dX11_addNote_34 ?_
        refine v_bipush (pc := 35) hJ dX11_addNote_35 (by decide) ?_
        refine v_cV1v (pc := 37) (q0 := 0) (ci := 8) hJ rfl rfl lkX11_231 (qX11_add hO (by simp only [up_s, up_n, up_up, ne_eq, Nat.reduceEqDiff, not_false_eq_true]; omega)) (Nat.le_of_ble_eq_true rfl) (rOk_L (by decide) (by decide)) dX11_addNote_37 (fun u37 g37 => ?_)
        subst g37
        simp only [up_s, up_n, up_up, ne_eq, Nat.reduceEqDiff, not_false_eq_true]
        try simp only [up_s, up_n, up_up, ne_eq, Nat.reduceEqDiff, not_false_eq_true]
        refine v_inc3 (pc := 40) hJ dX11_addNote_40 (by decide) ?_
        refine v_goto (tgt := 29) (pc := 43) hJ dX11_addNote_43 (by decide) ?_
        exact ih (k + 1) _ _ (by omega) (by rw [List.replicate_succ', ← List.cons_append, ← List.append_assoc]; exact hasL_add hF) (by omega)
  show J 0 [some (.ref (ad 0)), some (.int (iZ p)), none, none] [] (I, A)
  refine v_ild1 (pc := 0) hJ dX11_addNote_0 ?_
  refine v_bipush (pc := 1) hJ dX11_addNote_1 (by decide) ?_
  refine v_iadd (pc := 3) hJ dX11_addNote_3 ?_
  refine v_bipush (pc := 4) hJ dX11_addNote_4 (by decide) ?_
  refine v_idiv (pc := 6) hJ dX11_addNote_6 (by omega) (by omega) (by omega) ?_
  refine v_iconst (pc := 7) hJ dX11_addNote_7 ?_
  refine v_isub (pc := 8) hJ dX11_addNote_8 ?_
  rw [show (p + 15).tdiv 7 - 2 = b by rw [Int.tdiv_eq_ediv_of_nonneg (by omega)]; omega]
  refine v_ist2 (pc := 9) hJ dX11_addNote_9 (by decide) ?_
  refine v_ald0 (pc := 10) hJ dX11_addNote_10 ?_
  refine v_ldcS (pc := 11) (i := 14) (tx := "FCGDAEB") hJ hO (List.mem_of_getElem? (i := 29) rfl) dX11_addNote_11 ?_
  refine v_ild1 (pc := 13) hJ dX11_addNote_13 ?_
  refine v_iconst (pc := 14) hJ dX11_addNote_14 ?_
  refine v_iadd (pc := 15) hJ dX11_addNote_15 ?_
  refine v_bipush (pc := 16) hJ dX11_addNote_16 (by decide) ?_
  refine v_ild2 (pc := 18) hJ dX11_addNote_18 ?_
  refine v_imul (pc := 19) hJ dX11_addNote_19 ?_
  refine v_isub (pc := 20) hJ dX11_addNote_20 ?_
  rw [show p + 1 - 7 * b = (d : Int) by omega]
  refine v_cT1i (pc := 21) hJ hO (by decide) lkX11_162 (qJ0_charAt_5068e hO (by decide) (by rw [hl14]; exact hd7)) (Nat.le_of_ble_eq_true rfl) (rOk_L (by decide) (by decide)) dX11_addNote_21 (fun r21 u21 g21 => ?_)
  obtain ⟨rfl, rfl⟩ := g21
  refine v_cV1v (pc := 24) (q0 := 0) (ci := 8) hJ rfl rfl lkX11_231 (qX11_add hO (by have := hx.1; omega)) (Nat.le_of_ble_eq_true rfl) (rOk_L (by decide) (by decide)) dX11_addNote_24 (fun u24 g24 => ?_)
  subst g24
  try simp only [up_s, up_n, up_up, ne_eq, Nat.reduceEqDiff, not_false_eq_true]
  refine v_iconst (pc := 27) hJ dX11_addNote_27 ?_
  refine v_ist3 (pc := 28) hJ dX11_addNote_28 (by decide) ?_
  exact la 4 0 _ _ (Or.inr rfl) (hasL_add hx) (by omega)
set_option maxHeartbeats 4000000 in
set_option maxRecDepth 100000 in
theorem qX11_names {l : Launch} {D : va_G} {cI : ClassId} {ad : Nat → Nat} {O : OT} {adK adV : Nat → Nat} (hO : OG O adK adV) {I : Nat → Int} {A : Nat → Int → Int} {i : Int} (hC : okC I A) (hi : 0 ≤ i ∧ i < I 6) : MC l D cI ad O yX11_names cX11_names 4 none 6 [.ref (ad 0), .int (iZ i)] (I, A) (pV fun u2 => ∃ n F, hasL F n (nameL (A 11 i) (A 12 i) (A 13 i)) ∧ u2 = (va_up I 33 n, va_up A 32 F)) := by
  refine ct_intro (own := RX11) (by decide) rfl hO.1 (Nat.le_of_ble_eq_true rfl) (by simp [Value.category]) (fun X J hJ => ?_)
  obtain ⟨⟨c1, c2⟩, c3⟩ := id hC
  obtain ⟨k1, k2, k3⟩ := c3 i hi.1 hi.2
  obtain ⟨kk, hkk⟩ : ∃ kk : Nat, (kk : Int) = A 12 i := ⟨(A 12 i).toNat, by omega⟩
  have hkk2 : (A 12 i).toNat = kk := by omega
  have hl4 := txS_4 kk (by omega)
  have hnl := noteL_len k1
  have lp : ∀ (fu : Nat) (k : Nat) (n : Int) (F : Int → Int), (k ≤ (txS kk).length) → (hasL F n (noteL (A 11 i) ++ (txS kk).take k)) → (5 - (k : Int)) < (fu : Int) → J 27 [some (.ref (ad 0)), some (.int (iZ i)), some (.ref (adK kk)), some (.int (iZ (k : Int)))] [] (va_up I 33 n, va_up A 32 F) := by
    intro fu
    induction fu with
    | zero => intro k  n  F hk hF hmu; exfalso; omega
    | succ fu ih =>
      intro k  n  F hk hF hmu
      refine v_ild3 (pc := 27) hJ dX11_names_27 ?_
      refine v_ald2 (pc := 28) hJ dX11_names_28 ?_
      refine v_cT0i (pc := 29) hJ hO (by omega) lkX11_156 (qJ0_length_8abf5 hO (by omega)) (Nat.le_of_ble_eq_true rfl) (rOk_L (by decide) (by decide)) dX11_names_29 (fun r29 u29 g29 => ?_)
      obtain ⟨rfl, rfl⟩ := g29
      try simp only [up_s, up_n, up_up, ne_eq, Nat.reduceEqDiff, not_false_eq_true]
      refine v_icmp_ge (tgt := 50) (pc := 32) hJ dX11_names_32 (by decide) (by omega) (by omega) (fun h32 => ?_) (fun h32 => ?_)
      · refine v_ald0 (pc := 50) hJ dX11_names_50 ?_
        refine mg13 (pc := 51) hJ dX11_names_51 ?_
        refine v_ild1 (pc := 54) hJ dX11_names_54 ?_
        
        refine ma13 (pc := 55) hJ (by omega) (by omega) dX11_names_55 ?_
        try simp only [up_s, up_n, up_up, ne_eq, Nat.reduceEqDiff, not_false_eq_true]
        refine v_ald0 (pc := 56) hJ dX11_names_56 ?_
        refine mg11 (pc := 57) hJ dX11_names_57 ?_
        refine v_ild1 (pc := 60) hJ dX11_names_60 ?_
        refine ma11 (pc := 61) hJ (by omega) (by omega) dX11_names_61 ?_
        try simp only [up_s, up_n, up_up, ne_eq, Nat.reduceEqDiff, not_false_eq_true]
        refine v_icmp_ne (tgt := 66) (pc := 62) hJ dX11_names_62 (by decide) (by omega) (by omega) (fun h62 => ?_) (fun h62 => ?_)
        · refine v_ald0 (pc := 66) hJ dX11_names_66 ?_
          refine v_bipush (pc := 67) hJ dX11_names_67 (by decide) ?_
          refine v_cV1v (pc := 69) (q0 := 0) (ci := 8) hJ rfl rfl lkX11_231 (qX11_add hO (by have := hF.1; simp only [List.length_append, List.length_take] at this; simp only [up_s, up_n, up_up, ne_eq, Nat.reduceEqDiff, not_false_eq_true]; omega)) (Nat.le_of_ble_eq_true rfl) (rOk_L (by decide) (by decide)) dX11_names_69 (fun u69 g69 => ?_)
          subst g69
          simp only [up_s, up_n, up_up, ne_eq, Nat.reduceEqDiff, not_false_eq_true]
          try simp only [up_s, up_n, up_up, ne_eq, Nat.reduceEqDiff, not_false_eq_true]
          refine v_ald0 (pc := 72) hJ dX11_names_72 ?_
          refine v_ald0 (pc := 73) hJ dX11_names_73 ?_
          refine mg13 (pc := 74) hJ dX11_names_74 ?_
          refine v_ild1 (pc := 77) hJ dX11_names_77 ?_
          refine ma13 (pc := 78) hJ (by omega) (by omega) dX11_names_78 ?_
          try simp only [up_s, up_n, up_up, ne_eq, Nat.reduceEqDiff, not_false_eq_true]
          refine v_cV1v (pc := 79) (q0 := 0) (ci := 8) hJ rfl rfl lkX11_234 (qX11_addNote hO (xs := noteL (A 11 i) ++ txS kk ++ [47]) k3 (by simp only [up_s, up_n, up_up, ne_eq, Nat.reduceEqDiff, not_false_eq_true]; rw [List.take_of_length_le (by omega)] at hF; exact hasL_add hF) (by simp only [List.length_append, List.length_cons, List.length_nil]; omega)) (Nat.le_of_ble_eq_true rfl) (rOk_L (by decide) (by decide)) dX11_names_79 (fun u79 g79 => ?_)
          obtain ⟨n2, F2, hF2, rfl⟩ := g79
          simp only [up_s, up_n, up_up, ne_eq, Nat.reduceEqDiff, not_false_eq_true]
          try simp only [up_s, up_n, up_up, ne_eq, Nat.reduceEqDiff, not_false_eq_true]
          refine v_vret (pc := 82) hJ dX11_names_82 ⟨rfl, ?_⟩
          refine ⟨n2, F2, ?_, rfl⟩
          unfold nameL
          rw [if_neg (by omega), hkk2]
          rw [List.append_assoc (noteL (A 11 i) ++ txS kk)] at hF2
          exact hF2
        · refine v_vret (pc := 65) hJ dX11_names_65 ⟨rfl, ?_⟩
          refine ⟨n, F, ?_, rfl⟩
          unfold nameL
          rw [if_pos (by omega), hkk2, List.append_nil]
          rw [List.take_of_length_le (by omega)] at hF
          exact hF
      · refine v_ald0 (pc := 35) hJ dX11_names_35 ?_
        refine v_ald2 (pc := 36) hJ dX11_names_36 ?_
        refine v_ild3 (pc := 37) hJ dX11_names_37 ?_
        refine v_cT1i (pc := 38) hJ hO (by omega) lkX11_162 (qJ0_charAt_5068e hO (by omega) (by omega)) (Nat.le_of_ble_eq_true rfl) (rOk_L (by decide) (by decide)) dX11_names_38 (fun r38 u38 g38 => ?_)
        obtain ⟨rfl, rfl⟩ := g38
        try simp only [up_s, up_n, up_up, ne_eq, Nat.reduceEqDiff, not_false_eq_true]
        refine v_cV1v (pc := 41) (q0 := 0) (ci := 8) hJ rfl rfl lkX11_231 (qX11_add hO (by have := hF.1; simp only [List.length_append, List.length_take] at this; simp only [up_s, up_n, up_up, ne_eq, Nat.reduceEqDiff, not_false_eq_true]; omega)) (Nat.le_of_ble_eq_true rfl) (rOk_L (by decide) (by decide)) dX11_names_41 (fun u41 g41 => ?_)
        subst g41
        simp only [up_s, up_n, up_up, ne_eq, Nat.reduceEqDiff, not_false_eq_true]
        try simp only [up_s, up_n, up_up, ne_eq, Nat.reduceEqDiff, not_false_eq_true]
        refine v_inc3 (pc := 44) hJ dX11_names_44 (by decide) ?_
        refine v_goto (tgt := 27) (pc := 47) hJ dX11_names_47 (by decide) ?_
        exact ih (k + 1) _ _ (by omega) (by rw [take_add (by omega), ← List.append_assoc]; exact hasL_add hF) (by omega)
  show J 0 [some (.ref (ad 0)), some (.int (iZ i)), none, none] [] (I, A)
  refine v_ald0 (pc := 0) hJ dX11_names_0 ?_
  refine v_iconst (pc := 1) hJ dX11_names_1 ?_
  refine mp33 (pc := 2) hJ dX11_names_2 ?_
  refine v_ald0 (pc := 5) hJ dX11_names_5 ?_
  refine v_ald0 (pc := 6) hJ dX11_names_6 ?_
  refine mg11 (pc := 7) hJ dX11_names_7 ?_
  refine v_ild1 (pc := 10) hJ dX11_names_10 ?_
  refine ma11 (pc := 11) hJ (by omega) (by omega) dX11_names_11 ?_
  try simp only [up_s, up_n, up_up, ne_eq, Nat.reduceEqDiff, not_false_eq_true]
  refine v_cV1v (pc := 12) (q0 := 0) (ci := 8) hJ rfl rfl lkX11_234 (qX11_addNote hO (xs := []) k1 (by simp only [up_s, up_n, up_up, ne_eq, Nat.reduceEqDiff, not_false_eq_true]; exact hasL_nil _) (by decide)) (Nat.le_of_ble_eq_true rfl) (rOk_L (by decide) (by decide)) dX11_names_12 (fun u12 g12 => ?_)
  obtain ⟨n12, F12, hF12, rfl⟩ := g12
  simp only [up_s, up_n, up_up, ne_eq, Nat.reduceEqDiff, not_false_eq_true]
  try simp only [up_s, up_n, up_up, ne_eq, Nat.reduceEqDiff, not_false_eq_true]
  refine v_ald0 (pc := 15) hJ dX11_names_15 ?_
  refine mg12 (pc := 16) hJ dX11_names_16 ?_
  refine v_ild1 (pc := 19) hJ dX11_names_19 ?_
  refine ma12 (pc := 20) hJ (by omega) (by omega) dX11_names_20 ?_
  try simp only [up_s, up_n, up_up, ne_eq, Nat.reduceEqDiff, not_false_eq_true]
  try simp only [up_s, up_n, up_up, ne_eq, Nat.reduceEqDiff, not_false_eq_true]
  rw [← hkk]
  refine v_cS1r (pc := 21) hJ lkX11_173 (qX11_kindOf hO (by omega)) (Nat.le_of_ble_eq_true rfl) (rOk_L (by decide) (by decide)) dX11_names_21 (fun r21 u21 g21 => ?_)
  obtain ⟨rfl, rfl⟩ := g21
  try simp only [up_s, up_n, up_up, ne_eq, Nat.reduceEqDiff, not_false_eq_true]
  refine v_ast2 (pc := 24) hJ dX11_names_24 (by decide) ?_
  refine v_iconst (pc := 25) hJ dX11_names_25 ?_
  refine v_ist3 (pc := 26) hJ dX11_names_26 (by decide) ?_
  exact lp 6 0 n12 F12 (by omega) (by simpa using hF12) (by omega)
set_option maxHeartbeats 4000000 in
set_option maxRecDepth 100000 in
theorem qX11_name {l : Launch} {D : va_G} {cI : ClassId} {ad : Nat → Nat} {O : OT} {adK adV : Nat → Nat} (hO : OG O adK adV) {I : Nat → Int} {A : Nat → Int → Int} {i : Int} (hC : okC I A) (hi : inR i) : MC l D cI ad O yX11_name cX11_name 3 (some .int) 7 [.ref (ad 0), .int (iZ i)] (I, A) (pI fun r u2 => (0 ≤ i ∧ i < I 6 → r = (nameL (A 11 i) (A 12 i) (A 13 i)).length ∧ ∃ n F G, hasO G r (nameL (A 11 i) (A 12 i) (A 13 i)) ∧ u2 = (va_up (va_up (va_up I 0 0) 33 n) 26 r, va_up (va_up A 32 F) 25 G)) ∧ (¬ (0 ≤ i ∧ i < I 6) → u2 = (va_up I 0 1, A))) := by
  refine ct_intro (own := RX11) (by decide) rfl hO.1 (Nat.le_of_ble_eq_true rfl) (by simp [Value.category]) (fun X J hJ => ?_)
  obtain ⟨⟨c1, c2⟩, c3⟩ := id hC
  have fin : ∀ (n : Int) (F : Int → Int), (0 ≤ i ∧ i < I 6) → hasL F n (nameL (A 11 i) (A 12 i) (A 13 i)) → J 15 [some (.ref (ad 0)), some (.int (iZ i)), none] [] (va_up (va_up I 0 0) 33 n, va_up A 32 F) := by
    intro n F hin hF
    obtain ⟨k1, k2, k3⟩ := c3 i hin.1 hin.2
    have hnl := nameL_len k1 k2 k3
    have hln := hF.1
    have lp : ∀ (fu : Nat) (k : Nat) (q : Int) (G : Int → Int), (k ≤ (nameL (A 11 i) (A 12 i) (A 13 i)).length) → (hasO G q ((nameL (A 11 i) (A 12 i) (A 13 i)).take k)) → (12 - (k : Int)) < (fu : Int) → J 22 [some (.ref (ad 0)), some (.int (iZ i)), some (.int (iZ (k : Int)))] [] (va_up (va_up (va_up I 0 0) 33 n) 26 q, va_up (va_up A 32 F) 25 G) := by
      intro fu
      induction fu with
      | zero => intro k  q  G hk hG hmu; exfalso; omega
      | succ fu ih =>
        intro k  q  G hk hG hmu
        refine v_ild2 (pc := 22) hJ dX11_name_22 ?_
        refine v_ald0 (pc := 23) hJ dX11_name_23 ?_
        refine mg33 (pc := 24) hJ dX11_name_24 ?_
        try simp only [up_s, up_n, up_up, ne_eq, Nat.reduceEqDiff, not_false_eq_true]
        refine v_icmp_ge (tgt := 46) (pc := 27) hJ dX11_name_27 (by decide) (by omega) (by omega) (fun h27 => ?_) (fun h27 => ?_)
        · refine v_ald0 (pc := 46) hJ dX11_name_46 ?_
          refine mg26 (pc := 47) hJ dX11_name_47 ?_
          try simp only [up_s, up_n, up_up, ne_eq, Nat.reduceEqDiff, not_false_eq_true]
          refine v_iret (pc := 50) hJ dX11_name_50 ⟨_, rfl, ?_⟩
          have e : k = (nameL (A 11 i) (A 12 i) (A 13 i)).length := by omega
          subst e
          rw [List.take_length] at hG
          exact ⟨fun _ => ⟨hG.1, n, F, G, hG, rfl⟩, fun w => absurd hin w⟩
        · refine v_ald0 (pc := 30) hJ dX11_name_30 ?_
          refine v_ald0 (pc := 31) hJ dX11_name_31 ?_
          refine mg32 (pc := 32) hJ dX11_name_32 ?_
          refine v_ild2 (pc := 35) hJ dX11_name_35 ?_
          refine ma32 (pc := 36) hJ (by omega) (by omega) dX11_name_36 ?_
          try simp only [up_s, up_n, up_up, ne_eq, Nat.reduceEqDiff, not_false_eq_true]
          refine v_cV1v (pc := 37) (q0 := 0) (ci := 8) hJ rfl rfl lkX11_243 (qX11_says hO (by have := hG.1; simp only [List.length_take] at this; simp only [up_s, up_n, up_up, ne_eq, Nat.reduceEqDiff, not_false_eq_true]; omega)) (Nat.le_of_ble_eq_true rfl) (rOk_L (by decide) (by decide)) dX11_name_37 (fun u37 g37 => ?_)
          subst g37
          simp only [up_s, up_n, up_up, ne_eq, Nat.reduceEqDiff, not_false_eq_true]
          try simp only [up_s, up_n, up_up, ne_eq, Nat.reduceEqDiff, not_false_eq_true]
          refine v_inc2 (pc := 40) hJ dX11_name_40 (by decide) ?_
          refine v_goto (tgt := 22) (pc := 43) hJ dX11_name_43 (by decide) ?_
          have hn := ih (k + 1) _ _ (by omega) (by rw [take_add (by omega)]; exact hasO_add hG) (by omega)
          have hlq := hG.1
          rw [List.length_take] at hlq
          rw [if_pos (by omega)] at hn ⊢
          rw [hF.2 k (by omega)]
          try simp only [up_s, up_n, up_up, ne_eq, Nat.reduceEqDiff, not_false_eq_true] at hn ⊢
          exact hn
    refine v_ald0 (pc := 15) hJ dX11_name_15 ?_
    refine v_iconst (pc := 16) hJ dX11_name_16 ?_
    refine mp26 (pc := 17) hJ dX11_name_17 ?_
    refine v_iconst (pc := 20) hJ dX11_name_20 ?_
    refine v_ist2 (pc := 21) hJ dX11_name_21 (by decide) ?_
    rw [show va_up A 32 F = va_up (va_up A 32 F) 25 (A 25) by rw [show A 25 = va_up A 32 F 25 by simp only [up_s, up_n, up_up, ne_eq, Nat.reduceEqDiff, not_false_eq_true], up_id]]
    exact lp 13 0 0 (A 25) (by omega) (by simpa using hasO_nil _) (by omega)
  show J 0 [some (.ref (ad 0)), some (.int (iZ i)), none] [] (I, A)
  refine v_ald0 (pc := 0) hJ dX11_name_0 ?_
  refine v_ild1 (pc := 1) hJ dX11_name_1 ?_
  refine v_cV1i (pc := 2) (q0 := 0) (ci := 8) hJ rfl rfl lkX11_219 (qX11_isChord hO (by omega) (by omega)) (Nat.le_of_ble_eq_true rfl) (rOk_L (by decide) (by decide)) dX11_name_2 (fun r2 u2 g2 => ?_)
  skip
  refine v_if_ne (tgt := 10) (pc := 5) hJ dX11_name_5 (by decide) (emR g2) (fun h5 => ?_) (fun h5 => ?_)
  · obtain ⟨hin, rfl, rfl⟩ := emT g2 h5
    refine v_ald0 (pc := 10) hJ dX11_name_10 ?_
    refine v_ild1 (pc := 11) hJ dX11_name_11 ?_
    refine v_cV1v (pc := 12) (q0 := 0) (ci := 8) hJ rfl rfl lkX11_240 (qX11_names hO (by simp only [okC, up_s, up_n, up_up, ne_eq, Nat.reduceEqDiff, not_false_eq_true]; exact hC) (by simp only [up_s, up_n, up_up, ne_eq, Nat.reduceEqDiff, not_false_eq_true]; exact hin)) (Nat.le_of_ble_eq_true rfl) (rOk_L (by decide) (by decide)) dX11_name_12 (fun u12 g12 => ?_)
    obtain ⟨n12, F12, hF12, rfl⟩ := g12
    try simp only [up_s, up_n, up_up, ne_eq, Nat.reduceEqDiff, not_false_eq_true]
    exact fin n12 F12 hin hF12
  · obtain ⟨hin, rfl, rfl⟩ := emF g2 h5
    refine v_iconst (pc := 8) hJ dX11_name_8 ?_
    refine v_iret (pc := 9) hJ dX11_name_9 ⟨_, rfl, ?_⟩
    exact ⟨fun q => absurd q hin, fun _ => rfl⟩
/-- the next byte of words, chords aside: 0 if the line or the song ends -/
def nxW (S : Int → Int) (sz : Int) : Nat → Int → Int
  | 0, _ => 0
  | m + 1, k => if k < sz then (if S k < 0 then nxW S sz m (k + 1) else if S k = 10 then 0 else S k) else 0
theorem nxW_in {S : Int → Int} {sz : Int} (hS : ∀ j : Int, 0 ≤ j → j < sz → -60 ≤ S j ∧ S j ≤ 126) : ∀ (m : Nat) (k : Int), 0 ≤ k → 0 ≤ nxW S sz m k ∧ nxW S sz m k ≤ 126
  | 0, k, _ => by simp [nxW]
  | m + 1, k, hk => by
    rw [nxW]
    split
    · split
      · exact nxW_in hS m (k + 1) (by omega)
      · split
        · omega
        · have := hS k hk (by assumption); omega
    · omega
/-- what holds of the items of a song in the reference -/
abbrev okI (I : Nat → Int) (A : Nat → Int → Int) : Prop := (0 ≤ I 21 ∧ I 21 ≤ 1200) ∧ (∀ j : Int, 0 ≤ j → j < I 21 → A 19 j = 10 ∨ (32 ≤ A 19 j ∧ A 19 j ≤ 126) ∨ (-(I 6) ≤ A 19 j ∧ A 19 j ≤ -1)) ∧ (cn (A 19) (I 21).toNat : Int) = I 6
set_option maxHeartbeats 4000000 in
set_option maxRecDepth 100000 in
theorem qX11_nextWord {l : Launch} {D : va_G} {cI : ClassId} {ad : Nat → Nat} {O : OT} {adK adV : Nat → Nat} (hO : OG O adK adV) {I : Nat → Int} {A : Nat → Int → Int} {p : Int} (hp : 0 ≤ p ∧ p ≤ 1201) (hC : okC I A) (hI : okI I A) : MC l D cI ad O yX11_nextWord cX11_nextWord 3 (some .int) 1 [.ref (ad 0), .int (iZ p)] (I, A) (pI fun r u2 => r = nxW (A 19) (I 21) 1201 p ∧ u2 = (I, A)) := by
  refine ct_intro (own := RX11) (by decide) rfl hO.1 (Nat.le_of_ble_eq_true rfl) (by simp [Value.category]) (fun X J hJ => ?_)
  obtain ⟨s1, s2, s3⟩ := hI
  have s4 : ∀ j : Int, 0 ≤ j → j < I 21 → -60 ≤ A 19 j ∧ A 19 j ≤ 126 := fun j j0 j1 => by have := s2 j j0 j1; omega
  have lp : ∀ (m : Nat) (k : Int), 0 ≤ k → k ≤ 1201 → nxW (A 19) (I 21) m k = nxW (A 19) (I 21) 1201 p → I 21 - k < (m : Int) → 0 < m → J 2 [some (.ref (ad 0)), some (.int (iZ p)), some (.int (iZ k))] [] (I, A) := by
    intro m
    induction m with
    | zero => intro k hk hk9 he hm hm0; exfalso; omega
    | succ m ih =>
      intro k hk hk9 he hm hm0
      rw [nxW] at he
      by_cases hks : k < I 21
      · have hk4 := s4 k hk hks
        skip
        refine v_ild2 (pc := 2) hJ dX11_nextWord_2 ?_
        refine v_ald0 (pc := 3) hJ dX11_nextWord_3 ?_
        refine mg21 (pc := 4) hJ dX11_nextWord_4 ?_
        refine v_icmp_ge (tgt := 25) (pc := 7) hJ dX11_nextWord_7 (by decide) (by omega) (by omega) (fun h7 => ?_) (fun h7 => ?_)
        · omega
        · refine v_ald0 (pc := 10) hJ dX11_nextWord_10 ?_
          refine mg19 (pc := 11) hJ dX11_nextWord_11 ?_
          refine v_ild2 (pc := 14) hJ dX11_nextWord_14 ?_
          refine ma19 (pc := 15) hJ (by omega) (by omega) dX11_nextWord_15 ?_
          refine v_if_ge (tgt := 25) (pc := 16) hJ dX11_nextWord_16 (by decide) (by omega) (fun h16 => ?_) (fun h16 => ?_)
          · refine v_ild2 (pc := 25) hJ dX11_nextWord_25 ?_
            refine v_ald0 (pc := 26) hJ dX11_nextWord_26 ?_
            refine mg21 (pc := 27) hJ dX11_nextWord_27 ?_
            refine v_icmp_ge (tgt := 53) (pc := 30) hJ dX11_nextWord_30 (by decide) (by omega) (by omega) (fun h30 => ?_) (fun h30 => ?_)
            · omega
            · refine v_ald0 (pc := 33) hJ dX11_nextWord_33 ?_
              refine mg19 (pc := 34) hJ dX11_nextWord_34 ?_
              refine v_ild2 (pc := 37) hJ dX11_nextWord_37 ?_
              refine ma19 (pc := 38) hJ (by omega) (by omega) dX11_nextWord_38 ?_
              refine v_bipush (pc := 39) hJ dX11_nextWord_39 (by decide) ?_
              refine v_icmp_eq (tgt := 53) (pc := 41) hJ dX11_nextWord_41 (by decide) (by omega) (by omega) (fun h41 => ?_) (fun h41 => ?_)
              · refine v_iconst (pc := 53) hJ dX11_nextWord_53 ?_
                refine v_iret (pc := 54) hJ dX11_nextWord_54 ⟨_, rfl, ?_⟩
                rw [if_pos hks, if_neg (by omega)] at he
                first | (rw [if_pos (by omega)] at he; exact ⟨he, rfl⟩) | (rw [if_neg (by omega)] at he; exact ⟨he, rfl⟩)
              · refine v_ald0 (pc := 44) hJ dX11_nextWord_44 ?_
                refine mg19 (pc := 45) hJ dX11_nextWord_45 ?_
                refine v_ild2 (pc := 48) hJ dX11_nextWord_48 ?_
                refine ma19 (pc := 49) hJ (by omega) (by omega) dX11_nextWord_49 ?_
                refine v_goto (tgt := 54) (pc := 50) hJ dX11_nextWord_50 (by decide) ?_
                refine v_iret (pc := 54) hJ dX11_nextWord_54 ⟨_, rfl, ?_⟩
                rw [if_pos hks, if_neg (by omega)] at he
                first | (rw [if_pos (by omega)] at he; exact ⟨he, rfl⟩) | (rw [if_neg (by omega)] at he; exact ⟨he, rfl⟩)
          · refine v_inc2 (pc := 19) hJ dX11_nextWord_19 (by decide) ?_
            refine v_goto (tgt := 2) (pc := 22) hJ dX11_nextWord_22 (by decide) ?_
            rw [if_pos hks, if_pos (by omega)] at he
            exact ih (k + 1) (by omega) (by omega) he (by omega) (by omega)
      · skip
        refine v_ild2 (pc := 2) hJ dX11_nextWord_2 ?_
        refine v_ald0 (pc := 3) hJ dX11_nextWord_3 ?_
        refine mg21 (pc := 4) hJ dX11_nextWord_4 ?_
        refine v_icmp_ge (tgt := 25) (pc := 7) hJ dX11_nextWord_7 (by decide) (by omega) (by omega) (fun h7 => ?_) (fun h7 => ?_)
        · refine v_ild2 (pc := 25) hJ dX11_nextWord_25 ?_
          refine v_ald0 (pc := 26) hJ dX11_nextWord_26 ?_
          refine mg21 (pc := 27) hJ dX11_nextWord_27 ?_
          refine v_icmp_ge (tgt := 53) (pc := 30) hJ dX11_nextWord_30 (by decide) (by omega) (by omega) (fun h30 => ?_) (fun h30 => ?_)
          · refine v_iconst (pc := 53) hJ dX11_nextWord_53 ?_
            refine v_iret (pc := 54) hJ dX11_nextWord_54 ⟨_, rfl, ?_⟩
            rw [if_neg hks] at he
            exact ⟨he, rfl⟩
          · omega
        · omega
  show J 0 [some (.ref (ad 0)), some (.int (iZ p)), none] [] (I, A)
  refine v_ild1 (pc := 0) hJ dX11_nextWord_0 ?_
  refine v_ist2 (pc := 1) hJ dX11_nextWord_1 (by decide) ?_
  exact lp 1201 p hp.1 hp.2 rfl (by omega) (by omega)
