/-- how many of the first n items are chords -/
def cn (S : Int → Int) : Nat → Nat
  | 0 => 0
  | n + 1 => if S n < 0 then cn S n + 1 else cn S n
theorem cn_eq {S T : Int → Int} : ∀ n : Nat, (∀ j : Int, 0 ≤ j → j < n → S j = T j) → cn S n = cn T n
  | 0, _ => rfl
  | n + 1, h => by
    rw [cn, cn, cn_eq n (fun j j0 j1 => h j j0 (by omega)), h n (by omega) (by omega)]
theorem cn_mono (S : Int → Int) : ∀ {m n : Nat}, m ≤ n → cn S m ≤ cn S n := by
  intro m n h
  induction n with
  | zero => rw [Nat.le_zero.mp h]; exact Nat.le_refl _
  | succ n ih =>
    by_cases e : m = n + 1
    · rw [e]; exact Nat.le_refl _
    · have := ih (by omega)
      rw [cn]
      split <;> omega
/-- what holds of what was read -/
def okP (n : Int) : PS → Prop
  | ((a, ch, ln, sz), R, K, B, L, S) => (0 ≤ a ∧ a ≤ n) ∧ (0 ≤ sz ∧ sz ≤ a) ∧ (0 ≤ ch ∧ ch ≤ 60) ∧ (1 ≤ ln ∧ ln ≤ 40) ∧ (∀ j : Int, 0 ≤ j → j < ch → (-15 ≤ R j ∧ R j ≤ 19) ∧ (0 ≤ K j ∧ K j ≤ 13) ∧ (-15 ≤ B j ∧ B j ≤ 19) ∧ (0 ≤ L j ∧ L j < 40)) ∧ (∀ j : Int, 0 ≤ j → j < sz → S j = 10 ∨ (32 ≤ S j ∧ S j ≤ 126) ∨ (-ch ≤ S j ∧ S j ≤ -1)) ∧ (cn S sz.toNat : Int) = ch
theorem okP_st {T : Int → Int} {n : Int} {s s2 : PS} (hs : okP n s) (hl : s.1.1 < n) (e : pst (bA T n) s = .inr s2) : okP n s2 := by
  obtain ⟨⟨a, ch, ln, sz⟩, R, K, B, L, S⟩ := s
  obtain ⟨h1, h2, h3, h4, h5, h6, h7⟩ := hs
  have hcn : ∀ c : Int, (cn (zu S sz c) (sz + 1).toNat : Int) = (if c < 0 then ch + 1 else ch) := fun c => by
    rw [show (sz + 1).toNat = sz.toNat + 1 by omega, cn, cn_eq (T := S) sz.toNat (fun j j0 j1 => zu_ne (by omega)), show ((sz.toNat : Nat) : Int) = sz by omega, zu_same]
    split <;> omega
  dsimp only at hl
  rw [pst_eq] at e
  split at e
  · split at e
    · cases e
    · rename_i hc1 hc2
      cases hc : chordAt (bA T n) (a + 1) with
      | inl p => rw [hc] at e; cases e
      | inr q =>
        obtain ⟨ro, kd, ba, p⟩ := q
        rw [hc] at e
        cases e
        have hi := chordAt_in (p := a + 1) (by omega) hc
        refine ⟨⟨by omega, by omega⟩, ⟨by omega, by omega⟩, ⟨by omega, by omega⟩, h4, fun j j0 j1 => ?_, fun j j0 j1 => ?_, by rw [hcn, if_pos (by omega)]⟩
        · unfold zu
          by_cases ej : j = ch
          · simp only [if_pos ej]
            exact ⟨hi.2.2.1, hi.2.2.2.1, hi.2.2.2.2, by omega⟩
          · simp only [if_neg ej]
            exact h5 j j0 (by omega)
        · unfold zu
          by_cases ej : j = sz
          · simp only [if_pos ej]
            omega
          · simp only [if_neg ej]
            have := h6 j j0 (by omega)
            omega
  · split at e
    · cases e
    · split at e
      · cases e
      · cases e
        refine ⟨⟨by omega, by omega⟩, ⟨by omega, by omega⟩, h3, by split <;> omega, h5, fun j j0 j1 => ?_, by rw [hcn, if_neg (by omega)]⟩
        unfold zu
        by_cases ej : j = sz
        · simp only [if_pos ej]
          omega
        · simp only [if_neg ej]
          exact h6 j j0 (by omega)
theorem okP_run {T : Int → Int} {n : Int} : ∀ (m : Nat) (s s2 : PS), okP n s → prun (bA T n) n m s = .inr s2 → okP n s2
  | 0, s, s2, h, e => by cases e; exact h
  | m + 1, s, s2, h, e => by
    by_cases hl : s.1.1 < n
    · cases hp : pst (bA T n) s with
      | inl x => rw [prun_l hl hp] at e; cases e
      | inr s3 => rw [prun_r hl hp] at e; exact okP_run m s3 s2 (okP_st h hl hp) e
    · rw [prun_end hl] at e; cases e; exact h
theorem okP_0 {n : Int} (hn : 0 ≤ n) (R K B L S : Int → Int) : okP n ((0, 0, 1, 0), R, K, B, L, S) := ⟨⟨by omega, hn⟩, ⟨by omega, by omega⟩, ⟨by omega, by omega⟩, ⟨by omega, by omega⟩, fun j j0 j1 => by omega, fun j j0 j1 => by omega, rfl⟩
theorem readsR {I : Nat → Int} {A : Nat → Int → Int} {res : (Int × Int) ⊕ PS} {r : Int} {u : sM} (h : readsP I A res r u) : inR r := by
  obtain ⟨-, -, h⟩ := h
  rcases res with ⟨k, p⟩ | s
  · have := h.1; omega
  · have := h.1; omega
theorem readsT {I : Nat → Int} {A : Nat → Int → Int} {res : (Int × Int) ⊕ PS} {r : Int} {u : sM} (h : readsP I A res r u) (hr : r ≠ 0) : res = .inr (stM u.1 u.2) ∧ u.1 3 = I 3 ∧ u.1 4 = I 4 := by
  obtain ⟨-, -, h⟩ := h
  rcases res with ⟨k, p⟩ | s
  · exact absurd h.1 hr
  · exact ⟨by rw [h.2.1], h.2.2⟩
theorem readsF {I : Nat → Int} {A : Nat → Int → Int} {res : (Int × Int) ⊕ PS} {r : Int} {u : sM} (h : readsP I A res r u) (hr : r = 0) : res = .inl (u.1 3, u.1 4) := by
  obtain ⟨-, -, h⟩ := h
  rcases res with ⟨k, p⟩ | s
  · rw [h.2.1, h.2.2]
  · have := h.1; omega
/-- song(n) in the reference, when the tape has so many -/
def songP (I : Nat → Int) (A : Nat → Int → Int) (n : Int) (res : (Int × Int) ⊕ PS) (r : Int) (u : sM) : Prop :=
  u.1 0 = 0 ∧ u.1 2 = 0 ∧ match res with
  | .inl (k, p) => r = k ∧ u.1 3 = k ∧ u.1 4 = p ∧ (∀ i, i ≠ 0 → i ≠ 2 → i ≠ 3 → i ≠ 4 → i ≠ 22 → i ≠ 27 → i ≠ 28 → i ≠ 29 → i ≠ 30 → i ≠ 31 → u.1 i = I i) ∧ (∀ i, i ≠ 15 → i ≠ 16 → i ≠ 17 → i ≠ 18 → i ≠ 20 → u.2 i = A i)
  | .inr ((_, ch, ln, sz), R, K, B, L, S) => r = 0 ∧ u.1 3 = 0 ∧ u.1 4 = -1 ∧ u.1 5 = 1 ∧ u.1 6 = ch ∧ u.1 7 = ln ∧ u.1 21 = sz ∧ u.1 10 = -1 ∧ (∀ j, 0 ≤ j → j < 480 → u.2 38 j = -1) ∧ (∀ j, 0 ≤ j → j < sz → u.2 19 j = S j) ∧ (∀ j, 0 ≤ j → j < ch → u.2 11 j = R j ∧ u.2 12 j = K j ∧ u.2 13 j = B j ∧ u.2 14 j = L j) ∧ (∀ i, i ≠ 0 → i ≠ 2 → i ≠ 3 → i ≠ 4 → i ≠ 5 → i ≠ 6 → i ≠ 7 → i ≠ 10 → i ≠ 21 → i ≠ 22 → i ≠ 27 → i ≠ 28 → i ≠ 29 → i ≠ 30 → i ≠ 31 → u.1 i = I i) ∧ (∀ i, i ≠ 11 → i ≠ 12 → i ≠ 13 → i ≠ 14 → i ≠ 15 → i ≠ 16 → i ≠ 17 → i ≠ 18 → i ≠ 19 → i ≠ 20 → i ≠ 38 → u.2 i = A i)
set_option maxHeartbeats 4000000 in
set_option maxRecDepth 100000 in
theorem qX11_song {l : Launch} {D : va_G} {cI : ClassId} {ad : Nat → Nat} {O : OT} {adK adV : Nat → Nat} (hO : OG O adK adV) {I : Nat → Int} {A : Nat → Int → Int} {n : Int} (hn : inR n) (h2 : 0 ≤ I 2 ∧ I 2 ≤ 1200) (hT : ∀ j, 0 ≤ j → j < I 2 → 0 ≤ A 1 j ∧ A 1 j ≤ 255) : MC l D cI ad O yX11_song cX11_song 3 (some .int) 8 [.ref (ad 0), .int (iZ n)] (I, A) (pI fun r u2 => (0 ≤ n ∧ n ≤ I 2 → songP I A n (prun (bA (A 1) n) n 1201 ((0, 0, 1, 0), A 15, A 16, A 17, A 18, A 20)) r u2) ∧ (¬ (0 ≤ n ∧ n ≤ I 2) → u2 = (va_up I 0 1, A))) := by
  refine ct_intro (own := RX11) (by decide) rfl hO.1 (Nat.le_of_ble_eq_true rfl) (by simp [Value.category]) (fun X J hJ => ?_)
  have fin : ∀ (I3 : Nat → Int) (A3 : Nat → Int → Int), (0 ≤ I3 6 ∧ I3 6 ≤ 60) → (0 ≤ I3 21 ∧ I3 21 ≤ 1200) → (∀ u2 : sM, (∀ i, i ≠ 10 → u2.1 i = I3 i) → u2.1 10 = -1 → (∀ j, 0 ≤ j → j < 480 → u2.2 38 j = -1) → (∀ j, 0 ≤ j → j < I3 21 → u2.2 19 j = A3 20 j) → (∀ j : Int, 0 ≤ j → j < I3 6 → u2.2 11 j = A3 15 j ∧ u2.2 12 j = A3 16 j ∧ u2.2 13 j = A3 17 j ∧ u2.2 14 j = A3 18 j) → (∀ i, i ≠ 11 → i ≠ 12 → i ≠ 13 → i ≠ 14 → i ≠ 19 → i ≠ 38 → u2.2 i = A3 i) → (0 ≤ n ∧ n ≤ I 2 → songP I A n (prun (bA (A 1) n) n 1201 ((0, 0, 1, 0), A 15, A 16, A 17, A 18, A 20)) 0 u2) ∧ (¬ (0 ≤ n ∧ n ≤ I 2) → u2 = (va_up I 0 1, A))) → J 93 [some (.ref (ad 0)), some (.int (iZ n)), none] [] (I3, A3) := by
    intro I3 A3 h6 h21 hfin
    have l2 : ∀ (fu : Nat) (k : Nat) (A2 : Nat → Int → Int), ((k : Int) ≤ I3 6) → ((∀ j : Int, 0 ≤ j → j < k → A2 11 j = A3 15 j ∧ A2 12 j = A3 16 j ∧ A2 13 j = A3 17 j ∧ A2 14 j = A3 18 j)) → (∀ j : Int, 0 ≤ j → j < I3 21 → A2 19 j = A3 20 j) → (∀ i, i ≠ 11 → i ≠ 12 → i ≠ 13 → i ≠ 14 → i ≠ 19 → A2 i = A3 i) → (I3 6 - (k : Int)) < (fu : Int) → J 123 [some (.ref (ad 0)), some (.int (iZ n)), some (.int (iZ (k : Int)))] [] (I3, A2) := by
      intro fu
      induction fu with
      | zero => intro k  A2 hk a1 a2 a3 hmu; exfalso; omega
      | succ fu ih =>
        intro k  A2 hk a1 a2 a3 hmu
        refine v_ild2 (pc := 123) hJ dX11_song_123 ?_
        refine v_ald0 (pc := 124) hJ dX11_song_124 ?_
        refine mg6 (pc := 125) hJ dX11_song_125 ?_
        try simp only [up_s, up_n, up_up, ne_eq, Nat.reduceEqDiff, not_false_eq_true]
        refine v_icmp_ge (tgt := 185) (pc := 128) hJ dX11_song_128 (by decide) (by omega) (by omega) (fun h128 => ?_) (fun h128 => ?_)
        · refine v_ald0 (pc := 185) hJ dX11_song_185 ?_
          refine v_cV0v (pc := 186) (q0 := 0) (ci := 8) hJ rfl rfl lkX11_210 (qX11_changes hO) (Nat.le_of_ble_eq_true rfl) (rOk_L (by decide) (by decide)) dX11_song_186 (fun u186 g186 => ?_)
          obtain ⟨M, hM, rfl⟩ := g186
          try simp only [up_s, up_n, up_up, ne_eq, Nat.reduceEqDiff, not_false_eq_true]
          refine v_iconst (pc := 189) hJ dX11_song_189 ?_
          refine v_iret (pc := 190) hJ dX11_song_190 ⟨_, rfl, ?_⟩
          refine hfin _ (fun i hi => ?_) ?_ ?_ ?_ ?_ ?_
          · simp only [up_n, hi, ne_eq, not_false_eq_true]
          · simp only [up_s, up_n, up_up, ne_eq, Nat.reduceEqDiff, not_false_eq_true]
          · intro j j0 j1
            simp only [up_s, up_n, up_up, ne_eq, Nat.reduceEqDiff, not_false_eq_true]
            exact hM j j0 j1
          · intro j j0 j1
            simp only [up_s, up_n, up_up, ne_eq, Nat.reduceEqDiff, not_false_eq_true]
            exact a2 j j0 j1
          · intro j j0 j1
            simp only [up_s, up_n, up_up, ne_eq, Nat.reduceEqDiff, not_false_eq_true]
            exact a1 j j0 (by omega)
          · intro i h1 h2 h3 h4 h5 h6
            simp only [up_n, h6, ne_eq, not_false_eq_true]
            exact a3 i h1 h2 h3 h4 h5
        · refine v_ald0 (pc := 131) hJ dX11_song_131 ?_
          refine mg11 (pc := 132) hJ dX11_song_132 ?_
          refine v_ild2 (pc := 135) hJ dX11_song_135 ?_
          refine v_ald0 (pc := 136) hJ dX11_song_136 ?_
          refine mg15 (pc := 137) hJ dX11_song_137 ?_
          refine v_ild2 (pc := 140) hJ dX11_song_140 ?_
          refine ma15 (pc := 141) hJ (by omega) (by omega) dX11_song_141 ?_
          try simp only [up_s, up_n, up_up, ne_eq, Nat.reduceEqDiff, not_false_eq_true]
          refine ms11 (pc := 142) hJ (by omega) (by omega) dX11_song_142 ?_
          refine v_ald0 (pc := 143) hJ dX11_song_143 ?_
          refine mg12 (pc := 144) hJ dX11_song_144 ?_
          refine v_ild2 (pc := 147) hJ dX11_song_147 ?_
          refine v_ald0 (pc := 148) hJ dX11_song_148 ?_
          refine mg16 (pc := 149) hJ dX11_song_149 ?_
          refine v_ild2 (pc := 152) hJ dX11_song_152 ?_
          refine ma16 (pc := 153) hJ (by omega) (by omega) dX11_song_153 ?_
          try simp only [up_s, up_n, up_up, ne_eq, Nat.reduceEqDiff, not_false_eq_true]
          refine ms12 (pc := 154) hJ (by omega) (by omega) dX11_song_154 ?_
          refine v_ald0 (pc := 155) hJ dX11_song_155 ?_
          refine mg13 (pc := 156) hJ dX11_song_156 ?_
          refine v_ild2 (pc := 159) hJ dX11_song_159 ?_
          refine v_ald0 (pc := 160) hJ dX11_song_160 ?_
          refine mg17 (pc := 161) hJ dX11_song_161 ?_
          refine v_ild2 (pc := 164) hJ dX11_song_164 ?_
          refine ma17 (pc := 165) hJ (by omega) (by omega) dX11_song_165 ?_
          try simp only [up_s, up_n, up_up, ne_eq, Nat.reduceEqDiff, not_false_eq_true]
          refine ms13 (pc := 166) hJ (by omega) (by omega) dX11_song_166 ?_
          refine v_ald0 (pc := 167) hJ dX11_song_167 ?_
          refine mg14 (pc := 168) hJ dX11_song_168 ?_
          refine v_ild2 (pc := 171) hJ dX11_song_171 ?_
          refine v_ald0 (pc := 172) hJ dX11_song_172 ?_
          refine mg18 (pc := 173) hJ dX11_song_173 ?_
          refine v_ild2 (pc := 176) hJ dX11_song_176 ?_
          refine ma18 (pc := 177) hJ (by omega) (by omega) dX11_song_177 ?_
          try simp only [up_s, up_n, up_up, ne_eq, Nat.reduceEqDiff, not_false_eq_true]
          refine ms14 (pc := 178) hJ (by omega) (by omega) dX11_song_178 ?_
          refine v_inc2 (pc := 179) hJ dX11_song_179 (by decide) ?_
          refine v_goto (tgt := 123) (pc := 182) hJ dX11_song_182 (by decide) ?_
          refine ih (k + 1) _ (by omega) ?_ ?_ ?_ (by omega)
          · intro j j0 j1
            simp only [up_s, up_n, up_up, ne_eq, Nat.reduceEqDiff, not_false_eq_true]
            unfold zu
            by_cases ej : j = (k : Int)
            · subst ej
              simp only [if_pos]
              rw [a3 15 (by decide) (by decide) (by decide) (by decide) (by decide), a3 16 (by decide) (by decide) (by decide) (by decide) (by decide), a3 17 (by decide) (by decide) (by decide) (by decide) (by decide), a3 18 (by decide) (by decide) (by decide) (by decide) (by decide)]
              exact ⟨rfl, rfl, rfl, rfl⟩
            · simp only [if_neg ej]
              exact a1 j j0 (by omega)
          · intro j j0 j1
            simp only [up_s, up_n, up_up, ne_eq, Nat.reduceEqDiff, not_false_eq_true]
            exact a2 j j0 j1
          · intro i h1 h2 h3 h4 h5
            simp only [up_n, h1, h2, h3, h4, ne_eq, not_false_eq_true]
            exact a3 i h1 h2 h3 h4 h5
    have l1 : ∀ (fu : Nat) (k : Nat) (A2 : Nat → Int → Int), ((k : Int) ≤ I3 21) → (∀ j : Int, 0 ≤ j → j < k → A2 19 j = A3 20 j) → (∀ i, i ≠ 19 → A2 i = A3 i) → (I3 21 - (k : Int)) < (fu : Int) → J 95 [some (.ref (ad 0)), some (.int (iZ n)), some (.int (iZ (k : Int)))] [] (I3, A2) := by
      intro fu
      induction fu with
      | zero => intro k  A2 hk a2 a3 hmu; exfalso; omega
      | succ fu ih =>
        intro k  A2 hk a2 a3 hmu
        refine v_ild2 (pc := 95) hJ dX11_song_95 ?_
        refine v_ald0 (pc := 96) hJ dX11_song_96 ?_
        refine mg21 (pc := 97) hJ dX11_song_97 ?_
        try simp only [up_s, up_n, up_up, ne_eq, Nat.reduceEqDiff, not_false_eq_true]
        refine v_icmp_ge (tgt := 121) (pc := 100) hJ dX11_song_100 (by decide) (by omega) (by omega) (fun h100 => ?_) (fun h100 => ?_)
        · refine v_iconst (pc := 121) hJ dX11_song_121 ?_
          refine v_ist2 (pc := 122) hJ dX11_song_122 (by decide) ?_
          exact l2 100 0 A2 (by omega) (fun j j0 j1 => by omega) (fun j j0 j1 => a2 j j0 (by omega)) (fun i _ _ _ _ h => a3 i h) (by omega)
        · refine v_ald0 (pc := 103) hJ dX11_song_103 ?_
          refine mg19 (pc := 104) hJ dX11_song_104 ?_
          refine v_ild2 (pc := 107) hJ dX11_song_107 ?_
          refine v_ald0 (pc := 108) hJ dX11_song_108 ?_
          refine mg20 (pc := 109) hJ dX11_song_109 ?_
          refine v_ild2 (pc := 112) hJ dX11_song_112 ?_
          refine ma20 (pc := 113) hJ (by omega) (by omega) dX11_song_113 ?_
          try simp only [up_s, up_n, up_up, ne_eq, Nat.reduceEqDiff, not_false_eq_true]
          refine ms19 (pc := 114) hJ (by omega) (by omega) dX11_song_114 ?_
          refine v_inc2 (pc := 115) hJ dX11_song_115 (by decide) ?_
          refine v_goto (tgt := 95) (pc := 118) hJ dX11_song_118 (by decide) ?_
          refine ih (k + 1) _ (by omega) ?_ ?_ (by omega)
          · intro j j0 j1
            simp only [up_s, up_n, up_up, ne_eq, Nat.reduceEqDiff, not_false_eq_true]
            unfold zu
            by_cases ej : j = (k : Int)
            · subst ej
              simp only [if_pos]
              rw [a3 20 (by decide)]
            · simp only [if_neg ej]
              exact a2 j j0 (by omega)
          · intro i h1
            simp only [up_n, h1, ne_eq, not_false_eq_true]
            exact a3 i h1
    refine v_iconst (pc := 93) hJ dX11_song_93 ?_
    refine v_ist2 (pc := 94) hJ dX11_song_94 (by decide) ?_
    exact l1 2000 0 A3 (by omega) (fun j j0 j1 => by omega) (fun i _ => rfl) (by omega)
  show J 0 [some (.ref (ad 0)), some (.int (iZ n)), none] [] (I, A)
  refine v_ald0 (pc := 0) hJ dX11_song_0 ?_
  refine v_iconst (pc := 1) hJ dX11_song_1 ?_
  refine mp0 (pc := 2) hJ dX11_song_2 ?_
  refine v_ald0 (pc := 5) hJ dX11_song_5 ?_
  refine v_ild1 (pc := 6) hJ dX11_song_6 ?_
  refine v_if_lt (tgt := 22) (pc := 7) hJ dX11_song_7 (by decide) (by omega) (fun h7 => ?_) (fun h7 => ?_)
  · refine v_iconst (pc := 22) hJ dX11_song_22 ?_
    refine v_iconst (pc := 23) hJ dX11_song_23 ?_
    refine v_cV2i (pc := 24) (q0 := 0) (ci := 8) hJ rfl rfl lkX11_190 (qX11_right0 hO (by first | (simp only [up_s, up_n, up_up, ne_eq, Nat.reduceEqDiff, not_false_eq_true]; done) | assumption | (simp only [up_s, up_n, up_up, ne_eq, Nat.reduceEqDiff, not_false_eq_true]; assumption)) (by decide)) (Nat.le_of_ble_eq_true rfl) (rOk_L (by decide) (by decide)) dX11_song_24 (fun r24 u24 g24 => ?_)
    obtain ⟨rfl, rfl⟩ := g24
    try simp only [up_s, up_n, up_up, ne_eq, Nat.reduceEqDiff, not_false_eq_true]
    refine v_if_ne (tgt := 32) (pc := 27) hJ dX11_song_27 (by decide) (by decide) (fun h => by first | exact absurd h (by decide) | exact absurd (by decide) h) (fun _ => ?_)
    refine v_iconst (pc := 30) hJ dX11_song_30 ?_
    refine v_iret (pc := 31) hJ dX11_song_31 ⟨_, rfl, ?_⟩
    exact ⟨fun q => by omega, fun q => by simp only [up_up]⟩
  · refine v_ild1 (pc := 10) hJ dX11_song_10 ?_
    refine v_ald0 (pc := 11) hJ dX11_song_11 ?_
    refine mg2 (pc := 12) hJ dX11_song_12 ?_
    try simp only [up_s, up_n, up_up, ne_eq, Nat.reduceEqDiff, not_false_eq_true]
    refine v_icmp_gt (tgt := 22) (pc := 15) hJ dX11_song_15 (by decide) (by omega) (by omega) (fun h15 => ?_) (fun h15 => ?_)
    · refine v_iconst (pc := 22) hJ dX11_song_22 ?_
      refine v_iconst (pc := 23) hJ dX11_song_23 ?_
      refine v_cV2i (pc := 24) (q0 := 0) (ci := 8) hJ rfl rfl lkX11_190 (qX11_right0 hO (by first | (simp only [up_s, up_n, up_up, ne_eq, Nat.reduceEqDiff, not_false_eq_true]; done) | assumption | (simp only [up_s, up_n, up_up, ne_eq, Nat.reduceEqDiff, not_false_eq_true]; assumption)) (by decide)) (Nat.le_of_ble_eq_true rfl) (rOk_L (by decide) (by decide)) dX11_song_24 (fun r24 u24 g24 => ?_)
      obtain ⟨rfl, rfl⟩ := g24
      try simp only [up_s, up_n, up_up, ne_eq, Nat.reduceEqDiff, not_false_eq_true]
      refine v_if_ne (tgt := 32) (pc := 27) hJ dX11_song_27 (by decide) (by decide) (fun h => by first | exact absurd h (by decide) | exact absurd (by decide) h) (fun _ => ?_)
      refine v_iconst (pc := 30) hJ dX11_song_30 ?_
      refine v_iret (pc := 31) hJ dX11_song_31 ⟨_, rfl, ?_⟩
      exact ⟨fun q => by omega, fun q => by simp only [up_up]⟩
    · refine v_iconst (pc := 18) hJ dX11_song_18 ?_
      refine v_goto (tgt := 23) (pc := 19) hJ dX11_song_19 (by decide) ?_
      refine v_iconst (pc := 23) hJ dX11_song_23 ?_
      refine v_cV2i (pc := 24) (q0 := 0) (ci := 8) hJ rfl rfl lkX11_190 (qX11_right1 hO (by first | (simp only [up_s, up_n, up_up, ne_eq, Nat.reduceEqDiff, not_false_eq_true]; done) | assumption | (simp only [up_s, up_n, up_up, ne_eq, Nat.reduceEqDiff, not_false_eq_true]; assumption))) (Nat.le_of_ble_eq_true rfl) (rOk_L (by decide) (by decide)) dX11_song_24 (fun r24 u24 g24 => ?_)
      obtain ⟨rfl, rfl⟩ := g24
      try simp only [up_s, up_n, up_up, ne_eq, Nat.reduceEqDiff, not_false_eq_true]
      refine v_if_ne (tgt := 32) (pc := 27) hJ dX11_song_27 (by decide) (by decide) (fun _ => ?_) (fun h => by first | exact absurd h (by decide) | exact absurd (by decide) h)
      refine v_ald0 (pc := 32) hJ dX11_song_32 ?_
      refine v_ild1 (pc := 33) hJ dX11_song_33 ?_
      refine mp28 (pc := 34) hJ dX11_song_34 ?_
      refine v_ald0 (pc := 37) hJ dX11_song_37 ?_
      refine v_iconst (pc := 38) hJ dX11_song_38 ?_
      refine mp2 (pc := 39) hJ dX11_song_39 ?_
      refine v_ald0 (pc := 42) hJ dX11_song_42 ?_
      refine v_iconst (pc := 43) hJ dX11_song_43 ?_
      refine mp3 (pc := 44) hJ dX11_song_44 ?_
      refine v_ald0 (pc := 47) hJ dX11_song_47 ?_
      refine v_iconst (pc := 48) hJ dX11_song_48 ?_
      refine mp4 (pc := 49) hJ dX11_song_49 ?_
      refine v_ald0 (pc := 52) hJ dX11_song_52 ?_
      refine v_cV0i (pc := 53) (q0 := 0) (ci := 8) hJ rfl rfl lkX11_194 (qX11_reads hO (by simp only [up_s, up_n, up_up, ne_eq, Nat.reduceEqDiff, not_false_eq_true]; omega) (by simp only [up_s, up_n, up_up, ne_eq, Nat.reduceEqDiff, not_false_eq_true]; exact fun j j0 j1 => hT j j0 (by omega))) (Nat.le_of_ble_eq_true rfl) (rOk_L (by decide) (by decide)) dX11_song_53 (fun r53 u53 g53 => ?_)
      have hR := g53
      obtain ⟨I5, A5⟩ := u53
      obtain ⟨hI5, hA5, -⟩ := g53
      dsimp only at hI5 hA5
      simp only [up_s, up_n, up_up, ne_eq, Nat.reduceEqDiff, not_false_eq_true] at hR
      try simp only [up_s, up_n, up_up, ne_eq, Nat.reduceEqDiff, not_false_eq_true]
      refine v_if_ne (tgt := 64) (pc := 56) hJ dX11_song_56 (by decide) (readsR hR) (fun h56 => ?_) (fun h56 => ?_)
      · refine v_ald0 (pc := 64) hJ dX11_song_64 ?_
        refine v_ald0 (pc := 65) hJ dX11_song_65 ?_
        refine mg30 (pc := 66) hJ dX11_song_66 ?_
        try simp only [up_s, up_n, up_up, ne_eq, Nat.reduceEqDiff, not_false_eq_true]
        refine mp6 (pc := 69) hJ dX11_song_69 ?_
        refine v_ald0 (pc := 72) hJ dX11_song_72 ?_
        refine v_ald0 (pc := 73) hJ dX11_song_73 ?_
        refine mg31 (pc := 74) hJ dX11_song_74 ?_
        try simp only [up_s, up_n, up_up, ne_eq, Nat.reduceEqDiff, not_false_eq_true]
        refine mp7 (pc := 77) hJ dX11_song_77 ?_
        refine v_ald0 (pc := 80) hJ dX11_song_80 ?_
        refine v_ald0 (pc := 81) hJ dX11_song_81 ?_
        refine mg22 (pc := 82) hJ dX11_song_82 ?_
        try simp only [up_s, up_n, up_up, ne_eq, Nat.reduceEqDiff, not_false_eq_true]
        refine mp21 (pc := 85) hJ dX11_song_85 ?_
        refine v_ald0 (pc := 88) hJ dX11_song_88 ?_
        refine v_iconst (pc := 89) hJ dX11_song_89 ?_
        refine mp5 (pc := 90) hJ dX11_song_90 ?_
        obtain ⟨hrun, hr3, hr4⟩ := readsT hR h56
        dsimp only at hr3 hr4
        have hok := okP_run (T := A 1) (n := n) 1201 _ _ (okP_0 (by omega) _ _ _ _ _) hrun
        obtain ⟨k1, k2, k3, k4, k5, k6, k7⟩ := hok
        dsimp only at k1 k2 k3 k4
        refine fin _ _ ?_ ?_ ?_
        · simp only [up_s, up_n, up_up, ne_eq, Nat.reduceEqDiff, not_false_eq_true]; exact k3
        · simp only [up_s, up_n, up_up, ne_eq, Nat.reduceEqDiff, not_false_eq_true]; omega
        · intro u2 q1 q2 q3 q4 q5 q6
          refine ⟨fun _ => ?_, fun q => absurd (by omega) q⟩
          simp only [up_s, up_n, up_up, ne_eq, Nat.reduceEqDiff, not_false_eq_true] at q4 q5
          rw [hrun]
          refine ⟨?_, ?_, rfl, ?_, ?_, ?_, ?_, ?_, ?_, q2, q3, q4, q5, ?_, ?_⟩
          · rw [q1 0 (by decide)]; simp only [up_s, up_n, up_up, ne_eq, Nat.reduceEqDiff, not_false_eq_true]; exact (by rw [hI5 0 (by decide) (by decide) (by decide) (by decide) (by decide) (by decide) (by decide)]; simp only [up_s, up_n, up_up, ne_eq, Nat.reduceEqDiff, not_false_eq_true])
          · rw [q1 2 (by decide)]; simp only [up_s, up_n, up_up, ne_eq, Nat.reduceEqDiff, not_false_eq_true]; exact (by rw [hI5 2 (by decide) (by decide) (by decide) (by decide) (by decide) (by decide) (by decide)]; simp only [up_s, up_n, up_up, ne_eq, Nat.reduceEqDiff, not_false_eq_true])
          · rw [q1 3 (by decide)]; simp only [up_s, up_n, up_up, ne_eq, Nat.reduceEqDiff, not_false_eq_true]; rw [hr3]; simp only [up_s, up_n, up_up, ne_eq, Nat.reduceEqDiff, not_false_eq_true]
          · rw [q1 4 (by decide)]; simp only [up_s, up_n, up_up, ne_eq, Nat.reduceEqDiff, not_false_eq_true]; rw [hr4]; simp only [up_s, up_n, up_up, ne_eq, Nat.reduceEqDiff, not_false_eq_true]
          · rw [q1 5 (by decide)]; simp only [up_s, up_n, up_up, ne_eq, Nat.reduceEqDiff, not_false_eq_true]
          · rw [q1 6 (by decide)]; simp only [up_s, up_n, up_up, ne_eq, Nat.reduceEqDiff, not_false_eq_true]
          · rw [q1 7 (by decide)]; simp only [up_s, up_n, up_up, ne_eq, Nat.reduceEqDiff, not_false_eq_true]
          · rw [q1 21 (by decide)]; simp only [up_s, up_n, up_up, ne_eq, Nat.reduceEqDiff, not_false_eq_true]
          · intro i e0 e2 e3 e4 e5 e6 e7 e10 e21 e22 e27 e28 e29 e30 e31
            rw [q1 i e10]
            simp only [up_n, e5, e6, e7, e21, ne_eq, not_false_eq_true]
            rw [hI5 i e3 e4 e22 e27 e29 e30 e31]
            simp only [up_n, e0, e2, e3, e4, e28, ne_eq, not_false_eq_true]
          · intro i e11 e12 e13 e14 e15 e16 e17 e18 e19 e20 e38
            rw [q6 i e11 e12 e13 e14 e19 e38]
            exact hA5 i e15 e16 e17 e18 e20
      · refine v_ald0 (pc := 59) hJ dX11_song_59 ?_
        refine mg3 (pc := 60) hJ dX11_song_60 ?_
        try simp only [up_s, up_n, up_up, ne_eq, Nat.reduceEqDiff, not_false_eq_true]
        refine v_iret (pc := 63) hJ dX11_song_63 ⟨_, rfl, ?_⟩
        have hrun := readsF hR h56
        refine ⟨fun _ => ?_, fun q => absurd (by omega) q⟩
        rw [hrun]
        refine ⟨?_, ?_, rfl, rfl, rfl, ?_, ?_⟩
        · show I5 0 = 0
          exact (by rw [hI5 0 (by decide) (by decide) (by decide) (by decide) (by decide) (by decide) (by decide)]; simp only [up_s, up_n, up_up, ne_eq, Nat.reduceEqDiff, not_false_eq_true])
        · show I5 2 = 0
          exact (by rw [hI5 2 (by decide) (by decide) (by decide) (by decide) (by decide) (by decide) (by decide)]; simp only [up_s, up_n, up_up, ne_eq, Nat.reduceEqDiff, not_false_eq_true])
        · intro i e0 e2 e3 e4 e22 e27 e28 e29 e30 e31
          show I5 i = I i
          rw [hI5 i e3 e4 e22 e27 e29 e30 e31]
          simp only [up_n, e0, e2, e3, e4, e28, ne_eq, not_false_eq_true]
        · intro i e15 e16 e17 e18 e20
          exact hA5 i e15 e16 e17 e18 e20
