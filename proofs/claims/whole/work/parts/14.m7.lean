/-- reading a text: the place, chords, lines and size so far; roots, kinds, basses, lines of chords, the items -/
abbrev PS : Type := (Int × Int × Int × Int) × (Int → Int) × (Int → Int) × (Int → Int) × (Int → Int) × (Int → Int)
noncomputable def pst (f : Int → Int) : PS → (Int × Int) ⊕ PS
  | ((a, ch, ln, sz), R, K, B, L, S) =>
    if f a = 91 then (if ch = 60 then .inl (2, a) else match chordAt f (a + 1) with
      | .inl p => .inl (1, p)
      | .inr (ro, kd, ba, p) => .inr ((p, ch + 1, ln, sz + 1), zu R ch ro, zu K ch kd, zu B ch ba, zu L ch (ln - 1), zu S sz (-1 - ch)))
    else if f a ≠ 10 ∧ (f a < 32 ∨ 126 < f a ∨ f a = 93) then .inl (1, a)
    else if f a = 10 ∧ ln = 40 then .inl (2, a)
    else .inr ((a + 1, ch, (if f a = 10 then ln + 1 else ln), sz + 1), R, K, B, L, zu S sz (f a))
noncomputable def prun (f : Int → Int) (n : Int) : Nat → PS → (Int × Int) ⊕ PS
  | 0, s => .inr s
  | m + 1, s => if s.1.1 < n then (match pst f s with
    | .inl x => .inl x
    | .inr s2 => prun f n m s2) else .inr s
theorem prun_end {f : Int → Int} {n : Int} {m : Nat} {s : PS} (h : ¬ s.1.1 < n) : prun f n (m + 1) s = .inr s := by rw [prun, if_neg h]
theorem prun_l {f : Int → Int} {n : Int} {m : Nat} {s : PS} {x : Int × Int} (h : s.1.1 < n) (e : pst f s = .inl x) : prun f n (m + 1) s = .inl x := by rw [prun, if_pos h, e]
theorem prun_r {f : Int → Int} {n : Int} {m : Nat} {s s2 : PS} (h : s.1.1 < n) (e : pst f s = .inr s2) : prun f n (m + 1) s = prun f n m s2 := by rw [prun, if_pos h, e]
section PST
variable {f : Int → Int} {a ch ln sz : Int} {R K B L S : Int → Int}
theorem pst_eq : pst f ((a, ch, ln, sz), R, K, B, L, S) = (if f a = 91 then (if ch = 60 then .inl (2, a) else match chordAt f (a + 1) with
      | .inl p => .inl (1, p)
      | .inr (ro, kd, ba, p) => .inr ((p, ch + 1, ln, sz + 1), zu R ch ro, zu K ch kd, zu B ch ba, zu L ch (ln - 1), zu S sz (-1 - ch)))
    else if f a ≠ 10 ∧ (f a < 32 ∨ 126 < f a ∨ f a = 93) then .inl (1, a)
    else if f a = 10 ∧ ln = 40 then .inl (2, a)
    else .inr ((a + 1, ch, (if f a = 10 then ln + 1 else ln), sz + 1), R, K, B, L, zu S sz (f a))) := rfl
theorem pst_60 (h : f a = 91) (h2 : ch = 60) : pst f ((a, ch, ln, sz), R, K, B, L, S) = .inl (2, a) := by rw [pst_eq, if_pos h, if_pos h2]
theorem pst_cl {p : Int} (h : f a = 91) (h2 : ch ≠ 60) (h3 : chordAt f (a + 1) = .inl p) : pst f ((a, ch, ln, sz), R, K, B, L, S) = .inl (1, p) := by rw [pst_eq, if_pos h, if_neg h2, h3]
theorem pst_cr {ro kd ba p : Int} (h : f a = 91) (h2 : ch ≠ 60) (h3 : chordAt f (a + 1) = .inr (ro, kd, ba, p)) : pst f ((a, ch, ln, sz), R, K, B, L, S) = .inr ((p, ch + 1, ln, sz + 1), zu R ch ro, zu K ch kd, zu B ch ba, zu L ch (ln - 1), zu S sz (-1 - ch)) := by rw [pst_eq, if_pos h, if_neg h2, h3]
theorem pst_w1 (h : f a ≠ 91) (h2 : f a ≠ 10 ∧ (f a < 32 ∨ 126 < f a ∨ f a = 93)) : pst f ((a, ch, ln, sz), R, K, B, L, S) = .inl (1, a) := by rw [pst_eq, if_neg h, if_pos h2]
theorem pst_w2 (h : f a = 10) (h2 : ln = 40) : pst f ((a, ch, ln, sz), R, K, B, L, S) = .inl (2, a) := by rw [pst_eq, if_neg (by omega), if_neg (by omega), if_pos ⟨h, h2⟩]
theorem pst_10 (h : f a = 10) (h2 : ln ≠ 40) : pst f ((a, ch, ln, sz), R, K, B, L, S) = .inr ((a + 1, ch, ln + 1, sz + 1), R, K, B, L, zu S sz (f a)) := by rw [pst_eq, if_neg (by omega), if_neg (by omega), if_neg (by omega), if_pos h]
theorem pst_by (h : f a ≠ 10) (h2 : f a ≠ 91) (h3 : ¬ (f a < 32 ∨ 126 < f a ∨ f a = 93)) : pst f ((a, ch, ln, sz), R, K, B, L, S) = .inr ((a + 1, ch, ln, sz + 1), R, K, B, L, zu S sz (f a)) := by rw [pst_eq, if_neg h2, if_neg (by omega), if_neg (by omega), if_neg h]
end PST
def stM (I : Nat → Int) (A : Nat → Int → Int) : PS := ((I 27, I 30, I 31, I 22), A 15, A 16, A 17, A 18, A 20)
def readsP (I : Nat → Int) (A : Nat → Int → Int) (res : (Int × Int) ⊕ PS) (r : Int) (u : sM) : Prop :=
  (∀ k, k ≠ 3 → k ≠ 4 → k ≠ 22 → k ≠ 27 → k ≠ 29 → k ≠ 30 → k ≠ 31 → u.1 k = I k) ∧ (∀ k, k ≠ 15 → k ≠ 16 → k ≠ 17 → k ≠ 18 → k ≠ 20 → u.2 k = A k) ∧ match res with
  | .inl (k, p) => r = 0 ∧ u.1 3 = k ∧ u.1 4 = p
  | .inr s => r = 1 ∧ stM u.1 u.2 = s ∧ u.1 3 = I 3 ∧ u.1 4 = I 4
theorem namedR {I : Nat → Int} {A : Nat → Int → Int} {res : Int ⊕ (Int × Int × Int × Int)} {r : Int} {u : sM} (h : namedP I A res r u) : inR r := by
  obtain ⟨-, -, h⟩ := h
  rcases res with p | ⟨ro, kd, ba, p⟩
  · have := h.1; omega
  · have := h.1; omega
theorem namedT {I : Nat → Int} {A : Nat → Int → Int} {res : Int ⊕ (Int × Int × Int × Int)} {r : Int} {u : sM} (h : namedP I A res r u) (hr : r ≠ 0) : ∃ ro kd ba p, res = .inr (ro, kd, ba, p) ∧ u.1 27 = p ∧ u.1 3 = I 3 ∧ u.1 4 = I 4 ∧ u.2 15 = zu (A 15) (I 30) ro ∧ u.2 16 = zu (A 16) (I 30) kd ∧ u.2 17 = zu (A 17) (I 30) ba := by
  obtain ⟨-, -, h⟩ := h
  rcases res with p | ⟨ro, kd, ba, p⟩
  · exact absurd h.1 hr
  · exact ⟨ro, kd, ba, p, rfl, h.2⟩
theorem namedF {I : Nat → Int} {A : Nat → Int → Int} {res : Int ⊕ (Int × Int × Int × Int)} {r : Int} {u : sM} (h : namedP I A res r u) (hr : r = 0) : ∃ p, res = .inl p ∧ u.1 3 = 1 ∧ u.1 4 = p := by
  obtain ⟨-, -, h⟩ := h
  rcases res with p | ⟨ro, kd, ba, p⟩
  · exact ⟨p, rfl, h.2⟩
  · have := h.1; omega
theorem closeAt_in {T : Int → Int} {n p r k b ro kd ba q : Int} (hp : 0 ≤ p) (h : closeAt (bA T n) p r k b = .inr (ro, kd, ba, q)) : p + 1 = q ∧ q ≤ n ∧ ro = r ∧ kd = k ∧ ba = b := by
  unfold closeAt at h
  split at h
  · rename_i h1
    injection h with h2
    simp only [Prod.mk.injEq] at h2
    obtain ⟨a1, a2, a3, a4⟩ := h2
    refine ⟨a4, ?_, a1.symm, a2.symm, a3.symm⟩
    unfold bA at h1
    split at h1
    · omega
    · omega
  · cases h
theorem chordAt_in {T : Int → Int} {n p ro kd ba q : Int} (hp : 0 ≤ p) (h : chordAt (bA T n) p = .inr (ro, kd, ba, q)) : p < q ∧ q ≤ n ∧ (-15 ≤ ro ∧ ro ≤ 19) ∧ (0 ≤ kd ∧ kd ≤ 13) ∧ (-15 ≤ ba ∧ ba ≤ 19) := by
  unfold chordAt at h
  split at h
  · have hn1 := ncnt_in (bA T n) p
    have hk := kbN_lt (bA T n) (p + 1 + ncnt (bA T n) p) 14 (Nat.le_refl _)
    have hv := nval_in (bA T n) p
    unfold tailAt at h
    split at h
    · split at h
      · have hn2 := ncnt_in (bA T n) (p + 1 + ncnt (bA T n) p + ((txS (kdAt (bA T n) (p + 1 + ncnt (bA T n) p))).length : Int) + 1)
        have hv2 := nval_in (bA T n) (p + 1 + ncnt (bA T n) p + ((txS (kdAt (bA T n) (p + 1 + ncnt (bA T n) p))).length : Int) + 1)
        obtain ⟨a1, a2, a3, a4, a5⟩ := closeAt_in (by omega) h
        unfold kdAt at a4
        subst a3; subst a4; subst a5
        exact ⟨by omega, a2, hv, ⟨by omega, by omega⟩, hv2⟩
      · cases h
    · obtain ⟨a1, a2, a3, a4, a5⟩ := closeAt_in (by omega) h
      unfold kdAt at a4
      subst a3; subst a4; subst a5
      exact ⟨by omega, a2, hv, ⟨by omega, by omega⟩, hv⟩
  · cases h
set_option maxHeartbeats 4000000 in
set_option maxRecDepth 100000 in
theorem qX11_reads {l : Launch} {D : va_G} {cI : ClassId} {ad : Nat → Nat} {O : OT} {adK adV : Nat → Nat} (hO : OG O adK adV) {I : Nat → Int} {A : Nat → Int → Int}  (h28 : 0 ≤ I 28 ∧ I 28 ≤ 1200) (hT : ∀ j, 0 ≤ j → j < I 28 → 0 ≤ A 1 j ∧ A 1 j ≤ 255) : MC l D cI ad O yX11_reads cX11_reads 2 (some .boolean) 7 [.ref (ad 0)] (I, A) (pI fun r u2 => readsP I A (prun (bA (A 1) (I 28)) (I 28) 1201 ((0, 0, 1, 0), A 15, A 16, A 17, A 18, A 20)) r u2) := by
  refine ct_intro (own := RX11) (by decide) rfl hO.1 (Nat.le_of_ble_eq_true rfl) (by simp [Value.category]) (fun X J hJ => ?_)
  obtain ⟨f, hf⟩ : ∃ f, f = bA (A 1) (I 28) := ⟨_, rfl⟩
  have hfi : ∀ k, 0 ≤ k → 0 ≤ f k ∧ f k ≤ 255 := fun k hk => by rw [hf]; exact bA_in hT hk
  have hfT : ∀ k, k < I 28 → A 1 k = f k := fun k hk => by rw [hf]; unfold bA; rw [if_pos hk]
  rw [← hf] at hJ
  have hNm : ∀ {I1 : Nat → Int} {A1 : Nat → Int → Int}, (0 ≤ I1 27 ∧ I1 27 ≤ 1210) → (0 ≤ I1 30 ∧ I1 30 < 60) → I1 28 = I 28 → A1 1 = A 1 → MC l D cI ad O yX11_named cX11_named 3 (some .boolean) 6 [.ref (ad 0)] (I1, A1) (pI fun r u2 => namedP I1 A1 (chordAt f (I1 27)) r u2) := fun {I1 A1} h1 h2 he ha => by
    have := qX11_named (l := l) (D := D) (cI := cI) (ad := ad) hO (I := I1) (A := A1) (by rw [he]; exact h28) h1 (by rw [he, ha]; exact hT) h2
    rw [he, ha, ← hf] at this
    exact this
  obtain ⟨fin, hfin⟩ : ∃ z, z = prun f (I 28) 1201 ((0, 0, 1, 0), A 15, A 16, A 17, A 18, A 20) := ⟨_, rfl⟩
  rw [← hfin] at hJ
  have lp : ∀ (m : Nat) (a1 : Option Value) (I1 : Nat → Int) (A1 : Nat → Int → Int), (∀ k, k ≠ 3 → k ≠ 4 → k ≠ 22 → k ≠ 27 → k ≠ 29 → k ≠ 30 → k ≠ 31 → I1 k = I k) → (∀ k, k ≠ 15 → k ≠ 16 → k ≠ 17 → k ≠ 18 → k ≠ 20 → A1 k = A k) → I1 28 = I 28 → A1 1 = A 1 → I1 3 = I 3 → I1 4 = I 4 → prun f (I 28) m (stM I1 A1) = fin → 0 ≤ I1 27 → I1 27 ≤ I 28 → (0 ≤ I1 22 ∧ I1 22 ≤ I1 27) → (0 ≤ I1 30 ∧ I1 30 ≤ 60) → (1 ≤ I1 31 ∧ I1 31 ≤ 40) → I 28 - I1 27 < (m : Int) → J 20 [some (.ref (ad 0)), a1] [] (I1, A1) := by
    intro m
    induction m with
    | zero => intro a1 I1 A1 hI hA e28 e1 e3 e4 hE b27 b27b b22 b30 b31 hm; exfalso; omega
    | succ m ih =>
      intro a1 I1 A1 hI hA e28 e1 e3 e4 hE b27 b27b b22 b30 b31 hm
      refine v_ald0 (pc := 20) hJ dX11_reads_20 ?_
      refine mg27 (pc := 21) hJ dX11_reads_21 ?_
      refine v_ald0 (pc := 24) hJ dX11_reads_24 ?_
      refine mg28 (pc := 25) hJ dX11_reads_25 ?_
      refine v_icmp_ge (tgt := 246) (pc := 28) hJ dX11_reads_28 (by decide) (by omega) (by omega) (fun h28 => ?_) (fun h28 => ?_)
      · refine v_iconst (pc := 246) hJ dX11_reads_246 ?_
        refine v_zret (pc := 247) hJ rfl dX11_reads_247 ⟨_, rfl, ?_⟩
        rw [← hE, prun_end (s := stM I1 A1) (by show ¬ I1 27 < I 28; omega)]
        exact ⟨hI, hA, rfl, rfl, e3, e4⟩
      · refine v_ald0 (pc := 31) hJ dX11_reads_31 ?_
        refine mg1 (pc := 32) hJ dX11_reads_32 ?_
        refine v_ald0 (pc := 35) hJ dX11_reads_35 ?_
        refine mg27 (pc := 36) hJ dX11_reads_36 ?_
        refine ma1 (pc := 39) hJ (by omega) (by omega) dX11_reads_39 ?_
        rw [e1, hfT _ (by omega)]
        have hb := hfi (I1 27) b27
        refine v_ist1 (pc := 40) hJ dX11_reads_40 (by decide) ?_
        refine v_ild1 (pc := 41) hJ dX11_reads_41 ?_
        refine v_bipush (pc := 42) hJ dX11_reads_42 (by decide) ?_
        refine v_icmp_ne (tgt := 138) (pc := 44) hJ dX11_reads_44 (by decide) (by omega) (by omega) (fun h44 => ?_) (fun h44 => ?_)
        · refine v_ild1 (pc := 138) hJ dX11_reads_138 ?_
          refine v_bipush (pc := 139) hJ dX11_reads_139 (by decide) ?_
          refine v_icmp_eq (tgt := 172) (pc := 141) hJ dX11_reads_141 (by decide) (by omega) (by omega) (fun h141 => ?_) (fun h141 => ?_)
          · refine v_ild1 (pc := 172) hJ dX11_reads_172 ?_
            refine v_bipush (pc := 173) hJ dX11_reads_173 (by decide) ?_
            refine v_icmp_ne (tgt := 197) (pc := 175) hJ dX11_reads_175 (by decide) (by omega) (by omega) (fun h175 => ?_) (fun h175 => ?_)
            · exfalso; omega
            · refine v_ald0 (pc := 178) hJ dX11_reads_178 ?_
              refine mg31 (pc := 179) hJ dX11_reads_179 ?_
              refine v_bipush (pc := 182) hJ dX11_reads_182 (by decide) ?_
              refine v_icmp_ne (tgt := 197) (pc := 184) hJ dX11_reads_184 (by decide) (by omega) (by omega) (fun h184 => ?_) (fun h184 => ?_)
              · refine v_ild1 (pc := 197) hJ dX11_reads_197 ?_
                refine v_bipush (pc := 198) hJ dX11_reads_198 (by decide) ?_
                refine v_icmp_ne (tgt := 213) (pc := 200) hJ dX11_reads_200 (by decide) (by omega) (by omega) (fun h200 => ?_) (fun h200 => ?_)
                · exfalso; omega
                · refine v_ald0 (pc := 203) hJ dX11_reads_203 ?_
                  refine v_dup (pc := 204) hJ dX11_reads_204 rfl ?_
                  refine mg31 (pc := 205) hJ dX11_reads_205 ?_
                  refine v_iconst (pc := 208) hJ dX11_reads_208 ?_
                  refine v_iadd (pc := 209) hJ dX11_reads_209 ?_
                  refine mp31 (pc := 210) hJ dX11_reads_210 ?_
                  refine v_ald0 (pc := 213) hJ dX11_reads_213 ?_
                  refine mg20 (pc := 214) hJ dX11_reads_214 ?_
                  refine v_ald0 (pc := 217) hJ dX11_reads_217 ?_
                  refine mg22 (pc := 218) hJ dX11_reads_218 ?_
                  try simp only [up_s, up_n, up_up, ne_eq, Nat.reduceEqDiff, not_false_eq_true]
                  refine v_ild1 (pc := 221) hJ dX11_reads_221 ?_
                  refine ms20 (pc := 222) hJ (by omega) (by omega) dX11_reads_222 ?_
                  refine v_ald0 (pc := 223) hJ dX11_reads_223 ?_
                  refine v_dup (pc := 224) hJ dX11_reads_224 rfl ?_
                  refine mg22 (pc := 225) hJ dX11_reads_225 ?_
                  try simp only [up_s, up_n, up_up, ne_eq, Nat.reduceEqDiff, not_false_eq_true]
                  refine v_iconst (pc := 228) hJ dX11_reads_228 ?_
                  refine v_iadd (pc := 229) hJ dX11_reads_229 ?_
                  refine mp22 (pc := 230) hJ dX11_reads_230 ?_
                  refine v_ald0 (pc := 233) hJ dX11_reads_233 ?_
                  refine v_dup (pc := 234) hJ dX11_reads_234 rfl ?_
                  refine mg27 (pc := 235) hJ dX11_reads_235 ?_
                  try simp only [up_s, up_n, up_up, ne_eq, Nat.reduceEqDiff, not_false_eq_true]
                  refine v_iconst (pc := 238) hJ dX11_reads_238 ?_
                  refine v_iadd (pc := 239) hJ dX11_reads_239 ?_
                  refine mp27 (pc := 240) hJ dX11_reads_240 ?_
                  refine v_goto (tgt := 20) (pc := 243) hJ dX11_reads_243 (by decide) ?_
                  first
                    | rw [prun_r (s := stM I1 A1) (by show I1 27 < I 28; omega) (pst_by (by omega) (by omega) (by omega))] at hE
                    | rw [prun_r (s := stM I1 A1) (by show I1 27 < I 28; omega) (pst_10 (by omega) (by omega))] at hE
                  refine ih _ _ _ ?_ ?_ ?_ ?_ ?_ ?_ ?_ ?_ ?_ ?_ ?_ ?_ ?_
                  · intro k h1 h2 h3 h4 h5 h6 h7
                    simp only [up_n, h1, h2, h3, h4, h5, h6, h7, ne_eq, not_false_eq_true]
                    exact hI k h1 h2 h3 h4 h5 h6 h7
                  · intro k h1 h2 h3 h4 h5
                    simp only [up_n, h1, h2, h3, h4, h5, ne_eq, not_false_eq_true]
                    exact hA k h1 h2 h3 h4 h5
                  · simp only [up_s, up_n, up_up, ne_eq, Nat.reduceEqDiff, not_false_eq_true]; exact e28
                  · simp only [up_s, up_n, up_up, ne_eq, Nat.reduceEqDiff, not_false_eq_true]; exact e1
                  · simp only [up_s, up_n, up_up, ne_eq, Nat.reduceEqDiff, not_false_eq_true]; exact e3
                  · simp only [up_s, up_n, up_up, ne_eq, Nat.reduceEqDiff, not_false_eq_true]; exact e4
                  · rw [← hE]
                    unfold stM
                    simp only [up_s, up_n, up_up, ne_eq, Nat.reduceEqDiff, not_false_eq_true]
                  all_goals simp only [up_s, up_n, up_up, ne_eq, Nat.reduceEqDiff, not_false_eq_true]
                  all_goals omega
              · refine v_ald0 (pc := 187) hJ dX11_reads_187 ?_
                refine v_iconst (pc := 188) hJ dX11_reads_188 ?_
                refine v_ald0 (pc := 189) hJ dX11_reads_189 ?_
                refine mg27 (pc := 190) hJ dX11_reads_190 ?_
                refine v_cV2i (pc := 193) (q0 := 0) (ci := 8) hJ rfl rfl lkX11_146 (qX11_wrong hO) (Nat.le_of_ble_eq_true rfl) (rOk_L (by decide) (by decide)) dX11_reads_193 (fun r193 u193 g193 => ?_)
                obtain ⟨rfl, rfl⟩ := g193
                refine v_zret (pc := 196) hJ rfl dX11_reads_196 ⟨_, rfl, ?_⟩
                rw [← hE, prun_l (s := stM I1 A1) (by show I1 27 < I 28; omega) (show pst f (stM I1 A1) = .inl (2, I1 27) from pst_w2 (by omega) (by omega))]
                refine ⟨fun k h1 h2 h3 h4 h5 h6 h7 => ?_, fun k h1 h2 h3 h4 h5 => ?_, ?_⟩
                · show va_up (va_up I1 3 2) 4 (I1 27) k = I k
                  rw [up_n h2, up_n h1]; exact hI k h1 h2 h3 h4 h5 h6 h7
                · exact hA k h1 h2 h3 h4 h5
                · exact ⟨rfl, by simp only [up_s, up_n, up_up, ne_eq, Nat.reduceEqDiff, not_false_eq_true], by simp only [up_s, up_n, up_up, ne_eq, Nat.reduceEqDiff, not_false_eq_true]⟩
          · refine v_ild1 (pc := 144) hJ dX11_reads_144 ?_
            refine v_bipush (pc := 145) hJ dX11_reads_145 (by decide) ?_
            refine v_icmp_lt (tgt := 162) (pc := 147) hJ dX11_reads_147 (by decide) (by omega) (by omega) (fun h147 => ?_) (fun h147 => ?_)
            · refine v_ald0 (pc := 162) hJ dX11_reads_162 ?_
              refine v_iconst (pc := 163) hJ dX11_reads_163 ?_
              refine v_ald0 (pc := 164) hJ dX11_reads_164 ?_
              refine mg27 (pc := 165) hJ dX11_reads_165 ?_
              refine v_cV2i (pc := 168) (q0 := 0) (ci := 8) hJ rfl rfl lkX11_146 (qX11_wrong hO) (Nat.le_of_ble_eq_true rfl) (rOk_L (by decide) (by decide)) dX11_reads_168 (fun r168 u168 g168 => ?_)
              obtain ⟨rfl, rfl⟩ := g168
              refine v_zret (pc := 171) hJ rfl dX11_reads_171 ⟨_, rfl, ?_⟩
              rw [← hE, prun_l (s := stM I1 A1) (by show I1 27 < I 28; omega) (show pst f (stM I1 A1) = .inl (1, I1 27) from pst_w1 (by omega) (by omega))]
              refine ⟨fun k h1 h2 h3 h4 h5 h6 h7 => ?_, fun k h1 h2 h3 h4 h5 => ?_, ?_⟩
              · show va_up (va_up I1 3 1) 4 (I1 27) k = I k
                rw [up_n h2, up_n h1]; exact hI k h1 h2 h3 h4 h5 h6 h7
              · exact hA k h1 h2 h3 h4 h5
              · exact ⟨rfl, by simp only [up_s, up_n, up_up, ne_eq, Nat.reduceEqDiff, not_false_eq_true], by simp only [up_s, up_n, up_up, ne_eq, Nat.reduceEqDiff, not_false_eq_true]⟩
            · refine v_ild1 (pc := 150) hJ dX11_reads_150 ?_
              refine v_bipush (pc := 151) hJ dX11_reads_151 (by decide) ?_
              refine v_icmp_gt (tgt := 162) (pc := 153) hJ dX11_reads_153 (by decide) (by omega) (by omega) (fun h153 => ?_) (fun h153 => ?_)
              · refine v_ald0 (pc := 162) hJ dX11_reads_162 ?_
                refine v_iconst (pc := 163) hJ dX11_reads_163 ?_
                refine v_ald0 (pc := 164) hJ dX11_reads_164 ?_
                refine mg27 (pc := 165) hJ dX11_reads_165 ?_
                refine v_cV2i (pc := 168) (q0 := 0) (ci := 8) hJ rfl rfl lkX11_146 (qX11_wrong hO) (Nat.le_of_ble_eq_true rfl) (rOk_L (by decide) (by decide)) dX11_reads_168 (fun r168 u168 g168 => ?_)
                obtain ⟨rfl, rfl⟩ := g168
                refine v_zret (pc := 171) hJ rfl dX11_reads_171 ⟨_, rfl, ?_⟩
                rw [← hE, prun_l (s := stM I1 A1) (by show I1 27 < I 28; omega) (show pst f (stM I1 A1) = .inl (1, I1 27) from pst_w1 (by omega) (by omega))]
                refine ⟨fun k h1 h2 h3 h4 h5 h6 h7 => ?_, fun k h1 h2 h3 h4 h5 => ?_, ?_⟩
                · show va_up (va_up I1 3 1) 4 (I1 27) k = I k
                  rw [up_n h2, up_n h1]; exact hI k h1 h2 h3 h4 h5 h6 h7
                · exact hA k h1 h2 h3 h4 h5
                · exact ⟨rfl, by simp only [up_s, up_n, up_up, ne_eq, Nat.reduceEqDiff, not_false_eq_true], by simp only [up_s, up_n, up_up, ne_eq, Nat.reduceEqDiff, not_false_eq_true]⟩
              · refine v_ild1 (pc := 156) hJ dX11_reads_156 ?_
                refine v_bipush (pc := 157) hJ dX11_reads_157 (by decide) ?_
                refine v_icmp_ne (tgt := 172) (pc := 159) hJ dX11_reads_159 (by decide) (by omega) (by omega) (fun h159 => ?_) (fun h159 => ?_)
                · refine v_ild1 (pc := 172) hJ dX11_reads_172 ?_
                  refine v_bipush (pc := 173) hJ dX11_reads_173 (by decide) ?_
                  refine v_icmp_ne (tgt := 197) (pc := 175) hJ dX11_reads_175 (by decide) (by omega) (by omega) (fun h175 => ?_) (fun h175 => ?_)
                  · refine v_ild1 (pc := 197) hJ dX11_reads_197 ?_
                    refine v_bipush (pc := 198) hJ dX11_reads_198 (by decide) ?_
                    refine v_icmp_ne (tgt := 213) (pc := 200) hJ dX11_reads_200 (by decide) (by omega) (by omega) (fun h200 => ?_) (fun h200 => ?_)
                    · refine v_ald0 (pc := 213) hJ dX11_reads_213 ?_
                      refine mg20 (pc := 214) hJ dX11_reads_214 ?_
                      refine v_ald0 (pc := 217) hJ dX11_reads_217 ?_
                      refine mg22 (pc := 218) hJ dX11_reads_218 ?_
                      refine v_ild1 (pc := 221) hJ dX11_reads_221 ?_
                      refine ms20 (pc := 222) hJ (by omega) (by omega) dX11_reads_222 ?_
                      refine v_ald0 (pc := 223) hJ dX11_reads_223 ?_
                      refine v_dup (pc := 224) hJ dX11_reads_224 rfl ?_
                      refine mg22 (pc := 225) hJ dX11_reads_225 ?_
                      try simp only [up_s, up_n, up_up, ne_eq, Nat.reduceEqDiff, not_false_eq_true]
                      refine v_iconst (pc := 228) hJ dX11_reads_228 ?_
                      refine v_iadd (pc := 229) hJ dX11_reads_229 ?_
                      refine mp22 (pc := 230) hJ dX11_reads_230 ?_
                      refine v_ald0 (pc := 233) hJ dX11_reads_233 ?_
                      refine v_dup (pc := 234) hJ dX11_reads_234 rfl ?_
                      refine mg27 (pc := 235) hJ dX11_reads_235 ?_
                      try simp only [up_s, up_n, up_up, ne_eq, Nat.reduceEqDiff, not_false_eq_true]
                      refine v_iconst (pc := 238) hJ dX11_reads_238 ?_
                      refine v_iadd (pc := 239) hJ dX11_reads_239 ?_
                      refine mp27 (pc := 240) hJ dX11_reads_240 ?_
                      refine v_goto (tgt := 20) (pc := 243) hJ dX11_reads_243 (by decide) ?_
                      first
                        | rw [prun_r (s := stM I1 A1) (by show I1 27 < I 28; omega) (pst_by (by omega) (by omega) (by omega))] at hE
                        | rw [prun_r (s := stM I1 A1) (by show I1 27 < I 28; omega) (pst_10 (by omega) (by omega))] at hE
                      refine ih _ _ _ ?_ ?_ ?_ ?_ ?_ ?_ ?_ ?_ ?_ ?_ ?_ ?_ ?_
                      · intro k h1 h2 h3 h4 h5 h6 h7
                        simp only [up_n, h1, h2, h3, h4, h5, h6, h7, ne_eq, not_false_eq_true]
                        exact hI k h1 h2 h3 h4 h5 h6 h7
                      · intro k h1 h2 h3 h4 h5
                        simp only [up_n, h1, h2, h3, h4, h5, ne_eq, not_false_eq_true]
                        exact hA k h1 h2 h3 h4 h5
                      · simp only [up_s, up_n, up_up, ne_eq, Nat.reduceEqDiff, not_false_eq_true]; exact e28
                      · simp only [up_s, up_n, up_up, ne_eq, Nat.reduceEqDiff, not_false_eq_true]; exact e1
                      · simp only [up_s, up_n, up_up, ne_eq, Nat.reduceEqDiff, not_false_eq_true]; exact e3
                      · simp only [up_s, up_n, up_up, ne_eq, Nat.reduceEqDiff, not_false_eq_true]; exact e4
                      · rw [← hE]
                        unfold stM
                        simp only [up_s, up_n, up_up, ne_eq, Nat.reduceEqDiff, not_false_eq_true]
                      all_goals simp only [up_s, up_n, up_up, ne_eq, Nat.reduceEqDiff, not_false_eq_true]
                      all_goals omega
                    · exfalso; omega
                  · exfalso; omega
                · refine v_ald0 (pc := 162) hJ dX11_reads_162 ?_
                  refine v_iconst (pc := 163) hJ dX11_reads_163 ?_
                  refine v_ald0 (pc := 164) hJ dX11_reads_164 ?_
                  refine mg27 (pc := 165) hJ dX11_reads_165 ?_
                  refine v_cV2i (pc := 168) (q0 := 0) (ci := 8) hJ rfl rfl lkX11_146 (qX11_wrong hO) (Nat.le_of_ble_eq_true rfl) (rOk_L (by decide) (by decide)) dX11_reads_168 (fun r168 u168 g168 => ?_)
                  obtain ⟨rfl, rfl⟩ := g168
                  refine v_zret (pc := 171) hJ rfl dX11_reads_171 ⟨_, rfl, ?_⟩
                  rw [← hE, prun_l (s := stM I1 A1) (by show I1 27 < I 28; omega) (show pst f (stM I1 A1) = .inl (1, I1 27) from pst_w1 (by omega) (by omega))]
                  refine ⟨fun k h1 h2 h3 h4 h5 h6 h7 => ?_, fun k h1 h2 h3 h4 h5 => ?_, ?_⟩
                  · show va_up (va_up I1 3 1) 4 (I1 27) k = I k
                    rw [up_n h2, up_n h1]; exact hI k h1 h2 h3 h4 h5 h6 h7
                  · exact hA k h1 h2 h3 h4 h5
                  · exact ⟨rfl, by simp only [up_s, up_n, up_up, ne_eq, Nat.reduceEqDiff, not_false_eq_true], by simp only [up_s, up_n, up_up, ne_eq, Nat.reduceEqDiff, not_false_eq_true]⟩
        · refine v_ald0 (pc := 47) hJ dX11_reads_47 ?_
          refine mg30 (pc := 48) hJ dX11_reads_48 ?_
          refine v_bipush (pc := 51) hJ dX11_reads_51 (by decide) ?_
          refine v_icmp_ne (tgt := 66) (pc := 53) hJ dX11_reads_53 (by decide) (by omega) (by omega) (fun h53 => ?_) (fun h53 => ?_)
          · refine v_ald0 (pc := 66) hJ dX11_reads_66 ?_
            refine v_dup (pc := 67) hJ dX11_reads_67 rfl ?_
            refine mg27 (pc := 68) hJ dX11_reads_68 ?_
            refine v_iconst (pc := 71) hJ dX11_reads_71 ?_
            refine v_iadd (pc := 72) hJ dX11_reads_72 ?_
            refine mp27 (pc := 73) hJ dX11_reads_73 ?_
            refine v_ald0 (pc := 76) hJ dX11_reads_76 ?_
            refine v_cV0i (pc := 77) (q0 := 0) (ci := 8) hJ rfl rfl lkX11_187 (hNm (by (try simp only [up_s, up_n, up_up, ne_eq, Nat.reduceEqDiff, not_false_eq_true]); omega) (by (try simp only [up_s, up_n, up_up, ne_eq, Nat.reduceEqDiff, not_false_eq_true]); omega) (by simp only [up_s, up_n, up_up, ne_eq, Nat.reduceEqDiff, not_false_eq_true]; exact e28) e1) (Nat.le_of_ble_eq_true rfl) (rOk_L (by decide) (by decide)) dX11_reads_77 (fun r77 u77 g77 => ?_)
            have hNP := g77
            obtain ⟨I7, A7⟩ := u77
            obtain ⟨hI7, hA7, -⟩ := g77
            dsimp only at hI7 hA7
            simp only [up_s, up_n, up_up, ne_eq, Nat.reduceEqDiff, not_false_eq_true] at hNP
            have e30 : I7 30 = I1 30 := by rw [hI7 30 (by decide) (by decide) (by decide) (by decide)]; simp only [up_s, up_n, up_up, ne_eq, Nat.reduceEqDiff, not_false_eq_true]
            have e31 : I7 31 = I1 31 := by rw [hI7 31 (by decide) (by decide) (by decide) (by decide)]; simp only [up_s, up_n, up_up, ne_eq, Nat.reduceEqDiff, not_false_eq_true]
            have e22 : I7 22 = I1 22 := by rw [hI7 22 (by decide) (by decide) (by decide) (by decide)]; simp only [up_s, up_n, up_up, ne_eq, Nat.reduceEqDiff, not_false_eq_true]
            have e18 : A7 18 = A1 18 := hA7 18 (by decide) (by decide) (by decide)
            have e20 : A7 20 = A1 20 := hA7 20 (by decide) (by decide) (by decide)
            try simp only [up_s, up_n, up_up, ne_eq, Nat.reduceEqDiff, not_false_eq_true]
            refine v_if_ne (tgt := 85) (pc := 80) hJ dX11_reads_80 (by decide) (namedR hNP) (fun h80 => ?_) (fun h80 => ?_)
            · refine v_ald0 (pc := 85) hJ dX11_reads_85 ?_
              refine mg18 (pc := 86) hJ dX11_reads_86 ?_
              refine v_ald0 (pc := 89) hJ dX11_reads_89 ?_
              refine mg30 (pc := 90) hJ dX11_reads_90 ?_
              try simp only [up_s, up_n, up_up, ne_eq, Nat.reduceEqDiff, not_false_eq_true]
              refine v_ald0 (pc := 93) hJ dX11_reads_93 ?_
              refine mg31 (pc := 94) hJ dX11_reads_94 ?_
              try simp only [up_s, up_n, up_up, ne_eq, Nat.reduceEqDiff, not_false_eq_true]
              refine v_iconst (pc := 97) hJ dX11_reads_97 ?_
              refine v_isub (pc := 98) hJ dX11_reads_98 ?_
              refine ms18 (pc := 99) hJ (by omega) (by omega) dX11_reads_99 ?_
              refine v_ald0 (pc := 100) hJ dX11_reads_100 ?_
              refine mg20 (pc := 101) hJ dX11_reads_101 ?_
              refine v_ald0 (pc := 104) hJ dX11_reads_104 ?_
              refine mg22 (pc := 105) hJ dX11_reads_105 ?_
              try simp only [up_s, up_n, up_up, ne_eq, Nat.reduceEqDiff, not_false_eq_true]
              refine v_iconst (pc := 108) hJ dX11_reads_108 ?_
              refine v_ald0 (pc := 109) hJ dX11_reads_109 ?_
              refine mg30 (pc := 110) hJ dX11_reads_110 ?_
              try simp only [up_s, up_n, up_up, ne_eq, Nat.reduceEqDiff, not_false_eq_true]
              refine v_isub (pc := 113) hJ dX11_reads_113 ?_
              refine ms20 (pc := 114) hJ (by omega) (by omega) dX11_reads_114 ?_
              refine v_ald0 (pc := 115) hJ dX11_reads_115 ?_
              refine v_dup (pc := 116) hJ dX11_reads_116 rfl ?_
              refine mg22 (pc := 117) hJ dX11_reads_117 ?_
              try simp only [up_s, up_n, up_up, ne_eq, Nat.reduceEqDiff, not_false_eq_true]
              refine v_iconst (pc := 120) hJ dX11_reads_120 ?_
              refine v_iadd (pc := 121) hJ dX11_reads_121 ?_
              refine mp22 (pc := 122) hJ dX11_reads_122 ?_
              refine v_ald0 (pc := 125) hJ dX11_reads_125 ?_
              refine v_dup (pc := 126) hJ dX11_reads_126 rfl ?_
              refine mg30 (pc := 127) hJ dX11_reads_127 ?_
              try simp only [up_s, up_n, up_up, ne_eq, Nat.reduceEqDiff, not_false_eq_true]
              refine v_iconst (pc := 130) hJ dX11_reads_130 ?_
              refine v_iadd (pc := 131) hJ dX11_reads_131 ?_
              refine mp30 (pc := 132) hJ dX11_reads_132 ?_
              refine v_goto (tgt := 20) (pc := 135) hJ dX11_reads_135 (by decide) ?_
              obtain ⟨ro, kd, ba, p, hc, q27, q3, q4, q15, q16, q17⟩ := namedT hNP h80
              have hci := chordAt_in (T := A 1) (n := I 28) (p := I1 27 + 1) (by omega) (by rw [← hf]; exact hc)
              dsimp only at q27 q3 q4 q15 q16 q17
              simp only [up_s, up_n, up_up, ne_eq, Nat.reduceEqDiff, not_false_eq_true] at q3 q4 q15 q16 q17
              rw [prun_r (s := stM I1 A1) (s2 := ((p, I1 30 + 1, I1 31, I1 22 + 1), zu (A1 15) (I1 30) ro, zu (A1 16) (I1 30) kd, zu (A1 17) (I1 30) ba, zu (A1 18) (I1 30) (I1 31 - 1), zu (A1 20) (I1 22) (-1 - I1 30))) (by show I1 27 < I 28; omega) (pst_cr h44 h53 hc)] at hE
              refine ih _ _ _ ?_ ?_ ?_ ?_ ?_ ?_ ?_ ?_ ?_ ?_ ?_ ?_ ?_
              · intro k h1 h2 h3 h4 h5 h6 h7
                simp only [up_n, h1, h2, h3, h4, h5, h6, h7, ne_eq, not_false_eq_true]
                rw [hI7 k h1 h2 h4 h5, up_n h4]; exact hI k h1 h2 h3 h4 h5 h6 h7
              · intro k h1 h2 h3 h4 h5
                simp only [up_n, h1, h2, h3, h4, h5, ne_eq, not_false_eq_true]
                rw [hA7 k h1 h2 h3]; exact hA k h1 h2 h3 h4 h5
              · simp only [up_s, up_n, up_up, ne_eq, Nat.reduceEqDiff, not_false_eq_true]; rw [hI7 28 (by decide) (by decide) (by decide) (by decide)]; simp only [up_s, up_n, up_up, ne_eq, Nat.reduceEqDiff, not_false_eq_true]; exact e28
              · simp only [up_s, up_n, up_up, ne_eq, Nat.reduceEqDiff, not_false_eq_true]; rw [hA7 1 (by decide) (by decide) (by decide)]; exact e1
              · simp only [up_s, up_n, up_up, ne_eq, Nat.reduceEqDiff, not_false_eq_true]; omega
              · simp only [up_s, up_n, up_up, ne_eq, Nat.reduceEqDiff, not_false_eq_true]; omega
              · rw [← hE]
                unfold stM
                simp only [up_s, up_n, up_up, ne_eq, Nat.reduceEqDiff, not_false_eq_true, q27, q15, q16, q17, e18, e20, e30, e31, e22]
              all_goals simp only [up_s, up_n, up_up, ne_eq, Nat.reduceEqDiff, not_false_eq_true]
              all_goals omega
            · refine v_iconst (pc := 83) hJ dX11_reads_83 ?_
              refine v_zret (pc := 84) hJ rfl dX11_reads_84 ⟨_, rfl, ?_⟩
              obtain ⟨p, hc, hk3, hk4⟩ := namedF hNP h80
              rw [← hE, prun_l (s := stM I1 A1) (by show I1 27 < I 28; omega) (show pst f (stM I1 A1) = .inl (1, p) from pst_cl h44 h53 hc)]
              refine ⟨fun k h1 h2 h3 h4 h5 h6 h7 => ?_, fun k h1 h2 h3 h4 h5 => ?_, ?_⟩
              · show I7 k = I k
                rw [hI7 k h1 h2 h4 h5, up_n h4]; exact hI k h1 h2 h3 h4 h5 h6 h7
              · show A7 k = A k
                rw [hA7 k h1 h2 h3]; exact hA k h1 h2 h3 h4 h5
              · exact ⟨rfl, hk3, hk4⟩
          · refine v_ald0 (pc := 56) hJ dX11_reads_56 ?_
            refine v_iconst (pc := 57) hJ dX11_reads_57 ?_
            refine v_ald0 (pc := 58) hJ dX11_reads_58 ?_
            refine mg27 (pc := 59) hJ dX11_reads_59 ?_
            refine v_cV2i (pc := 62) (q0 := 0) (ci := 8) hJ rfl rfl lkX11_146 (qX11_wrong hO) (Nat.le_of_ble_eq_true rfl) (rOk_L (by decide) (by decide)) dX11_reads_62 (fun r62 u62 g62 => ?_)
            obtain ⟨rfl, rfl⟩ := g62
            refine v_zret (pc := 65) hJ rfl dX11_reads_65 ⟨_, rfl, ?_⟩
            rw [← hE, prun_l (s := stM I1 A1) (by show I1 27 < I 28; omega) (show pst f (stM I1 A1) = .inl (2, I1 27) from pst_60 h44 h53)]
            refine ⟨fun k h1 h2 h3 h4 h5 h6 h7 => ?_, fun k h1 h2 h3 h4 h5 => ?_, ?_⟩
            · show va_up (va_up I1 3 2) 4 (I1 27) k = I k
              rw [up_n h2, up_n h1]; exact hI k h1 h2 h3 h4 h5 h6 h7
            · exact hA k h1 h2 h3 h4 h5
            · exact ⟨rfl, by simp only [up_s, up_n, up_up, ne_eq, Nat.reduceEqDiff, not_false_eq_true], by simp only [up_s, up_n, up_up, ne_eq, Nat.reduceEqDiff, not_false_eq_true]⟩
  show J 0 [some (.ref (ad 0)), none] [] (I, A)
  refine v_ald0 (pc := 0) hJ dX11_reads_0 ?_
  refine v_iconst (pc := 1) hJ dX11_reads_1 ?_
  refine mp27 (pc := 2) hJ dX11_reads_2 ?_
  refine v_ald0 (pc := 5) hJ dX11_reads_5 ?_
  refine v_iconst (pc := 6) hJ dX11_reads_6 ?_
  refine mp30 (pc := 7) hJ dX11_reads_7 ?_
  refine v_ald0 (pc := 10) hJ dX11_reads_10 ?_
  refine v_iconst (pc := 11) hJ dX11_reads_11 ?_
  refine mp31 (pc := 12) hJ dX11_reads_12 ?_
  refine v_ald0 (pc := 15) hJ dX11_reads_15 ?_
  refine v_iconst (pc := 16) hJ dX11_reads_16 ?_
  refine mp22 (pc := 17) hJ dX11_reads_17 ?_
  refine lp 1201 _ _ _ ?_ (fun k _ _ _ _ _ => rfl) ?_ rfl ?_ ?_ ?_ ?_ ?_ ?_ ?_ ?_ ?_
  · intro k h1 h2 h3 h4 h5 h6 h7
    simp only [up_n, h1, h2, h3, h4, h5, h6, h7, ne_eq, not_false_eq_true]
  · simp only [up_s, up_n, up_up, ne_eq, Nat.reduceEqDiff, not_false_eq_true]
  · simp only [up_s, up_n, up_up, ne_eq, Nat.reduceEqDiff, not_false_eq_true]
  · simp only [up_s, up_n, up_up, ne_eq, Nat.reduceEqDiff, not_false_eq_true]
  · rw [hfin]
    unfold stM
    simp only [up_s, up_n, up_up, ne_eq, Nat.reduceEqDiff, not_false_eq_true]
  all_goals simp only [up_s, up_n, up_up, ne_eq, Nat.reduceEqDiff, not_false_eq_true]
  all_goals omega
