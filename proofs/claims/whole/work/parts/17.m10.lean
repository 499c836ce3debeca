abbrev isLt (c : Int) : Prop := (65 ≤ c ∧ c ≤ 90) ∨ (97 ≤ c ∧ c ≤ 122)
def filr (S : Int → Int) (sz ah k : Int) : Int := if isLt ah ∧ isLt (nxW S sz 1201 k) then 45 else 32
def padTo (xs : List Int) (n : Nat) (c : Int) : List Int := xs ++ List.replicate (n - xs.length) c
def loPad (U Lo : List Int) (c : Int) : List Int := if U.length = 0 then Lo else padTo Lo (U.length + 1) c
/-- a line written: the names above, the words below, the place where it ends -/
def wl (S : Int → Int) (sz : Int) (nm : Int → List Int) : Nat → Int → List Int → List Int → Int → List Int × List Int × Int
  | 0, k, U, Lo, _ => (U, Lo, k)
  | m + 1, k, U, Lo, ah => if k < sz ∧ S k ≠ 10 then (if S k < 0 then wl S sz nm m (k + 1) (padTo U (loPad U Lo (filr S sz ah k)).length 32 ++ nm (-1 - S k)) (loPad U Lo (filr S sz ah k)) ah else wl S sz nm m (k + 1) U (Lo ++ [S k]) (S k)) else (U, Lo, k)
theorem padTo_len (xs : List Int) (n : Nat) (c : Int) : (padTo xs n c).length = max xs.length n := by
  unfold padTo
  rw [List.length_append, List.length_replicate]
  omega
def frW (I : Nat → Int) (A : Nat → Int → Int) (I1 : Nat → Int) (A1 : Nat → Int → Int) : Prop := (∀ k, k ≠ 33 → k ≠ 36 → k ≠ 37 → I1 k = I k) ∧ (∀ k, k ≠ 32 → k ≠ 34 → k ≠ 35 → A1 k = A k)
theorem frW_I {I I1 : Nat → Int} {A A1 : Nat → Int → Int} {j : Nat} {v : Int} (h : frW I A I1 A1) (hj : j = 33 ∨ j = 36 ∨ j = 37) : frW I A (va_up I1 j v) A1 := ⟨fun k h1 h2 h3 => by rw [up_n (by omega)]; exact h.1 k h1 h2 h3, h.2⟩
theorem frW_A {I I1 : Nat → Int} {A A1 : Nat → Int → Int} {j : Nat} {v : Int → Int} (h : frW I A I1 A1) (hj : j = 32 ∨ j = 34 ∨ j = 35) : frW I A I1 (va_up A1 j v) := ⟨h.1, fun k h1 h2 h3 => by rw [up_n (by omega)]; exact h.2 k h1 h2 h3⟩
theorem hasL_rep {f : Int → Int} {n c : Int} {xs : List Int} {j : Nat} (h : hasL f n (xs ++ List.replicate j c)) : hasL (zu f n c) (n + 1) (xs ++ List.replicate (j + 1) c) := by
  rw [List.replicate_succ', ← List.append_assoc]
  exact hasL_add h
def nmA (A : Nat → Int → Int) (i : Int) : List Int := nameL (A 11 i) (A 12 i) (A 13 i)
set_option maxHeartbeats 4000000 in
set_option maxRecDepth 100000 in
theorem qX11_writes {l : Launch} {D : va_G} {cI : ClassId} {ad : Nat → Nat} {O : OT} {adK adV : Nat → Nat} (hO : OG O adK adV) {I : Nat → Int} {A : Nat → Int → Int} {p : Int} (hp : 0 ≤ p ∧ p ≤ 1300) (hC : okC I A) (hI : okI I A) : MC l D cI ad O yX11_writes cX11_writes 6 (some .int) 8 [.ref (ad 0), .int (iZ p)] (I, A) (pI fun r u2 => (wl (A 19) (I 21) (nmA A) 1202 p [] [] 0).2.2 = r ∧ (0 ≤ r ∧ (r ≤ p ∨ r ≤ 1200)) ∧ frW I A u2.1 u2.2 ∧ hasL (u2.2 34) (u2.1 36) (wl (A 19) (I 21) (nmA A) 1202 p [] [] 0).1 ∧ hasL (u2.2 35) (u2.1 37) (wl (A 19) (I 21) (nmA A) 1202 p [] [] 0).2.1 ∧ u2.1 36 < 3000 ∧ u2.1 37 < 3000) := by
  refine ct_intro (own := RX11) (by decide) rfl hO.1 (Nat.le_of_ble_eq_true rfl) (by simp [Value.category]) (fun X J hJ => ?_)
  obtain ⟨⟨c1, c2⟩, c3⟩ := id hC
  obtain ⟨s1, s2, s3⟩ := id hI
  have s4 : ∀ j : Int, 0 ≤ j → j < I 21 → -60 ≤ A 19 j ∧ A 19 j ≤ 126 := fun j j0 j1 => by have := s2 j j0 j1; omega
  obtain ⟨S, hS⟩ : ∃ S, S = A 19 := ⟨_, rfl⟩
  obtain ⟨sz, hsz⟩ : ∃ z, z = I 21 := ⟨_, rfl⟩
  obtain ⟨fin, hfin⟩ : ∃ z, z = wl S sz (nmA A) 1202 p [] [] 0 := ⟨_, rfl⟩
  rw [← hS, ← hsz, ← hfin] at hJ
  rw [← hS, ← hsz] at s3
  rw [← hsz] at s1
  have hcn : ∀ k : Int, 0 ≤ k → k ≤ sz → (cn S k.toNat : Int) ≤ 60 := fun k k0 k1 => by have := cn_mono S (show k.toNat ≤ sz.toNat by omega); omega
  have hcn1 : ∀ k : Int, 0 ≤ k → S k < 0 → cn S (k + 1).toNat = cn S k.toNat + 1 := fun k k0 k1 => by rw [show (k + 1).toNat = k.toNat + 1 by omega, cn, show ((k.toNat : Nat) : Int) = k by omega, if_pos k1]
  have hcn2 : ∀ k : Int, 0 ≤ k → ¬ S k < 0 → cn S (k + 1).toNat = cn S k.toNat := fun k k0 k1 => by rw [show (k + 1).toNat = k.toNat + 1 by omega, cn, show ((k.toNat : Nat) : Int) = k by omega, if_neg k1]
  have hw21 : ∀ {I1 : Nat → Int} {A1 : Nat → Int → Int}, frW I A I1 A1 → I1 21 = sz ∧ A1 19 = S := fun h => by rw [hsz, hS]; exact ⟨h.1 21 (by decide) (by decide) (by decide), h.2 19 (by decide) (by decide) (by decide)⟩
  have hCw : ∀ {I1 : Nat → Int} {A1 : Nat → Int → Int}, frW I A I1 A1 → okC I1 A1 := fun h => by
    unfold okC
    rw [h.1 6 (by decide) (by decide) (by decide), h.2 11 (by decide) (by decide) (by decide), h.2 12 (by decide) (by decide) (by decide), h.2 13 (by decide) (by decide) (by decide)]
    exact hC
  have hIw : ∀ {I1 : Nat → Int} {A1 : Nat → Int → Int}, frW I A I1 A1 → okI I1 A1 := fun h => by
    unfold okI
    rw [h.1 6 (by decide) (by decide) (by decide), h.1 21 (by decide) (by decide) (by decide), h.2 19 (by decide) (by decide) (by decide)]
    exact hI
  have hNw : ∀ {I1 : Nat → Int} {A1 : Nat → Int → Int} {i : Int}, frW I A I1 A1 → (0 ≤ i ∧ i < I 6) → MC l D cI ad O yX11_names cX11_names 4 none 6 [.ref (ad 0), .int (iZ i)] (I1, A1) (pV fun u2 => ∃ n F, hasL F n (nmA A i) ∧ u2 = (va_up I1 33 n, va_up A1 32 F)) := fun {I1 A1 i} h hi => by
    have := qX11_names (l := l) (D := D) (cI := cI) (ad := ad) hO (I := I1) (A := A1) (i := i) (hCw h) (by rw [h.1 6 (by decide) (by decide) (by decide)]; exact hi)
    rw [h.2 11 (by decide) (by decide) (by decide), h.2 12 (by decide) (by decide) (by decide), h.2 13 (by decide) (by decide) (by decide)] at this
    exact this
  have hnml : ∀ i : Int, 0 ≤ i → i < I 6 → 1 ≤ (nmA A i).length ∧ (nmA A i).length ≤ 11 := fun i i0 i1 => by obtain ⟨k1, k2, k3⟩ := c3 i i0 i1; exact nameL_len k1 k2 k3
  have lp : ∀ (m : Nat) (k ah : Int) (U Lo : List Int) (a4 a5 : Option Value) (I1 : Nat → Int) (A1 : Nat → Int → Int), 0 ≤ k → (k ≤ p ∨ k ≤ sz) → (0 ≤ ah ∧ ah ≤ 126) → frW I A I1 A1 → hasL (A1 34) (I1 36) U → hasL (A1 35) (I1 37) Lo → (k ≤ sz → (U.length : Int) ≤ (k + 12 * (cn S k.toNat : Int))) → (k ≤ sz → (Lo.length : Int) ≤ (k + 12 * (cn S k.toNat : Int))) → (U.length < 3000 ∧ Lo.length < 3000) → wl S sz (nmA A) m k U Lo ah = fin → sz - k < (m : Int) → 0 < m → J 14 [some (.ref (ad 0)), some (.int (iZ p)), some (.int (iZ ah)), some (.int (iZ k)), a4, a5] [] (I1, A1) := by
    intro m
    induction m with
    | zero => intro k ah U Lo a4 a5 I1 A1 k0 k1 ha hw hU hLo bU bL b3 hE hm hm0; exfalso; omega
    | succ m ih0 =>
      intro k ah U Lo a4 a5 I1 A1 k0 k1 ha hw hU hLo bU bL b3 hE hm hm0
      obtain ⟨w21, w19⟩ := hw21 hw
      rw [wl] at hE
      have hU1 := hU.1
      have hL1 := hLo.1
      by_cases hin : k < sz ∧ S k ≠ 10
      · have h4 := s4 k k0 (by omega)
        rw [← hS] at h4
        have bU1 := bU (by omega)
        have bL1 := bL (by omega)
        have hc60 := hcn k k0 (by omega)
        rw [if_pos hin] at hE
        by_cases hneg : S k < 0
        · rw [if_pos hneg] at hE
          have hc61 := hcn1 k k0 hneg
          have hc62 := hcn (k + 1) (by omega) (by omega)
          have hch := s2 k k0 (by omega)
          rw [← hS] at hch
          have hnm := hnml (-1 - S k) (by omega) (by omega)
          obtain ⟨fl, hfl⟩ : ∃ z, z = filr S sz ah k := ⟨_, rfl⟩
          rw [← hfl] at hE
          have hfv : fl = 45 ∨ fl = 32 := by rw [hfl]; unfold filr; split <;> simp
          have l3 : ∀ (fu : Nat) (i : Nat) (U1 Lo1 : List Int) (I3 : Nat → Int) (A3 : Nat → Int → Int), (i ≤ (nmA A (-1 - S k)).length) → (frW I A I3 A3) → (hasL (A3 32) (I3 33) (nmA A (-1 - S k))) → (hasL (A3 34) (I3 36) (U1 ++ (nmA A (-1 - S k)).take i)) → (hasL (A3 35) (I3 37) Lo1) → ((U1.length : Int) ≤ k + 12 * (cn S k.toNat : Int) + 1) → ((Lo1.length : Int) ≤ k + 12 * (cn S k.toNat : Int) + 1) → (wl S sz (nmA A) m (k + 1) (U1 ++ nmA A (-1 - S k)) Lo1 ah = fin) → (12 - (i : Int)) < (fu : Int) → J 201 [some (.ref (ad 0)), some (.int (iZ p)), some (.int (iZ ah)), some (.int (iZ k)), some (.int (iZ fl)), some (.int (iZ (i : Int)))] [] (I3, A3) := by
            intro fu
            induction fu with
            | zero => intro i  U1 Lo1  I3  A3 hi3 hw3 hn3 hU3 hL3 b3a b3b hE3 hmu; exfalso; omega
            | succ fu ih =>
              intro i  U1 Lo1  I3  A3 hi3 hw3 hn3 hU3 hL3 b3a b3b hE3 hmu
              refine v_ild5 (pc := 201) hJ dX11_writes_201 ?_
              refine v_ald0 (pc := 203) hJ dX11_writes_203 ?_
              refine mg33 (pc := 204) hJ dX11_writes_204 ?_
              have hn31 := hn3.1
              have hU31 := hU3.1
              simp only [List.length_append, List.length_take] at hU31
              refine v_icmp_ge (tgt := 242) (pc := 207) hJ dX11_writes_207 (by decide) (by omega) (by omega) (fun h207 => ?_) (fun h207 => ?_)
              · refine v_inc3 (pc := 242) hJ dX11_writes_242 (by decide) ?_
                refine v_goto (tgt := 14) (pc := 245) hJ dX11_writes_245 (by decide) ?_
                rw [List.take_of_length_le (by omega)] at hU3
                refine ih0 (k + 1) ah _ Lo1 _ _ I3 A3 (by omega) (by omega) ha hw3 hU3 hL3 ?_ ?_ ?_ hE3 (by omega) (by omega)
                · intro _; rw [List.length_append]; omega
                · intro _; omega
                · rw [List.length_append]; omega
              · refine v_ald0 (pc := 210) hJ dX11_writes_210 ?_
                refine mg34 (pc := 211) hJ dX11_writes_211 ?_
                refine v_ald0 (pc := 214) hJ dX11_writes_214 ?_
                refine mg36 (pc := 215) hJ dX11_writes_215 ?_
                refine v_ald0 (pc := 218) hJ dX11_writes_218 ?_
                refine mg32 (pc := 219) hJ dX11_writes_219 ?_
                refine v_ild5 (pc := 222) hJ dX11_writes_222 ?_
                refine ma32 (pc := 224) hJ (by omega) (by omega) dX11_writes_224 ?_
                refine ms34 (pc := 225) hJ (by omega) (by omega) dX11_writes_225 ?_
                refine v_ald0 (pc := 226) hJ dX11_writes_226 ?_
                refine v_dup (pc := 227) hJ dX11_writes_227 rfl ?_
                refine mg36 (pc := 228) hJ dX11_writes_228 ?_
                try simp only [up_s, up_n, up_up, ne_eq, Nat.reduceEqDiff, not_false_eq_true]
                refine v_iconst (pc := 231) hJ dX11_writes_231 ?_
                refine v_iadd (pc := 232) hJ dX11_writes_232 ?_
                refine mp36 (pc := 233) hJ dX11_writes_233 ?_
                refine v_inc5 (pc := 236) hJ dX11_writes_236 (by decide) ?_
                refine v_goto (tgt := 201) (pc := 239) hJ dX11_writes_239 (by decide) ?_
                rw [hn3.2 i (by omega)]
                refine ih (i + 1) U1 Lo1 _ _ (by omega) (frW_I (frW_A hw3 (by decide)) (by decide)) ?_ ?_ ?_ b3a b3b hE3 (by omega)
                · simp only [up_s, up_n, up_up, ne_eq, Nat.reduceEqDiff, not_false_eq_true]; exact hn3
                · simp only [up_s, up_n, up_up, ne_eq, Nat.reduceEqDiff, not_false_eq_true]; rw [take_add (by omega), ← List.append_assoc]; exact hasL_add hU3
                · simp only [up_s, up_n, up_up, ne_eq, Nat.reduceEqDiff, not_false_eq_true]; exact hL3
          have l2 : ∀ (fu : Nat) (j : Nat) (Lo1 : List Int) (a5 : Option Value) (I3 : Nat → Int) (A3 : Nat → Int → Int), (frW I A I3 A3) → (hasL (A3 34) (I3 36) (U ++ List.replicate j 32)) → (hasL (A3 35) (I3 37) Lo1) → (j ≤ Lo1.length - U.length) → (U.length ≤ Lo1.length) → ((Lo1.length : Int) ≤ k + 12 * (cn S k.toNat : Int) + 1) → (wl S sz (nmA A) m (k + 1) (padTo U Lo1.length 32 ++ nmA A (-1 - S k)) Lo1 ah = fin) → (3000 - (j : Int)) < (fu : Int) → J 151 [some (.ref (ad 0)), some (.int (iZ p)), some (.int (iZ ah)), some (.int (iZ k)), some (.int (iZ fl)), a5] [] (I3, A3) := by
            intro fu
            induction fu with
            | zero => intro j  Lo1  a5  I3  A3 hw3 hU3 hL3 hj hUL b3b hE3 hmu; exfalso; omega
            | succ fu ih =>
              intro j  Lo1  a5  I3  A3 hw3 hU3 hL3 hj hUL b3b hE3 hmu
              refine v_ald0 (pc := 151) hJ dX11_writes_151 ?_
              refine mg36 (pc := 152) hJ dX11_writes_152 ?_
              refine v_ald0 (pc := 155) hJ dX11_writes_155 ?_
              refine mg37 (pc := 156) hJ dX11_writes_156 ?_
              have hU31 := hU3.1
              have hL31 := hL3.1
              simp only [List.length_append, List.length_replicate] at hU31
              refine v_icmp_ge (tgt := 186) (pc := 159) hJ dX11_writes_159 (by decide) (by omega) (by omega) (fun h159 => ?_) (fun h159 => ?_)
              · refine v_ald0 (pc := 186) hJ dX11_writes_186 ?_
                obtain ⟨w21b, w19b⟩ := hw21 hw3
                refine v_iconst (pc := 187) hJ dX11_writes_187 ?_
                refine v_ald0 (pc := 188) hJ dX11_writes_188 ?_
                refine mg19 (pc := 189) hJ dX11_writes_189 ?_
                refine v_ild3 (pc := 192) hJ dX11_writes_192 ?_
                
                refine ma19 (pc := 193) hJ (by omega) (by omega) dX11_writes_193 ?_
                rw [w19b]
                refine v_isub (pc := 194) hJ dX11_writes_194 ?_
                refine v_cV1v (pc := 195) (q0 := 0) (ci := 8) hJ rfl rfl lkX11_240 (hNw hw3 (by omega)) (Nat.le_of_ble_eq_true rfl) (rOk_L (by decide) (by decide)) dX11_writes_195 (fun u195 g195 => ?_)
                obtain ⟨n195, F195, hF195, rfl⟩ := g195
                refine v_iconst (pc := 198) hJ dX11_writes_198 ?_
                refine v_ist5 (pc := 199) hJ dX11_writes_199 (by decide) ?_
                have ej : j = Lo1.length - U.length := by omega
                subst ej
                refine l3 13 0 (padTo U Lo1.length 32) Lo1 _ _ (by omega) (frW_I (frW_A hw3 (by decide)) (by decide)) ?_ ?_ ?_ ?_ b3b hE3 (by omega)
                · simp only [up_s, up_n, up_up, ne_eq, Nat.reduceEqDiff, not_false_eq_true]; exact hF195
                · simp only [up_s, up_n, up_up, ne_eq, Nat.reduceEqDiff, not_false_eq_true, List.take_zero, List.append_nil]; exact hU3
                · simp only [up_s, up_n, up_up, ne_eq, Nat.reduceEqDiff, not_false_eq_true]; exact hL3
                · rw [padTo_len]; omega
              · refine v_ald0 (pc := 162) hJ dX11_writes_162 ?_
                refine mg34 (pc := 163) hJ dX11_writes_163 ?_
                refine v_ald0 (pc := 166) hJ dX11_writes_166 ?_
                refine mg36 (pc := 167) hJ dX11_writes_167 ?_
                refine v_bipush (pc := 170) hJ dX11_writes_170 (by decide) ?_
                refine ms34 (pc := 172) hJ (by omega) (by omega) dX11_writes_172 ?_
                refine v_ald0 (pc := 173) hJ dX11_writes_173 ?_
                refine v_dup (pc := 174) hJ dX11_writes_174 rfl ?_
                refine mg36 (pc := 175) hJ dX11_writes_175 ?_
                try simp only [up_s, up_n, up_up, ne_eq, Nat.reduceEqDiff, not_false_eq_true]
                refine v_iconst (pc := 178) hJ dX11_writes_178 ?_
                refine v_iadd (pc := 179) hJ dX11_writes_179 ?_
                refine mp36 (pc := 180) hJ dX11_writes_180 ?_
                refine v_goto (tgt := 151) (pc := 183) hJ dX11_writes_183 (by decide) ?_
                refine ih (j + 1) Lo1 a5 _ _ (frW_I (frW_A hw3 (by decide)) (by decide)) ?_ ?_ (by omega) hUL b3b hE3 (by omega)
                · simp only [up_s, up_n, up_up, ne_eq, Nat.reduceEqDiff, not_false_eq_true]; exact hasL_rep hU3
                · simp only [up_s, up_n, up_up, ne_eq, Nat.reduceEqDiff, not_false_eq_true]; exact hL3
          have l1 : ∀ (fu : Nat) (j : Nat) (a5 : Option Value) (I3 : Nat → Int) (A3 : Nat → Int → Int), (frW I A I3 A3) → (hasL (A3 34) (I3 36) U) → (hasL (A3 35) (I3 37) (Lo ++ List.replicate j fl)) → (j = 0 ∨ (0 < U.length ∧ j ≤ U.length + 1 - Lo.length)) → (3001 - (j : Int)) < (fu : Int) → J 107 [some (.ref (ad 0)), some (.int (iZ p)), some (.int (iZ ah)), some (.int (iZ k)), some (.int (iZ fl)), a5] [] (I3, A3) := by
            intro fu
            induction fu with
            | zero => intro j  a5  I3  A3 hw3 hU3 hL3 hj hmu; exfalso; omega
            | succ fu ih =>
              intro j  a5  I3  A3 hw3 hU3 hL3 hj hmu
              refine v_ald0 (pc := 107) hJ dX11_writes_107 ?_
              refine mg36 (pc := 108) hJ dX11_writes_108 ?_
              have hU31 := hU3.1
              have hL31 := hL3.1
              simp only [List.length_append, List.length_replicate] at hL31
              refine v_if_le (tgt := 151) (pc := 111) hJ dX11_writes_111 (by decide) (by omega) (fun h111 => ?_) (fun h111 => ?_)
              · have elo : Lo ++ List.replicate j fl = loPad U Lo fl := by
                  unfold loPad padTo
                  split
                  · rw [show j = 0 by omega]; simp
                  · rw [show U.length + 1 - Lo.length = j by omega]
                rw [elo] at hL3
                have hll : (loPad U Lo fl).length = Lo.length + j := by rw [← elo, List.length_append, List.length_replicate]
                exact l2 3001 0 (loPad U Lo fl) a5 I3 A3 hw3 (by simpa using hU3) hL3 (by omega) (by omega) (by omega) hE (by omega)
              · refine v_ald0 (pc := 114) hJ dX11_writes_114 ?_
                refine mg37 (pc := 115) hJ dX11_writes_115 ?_
                refine v_ald0 (pc := 118) hJ dX11_writes_118 ?_
                refine mg36 (pc := 119) hJ dX11_writes_119 ?_
                refine v_iconst (pc := 122) hJ dX11_writes_122 ?_
                refine v_iadd (pc := 123) hJ dX11_writes_123 ?_
                refine v_icmp_ge (tgt := 151) (pc := 124) hJ dX11_writes_124 (by decide) (by omega) (by omega) (fun h124 => ?_) (fun h124 => ?_)
                · have elo : Lo ++ List.replicate j fl = loPad U Lo fl := by
                    unfold loPad padTo
                    split
                    · rw [show j = 0 by omega]; simp
                    · rw [show U.length + 1 - Lo.length = j by omega]
                  rw [elo] at hL3
                  have hll : (loPad U Lo fl).length = Lo.length + j := by rw [← elo, List.length_append, List.length_replicate]
                  exact l2 3001 0 (loPad U Lo fl) a5 I3 A3 hw3 (by simpa using hU3) hL3 (by omega) (by omega) (by omega) hE (by omega)
                · refine v_ald0 (pc := 127) hJ dX11_writes_127 ?_
                  refine mg35 (pc := 128) hJ dX11_writes_128 ?_
                  refine v_ald0 (pc := 131) hJ dX11_writes_131 ?_
                  refine mg37 (pc := 132) hJ dX11_writes_132 ?_
                  refine v_ild4 (pc := 135) hJ dX11_writes_135 ?_
                  refine ms35 (pc := 137) hJ (by omega) (by omega) dX11_writes_137 ?_
                  refine v_ald0 (pc := 138) hJ dX11_writes_138 ?_
                  refine v_dup (pc := 139) hJ dX11_writes_139 rfl ?_
                  refine mg37 (pc := 140) hJ dX11_writes_140 ?_
                  try simp only [up_s, up_n, up_up, ne_eq, Nat.reduceEqDiff, not_false_eq_true]
                  refine v_iconst (pc := 143) hJ dX11_writes_143 ?_
                  refine v_iadd (pc := 144) hJ dX11_writes_144 ?_
                  refine mp37 (pc := 145) hJ dX11_writes_145 ?_
                  refine v_goto (tgt := 107) (pc := 148) hJ dX11_writes_148 (by decide) ?_
                  refine ih (j + 1) a5 _ _ (frW_I (frW_A hw3 (by decide)) (by decide)) ?_ ?_ (by omega) (by omega)
                  · simp only [up_s, up_n, up_up, ne_eq, Nat.reduceEqDiff, not_false_eq_true]; exact hU3
                  · simp only [up_s, up_n, up_up, ne_eq, Nat.reduceEqDiff, not_false_eq_true]; exact hasL_rep hL3
          refine v_ild3 (pc := 14) hJ dX11_writes_14 ?_
          refine v_ald0 (pc := 15) hJ dX11_writes_15 ?_
          refine mg21 (pc := 16) hJ dX11_writes_16 ?_
          refine v_icmp_ge (tgt := 248) (pc := 19) hJ dX11_writes_19 (by decide) (by omega) (by omega) (fun h19 => ?_) (fun h19 => ?_)
          · omega
          · refine v_ald0 (pc := 22) hJ dX11_writes_22 ?_
            refine mg19 (pc := 23) hJ dX11_writes_23 ?_
            refine v_ild3 (pc := 26) hJ dX11_writes_26 ?_
            refine ma19 (pc := 27) hJ (by omega) (by omega) dX11_writes_27 ?_
            rw [w19]
            refine v_bipush (pc := 28) hJ dX11_writes_28 (by decide) ?_
            refine v_icmp_eq (tgt := 248) (pc := 30) hJ dX11_writes_30 (by decide) (by omega) (by omega) (fun h30 => ?_) (fun h30 => ?_)
            · exact absurd h30 hin.2
            · refine v_ald0 (pc := 33) hJ dX11_writes_33 ?_
              refine mg19 (pc := 34) hJ dX11_writes_34 ?_
              refine v_ild3 (pc := 37) hJ dX11_writes_37 ?_
              refine ma19 (pc := 38) hJ (by omega) (by omega) dX11_writes_38 ?_
              rw [w19]
              refine v_if_lt (tgt := 80) (pc := 39) hJ dX11_writes_39 (by decide) (by omega) (fun h39 => ?_) (fun h39 => ?_)
              · refine v_ild2 (pc := 80) hJ dX11_writes_80 ?_
                refine v_cS1i (pc := 81) hJ lkX11_252 (qX11_isLetter hO (by omega)) (Nat.le_of_ble_eq_true rfl) (rOk_L (by decide) (by decide)) dX11_writes_81 (fun r81 u81 g81 => ?_)
                obtain ⟨g81a, g81b, rfl⟩ := g81
                refine v_if_eq (tgt := 103) (pc := 84) hJ dX11_writes_84 (by decide) (by omega) (fun h84 => ?_) (fun h84 => ?_)
                · refine v_bipush (pc := 103) hJ dX11_writes_103 (by decide) ?_
                  refine v_ist4 (pc := 105) hJ dX11_writes_105 (by decide) ?_
                  rw [show (32 : Int) = fl by rw [hfl]; unfold filr; rw [if_neg (fun q => by first | (have := g81b.mpr q.1; omega) | (have := g92b.mpr q.2; omega))]]
                  exact l1 3002 0 a5 I1 A1 hw hU (by simpa using hLo) (Or.inl rfl) (by omega)
                · refine v_ald0 (pc := 87) hJ dX11_writes_87 ?_
                  refine v_ild3 (pc := 88) hJ dX11_writes_88 ?_
                  refine v_cV1i (pc := 89) (q0 := 0) (ci := 8) hJ rfl rfl lkX11_255 (qX11_nextWord hO (by omega) (hCw hw) (hIw hw)) (Nat.le_of_ble_eq_true rfl) (rOk_L (by decide) (by decide)) dX11_writes_89 (fun r89 u89 g89 => ?_)
                  obtain ⟨rfl, rfl⟩ := g89
                  rw [w21, w19]
                  have hnx := nxW_in (S := S) (sz := sz) (by rw [hS, hsz]; exact s4) 1201 k k0
                  try simp only [up_s, up_n, up_up, ne_eq, Nat.reduceEqDiff, not_false_eq_true]
                  refine v_cS1i (pc := 92) hJ lkX11_252 (qX11_isLetter hO (by omega)) (Nat.le_of_ble_eq_true rfl) (rOk_L (by decide) (by decide)) dX11_writes_92 (fun r92 u92 g92 => ?_)
                  obtain ⟨g92a, g92b, rfl⟩ := g92
                  try simp only [up_s, up_n, up_up, ne_eq, Nat.reduceEqDiff, not_false_eq_true]
                  refine v_if_eq (tgt := 103) (pc := 95) hJ dX11_writes_95 (by decide) (by omega) (fun h95 => ?_) (fun h95 => ?_)
                  · refine v_bipush (pc := 103) hJ dX11_writes_103 (by decide) ?_
                    refine v_ist4 (pc := 105) hJ dX11_writes_105 (by decide) ?_
                    rw [show (32 : Int) = fl by rw [hfl]; unfold filr; rw [if_neg (fun q => by first | (have := g81b.mpr q.1; omega) | (have := g92b.mpr q.2; omega))]]
                    exact l1 3002 0 a5 I1 A1 hw hU (by simpa using hLo) (Or.inl rfl) (by omega)
                  · refine v_bipush (pc := 98) hJ dX11_writes_98 (by decide) ?_
                    refine v_goto (tgt := 105) (pc := 100) hJ dX11_writes_100 (by decide) ?_
                    refine v_ist4 (pc := 105) hJ dX11_writes_105 (by decide) ?_
                    rw [show (45 : Int) = fl by rw [hfl]; unfold filr; rw [if_pos ⟨g81b.mp (by omega), g92b.mp (by omega)⟩]]
                    exact l1 3002 0 a5 I1 A1 hw hU (by simpa using hLo) (Or.inl rfl) (by omega)
              · omega
        · rw [if_neg hneg] at hE
          have hc61 := hcn2 k k0 hneg
          refine v_ild3 (pc := 14) hJ dX11_writes_14 ?_
          refine v_ald0 (pc := 15) hJ dX11_writes_15 ?_
          refine mg21 (pc := 16) hJ dX11_writes_16 ?_
          refine v_icmp_ge (tgt := 248) (pc := 19) hJ dX11_writes_19 (by decide) (by omega) (by omega) (fun h19 => ?_) (fun h19 => ?_)
          · omega
          · refine v_ald0 (pc := 22) hJ dX11_writes_22 ?_
            refine mg19 (pc := 23) hJ dX11_writes_23 ?_
            refine v_ild3 (pc := 26) hJ dX11_writes_26 ?_
            refine ma19 (pc := 27) hJ (by omega) (by omega) dX11_writes_27 ?_
            rw [w19]
            refine v_bipush (pc := 28) hJ dX11_writes_28 (by decide) ?_
            refine v_icmp_eq (tgt := 248) (pc := 30) hJ dX11_writes_30 (by decide) (by omega) (by omega) (fun h30 => ?_) (fun h30 => ?_)
            · exact absurd h30 hin.2
            · refine v_ald0 (pc := 33) hJ dX11_writes_33 ?_
              refine mg19 (pc := 34) hJ dX11_writes_34 ?_
              refine v_ild3 (pc := 37) hJ dX11_writes_37 ?_
              refine ma19 (pc := 38) hJ (by omega) (by omega) dX11_writes_38 ?_
              rw [w19]
              refine v_if_lt (tgt := 80) (pc := 39) hJ dX11_writes_39 (by decide) (by omega) (fun h39 => ?_) (fun h39 => ?_)
              · omega
              · refine v_ald0 (pc := 42) hJ dX11_writes_42 ?_
                refine mg35 (pc := 43) hJ dX11_writes_43 ?_
                refine v_ald0 (pc := 46) hJ dX11_writes_46 ?_
                refine mg37 (pc := 47) hJ dX11_writes_47 ?_
                refine v_ald0 (pc := 50) hJ dX11_writes_50 ?_
                refine mg19 (pc := 51) hJ dX11_writes_51 ?_
                refine v_ild3 (pc := 54) hJ dX11_writes_54 ?_
                refine ma19 (pc := 55) hJ (by omega) (by omega) dX11_writes_55 ?_
                rw [w19]
                refine ms35 (pc := 56) hJ (by omega) (by omega) dX11_writes_56 ?_
                refine v_ald0 (pc := 57) hJ dX11_writes_57 ?_
                refine v_dup (pc := 58) hJ dX11_writes_58 rfl ?_
                refine mg37 (pc := 59) hJ dX11_writes_59 ?_
                try simp only [up_s, up_n, up_up, ne_eq, Nat.reduceEqDiff, not_false_eq_true]
                refine v_iconst (pc := 62) hJ dX11_writes_62 ?_
                refine v_iadd (pc := 63) hJ dX11_writes_63 ?_
                refine mp37 (pc := 64) hJ dX11_writes_64 ?_
                refine v_ald0 (pc := 67) hJ dX11_writes_67 ?_
                refine mg19 (pc := 68) hJ dX11_writes_68 ?_
                refine v_ild3 (pc := 71) hJ dX11_writes_71 ?_
                refine ma19 (pc := 72) hJ (by omega) (by omega) dX11_writes_72 ?_
                try simp only [up_s, up_n, up_up, ne_eq, Nat.reduceEqDiff, not_false_eq_true]
                try simp only [up_s, up_n, up_up, ne_eq, Nat.reduceEqDiff, not_false_eq_true]
                rw [w19]
                refine v_ist2 (pc := 73) hJ dX11_writes_73 (by decide) ?_
                refine v_inc3 (pc := 74) hJ dX11_writes_74 (by decide) ?_
                refine v_goto (tgt := 14) (pc := 77) hJ dX11_writes_77 (by decide) ?_
                refine ih0 (k + 1) (S k) U (Lo ++ [S k]) a4 a5 _ _ (by omega) (by omega) (by omega) (frW_I (frW_A hw (by decide)) (by decide)) ?_ ?_ ?_ ?_ ?_ hE (by omega) (by omega)
                · simp only [up_s, up_n, up_up, ne_eq, Nat.reduceEqDiff, not_false_eq_true]; exact hU
                · simp only [up_s, up_n, up_up, ne_eq, Nat.reduceEqDiff, not_false_eq_true]; exact hasL_add hLo
                · intro _; omega
                · intro _; rw [List.length_append, List.length_singleton]; omega
                · rw [List.length_append, List.length_singleton]; omega
      · rw [if_neg hin] at hE
        by_cases hks : k < sz
        · have h10 : S k = 10 := Classical.not_not.mp (fun q => hin ⟨hks, q⟩)
          refine v_ild3 (pc := 14) hJ dX11_writes_14 ?_
          refine v_ald0 (pc := 15) hJ dX11_writes_15 ?_
          refine mg21 (pc := 16) hJ dX11_writes_16 ?_
          refine v_icmp_ge (tgt := 248) (pc := 19) hJ dX11_writes_19 (by decide) (by omega) (by omega) (fun h19 => ?_) (fun h19 => ?_)
          · omega
          · refine v_ald0 (pc := 22) hJ dX11_writes_22 ?_
            refine mg19 (pc := 23) hJ dX11_writes_23 ?_
            refine v_ild3 (pc := 26) hJ dX11_writes_26 ?_
            refine ma19 (pc := 27) hJ (by omega) (by omega) dX11_writes_27 ?_
            rw [w19]
            have h4 := s4 k k0 (by omega)
            rw [← hS] at h4
            refine v_bipush (pc := 28) hJ dX11_writes_28 (by decide) ?_
            refine v_icmp_eq (tgt := 248) (pc := 30) hJ dX11_writes_30 (by decide) (by omega) (by omega) (fun h30 => ?_) (fun h30 => ?_)
            · refine v_ild3 (pc := 248) hJ dX11_writes_248 ?_
              refine v_iret (pc := 249) hJ dX11_writes_249 ⟨_, rfl, ?_⟩
              rw [← hE]
              exact ⟨rfl, ⟨k0, by omega⟩, hw, hU, hLo, by show I1 36 < 3000; omega, by show I1 37 < 3000; omega⟩
            · exact absurd h10 h30
        · skip
          refine v_ild3 (pc := 14) hJ dX11_writes_14 ?_
          refine v_ald0 (pc := 15) hJ dX11_writes_15 ?_
          refine mg21 (pc := 16) hJ dX11_writes_16 ?_
          refine v_icmp_ge (tgt := 248) (pc := 19) hJ dX11_writes_19 (by decide) (by omega) (by omega) (fun h19 => ?_) (fun h19 => ?_)
          · refine v_ild3 (pc := 248) hJ dX11_writes_248 ?_
            refine v_iret (pc := 249) hJ dX11_writes_249 ⟨_, rfl, ?_⟩
            rw [← hE]
            exact ⟨rfl, ⟨k0, by omega⟩, hw, hU, hLo, by show I1 36 < 3000; omega, by show I1 37 < 3000; omega⟩
          · omega
  show J 0 [some (.ref (ad 0)), some (.int (iZ p)), none, none, none, none] [] (I, A)
  refine v_ald0 (pc := 0) hJ dX11_writes_0 ?_
  refine v_iconst (pc := 1) hJ dX11_writes_1 ?_
  refine mp36 (pc := 2) hJ dX11_writes_2 ?_
  refine v_ald0 (pc := 5) hJ dX11_writes_5 ?_
  refine v_iconst (pc := 6) hJ dX11_writes_6 ?_
  refine mp37 (pc := 7) hJ dX11_writes_7 ?_
  refine v_iconst (pc := 10) hJ dX11_writes_10 ?_
  refine v_ist2 (pc := 11) hJ dX11_writes_11 (by decide) ?_
  refine v_ild1 (pc := 12) hJ dX11_writes_12 ?_
  refine v_ist3 (pc := 13) hJ dX11_writes_13 (by decide) ?_
  refine lp 1202 p 0 [] [] none none _ _ hp.1 (Or.inl (by omega)) (by omega) (frW_I (frW_I ⟨fun _ _ _ _ => rfl, fun _ _ _ _ => rfl⟩ (by decide)) (by decide)) ?_ ?_ ?_ ?_ (by decide) hfin.symm (by omega) (by omega)
  · simp only [up_s, up_n, up_up, ne_eq, Nat.reduceEqDiff, not_false_eq_true]; exact hasL_nil _
  · simp only [up_s, up_n, up_up, ne_eq, Nat.reduceEqDiff, not_false_eq_true]; exact hasL_nil _
  · intro _; simp only [List.length_nil]; omega
  · intro _; simp only [List.length_nil]; omega
