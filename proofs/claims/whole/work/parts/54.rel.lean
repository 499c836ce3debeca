theorem zand_255 (x : Int) : 0 ≤ zand x 255 ∧ zand x 255 ≤ 255 := by
  have e : zand x 255 = zand 255 x := by unfold zand; rw [Int32.and_comm]
  rw [e]
  exact zand_in (by decide)
theorem lay4_in {T : Int → Int} {n v : Int} (hT : ∀ j, 0 ≤ j → j < n → 0 ≤ T j ∧ T j ≤ 255) : ∀ j, 0 ≤ j → j < n + 4 → 0 ≤ lay4 T n v j ∧ lay4 T n v j ≤ 255 := fun j j0 j1 => by
  unfold lay4 zu
  repeat' split
  · exact zand_255 _
  · exact zand_255 _
  · exact zand_255 _
  · exact zand_255 _
  · exact hT j j0 (by omega)
theorem dI_uI {x : Int} (h : x ≤ 255) : uI (dI x) = x := by
  unfold uI dI
  split <;> split <;> omega
/-- what class and reference hold alike, the hands, what was written and what was played aside -/
def Rel0 (ad : Nat → Nat) (I : Nat → Int) (A : Nat → Int → Int) (J : Nat → Int) (B : Nat → Int → Int) : Prop :=
  (ad 3 = ad 59 ∧ ad 4 = ad 79) ∧ (I 1 = J 2 ∧ I 5 = J 3 ∧ I 6 = J 4 ∧ I 43 = J 6 ∧ I 42 = J 7 ∧ I 7 = J 8 ∧ I 121 = J 9 ∧ I 41 = J 21) ∧ ((0 ≤ J 2 ∧ J 2 ≤ 1200) ∧ (J 5 = 0 ∨ J 5 = 1) ∧ (J 5 = 0 → J 7 = 0) ∧ (0 ≤ J 7 ∧ J 7 ≤ 40) ∧ (-7 ≤ J 8 ∧ J 8 ≤ 7)) ∧
  (A 0 = B 1 ∧ ∀ j, 0 ≤ j → j < J 2 → 0 ≤ B 1 j ∧ B 1 j ≤ 255) ∧ ((∀ j, 0 ≤ j → j < J 6 → A 44 j = B 11 j ∧ A 45 j = B 12 j ∧ A 46 j = B 13 j ∧ A 47 j = B 14 j) ∧ okC J B) ∧ (A 120 = B 23 ∧ okN J B) ∧ ((∀ j, 0 ≤ j → j < J 21 → A 40 j = dI (B 19 j)) ∧ okI J B ∧ ∀ j k, 0 ≤ j → j < k → k < J 21 → B 19 j < 0 → B 19 j ≠ B 19 k)
def RelO (I : Nat → Int) (A : Nat → Int → Int) (J : Nat → Int) (B : Nat → Int → Int) : Prop := I 81 = J 26 ∧ (0 ≤ J 26 ∧ J 26 < 1000000) ∧ ∀ k, 0 ≤ k → k < J 26 → k < 4000 → A 80 k = B 25 k
def RelP (I : Nat → Int) (A : Nat → Int → Int) (J : Nat → Int) (B : Nat → Int → Int) : Prop := I 164 = J 10 ∧ (-1 ≤ J 10 ∧ J 10 ≤ 7) ∧ (J 10 ≠ -1 → ∀ i : Nat, (i : Int) < J 6 → A 163 i = B 24 i)
def RelH (I : Nat → Int) (A : Nat → Int → Int) (J : Nat → Int) (B : Nat → Int → Int) : Prop := okH J B ∧ cokH I A
def Rel (u : sC) (v : sM) : Prop := Rel0 u.1 u.2.1 u.2.2 v.1 v.2 ∧ RelO u.2.1 u.2.2 v.1 v.2 ∧ RelP u.2.1 u.2.2 v.1 v.2 ∧ RelH u.2.1 u.2.2 v.1 v.2
section REL
variable {ad ad1 : Nat → Nat} {I I1 : Nat → Int} {A A1 : Nat → Int → Int} {J J1 : Nat → Int} {B B1 : Nat → Int → Int}
theorem Rel0_cg (had : ad1 3 = ad1 59 ∧ ad1 4 = ad1 79) (hI : ∀ k ∈ [1, 5, 6, 7, 41, 42, 43, 121], I1 k = I k) (hA : ∀ k ∈ [0, 40, 44, 45, 46, 47, 120], A1 k = A k) (hJ : ∀ k ∈ [2, 3, 4, 5, 6, 7, 8, 9, 21], J1 k = J k) (hB : ∀ k ∈ [1, 11, 12, 13, 14, 19, 23], B1 k = B k) (h : Rel0 ad I A J B) : Rel0 ad1 I1 A1 J1 B1 := by
  unfold Rel0 okC okN okI at h ⊢
  rw [hI 1 (by decide), hI 5 (by decide), hI 6 (by decide), hI 7 (by decide), hI 41 (by decide), hI 42 (by decide), hI 43 (by decide), hI 121 (by decide), hA 0 (by decide), hA 40 (by decide), hA 44 (by decide), hA 45 (by decide), hA 46 (by decide), hA 47 (by decide), hA 120 (by decide), hJ 2 (by decide), hJ 3 (by decide), hJ 4 (by decide), hJ 5 (by decide), hJ 6 (by decide), hJ 7 (by decide), hJ 8 (by decide), hJ 9 (by decide), hJ 21 (by decide), hB 1 (by decide), hB 11 (by decide), hB 12 (by decide), hB 13 (by decide), hB 14 (by decide), hB 19 (by decide), hB 23 (by decide)]
  exact ⟨had, h.2⟩
theorem RelO_cg (h1 : I1 81 = I 81) (h2 : A1 80 = A 80) (h3 : J1 26 = J 26) (h4 : B1 25 = B 25) (h : RelO I A J B) : RelO I1 A1 J1 B1 := by
  unfold RelO at h ⊢
  rw [h1, h2, h3, h4]
  exact h
theorem RelP_cg (h1 : I1 164 = I 164) (h2 : A1 163 = A 163) (h3 : J1 10 = J 10) (h4 : B1 24 = B 24) (h5 : J1 6 = J 6) (h : RelP I A J B) : RelP I1 A1 J1 B1 := by
  unfold RelP at h ⊢
  rw [h1, h2, h3, h4, h5]
  exact h
theorem okH_cg (h6 : J1 6 = J 6) (h9 : J1 9 = J 9) (hB : ∀ k ∈ [11, 12, 13, 23, 38, 39, 40], B1 k = B k) (h : okH J B) : okH J1 B1 := fun i bar a b c d => by
  rw [hdA_eq (I := J) (A := B) h9 (hB 11 (by decide)) (hB 12 (by decide)) (hB 13 (by decide)) (hB 23 (by decide)), h9]
  unfold repH
  rw [hB 38 (by decide), hB 39 (by decide), hB 40 (by decide)]
  exact h i bar a (by omega) c d
theorem cokH_cg2 (h0 : I1 43 = I 43) (h1 : I1 121 = I 121) (hA : ∀ k ∈ [44, 45, 46, 120, 140, 141], A1 k = A k) (h : cokH I A) : cokH I1 A1 := cokH_cg h0 h1 (hA 120 (by decide)) (hA 44 (by decide)) (hA 45 (by decide)) (hA 46 (by decide)) (hA 140 (by decide)) (hA 141 (by decide)) h
theorem okH_no (h6 : J 6 ≤ 60) (h : ∀ j, 0 ≤ j → j < 480 → B 38 j = -1) : okH J B := fun i bar a b c d => Or.inl (h _ (by omega) (by omega))
theorem cokH_no (h6 : I 43 ≤ 60) (h : ∀ j, 0 ≤ j → j < 480 → A 141 j = -1) : cokH I A := fun i bar a b c d => Or.inl (h _ (by omega) (by omega))
/-- what the relation gives of the class -/
theorem Rel0_C (h : Rel0 ad I A J B) : cokC I A := by
  obtain ⟨-, ⟨-, -, -, e43, -⟩, -, -, ⟨c1, c2⟩, -⟩ := h
  refine ⟨by rw [e43]; exact c2.1, fun j j0 j1 => ?_⟩
  obtain ⟨a, b, c, -⟩ := c1 j j0 (by omega)
  rw [a, b, c]
  exact c2.2 j j0 (by omega)
theorem Rel0_N (h : Rel0 ad I A J B) : cokN I A := by
  obtain ⟨-, ⟨-, -, -, -, -, -, e121, -⟩, -, -, -, ⟨n1, n2⟩, -⟩ := h
  unfold cokN
  rw [e121, n1]
  exact n2
theorem Rel0_I (h : Rel0 ad I A J B) : cokI I A := by
  obtain ⟨-, ⟨-, -, -, e43, -, -, -, e41⟩, -, -, ⟨-, c2⟩, -, w1, w2, -⟩ := h
  refine ⟨by rw [e41]; exact w2.1, fun j j0 j1 => ?_⟩
  have h6 := c2.1
  have := w2.2.1 j j0 (by omega)
  rw [w1 j j0 (by omega), e43]
  unfold dI
  split <;> omega
theorem Rel0_inc (h : Rel0 ad I A J B) : incS A (I 41) := by
  obtain ⟨-, ⟨-, -, -, e43, -, -, -, e41⟩, -, -, ⟨-, c2⟩, -, w1, w2, w3⟩ := h
  intro j k j0 jk k1 hj e
  have a1 := w1 j j0 (by omega)
  have a2 := w1 k (by omega) (by omega)
  have b1 := w2.2.1 j j0 (by omega)
  have b2 := w2.2.1 k (by omega) (by omega)
  rw [a1] at hj e
  rw [a2] at e
  have hneg : B 19 j < 0 := by unfold dI at hj; split at hj <;> omega
  refine w3 j k j0 jk (by omega) hneg ?_
  unfold dI at e
  split at e <;> split at e <;> omega
theorem Rel0_hd (h : Rel0 ad I A J B) {i : Int} (i0 : 0 ≤ i) (i1 : i < J 6) (bar : Int) : chdA I A i bar = hdA J B i bar := by
  obtain ⟨-, ⟨-, -, -, -, -, -, e121, -⟩, -, -, ⟨c1, -⟩, ⟨n1, -⟩, -⟩ := h
  obtain ⟨a, b, c, -⟩ := c1 i i0 i1
  unfold chdA hdA ctsA tsA
  rw [e121, n1, a, b, c]
theorem Rel0_ts (h : Rel0 ad I A J B) {i : Int} (i0 : 0 ≤ i) (i1 : i < J 6) : ctsA A i = tsA B i ∧ cnmA A i = nmA B i := by
  obtain ⟨-, -, -, -, ⟨c1, -⟩, -⟩ := h
  obtain ⟨a, b, c, -⟩ := c1 i i0 i1
  unfold ctsA tsA cnmA nmA
  rw [a, b, c]
  exact ⟨rfl, rfl⟩
end REL
theorem fitN_cg {f g : Int → Int} {b : Int} : ∀ n : Nat, (∀ j : Int, 0 ≤ j → j < n → f j = g j) → fitN f b n = fitN g b n
  | 0, _ => rfl
  | n + 1, h => by rw [fitN, fitN, fitN_cg n (fun j j0 j1 => h j j0 (by omega)), h n (by omega) (by omega)]
theorem gsN_cg {f g : Int → Int} (h : ∀ k, f k = g k) (n : Nat) : gsN f n = gsN g n := by rw [show f = g from funext h]
theorem nxW_cg {S T : Int → Int} {sz : Int} (h : ∀ j, 0 ≤ j → j < sz → S j = T j) : ∀ (m : Nat) (k : Int), 0 ≤ k → nxW S sz m k = nxW T sz m k
  | 0, _, _ => rfl
  | m + 1, k, hk => by
    rw [nxW, nxW]
    by_cases e : k < sz
    · rw [if_pos e, if_pos e, h k hk e, nxW_cg h m (k + 1) (by omega)]
    · rw [if_neg e, if_neg e]
theorem wl_cg {S T : Int → Int} {sz : Int} {nm nm2 : Int → List Int} (h : ∀ j, 0 ≤ j → j < sz → S j = T j) (hn : ∀ j, 0 ≤ j → j < sz → T j < 0 → nm (-1 - T j) = nm2 (-1 - T j)) : ∀ (m : Nat) (k : Int) (U Lo : List Int) (ah : Int), 0 ≤ k → wl S sz nm m k U Lo ah = wl T sz nm2 m k U Lo ah ∧ 0 ≤ (wl T sz nm2 m k U Lo ah).2.2
  | 0, k, U, Lo, ah, hk => ⟨rfl, hk⟩
  | m + 1, k, U, Lo, ah, hk => by
    rw [wl, wl]
    by_cases e : k < sz
    · rw [h k hk e]
      by_cases e2 : T k ≠ 10
      · have e4 : k < sz ∧ T k ≠ 10 := ⟨e, e2⟩
        rw [if_pos e4, if_pos e4]
        have ef : filr S sz ah k = filr T sz ah k := by unfold filr; rw [nxW_cg h 1201 k hk]
        by_cases e3 : T k < 0
        · rw [if_pos e3, if_pos e3, ef, hn k hk e e3]
          exact wl_cg h hn m (k + 1) _ _ ah (by omega)
        · rw [if_neg e3, if_neg e3]
          exact wl_cg h hn m (k + 1) _ _ _ (by omega)
      · rw [if_neg (fun q => e2 q.2), if_neg (fun q => e2 q.2)]
        exact ⟨rfl, hk⟩
    · rw [if_neg (fun q => e q.1), if_neg (fun q => e q.1)]
      exact ⟨rfl, hk⟩
theorem wrN_cg {S T : Int → Int} {sz : Int} {nm nm2 : Int → List Int} (h : ∀ j, 0 ≤ j → j < sz → S j = T j) (hn : ∀ j, 0 ≤ j → j < sz → T j < 0 → nm (-1 - T j) = nm2 (-1 - T j)) : ∀ n : Nat, wrN S sz nm n = wrN T sz nm2 n ∧ 0 ≤ (wrN T sz nm2 n).1
  | 0 => ⟨rfl, by rw [wrN]; decide⟩
  | n + 1 => by
    obtain ⟨h1, h2⟩ := wrN_cg h hn n
    obtain ⟨h3, h4⟩ := wl_cg h hn 1202 (wrN T sz nm2 n).1 [] [] 0 h2
    rw [wrN, wrN, h1, h3]
    exact ⟨rfl, by dsimp only; omega⟩
theorem rsN_cg {n : Nat} {hs hs2 : Int → HS} {c : Int} (h : ∀ i, 0 ≤ i → i < c → hs i = hs2 i) : ∀ (m : Nat) (j : Nat), (m : Int) < c → rsN n hs c m j = rsN n hs2 c m j
  | 0, j, hm => by rw [rsN, rsN, h _ (by omega) (by omega)]
  | m + 1, j, hm => by
    rw [rsN, rsN, h (c - 1 - ((m + 1 : Nat) : Int)) (by omega) (by omega), h (c - 1 - (m : Int)) (by omega) (by omega)]
    congr 2
    funext k
    rw [rsN_cg h m k (by omega)]
theorem rsG_cg {n : Nat} {hs hs2 : Int → HS} {c i : Int} (h : ∀ i, 0 ≤ i → i < c → hs i = hs2 i) (i0 : 0 ≤ i) (i1 : i < c) (j : Nat) : rsG n hs c i j = rsG n hs2 c i j := rsN_cg h _ j (by omega)
theorem jsG_cg {n : Nat} {hs hs2 : Int → HS} {c : Int} (h : ∀ i, 0 ≤ i → i < c → hs i = hs2 i) : ∀ i : Nat, (i : Int) < c → jsG n hs c i = jsG n hs2 c i
  | 0, hc => by
    rw [jsG, jsG, h 0 (by omega) hc, show rsG n hs c 0 = rsG n hs2 c 0 from funext (fun j => rsG_cg h (by omega) hc j)]
  | i + 1, hc => by
    rw [jsG, jsG, jsG_cg h i (by omega), h ((i : Int) + 1) (by omega) (by omega)]
    congr 1
    funext k
    unfold nfG
    rw [h (i : Int) (by omega) (by omega), h ((i : Int) + 1) (by omega) (by omega), rsG_cg h (by omega) (by omega) k]
theorem jsA_G {J : Nat → Int} {B : Nat → Int → Int} {bar : Int} : ∀ i : Nat, jsA J B bar i = jsG (J 9).toNat (fun i => hdA J B i bar) (J 6) i
  | 0 => by rw [jsA, jsG]; rfl
  | i + 1 => by rw [jsA, jsG, jsA_G i]; rfl
theorem wl_len {S : Int → Int} {sz : Int} {nm : Int → List Int} (hn : ∀ j, 0 ≤ j → j < sz → S j < 0 → (nm (-1 - S j)).length ≤ 11) : ∀ (m : Nat) (k : Int) (U Lo : List Int) (ah M : Int), 0 ≤ k → (U.length : Int) ≤ M → (Lo.length : Int) ≤ M → (((wl S sz nm m k U Lo ah).1.length : Int) ≤ M + 12 * ((wl S sz nm m k U Lo ah).2.2 - k) ∧ ((wl S sz nm m k U Lo ah).2.1.length : Int) ≤ M + 12 * ((wl S sz nm m k U Lo ah).2.2 - k)) ∧ k ≤ (wl S sz nm m k U Lo ah).2.2 ∧ ((wl S sz nm m k U Lo ah).2.2 ≤ k ∨ (wl S sz nm m k U Lo ah).2.2 ≤ sz)
  | 0, k, U, Lo, ah, M, hk, h1, h2 => by rw [wl]; dsimp only; omega
  | m + 1, k, U, Lo, ah, M, hk, h1, h2 => by
    rw [wl]
    by_cases e : k < sz ∧ S k ≠ 10
    · rw [if_pos e]
      by_cases e3 : S k < 0
      · rw [if_pos e3]
        have hnm := hn k hk e.1 e3
        have hlo : ((loPad U Lo (filr S sz ah k)).length : Int) ≤ M + 1 := by
          unfold loPad
          split
          · omega
          · rw [padTo_len]; omega
        have ih := wl_len hn m (k + 1) (padTo U (loPad U Lo (filr S sz ah k)).length 32 ++ nm (-1 - S k)) (loPad U Lo (filr S sz ah k)) ah (M + 12) (by omega) (by rw [List.length_append, padTo_len]; omega) (by omega)
        omega
      · rw [if_neg e3]
        have ih := wl_len hn m (k + 1) U (Lo ++ [S k]) (S k) (M + 1) (by omega) (by omega) (by rw [List.length_append, List.length_singleton]; omega)
        omega
    · rw [if_neg e]
      dsimp only
      omega
theorem wrN_len {S : Int → Int} {sz : Int} {nm : Int → List Int} (hz : 0 ≤ sz) (hn : ∀ j, 0 ≤ j → j < sz → S j < 0 → (nm (-1 - S j)).length ≤ 11) : ∀ n : Nat, ((wrN S sz nm n).2.length : Int) ≤ 24 * (wrN S sz nm n).1 + 2 * n ∧ 0 ≤ (wrN S sz nm n).1 ∧ (wrN S sz nm n).1 ≤ sz + n + 1
  | 0 => by rw [wrN]; simp; omega
  | n + 1 => by
    obtain ⟨h1, h2, h3⟩ := wrN_len hz hn n
    obtain ⟨⟨h4, h5⟩, h6, h7⟩ := wl_len hn 1202 (wrN S sz nm n).1 [] [] 0 0 h2 (by simp) (by simp)
    rw [wrN]
    dsimp only
    simp only [List.length_append]
    have e1 : (if 0 < n then [(10 : Int)] else []).length ≤ 1 := by split <;> simp
    have e2 : (if 0 < (wl S sz nm 1202 (wrN S sz nm n).1 [] [] 0).1.length then [(10 : Int)] else []).length ≤ 1 := by split <;> simp
    omega
/-- a chord stands once among the items -/
def sqP : PS → Prop
  | ((_, _, _, sz), _, _, _, _, S) => ∀ j k : Int, 0 ≤ j → j < k → k < sz → S j < 0 → S j ≠ S k
theorem sqP_st {T : Int → Int} {n : Int} {s s2 : PS} (hs : okP n s) (hq : sqP s) (hT : ∀ j, 0 ≤ j → j < n → 0 ≤ T j) (hl : s.1.1 < n) (e : pst (bA T n) s = .inr s2) : sqP s2 := by
  obtain ⟨⟨a, ch, ln, sz⟩, R, K, B, L, S⟩ := s
  obtain ⟨h1, h2, h3, h4, h5, h6, h7⟩ := hs
  dsimp only at hl
  have key : ∀ c : Int, (0 ≤ c ∨ c = -1 - ch) → ∀ j k : Int, 0 ≤ j → j < k → k < sz + 1 → zu S sz c j < 0 → zu S sz c j ≠ zu S sz c k := fun c hc j k j0 jk k1 hj => by
    have hjs : j ≠ sz := by omega
    rw [zu_ne hjs] at hj ⊢
    have h6j := h6 j j0 (by omega)
    by_cases e : k = sz
    · rw [e, zu_same]; omega
    · rw [zu_ne e]; exact hq j k j0 jk (by omega) hj
  have hfa : 0 ≤ bA T n a := by unfold bA; rw [if_pos hl]; exact hT a h1.1 hl
  rw [pst_eq] at e
  split at e
  · split at e
    · cases e
    · split at e
      · cases e
      · cases e
        exact key _ (Or.inr rfl)
  · split at e
    · cases e
    · split at e
      · cases e
      · cases e
        exact key _ (Or.inl hfa)
theorem sqP_run {T : Int → Int} {n : Int} (hT : ∀ j, 0 ≤ j → j < n → 0 ≤ T j) : ∀ (m : Nat) (s s2 : PS), okP n s → sqP s → prun (bA T n) n m s = .inr s2 → sqP s2
  | 0, s, s2, h, hq, e => by cases e; exact hq
  | m + 1, s, s2, h, hq, e => by
    by_cases hl : s.1.1 < n
    · cases hp : pst (bA T n) s with
      | inl x => rw [prun_l hl hp] at e; cases e
      | inr s3 => rw [prun_r hl hp] at e; exact sqP_run hT m s3 s2 (okP_st h hl hp) (sqP_st h hq hT hl hp) e
    · rw [prun_end hl] at e; cases e; exact hq
