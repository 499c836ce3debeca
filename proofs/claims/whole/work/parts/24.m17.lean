def okE (n : Nat) (e : Int × List Int) : Prop := (0 ≤ e.1 ∧ e.1 ≤ 60) ∧ e.2.length = n ∧ ∀ v ∈ e.2, -1 ≤ v ∧ v ≤ 9
def okHS (n : Nat) (H : HS) : Prop := ∀ e ∈ H, okE n e
theorem insH_mem {H : HS} {x : Int} {p : List Int} {e : Int × List Int} (h : e ∈ insH H x p) : e ∈ H ∨ e = (x, p) := by
  unfold insH at h
  rcases List.mem_append.mp (List.mem_of_mem_take h) with h1 | h1
  · exact Or.inl (List.mem_of_mem_take h1)
  · rcases List.mem_cons.mp h1 with h2 | h2
    · exact Or.inr h2
    · exact Or.inl (List.mem_of_mem_drop h2)
theorem atl_fin (g : Int → Int) (ls : Int) : ∀ n : Nat, atlN g ls n ≤ finN g n
  | 0 => by simp [atlN, finN]
  | n + 1 => by
    have h := atl_fin g ls n
    rw [atlN, finN]
    by_cases e : g n = -1
    · rw [if_pos e, if_pos e]; exact h
    · rw [if_neg e, if_neg e]
      by_cases e2 : 0 < g n ∧ g n = ls
      · rw [if_pos e2, if_pos e2.1]; omega
      · rw [if_neg e2]; split <;> omega
theorem stX_in {g pt : Int → Int} {n : Nat} {bar tones ls ms rt bs : Int} (hn : n ≤ 6) (hm : 0 ≤ ms ∧ ms ≤ 9) (h : stX g pt n bar tones ls ms rt bs < 1000000000) : 0 ≤ stX g pt n bar tones ls ms rt bs ∧ stX g pt n bar tones ls ms rt bs ≤ 60 := by
  obtain ⟨b1, b2, b3, b4⟩ := st_b g pt bar ls n
  have b5 := atl_fin g ls n
  unfold stX at h ⊢
  generalize hf : (if opnN g n = 0 ∧ 1 < atlN g ls n then finN g n - (atlN g ls n - 1) else finN g n) = f at h ⊢
  generalize (if cntN tones 12 < 4 then zand tones (zxor (sndN g pt bar n) (-1)) else zand (zand tones (zxor (sndN g pt bar n) (-1))) (zxor (zshl 1 ((rt + 7).tmod 12)) (-1))) = z at h ⊢
  have hfb : 0 ≤ f := by rw [← hf]; split <;> omega
  by_cases h1 : lowN g pt bar n = 1000000000 ∨ (lowN g pt bar n).tmod 12 ≠ bs
  · rw [if_pos h1] at h; omega
  · rw [if_neg h1] at h ⊢
    by_cases h2 : z ≠ 0
    · rw [if_pos h2] at h; omega
    · rw [if_neg h2] at h ⊢
      by_cases h3 : 4 < f
      · rw [if_pos h3] at h; omega
      · rw [if_neg h3] at h ⊢
        omega
theorem leafH_ok {pt : Int → Int} {n : Nat} {bar tones rt bs : Int} {p : List Int} {H : HS} (hn : n ≤ 6) (hp : p.length = n) (hv : ∀ v ∈ p, -1 ≤ v ∧ v ≤ 9) (h : okHS n H) : okHS n (leafH pt n bar tones rt bs p H) := by
  unfold leafH
  split
  · rename_i hs
    intro e he
    rcases insH_mem he with h1 | h1
    · exact h e h1
    · rw [h1]
      have hm := (lm_in (p := p) (fun d hd => by rw [List.getD, List.getElem?_eq_getElem hd]; exact hv _ (List.getElem_mem hd))).2
      exact ⟨stX_in hn hm hs, hp, hv⟩
  · exact h
theorem vals_in : ∀ c : Nat, c ≤ 11 → ∀ v ∈ vals c, -1 ≤ v ∧ v ≤ 9
  | 0, _, v, h => by cases h
  | c + 1, hc, v, h => by
    rcases List.mem_cons.mp h with e | e
    · omega
    · exact vals_in c (by omega) v e
theorem foldl_inv {α β : Type} {P : β → Prop} {f : β → α → β} : ∀ (l : List α) (b : β), P b → (∀ b a, a ∈ l → P b → P (f b a)) → P (l.foldl f b)
  | [], b, h, _ => h
  | a :: l, b, h, hf => foldl_inv l (f b a) (hf b a List.mem_cons_self h) (fun b2 a2 ha => hf b2 a2 (List.mem_cons_of_mem _ ha))
theorem subH_ok {pt : Int → Int} {n : Nat} {bar tones rt bs : Int} (hn : n ≤ 6) : ∀ (k : Nat) (p : List Int) (H : HS), p.length + k = n → (∀ v ∈ p, -1 ≤ v ∧ v ≤ 9) → okHS n H → okHS n (subH pt n bar tones rt bs k p H)
  | 0, p, H, hp, hv, h => leafH_ok hn (by omega) hv h
  | k + 1, p, H, hp, hv, h => by
    rw [subH]
    refine foldl_inv (P := okHS n) _ _ h (fun H2 v hvm h2 => ?_)
    split
    · refine subH_ok hn k (p ++ [v]) H2 (by rw [List.length_append, List.length_singleton]; omega) (fun w hw => ?_) h2
      rcases List.mem_append.mp hw with h3 | h3
      · exact hv w h3
      · rw [List.mem_singleton.mp h3]
        exact vals_in 11 (Nat.le_refl _) v hvm
    · exact h2
theorem hdX_ok {pt : Int → Int} {n : Nat} {bar tones rt bs : Int} (hn : n ≤ 6) : okHS n (hdX pt n bar tones rt bs) := by
  unfold hdX
  split
  · intro e he; cases he
  · exact subH_ok hn n [] [] (by rw [List.length_nil]; omega) (fun v h => by cases h) (fun e he => by cases he)
/-- strains, and hands, by their numbers -/
def sj (H : HS) (j : Nat) : Int := (H.getD j (0, [])).1
def hj (H : HS) (j : Nat) : List Int := (H.getD j (0, [])).2
theorem okHS_j {n : Nat} {H : HS} (h : okHS n H) {j : Nat} (hjl : j < H.length) : (0 ≤ sj H j ∧ sj H j ≤ 60) ∧ (hj H j).length = n ∧ ∀ s : Nat, -1 ≤ (hj H j).getD s 0 ∧ (hj H j).getD s 0 ≤ 9 := by
  have hm : H.getD j (0, []) ∈ H := by rw [List.getD, List.getElem?_eq_getElem hjl]; exact List.getElem_mem hjl
  obtain ⟨h1, h2, h3⟩ := h _ hm
  refine ⟨h1, h2, fun s => ?_⟩
  unfold hj
  by_cases e : s < (H.getD j (0, [])).2.length
  · rw [List.getD, List.getElem?_eq_getElem e]; exact h3 _ (List.getElem_mem e)
  · rw [List.getD, List.getElem?_eq_none (by omega)]; simp
def mnN (f : Nat → Int) : Nat → Int
  | 0 => 1000000000
  | k + 1 => if f k < mnN f k then f k else mnN f k
theorem mnN_in {f : Nat → Int} {B : Int} (hB : B < 1000000000) : ∀ n : Nat, 0 < n → (∀ k, k < n → 0 ≤ f k ∧ f k ≤ B) → 0 ≤ mnN f n ∧ mnN f n ≤ B
  | 0, h, _ => by omega
  | 1, _, h => by
    have := h 0 (by omega)
    rw [mnN, mnN, if_pos (by omega)]
    exact this
  | n + 2, _, h => by
    have h1 := mnN_in hB (n + 1) (by omega) (fun k hk => h k (by omega))
    have h2 := h (n + 1) (by omega)
    rw [mnN]
    split
    · exact h2
    · exact h1
theorem mnN_b {f : Nat → Int} : ∀ n : Nat, (∀ k, k < n → 0 ≤ f k ∧ f k ≤ 1000000) → 0 ≤ mnN f n ∧ mnN f n ≤ 1000000000
  | 0, _ => by simp [mnN]
  | n + 1, h => by
    have h1 := mnN_b n (fun k hk => h k (by omega))
    have h2 := h n (by omega)
    rw [mnN]
    split <;> omega
theorem mnN_eq {f g : Nat → Int} : ∀ n : Nat, (∀ k, k < n → f k = g k) → mnN f n = mnN g n
  | 0, _ => rfl
  | n + 1, h => by rw [mnN, mnN, mnN_eq n (fun k hk => h k (by omega)), h n (by omega)]
def chL (n : Nat) (p q : List Int) : Int := chN (gL p) (gL q) n
/-- the least sum from a chord to the song's end, m chords behind it -/
def rsN (n : Nat) (hs : Int → HS) (c : Int) : Nat → Nat → Int
  | 0, j => sj (hs (c - 1)) j
  | m + 1, j => sj (hs (c - 1 - ((m + 1 : Nat) : Int))) j + mnN (fun k => chL n (hj (hs (c - 1 - ((m + 1 : Nat) : Int))) j) (hj (hs (c - 1 - (m : Int))) k) + rsN n hs c m k) (hs (c - 1 - (m : Int))).length
theorem chL_in {n : Nat} {H1 H2 : HS} {j k : Nat} (hn : n ≤ 6) (h1 : okHS n H1) (h2 : okHS n H2) (hjl : j < H1.length) (hk : k < H2.length) : 0 ≤ chL n (hj H1 j) (hj H2 k) ∧ chL n (hj H1 j) (hj H2 k) ≤ 54 := by
  have := chN_in (f := gL (hj H1 j)) (g := gL (hj H2 k)) n (fun s hs => ⟨by unfold gL; rw [Int.toNat_natCast]; exact (okHS_j h1 hjl).2.2 s, by unfold gL; rw [Int.toNat_natCast]; exact (okHS_j h2 hk).2.2 s⟩)
  unfold chL
  omega
theorem rsN_in {n : Nat} {hs : Int → HS} {c : Int} (hn : n ≤ 6) (hc60 : c ≤ 60) (hok : ∀ i : Int, 0 ≤ i → i < c → okHS n (hs i) ∧ 0 < (hs i).length) : ∀ (m : Nat) (j : Nat), (m : Int) < c → j < (hs (c - 1 - m)).length → 0 ≤ rsN n hs c m j ∧ rsN n hs c m j ≤ 114 * (m + 1)
  | 0, j, hm, hjl => by
    rw [rsN]
    rw [show c - 1 - ((0 : Nat) : Int) = c - 1 by omega] at hjl
    have := (okHS_j (hok (c - 1) (by omega) (by omega)).1 hjl).1
    omega
  | m + 1, j, hm, hjl => by
    have h1 := (okHS_j (hok (c - 1 - ((m + 1 : Nat) : Int)) (by omega) (by omega)).1 hjl).1
    have hk1 := hok (c - 1 - (m : Int)) (by omega) (by omega)
    have h2 := mnN_in (f := fun k => chL n (hj (hs (c - 1 - ((m + 1 : Nat) : Int))) j) (hj (hs (c - 1 - (m : Int))) k) + rsN n hs c m k) (B := 54 + 114 * (m + 1)) (by omega) (hs (c - 1 - (m : Int))).length hk1.2 (fun k hk => by
      have a1 := chL_in hn (hok (c - 1 - ((m + 1 : Nat) : Int)) (by omega) (by omega)).1 hk1.1 hjl hk
      have a2 := rsN_in hn hc60 hok m k (by omega) hk
      omega)
    rw [rsN]
    omega
def frS (A A1 : Nat → Int → Int) : Prop := ∀ k, k ≠ 38 → k ≠ 39 → k ≠ 40 → k ≠ 41 → k ≠ 42 → k ≠ 43 → k ≠ 44 → A1 k = A k
theorem frS_F {A A1 A2 : Nat → Int → Int} {a : Int} (h : frS A A1) (h2 : frF A1 a A2) : frS A A2 := fun k h38 h39 h40 h41 h42 h43 h44 => by rw [h2.1 k h38 h39 h40 h41 h42 h43]; exact h k h38 h39 h40 h41 h42 h43 h44
theorem frS_hd {I : Nat → Int} {A A1 : Nat → Int → Int} {i bar : Int} (h : frS A A1) : hdA I A1 i bar = hdA I A i bar := hdA_eq rfl (h 11 (by decide) (by decide) (by decide) (by decide) (by decide) (by decide) (by decide)) (h 12 (by decide) (by decide) (by decide) (by decide) (by decide) (by decide) (by decide)) (h 13 (by decide) (by decide) (by decide) (by decide) (by decide) (by decide) (by decide)) (h 23 (by decide) (by decide) (by decide) (by decide) (by decide) (by decide) (by decide))
theorem frS_C {I : Nat → Int} {A A1 : Nat → Int → Int} (h : frS A A1) (hC : okC I A) : okC I A1 := by
  unfold okC
  rw [h 11 (by decide) (by decide) (by decide) (by decide) (by decide) (by decide) (by decide), h 12 (by decide) (by decide) (by decide) (by decide) (by decide) (by decide) (by decide), h 13 (by decide) (by decide) (by decide) (by decide) (by decide) (by decide) (by decide)]
  exact hC
theorem frS_N {I : Nat → Int} {A A1 : Nat → Int → Int} (h : frS A A1) (hN : okN I A) : okN I A1 := by
  unfold okN
  rw [h 23 (by decide) (by decide) (by decide) (by decide) (by decide) (by decide) (by decide)]
  exact hN
theorem repH_44 {A : Nat → Int → Int} {a : Int} {n : Nat} {H : HS} {F : Int → Int} (h : repH A a n H) : repH (va_up A 44 F) a n H := by
  unfold repH
  simp only [up_n, ne_eq, Nat.reduceEqDiff, not_false_eq_true]
  exact h
theorem okH_44 {I : Nat → Int} {A : Nat → Int → Int} {F : Int → Int} (h : okH I A) : okH I (va_up A 44 F) := fun i bar a b c d => by
  rw [hdA_eq (I := I) (A := A) rfl (by simp only [up_n, ne_eq, Nat.reduceEqDiff, not_false_eq_true]) (by simp only [up_n, ne_eq, Nat.reduceEqDiff, not_false_eq_true]) (by simp only [up_n, ne_eq, Nat.reduceEqDiff, not_false_eq_true]) (by simp only [up_n, ne_eq, Nat.reduceEqDiff, not_false_eq_true])]
  rcases h i bar a b c d with q | q
  · exact Or.inl (by rw [up_n (by decide)]; exact q)
  · exact Or.inr (repH_44 q)
/-- all chords have hands at a bar -/
def allH (I : Nat → Int) (A : Nat → Int → Int) (bar : Int) : Prop := 0 < I 6 ∧ ∀ i : Int, 0 ≤ i → i < I 6 → 0 < (hdA I A i bar).length
def rsA (I : Nat → Int) (A : Nat → Int → Int) (bar i : Int) (j : Nat) : Int := rsN (I 9).toNat (fun i => hdA I A i bar) (I 6) (I 6 - 1 - i).toNat j
def sumP (I : Nat → Int) (A : Nat → Int → Int) (bar r : Int) (u : sM) : Prop := u.1 = I ∧ frS A u.2 ∧ okH I u.2 ∧ (allH I A bar → r = mnN (rsA I A bar 0) (hdA I A 0 bar).length ∧ (∀ i : Int, 0 ≤ i → i < I 6 → repH u.2 (8 * i + bar) (I 9).toNat (hdA I A i bar) ∧ ∀ j : Nat, j < (hdA I A i bar).length → u.2 44 (6 * i + j) = rsA I A bar i j)) ∧ (¬ allH I A bar → r = -1)
/-- change, over what is kept -/
theorem changeW {l : Launch} {D : va_G} {cI : ClassId} {ad : Nat → Nat} {O : OT} {adK adV : Nat → Nat} (hO : OG O adK adV) {I : Nat → Int} {A : Nat → Int → Int} {i ni bar : Int} {j t n : Nat} {H1 H2 : HS} (hn : (n : Int) = I 9) (hn6 : n ≤ 6) (hi : 0 ≤ i ∧ i < 60) (hni : 0 ≤ ni ∧ ni < 60) (hb : 0 ≤ bar ∧ bar ≤ 7) (r1 : repH A (8 * i + bar) n H1) (r2 : repH A (8 * ni + bar) n H2) (o1 : okHS n H1) (o2 : okHS n H2) (hjl : j < H1.length) (htl : t < H2.length) : MC l D cI ad O yX11_change cX11_change 10 (some .int) 1 [.ref (ad 0), .int (iZ i), .int (iZ (j : Int)), .int (iZ ni), .int (iZ (t : Int)), .int (iZ bar)] (I, A) (pI fun r u2 => r = chL n (hj H1 j) (hj H2 t) ∧ u2 = (I, A)) := by
  have l1 := r1.2.1
  have l2 := r2.2.1
  have e1 : ∀ s : Nat, s < n → A 39 (36 * (8 * i + bar) + 6 * (j : Int) + s) = (hj H1 j).getD s 0 := fun s hs => (r1.2.2 j hjl).2 s hs
  have e2 : ∀ s : Nat, s < n → A 39 (36 * (8 * ni + bar) + 6 * (t : Int) + s) = (hj H2 t).getD s 0 := fun s hs => (r2.2.2 t htl).2 s hs
  have := qX11_change (l := l) (D := D) (cI := cI) (ad := ad) hO (I := I) (A := A) (i := i) (j := (j : Int)) (ni := ni) (t := (t : Int)) (bar := bar) hi ⟨by omega, by omega⟩ hni ⟨by omega, by omega⟩ hb ⟨by omega, by omega⟩ (fun s s0 s1 => by
    have a1 := e1 s.toNat (by omega)
    have a2 := e2 s.toNat (by omega)
    rw [show ((s.toNat : Nat) : Int) = s by omega] at a1 a2
    rw [a1, a2]
    exact ⟨(okHS_j o1 hjl).2.2 s.toNat, (okHS_j o2 htl).2.2 s.toNat⟩)
  rw [show (I 9).toNat = n by omega, chN_eq (f2 := gL (hj H1 j)) (g2 := gL (hj H2 t)) n (fun s hs => ⟨by unfold gL; rw [Int.toNat_natCast]; exact e1 s hs, by unfold gL; rw [Int.toNat_natCast]; exact e2 s hs⟩)] at this
  exact this
