theorem up_l {α : Type} {f : Nat → α} {k : Nat} {v : α} {ks : List Nat} (h : k ∉ ks) : ∀ j ∈ ks, va_up f k v j = f j := fun j hj => up_n (fun e => h (e ▸ hj))
theorem up_l2 {α : Type} {f : Nat → α} {k k2 : Nat} {v v2 : α} {ks : List Nat} (h : k ∉ ks) (h2 : k2 ∉ ks) : ∀ j ∈ ks, va_up (va_up f k v) k2 v2 j = f j := fun j hj => (up_l h2 j hj).trans (up_l h j hj)
theorem up_l3 {α : Type} {f : Nat → α} {k k2 k3 : Nat} {v v2 v3 : α} {ks : List Nat} (h : k ∉ ks) (h2 : k2 ∉ ks) (h3 : k3 ∉ ks) : ∀ j ∈ ks, va_up (va_up (va_up f k v) k2 v2) k3 v3 j = f j := fun j hj => (up_l h3 j hj).trans (up_l2 h h2 j hj)
theorem rfl_l {α : Type} {f : Nat → α} {ks : List Nat} : ∀ j ∈ ks, f j = f j := fun _ _ => rfl
theorem ne_l {α : Type} {f g : Nat → α} {ks bad : List Nat} (h : ∀ k, k ∉ bad → f k = g k) (hd : ∀ k ∈ ks, k ∉ bad) : ∀ k ∈ ks, f k = g k := fun k hk => h k (hd k hk)
theorem Rel_t {ad : Nat → Nat} {I : Nat → Int} {A : Nat → Int → Int} {J : Nat → Int} {B : Nat → Int → Int} {t : Int} (hR : Rel (ad, I, A) (J, B)) : Rel (ad, I, A) (va_up J 0 t, B) := by
  obtain ⟨h0, hO, hP, hH⟩ := hR
  exact ⟨Rel0_cg h0.1 rfl_l rfl_l (by (try dsimp only); exact up_l (by decide)) rfl_l h0, RelO_cg rfl rfl (by (try dsimp only); exact up_n (by decide)) rfl hO, RelP_cg rfl rfl (by (try dsimp only); exact up_n (by decide)) rfl (by (try dsimp only); exact up_n (by decide)) hP, okH_cg (by (try dsimp only); exact up_n (by decide)) (by (try dsimp only); exact up_n (by decide)) rfl_l hH.1, hH.2⟩
theorem st_feed {ad : Nat → Nat} {I : Nat → Int} {A : Nat → Int → Int} {J : Nat → Int} {B : Nat → Int → Int} {r b : Int} {u2 : sC} {v2 : sM} {p1 p2 p3 p4 p5 : Int} (hR : Rel (ad, I, A) (J, B)) (hC : (I 1 + 20 > 1200 → r = -1 ∧ u2 = (ad, I, A)) ∧ (I 1 + 20 ≤ 1200 → r = I 1 + 20 ∧ u2 = (ad, va_up I 1 (I 1 + 20), va_up A 0 (lay4 (lay4 (lay4 (lay4 (lay4 (A 0) (I 1) p1) (I 1 + 4) p2) (I 1 + 8) p3) (I 1 + 12) p4) (I 1 + 16) p5)))) (hM : (J 2 + 20 > 1200 → b = -1 ∧ v2 = (va_up J 0 0, B)) ∧ (J 2 + 20 ≤ 1200 → b = J 2 + 20 ∧ v2 = (va_up (va_up J 0 0) 2 (J 2 + 20), va_up B 1 (lay4 (lay4 (lay4 (lay4 (lay4 (B 1) (J 2) p1) (J 2 + 4) p2) (J 2 + 8) p3) (J 2 + 12) p4) (J 2 + 16) p5)))) : Rel u2 v2 ∧ r = b ∧ u2.1 19 = ad 19 ∧ v2.1 0 = 0 := by
  have hR0 := hR
  obtain ⟨h0, hO, hP, hH⟩ := hR
  dsimp only at h0 hO hP hH
  obtain ⟨ha, ⟨i1, i5, i6, i43, i42, i7, i121, i41⟩, ⟨b2, b5, b57, b7, b8⟩, ⟨t1, t2⟩, ⟨c1, c2⟩, ⟨n1, n2⟩, ⟨w1, w2, w3⟩⟩ := id h0
  by_cases q : J 2 + 20 ≤ 1200
  · obtain ⟨rfl, rfl⟩ := hC.2 (by omega)
    obtain ⟨rfl, rfl⟩ := hM.2 q
    refine ⟨⟨?_, RelO_cg (by (try dsimp only); exact up_n (by decide)) (by (try dsimp only); exact up_n (by decide)) (by (try dsimp only); rw [up_n (by decide), up_n (by decide)]) (by (try dsimp only); exact up_n (by decide)) hO, RelP_cg (by (try dsimp only); exact up_n (by decide)) (by (try dsimp only); exact up_n (by decide)) (by (try dsimp only); rw [up_n (by decide), up_n (by decide)]) (by (try dsimp only); exact up_n (by decide)) (by (try dsimp only); rw [up_n (by decide), up_n (by decide)]) hP, okH_cg (by (try dsimp only); rw [up_n (by decide), up_n (by decide)]) (by (try dsimp only); rw [up_n (by decide), up_n (by decide)]) (by (try dsimp only); exact up_l (by decide)) hH.1, cokH_cg2 (by (try dsimp only); exact up_n (by decide)) (by (try dsimp only); exact up_n (by decide)) (by (try dsimp only); exact up_l (by decide)) hH.2⟩, by omega, rfl, by simp only [up_s, up_n, up_up, ne_eq, Nat.reduceEqDiff, not_false_eq_true]⟩
    show Rel0 ad (va_up I 1 _) (va_up A 0 _) (va_up (va_up J 0 0) 2 _) (va_up B 1 _)
    unfold Rel0 okC okN okI
    simp only [up_s, up_n, up_up, ne_eq, Nat.reduceEqDiff, not_false_eq_true]
    refine ⟨ha, ⟨by omega, i5, i6, i43, i42, i7, i121, i41⟩, ⟨by omega, b5, b57, b7, b8⟩, ⟨by (try dsimp only); rw [t1, i1], ?_⟩, ⟨c1, c2⟩, ⟨n1, n2⟩, w1, w2, w3⟩
    have e1 := lay4_in (v := p1) t2
    have e2 := lay4_in (v := p2) e1
    rw [show J 2 + 4 + 4 = J 2 + 8 by omega] at e2
    have e3 := lay4_in (v := p3) e2
    rw [show J 2 + 8 + 4 = J 2 + 12 by omega] at e3
    have e4 := lay4_in (v := p4) e3
    rw [show J 2 + 12 + 4 = J 2 + 16 by omega] at e4
    have e5 := lay4_in (v := p5) e4
    rw [show J 2 + 16 + 4 = J 2 + 20 by omega] at e5
    exact e5
  · obtain ⟨rfl, rfl⟩ := hC.1 (by omega)
    obtain ⟨rfl, rfl⟩ := hM.1 (by omega)
    exact ⟨Rel_t hR0, rfl, rfl, by (try dsimp only); exact up_s _ _ _⟩
theorem st_key {ad : Nat → Nat} {I : Nat → Int} {A : Nat → Int → Int} {J : Nat → Int} {B : Nat → Int → Int} {r b : Int} {u2 : sC} {v2 : sM} {k : Int} (hR : Rel (ad, I, A) (J, B)) (hk : -7 ≤ k ∧ k ≤ 7) (hC : r = I 7 ∧ u2 = (ad, va_up I 7 k, A)) (hM : b = J 8 ∧ v2 = (va_up (va_up J 0 0) 8 k, B)) : Rel u2 v2 ∧ r = b ∧ u2.1 19 = ad 19 ∧ v2.1 0 = 0 := by
  obtain ⟨h0, hO, hP, hH⟩ := hR
  dsimp only at h0 hO hP hH
  obtain ⟨ha, ⟨i1, i5, i6, i43, i42, i7, i121, i41⟩, ⟨b2, b5, b57, b7, b8⟩, ⟨t1, t2⟩, ⟨c1, c2⟩, ⟨n1, n2⟩, ⟨w1, w2, w3⟩⟩ := id h0
  obtain ⟨rfl, rfl⟩ := hC
  obtain ⟨rfl, rfl⟩ := hM
  refine ⟨⟨?_, RelO_cg (by (try dsimp only); exact up_n (by decide)) rfl (by (try dsimp only); rw [up_n (by decide), up_n (by decide)]) rfl hO, RelP_cg (by (try dsimp only); exact up_n (by decide)) rfl (by (try dsimp only); rw [up_n (by decide), up_n (by decide)]) rfl (by (try dsimp only); rw [up_n (by decide), up_n (by decide)]) hP, okH_cg (by (try dsimp only); rw [up_n (by decide), up_n (by decide)]) (by (try dsimp only); rw [up_n (by decide), up_n (by decide)]) rfl_l hH.1, cokH_cg2 (by (try dsimp only); exact up_n (by decide)) (by (try dsimp only); exact up_n (by decide)) rfl_l hH.2⟩, i7, rfl, by simp only [up_s, up_n, up_up, ne_eq, Nat.reduceEqDiff, not_false_eq_true]⟩
  show Rel0 ad (va_up I 7 _) A (va_up (va_up J 0 0) 8 _) B
  unfold Rel0 okC okN okI
  simp only [up_s, up_n, up_up, ne_eq, Nat.reduceEqDiff, not_false_eq_true]
  exact ⟨ha, ⟨i1, i5, i6, i43, i42, trivial, i121, i41⟩, ⟨b2, b5, b57, b7, hk⟩, ⟨t1, t2⟩, ⟨c1, c2⟩, ⟨n1, n2⟩, w1, w2, w3⟩
theorem st_move {ad : Nat → Nat} {I : Nat → Int} {A : Nat → Int → Int} {J : Nat → Int} {B : Nat → Int → Int} {r b : Int} {u2 : sC} {v2 : sM} {n : Int} (hR : Rel (ad, I, A) (J, B)) (hn : -11 ≤ n ∧ n ≤ 11) (hC : r = mv (I 7) n ∧ ∃ F R S, (∀ j, 0 ≤ j → j < 480 → F j = -1) ∧ (∀ j, R j = shR (A 44) (mv (I 7) n) (I 7) (I 43) j ∧ S j = shR (A 46) (mv (I 7) n) (I 7) (I 43) j) ∧ u2 = (ad, va_up (va_up I 7 (mv (I 7) n)) 164 (-1), va_up (va_up (va_up A 44 R) 46 S) 141 F)) (hM : b = mv (J 8) n ∧ ∃ M R S, (∀ j, 0 ≤ j → j < 480 → M j = -1) ∧ (∀ j, R j = shR (B 11) (mv (J 8) n) (J 8) (J 6) j ∧ S j = shR (B 13) (mv (J 8) n) (J 8) (J 6) j) ∧ (∀ k, k ≠ 0 → k ≠ 8 → k ≠ 10 → v2.1 k = J k) ∧ v2.1 0 = 0 ∧ v2.1 8 = mv (J 8) n ∧ v2.1 10 = -1 ∧ (∀ k, k ≠ 11 → k ≠ 13 → k ≠ 38 → v2.2 k = B k) ∧ v2.2 11 = R ∧ v2.2 13 = S ∧ v2.2 38 = M) : Rel u2 v2 ∧ r = b ∧ u2.1 19 = ad 19 ∧ v2.1 0 = 0 := by
  obtain ⟨h0, hO, hP, hH⟩ := hR
  dsimp only at h0 hO hP hH
  obtain ⟨ha, ⟨i1, i5, i6, i43, i42, i7, i121, i41⟩, ⟨b2, b5, b57, b7, b8⟩, ⟨t1, t2⟩, ⟨c1, c2⟩, ⟨n1, n2⟩, ⟨w1, w2, w3⟩⟩ := id h0
  obtain ⟨rfl, F, R, S, hF, hRS, rfl⟩ := hC
  obtain ⟨rfl, M, R2, S2, hM1, hRS2, f1, f2, f3, f4, f5, f6, f7, f8⟩ := hM
  obtain ⟨J2, B2⟩ := v2
  dsimp only at f1 f2 f3 f4 f5 f6 f7 f8
  have hmv : -5 ≤ mv (J 8) n ∧ mv (J 8) n ≤ 6 := by unfold mv; omega
  have g2 := f1 2 (by decide) (by decide) (by decide)
  have g3 := f1 3 (by decide) (by decide) (by decide)
  have g4 := f1 4 (by decide) (by decide) (by decide)
  have g5 := f1 5 (by decide) (by decide) (by decide)
  have g6 := f1 6 (by decide) (by decide) (by decide)
  have g7 := f1 7 (by decide) (by decide) (by decide)
  have g9 := f1 9 (by decide) (by decide) (by decide)
  have g21 := f1 21 (by decide) (by decide) (by decide)
  have g26 := f1 26 (by decide) (by decide) (by decide)
  have p1 := f5 1 (by decide) (by decide) (by decide)
  have p12 := f5 12 (by decide) (by decide) (by decide)
  have p14 := f5 14 (by decide) (by decide) (by decide)
  have p19 := f5 19 (by decide) (by decide) (by decide)
  have p23 := f5 23 (by decide) (by decide) (by decide)
  have p25 := f5 25 (by decide) (by decide) (by decide)
  refine ⟨⟨?_, RelO_cg (by (try dsimp only); rw [up_n (by decide), up_n (by decide)]) (by (try dsimp only); rw [up_n (by decide), up_n (by decide), up_n (by decide)]) g26 p25 hO, ?_, okH_no (by (try dsimp only); rw [g6]; exact c2.1.2) (by (try dsimp only); rw [f8]; exact hM1), cokH_no (by (try dsimp only); rw [up_n (by decide), up_n (by decide), i43]; exact c2.1.2) (by (try dsimp only); rw [up_s]; exact hF)⟩, by (try dsimp only); rw [i7], rfl, f2⟩
  · show Rel0 ad (va_up (va_up I 7 _) 164 (-1)) (va_up (va_up (va_up A 44 R) 46 S) 141 F) J2 B2
    unfold Rel0 okC okN okI
    simp only [up_s, up_n, up_up, ne_eq, Nat.reduceEqDiff, not_false_eq_true]
    rw [g2, g3, g4, g5, g6, g7, g9, g21, f3, p1, p12, p14, p19, p23, f6, f7]
    refine ⟨ha, ⟨i1, i5, i6, i43, i42, by (try dsimp only); rw [i7], i121, i41⟩, ⟨b2, b5, b57, b7, by omega⟩, ⟨t1, t2⟩, ⟨fun j j0 j1 => ?_, c2.1, fun j j0 j1 => ?_⟩, ⟨n1, n2⟩, w1, w2, w3⟩
    · obtain ⟨a1, a2, a3, a4⟩ := c1 j j0 j1
      refine ⟨?_, a2, ?_, a4⟩
      · rw [(hRS j).1, (hRS2 j).1]
        unfold shR
        rw [i43, i7, a1]
      · rw [(hRS j).2, (hRS2 j).2]
        unfold shR
        rw [i43, i7, a3]
    · obtain ⟨a1, a2, a3⟩ := c2.2 j j0 j1
      rw [(hRS2 j).1, (hRS2 j).2]
      unfold shR
      rw [if_pos ⟨j0, j1⟩, if_pos ⟨j0, j1⟩]
      exact ⟨wi_in _, a2, wi_in _⟩
  · unfold RelP
    simp only [up_s, up_n, up_up, ne_eq, Nat.reduceEqDiff, not_false_eq_true]
    rw [f4]
    exact ⟨rfl, by decide, fun q => absurd rfl q⟩
theorem hasO_eq {F G : Int → Int} {n m : Int} {xs : List Int} (h1 : hasO F n xs) (h2 : hasO G m xs) : n = m ∧ ∀ k, 0 ≤ k → k < m → k < 4000 → F k = G k := by
  refine ⟨h1.1.trans h2.1.symm, fun k k0 k1 k2 => ?_⟩
  have a1 := h1.2 k.toNat (by have := h2.1; omega) (by omega)
  have a2 := h2.2 k.toNat (by have := h2.1; omega) (by omega)
  rw [Int.toNat_of_nonneg k0] at a1 a2
  rw [a1, a2]
theorem st_name {ad : Nat → Nat} {I : Nat → Int} {A : Nat → Int → Int} {J : Nat → Int} {B : Nat → Int → Int} {r b : Int} {u2 : sC} {v2 : sM} {i : Int} (hR : Rel (ad, I, A) (J, B)) (hi : 0 ≤ i ∧ i < J 6) (hC : ∃ F, hasO F r (cnmA A i) ∧ u2 = (ad, va_up I 81 r, va_up A 80 F)) (hM : b = (nameL (B 11 i) (B 12 i) (B 13 i)).length ∧ ∃ n F G, hasO G b (nameL (B 11 i) (B 12 i) (B 13 i)) ∧ v2 = (va_up (va_up (va_up J 0 0) 33 n) 26 b, va_up (va_up B 32 F) 25 G)) : Rel u2 v2 ∧ r = b ∧ u2.1 19 = ad 19 ∧ v2.1 0 = 0 := by
  obtain ⟨h0, hO, hP, hH⟩ := hR
  dsimp only at h0 hO hP hH
  obtain ⟨ha, ⟨i1, i5, i6, i43, i42, i7, i121, i41⟩, ⟨b2, b5, b57, b7, b8⟩, ⟨t1, t2⟩, ⟨c1, c2⟩, ⟨n1, n2⟩, ⟨w1, w2, w3⟩⟩ := id h0
  obtain ⟨F, hF, rfl⟩ := hC
  obtain ⟨hb, n, F2, G, hG, rfl⟩ := hM
  have hl := nameL_len (c2.2 i hi.1 hi.2).1 (c2.2 i hi.1 hi.2).2.1 (c2.2 i hi.1 hi.2).2.2
  rw [(Rel0_ts h0 hi.1 hi.2).2] at hF
  obtain ⟨e1, e2⟩ := hasO_eq hF hG
  refine ⟨⟨Rel0_cg ha (by (try dsimp only); exact up_l (by decide)) (by (try dsimp only); exact up_l (by decide)) (by (try dsimp only); exact up_l3 (by decide) (by decide) (by decide)) (by (try dsimp only); exact up_l2 (by decide) (by decide)) h0, ?_, RelP_cg (by (try dsimp only); exact up_n (by decide)) (by (try dsimp only); exact up_n (by decide)) (by (try dsimp only); rw [up_n (by decide), up_n (by decide), up_n (by decide)]) (by (try dsimp only); rw [up_n (by decide), up_n (by decide)]) (by (try dsimp only); rw [up_n (by decide), up_n (by decide), up_n (by decide)]) hP, okH_cg (by (try dsimp only); rw [up_n (by decide), up_n (by decide), up_n (by decide)]) (by (try dsimp only); rw [up_n (by decide), up_n (by decide), up_n (by decide)]) (by (try dsimp only); exact up_l2 (by decide) (by decide)) hH.1, cokH_cg2 (by (try dsimp only); exact up_n (by decide)) (by (try dsimp only); exact up_n (by decide)) (by (try dsimp only); exact up_l (by decide)) hH.2⟩, e1, rfl, by simp only [up_s, up_n, up_up, ne_eq, Nat.reduceEqDiff, not_false_eq_true]⟩
  unfold RelO
  simp only [up_s, up_n, up_up, ne_eq, Nat.reduceEqDiff, not_false_eq_true]
  exact ⟨e1, by omega, e2⟩
theorem st_write {ad : Nat → Nat} {I : Nat → Int} {A : Nat → Int → Int} {J : Nat → Int} {B : Nat → Int → Int} {r b : Int} {u2 : sC} {v2 : sM} (hR : Rel (ad, I, A) (J, B)) (hC : ∃ F G, hasO F r (wrN (sU A) (I 41) (cnmA A) (I 42).toNat).2 ∧ u2 = (ad, va_up I 81 r, va_up (va_up A 100 G) 80 F)) (hM : (J 5 = 0 → b = 0 ∧ v2 = (va_up (va_up J 0 0) 26 0, B)) ∧ (J 5 = 1 → b = (wrN (B 19) (J 21) (nmA B) (J 7).toNat).2.length ∧ frX (va_up J 0 0) B v2.1 v2.2 ∧ hasO (v2.2 25) (v2.1 26) (wrN (B 19) (J 21) (nmA B) (J 7).toNat).2)) : Rel u2 v2 ∧ r = b ∧ u2.1 19 = ad 19 ∧ v2.1 0 = 0 := by
  obtain ⟨h0, hO, hP, hH⟩ := hR
  dsimp only at h0 hO hP hH
  obtain ⟨ha, ⟨i1, i5, i6, i43, i42, i7, i121, i41⟩, ⟨b2, b5, b57, b7, b8⟩, ⟨t1, t2⟩, ⟨c1, c2⟩, ⟨n1, n2⟩, ⟨w1, w2, w3⟩⟩ := id h0
  obtain ⟨F, G, hF, rfl⟩ := hC
  have hl := wrN_len (S := B 19) (sz := J 21) (nm := nmA B) w2.1.1 (fun j j0 j1 hj => by
    have h6 := w2.2.1 j j0 j1
    obtain ⟨z1, z2, z3⟩ := c2.2 (-1 - B 19 j) (by omega) (by omega)
    exact (nameL_len z1 z2 z3).2) (J 7).toNat
  have hsz := w2.1
  have hwr : (wrN (sU A) (I 41) (cnmA A) (I 42).toNat) = wrN (B 19) (J 21) (nmA B) (J 7).toNat := by
    rw [i41, i42]
    refine (wrN_cg (fun j j0 j1 => ?_) (fun j j0 j1 hj => ?_) _).1
    · unfold sU
      rw [w1 j j0 j1]
      have := w2.2.1 j j0 j1
      exact dI_uI (by omega)
    · have := w2.2.1 j j0 j1
      exact (Rel0_ts h0 (by omega) (by omega)).2
  rw [hwr] at hF
  rcases b5 with q | q
  · obtain ⟨rfl, rfl⟩ := hM.1 q
    rw [b57 q] at hF
    have hF0 : hasO F r [] := hF
    have e1 : r = 0 := hF0.1
    refine ⟨⟨Rel0_cg ha (by (try dsimp only); exact up_l (by decide)) (by (try dsimp only); exact up_l2 (by decide) (by decide)) (by (try dsimp only); exact up_l2 (by decide) (by decide)) rfl_l h0, ?_, RelP_cg (by (try dsimp only); exact up_n (by decide)) (by (try dsimp only); rw [up_n (by decide), up_n (by decide)]) (by (try dsimp only); rw [up_n (by decide), up_n (by decide)]) rfl (by (try dsimp only); rw [up_n (by decide), up_n (by decide)]) hP, okH_cg (by (try dsimp only); rw [up_n (by decide), up_n (by decide)]) (by (try dsimp only); rw [up_n (by decide), up_n (by decide)]) rfl_l hH.1, cokH_cg2 (by (try dsimp only); exact up_n (by decide)) (by (try dsimp only); exact up_n (by decide)) (by (try dsimp only); exact up_l2 (by decide) (by decide)) hH.2⟩, e1, rfl, by simp only [up_s, up_n, up_up, ne_eq, Nat.reduceEqDiff, not_false_eq_true]⟩
    unfold RelO
    simp only [up_s, up_n, up_up, ne_eq, Nat.reduceEqDiff, not_false_eq_true]
    exact ⟨e1, by decide, fun k k0 k1 => by omega⟩
  · obtain ⟨hb, hfx, hG⟩ := hM.2 q
    obtain ⟨J2, B2⟩ := v2
    obtain ⟨x1, x2⟩ := hfx
    dsimp only at x1 x2 hG
    obtain ⟨e1, e2⟩ := hasO_eq hF hG
    have y1 : ∀ k, k ∉ [0, 26, 33, 36, 37] → J2 k = J k := fun k hk => by
      simp only [List.mem_cons, List.not_mem_nil, or_false, not_or] at hk
      rw [x1 k hk.2.1 hk.2.2.1 hk.2.2.2.1 hk.2.2.2.2, up_n hk.1]
    have y2 : ∀ k, k ∉ [25, 32, 34, 35] → B2 k = B k := fun k hk => by
      simp only [List.mem_cons, List.not_mem_nil, or_false, not_or] at hk
      exact x2 k hk.1 hk.2.1 hk.2.2.1 hk.2.2.2
    refine ⟨⟨Rel0_cg ha (by (try dsimp only); exact up_l (by decide)) (by (try dsimp only); exact up_l2 (by decide) (by decide)) (by exact ne_l y1 (by decide)) (by exact ne_l y2 (by decide)) h0, ?_, RelP_cg (by (try dsimp only); exact up_n (by decide)) (by (try dsimp only); rw [up_n (by decide), up_n (by decide)]) (by exact y1 10 (by decide)) (by exact y2 24 (by decide)) (by exact y1 6 (by decide)) hP, okH_cg (by exact y1 6 (by decide)) (by exact y1 9 (by decide)) (by exact ne_l y2 (by decide)) hH.1, cokH_cg2 (by (try dsimp only); exact up_n (by decide)) (by (try dsimp only); exact up_n (by decide)) (by (try dsimp only); exact up_l2 (by decide) (by decide)) hH.2⟩, by (try dsimp only); rw [hb, e1]; exact hG.1, rfl, ?_⟩
    · unfold RelO
      simp only [up_s, up_n, up_up, ne_eq, Nat.reduceEqDiff, not_false_eq_true]
      exact ⟨e1, ⟨by have := hG.1; omega, by have := hG.1; omega⟩, e2⟩
    · show J2 0 = 0
      rw [x1 0 (by decide) (by decide) (by decide) (by decide), up_s]
theorem st_string {ad : Nat → Nat} {I : Nat → Int} {A : Nat → Int → Int} {J : Nat → Int} {B : Nat → Int → Int} {r b : Int} {u2 : sC} {v2 : sM} {p : Int} (hR : Rel (ad, I, A) (J, B)) (hp : 0 ≤ p ∧ p ≤ 60) (hC : (I 121 = 6 → r = -1 ∧ u2 = (ad, I, A)) ∧ (I 121 < 6 → r = I 121 + 1 ∧ ∃ F, (∀ j, 0 ≤ j → j < 480 → F j = -1) ∧ u2 = (ad, va_up (va_up I 121 (I 121 + 1)) 164 (-1), va_up (va_up A 120 (zu (A 120) (I 121) p)) 141 F))) (hM : (J 9 = 6 → b = -1 ∧ v2 = (va_up J 0 0, B)) ∧ (J 9 < 6 → b = J 9 + 1 ∧ ∃ M, (∀ j, 0 ≤ j → j < 480 → M j = -1) ∧ v2 = (va_up (va_up (va_up J 0 0) 9 (J 9 + 1)) 10 (-1), va_up (va_up B 23 (zu (B 23) (J 9) p)) 38 M))) : Rel u2 v2 ∧ r = b ∧ u2.1 19 = ad 19 ∧ v2.1 0 = 0 := by
  have hR0 := hR
  obtain ⟨h0, hO, hP, hH⟩ := hR
  dsimp only at h0 hO hP hH
  obtain ⟨ha, ⟨i1, i5, i6, i43, i42, i7, i121, i41⟩, ⟨b2, b5, b57, b7, b8⟩, ⟨t1, t2⟩, ⟨c1, c2⟩, ⟨n1, n2⟩, ⟨w1, w2, w3⟩⟩ := id h0
  by_cases q : J 9 < 6
  · obtain ⟨rfl, F, hF, rfl⟩ := hC.2 (by omega)
    obtain ⟨rfl, M, hM1, rfl⟩ := hM.2 q
    refine ⟨⟨?_, RelO_cg (by (try dsimp only); rw [up_n (by decide), up_n (by decide)]) (by (try dsimp only); rw [up_n (by decide), up_n (by decide)]) (by (try dsimp only); rw [up_n (by decide), up_n (by decide), up_n (by decide)]) (by (try dsimp only); rw [up_n (by decide), up_n (by decide)]) hO, ?_, okH_no (by (try dsimp only); rw [up_n (by decide), up_n (by decide), up_n (by decide)]; exact c2.1.2) (by (try dsimp only); rw [up_s]; exact hM1), cokH_no (by (try dsimp only); rw [up_n (by decide), up_n (by decide), i43]; exact c2.1.2) (by (try dsimp only); rw [up_s]; exact hF)⟩, by omega, rfl, by simp only [up_s, up_n, up_up, ne_eq, Nat.reduceEqDiff, not_false_eq_true]⟩
    · show Rel0 ad (va_up (va_up I 121 _) 164 (-1)) (va_up (va_up A 120 _) 141 F) (va_up (va_up (va_up J 0 0) 9 _) 10 (-1)) (va_up (va_up B 23 _) 38 M)
      unfold Rel0 okC okN okI
      simp only [up_s, up_n, up_up, ne_eq, Nat.reduceEqDiff, not_false_eq_true]
      refine ⟨ha, ⟨i1, i5, i6, i43, i42, i7, by omega, i41⟩, ⟨b2, b5, b57, b7, b8⟩, ⟨t1, t2⟩, ⟨c1, c2⟩, ⟨by (try dsimp only); rw [n1, i121], by have := n2.1; omega, fun s s0 s1 => ?_⟩, w1, w2, w3⟩
      unfold zu
      split
      · exact hp
      · exact n2.2 s s0 (by omega)
    · unfold RelP
      simp only [up_s, up_n, up_up, ne_eq, Nat.reduceEqDiff, not_false_eq_true]
      exact ⟨trivial, by decide, fun q => absurd trivial q⟩
  · have := n2.1
    obtain ⟨rfl, rfl⟩ := hC.1 (by omega)
    obtain ⟨rfl, rfl⟩ := hM.1 (by omega)
    exact ⟨Rel_t hR0, rfl, rfl, by (try dsimp only); exact up_s _ _ _⟩
theorem st_unstring {ad : Nat → Nat} {I : Nat → Int} {A : Nat → Int → Int} {J : Nat → Int} {B : Nat → Int → Int} {r b : Int} {u2 : sC} {v2 : sM} (hR : Rel (ad, I, A) (J, B)) (hC : r = I 121 ∧ ∃ F, (∀ j, 0 ≤ j → j < 480 → F j = -1) ∧ u2 = (ad, va_up (va_up I 121 0) 164 (-1), va_up A 141 F)) (hM : b = J 9 ∧ ∃ M, (∀ j, 0 ≤ j → j < 480 → M j = -1) ∧ v2 = (va_up (va_up (va_up J 0 0) 9 0) 10 (-1), va_up B 38 M)) : Rel u2 v2 ∧ r = b ∧ u2.1 19 = ad 19 ∧ v2.1 0 = 0 := by
  obtain ⟨h0, hO, hP, hH⟩ := hR
  dsimp only at h0 hO hP hH
  obtain ⟨ha, ⟨i1, i5, i6, i43, i42, i7, i121, i41⟩, ⟨b2, b5, b57, b7, b8⟩, ⟨t1, t2⟩, ⟨c1, c2⟩, ⟨n1, n2⟩, ⟨w1, w2, w3⟩⟩ := id h0
  obtain ⟨rfl, F, hF, rfl⟩ := hC
  obtain ⟨rfl, M, hM1, rfl⟩ := hM
  refine ⟨⟨?_, RelO_cg (by (try dsimp only); rw [up_n (by decide), up_n (by decide)]) (by (try dsimp only); exact up_n (by decide)) (by (try dsimp only); rw [up_n (by decide), up_n (by decide), up_n (by decide)]) (by (try dsimp only); exact up_n (by decide)) hO, ?_, okH_no (by (try dsimp only); rw [up_n (by decide), up_n (by decide), up_n (by decide)]; exact c2.1.2) (by (try dsimp only); rw [up_s]; exact hM1), cokH_no (by (try dsimp only); rw [up_n (by decide), up_n (by decide), i43]; exact c2.1.2) (by (try dsimp only); rw [up_s]; exact hF)⟩, i121, rfl, by simp only [up_s, up_n, up_up, ne_eq, Nat.reduceEqDiff, not_false_eq_true]⟩
  · show Rel0 ad (va_up (va_up I 121 _) 164 (-1)) (va_up A 141 F) (va_up (va_up (va_up J 0 0) 9 _) 10 (-1)) (va_up B 38 M)
    unfold Rel0 okC okN okI
    simp only [up_s, up_n, up_up, ne_eq, Nat.reduceEqDiff, not_false_eq_true]
    exact ⟨ha, ⟨i1, i5, i6, i43, i42, i7, trivial, i41⟩, ⟨b2, b5, b57, b7, b8⟩, ⟨t1, t2⟩, ⟨c1, c2⟩, ⟨n1, by decide, fun s s0 s1 => by omega⟩, w1, w2, w3⟩
  · unfold RelP
    simp only [up_s, up_n, up_up, ne_eq, Nat.reduceEqDiff, not_false_eq_true]
    exact ⟨trivial, by decide, fun q => absurd trivial q⟩
/-- hands were sought on both sides -/
theorem st_hand {ad : Nat → Nat} {I : Nat → Int} {A : Nat → Int → Int} {J : Nat → Int} {B : Nat → Int → Int} {u2 : sC} {v2 : sM} {i bar t : Int} (hR : Rel (ad, I, A) (J, B)) (hi : 0 ≤ i ∧ i < J 6) (hb : 0 ≤ bar ∧ bar ≤ 7) (hC : hndP ad I A u2) (hv : v2.1 = va_up J 0 t) (hf : frF B (8 * i + bar) v2.2) (hr : repH v2.2 (8 * i + bar) (J 9).toNat (hdA J B i bar)) : Rel u2 v2 ∧ u2.1 19 = ad 19 ∧ v2.1 0 = t := by
  obtain ⟨h0, hO, hP, hH⟩ := hR
  dsimp only at h0 hO hP hH
  obtain ⟨ha, ⟨i1, i5, i6, i43, i42, i7, i121, i41⟩, ⟨b2, b5, b57, b7, b8⟩, ⟨t1, t2⟩, ⟨c1, c2⟩, ⟨n1, n2⟩, ⟨w1, w2, w3⟩⟩ := id h0
  obtain ⟨ad2, I2, A2⟩ := u2
  obtain ⟨J2, B2⟩ := v2
  obtain ⟨k1, k2, k3⟩ := hC
  dsimp only at k1 k2 k3 hv hf hr
  subst k1
  subst hv
  have y1 : ∀ k, k ∉ [123, 125, 126, 127, 128] → I2 k = I k := fun k hk => by
    simp only [List.mem_cons, List.not_mem_nil, or_false, not_or] at hk
    exact k2.1 k hk.1 hk.2.1 hk.2.2.1 hk.2.2.2.1 hk.2.2.2.2
  have y2 : ∀ k, k ∉ [122, 124, 140, 141] → A2 k = A k := fun k hk => by
    simp only [List.mem_cons, List.not_mem_nil, or_false, not_or] at hk
    exact k2.2.1 k hk.1 hk.2.1 hk.2.2.1 hk.2.2.2
  have y3 : ∀ k, k ∉ [38, 39, 40, 41, 42, 43] → B2 k = B k := fun k hk => by
    simp only [List.mem_cons, List.not_mem_nil, or_false, not_or] at hk
    exact hf.1 k hk.1 hk.2.1 hk.2.2.1 hk.2.2.2.1 hk.2.2.2.2.1 hk.2.2.2.2.2
  exact ⟨⟨Rel0_cg ha (by exact ne_l y1 (by decide)) (by exact ne_l y2 (by decide)) (by (try dsimp only); exact up_l (by decide)) (by exact ne_l y3 (by decide)) h0, RelO_cg (by exact y1 81 (by decide)) (by exact y2 80 (by decide)) (by (try dsimp only); exact up_n (by decide)) (by exact y3 25 (by decide)) hO, RelP_cg (by exact y1 164 (by decide)) (by exact y2 163 (by decide)) (by (try dsimp only); exact up_n (by decide)) (by exact y3 24 (by decide)) (by (try dsimp only); exact up_n (by decide)) hP, okH_fr hb (by (try dsimp only); exact up_n (by decide)) (by (try dsimp only); exact up_n (by decide)) n2.1.2 hH.1 hf hr, k3⟩, rfl, by (try dsimp only); exact up_s _ _ _⟩
theorem allH_gd {ad : Nat → Nat} {I : Nat → Int} {A : Nat → Int → Int} {J : Nat → Int} {B : Nat → Int → Int} {bar : Int} (h0 : Rel0 ad I A J B) : (gdL (fun i => chdA I A i bar) (I 43) ↔ allH J B bar) ∧ (allH J B bar → mnN (rsG (I 121).toNat (fun i => chdA I A i bar) (I 43) 0) (chdA I A 0 bar).length = mnN (rsA J B bar 0) (hdA J B 0 bar).length ∧ ∀ i : Nat, (i : Int) < J 6 → jsG (I 121).toNat (fun i => chdA I A i bar) (I 43) i = jsA J B bar i) := by
  have i43 : I 43 = J 6 := h0.2.1.2.2.2.1
  have i121 : I 121 = J 9 := h0.2.1.2.2.2.2.2.2.1
  have hh : ∀ i, 0 ≤ i → i < J 6 → (fun i => chdA I A i bar) i = (fun i => hdA J B i bar) i := fun i a c => Rel0_hd h0 a c bar
  rw [i43, i121]
  refine ⟨⟨fun g => ⟨g.1, fun i a c => ?_⟩, fun g => ⟨g.1, fun i a c => ?_⟩⟩, fun g => ⟨?_, fun i hi => ?_⟩⟩
  · have := g.2 i a c
    rw [hh i a c] at this
    exact this
  · rw [hh i a c]
    exact g.2 i a c
  · rw [show chdA I A 0 bar = hdA J B 0 bar from hh 0 (by omega) g.1, show rsG (J 9).toNat (fun i => chdA I A i bar) (J 6) 0 = rsA J B bar 0 from funext (fun j => rsG_cg hh (by omega) g.1 j)]
  · rw [jsA_G, jsG_cg hh i hi]
theorem pl_rel {ad : Nat → Nat} {I I2 : Nat → Int} {A A2 : Nat → Int → Int} {J J2 : Nat → Int} {B B2 : Nat → Int → Int} (hR : Rel (ad, I, A) (J, B)) (hc : cokH I2 A2) (f1 : ∀ k, k ≠ 123 → k ≠ 125 → k ≠ 126 → k ≠ 127 → k ≠ 128 → k ≠ 162 → k ≠ 164 → I2 k = I k) (f2 : ∀ k, k ≠ 122 → k ≠ 124 → k ≠ 140 → k ≠ 141 → k ≠ 160 → k ≠ 161 → k ≠ 163 → A2 k = A k) (hk : okH J B2) (f3 : ∀ k, k ≠ 0 → k ≠ 10 → J2 k = J k) (f4 : ∀ k, k ≠ 24 → k ≠ 38 → k ≠ 39 → k ≠ 40 → k ≠ 41 → k ≠ 42 → k ≠ 43 → k ≠ 44 → B2 k = B k) (hp : RelP I2 A2 J2 B2) : Rel (ad, I2, A2) (J2, B2) := by
  obtain ⟨h0, hO, hP, hH⟩ := hR
  dsimp only at h0 hO hP hH
  obtain ⟨ha, ⟨i1, i5, i6, i43, i42, i7, i121, i41⟩, ⟨b2, b5, b57, b7, b8⟩, ⟨t1, t2⟩, ⟨c1, c2⟩, ⟨n1, n2⟩, ⟨w1, w2, w3⟩⟩ := id h0
  have y1 : ∀ k, k ∉ [123, 125, 126, 127, 128, 162, 164] → I2 k = I k := fun k hk => by
    simp only [List.mem_cons, List.not_mem_nil, or_false, not_or] at hk
    exact f1 k hk.1 hk.2.1 hk.2.2.1 hk.2.2.2.1 hk.2.2.2.2.1 hk.2.2.2.2.2.1 hk.2.2.2.2.2.2
  have y2 : ∀ k, k ∉ [122, 124, 140, 141, 160, 161, 163] → A2 k = A k := fun k hk => by
    simp only [List.mem_cons, List.not_mem_nil, or_false, not_or] at hk
    exact f2 k hk.1 hk.2.1 hk.2.2.1 hk.2.2.2.1 hk.2.2.2.2.1 hk.2.2.2.2.2.1 hk.2.2.2.2.2.2
  have y3 : ∀ k, k ∉ [24, 38, 39, 40, 41, 42, 43, 44] → B2 k = B k := fun k hk => by
    simp only [List.mem_cons, List.not_mem_nil, or_false, not_or] at hk
    exact f4 k hk.1 hk.2.1 hk.2.2.1 hk.2.2.2.1 hk.2.2.2.2.1 hk.2.2.2.2.2.1 hk.2.2.2.2.2.2.1 hk.2.2.2.2.2.2.2
  have y4 : ∀ k, k ∉ [0, 10] → J2 k = J k := fun k hk => by
    simp only [List.mem_cons, List.not_mem_nil, or_false, not_or] at hk
    exact f3 k hk.1 hk.2
  exact ⟨Rel0_cg ha (by exact ne_l y1 (by decide)) (by exact ne_l y2 (by decide)) (by exact ne_l y4 (by decide)) (by exact ne_l y3 (by decide)) h0, RelO_cg (by exact y1 81 (by decide)) (by exact y2 80 (by decide)) (by exact y4 26 (by decide)) (by exact y3 25 (by decide)) hO, hp, okH_I (by exact y4 6 (by decide)) (by exact y4 9 (by decide)) hk, hc⟩
theorem st_play {ad : Nat → Nat} {I : Nat → Int} {A : Nat → Int → Int} {J : Nat → Int} {B : Nat → Int → Int} {r b : Int} {u2 : sC} {v2 : sM} {n : Nat} {bar : Int} (hR : Rel (ad, I, A) (J, B)) (hb : 0 ≤ bar ∧ bar ≤ 7) (hn : n = (I 121).toNat) (hC : plyP ad I A n (fun i => chdA I A i bar) bar r u2) (hM : playP J B bar b v2) : Rel u2 v2 ∧ r = b ∧ u2.1 19 = ad 19 ∧ v2.1 0 = 0 := by
  have hR0 := hR
  obtain ⟨h0, hO, hP, hH⟩ := hR
  dsimp only at h0 hO hP hH
  obtain ⟨ha, ⟨i1, i5, i6, i43, i42, i7, i121, i41⟩, ⟨b2, b5, b57, b7, b8⟩, ⟨t1, t2⟩, ⟨c1, c2⟩, ⟨n1, n2⟩, ⟨w1, w2, w3⟩⟩ := id h0
  obtain ⟨ad2, I2, A2⟩ := u2
  obtain ⟨J2, B2⟩ := v2
  obtain ⟨k1, k2, k3, k4, k5, k6⟩ := hC
  obtain ⟨m1, m2, m3, m4⟩ := hM
  dsimp only at k1 k2 k3 k4 k5 k6 m1 m2 m3 m4
  subst k1
  obtain ⟨a1, a2⟩ := allH_gd (bar := bar) h0
  rw [hn] at k5
  by_cases g : allH J B bar
  · obtain ⟨q1, q2, q3⟩ := k5 (a1.mpr g)
    obtain ⟨p1, p2, p3⟩ := m3 g
    obtain ⟨z1, z2⟩ := a2 g
    subst p2
    refine ⟨pl_rel hR0 k2 k3 k4 m1 (fun k h1 h2 => by (try dsimp only); rw [up_n h2, up_n h1]) m2 ?_, by (try dsimp only); rw [q1, p1]; exact z1, rfl, by simp only [up_s, up_n, up_up, ne_eq, Nat.reduceEqDiff, not_false_eq_true]⟩
    unfold RelP
    simp only [up_s, up_n, up_up, ne_eq, Nat.reduceEqDiff, not_false_eq_true]
    exact ⟨q2, by omega, fun _ i hi => by (try dsimp only); rw [q3 i (by omega), p3 i hi, z2 i hi]⟩
  · obtain ⟨q1, q2, q3⟩ := k6 (fun z => g (a1.mp z))
    obtain ⟨p1, p2, p3⟩ := m4 g
    subst p2
    exact ⟨pl_rel hR0 k2 k3 k4 m1 (fun k h1 h2 => by (try dsimp only); rw [up_n h1]) m2 (RelP_cg q2 q3 (by (try dsimp only); exact up_n (by decide)) p3 (by (try dsimp only); exact up_n (by decide)) hP), by (try dsimp only); rw [q1, p1], rfl, by (try dsimp only); exact up_s _ _ _⟩
theorem st_easiest {ad : Nat → Nat} {I : Nat → Int} {A : Nat → Int → Int} {J : Nat → Int} {B : Nat → Int → Int} {r b : Int} {u2 : sC} {v2 : sM} {n : Nat} (hR : Rel (ad, I, A) (J, B)) (hn : n = (I 121).toNat) (hC : ceaP ad I A n r u2) (hM : easP J B b v2) : Rel u2 v2 ∧ r = b ∧ u2.1 19 = ad 19 ∧ v2.1 0 = 0 := by
  have hR0 := hR
  obtain ⟨h0, hO, hP, hH⟩ := hR
  dsimp only at h0 hO hP hH
  obtain ⟨ha, ⟨i1, i5, i6, i43, i42, i7, i121, i41⟩, ⟨b2, b5, b57, b7, b8⟩, ⟨t1, t2⟩, ⟨c1, c2⟩, ⟨n1, n2⟩, ⟨w1, w2, w3⟩⟩ := id h0
  obtain ⟨ad2, I2, A2⟩ := u2
  obtain ⟨J2, B2⟩ := v2
  obtain ⟨k1, k2, k3, k4, v, k5, k6, k7, k8⟩ := hC
  obtain ⟨m1, m2, v9, m3, m4, m5, m6⟩ := hM
  dsimp only at k1 k2 k3 k4 k5 k6 k7 k8 m1 m2 m3 m4 m5 m6
  subst k1
  have hvv : v = v9 := funext (fun bar => by
    obtain ⟨a1, a2⟩ := allH_gd (bar := bar) h0
    by_cases g : allH J B bar
    · rw [(k5 bar).1 (a1.mpr g), (m3 bar).1 g, hn]
      exact (a2 g).1
    · rw [(k5 bar).2 (fun z => g (a1.mp z)), (m3 bar).2 g])
  have hrb : r = b := by (try dsimp only); rw [k6, m4, hvv]
  subst hrb
  by_cases g : r = -1
  · obtain ⟨q1, q2⟩ := k7 g
    obtain ⟨p1, p2⟩ := m5 g
    subst p1
    exact ⟨pl_rel hR0 k2 k3 k4 m1 (fun k h1 h2 => by (try dsimp only); rw [up_n h1]) m2 (RelP_cg q1 q2 (by (try dsimp only); exact up_n (by decide)) p2 (by (try dsimp only); exact up_n (by decide)) hP), rfl, rfl, by (try dsimp only); exact up_s _ _ _⟩
  · obtain ⟨q1, q2, q3, q4⟩ := k8 g
    obtain ⟨p1, p2, p3, p4⟩ := m6 g
    obtain ⟨a1, a2⟩ := allH_gd (bar := r) h0
    obtain ⟨z1, z2⟩ := a2 p2
    subst p3
    refine ⟨pl_rel hR0 k2 k3 k4 m1 (fun k h1 h2 => by (try dsimp only); rw [up_n h2, up_n h1]) m2 ?_, rfl, rfl, by simp only [up_s, up_n, up_up, ne_eq, Nat.reduceEqDiff, not_false_eq_true]⟩
    unfold RelP
    simp only [up_s, up_n, up_up, ne_eq, Nat.reduceEqDiff, not_false_eq_true]
    exact ⟨q3, by omega, fun _ i hi => by (try dsimp only); rw [q4 i (by omega), p4 i hi, hn, z2 i hi]⟩
theorem st_song {ad : Nat → Nat} {I : Nat → Int} {A : Nat → Int → Int} {J : Nat → Int} {B : Nat → Int → Int} {r b : Int} {u2 : sC} {v2 : sM} {n : Int} (hR : Rel (ad, I, A) (J, B)) (hn : 0 ≤ n ∧ n ≤ J 2) (hC : sngC ad I A (prun (bA (A 0) n) n 1201 ((0, 0, 1, 0), B 15, B 16, B 17, B 18, B 20)) r u2) (hM : songP J B n (prun (bA (B 1) n) n 1201 ((0, 0, 1, 0), B 15, B 16, B 17, B 18, B 20)) b v2) : Rel u2 v2 ∧ r = b ∧ u2.1 19 = ad 19 ∧ v2.1 0 = 0 := by
  obtain ⟨h0, hO, hP, hH⟩ := hR
  dsimp only at h0 hO hP hH
  obtain ⟨ha, ⟨i1, i5, i6, i43, i42, i7, i121, i41⟩, ⟨b2, b5, b57, b7, b8⟩, ⟨t1, t2⟩, ⟨c1, c2⟩, ⟨n1, n2⟩, ⟨w1, w2, w3⟩⟩ := id h0
  rw [t1] at hC
  obtain ⟨ad2, I2, A2⟩ := u2
  obtain ⟨J2, B2⟩ := v2
  obtain ⟨⟨k19, k3, k4⟩, k1, hC⟩ := hC
  obtain ⟨m0, m2, hM⟩ := hM
  dsimp only at k19 k3 k4 k1 m0 m2
  rcases hres : prun (bA (B 1) n) n 1201 ((0, 0, 1, 0), B 15, B 16, B 17, B 18, B 20) with ⟨k, p⟩ | s2
  · rw [hres] at hC hM
    obtain ⟨c3, c4, c5, c6, c7⟩ := hC
    obtain ⟨m3, m4, m5, m6, m7⟩ := hM
    dsimp only at c3 c4 c5 c6 c7 m3 m4 m5 m6 m7
    have y1 : ∀ k, k ∉ [1, 5, 6, 21, 22, 23, 24, 61, 62, 63] → I2 k = I k := fun k hk => by
      simp only [List.mem_cons, List.not_mem_nil, or_false, not_or] at hk
      obtain ⟨q1, q2, q3, q4, q5, q6, q7, q8, q9, q10⟩ := hk
      exact c6 k q1 q2 q3 q4 q5 q6 q7 q8 q9 q10
    have y2 : ∀ k, k ∉ [60, 64, 65, 66, 67] → A2 k = A k := fun k hk => by
      simp only [List.mem_cons, List.not_mem_nil, or_false, not_or] at hk
      obtain ⟨q1, q2, q3, q4, q5⟩ := hk
      exact c7 k q1 q2 q3 q4 q5
    have y3 : ∀ k, k ∉ [0, 2, 3, 4, 22, 27, 28, 29, 30, 31] → J2 k = J k := fun k hk => by
      simp only [List.mem_cons, List.not_mem_nil, or_false, not_or] at hk
      obtain ⟨q1, q2, q3, q4, q5, q6, q7, q8, q9, q10⟩ := hk
      exact m6 k q1 q2 q3 q4 q5 q6 q7 q8 q9 q10
    have y4 : ∀ k, k ∉ [15, 16, 17, 18, 20] → B2 k = B k := fun k hk => by
      simp only [List.mem_cons, List.not_mem_nil, or_false, not_or] at hk
      obtain ⟨q1, q2, q3, q4, q5⟩ := hk
      exact m7 k q1 q2 q3 q4 q5
    refine ⟨⟨?_, RelO_cg (by exact y1 81 (by decide)) (by exact y2 80 (by decide)) (by exact y3 26 (by decide)) (by exact y4 25 (by decide)) hO, RelP_cg (by exact y1 164 (by decide)) (by exact y2 163 (by decide)) (by exact y3 10 (by decide)) (by exact y4 24 (by decide)) (by exact y3 6 (by decide)) hP, okH_cg (by exact y3 6 (by decide)) (by exact y3 9 (by decide)) (by exact ne_l y4 (by decide)) hH.1, cokH_cg2 (by exact y1 43 (by decide)) (by exact y1 121 (by decide)) (by exact ne_l y2 (by decide)) hH.2⟩, by (try dsimp only); rw [c3, m3], k19, m0⟩
    show Rel0 ad2 I2 A2 J2 B2
    unfold Rel0 okC okN okI
    rw [k1, c4, c5, m2, m4, m5, y1 43 (by decide), y1 42 (by decide), y1 7 (by decide), y1 121 (by decide), y1 41 (by decide), y2 0 (by decide), y2 44 (by decide), y2 45 (by decide), y2 46 (by decide), y2 47 (by decide), y2 120 (by decide), y2 40 (by decide), y3 5 (by decide), y3 6 (by decide), y3 7 (by decide), y3 8 (by decide), y3 9 (by decide), y3 21 (by decide), y4 1 (by decide), y4 11 (by decide), y4 12 (by decide), y4 13 (by decide), y4 14 (by decide), y4 23 (by decide), y4 19 (by decide)]
    exact ⟨⟨k3, k4⟩, ⟨rfl, rfl, rfl, i43, i42, i7, i121, i41⟩, ⟨by decide, b5, b57, b7, b8⟩, ⟨t1, fun j j0 j1 => by omega⟩, ⟨c1, c2⟩, ⟨n1, n2⟩, w1, w2, w3⟩
  · have hok := okP_run (T := B 1) (n := n) 1201 _ s2 (okP_0 hn.1 (B 15) (B 16) (B 17) (B 18) (B 20)) hres
    have hsq := sqP_run (T := B 1) (n := n) (fun j j0 j1 => (t2 j j0 (by omega)).1) 1201 _ s2 (okP_0 hn.1 (B 15) (B 16) (B 17) (B 18) (B 20)) (fun j k j0 jk k1 => by omega) hres
    rw [hres] at hC hM
    obtain ⟨⟨pa, ch, ln, sz⟩, R, K, S3, L, S⟩ := s2
    obtain ⟨o1, o2, o3, o4, o5, o6, o7⟩ := hok
    obtain ⟨c3, c4, c5, c6, c7, c8, c9, c10, c11, c12, c13, c14, c15, c16, c17, c18⟩ := hC
    obtain ⟨m3, m4, m5, m6, m7, m8, m9, m10, m11, m12, m13, m14, m15⟩ := hM
    dsimp only at c3 c4 c5 c6 c7 c8 c9 c10 c11 c12 c13 c14 c15 c16 c17 c18 m3 m4 m5 m6 m7 m8 m9 m10 m11 m12 m13 m14 m15
    have y3 : ∀ k, k ∉ [0, 2, 3, 4, 5, 6, 7, 10, 21, 22, 27, 28, 29, 30, 31] → J2 k = J k := fun k hk => by
      simp only [List.mem_cons, List.not_mem_nil, or_false, not_or] at hk
      obtain ⟨q1, q2, q3, q4, q5, q6, q7, q8, q9, q10, q11, q12, q13, q14, q15⟩ := hk
      exact m14 k q1 q2 q3 q4 q5 q6 q7 q8 q9 q10 q11 q12 q13 q14 q15
    have y4 : ∀ k, k ∉ [11, 12, 13, 14, 15, 16, 17, 18, 19, 20, 38] → B2 k = B k := fun k hk => by
      simp only [List.mem_cons, List.not_mem_nil, or_false, not_or] at hk
      obtain ⟨q1, q2, q3, q4, q5, q6, q7, q8, q9, q10, q11⟩ := hk
      exact m15 k q1 q2 q3 q4 q5 q6 q7 q8 q9 q10 q11
    refine ⟨⟨?_, RelO_cg c14 c16 (by exact y3 26 (by decide)) (by exact y4 25 (by decide)) hO, ⟨by (try dsimp only); rw [c9, m10], by (try dsimp only); rw [m10]; decide, fun q => absurd m10 q⟩, okH_no (by (try dsimp only); rw [m7]; exact o3.2) m11, cokH_no (by (try dsimp only); rw [c6]; exact o3.2) c10⟩, by (try dsimp only); rw [c3, m3], k19, m0⟩
    show Rel0 ad2 I2 A2 J2 B2
    unfold Rel0 okC okN okI
    rw [k1, c4, c5, c6, c7, c8, c13, c15, c17, c18, m2, m4, m5, m6, m7, m8, m9, y3 8 (by decide), y3 9 (by decide), y4 1 (by decide), y4 23 (by decide)]
    refine ⟨⟨k3, k4⟩, ⟨rfl, rfl, rfl, rfl, rfl, i7, i121, rfl⟩, ⟨by decide, Or.inr rfl, fun q => by omega, by omega, b8⟩, ⟨t1, fun j j0 j1 => by omega⟩, ⟨fun j j0 j1 => ?_, o3, fun j j0 j1 => ?_⟩, ⟨n1, n2⟩, fun j j0 j1 => ?_, ⟨by omega, fun j j0 j1 => ?_, ?_⟩, fun j k j0 jk k1 hj => ?_⟩
    · obtain ⟨x1, x2, x3, x4⟩ := c12 j j0 j1
      obtain ⟨z1, z2, z3, z4⟩ := m13 j j0 j1
      rw [x1, x2, x3, x4, z1, z2, z3, z4]
      exact ⟨rfl, rfl, rfl, rfl⟩
    · obtain ⟨z1, z2, z3, z4⟩ := m13 j j0 j1
      rw [z1, z2, z3]
      exact ⟨(o5 j j0 j1).1, (o5 j j0 j1).2.1, (o5 j j0 j1).2.2.1⟩
    · rw [c11 j j0 j1, m12 j j0 j1]
    · rw [m12 j j0 j1]; exact o6 j j0 j1
    · rw [cn_eq (T := S) sz.toNat (fun j j0 j1 => m12 j j0 (by omega))]; exact o7
    · rw [m12 j j0 (by omega)] at hj ⊢
      rw [m12 k (by omega) k1]
      exact hsq j k j0 jk k1 hj
