/-- what a wrapper's call comes to, held against the reference's -/
def FIN (ad : Nat → Nat) (uM : sM) (RP : Int → sM → Prop) (k : Int) (v : sL) : Prop := ∃ u2 r, v = (u2, uM, r) ∧ (0 ≤ k ∧ k ≤ 2) ∧ u2.1 19 = ad 19 ∧ ∀ b v2, RP b v2 → Rel u2 v2 ∧ v2.1 0 = k ∧ (k = 0 → r = b)
theorem ctw_mono {σ : Type} {l : Launch} {y : MethodName} {cc : ByteArray} {n : Nat} {hh : List (Nat × Nat × Nat × Nat)} {rm : Room} {D : va_G} {tys : List (ClassId × FieldType)} {O : OT} {wld : σ → va_W} {as : List Value} {u : σ} {p1 p2 : Option Value → σ → Prop} (h : CtW l y cc n hh rm D tys O wld as u p1) (hp : ∀ v u, p1 v u → p2 v u) : CtW l y cc n hh rm D tys O wld as u p2 := fun sz => ct_mono (h sz) hp
theorem fin_ok {ad : Nat → Nat} {uM : sM} {x : Int} {RP : Int → sM → Prop} {P : Int → sC → Prop} (h : ∀ r u2, P r u2 → u2.1 19 = ad 19 ∧ ∀ b v2, RP b v2 → Rel u2 v2 ∧ r = b ∧ v2.1 0 = 0) : ∀ v u, (pI fun k v2 => k = 0 ∧ ∃ r u2, P r u2 ∧ v2 = (u2, uM, r)) v u → pI (FIN ad uM RP) v u := by
  rintro v u ⟨k, rfl, rfl, r, u2, hP, rfl⟩
  obtain ⟨h1, h2⟩ := h r u2 hP
  exact ⟨0, rfl, u2, r, rfl, by decide, h1, fun b v2 hb => ⟨(h2 b v2 hb).1, (h2 b v2 hb).2.2, fun _ => (h2 b v2 hb).2.1⟩⟩
theorem fin_x {ad : Nat → Nat} {uM : sM} {x : Int} {RP : Int → sM → Prop} {c : Int} {px : sC → Prop} (hc : c = 1 ∨ c = 2) (h : ∀ u2, px u2 → u2.1 19 = ad 19 ∧ ∀ b v2, RP b v2 → Rel u2 v2 ∧ v2.1 0 = c) : ∀ v u, (pI fun k v2 => k = c ∧ ∃ u2, px u2 ∧ v2 = (u2, uM, x)) v u → pI (FIN ad uM RP) v u := by
  rintro v u ⟨k, rfl, rfl, u2, hP, rfl⟩
  obtain ⟨h1, h2⟩ := h u2 hP
  exact ⟨k, rfl, u2, x, rfl, by omega, h1, fun b v2 hb => ⟨(h2 b v2 hb).1, (h2 b v2 hb).2, fun q => by omega⟩⟩
set_option maxHeartbeats 4000000 in
theorem fL_song {l : Launch} {D : va_G} {cI cJ : ClassId} {adM : Nat → Nat} {bo : Nat} {O : OT} {adK adV : Nat → Nat} {tT : Nat} (hO : OGC O adK adV tT) (hT : OGT O) (hN : OGN O) (hl : l.stackTraces = false) {ad : Nat → Nat} {I : Nat → Int} {A : Nat → Int → Int} {J : Nat → Int} {B : Nat → Int → Int} {x : Int} {n : Int} (hn : inR n) (hR : Rel (ad, I, A) (J, B)) : CtW l yL_song cL_song 4 [(0, 9, 12, 13)] (rX 17) D [(cI, .int), (cJ, .long)] O (wL adM bo cI cJ) [.ref (ad 19), .int (iZ n), .ref bo] ((ad, I, A), (J, B), x) (pI (FIN ad (J, B) (fun r u2 => (0 ≤ n ∧ n ≤ J 2 → songP J B n (prun (bA (B 1) n) n 1201 ((0, 0, 1, 0), B 15, B 16, B 17, B 18, B 20)) r u2) ∧ (¬ (0 ≤ n ∧ n ≤ J 2) → u2 = (va_up J 0 1, B))))) := by
  have h0 := hR.1
  have hC := Rel0_C h0
  have hNN := Rel0_N h0
  have hRO := hR.2.1
  have hRH := hR.2.2.2
  dsimp only at h0 hC hNN hRO hRH
  obtain ⟨ha, ⟨i1, i5, i6, i43, i42, i7, i121, i41⟩, ⟨b2, b5, b57, b7, b8⟩, ⟨t1, t2⟩, ⟨c1, c2⟩, ⟨n1, n2⟩, ⟨w1, w2, w3⟩⟩ := id h0
  have h43 := hC.1
  by_cases q : 0 ≤ n ∧ n ≤ J 2
  · exact ctw_mono (okL_song hO.1.1 (by decide) (qX10_song (R := B 15) (K := B 16) (B := B 17) (L := B 18) (S := B 20) hO ha.1 ha.2 (by omega) (by omega) (fun j j0 j1 => by rw [t1]; exact t2 j j0 (by omega)))) (fin_ok (x := x) (fun r u2 hu => ⟨by exact hu.1.1, fun b v2 hb => by
      obtain ⟨z1, z2, z3, z4⟩ := st_song hR q hu (hb.1 q)
      exact ⟨z1, z2, z4⟩⟩))
  · exact ctw_mono (iaeL_song hO.1.1 hT (by decide) (xX10_song hO hT hl hn (by omega) (by omega))) (fin_x (c := 1) (by decide) (fun u2 hu => by subst hu; exact ⟨rfl, fun b v2 hb => by have e := hb.2 q; subst e; exact ⟨Rel_t hR, by (try dsimp only); exact up_s _ _ _⟩⟩))
set_option maxHeartbeats 4000000 in
theorem fL_fault {l : Launch} {D : va_G} {cI cJ : ClassId} {adM : Nat → Nat} {bo : Nat} {O : OT} {adK adV : Nat → Nat} {tT : Nat} (hO : OGC O adK adV tT) (hT : OGT O) (hN : OGN O) (hl : l.stackTraces = false) {ad : Nat → Nat} {I : Nat → Int} {A : Nat → Int → Int} {J : Nat → Int} {B : Nat → Int → Int} {x : Int} {w : Int} (hw : inR w) (hR : Rel (ad, I, A) (J, B)) : CtW l yL_fault cL_fault 4 [(0, 9, 12, 18)] (rX 17) D [(cI, .int), (cJ, .long)] O (wL adM bo cI cJ) [.ref (ad 19), .int (iZ w), .ref bo] ((ad, I, A), (J, B), x) (pI (FIN ad (J, B) (fun r u2 => (w = 0 → r = J 3 ∧ u2 = (va_up J 0 0, B)) ∧ (w = 1 → r = J 4 ∧ u2 = (va_up J 0 0, B)) ∧ (w ≠ 0 → w ≠ 1 → u2 = (va_up J 0 1, B))))) := by
  have h0 := hR.1
  have hC := Rel0_C h0
  have hNN := Rel0_N h0
  have hRO := hR.2.1
  have hRH := hR.2.2.2
  dsimp only at h0 hC hNN hRO hRH
  obtain ⟨ha, ⟨i1, i5, i6, i43, i42, i7, i121, i41⟩, ⟨b2, b5, b57, b7, b8⟩, ⟨t1, t2⟩, ⟨c1, c2⟩, ⟨n1, n2⟩, ⟨w1, w2, w3⟩⟩ := id h0
  have h43 := hC.1
  by_cases q : w = 0 ∨ w = 1
  · exact ctw_mono (okL_fault hO.1.1 (by decide) (qX10_fault hO q)) (fin_ok (x := x) (fun r u2 hu => by
      obtain ⟨rfl, rfl⟩ := hu
      refine ⟨rfl, fun b v2 hb => ?_⟩
      obtain ⟨e1, e2⟩ := (show b = (if w = 0 then J 3 else J 4) ∧ v2 = (va_up J 0 0, B) from by rcases q with q | q; (rw [if_pos q]; exact hb.1 q); (rw [if_neg (by omega)]; exact hb.2.1 q))
      subst e2
      exact ⟨Rel_t hR, by rw [e1, i5, i6], by (try dsimp only); exact up_s _ _ _⟩))
  · exact ctw_mono (nseL_fault hO.1.1 hT (by decide) (xX10_fault hO hT hl hw (by omega) (by omega))) (fin_x (c := 1) (by decide) (fun u2 hu => by subst hu; exact ⟨rfl, fun b v2 hb => by have e := hb.2.2 (by omega) (by omega); subst e; exact ⟨Rel_t hR, by (try dsimp only); exact up_s _ _ _⟩⟩))
set_option maxHeartbeats 4000000 in
theorem fL_key {l : Launch} {D : va_G} {cI cJ : ClassId} {adM : Nat → Nat} {bo : Nat} {O : OT} {adK adV : Nat → Nat} {tT : Nat} (hO : OGC O adK adV tT) (hT : OGT O) (hN : OGN O) (hl : l.stackTraces = false) {ad : Nat → Nat} {I : Nat → Int} {A : Nat → Int → Int} {J : Nat → Int} {B : Nat → Int → Int} {x : Int} {k : Int} (hk : inR k) (hR : Rel (ad, I, A) (J, B)) : CtW l yL_key cL_key 4 [(0, 9, 12, 13)] (rX 17) D [(cI, .int), (cJ, .long)] O (wL adM bo cI cJ) [.ref (ad 19), .int (iZ k), .ref bo] ((ad, I, A), (J, B), x) (pI (FIN ad (J, B) (fun r u2 => (-7 ≤ k ∧ k ≤ 7 → r = J 8 ∧ u2 = (va_up (va_up J 0 0) 8 k, B)) ∧ (¬ (-7 ≤ k ∧ k ≤ 7) → u2 = (va_up J 0 1, B))))) := by
  have h0 := hR.1
  have hC := Rel0_C h0
  have hNN := Rel0_N h0
  have hRO := hR.2.1
  have hRH := hR.2.2.2
  dsimp only at h0 hC hNN hRO hRH
  obtain ⟨ha, ⟨i1, i5, i6, i43, i42, i7, i121, i41⟩, ⟨b2, b5, b57, b7, b8⟩, ⟨t1, t2⟩, ⟨c1, c2⟩, ⟨n1, n2⟩, ⟨w1, w2, w3⟩⟩ := id h0
  have h43 := hC.1
  by_cases q : -7 ≤ k ∧ k ≤ 7
  · exact ctw_mono (okL_key hO.1.1 (by decide) (qX10_key hO q)) (fin_ok (x := x) (fun r u2 hu => ⟨by obtain ⟨-, hu⟩ := hu; rw [hu], fun b v2 hb => by
      obtain ⟨z1, z2, z3, z4⟩ := st_key hR q hu (hb.1 q)
      exact ⟨z1, z2, z4⟩⟩))
  · exact ctw_mono (iaeL_key hO.1.1 hT (by decide) (xX10_key hO hT hl hk q)) (fin_x (c := 1) (by decide) (fun u2 hu => by subst hu; exact ⟨rfl, fun b v2 hb => by have e := hb.2 q; subst e; exact ⟨Rel_t hR, by (try dsimp only); exact up_s _ _ _⟩⟩))
set_option maxHeartbeats 4000000 in
theorem fL_move {l : Launch} {D : va_G} {cI cJ : ClassId} {adM : Nat → Nat} {bo : Nat} {O : OT} {adK adV : Nat → Nat} {tT : Nat} (hO : OGC O adK adV tT) (hT : OGT O) (hN : OGN O) (hl : l.stackTraces = false) {ad : Nat → Nat} {I : Nat → Int} {A : Nat → Int → Int} {J : Nat → Int} {B : Nat → Int → Int} {x : Int} {n : Int} (hn : inR n) (hR : Rel (ad, I, A) (J, B)) : CtW l yL_move cL_move 4 [(0, 9, 12, 13)] (rX 17) D [(cI, .int), (cJ, .long)] O (wL adM bo cI cJ) [.ref (ad 19), .int (iZ n), .ref bo] ((ad, I, A), (J, B), x) (pI (FIN ad (J, B) (fun r u2 => (-11 ≤ n ∧ n ≤ 11 → r = mv (J 8) n ∧ ∃ M R Bq, (∀ j, 0 ≤ j → j < 480 → M j = -1) ∧ (∀ j, R j = shR (B 11) (mv (J 8) n) (J 8) (J 6) j ∧ Bq j = shR (B 13) (mv (J 8) n) (J 8) (J 6) j) ∧ (∀ k, k ≠ 0 → k ≠ 8 → k ≠ 10 → u2.1 k = J k) ∧ u2.1 0 = 0 ∧ u2.1 8 = mv (J 8) n ∧ u2.1 10 = -1 ∧ (∀ k, k ≠ 11 → k ≠ 13 → k ≠ 38 → u2.2 k = B k) ∧ u2.2 11 = R ∧ u2.2 13 = Bq ∧ u2.2 38 = M) ∧ (¬ (-11 ≤ n ∧ n ≤ 11) → u2 = (va_up J 0 1, B))))) := by
  have h0 := hR.1
  have hC := Rel0_C h0
  have hNN := Rel0_N h0
  have hRO := hR.2.1
  have hRH := hR.2.2.2
  dsimp only at h0 hC hNN hRO hRH
  obtain ⟨ha, ⟨i1, i5, i6, i43, i42, i7, i121, i41⟩, ⟨b2, b5, b57, b7, b8⟩, ⟨t1, t2⟩, ⟨c1, c2⟩, ⟨n1, n2⟩, ⟨w1, w2, w3⟩⟩ := id h0
  have h43 := hC.1
  by_cases q : -11 ≤ n ∧ n ≤ 11
  · exact ctw_mono (okL_move hO.1.1 (by decide) (qX10_move hO ha.1 q (by omega) hC)) (fin_ok (x := x) (fun r u2 hu => ⟨by obtain ⟨-, F, R, S, -, -, hu⟩ := hu; rw [hu], fun b v2 hb => by
      obtain ⟨z1, z2, z3, z4⟩ := st_move hR q hu (hb.1 q)
      exact ⟨z1, z2, z4⟩⟩))
  · exact ctw_mono (iaeL_move hO.1.1 hT (by decide) (xX10_move hO hT hl hn q)) (fin_x (c := 1) (by decide) (fun u2 hu => by subst hu; exact ⟨rfl, fun b v2 hb => by have e := hb.2 q; subst e; exact ⟨Rel_t hR, by (try dsimp only); exact up_s _ _ _⟩⟩))
set_option maxHeartbeats 4000000 in
theorem fL_chord {l : Launch} {D : va_G} {cI cJ : ClassId} {adM : Nat → Nat} {bo : Nat} {O : OT} {adK adV : Nat → Nat} {tT : Nat} (hO : OGC O adK adV tT) (hT : OGT O) (hN : OGN O) (hl : l.stackTraces = false) {ad : Nat → Nat} {I : Nat → Int} {A : Nat → Int → Int} {J : Nat → Int} {B : Nat → Int → Int} {x : Int} {i w : Int} (hi : inR i) (hw : inR w) (hR : Rel (ad, I, A) (J, B)) : CtW l yL_chord cL_chord 5 [(0, 10, 13, 18)] (rX 17) D [(cI, .int), (cJ, .long)] O (wL adM bo cI cJ) [.ref (ad 19), .int (iZ i), .int (iZ w), .ref bo] ((ad, I, A), (J, B), x) (pI (FIN ad (J, B) (fun r u2 => ((0 ≤ i ∧ i < J 6) ∧ 0 ≤ w ∧ w ≤ 4 → r = (if w = 0 then B 11 i else if w = 1 then B 12 i else if w = 2 then B 13 i else if w = 3 then tsA B i else B 14 i) ∧ u2 = (va_up J 0 0, B)) ∧ (¬ ((0 ≤ i ∧ i < J 6) ∧ 0 ≤ w ∧ w ≤ 4) → u2 = (va_up J 0 1, B))))) := by
  have h0 := hR.1
  have hC := Rel0_C h0
  have hNN := Rel0_N h0
  have hRO := hR.2.1
  have hRH := hR.2.2.2
  dsimp only at h0 hC hNN hRO hRH
  obtain ⟨ha, ⟨i1, i5, i6, i43, i42, i7, i121, i41⟩, ⟨b2, b5, b57, b7, b8⟩, ⟨t1, t2⟩, ⟨c1, c2⟩, ⟨n1, n2⟩, ⟨w1, w2, w3⟩⟩ := id h0
  have h43 := hC.1
  by_cases q : 0 ≤ i ∧ i < J 6
  · by_cases q2 : 0 ≤ w ∧ w ≤ 4
    · exact ctw_mono (okL_chord hO.1.1 (by decide) (qX10_chord hO ha.1 hC (by omega) q2)) (fin_ok (x := x) (fun r u2 hu => by
      obtain ⟨rfl, rfl⟩ := hu
      refine ⟨rfl, fun b v2 hb => ?_⟩
      obtain ⟨e1, e2⟩ := hb.1 ⟨q, q2⟩
      subst e2
      exact ⟨Rel_t hR, by rw [e1, (Rel0_ts h0 q.1 q.2).1, (c1 i q.1 q.2).1, (c1 i q.1 q.2).2.1, (c1 i q.1 q.2).2.2.1, (c1 i q.1 q.2).2.2.2], by (try dsimp only); exact up_s _ _ _⟩))
    · exact ctw_mono (nseL_chord hO.1.1 hT (by decide) (xX10_chordb hO hT hl ha.1 h43 hi hw (by omega) q2)) (fin_x (c := 1) (by decide) (fun u2 hu => by subst hu; exact ⟨rfl, fun b v2 hb => by have e := hb.2 (fun z => q2 z.2); subst e; exact ⟨Rel_t hR, by (try dsimp only); exact up_s _ _ _⟩⟩))
  · exact ctw_mono (nseL_chord hO.1.1 hT (by decide) (xX10_chorda hO hT hl ha.1 h43 hi (by omega))) (fin_x (c := 1) (by decide) (fun u2 hu => by subst hu; exact ⟨rfl, fun b v2 hb => by have e := hb.2 (fun z => q z.1); subst e; exact ⟨Rel_t hR, by (try dsimp only); exact up_s _ _ _⟩⟩))
set_option maxHeartbeats 4000000 in
theorem fL_name {l : Launch} {D : va_G} {cI cJ : ClassId} {adM : Nat → Nat} {bo : Nat} {O : OT} {adK adV : Nat → Nat} {tT : Nat} (hO : OGC O adK adV tT) (hT : OGT O) (hN : OGN O) (hl : l.stackTraces = false) {ad : Nat → Nat} {I : Nat → Int} {A : Nat → Int → Int} {J : Nat → Int} {B : Nat → Int → Int} {x : Int} {i : Int} (hi : inR i) (hR : Rel (ad, I, A) (J, B)) : CtW l yL_name cL_name 4 [(0, 9, 12, 18)] (rX 17) D [(cI, .int), (cJ, .long)] O (wL adM bo cI cJ) [.ref (ad 19), .int (iZ i), .ref bo] ((ad, I, A), (J, B), x) (pI (FIN ad (J, B) (fun r u2 => (0 ≤ i ∧ i < J 6 → r = (nameL (B 11 i) (B 12 i) (B 13 i)).length ∧ ∃ n F G, hasO G r (nameL (B 11 i) (B 12 i) (B 13 i)) ∧ u2 = (va_up (va_up (va_up J 0 0) 33 n) 26 r, va_up (va_up B 32 F) 25 G)) ∧ (¬ (0 ≤ i ∧ i < J 6) → u2 = (va_up J 0 1, B))))) := by
  have h0 := hR.1
  have hC := Rel0_C h0
  have hNN := Rel0_N h0
  have hRO := hR.2.1
  have hRH := hR.2.2.2
  dsimp only at h0 hC hNN hRO hRH
  obtain ⟨ha, ⟨i1, i5, i6, i43, i42, i7, i121, i41⟩, ⟨b2, b5, b57, b7, b8⟩, ⟨t1, t2⟩, ⟨c1, c2⟩, ⟨n1, n2⟩, ⟨w1, w2, w3⟩⟩ := id h0
  have h43 := hC.1
  by_cases q : 0 ≤ i ∧ i < J 6
  · exact ctw_mono (okL_name hO.1.1 (by decide) (qX10_name hO ha.1 hC (by omega))) (fin_ok (x := x) (fun r u2 hu => ⟨by obtain ⟨F, -, hu⟩ := hu; rw [hu], fun b v2 hb => by
      obtain ⟨z1, z2, z3, z4⟩ := st_name hR q hu (hb.1 q)
      exact ⟨z1, z2, z4⟩⟩))
  · exact ctw_mono (nseL_name hO.1.1 hT (by decide) (xX10_name hO hT hl ha.1 h43 hi (by omega))) (fin_x (c := 1) (by decide) (fun u2 hu => by subst hu; exact ⟨rfl, fun b v2 hb => by have e := hb.2 q; subst e; exact ⟨Rel_t hR, by (try dsimp only); exact up_s _ _ _⟩⟩))
set_option maxHeartbeats 4000000 in
theorem fL_told {l : Launch} {D : va_G} {cI cJ : ClassId} {adM : Nat → Nat} {bo : Nat} {O : OT} {adK adV : Nat → Nat} {tT : Nat} (hO : OGC O adK adV tT) (hT : OGT O) (hN : OGN O) (hl : l.stackTraces = false) {ad : Nat → Nat} {I : Nat → Int} {A : Nat → Int → Int} {J : Nat → Int} {B : Nat → Int → Int} {x : Int} {k : Int} (hk : inR k) (hR : Rel (ad, I, A) (J, B)) : CtW l yL_told cL_told 4 [(0, 9, 12, 18)] (rX 17) D [(cI, .int), (cJ, .long)] O (wL adM bo cI cJ) [.ref (ad 19), .int (iZ k), .ref bo] ((ad, I, A), (J, B), x) (pI (FIN ad (J, B) (fun r u2 => (0 ≤ k ∧ k < (if J 26 < 4000 then J 26 else 4000) → r = B 25 k ∧ u2 = (va_up J 0 0, B)) ∧ (¬ (0 ≤ k ∧ k < (if J 26 < 4000 then J 26 else 4000)) → u2 = (va_up J 0 1, B))))) := by
  have h0 := hR.1
  have hC := Rel0_C h0
  have hNN := Rel0_N h0
  have hRO := hR.2.1
  have hRH := hR.2.2.2
  dsimp only at h0 hC hNN hRO hRH
  obtain ⟨ha, ⟨i1, i5, i6, i43, i42, i7, i121, i41⟩, ⟨b2, b5, b57, b7, b8⟩, ⟨t1, t2⟩, ⟨c1, c2⟩, ⟨n1, n2⟩, ⟨w1, w2, w3⟩⟩ := id h0
  have h43 := hC.1
  have e81 := hRO.1
  have r26 := hRO.2.1
  by_cases q : 0 ≤ k ∧ k < (if J 26 < 4000 then J 26 else 4000)
  · exact ctw_mono (okL_told hO.1.1 (by decide) (qX10_told hO (by omega) (by rw [e81]; exact q))) (fin_ok (x := x) (fun r u2 hu => by
      obtain ⟨rfl, rfl⟩ := hu
      refine ⟨rfl, fun b v2 hb => ?_⟩
      obtain ⟨e1, e2⟩ := hb.1 q
      subst e2
      exact ⟨Rel_t hR, by rw [e1]; exact hRO.2.2 k q.1 (by have := q.2; split at this <;> omega) (by have := q.2; split at this <;> omega), by (try dsimp only); exact up_s _ _ _⟩))
  · exact ctw_mono (nseL_told hO.1.1 hT (by decide) (xX10_told hO hT hl hk (by omega) (by rw [e81]; exact q))) (fin_x (c := 1) (by decide) (fun u2 hu => by subst hu; exact ⟨rfl, fun b v2 hb => by have e := hb.2 q; subst e; exact ⟨Rel_t hR, by (try dsimp only); exact up_s _ _ _⟩⟩))
set_option maxHeartbeats 4000000 in
theorem fL_string {l : Launch} {D : va_G} {cI cJ : ClassId} {adM : Nat → Nat} {bo : Nat} {O : OT} {adK adV : Nat → Nat} {tT : Nat} (hO : OGC O adK adV tT) (hT : OGT O) (hN : OGN O) (hl : l.stackTraces = false) {ad : Nat → Nat} {I : Nat → Int} {A : Nat → Int → Int} {J : Nat → Int} {B : Nat → Int → Int} {x : Int} {p : Int} (hp : inR p) (hR : Rel (ad, I, A) (J, B)) : CtW l yL_string cL_string 4 [(0, 9, 12, 13)] (rX 17) D [(cI, .int), (cJ, .long)] O (wL adM bo cI cJ) [.ref (ad 19), .int (iZ p), .ref bo] ((ad, I, A), (J, B), x) (pI (FIN ad (J, B) (fun r u2 => (0 ≤ p ∧ p ≤ 60 → (J 9 = 6 → r = -1 ∧ u2 = (va_up J 0 0, B)) ∧ (J 9 < 6 → r = J 9 + 1 ∧ ∃ M, (∀ j, 0 ≤ j → j < 480 → M j = -1) ∧ u2 = (va_up (va_up (va_up J 0 0) 9 (J 9 + 1)) 10 (-1), va_up (va_up B 23 (zu (B 23) (J 9) p)) 38 M))) ∧ (¬ (0 ≤ p ∧ p ≤ 60) → u2 = (va_up J 0 1, B))))) := by
  have h0 := hR.1
  have hC := Rel0_C h0
  have hNN := Rel0_N h0
  have hRO := hR.2.1
  have hRH := hR.2.2.2
  dsimp only at h0 hC hNN hRO hRH
  obtain ⟨ha, ⟨i1, i5, i6, i43, i42, i7, i121, i41⟩, ⟨b2, b5, b57, b7, b8⟩, ⟨t1, t2⟩, ⟨c1, c2⟩, ⟨n1, n2⟩, ⟨w1, w2, w3⟩⟩ := id h0
  have h43 := hC.1
  by_cases q : 0 ≤ p ∧ p ≤ 60
  · exact ctw_mono (okL_string hO.1.1 (by decide) (qX10_string hO q (by have := n2.1; omega))) (fin_ok (x := x) (fun r u2 hu => ⟨by rcases (show I 121 = 6 ∨ I 121 < 6 by have := n2.1; omega) with z | z; (rw [(hu.1 z).2]); (obtain ⟨-, F, -, e⟩ := hu.2 z; rw [e]), fun b v2 hb => by
      obtain ⟨z1, z2, z3, z4⟩ := st_string hR q hu (hb.1 q)
      exact ⟨z1, z2, z4⟩⟩))
  · exact ctw_mono (iaeL_string hO.1.1 hT (by decide) (xX10_string hO hT hl hp q)) (fin_x (c := 1) (by decide) (fun u2 hu => by subst hu; exact ⟨rfl, fun b v2 hb => by have e := hb.2 q; subst e; exact ⟨Rel_t hR, by (try dsimp only); exact up_s _ _ _⟩⟩))
set_option maxHeartbeats 4000000 in
theorem fL_hands {l : Launch} {D : va_G} {cI cJ : ClassId} {adM : Nat → Nat} {bo : Nat} {O : OT} {adK adV : Nat → Nat} {tT : Nat} (hO : OGC O adK adV tT) (hT : OGT O) (hN : OGN O) (hl : l.stackTraces = false) {ad : Nat → Nat} {I : Nat → Int} {A : Nat → Int → Int} {J : Nat → Int} {B : Nat → Int → Int} {x : Int} {i bar : Int} (hi : inR i) (hbar : inR bar) (hR : Rel (ad, I, A) (J, B)) : CtW l yL_hands cL_hands 5 [(0, 10, 13, 18), (0, 10, 17, 13)] (rX 17) D [(cI, .int), (cJ, .long)] O (wL adM bo cI cJ) [.ref (ad 19), .int (iZ i), .int (iZ bar), .ref bo] ((ad, I, A), (J, B), x) (pI (FIN ad (J, B) (fun r u2 => ((0 ≤ i ∧ i < J 6) ∧ (0 ≤ bar ∧ bar ≤ 7) → r = ((hdA J B i bar).length : Int) ∧ u2.1 = va_up J 0 0 ∧ frF B (8 * i + bar) u2.2 ∧ repH u2.2 (8 * i + bar) (J 9).toNat (hdA J B i bar)) ∧ (¬ (0 ≤ i ∧ i < J 6) → u2 = (va_up J 0 1, B)) ∧ ((0 ≤ i ∧ i < J 6) → ¬ (0 ≤ bar ∧ bar ≤ 7) → u2 = (va_up J 0 2, B))))) := by
  have h0 := hR.1
  have hC := Rel0_C h0
  have hNN := Rel0_N h0
  have hRO := hR.2.1
  have hRH := hR.2.2.2
  dsimp only at h0 hC hNN hRO hRH
  obtain ⟨ha, ⟨i1, i5, i6, i43, i42, i7, i121, i41⟩, ⟨b2, b5, b57, b7, b8⟩, ⟨t1, t2⟩, ⟨c1, c2⟩, ⟨n1, n2⟩, ⟨w1, w2, w3⟩⟩ := id h0
  have h43 := hC.1
  by_cases q : 0 ≤ i ∧ i < J 6
  · by_cases q2 : 0 ≤ bar ∧ bar ≤ 7
    · exact ctw_mono (okL_hands hO.1.1 (by decide) (qX10_hands hO ha.1 hC hNN hRH.2 (by omega) q2)) (fin_ok (x := x) (fun r u2 hu => by
      obtain ⟨rfl, -, hh⟩ := hu
      refine ⟨by rw [hh.1], fun b v2 hb => ?_⟩
      obtain ⟨e1, e2, e3, e4⟩ := hb.1 ⟨q, q2⟩
      obtain ⟨z1, z2, z3⟩ := st_hand hR q q2 hh e2 e3 e4
      exact ⟨z1, by rw [e1, Rel0_hd h0 q.1 q.2], z3⟩))
    · exact ctw_mono (iaeL_hands hO.1.1 hT hN (by decide) (xX10_handsb hO hT hl ha.1 h43 hi hbar (by omega) q2)) (fin_x (c := 2) (by decide) (fun u2 hu => by subst hu; exact ⟨rfl, fun b v2 hb => by have e := hb.2.2 q q2; subst e; exact ⟨Rel_t hR, by (try dsimp only); exact up_s _ _ _⟩⟩))
  · exact ctw_mono (nseL_hands hO.1.1 hT (by decide) (xX10_handsa hO hT hl ha.1 h43 hi (by omega))) (fin_x (c := 1) (by decide) (fun u2 hu => by subst hu; exact ⟨rfl, fun b v2 hb => by have e := hb.2.1 q; subst e; exact ⟨Rel_t hR, by (try dsimp only); exact up_s _ _ _⟩⟩))
set_option maxHeartbeats 4000000 in
theorem fL_fret {l : Launch} {D : va_G} {cI cJ : ClassId} {adM : Nat → Nat} {bo : Nat} {O : OT} {adK adV : Nat → Nat} {tT : Nat} (hO : OGC O adK adV tT) (hT : OGT O) (hN : OGN O) (hl : l.stackTraces = false) {ad : Nat → Nat} {I : Nat → Int} {A : Nat → Int → Int} {J : Nat → Int} {B : Nat → Int → Int} {x : Int} {i bar j s : Int} (hi : inR i) (hbar : inR bar) (hj : inR j) (hs : inR s) (hR : Rel (ad, I, A) (J, B)) : CtW l yL_fret cL_fret 7 [(0, 14, 17, 18), (0, 14, 21, 13)] (rX 17) D [(cI, .int), (cJ, .long)] O (wL adM bo cI cJ) [.ref (ad 19), .int (iZ i), .int (iZ bar), .int (iZ j), .int (iZ s), .ref bo] ((ad, I, A), (J, B), x) (pI (FIN ad (J, B) (fun r u2 => ((0 ≤ i ∧ i < J 6) ∧ (0 ≤ bar ∧ bar ≤ 7) → frF B (8 * i + bar) u2.2 ∧ repH u2.2 (8 * i + bar) (J 9).toNat (hdA J B i bar) ∧ ((0 ≤ j ∧ j < ((hdA J B i bar).length : Int)) ∧ -1 ≤ s ∧ s < J 9 → r = (if s = -1 then ((hdA J B i bar).getD j.toNat (0, [])).1 else ((hdA J B i bar).getD j.toNat (0, [])).2.getD s.toNat 0) ∧ u2.1 = va_up J 0 0) ∧ (¬ ((0 ≤ j ∧ j < ((hdA J B i bar).length : Int)) ∧ -1 ≤ s ∧ s < J 9) → u2.1 = va_up J 0 1)) ∧ (¬ (0 ≤ i ∧ i < J 6) → u2 = (va_up J 0 1, B)) ∧ ((0 ≤ i ∧ i < J 6) → ¬ (0 ≤ bar ∧ bar ≤ 7) → u2 = (va_up J 0 2, B))))) := by
  have h0 := hR.1
  have hC := Rel0_C h0
  have hNN := Rel0_N h0
  have hRO := hR.2.1
  have hRH := hR.2.2.2
  dsimp only at h0 hC hNN hRO hRH
  obtain ⟨ha, ⟨i1, i5, i6, i43, i42, i7, i121, i41⟩, ⟨b2, b5, b57, b7, b8⟩, ⟨t1, t2⟩, ⟨c1, c2⟩, ⟨n1, n2⟩, ⟨w1, w2, w3⟩⟩ := id h0
  have h43 := hC.1
  by_cases q : 0 ≤ i ∧ i < J 6
  · by_cases q2 : 0 ≤ bar ∧ bar ≤ 7
    · have ehd := Rel0_hd h0 q.1 q.2 bar
      by_cases q3 : (0 ≤ j ∧ j < ((hdA J B i bar).length : Int)) ∧ -1 ≤ s ∧ s < J 9
      · exact ctw_mono (okL_fret hO.1.1 (by decide) (qX10_fret hO ha.1 hC hNN hRH.2 (by omega) q2 (by rw [ehd]; exact q3.1) (by rw [i121]; exact q3.2))) (fin_ok (x := x) (fun r u2 hu => by
        obtain ⟨rfl, hh⟩ := hu
        refine ⟨by rw [hh.1], fun b v2 hb => ?_⟩
        obtain ⟨e3, e4, e5, -⟩ := hb.1 ⟨q, q2⟩
        obtain ⟨e1, e2⟩ := e5 q3
        obtain ⟨z1, z2, z3⟩ := st_hand hR q q2 hh e2 e3 e4
        exact ⟨z1, by rw [e1, ehd], z3⟩))
      · exact ctw_mono (nseL_fret hO.1.1 hT (by decide) (xX10_fretc hO hT hl ha.1 hC hNN hRH.2 (by omega) q2 hj hs (by rw [ehd, i121]; exact q3))) (fin_x (c := 1) (by decide) (fun u2 hh => ⟨by rw [hh.1], fun b v2 hb => by
        obtain ⟨e3, e4, -, e5⟩ := hb.1 ⟨q, q2⟩
        obtain ⟨z1, z2, z3⟩ := st_hand hR q q2 hh (e5 q3) e3 e4
        exact ⟨z1, z3⟩⟩))
    · exact ctw_mono (iaeL_fret hO.1.1 hT hN (by decide) (xX10_fretb hO hT hl ha.1 h43 hi hbar (by omega) q2)) (fin_x (c := 2) (by decide) (fun u2 hu => by subst hu; exact ⟨rfl, fun b v2 hb => by have e := hb.2.2 q q2; subst e; exact ⟨Rel_t hR, by (try dsimp only); exact up_s _ _ _⟩⟩))
  · exact ctw_mono (nseL_fret hO.1.1 hT (by decide) (xX10_freta hO hT hl ha.1 h43 hi (by omega))) (fin_x (c := 1) (by decide) (fun u2 hu => by subst hu; exact ⟨rfl, fun b v2 hb => by have e := hb.2.1 q; subst e; exact ⟨Rel_t hR, by (try dsimp only); exact up_s _ _ _⟩⟩))
set_option maxHeartbeats 4000000 in
theorem fL_play {l : Launch} {D : va_G} {cI cJ : ClassId} {adM : Nat → Nat} {bo : Nat} {O : OT} {adK adV : Nat → Nat} {tT : Nat} (hO : OGC O adK adV tT) (hT : OGT O) (hN : OGN O) (hl : l.stackTraces = false) {ad : Nat → Nat} {I : Nat → Int} {A : Nat → Int → Int} {J : Nat → Int} {B : Nat → Int → Int} {x : Int} {bar : Int} (hbar : inR bar) (hR : Rel (ad, I, A) (J, B)) : CtW l yL_play cL_play 4 [(0, 9, 12, 13)] (rX 17) D [(cI, .int), (cJ, .long)] O (wL adM bo cI cJ) [.ref (ad 19), .int (iZ bar), .ref bo] ((ad, I, A), (J, B), x) (pI (FIN ad (J, B) (fun r u2 => (0 ≤ bar ∧ bar ≤ 7 → playP J B bar r u2) ∧ (¬ (0 ≤ bar ∧ bar ≤ 7) → u2 = (va_up J 0 1, B))))) := by
  have h0 := hR.1
  have hC := Rel0_C h0
  have hNN := Rel0_N h0
  have hRO := hR.2.1
  have hRH := hR.2.2.2
  dsimp only at h0 hC hNN hRO hRH
  obtain ⟨ha, ⟨i1, i5, i6, i43, i42, i7, i121, i41⟩, ⟨b2, b5, b57, b7, b8⟩, ⟨t1, t2⟩, ⟨c1, c2⟩, ⟨n1, n2⟩, ⟨w1, w2, w3⟩⟩ := id h0
  have h43 := hC.1
  by_cases q : 0 ≤ bar ∧ bar ≤ 7
  · exact ctw_mono (okL_play hO.1.1 (by decide) (qX10_play (n := (I 121).toNat) (hs := fun i => chdA I A i bar) hO ha.1 hC hNN hRH.2 (by have := hNN.1; omega) (fun _ => rfl) q)) (fin_ok (x := x) (fun r u2 hu => ⟨by rw [hu.1], fun b v2 hb => by
      obtain ⟨z1, z2, z3, z4⟩ := st_play hR q rfl hu (hb.1 q)
      exact ⟨z1, z2, z4⟩⟩))
  · exact ctw_mono (iaeL_play hO.1.1 hT (by decide) (xX10_play hO hT hl hbar q)) (fin_x (c := 1) (by decide) (fun u2 hu => by subst hu; exact ⟨rfl, fun b v2 hb => by have e := hb.2 q; subst e; exact ⟨Rel_t hR, by (try dsimp only); exact up_s _ _ _⟩⟩))
set_option maxHeartbeats 4000000 in
theorem fL_count {l : Launch} {D : va_G} {cI cJ : ClassId} {adM : Nat → Nat} {bo : Nat} {O : OT} {adK adV : Nat → Nat} {tT : Nat} (hO : OGC O adK adV tT) (hT : OGT O) (hN : OGN O) (hl : l.stackTraces = false) {ad : Nat → Nat} {I : Nat → Int} {A : Nat → Int → Int} {J : Nat → Int} {B : Nat → Int → Int} {x : Int} {w : Int} (hw : inR w) (hR : Rel (ad, I, A) (J, B)) : CtW l yL_count cL_count 4 [(0, 9, 12, 18)] (rX 17) D [(cI, .int), (cJ, .long)] O (wL adM bo cI cJ) [.ref (ad 19), .int (iZ w), .ref bo] ((ad, I, A), (J, B), x) (pI (FIN ad (J, B) (fun r u2 => (0 ≤ w ∧ w ≤ 5 → r = (if w = 0 then J 6 else if w = 1 then J 7 else if w = 2 then J 8 else if w = 3 then J 9 else if w = 4 then (if J 26 < 4000 then J 26 else 4000) else J 2) ∧ u2 = (va_up J 0 0, B)) ∧ (¬ (0 ≤ w ∧ w ≤ 5) → u2 = (va_up J 0 1, B))))) := by
  have h0 := hR.1
  have hC := Rel0_C h0
  have hNN := Rel0_N h0
  have hRO := hR.2.1
  have hRH := hR.2.2.2
  dsimp only at h0 hC hNN hRO hRH
  obtain ⟨ha, ⟨i1, i5, i6, i43, i42, i7, i121, i41⟩, ⟨b2, b5, b57, b7, b8⟩, ⟨t1, t2⟩, ⟨c1, c2⟩, ⟨n1, n2⟩, ⟨w1, w2, w3⟩⟩ := id h0
  have h43 := hC.1
  have e81 := hRO.1
  have r26 := hRO.2.1
  by_cases q : 0 ≤ w ∧ w ≤ 5
  · exact ctw_mono (okL_count hO.1.1 (by decide) (qX10_count hO ha.1 q (by omega))) (fin_ok (x := x) (fun r u2 hu => by
      obtain ⟨rfl, rfl⟩ := hu
      refine ⟨rfl, fun b v2 hb => ?_⟩
      obtain ⟨e1, e2⟩ := hb.1 q
      subst e2
      exact ⟨Rel_t hR, by rw [e1, i43, i42, i7, i121, e81, i1], by (try dsimp only); exact up_s _ _ _⟩))
  · exact ctw_mono (nseL_count hO.1.1 hT (by decide) (xX10_count hO hT hl hw q)) (fin_x (c := 1) (by decide) (fun u2 hu => by subst hu; exact ⟨rfl, fun b v2 hb => by have e := hb.2 q; subst e; exact ⟨Rel_t hR, by (try dsimp only); exact up_s _ _ _⟩⟩))
