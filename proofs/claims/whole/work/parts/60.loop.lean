theorem w_icmp_eqS {σ : Type} {l : Launch} {R : Room} {cc : ByteArray} {nL : Nat} {own : String} {D : va_G} {tys : List (ClassId × FieldType)} {O : OT} {wld : σ → va_W} {X : CtxT} {cl sl : Nat} {pc : Nat} {lv : List (Option Value)} {st : List Value} {u : σ} (hS0 : SW cc nL own D tys O X) {x : Int} {off : Int} {tgt : Nat} (d : decode cc pc = .ok (.if_icmp .eq off, 3)) (ht : (pc : Int) + off = (tgt : Int)) (k : JW l R nL D wld X cl sl tgt lv st u) : JW l R nL D wld X cl sl pc lv (.int (iZ x) :: .int (iZ x) :: st) u := by
  obtain ⟨p, e, s, m, args, below, meth, c, A, Q⟩ := X
  obtain ⟨hx, hb, hml, hown, hts, hK, hA, hOL, hO⟩ := hS0
  intro H locs ls hP hD hS hl
  exact lv_icmp_eq hx hb d ht (fun _ => k H locs ls hP hD hS hl) (fun q => absurd rfl q)
theorem zand_31 (x : Int) : 0 ≤ zand x 31 ∧ zand x 31 ≤ 31 := by
  have e : zand x 31 = zand 31 x := by unfold zand; rw [Int32.and_comm]
  rw [e]
  exact zand_in (by decide)
theorem rOk_W {a n : Nat} (h : a ≤ 17) (hn : n ≤ 21) : rOk (rL a) room_1 n := ⟨rfl, rfl, by show a + 1 ≤ 2048; omega, by show 8 + (n + 11) + 40 * a ≤ 84000; omega⟩
abbrev tyL (cI cJ : ClassId) : List (ClassId × FieldType) := [(cI, .int), (cJ, .long)]
/-- what the loop stands on -/
def LK (l : Launch) (D : va_G) (cI cJ : ClassId) (O : OT) (adK adV : Nat → Nat) (tT : Nat) (X : CtxT) (b L : Nat) (zs : Nat → Int) : Prop := SW code 7 RL D (tyL cI cJ) O X ∧ SX b L zs X ∧ L ≤ 3072 ∧ (∀ j, inR (zs j)) ∧ OGC O adK adV tT ∧ OGT O ∧ OGN O ∧ l.stackTraces = false
/-- the law at pc, with the script's place i -/
def LJ (l : Launch) (D : va_G) (cI cJ : ClassId) (adM : Nat → Nat) (bo : Nat) (X : CtxT) (b h : Nat) (i : Int) (a5 a6 : Option Value) (cl sl pc : Nat) (u : sL) : Prop := JW l room_1 7 D (wL adM bo cI cJ) X cl sl pc [some (.ref b), some (.ref h), some (.ref (adM 0)), some (.ref bo), some (.int (iZ i)), a5, a6] [] u
/-- the law comes on, from the loop's end at 1010 -/
def LN (l : Launch) (D : va_G) (cI cJ : ClassId) (adM : Nat → Nat) (bo : Nat) (X : CtxT) (b h : Nat) (i : Int) (cl sl : Nat) : Prop := ∀ (uC : sC) (uM : sM) (x : Int) (a5 a6 : Option Value), Rel uC uM → uC.1 19 = h → LJ l D cI cJ adM bo X b h i a5 a6 cl sl 1010 (uC, uM, x)
set_option maxHeartbeats 4000000 in
theorem lc_feed {l : Launch} {D : va_G} {cI cJ : ClassId} {adM : Nat → Nat} {bo : Nat} {O : OT} {adK adV : Nat → Nat} {tT : Nat} {X : CtxT} {b L : Nat} {zs : Nat → Int} {cl sl : Nat} {i : Int} {a5 a6 : Option Value} (hLK : LK l D cI cJ O adK adV tT X b L zs) (hR0 : cl + 1 ≤ 601024 ∧ sl + 6 ≤ 7293034) (i0 : 0 ≤ i) (i1 : i + 6 ≤ L) {ad : Nat → Nat} {I : Nat → Int} {A : Nat → Int → Int} {J : Nat → Int} {B : Nat → Int → Int} {x : Int} (hR : Rel (ad, I, A) (J, B)) (kn : LN l D cI cJ adM bo X b (ad 19) i (cl + 1) (sl + 6)) : LJ l D cI cJ adM bo X b (ad 19) i a5 a6 cl sl 128 ((ad, I, A), (J, B), x) := by
  obtain ⟨hS0, hX, hL, hzs, hO, hT, hN, hl⟩ := hLK
  have hOL := hO.1.1
  have h0 := hR.1
  have hC := Rel0_C h0
  have hNN := Rel0_N h0
  have hRO := hR.2.1
  have hRH := hR.2.2.2
  have hRP := hR.2.2.1
  have hI9 := Rel0_I h0
  have hin9 := Rel0_inc h0
  dsimp only at h0 hC hNN hRO hRH hRP hI9 hin9
  obtain ⟨ha, ⟨i1_, i5, i6, i43, i42, i7, i121, i41⟩, ⟨b2, b5, b57, b7, b8⟩, ⟨t1, t2⟩, ⟨c1, c2⟩, ⟨n1, n2⟩, ⟨w1, w2, w3⟩⟩ := id h0
  unfold LJ
  refine w_ald1 hS0 dL_law_128 ?_
  refine w_ald0 hS0 dL_law_129 ?_
  refine w_ild4 hS0 dL_law_130 ?_
  refine w_iconst hS0 dL_law_132 ?_
  refine w_iadd hS0 dL_law_133 ?_
  refine w_sld hS0 hX (by omega) (by omega) hL dL_law_134 ?_
  refine w_ald0 hS0 dL_law_135 ?_
  refine w_ild4 hS0 dL_law_136 ?_
  refine w_iconst hS0 dL_law_138 ?_
  refine w_iadd hS0 dL_law_139 ?_
  refine w_sld hS0 hX (by omega) (by omega) hL dL_law_140 ?_
  refine w_ald0 hS0 dL_law_141 ?_
  refine w_ild4 hS0 dL_law_142 ?_
  refine w_iconst hS0 dL_law_144 ?_
  refine w_iadd hS0 dL_law_145 ?_
  refine w_sld hS0 hX (by omega) (by omega) hL dL_law_146 ?_
  refine w_ald0 hS0 dL_law_147 ?_
  refine w_ild4 hS0 dL_law_148 ?_
  refine w_iconst hS0 dL_law_150 ?_
  refine w_iadd hS0 dL_law_151 ?_
  refine w_sld hS0 hX (by omega) (by omega) hL dL_law_152 ?_
  refine w_ald0 hS0 dL_law_153 ?_
  refine w_ild4 hS0 dL_law_154 ?_
  refine w_iconst hS0 dL_law_156 ?_
  refine w_iadd hS0 dL_law_157 ?_
  refine w_sld hS0 hX (by omega) (by omega) hL dL_law_158 ?_
  refine w_callV (As := [.int (iZ (zs (i + 1).toNat)), .int (iZ (zs (i + 2).toNat)), .int (iZ (zs (i + 3).toNat)), .int (iZ (zs (i + 4).toNat)), .int (iZ (zs (i + 5).toNat))]) (st := []) (pc := 159) (q0 := 0) (ci := 7) hS0 rfl rfl lkL_56 (lfC (uM := (J, B)) (x := x) hOL (qX10_feed hO (by omega))) rfl rfl (by decide) (rOk_W (by decide) (by decide)) ⟨by show cl ≤ 601024; omega, by show sl ≤ 7293034; omega⟩ dL_law_159 (fun v u hp => ?_)
  obtain ⟨u2, ⟨r, rfl, hc9⟩, rfl⟩ := hp
  show JW l room_1 7 D _ X _ _ 162 _ [.int (iZ r)] _
  refine w_ald2 hS0 dL_law_162 ?_
  refine w_ald0 hS0 dL_law_163 ?_
  refine w_ild4 hS0 dL_law_164 ?_
  refine w_iconst hS0 dL_law_166 ?_
  refine w_iadd hS0 dL_law_167 ?_
  refine w_sld hS0 hX (by omega) (by omega) hL dL_law_168 ?_
  refine w_ald0 hS0 dL_law_169 ?_
  refine w_ild4 hS0 dL_law_170 ?_
  refine w_iconst hS0 dL_law_172 ?_
  refine w_iadd hS0 dL_law_173 ?_
  refine w_sld hS0 hX (by omega) (by omega) hL dL_law_174 ?_
  refine w_ald0 hS0 dL_law_175 ?_
  refine w_ild4 hS0 dL_law_176 ?_
  refine w_iconst hS0 dL_law_178 ?_
  refine w_iadd hS0 dL_law_179 ?_
  refine w_sld hS0 hX (by omega) (by omega) hL dL_law_180 ?_
  refine w_ald0 hS0 dL_law_181 ?_
  refine w_ild4 hS0 dL_law_182 ?_
  refine w_iconst hS0 dL_law_184 ?_
  refine w_iadd hS0 dL_law_185 ?_
  refine w_sld hS0 hX (by omega) (by omega) hL dL_law_186 ?_
  refine w_ald0 hS0 dL_law_187 ?_
  refine w_ild4 hS0 dL_law_188 ?_
  refine w_iconst hS0 dL_law_190 ?_
  refine w_iadd hS0 dL_law_191 ?_
  refine w_sld hS0 hX (by omega) (by omega) hL dL_law_192 ?_
  refine w_callV (As := [.int (iZ (zs (i + 1).toNat)), .int (iZ (zs (i + 2).toNat)), .int (iZ (zs (i + 3).toNat)), .int (iZ (zs (i + 4).toNat)), .int (iZ (zs (i + 5).toNat))]) (st := [.int (iZ r)]) (pc := 193) (q0 := 30) (ci := 8) hS0 rfl rfl lkL_60 (lfM (uC := u2) (x := x) hOL (qX11_feed hO.1 b2)) rfl rfl (by show 1 ≤ 8; decide) (rOk_W (by decide) (by decide)) ⟨by show cl ≤ 601024; omega, by show sl ≤ 7293034; omega⟩ dL_law_193 (fun v u hp => ?_)
  obtain ⟨v2, ⟨b9, rfl, hb⟩, rfl⟩ := hp
  show JW l room_1 7 D _ X _ _ 196 _ [.int (iZ b9), .int (iZ r)] _
  obtain ⟨g1, g2, g3, g4⟩ := st_feed hR hc9 hb
  subst g2
  exact w_icmp_eqS (tgt := 1010) hS0 dL_law_196 (by decide) (w_widen (Nat.le_succ cl) (Nat.le_add_right sl 6) (kn _ _ x a5 a6 g1 g3))
set_option maxHeartbeats 4000000 in
theorem lc_song {l : Launch} {D : va_G} {cI cJ : ClassId} {adM : Nat → Nat} {bo : Nat} {O : OT} {adK adV : Nat → Nat} {tT : Nat} {X : CtxT} {b L : Nat} {zs : Nat → Int} {cl sl : Nat} {i : Int} {a5 a6 : Option Value} (hLK : LK l D cI cJ O adK adV tT X b L zs) (hR0 : cl + 1 ≤ 601024 ∧ sl + 6 ≤ 7293034) (i0 : 0 ≤ i) (i1 : i + 6 ≤ L) {ad : Nat → Nat} {I : Nat → Int} {A : Nat → Int → Int} {J : Nat → Int} {B : Nat → Int → Int} {x : Int} (hR : Rel (ad, I, A) (J, B)) (kn : LN l D cI cJ adM bo X b (ad 19) i (cl + 1) (sl + 6)) : LJ l D cI cJ adM bo X b (ad 19) i a5 a6 cl sl 201 ((ad, I, A), (J, B), x) := by
  obtain ⟨hS0, hX, hL, hzs, hO, hT, hN, hl⟩ := hLK
  have hOL := hO.1.1
  have h0 := hR.1
  have hC := Rel0_C h0
  have hNN := Rel0_N h0
  have hRO := hR.2.1
  have hRH := hR.2.2.2
  have hRP := hR.2.2.1
  have hI9 := Rel0_I h0
  have hin9 := Rel0_inc h0
  dsimp only at h0 hC hNN hRO hRH hRP hI9 hin9
  obtain ⟨ha, ⟨i1_, i5, i6, i43, i42, i7, i121, i41⟩, ⟨b2, b5, b57, b7, b8⟩, ⟨t1, t2⟩, ⟨c1, c2⟩, ⟨n1, n2⟩, ⟨w1, w2, w3⟩⟩ := id h0
  unfold LJ
  refine w_ald1 hS0 dL_law_201 ?_
  refine w_ald0 hS0 dL_law_202 ?_
  refine w_ild4 hS0 dL_law_203 ?_
  refine w_iconst hS0 dL_law_205 ?_
  refine w_iadd hS0 dL_law_206 ?_
  refine w_sld hS0 hX (by omega) (by omega) hL dL_law_207 ?_
  refine w_ald3 hS0 dL_law_208 ?_
  refine w_callW (As := [.ref (ad 19), .int (iZ (zs (i + 1).toNat)), .ref bo]) (st := []) (pc := 209) hS0 lkW_L_song (fL_song hO hT hN hl (hzs _) hR) rfl rfl (by decide) ⟨rfl, rfl, by decide, by decide⟩ hR0 dL_law_209 (fun v u hp => ?_)
  obtain ⟨k, rfl, u2, r, rfl, hk, h19, hF⟩ := hp
  show JW l room_1 7 D _ X _ _ 212 _ [.int (iZ k)] _
  refine w_ist5 hS0 dL_law_212 (by decide) ?_
  refine w_ald2 hS0 dL_law_214 ?_
  refine w_ald0 hS0 dL_law_215 ?_
  refine w_ild4 hS0 dL_law_216 ?_
  refine w_iconst hS0 dL_law_218 ?_
  refine w_iadd hS0 dL_law_219 ?_
  refine w_sld hS0 hX (by omega) (by omega) hL dL_law_220 ?_
  refine w_callV (As := [.int (iZ (zs (i + 1).toNat))]) (st := []) (pc := 221) (q0 := 30) (ci := 8) hS0 rfl rfl lkL_66 (lfM (uC := u2) (x := r) hOL (qX11_song hO.1 (hzs _) b2 t2)) rfl rfl (by decide) (rOk_W (by decide) (by decide)) ⟨by show cl + 1 ≤ 601024; omega, by show sl + 6 ≤ 7293034; omega⟩ dL_law_221 (fun v u hp => ?_)
  obtain ⟨⟨J2, B2⟩, ⟨b9, rfl, hb⟩, rfl⟩ := hp
  obtain ⟨g1, g2, g3⟩ := hF b9 (J2, B2) hb
  dsimp only at g2
  show JW l room_1 7 D _ X _ _ 224 _ [.int (iZ b9)] _
  refine w_ist6 hS0 dL_law_224 (by decide) ?_
  refine w_ald2 hS0 dL_law_226 ?_
  refine w_callV (As := []) (st := []) (pc := 227) (q0 := 30) (ci := 8) hS0 rfl rfl lkL_67 (lfM (uC := u2) (x := r) hOL (qX11_thrown hO.1)) rfl rfl (by decide) (rOk_W (by decide) (by decide)) ⟨by show cl + 1 ≤ 601024; omega, by show sl + 6 ≤ 7293034; omega⟩ dL_law_227 (fun v u hp => ?_)
  obtain ⟨v3, ⟨t9, rfl, ht9, rfl⟩, rfl⟩ := hp
  rw [g2] at ht9
  subst ht9
  show JW l room_1 7 D _ X _ _ 230 _ [.int (iZ t9)] _
  refine w_ild5 hS0 dL_law_230 ?_
  refine w_icmp_eqS (tgt := 237) hS0 dL_law_232 (by decide) ?_
  refine w_ild5 hS0 dL_law_237 ?_
  have kg : ∀ st5 st6 x9, LJ l D cI cJ adM bo X b (ad 19) i st5 st6 (cl + 1) (sl + 6) 254 (u2, (J2, B2), x9) := fun st5 st6 x9 => w_goto (tgt := 1010) hS0 dL_law_254 (by decide) (kn u2 (J2, B2) x9 st5 st6 g1 h19)
  refine w_if_ne (tgt := 254) hS0 dL_law_239 (by decide) ⟨by omega, by omega⟩ (fun _ => kg _ _ _) (fun e0 => ?_)
  have g4 := g3 e0
  subst g4
  refine w_ald3 hS0 dL_law_242 ?_
  refine w_iconst hS0 dL_law_243 ?_
  refine w_lald hS0 dL_law_244 ?_
  refine w_ild6 hS0 dL_law_245 ?_
  refine w_i2l hS0 dL_law_247 ?_
  refine w_lcmpE hS0 dL_law_248 ?_
  exact w_if_eq (tgt := 254) hS0 dL_law_249 (by decide) inR_0 (fun _ => kg _ _ _) (fun q => absurd rfl q)
set_option maxHeartbeats 4000000 in
theorem lc_fault {l : Launch} {D : va_G} {cI cJ : ClassId} {adM : Nat → Nat} {bo : Nat} {O : OT} {adK adV : Nat → Nat} {tT : Nat} {X : CtxT} {b L : Nat} {zs : Nat → Int} {cl sl : Nat} {i : Int} {a5 a6 : Option Value} (hLK : LK l D cI cJ O adK adV tT X b L zs) (hR0 : cl + 1 ≤ 601024 ∧ sl + 6 ≤ 7293034) (i0 : 0 ≤ i) (i1 : i + 6 ≤ L) {ad : Nat → Nat} {I : Nat → Int} {A : Nat → Int → Int} {J : Nat → Int} {B : Nat → Int → Int} {x : Int} (hR : Rel (ad, I, A) (J, B)) (kn : LN l D cI cJ adM bo X b (ad 19) i (cl + 1) (sl + 6)) : LJ l D cI cJ adM bo X b (ad 19) i a5 a6 cl sl 257 ((ad, I, A), (J, B), x) := by
  obtain ⟨hS0, hX, hL, hzs, hO, hT, hN, hl⟩ := hLK
  have hOL := hO.1.1
  have h0 := hR.1
  have hC := Rel0_C h0
  have hNN := Rel0_N h0
  have hRO := hR.2.1
  have hRH := hR.2.2.2
  have hRP := hR.2.2.1
  have hI9 := Rel0_I h0
  have hin9 := Rel0_inc h0
  dsimp only at h0 hC hNN hRO hRH hRP hI9 hin9
  obtain ⟨ha, ⟨i1_, i5, i6, i43, i42, i7, i121, i41⟩, ⟨b2, b5, b57, b7, b8⟩, ⟨t1, t2⟩, ⟨c1, c2⟩, ⟨n1, n2⟩, ⟨w1, w2, w3⟩⟩ := id h0
  unfold LJ
  refine w_ald1 hS0 dL_law_257 ?_
  refine w_ald0 hS0 dL_law_258 ?_
  refine w_ild4 hS0 dL_law_259 ?_
  refine w_iconst hS0 dL_law_261 ?_
  refine w_iadd hS0 dL_law_262 ?_
  refine w_sld hS0 hX (by omega) (by omega) hL dL_law_263 ?_
  refine w_ald3 hS0 dL_law_264 ?_
  refine w_callW (As := [.ref (ad 19), .int (iZ (zs (i + 1).toNat)), .ref bo]) (st := []) (pc := 265) hS0 lkW_L_fault (fL_fault hO hT hN hl (hzs _) hR) rfl rfl (by decide) ⟨rfl, rfl, by decide, by decide⟩ hR0 dL_law_265 (fun v u hp => ?_)
  obtain ⟨k, rfl, u2, r, rfl, hk, h19, hF⟩ := hp
  show JW l room_1 7 D _ X _ _ 268 _ [.int (iZ k)] _
  refine w_ist5 hS0 dL_law_268 (by decide) ?_
  refine w_ald2 hS0 dL_law_270 ?_
  refine w_ald0 hS0 dL_law_271 ?_
  refine w_ild4 hS0 dL_law_272 ?_
  refine w_iconst hS0 dL_law_274 ?_
  refine w_iadd hS0 dL_law_275 ?_
  refine w_sld hS0 hX (by omega) (by omega) hL dL_law_276 ?_
  refine w_callV (As := [.int (iZ (zs (i + 1).toNat))]) (st := []) (pc := 277) (q0 := 30) (ci := 8) hS0 rfl rfl lkL_73 (lfM (uC := u2) (x := r) hOL (qX11_fault hO.1 (hzs _))) rfl rfl (by decide) (rOk_W (by decide) (by decide)) ⟨by show cl + 1 ≤ 601024; omega, by show sl + 6 ≤ 7293034; omega⟩ dL_law_277 (fun v u hp => ?_)
  obtain ⟨⟨J2, B2⟩, ⟨b9, rfl, hb⟩, rfl⟩ := hp
  obtain ⟨g1, g2, g3⟩ := hF b9 (J2, B2) hb
  dsimp only at g2
  show JW l room_1 7 D _ X _ _ 280 _ [.int (iZ b9)] _
  refine w_ist6 hS0 dL_law_280 (by decide) ?_
  refine w_ald2 hS0 dL_law_282 ?_
  refine w_callV (As := []) (st := []) (pc := 283) (q0 := 30) (ci := 8) hS0 rfl rfl lkL_67 (lfM (uC := u2) (x := r) hOL (qX11_thrown hO.1)) rfl rfl (by decide) (rOk_W (by decide) (by decide)) ⟨by show cl + 1 ≤ 601024; omega, by show sl + 6 ≤ 7293034; omega⟩ dL_law_283 (fun v u hp => ?_)
  obtain ⟨v3, ⟨t9, rfl, ht9, rfl⟩, rfl⟩ := hp
  rw [g2] at ht9
  subst ht9
  show JW l room_1 7 D _ X _ _ 286 _ [.int (iZ t9)] _
  refine w_ild5 hS0 dL_law_286 ?_
  refine w_icmp_eqS (tgt := 293) hS0 dL_law_288 (by decide) ?_
  refine w_ild5 hS0 dL_law_293 ?_
  have kg : ∀ st5 st6 x9, LJ l D cI cJ adM bo X b (ad 19) i st5 st6 (cl + 1) (sl + 6) 310 (u2, (J2, B2), x9) := fun st5 st6 x9 => w_goto (tgt := 1010) hS0 dL_law_310 (by decide) (kn u2 (J2, B2) x9 st5 st6 g1 h19)
  refine w_if_ne (tgt := 310) hS0 dL_law_295 (by decide) ⟨by omega, by omega⟩ (fun _ => kg _ _ _) (fun e0 => ?_)
  have g4 := g3 e0
  subst g4
  refine w_ald3 hS0 dL_law_298 ?_
  refine w_iconst hS0 dL_law_299 ?_
  refine w_lald hS0 dL_law_300 ?_
  refine w_ild6 hS0 dL_law_301 ?_
  refine w_i2l hS0 dL_law_303 ?_
  refine w_lcmpE hS0 dL_law_304 ?_
  exact w_if_eq (tgt := 310) hS0 dL_law_305 (by decide) inR_0 (fun _ => kg _ _ _) (fun q => absurd rfl q)
set_option maxHeartbeats 4000000 in
theorem lc_key {l : Launch} {D : va_G} {cI cJ : ClassId} {adM : Nat → Nat} {bo : Nat} {O : OT} {adK adV : Nat → Nat} {tT : Nat} {X : CtxT} {b L : Nat} {zs : Nat → Int} {cl sl : Nat} {i : Int} {a5 a6 : Option Value} (hLK : LK l D cI cJ O adK adV tT X b L zs) (hR0 : cl + 1 ≤ 601024 ∧ sl + 6 ≤ 7293034) (i0 : 0 ≤ i) (i1 : i + 6 ≤ L) {ad : Nat → Nat} {I : Nat → Int} {A : Nat → Int → Int} {J : Nat → Int} {B : Nat → Int → Int} {x : Int} (hR : Rel (ad, I, A) (J, B)) (kn : LN l D cI cJ adM bo X b (ad 19) i (cl + 1) (sl + 6)) : LJ l D cI cJ adM bo X b (ad 19) i a5 a6 cl sl 313 ((ad, I, A), (J, B), x) := by
  obtain ⟨hS0, hX, hL, hzs, hO, hT, hN, hl⟩ := hLK
  have hOL := hO.1.1
  have h0 := hR.1
  have hC := Rel0_C h0
  have hNN := Rel0_N h0
  have hRO := hR.2.1
  have hRH := hR.2.2.2
  have hRP := hR.2.2.1
  have hI9 := Rel0_I h0
  have hin9 := Rel0_inc h0
  dsimp only at h0 hC hNN hRO hRH hRP hI9 hin9
  obtain ⟨ha, ⟨i1_, i5, i6, i43, i42, i7, i121, i41⟩, ⟨b2, b5, b57, b7, b8⟩, ⟨t1, t2⟩, ⟨c1, c2⟩, ⟨n1, n2⟩, ⟨w1, w2, w3⟩⟩ := id h0
  unfold LJ
  refine w_ald1 hS0 dL_law_313 ?_
  refine w_ald0 hS0 dL_law_314 ?_
  refine w_ild4 hS0 dL_law_315 ?_
  refine w_iconst hS0 dL_law_317 ?_
  refine w_iadd hS0 dL_law_318 ?_
  refine w_sld hS0 hX (by omega) (by omega) hL dL_law_319 ?_
  refine w_ald3 hS0 dL_law_320 ?_
  refine w_callW (As := [.ref (ad 19), .int (iZ (zs (i + 1).toNat)), .ref bo]) (st := []) (pc := 321) hS0 lkW_L_key (fL_key hO hT hN hl (hzs _) hR) rfl rfl (by decide) ⟨rfl, rfl, by decide, by decide⟩ hR0 dL_law_321 (fun v u hp => ?_)
  obtain ⟨k, rfl, u2, r, rfl, hk, h19, hF⟩ := hp
  show JW l room_1 7 D _ X _ _ 324 _ [.int (iZ k)] _
  refine w_ist5 hS0 dL_law_324 (by decide) ?_
  refine w_ald2 hS0 dL_law_326 ?_
  refine w_ald0 hS0 dL_law_327 ?_
  refine w_ild4 hS0 dL_law_328 ?_
  refine w_iconst hS0 dL_law_330 ?_
  refine w_iadd hS0 dL_law_331 ?_
  refine w_sld hS0 hX (by omega) (by omega) hL dL_law_332 ?_
  refine w_callV (As := [.int (iZ (zs (i + 1).toNat))]) (st := []) (pc := 333) (q0 := 30) (ci := 8) hS0 rfl rfl lkL_76 (lfM (uC := u2) (x := r) hOL (qX11_key hO.1 (hzs _))) rfl rfl (by decide) (rOk_W (by decide) (by decide)) ⟨by show cl + 1 ≤ 601024; omega, by show sl + 6 ≤ 7293034; omega⟩ dL_law_333 (fun v u hp => ?_)
  obtain ⟨⟨J2, B2⟩, ⟨b9, rfl, hb⟩, rfl⟩ := hp
  obtain ⟨g1, g2, g3⟩ := hF b9 (J2, B2) hb
  dsimp only at g2
  show JW l room_1 7 D _ X _ _ 336 _ [.int (iZ b9)] _
  refine w_ist6 hS0 dL_law_336 (by decide) ?_
  refine w_ald2 hS0 dL_law_338 ?_
  refine w_callV (As := []) (st := []) (pc := 339) (q0 := 30) (ci := 8) hS0 rfl rfl lkL_67 (lfM (uC := u2) (x := r) hOL (qX11_thrown hO.1)) rfl rfl (by decide) (rOk_W (by decide) (by decide)) ⟨by show cl + 1 ≤ 601024; omega, by show sl + 6 ≤ 7293034; omega⟩ dL_law_339 (fun v u hp => ?_)
  obtain ⟨v3, ⟨t9, rfl, ht9, rfl⟩, rfl⟩ := hp
  rw [g2] at ht9
  subst ht9
  show JW l room_1 7 D _ X _ _ 342 _ [.int (iZ t9)] _
  refine w_ild5 hS0 dL_law_342 ?_
  refine w_icmp_eqS (tgt := 349) hS0 dL_law_344 (by decide) ?_
  refine w_ild5 hS0 dL_law_349 ?_
  have kg : ∀ st5 st6 x9, LJ l D cI cJ adM bo X b (ad 19) i st5 st6 (cl + 1) (sl + 6) 366 (u2, (J2, B2), x9) := fun st5 st6 x9 => w_goto (tgt := 1010) hS0 dL_law_366 (by decide) (kn u2 (J2, B2) x9 st5 st6 g1 h19)
  refine w_if_ne (tgt := 366) hS0 dL_law_351 (by decide) ⟨by omega, by omega⟩ (fun _ => kg _ _ _) (fun e0 => ?_)
  have g4 := g3 e0
  subst g4
  refine w_ald3 hS0 dL_law_354 ?_
  refine w_iconst hS0 dL_law_355 ?_
  refine w_lald hS0 dL_law_356 ?_
  refine w_ild6 hS0 dL_law_357 ?_
  refine w_i2l hS0 dL_law_359 ?_
  refine w_lcmpE hS0 dL_law_360 ?_
  exact w_if_eq (tgt := 366) hS0 dL_law_361 (by decide) inR_0 (fun _ => kg _ _ _) (fun q => absurd rfl q)
set_option maxHeartbeats 4000000 in
theorem lc_move {l : Launch} {D : va_G} {cI cJ : ClassId} {adM : Nat → Nat} {bo : Nat} {O : OT} {adK adV : Nat → Nat} {tT : Nat} {X : CtxT} {b L : Nat} {zs : Nat → Int} {cl sl : Nat} {i : Int} {a5 a6 : Option Value} (hLK : LK l D cI cJ O adK adV tT X b L zs) (hR0 : cl + 1 ≤ 601024 ∧ sl + 6 ≤ 7293034) (i0 : 0 ≤ i) (i1 : i + 6 ≤ L) {ad : Nat → Nat} {I : Nat → Int} {A : Nat → Int → Int} {J : Nat → Int} {B : Nat → Int → Int} {x : Int} (hR : Rel (ad, I, A) (J, B)) (kn : LN l D cI cJ adM bo X b (ad 19) i (cl + 1) (sl + 6)) : LJ l D cI cJ adM bo X b (ad 19) i a5 a6 cl sl 369 ((ad, I, A), (J, B), x) := by
  obtain ⟨hS0, hX, hL, hzs, hO, hT, hN, hl⟩ := hLK
  have hOL := hO.1.1
  have h0 := hR.1
  have hC := Rel0_C h0
  have hNN := Rel0_N h0
  have hRO := hR.2.1
  have hRH := hR.2.2.2
  have hRP := hR.2.2.1
  have hI9 := Rel0_I h0
  have hin9 := Rel0_inc h0
  dsimp only at h0 hC hNN hRO hRH hRP hI9 hin9
  obtain ⟨ha, ⟨i1_, i5, i6, i43, i42, i7, i121, i41⟩, ⟨b2, b5, b57, b7, b8⟩, ⟨t1, t2⟩, ⟨c1, c2⟩, ⟨n1, n2⟩, ⟨w1, w2, w3⟩⟩ := id h0
  unfold LJ
  refine w_ald1 hS0 dL_law_369 ?_
  refine w_ald0 hS0 dL_law_370 ?_
  refine w_ild4 hS0 dL_law_371 ?_
  refine w_iconst hS0 dL_law_373 ?_
  refine w_iadd hS0 dL_law_374 ?_
  refine w_sld hS0 hX (by omega) (by omega) hL dL_law_375 ?_
  refine w_ald3 hS0 dL_law_376 ?_
  refine w_callW (As := [.ref (ad 19), .int (iZ (zs (i + 1).toNat)), .ref bo]) (st := []) (pc := 377) hS0 lkW_L_move (fL_move hO hT hN hl (hzs _) hR) rfl rfl (by decide) ⟨rfl, rfl, by decide, by decide⟩ hR0 dL_law_377 (fun v u hp => ?_)
  obtain ⟨k, rfl, u2, r, rfl, hk, h19, hF⟩ := hp
  show JW l room_1 7 D _ X _ _ 380 _ [.int (iZ k)] _
  refine w_ist5 hS0 dL_law_380 (by decide) ?_
  refine w_ald2 hS0 dL_law_382 ?_
  refine w_ald0 hS0 dL_law_383 ?_
  refine w_ild4 hS0 dL_law_384 ?_
  refine w_iconst hS0 dL_law_386 ?_
  refine w_iadd hS0 dL_law_387 ?_
  refine w_sld hS0 hX (by omega) (by omega) hL dL_law_388 ?_
  refine w_callV (As := [.int (iZ (zs (i + 1).toNat))]) (st := []) (pc := 389) (q0 := 30) (ci := 8) hS0 rfl rfl lkL_79 (lfM (uC := u2) (x := r) hOL (qX11_move hO.1 (hzs _) c2 b8)) rfl rfl (by decide) (rOk_W (by decide) (by decide)) ⟨by show cl + 1 ≤ 601024; omega, by show sl + 6 ≤ 7293034; omega⟩ dL_law_389 (fun v u hp => ?_)
  obtain ⟨⟨J2, B2⟩, ⟨b9, rfl, hb⟩, rfl⟩ := hp
  obtain ⟨g1, g2, g3⟩ := hF b9 (J2, B2) hb
  dsimp only at g2
  show JW l room_1 7 D _ X _ _ 392 _ [.int (iZ b9)] _
  refine w_ist6 hS0 dL_law_392 (by decide) ?_
  refine w_ald2 hS0 dL_law_394 ?_
  refine w_callV (As := []) (st := []) (pc := 395) (q0 := 30) (ci := 8) hS0 rfl rfl lkL_67 (lfM (uC := u2) (x := r) hOL (qX11_thrown hO.1)) rfl rfl (by decide) (rOk_W (by decide) (by decide)) ⟨by show cl + 1 ≤ 601024; omega, by show sl + 6 ≤ 7293034; omega⟩ dL_law_395 (fun v u hp => ?_)
  obtain ⟨v3, ⟨t9, rfl, ht9, rfl⟩, rfl⟩ := hp
  rw [g2] at ht9
  subst ht9
  show JW l room_1 7 D _ X _ _ 398 _ [.int (iZ t9)] _
  refine w_ild5 hS0 dL_law_398 ?_
  refine w_icmp_eqS (tgt := 405) hS0 dL_law_400 (by decide) ?_
  refine w_ild5 hS0 dL_law_405 ?_
  have kg : ∀ st5 st6 x9, LJ l D cI cJ adM bo X b (ad 19) i st5 st6 (cl + 1) (sl + 6) 422 (u2, (J2, B2), x9) := fun st5 st6 x9 => w_goto (tgt := 1010) hS0 dL_law_422 (by decide) (kn u2 (J2, B2) x9 st5 st6 g1 h19)
  refine w_if_ne (tgt := 422) hS0 dL_law_407 (by decide) ⟨by omega, by omega⟩ (fun _ => kg _ _ _) (fun e0 => ?_)
  have g4 := g3 e0
  subst g4
  refine w_ald3 hS0 dL_law_410 ?_
  refine w_iconst hS0 dL_law_411 ?_
  refine w_lald hS0 dL_law_412 ?_
  refine w_ild6 hS0 dL_law_413 ?_
  refine w_i2l hS0 dL_law_415 ?_
  refine w_lcmpE hS0 dL_law_416 ?_
  exact w_if_eq (tgt := 422) hS0 dL_law_417 (by decide) inR_0 (fun _ => kg _ _ _) (fun q => absurd rfl q)
set_option maxHeartbeats 4000000 in
theorem lc_chord {l : Launch} {D : va_G} {cI cJ : ClassId} {adM : Nat → Nat} {bo : Nat} {O : OT} {adK adV : Nat → Nat} {tT : Nat} {X : CtxT} {b L : Nat} {zs : Nat → Int} {cl sl : Nat} {i : Int} {a5 a6 : Option Value} (hLK : LK l D cI cJ O adK adV tT X b L zs) (hR0 : cl + 1 ≤ 601024 ∧ sl + 6 ≤ 7293034) (i0 : 0 ≤ i) (i1 : i + 6 ≤ L) {ad : Nat → Nat} {I : Nat → Int} {A : Nat → Int → Int} {J : Nat → Int} {B : Nat → Int → Int} {x : Int} (hR : Rel (ad, I, A) (J, B)) (kn : LN l D cI cJ adM bo X b (ad 19) i (cl + 1) (sl + 6)) : LJ l D cI cJ adM bo X b (ad 19) i a5 a6 cl sl 425 ((ad, I, A), (J, B), x) := by
  obtain ⟨hS0, hX, hL, hzs, hO, hT, hN, hl⟩ := hLK
  have hOL := hO.1.1
  have h0 := hR.1
  have hC := Rel0_C h0
  have hNN := Rel0_N h0
  have hRO := hR.2.1
  have hRH := hR.2.2.2
  have hRP := hR.2.2.1
  have hI9 := Rel0_I h0
  have hin9 := Rel0_inc h0
  dsimp only at h0 hC hNN hRO hRH hRP hI9 hin9
  obtain ⟨ha, ⟨i1_, i5, i6, i43, i42, i7, i121, i41⟩, ⟨b2, b5, b57, b7, b8⟩, ⟨t1, t2⟩, ⟨c1, c2⟩, ⟨n1, n2⟩, ⟨w1, w2, w3⟩⟩ := id h0
  unfold LJ
  refine w_ald1 hS0 dL_law_425 ?_
  refine w_ald0 hS0 dL_law_426 ?_
  refine w_ild4 hS0 dL_law_427 ?_
  refine w_iconst hS0 dL_law_429 ?_
  refine w_iadd hS0 dL_law_430 ?_
  refine w_sld hS0 hX (by omega) (by omega) hL dL_law_431 ?_
  refine w_ald0 hS0 dL_law_432 ?_
  refine w_ild4 hS0 dL_law_433 ?_
  refine w_iconst hS0 dL_law_435 ?_
  refine w_iadd hS0 dL_law_436 ?_
  refine w_sld hS0 hX (by omega) (by omega) hL dL_law_437 ?_
  refine w_ald3 hS0 dL_law_438 ?_
  refine w_callW (As := [.ref (ad 19), .int (iZ (zs (i + 1).toNat)), .int (iZ (zs (i + 2).toNat)), .ref bo]) (st := []) (pc := 439) hS0 lkW_L_chord (fL_chord hO hT hN hl (hzs _) (hzs _) hR) rfl rfl (by decide) ⟨rfl, rfl, by decide, by decide⟩ hR0 dL_law_439 (fun v u hp => ?_)
  obtain ⟨k, rfl, u2, r, rfl, hk, h19, hF⟩ := hp
  show JW l room_1 7 D _ X _ _ 442 _ [.int (iZ k)] _
  refine w_ist5 hS0 dL_law_442 (by decide) ?_
  refine w_ald2 hS0 dL_law_444 ?_
  refine w_ald0 hS0 dL_law_445 ?_
  refine w_ild4 hS0 dL_law_446 ?_
  refine w_iconst hS0 dL_law_448 ?_
  refine w_iadd hS0 dL_law_449 ?_
  refine w_sld hS0 hX (by omega) (by omega) hL dL_law_450 ?_
  refine w_ald0 hS0 dL_law_451 ?_
  refine w_ild4 hS0 dL_law_452 ?_
  refine w_iconst hS0 dL_law_454 ?_
  refine w_iadd hS0 dL_law_455 ?_
  refine w_sld hS0 hX (by omega) (by omega) hL dL_law_456 ?_
  refine w_callV (As := [.int (iZ (zs (i + 1).toNat)), .int (iZ (zs (i + 2).toNat))]) (st := []) (pc := 457) (q0 := 30) (ci := 8) hS0 rfl rfl lkL_83 (lfM (uC := u2) (x := r) hOL (qX11_chord hO.1 c2 (hzs _) (hzs _))) rfl rfl (by decide) (rOk_W (by decide) (by decide)) ⟨by show cl + 1 ≤ 601024; omega, by show sl + 6 ≤ 7293034; omega⟩ dL_law_457 (fun v u hp => ?_)
  obtain ⟨⟨J2, B2⟩, ⟨b9, rfl, hb⟩, rfl⟩ := hp
  obtain ⟨g1, g2, g3⟩ := hF b9 (J2, B2) hb
  dsimp only at g2
  show JW l room_1 7 D _ X _ _ 460 _ [.int (iZ b9)] _
  refine w_ist6 hS0 dL_law_460 (by decide) ?_
  refine w_ald2 hS0 dL_law_462 ?_
  refine w_callV (As := []) (st := []) (pc := 463) (q0 := 30) (ci := 8) hS0 rfl rfl lkL_67 (lfM (uC := u2) (x := r) hOL (qX11_thrown hO.1)) rfl rfl (by decide) (rOk_W (by decide) (by decide)) ⟨by show cl + 1 ≤ 601024; omega, by show sl + 6 ≤ 7293034; omega⟩ dL_law_463 (fun v u hp => ?_)
  obtain ⟨v3, ⟨t9, rfl, ht9, rfl⟩, rfl⟩ := hp
  rw [g2] at ht9
  subst ht9
  show JW l room_1 7 D _ X _ _ 466 _ [.int (iZ t9)] _
  refine w_ild5 hS0 dL_law_466 ?_
  refine w_icmp_eqS (tgt := 473) hS0 dL_law_468 (by decide) ?_
  refine w_ild5 hS0 dL_law_473 ?_
  have kg : ∀ st5 st6 x9, LJ l D cI cJ adM bo X b (ad 19) i st5 st6 (cl + 1) (sl + 6) 490 (u2, (J2, B2), x9) := fun st5 st6 x9 => w_goto (tgt := 1010) hS0 dL_law_490 (by decide) (kn u2 (J2, B2) x9 st5 st6 g1 h19)
  refine w_if_ne (tgt := 490) hS0 dL_law_475 (by decide) ⟨by omega, by omega⟩ (fun _ => kg _ _ _) (fun e0 => ?_)
  have g4 := g3 e0
  subst g4
  refine w_ald3 hS0 dL_law_478 ?_
  refine w_iconst hS0 dL_law_479 ?_
  refine w_lald hS0 dL_law_480 ?_
  refine w_ild6 hS0 dL_law_481 ?_
  refine w_i2l hS0 dL_law_483 ?_
  refine w_lcmpE hS0 dL_law_484 ?_
  exact w_if_eq (tgt := 490) hS0 dL_law_485 (by decide) inR_0 (fun _ => kg _ _ _) (fun q => absurd rfl q)
set_option maxHeartbeats 4000000 in
theorem lc_name {l : Launch} {D : va_G} {cI cJ : ClassId} {adM : Nat → Nat} {bo : Nat} {O : OT} {adK adV : Nat → Nat} {tT : Nat} {X : CtxT} {b L : Nat} {zs : Nat → Int} {cl sl : Nat} {i : Int} {a5 a6 : Option Value} (hLK : LK l D cI cJ O adK adV tT X b L zs) (hR0 : cl + 1 ≤ 601024 ∧ sl + 6 ≤ 7293034) (i0 : 0 ≤ i) (i1 : i + 6 ≤ L) {ad : Nat → Nat} {I : Nat → Int} {A : Nat → Int → Int} {J : Nat → Int} {B : Nat → Int → Int} {x : Int} (hR : Rel (ad, I, A) (J, B)) (kn : LN l D cI cJ adM bo X b (ad 19) i (cl + 1) (sl + 6)) : LJ l D cI cJ adM bo X b (ad 19) i a5 a6 cl sl 493 ((ad, I, A), (J, B), x) := by
  obtain ⟨hS0, hX, hL, hzs, hO, hT, hN, hl⟩ := hLK
  have hOL := hO.1.1
  have h0 := hR.1
  have hC := Rel0_C h0
  have hNN := Rel0_N h0
  have hRO := hR.2.1
  have hRH := hR.2.2.2
  have hRP := hR.2.2.1
  have hI9 := Rel0_I h0
  have hin9 := Rel0_inc h0
  dsimp only at h0 hC hNN hRO hRH hRP hI9 hin9
  obtain ⟨ha, ⟨i1_, i5, i6, i43, i42, i7, i121, i41⟩, ⟨b2, b5, b57, b7, b8⟩, ⟨t1, t2⟩, ⟨c1, c2⟩, ⟨n1, n2⟩, ⟨w1, w2, w3⟩⟩ := id h0
  unfold LJ
  refine w_ald1 hS0 dL_law_493 ?_
  refine w_ald0 hS0 dL_law_494 ?_
  refine w_ild4 hS0 dL_law_495 ?_
  refine w_iconst hS0 dL_law_497 ?_
  refine w_iadd hS0 dL_law_498 ?_
  refine w_sld hS0 hX (by omega) (by omega) hL dL_law_499 ?_
  refine w_ald3 hS0 dL_law_500 ?_
  refine w_callW (As := [.ref (ad 19), .int (iZ (zs (i + 1).toNat)), .ref bo]) (st := []) (pc := 501) hS0 lkW_L_name (fL_name hO hT hN hl (hzs _) hR) rfl rfl (by decide) ⟨rfl, rfl, by decide, by decide⟩ hR0 dL_law_501 (fun v u hp => ?_)
  obtain ⟨k, rfl, u2, r, rfl, hk, h19, hF⟩ := hp
  show JW l room_1 7 D _ X _ _ 504 _ [.int (iZ k)] _
  refine w_ist5 hS0 dL_law_504 (by decide) ?_
  refine w_ald2 hS0 dL_law_506 ?_
  refine w_ald0 hS0 dL_law_507 ?_
  refine w_ild4 hS0 dL_law_508 ?_
  refine w_iconst hS0 dL_law_510 ?_
  refine w_iadd hS0 dL_law_511 ?_
  refine w_sld hS0 hX (by omega) (by omega) hL dL_law_512 ?_
  refine w_callV (As := [.int (iZ (zs (i + 1).toNat))]) (st := []) (pc := 513) (q0 := 30) (ci := 8) hS0 rfl rfl lkL_86 (lfM (uC := u2) (x := r) hOL (qX11_name hO.1 c2 (hzs _))) rfl rfl (by decide) (rOk_W (by decide) (by decide)) ⟨by show cl + 1 ≤ 601024; omega, by show sl + 6 ≤ 7293034; omega⟩ dL_law_513 (fun v u hp => ?_)
  obtain ⟨⟨J2, B2⟩, ⟨b9, rfl, hb⟩, rfl⟩ := hp
  obtain ⟨g1, g2, g3⟩ := hF b9 (J2, B2) hb
  dsimp only at g2
  show JW l room_1 7 D _ X _ _ 516 _ [.int (iZ b9)] _
  refine w_ist6 hS0 dL_law_516 (by decide) ?_
  refine w_ald2 hS0 dL_law_518 ?_
  refine w_callV (As := []) (st := []) (pc := 519) (q0 := 30) (ci := 8) hS0 rfl rfl lkL_67 (lfM (uC := u2) (x := r) hOL (qX11_thrown hO.1)) rfl rfl (by decide) (rOk_W (by decide) (by decide)) ⟨by show cl + 1 ≤ 601024; omega, by show sl + 6 ≤ 7293034; omega⟩ dL_law_519 (fun v u hp => ?_)
  obtain ⟨v3, ⟨t9, rfl, ht9, rfl⟩, rfl⟩ := hp
  rw [g2] at ht9
  subst ht9
  show JW l room_1 7 D _ X _ _ 522 _ [.int (iZ t9)] _
  refine w_ild5 hS0 dL_law_522 ?_
  refine w_icmp_eqS (tgt := 529) hS0 dL_law_524 (by decide) ?_
  refine w_ild5 hS0 dL_law_529 ?_
  have kg : ∀ st5 st6 x9, LJ l D cI cJ adM bo X b (ad 19) i st5 st6 (cl + 1) (sl + 6) 546 (u2, (J2, B2), x9) := fun st5 st6 x9 => w_goto (tgt := 1010) hS0 dL_law_546 (by decide) (kn u2 (J2, B2) x9 st5 st6 g1 h19)
  refine w_if_ne (tgt := 546) hS0 dL_law_531 (by decide) ⟨by omega, by omega⟩ (fun _ => kg _ _ _) (fun e0 => ?_)
  have g4 := g3 e0
  subst g4
  refine w_ald3 hS0 dL_law_534 ?_
  refine w_iconst hS0 dL_law_535 ?_
  refine w_lald hS0 dL_law_536 ?_
  refine w_ild6 hS0 dL_law_537 ?_
  refine w_i2l hS0 dL_law_539 ?_
  refine w_lcmpE hS0 dL_law_540 ?_
  exact w_if_eq (tgt := 546) hS0 dL_law_541 (by decide) inR_0 (fun _ => kg _ _ _) (fun q => absurd rfl q)
set_option maxHeartbeats 4000000 in
theorem lc_write {l : Launch} {D : va_G} {cI cJ : ClassId} {adM : Nat → Nat} {bo : Nat} {O : OT} {adK adV : Nat → Nat} {tT : Nat} {X : CtxT} {b L : Nat} {zs : Nat → Int} {cl sl : Nat} {i : Int} {a5 a6 : Option Value} (hLK : LK l D cI cJ O adK adV tT X b L zs) (hR0 : cl + 1 ≤ 601024 ∧ sl + 6 ≤ 7293034) (i0 : 0 ≤ i) (i1 : i + 6 ≤ L) {ad : Nat → Nat} {I : Nat → Int} {A : Nat → Int → Int} {J : Nat → Int} {B : Nat → Int → Int} {x : Int} (hR : Rel (ad, I, A) (J, B)) (kn : LN l D cI cJ adM bo X b (ad 19) i (cl + 1) (sl + 6)) : LJ l D cI cJ adM bo X b (ad 19) i a5 a6 cl sl 549 ((ad, I, A), (J, B), x) := by
  obtain ⟨hS0, hX, hL, hzs, hO, hT, hN, hl⟩ := hLK
  have hOL := hO.1.1
  have h0 := hR.1
  have hC := Rel0_C h0
  have hNN := Rel0_N h0
  have hRO := hR.2.1
  have hRH := hR.2.2.2
  have hRP := hR.2.2.1
  have hI9 := Rel0_I h0
  have hin9 := Rel0_inc h0
  dsimp only at h0 hC hNN hRO hRH hRP hI9 hin9
  obtain ⟨ha, ⟨i1_, i5, i6, i43, i42, i7, i121, i41⟩, ⟨b2, b5, b57, b7, b8⟩, ⟨t1, t2⟩, ⟨c1, c2⟩, ⟨n1, n2⟩, ⟨w1, w2, w3⟩⟩ := id h0
  unfold LJ
  refine w_ald1 hS0 dL_law_549 ?_
  refine w_callV (As := []) (st := []) (pc := 550) (q0 := 0) (ci := 7) hS0 rfl rfl lkL_87 (lfC (uM := (J, B)) (x := x) hOL (qX10_write hO ha.1 hC hI9 (by omega) hin9)) rfl rfl (by decide) (rOk_W (by decide) (by decide)) ⟨by show cl ≤ 601024; omega, by show sl ≤ 7293034; omega⟩ dL_law_550 (fun v u hp => ?_)
  obtain ⟨u2, ⟨r, rfl, hc9⟩, rfl⟩ := hp
  show JW l room_1 7 D _ X _ _ 553 _ [.int (iZ r)] _
  refine w_ald2 hS0 dL_law_553 ?_
  refine w_callV (As := []) (st := [.int (iZ r)]) (pc := 554) (q0 := 30) (ci := 8) hS0 rfl rfl lkL_90 (lfM (uC := u2) (x := x) hOL (qX11_write hO.1 b5 b7 c2 w2)) rfl rfl (by show 1 ≤ 8; decide) (rOk_W (by decide) (by decide)) ⟨by show cl ≤ 601024; omega, by show sl ≤ 7293034; omega⟩ dL_law_554 (fun v u hp => ?_)
  obtain ⟨v2, ⟨b9, rfl, hb⟩, rfl⟩ := hp
  show JW l room_1 7 D _ X _ _ 557 _ [.int (iZ b9), .int (iZ r)] _
  obtain ⟨g1, g2, g3, g4⟩ := st_write hR hc9 hb
  subst g2
  exact w_icmp_eqS (tgt := 1010) hS0 dL_law_557 (by decide) (w_widen (Nat.le_succ cl) (Nat.le_add_right sl 6) (kn _ _ x a5 a6 g1 g3))
set_option maxHeartbeats 4000000 in
theorem lc_told {l : Launch} {D : va_G} {cI cJ : ClassId} {adM : Nat → Nat} {bo : Nat} {O : OT} {adK adV : Nat → Nat} {tT : Nat} {X : CtxT} {b L : Nat} {zs : Nat → Int} {cl sl : Nat} {i : Int} {a5 a6 : Option Value} (hLK : LK l D cI cJ O adK adV tT X b L zs) (hR0 : cl + 1 ≤ 601024 ∧ sl + 6 ≤ 7293034) (i0 : 0 ≤ i) (i1 : i + 6 ≤ L) {ad : Nat → Nat} {I : Nat → Int} {A : Nat → Int → Int} {J : Nat → Int} {B : Nat → Int → Int} {x : Int} (hR : Rel (ad, I, A) (J, B)) (kn : LN l D cI cJ adM bo X b (ad 19) i (cl + 1) (sl + 6)) : LJ l D cI cJ adM bo X b (ad 19) i a5 a6 cl sl 562 ((ad, I, A), (J, B), x) := by
  obtain ⟨hS0, hX, hL, hzs, hO, hT, hN, hl⟩ := hLK
  have hOL := hO.1.1
  have h0 := hR.1
  have hC := Rel0_C h0
  have hNN := Rel0_N h0
  have hRO := hR.2.1
  have hRH := hR.2.2.2
  have hRP := hR.2.2.1
  have hI9 := Rel0_I h0
  have hin9 := Rel0_inc h0
  dsimp only at h0 hC hNN hRO hRH hRP hI9 hin9
  obtain ⟨ha, ⟨i1_, i5, i6, i43, i42, i7, i121, i41⟩, ⟨b2, b5, b57, b7, b8⟩, ⟨t1, t2⟩, ⟨c1, c2⟩, ⟨n1, n2⟩, ⟨w1, w2, w3⟩⟩ := id h0
  unfold LJ
  refine w_ald1 hS0 dL_law_562 ?_
  refine w_ald0 hS0 dL_law_563 ?_
  refine w_ild4 hS0 dL_law_564 ?_
  refine w_iconst hS0 dL_law_566 ?_
  refine w_iadd hS0 dL_law_567 ?_
  refine w_sld hS0 hX (by omega) (by omega) hL dL_law_568 ?_
  refine w_ald3 hS0 dL_law_569 ?_
  refine w_callW (As := [.ref (ad 19), .int (iZ (zs (i + 1).toNat)), .ref bo]) (st := []) (pc := 570) hS0 lkW_L_told (fL_told hO hT hN hl (hzs _) hR) rfl rfl (by decide) ⟨rfl, rfl, by decide, by decide⟩ hR0 dL_law_570 (fun v u hp => ?_)
  obtain ⟨k, rfl, u2, r, rfl, hk, h19, hF⟩ := hp
  show JW l room_1 7 D _ X _ _ 573 _ [.int (iZ k)] _
  refine w_ist5 hS0 dL_law_573 (by decide) ?_
  refine w_ald2 hS0 dL_law_575 ?_
  refine w_ald0 hS0 dL_law_576 ?_
  refine w_ild4 hS0 dL_law_577 ?_
  refine w_iconst hS0 dL_law_579 ?_
  refine w_iadd hS0 dL_law_580 ?_
  refine w_sld hS0 hX (by omega) (by omega) hL dL_law_581 ?_
  refine w_callV (As := [.int (iZ (zs (i + 1).toNat))]) (st := []) (pc := 582) (q0 := 30) (ci := 8) hS0 rfl rfl lkL_93 (lfM (uC := u2) (x := r) hOL (qX11_told hO.1 (hzs _) hRO.2.1)) rfl rfl (by decide) (rOk_W (by decide) (by decide)) ⟨by show cl + 1 ≤ 601024; omega, by show sl + 6 ≤ 7293034; omega⟩ dL_law_582 (fun v u hp => ?_)
  obtain ⟨⟨J2, B2⟩, ⟨b9, rfl, hb⟩, rfl⟩ := hp
  obtain ⟨g1, g2, g3⟩ := hF b9 (J2, B2) hb
  dsimp only at g2
  show JW l room_1 7 D _ X _ _ 585 _ [.int (iZ b9)] _
  refine w_ist6 hS0 dL_law_585 (by decide) ?_
  refine w_ald2 hS0 dL_law_587 ?_
  refine w_callV (As := []) (st := []) (pc := 588) (q0 := 30) (ci := 8) hS0 rfl rfl lkL_67 (lfM (uC := u2) (x := r) hOL (qX11_thrown hO.1)) rfl rfl (by decide) (rOk_W (by decide) (by decide)) ⟨by show cl + 1 ≤ 601024; omega, by show sl + 6 ≤ 7293034; omega⟩ dL_law_588 (fun v u hp => ?_)
  obtain ⟨v3, ⟨t9, rfl, ht9, rfl⟩, rfl⟩ := hp
  rw [g2] at ht9
  subst ht9
  show JW l room_1 7 D _ X _ _ 591 _ [.int (iZ t9)] _
  refine w_ild5 hS0 dL_law_591 ?_
  refine w_icmp_eqS (tgt := 598) hS0 dL_law_593 (by decide) ?_
  refine w_ild5 hS0 dL_law_598 ?_
  have kg : ∀ st5 st6 x9, LJ l D cI cJ adM bo X b (ad 19) i st5 st6 (cl + 1) (sl + 6) 615 (u2, (J2, B2), x9) := fun st5 st6 x9 => w_goto (tgt := 1010) hS0 dL_law_615 (by decide) (kn u2 (J2, B2) x9 st5 st6 g1 h19)
  refine w_if_ne (tgt := 615) hS0 dL_law_600 (by decide) ⟨by omega, by omega⟩ (fun _ => kg _ _ _) (fun e0 => ?_)
  have g4 := g3 e0
  subst g4
  refine w_ald3 hS0 dL_law_603 ?_
  refine w_iconst hS0 dL_law_604 ?_
  refine w_lald hS0 dL_law_605 ?_
  refine w_ild6 hS0 dL_law_606 ?_
  refine w_i2l hS0 dL_law_608 ?_
  refine w_lcmpE hS0 dL_law_609 ?_
  exact w_if_eq (tgt := 615) hS0 dL_law_610 (by decide) inR_0 (fun _ => kg _ _ _) (fun q => absurd rfl q)
set_option maxHeartbeats 4000000 in
theorem lc_string {l : Launch} {D : va_G} {cI cJ : ClassId} {adM : Nat → Nat} {bo : Nat} {O : OT} {adK adV : Nat → Nat} {tT : Nat} {X : CtxT} {b L : Nat} {zs : Nat → Int} {cl sl : Nat} {i : Int} {a5 a6 : Option Value} (hLK : LK l D cI cJ O adK adV tT X b L zs) (hR0 : cl + 1 ≤ 601024 ∧ sl + 6 ≤ 7293034) (i0 : 0 ≤ i) (i1 : i + 6 ≤ L) {ad : Nat → Nat} {I : Nat → Int} {A : Nat → Int → Int} {J : Nat → Int} {B : Nat → Int → Int} {x : Int} (hR : Rel (ad, I, A) (J, B)) (kn : LN l D cI cJ adM bo X b (ad 19) i (cl + 1) (sl + 6)) : LJ l D cI cJ adM bo X b (ad 19) i a5 a6 cl sl 618 ((ad, I, A), (J, B), x) := by
  obtain ⟨hS0, hX, hL, hzs, hO, hT, hN, hl⟩ := hLK
  have hOL := hO.1.1
  have h0 := hR.1
  have hC := Rel0_C h0
  have hNN := Rel0_N h0
  have hRO := hR.2.1
  have hRH := hR.2.2.2
  have hRP := hR.2.2.1
  have hI9 := Rel0_I h0
  have hin9 := Rel0_inc h0
  dsimp only at h0 hC hNN hRO hRH hRP hI9 hin9
  obtain ⟨ha, ⟨i1_, i5, i6, i43, i42, i7, i121, i41⟩, ⟨b2, b5, b57, b7, b8⟩, ⟨t1, t2⟩, ⟨c1, c2⟩, ⟨n1, n2⟩, ⟨w1, w2, w3⟩⟩ := id h0
  unfold LJ
  refine w_ald1 hS0 dL_law_618 ?_
  refine w_ald0 hS0 dL_law_619 ?_
  refine w_ild4 hS0 dL_law_620 ?_
  refine w_iconst hS0 dL_law_622 ?_
  refine w_iadd hS0 dL_law_623 ?_
  refine w_sld hS0 hX (by omega) (by omega) hL dL_law_624 ?_
  refine w_ald3 hS0 dL_law_625 ?_
  refine w_callW (As := [.ref (ad 19), .int (iZ (zs (i + 1).toNat)), .ref bo]) (st := []) (pc := 626) hS0 lkW_L_string (fL_string hO hT hN hl (hzs _) hR) rfl rfl (by decide) ⟨rfl, rfl, by decide, by decide⟩ hR0 dL_law_626 (fun v u hp => ?_)
  obtain ⟨k, rfl, u2, r, rfl, hk, h19, hF⟩ := hp
  show JW l room_1 7 D _ X _ _ 629 _ [.int (iZ k)] _
  refine w_ist5 hS0 dL_law_629 (by decide) ?_
  refine w_ald2 hS0 dL_law_631 ?_
  refine w_ald0 hS0 dL_law_632 ?_
  refine w_ild4 hS0 dL_law_633 ?_
  refine w_iconst hS0 dL_law_635 ?_
  refine w_iadd hS0 dL_law_636 ?_
  refine w_sld hS0 hX (by omega) (by omega) hL dL_law_637 ?_
  refine w_callV (As := [.int (iZ (zs (i + 1).toNat))]) (st := []) (pc := 638) (q0 := 30) (ci := 8) hS0 rfl rfl lkL_96 (lfM (uC := u2) (x := r) hOL (qX11_string hO.1 (hzs _) n2.1)) rfl rfl (by decide) (rOk_W (by decide) (by decide)) ⟨by show cl + 1 ≤ 601024; omega, by show sl + 6 ≤ 7293034; omega⟩ dL_law_638 (fun v u hp => ?_)
  obtain ⟨⟨J2, B2⟩, ⟨b9, rfl, hb⟩, rfl⟩ := hp
  obtain ⟨g1, g2, g3⟩ := hF b9 (J2, B2) hb
  dsimp only at g2
  show JW l room_1 7 D _ X _ _ 641 _ [.int (iZ b9)] _
  refine w_ist6 hS0 dL_law_641 (by decide) ?_
  refine w_ald2 hS0 dL_law_643 ?_
  refine w_callV (As := []) (st := []) (pc := 644) (q0 := 30) (ci := 8) hS0 rfl rfl lkL_67 (lfM (uC := u2) (x := r) hOL (qX11_thrown hO.1)) rfl rfl (by decide) (rOk_W (by decide) (by decide)) ⟨by show cl + 1 ≤ 601024; omega, by show sl + 6 ≤ 7293034; omega⟩ dL_law_644 (fun v u hp => ?_)
  obtain ⟨v3, ⟨t9, rfl, ht9, rfl⟩, rfl⟩ := hp
  rw [g2] at ht9
  subst ht9
  show JW l room_1 7 D _ X _ _ 647 _ [.int (iZ t9)] _
  refine w_ild5 hS0 dL_law_647 ?_
  refine w_icmp_eqS (tgt := 654) hS0 dL_law_649 (by decide) ?_
  refine w_ild5 hS0 dL_law_654 ?_
  have kg : ∀ st5 st6 x9, LJ l D cI cJ adM bo X b (ad 19) i st5 st6 (cl + 1) (sl + 6) 671 (u2, (J2, B2), x9) := fun st5 st6 x9 => w_goto (tgt := 1010) hS0 dL_law_671 (by decide) (kn u2 (J2, B2) x9 st5 st6 g1 h19)
  refine w_if_ne (tgt := 671) hS0 dL_law_656 (by decide) ⟨by omega, by omega⟩ (fun _ => kg _ _ _) (fun e0 => ?_)
  have g4 := g3 e0
  subst g4
  refine w_ald3 hS0 dL_law_659 ?_
  refine w_iconst hS0 dL_law_660 ?_
  refine w_lald hS0 dL_law_661 ?_
  refine w_ild6 hS0 dL_law_662 ?_
  refine w_i2l hS0 dL_law_664 ?_
  refine w_lcmpE hS0 dL_law_665 ?_
  exact w_if_eq (tgt := 671) hS0 dL_law_666 (by decide) inR_0 (fun _ => kg _ _ _) (fun q => absurd rfl q)
set_option maxHeartbeats 4000000 in
theorem lc_unstring {l : Launch} {D : va_G} {cI cJ : ClassId} {adM : Nat → Nat} {bo : Nat} {O : OT} {adK adV : Nat → Nat} {tT : Nat} {X : CtxT} {b L : Nat} {zs : Nat → Int} {cl sl : Nat} {i : Int} {a5 a6 : Option Value} (hLK : LK l D cI cJ O adK adV tT X b L zs) (hR0 : cl + 1 ≤ 601024 ∧ sl + 6 ≤ 7293034) (i0 : 0 ≤ i) (i1 : i + 6 ≤ L) {ad : Nat → Nat} {I : Nat → Int} {A : Nat → Int → Int} {J : Nat → Int} {B : Nat → Int → Int} {x : Int} (hR : Rel (ad, I, A) (J, B)) (kn : LN l D cI cJ adM bo X b (ad 19) i (cl + 1) (sl + 6)) : LJ l D cI cJ adM bo X b (ad 19) i a5 a6 cl sl 674 ((ad, I, A), (J, B), x) := by
  obtain ⟨hS0, hX, hL, hzs, hO, hT, hN, hl⟩ := hLK
  have hOL := hO.1.1
  have h0 := hR.1
  have hC := Rel0_C h0
  have hNN := Rel0_N h0
  have hRO := hR.2.1
  have hRH := hR.2.2.2
  have hRP := hR.2.2.1
  have hI9 := Rel0_I h0
  have hin9 := Rel0_inc h0
  dsimp only at h0 hC hNN hRO hRH hRP hI9 hin9
  obtain ⟨ha, ⟨i1_, i5, i6, i43, i42, i7, i121, i41⟩, ⟨b2, b5, b57, b7, b8⟩, ⟨t1, t2⟩, ⟨c1, c2⟩, ⟨n1, n2⟩, ⟨w1, w2, w3⟩⟩ := id h0
  unfold LJ
  refine w_ald1 hS0 dL_law_674 ?_
  refine w_callV (As := []) (st := []) (pc := 675) (q0 := 0) (ci := 7) hS0 rfl rfl lkL_97 (lfC (uM := (J, B)) (x := x) hOL (qX10_unstring hO )) rfl rfl (by decide) (rOk_W (by decide) (by decide)) ⟨by show cl ≤ 601024; omega, by show sl ≤ 7293034; omega⟩ dL_law_675 (fun v u hp => ?_)
  obtain ⟨u2, ⟨r, rfl, hc9⟩, rfl⟩ := hp
  show JW l room_1 7 D _ X _ _ 678 _ [.int (iZ r)] _
  refine w_ald2 hS0 dL_law_678 ?_
  refine w_callV (As := []) (st := [.int (iZ r)]) (pc := 679) (q0 := 30) (ci := 8) hS0 rfl rfl lkL_100 (lfM (uC := u2) (x := x) hOL (qX11_unstring hO.1 )) rfl rfl (by show 1 ≤ 8; decide) (rOk_W (by decide) (by decide)) ⟨by show cl ≤ 601024; omega, by show sl ≤ 7293034; omega⟩ dL_law_679 (fun v u hp => ?_)
  obtain ⟨v2, ⟨b9, rfl, hb⟩, rfl⟩ := hp
  show JW l room_1 7 D _ X _ _ 682 _ [.int (iZ b9), .int (iZ r)] _
  obtain ⟨g1, g2, g3, g4⟩ := st_unstring hR hc9 hb
  subst g2
  exact w_icmp_eqS (tgt := 1010) hS0 dL_law_682 (by decide) (w_widen (Nat.le_succ cl) (Nat.le_add_right sl 6) (kn _ _ x a5 a6 g1 g3))
set_option maxHeartbeats 4000000 in
theorem lc_hands {l : Launch} {D : va_G} {cI cJ : ClassId} {adM : Nat → Nat} {bo : Nat} {O : OT} {adK adV : Nat → Nat} {tT : Nat} {X : CtxT} {b L : Nat} {zs : Nat → Int} {cl sl : Nat} {i : Int} {a5 a6 : Option Value} (hLK : LK l D cI cJ O adK adV tT X b L zs) (hR0 : cl + 1 ≤ 601024 ∧ sl + 6 ≤ 7293034) (i0 : 0 ≤ i) (i1 : i + 6 ≤ L) {ad : Nat → Nat} {I : Nat → Int} {A : Nat → Int → Int} {J : Nat → Int} {B : Nat → Int → Int} {x : Int} (hR : Rel (ad, I, A) (J, B)) (kn : LN l D cI cJ adM bo X b (ad 19) i (cl + 1) (sl + 6)) : LJ l D cI cJ adM bo X b (ad 19) i a5 a6 cl sl 687 ((ad, I, A), (J, B), x) := by
  obtain ⟨hS0, hX, hL, hzs, hO, hT, hN, hl⟩ := hLK
  have hOL := hO.1.1
  have h0 := hR.1
  have hC := Rel0_C h0
  have hNN := Rel0_N h0
  have hRO := hR.2.1
  have hRH := hR.2.2.2
  have hRP := hR.2.2.1
  have hI9 := Rel0_I h0
  have hin9 := Rel0_inc h0
  dsimp only at h0 hC hNN hRO hRH hRP hI9 hin9
  obtain ⟨ha, ⟨i1_, i5, i6, i43, i42, i7, i121, i41⟩, ⟨b2, b5, b57, b7, b8⟩, ⟨t1, t2⟩, ⟨c1, c2⟩, ⟨n1, n2⟩, ⟨w1, w2, w3⟩⟩ := id h0
  unfold LJ
  refine w_ald1 hS0 dL_law_687 ?_
  refine w_ald0 hS0 dL_law_688 ?_
  refine w_ild4 hS0 dL_law_689 ?_
  refine w_iconst hS0 dL_law_691 ?_
  refine w_iadd hS0 dL_law_692 ?_
  refine w_sld hS0 hX (by omega) (by omega) hL dL_law_693 ?_
  refine w_ald0 hS0 dL_law_694 ?_
  refine w_ild4 hS0 dL_law_695 ?_
  refine w_iconst hS0 dL_law_697 ?_
  refine w_iadd hS0 dL_law_698 ?_
  refine w_sld hS0 hX (by omega) (by omega) hL dL_law_699 ?_
  refine w_ald3 hS0 dL_law_700 ?_
  refine w_callW (As := [.ref (ad 19), .int (iZ (zs (i + 1).toNat)), .int (iZ (zs (i + 2).toNat)), .ref bo]) (st := []) (pc := 701) hS0 lkW_L_hands (fL_hands hO hT hN hl (hzs _) (hzs _) hR) rfl rfl (by decide) ⟨rfl, rfl, by decide, by decide⟩ hR0 dL_law_701 (fun v u hp => ?_)
  obtain ⟨k, rfl, u2, r, rfl, hk, h19, hF⟩ := hp
  show JW l room_1 7 D _ X _ _ 704 _ [.int (iZ k)] _
  refine w_ist5 hS0 dL_law_704 (by decide) ?_
  refine w_ald2 hS0 dL_law_706 ?_
  refine w_ald0 hS0 dL_law_707 ?_
  refine w_ild4 hS0 dL_law_708 ?_
  refine w_iconst hS0 dL_law_710 ?_
  refine w_iadd hS0 dL_law_711 ?_
  refine w_sld hS0 hX (by omega) (by omega) hL dL_law_712 ?_
  refine w_ald0 hS0 dL_law_713 ?_
  refine w_ild4 hS0 dL_law_714 ?_
  refine w_iconst hS0 dL_law_716 ?_
  refine w_iadd hS0 dL_law_717 ?_
  refine w_sld hS0 hX (by omega) (by omega) hL dL_law_718 ?_
  refine w_callV (As := [.int (iZ (zs (i + 1).toNat)), .int (iZ (zs (i + 2).toNat))]) (st := []) (pc := 719) (q0 := 30) (ci := 8) hS0 rfl rfl lkL_103 (lfM (uC := u2) (x := r) hOL (qX11_hands hO.1 c2 n2 hRH.1 (hzs _) (hzs _))) rfl rfl (by decide) (rOk_W (by decide) (by decide)) ⟨by show cl + 1 ≤ 601024; omega, by show sl + 6 ≤ 7293034; omega⟩ dL_law_719 (fun v u hp => ?_)
  obtain ⟨⟨J2, B2⟩, ⟨b9, rfl, hb⟩, rfl⟩ := hp
  obtain ⟨g1, g2, g3⟩ := hF b9 (J2, B2) hb
  dsimp only at g2
  show JW l room_1 7 D _ X _ _ 722 _ [.int (iZ b9)] _
  refine w_ist6 hS0 dL_law_722 (by decide) ?_
  refine w_ald2 hS0 dL_law_724 ?_
  refine w_callV (As := []) (st := []) (pc := 725) (q0 := 30) (ci := 8) hS0 rfl rfl lkL_67 (lfM (uC := u2) (x := r) hOL (qX11_thrown hO.1)) rfl rfl (by decide) (rOk_W (by decide) (by decide)) ⟨by show cl + 1 ≤ 601024; omega, by show sl + 6 ≤ 7293034; omega⟩ dL_law_725 (fun v u hp => ?_)
  obtain ⟨v3, ⟨t9, rfl, ht9, rfl⟩, rfl⟩ := hp
  rw [g2] at ht9
  subst ht9
  show JW l room_1 7 D _ X _ _ 728 _ [.int (iZ t9)] _
  refine w_ild5 hS0 dL_law_728 ?_
  refine w_icmp_eqS (tgt := 735) hS0 dL_law_730 (by decide) ?_
  refine w_ild5 hS0 dL_law_735 ?_
  have kg : ∀ st5 st6 x9, LJ l D cI cJ adM bo X b (ad 19) i st5 st6 (cl + 1) (sl + 6) 752 (u2, (J2, B2), x9) := fun st5 st6 x9 => w_goto (tgt := 1010) hS0 dL_law_752 (by decide) (kn u2 (J2, B2) x9 st5 st6 g1 h19)
  refine w_if_ne (tgt := 752) hS0 dL_law_737 (by decide) ⟨by omega, by omega⟩ (fun _ => kg _ _ _) (fun e0 => ?_)
  have g4 := g3 e0
  subst g4
  refine w_ald3 hS0 dL_law_740 ?_
  refine w_iconst hS0 dL_law_741 ?_
  refine w_lald hS0 dL_law_742 ?_
  refine w_ild6 hS0 dL_law_743 ?_
  refine w_i2l hS0 dL_law_745 ?_
  refine w_lcmpE hS0 dL_law_746 ?_
  exact w_if_eq (tgt := 752) hS0 dL_law_747 (by decide) inR_0 (fun _ => kg _ _ _) (fun q => absurd rfl q)
set_option maxHeartbeats 4000000 in
theorem lc_fret {l : Launch} {D : va_G} {cI cJ : ClassId} {adM : Nat → Nat} {bo : Nat} {O : OT} {adK adV : Nat → Nat} {tT : Nat} {X : CtxT} {b L : Nat} {zs : Nat → Int} {cl sl : Nat} {i : Int} {a5 a6 : Option Value} (hLK : LK l D cI cJ O adK adV tT X b L zs) (hR0 : cl + 1 ≤ 601024 ∧ sl + 6 ≤ 7293034) (i0 : 0 ≤ i) (i1 : i + 6 ≤ L) {ad : Nat → Nat} {I : Nat → Int} {A : Nat → Int → Int} {J : Nat → Int} {B : Nat → Int → Int} {x : Int} (hR : Rel (ad, I, A) (J, B)) (kn : LN l D cI cJ adM bo X b (ad 19) i (cl + 1) (sl + 6)) : LJ l D cI cJ adM bo X b (ad 19) i a5 a6 cl sl 755 ((ad, I, A), (J, B), x) := by
  obtain ⟨hS0, hX, hL, hzs, hO, hT, hN, hl⟩ := hLK
  have hOL := hO.1.1
  have h0 := hR.1
  have hC := Rel0_C h0
  have hNN := Rel0_N h0
  have hRO := hR.2.1
  have hRH := hR.2.2.2
  have hRP := hR.2.2.1
  have hI9 := Rel0_I h0
  have hin9 := Rel0_inc h0
  dsimp only at h0 hC hNN hRO hRH hRP hI9 hin9
  obtain ⟨ha, ⟨i1_, i5, i6, i43, i42, i7, i121, i41⟩, ⟨b2, b5, b57, b7, b8⟩, ⟨t1, t2⟩, ⟨c1, c2⟩, ⟨n1, n2⟩, ⟨w1, w2, w3⟩⟩ := id h0
  unfold LJ
  refine w_ald1 hS0 dL_law_755 ?_
  refine w_ald0 hS0 dL_law_756 ?_
  refine w_ild4 hS0 dL_law_757 ?_
  refine w_iconst hS0 dL_law_759 ?_
  refine w_iadd hS0 dL_law_760 ?_
  refine w_sld hS0 hX (by omega) (by omega) hL dL_law_761 ?_
  refine w_ald0 hS0 dL_law_762 ?_
  refine w_ild4 hS0 dL_law_763 ?_
  refine w_iconst hS0 dL_law_765 ?_
  refine w_iadd hS0 dL_law_766 ?_
  refine w_sld hS0 hX (by omega) (by omega) hL dL_law_767 ?_
  refine w_ald0 hS0 dL_law_768 ?_
  refine w_ild4 hS0 dL_law_769 ?_
  refine w_iconst hS0 dL_law_771 ?_
  refine w_iadd hS0 dL_law_772 ?_
  refine w_sld hS0 hX (by omega) (by omega) hL dL_law_773 ?_
  refine w_ald0 hS0 dL_law_774 ?_
  refine w_ild4 hS0 dL_law_775 ?_
  refine w_iconst hS0 dL_law_777 ?_
  refine w_iadd hS0 dL_law_778 ?_
  refine w_sld hS0 hX (by omega) (by omega) hL dL_law_779 ?_
  refine w_ald3 hS0 dL_law_780 ?_
  refine w_callW (As := [.ref (ad 19), .int (iZ (zs (i + 1).toNat)), .int (iZ (zs (i + 2).toNat)), .int (iZ (zs (i + 3).toNat)), .int (iZ (zs (i + 4).toNat)), .ref bo]) (st := []) (pc := 781) hS0 lkW_L_fret (fL_fret hO hT hN hl (hzs _) (hzs _) (hzs _) (hzs _) hR) rfl rfl (by decide) ⟨rfl, rfl, by decide, by decide⟩ hR0 dL_law_781 (fun v u hp => ?_)
  obtain ⟨k, rfl, u2, r, rfl, hk, h19, hF⟩ := hp
  show JW l room_1 7 D _ X _ _ 784 _ [.int (iZ k)] _
  refine w_ist5 hS0 dL_law_784 (by decide) ?_
  refine w_ald2 hS0 dL_law_786 ?_
  refine w_ald0 hS0 dL_law_787 ?_
  refine w_ild4 hS0 dL_law_788 ?_
  refine w_iconst hS0 dL_law_790 ?_
  refine w_iadd hS0 dL_law_791 ?_
  refine w_sld hS0 hX (by omega) (by omega) hL dL_law_792 ?_
  refine w_ald0 hS0 dL_law_793 ?_
  refine w_ild4 hS0 dL_law_794 ?_
  refine w_iconst hS0 dL_law_796 ?_
  refine w_iadd hS0 dL_law_797 ?_
  refine w_sld hS0 hX (by omega) (by omega) hL dL_law_798 ?_
  refine w_ald0 hS0 dL_law_799 ?_
  refine w_ild4 hS0 dL_law_800 ?_
  refine w_iconst hS0 dL_law_802 ?_
  refine w_iadd hS0 dL_law_803 ?_
  refine w_sld hS0 hX (by omega) (by omega) hL dL_law_804 ?_
  refine w_ald0 hS0 dL_law_805 ?_
  refine w_ild4 hS0 dL_law_806 ?_
  refine w_iconst hS0 dL_law_808 ?_
  refine w_iadd hS0 dL_law_809 ?_
  refine w_sld hS0 hX (by omega) (by omega) hL dL_law_810 ?_
  refine w_callV (As := [.int (iZ (zs (i + 1).toNat)), .int (iZ (zs (i + 2).toNat)), .int (iZ (zs (i + 3).toNat)), .int (iZ (zs (i + 4).toNat))]) (st := []) (pc := 811) (q0 := 30) (ci := 8) hS0 rfl rfl lkL_107 (lfM (uC := u2) (x := r) hOL (qX11_fret hO.1 c2 n2 hRH.1 (hzs _) (hzs _) (hzs _) (hzs _))) rfl rfl (by decide) (rOk_W (by decide) (by decide)) ⟨by show cl + 1 ≤ 601024; omega, by show sl + 6 ≤ 7293034; omega⟩ dL_law_811 (fun v u hp => ?_)
  obtain ⟨⟨J2, B2⟩, ⟨b9, rfl, hb⟩, rfl⟩ := hp
  obtain ⟨g1, g2, g3⟩ := hF b9 (J2, B2) hb
  dsimp only at g2
  show JW l room_1 7 D _ X _ _ 814 _ [.int (iZ b9)] _
  refine w_ist6 hS0 dL_law_814 (by decide) ?_
  refine w_ald2 hS0 dL_law_816 ?_
  refine w_callV (As := []) (st := []) (pc := 817) (q0 := 30) (ci := 8) hS0 rfl rfl lkL_67 (lfM (uC := u2) (x := r) hOL (qX11_thrown hO.1)) rfl rfl (by decide) (rOk_W (by decide) (by decide)) ⟨by show cl + 1 ≤ 601024; omega, by show sl + 6 ≤ 7293034; omega⟩ dL_law_817 (fun v u hp => ?_)
  obtain ⟨v3, ⟨t9, rfl, ht9, rfl⟩, rfl⟩ := hp
  rw [g2] at ht9
  subst ht9
  show JW l room_1 7 D _ X _ _ 820 _ [.int (iZ t9)] _
  refine w_ild5 hS0 dL_law_820 ?_
  refine w_icmp_eqS (tgt := 827) hS0 dL_law_822 (by decide) ?_
  refine w_ild5 hS0 dL_law_827 ?_
  have kg : ∀ st5 st6 x9, LJ l D cI cJ adM bo X b (ad 19) i st5 st6 (cl + 1) (sl + 6) 844 (u2, (J2, B2), x9) := fun st5 st6 x9 => w_goto (tgt := 1010) hS0 dL_law_844 (by decide) (kn u2 (J2, B2) x9 st5 st6 g1 h19)
  refine w_if_ne (tgt := 844) hS0 dL_law_829 (by decide) ⟨by omega, by omega⟩ (fun _ => kg _ _ _) (fun e0 => ?_)
  have g4 := g3 e0
  subst g4
  refine w_ald3 hS0 dL_law_832 ?_
  refine w_iconst hS0 dL_law_833 ?_
  refine w_lald hS0 dL_law_834 ?_
  refine w_ild6 hS0 dL_law_835 ?_
  refine w_i2l hS0 dL_law_837 ?_
  refine w_lcmpE hS0 dL_law_838 ?_
  exact w_if_eq (tgt := 844) hS0 dL_law_839 (by decide) inR_0 (fun _ => kg _ _ _) (fun q => absurd rfl q)
set_option maxHeartbeats 4000000 in
theorem lc_play {l : Launch} {D : va_G} {cI cJ : ClassId} {adM : Nat → Nat} {bo : Nat} {O : OT} {adK adV : Nat → Nat} {tT : Nat} {X : CtxT} {b L : Nat} {zs : Nat → Int} {cl sl : Nat} {i : Int} {a5 a6 : Option Value} (hLK : LK l D cI cJ O adK adV tT X b L zs) (hR0 : cl + 1 ≤ 601024 ∧ sl + 6 ≤ 7293034) (i0 : 0 ≤ i) (i1 : i + 6 ≤ L) {ad : Nat → Nat} {I : Nat → Int} {A : Nat → Int → Int} {J : Nat → Int} {B : Nat → Int → Int} {x : Int} (hR : Rel (ad, I, A) (J, B)) (kn : LN l D cI cJ adM bo X b (ad 19) i (cl + 1) (sl + 6)) : LJ l D cI cJ adM bo X b (ad 19) i a5 a6 cl sl 847 ((ad, I, A), (J, B), x) := by
  obtain ⟨hS0, hX, hL, hzs, hO, hT, hN, hl⟩ := hLK
  have hOL := hO.1.1
  have h0 := hR.1
  have hC := Rel0_C h0
  have hNN := Rel0_N h0
  have hRO := hR.2.1
  have hRH := hR.2.2.2
  have hRP := hR.2.2.1
  have hI9 := Rel0_I h0
  have hin9 := Rel0_inc h0
  dsimp only at h0 hC hNN hRO hRH hRP hI9 hin9
  obtain ⟨ha, ⟨i1_, i5, i6, i43, i42, i7, i121, i41⟩, ⟨b2, b5, b57, b7, b8⟩, ⟨t1, t2⟩, ⟨c1, c2⟩, ⟨n1, n2⟩, ⟨w1, w2, w3⟩⟩ := id h0
  unfold LJ
  refine w_ald1 hS0 dL_law_847 ?_
  refine w_ald0 hS0 dL_law_848 ?_
  refine w_ild4 hS0 dL_law_849 ?_
  refine w_iconst hS0 dL_law_851 ?_
  refine w_iadd hS0 dL_law_852 ?_
  refine w_sld hS0 hX (by omega) (by omega) hL dL_law_853 ?_
  refine w_ald3 hS0 dL_law_854 ?_
  refine w_callW (As := [.ref (ad 19), .int (iZ (zs (i + 1).toNat)), .ref bo]) (st := []) (pc := 855) hS0 lkW_L_play (fL_play hO hT hN hl (hzs _) hR) rfl rfl (by decide) ⟨rfl, rfl, by decide, by decide⟩ hR0 dL_law_855 (fun v u hp => ?_)
  obtain ⟨k, rfl, u2, r, rfl, hk, h19, hF⟩ := hp
  show JW l room_1 7 D _ X _ _ 858 _ [.int (iZ k)] _
  refine w_ist5 hS0 dL_law_858 (by decide) ?_
  refine w_ald2 hS0 dL_law_860 ?_
  refine w_ald0 hS0 dL_law_861 ?_
  refine w_ild4 hS0 dL_law_862 ?_
  refine w_iconst hS0 dL_law_864 ?_
  refine w_iadd hS0 dL_law_865 ?_
  refine w_sld hS0 hX (by omega) (by omega) hL dL_law_866 ?_
  refine w_callV (As := [.int (iZ (zs (i + 1).toNat))]) (st := []) (pc := 867) (q0 := 30) (ci := 8) hS0 rfl rfl lkL_110 (lfM (uC := u2) (x := r) hOL (qX11_play hO.1 c2 n2 hRH.1 (hzs _))) rfl rfl (by decide) (rOk_W (by decide) (by decide)) ⟨by show cl + 1 ≤ 601024; omega, by show sl + 6 ≤ 7293034; omega⟩ dL_law_867 (fun v u hp => ?_)
  obtain ⟨⟨J2, B2⟩, ⟨b9, rfl, hb⟩, rfl⟩ := hp
  obtain ⟨g1, g2, g3⟩ := hF b9 (J2, B2) hb
  dsimp only at g2
  show JW l room_1 7 D _ X _ _ 870 _ [.int (iZ b9)] _
  refine w_ist6 hS0 dL_law_870 (by decide) ?_
  refine w_ald2 hS0 dL_law_872 ?_
  refine w_callV (As := []) (st := []) (pc := 873) (q0 := 30) (ci := 8) hS0 rfl rfl lkL_67 (lfM (uC := u2) (x := r) hOL (qX11_thrown hO.1)) rfl rfl (by decide) (rOk_W (by decide) (by decide)) ⟨by show cl + 1 ≤ 601024; omega, by show sl + 6 ≤ 7293034; omega⟩ dL_law_873 (fun v u hp => ?_)
  obtain ⟨v3, ⟨t9, rfl, ht9, rfl⟩, rfl⟩ := hp
  rw [g2] at ht9
  subst ht9
  show JW l room_1 7 D _ X _ _ 876 _ [.int (iZ t9)] _
  refine w_ild5 hS0 dL_law_876 ?_
  refine w_icmp_eqS (tgt := 883) hS0 dL_law_878 (by decide) ?_
  refine w_ild5 hS0 dL_law_883 ?_
  have kg : ∀ st5 st6 x9, LJ l D cI cJ adM bo X b (ad 19) i st5 st6 (cl + 1) (sl + 6) 900 (u2, (J2, B2), x9) := fun st5 st6 x9 => w_goto (tgt := 1010) hS0 dL_law_900 (by decide) (kn u2 (J2, B2) x9 st5 st6 g1 h19)
  refine w_if_ne (tgt := 900) hS0 dL_law_885 (by decide) ⟨by omega, by omega⟩ (fun _ => kg _ _ _) (fun e0 => ?_)
  have g4 := g3 e0
  subst g4
  refine w_ald3 hS0 dL_law_888 ?_
  refine w_iconst hS0 dL_law_889 ?_
  refine w_lald hS0 dL_law_890 ?_
  refine w_ild6 hS0 dL_law_891 ?_
  refine w_i2l hS0 dL_law_893 ?_
  refine w_lcmpE hS0 dL_law_894 ?_
  exact w_if_eq (tgt := 900) hS0 dL_law_895 (by decide) inR_0 (fun _ => kg _ _ _) (fun q => absurd rfl q)
set_option maxHeartbeats 4000000 in
theorem lc_easiest {l : Launch} {D : va_G} {cI cJ : ClassId} {adM : Nat → Nat} {bo : Nat} {O : OT} {adK adV : Nat → Nat} {tT : Nat} {X : CtxT} {b L : Nat} {zs : Nat → Int} {cl sl : Nat} {i : Int} {a5 a6 : Option Value} (hLK : LK l D cI cJ O adK adV tT X b L zs) (hR0 : cl + 1 ≤ 601024 ∧ sl + 6 ≤ 7293034) (i0 : 0 ≤ i) (i1 : i + 6 ≤ L) {ad : Nat → Nat} {I : Nat → Int} {A : Nat → Int → Int} {J : Nat → Int} {B : Nat → Int → Int} {x : Int} (hR : Rel (ad, I, A) (J, B)) (kn : LN l D cI cJ adM bo X b (ad 19) i (cl + 1) (sl + 6)) : LJ l D cI cJ adM bo X b (ad 19) i a5 a6 cl sl 903 ((ad, I, A), (J, B), x) := by
  obtain ⟨hS0, hX, hL, hzs, hO, hT, hN, hl⟩ := hLK
  have hOL := hO.1.1
  have h0 := hR.1
  have hC := Rel0_C h0
  have hNN := Rel0_N h0
  have hRO := hR.2.1
  have hRH := hR.2.2.2
  have hRP := hR.2.2.1
  have hI9 := Rel0_I h0
  have hin9 := Rel0_inc h0
  dsimp only at h0 hC hNN hRO hRH hRP hI9 hin9
  obtain ⟨ha, ⟨i1_, i5, i6, i43, i42, i7, i121, i41⟩, ⟨b2, b5, b57, b7, b8⟩, ⟨t1, t2⟩, ⟨c1, c2⟩, ⟨n1, n2⟩, ⟨w1, w2, w3⟩⟩ := id h0
  unfold LJ
  refine w_ald1 hS0 dL_law_903 ?_
  refine w_callV (As := []) (st := []) (pc := 904) (q0 := 0) (ci := 7) hS0 rfl rfl lkL_111 (lfC (uM := (J, B)) (x := x) hOL (qX10_easiest hO ha.1 hC hNN hRH.2 (n := (I 121).toNat) (by have := n2.1; omega))) rfl rfl (by decide) (rOk_W (by decide) (by decide)) ⟨by show cl ≤ 601024; omega, by show sl ≤ 7293034; omega⟩ dL_law_904 (fun v u hp => ?_)
  obtain ⟨u2, ⟨r, rfl, hc9⟩, rfl⟩ := hp
  show JW l room_1 7 D _ X _ _ 907 _ [.int (iZ r)] _
  refine w_ald2 hS0 dL_law_907 ?_
  refine w_callV (As := []) (st := [.int (iZ r)]) (pc := 908) (q0 := 30) (ci := 8) hS0 rfl rfl lkL_114 (lfM (uC := u2) (x := x) hOL (qX11_easiest hO.1 c2 n2 hRH.1)) rfl rfl (by show 1 ≤ 8; decide) (rOk_W (by decide) (by decide)) ⟨by show cl ≤ 601024; omega, by show sl ≤ 7293034; omega⟩ dL_law_908 (fun v u hp => ?_)
  obtain ⟨v2, ⟨b9, rfl, hb⟩, rfl⟩ := hp
  show JW l room_1 7 D _ X _ _ 911 _ [.int (iZ b9), .int (iZ r)] _
  obtain ⟨g1, g2, g3, g4⟩ := st_easiest hR rfl hc9 hb
  subst g2
  exact w_icmp_eqS (tgt := 1010) hS0 dL_law_911 (by decide) (w_widen (Nat.le_succ cl) (Nat.le_add_right sl 6) (kn _ _ x a5 a6 g1 g3))
set_option maxHeartbeats 4000000 in
theorem lc_played {l : Launch} {D : va_G} {cI cJ : ClassId} {adM : Nat → Nat} {bo : Nat} {O : OT} {adK adV : Nat → Nat} {tT : Nat} {X : CtxT} {b L : Nat} {zs : Nat → Int} {cl sl : Nat} {i : Int} {a5 a6 : Option Value} (hLK : LK l D cI cJ O adK adV tT X b L zs) (hR0 : cl + 1 ≤ 601024 ∧ sl + 6 ≤ 7293034) (i0 : 0 ≤ i) (i1 : i + 6 ≤ L) {ad : Nat → Nat} {I : Nat → Int} {A : Nat → Int → Int} {J : Nat → Int} {B : Nat → Int → Int} {x : Int} (hR : Rel (ad, I, A) (J, B)) (kn : LN l D cI cJ adM bo X b (ad 19) i (cl + 1) (sl + 6)) : LJ l D cI cJ adM bo X b (ad 19) i a5 a6 cl sl 916 ((ad, I, A), (J, B), x) := by
  obtain ⟨hS0, hX, hL, hzs, hO, hT, hN, hl⟩ := hLK
  have hOL := hO.1.1
  have h0 := hR.1
  have hC := Rel0_C h0
  have hNN := Rel0_N h0
  have hRO := hR.2.1
  have hRH := hR.2.2.2
  have hRP := hR.2.2.1
  have hI9 := Rel0_I h0
  have hin9 := Rel0_inc h0
  dsimp only at h0 hC hNN hRO hRH hRP hI9 hin9
  obtain ⟨ha, ⟨i1_, i5, i6, i43, i42, i7, i121, i41⟩, ⟨b2, b5, b57, b7, b8⟩, ⟨t1, t2⟩, ⟨c1, c2⟩, ⟨n1, n2⟩, ⟨w1, w2, w3⟩⟩ := id h0
  unfold LJ
  refine w_ald1 hS0 dL_law_916 ?_
  refine w_ald0 hS0 dL_law_917 ?_
  refine w_ild4 hS0 dL_law_918 ?_
  refine w_iconst hS0 dL_law_920 ?_
  refine w_iadd hS0 dL_law_921 ?_
  refine w_sld hS0 hX (by omega) (by omega) hL dL_law_922 ?_
  refine w_callV (As := [.int (iZ (zs (i + 1).toNat))]) (st := []) (pc := 923) (q0 := 0) (ci := 7) hS0 rfl rfl lkL_115 (lfC (uM := (J, B)) (x := x) hOL (qX10_played hO ha.1 (hzs _) ⟨by have := hRP.2.1; have := hRP.1; omega, by have := hRP.2.1; have := hRP.1; omega⟩ (by have := c2.1; omega))) rfl rfl (by decide) (rOk_W (by decide) (by decide)) ⟨by show cl ≤ 601024; omega, by show sl ≤ 7293034; omega⟩ dL_law_923 (fun v u hp => ?_)
  obtain ⟨u2, ⟨r, rfl, hc9⟩, rfl⟩ := hp
  show JW l room_1 7 D _ X _ _ 926 _ [.int (iZ r)] _
  refine w_ald2 hS0 dL_law_926 ?_
  refine w_ald0 hS0 dL_law_927 ?_
  refine w_ild4 hS0 dL_law_928 ?_
  refine w_iconst hS0 dL_law_930 ?_
  refine w_iadd hS0 dL_law_931 ?_
  refine w_sld hS0 hX (by omega) (by omega) hL dL_law_932 ?_
  refine w_callV (As := [.int (iZ (zs (i + 1).toNat))]) (st := [.int (iZ r)]) (pc := 933) (q0 := 30) (ci := 8) hS0 rfl rfl lkL_118 (lfM (uC := u2) (x := x) hOL (qX11_played hO.1 (hzs _) ⟨by have := hRP.2.1; omega, by have := hRP.2.1; omega⟩ (by have := c2.1; omega))) rfl rfl (by show 1 ≤ 8; decide) (rOk_W (by decide) (by decide)) ⟨by show cl ≤ 601024; omega, by show sl ≤ 7293034; omega⟩ dL_law_933 (fun v u hp => ?_)
  obtain ⟨v2, ⟨b9, rfl, hb⟩, rfl⟩ := hp
  show JW l room_1 7 D _ X _ _ 936 _ [.int (iZ b9), .int (iZ r)] _
  obtain ⟨e1, e2⟩ := hc9
  obtain ⟨e3, e4⟩ := hb
  subst e2 e4
  have g1 : Rel (ad, I, A) (va_up J 0 0, B) := Rel_t hR
  have g3 : (ad, I, A).1 19 = ad 19 := rfl
  have g2 : r = b9 := by
    rw [e1, e3]
    obtain ⟨p1, p2, p3⟩ := hRP
    generalize zs (i + 1).toNat = z
    by_cases q1 : J 10 = -1
    · rw [if_pos (Or.inl (by omega)), if_pos (Or.inl q1)]; omega
    · by_cases q2 : z = -1
      · rw [if_pos (Or.inr q2), if_neg (by have := c2.1; omega), if_pos q2]; omega
      · rw [if_neg (by omega)]
        by_cases q3 : 0 ≤ z ∧ z < J 6
        · rw [if_pos (by omega), if_neg (by omega), if_neg q2]
          have := p3 q1 z.toNat (by omega)
          rw [Int.toNat_of_nonneg q3.1] at this
          exact this
        · rw [if_neg (by omega), if_pos (by omega)]
  subst g2
  exact w_icmp_eqS (tgt := 1010) hS0 dL_law_936 (by decide) (w_widen (Nat.le_succ cl) (Nat.le_add_right sl 6) (kn _ _ x a5 a6 g1 g3))
set_option maxHeartbeats 4000000 in
theorem lc_guess {l : Launch} {D : va_G} {cI cJ : ClassId} {adM : Nat → Nat} {bo : Nat} {O : OT} {adK adV : Nat → Nat} {tT : Nat} {X : CtxT} {b L : Nat} {zs : Nat → Int} {cl sl : Nat} {i : Int} {a5 a6 : Option Value} (hLK : LK l D cI cJ O adK adV tT X b L zs) (hR0 : cl + 1 ≤ 601024 ∧ sl + 6 ≤ 7293034) (i0 : 0 ≤ i) (i1 : i + 6 ≤ L) {ad : Nat → Nat} {I : Nat → Int} {A : Nat → Int → Int} {J : Nat → Int} {B : Nat → Int → Int} {x : Int} (hR : Rel (ad, I, A) (J, B)) (kn : LN l D cI cJ adM bo X b (ad 19) i (cl + 1) (sl + 6)) : LJ l D cI cJ adM bo X b (ad 19) i a5 a6 cl sl 941 ((ad, I, A), (J, B), x) := by
  obtain ⟨hS0, hX, hL, hzs, hO, hT, hN, hl⟩ := hLK
  have hOL := hO.1.1
  have h0 := hR.1
  have hC := Rel0_C h0
  have hNN := Rel0_N h0
  have hRO := hR.2.1
  have hRH := hR.2.2.2
  have hRP := hR.2.2.1
  have hI9 := Rel0_I h0
  have hin9 := Rel0_inc h0
  dsimp only at h0 hC hNN hRO hRH hRP hI9 hin9
  obtain ⟨ha, ⟨i1_, i5, i6, i43, i42, i7, i121, i41⟩, ⟨b2, b5, b57, b7, b8⟩, ⟨t1, t2⟩, ⟨c1, c2⟩, ⟨n1, n2⟩, ⟨w1, w2, w3⟩⟩ := id h0
  unfold LJ
  refine w_ald1 hS0 dL_law_941 ?_
  refine w_callV (As := []) (st := []) (pc := 942) (q0 := 0) (ci := 7) hS0 rfl rfl lkL_119 (lfC (uM := (J, B)) (x := x) hOL (qX10_guess hO ha.1 hC)) rfl rfl (by decide) (rOk_W (by decide) (by decide)) ⟨by show cl ≤ 601024; omega, by show sl ≤ 7293034; omega⟩ dL_law_942 (fun v u hp => ?_)
  obtain ⟨u2, ⟨r, rfl, hc9⟩, rfl⟩ := hp
  show JW l room_1 7 D _ X _ _ 945 _ [.int (iZ r)] _
  refine w_ald2 hS0 dL_law_945 ?_
  refine w_callV (As := []) (st := [.int (iZ r)]) (pc := 946) (q0 := 30) (ci := 8) hS0 rfl rfl lkL_122 (lfM (uC := u2) (x := x) hOL (qX11_guess hO.1 c2)) rfl rfl (by show 1 ≤ 8; decide) (rOk_W (by decide) (by decide)) ⟨by show cl ≤ 601024; omega, by show sl ≤ 7293034; omega⟩ dL_law_946 (fun v u hp => ?_)
  obtain ⟨v2, ⟨b9, rfl, hb⟩, rfl⟩ := hp
  show JW l room_1 7 D _ X _ _ 949 _ [.int (iZ b9), .int (iZ r)] _
  obtain ⟨e1, e2⟩ := hc9
  obtain ⟨e3, e4⟩ := hb
  subst e2 e4
  have g1 : Rel (ad, I, A) (va_up J 0 0, B) := Rel_t hR
  have g3 : (ad, I, A).1 19 = ad 19 := rfl
  have g2 : r = b9 := by
    rw [e1, e3]
    exact congrArg Prod.fst (gsN_cg (fun k => by rw [i43]; exact fitN_cg _ (fun j j0 j1 => (Rel0_ts h0 j0 (by have := c2.1; omega)).1)) 13)
  subst g2
  exact w_icmp_eqS (tgt := 1010) hS0 dL_law_949 (by decide) (w_widen (Nat.le_succ cl) (Nat.le_add_right sl 6) (kn _ _ x a5 a6 g1 g3))
set_option maxHeartbeats 4000000 in
theorem lc_count {l : Launch} {D : va_G} {cI cJ : ClassId} {adM : Nat → Nat} {bo : Nat} {O : OT} {adK adV : Nat → Nat} {tT : Nat} {X : CtxT} {b L : Nat} {zs : Nat → Int} {cl sl : Nat} {i : Int} {a5 a6 : Option Value} (hLK : LK l D cI cJ O adK adV tT X b L zs) (hR0 : cl + 1 ≤ 601024 ∧ sl + 6 ≤ 7293034) (i0 : 0 ≤ i) (i1 : i + 6 ≤ L) {ad : Nat → Nat} {I : Nat → Int} {A : Nat → Int → Int} {J : Nat → Int} {B : Nat → Int → Int} {x : Int} (hR : Rel (ad, I, A) (J, B)) (kn : LN l D cI cJ adM bo X b (ad 19) i (cl + 1) (sl + 6)) : LJ l D cI cJ adM bo X b (ad 19) i a5 a6 cl sl 954 ((ad, I, A), (J, B), x) := by
  obtain ⟨hS0, hX, hL, hzs, hO, hT, hN, hl⟩ := hLK
  have hOL := hO.1.1
  have h0 := hR.1
  have hC := Rel0_C h0
  have hNN := Rel0_N h0
  have hRO := hR.2.1
  have hRH := hR.2.2.2
  have hRP := hR.2.2.1
  have hI9 := Rel0_I h0
  have hin9 := Rel0_inc h0
  dsimp only at h0 hC hNN hRO hRH hRP hI9 hin9
  obtain ⟨ha, ⟨i1_, i5, i6, i43, i42, i7, i121, i41⟩, ⟨b2, b5, b57, b7, b8⟩, ⟨t1, t2⟩, ⟨c1, c2⟩, ⟨n1, n2⟩, ⟨w1, w2, w3⟩⟩ := id h0
  unfold LJ
  refine w_ald1 hS0 dL_law_954 ?_
  refine w_ald0 hS0 dL_law_955 ?_
  refine w_ild4 hS0 dL_law_956 ?_
  refine w_iconst hS0 dL_law_958 ?_
  refine w_iadd hS0 dL_law_959 ?_
  refine w_sld hS0 hX (by omega) (by omega) hL dL_law_960 ?_
  refine w_ald3 hS0 dL_law_961 ?_
  refine w_callW (As := [.ref (ad 19), .int (iZ (zs (i + 1).toNat)), .ref bo]) (st := []) (pc := 962) hS0 lkW_L_count (fL_count hO hT hN hl (hzs _) hR) rfl rfl (by decide) ⟨rfl, rfl, by decide, by decide⟩ hR0 dL_law_962 (fun v u hp => ?_)
  obtain ⟨k, rfl, u2, r, rfl, hk, h19, hF⟩ := hp
  show JW l room_1 7 D _ X _ _ 965 _ [.int (iZ k)] _
  refine w_ist5 hS0 dL_law_965 (by decide) ?_
  refine w_ald2 hS0 dL_law_967 ?_
  refine w_ald0 hS0 dL_law_968 ?_
  refine w_ild4 hS0 dL_law_969 ?_
  refine w_iconst hS0 dL_law_971 ?_
  refine w_iadd hS0 dL_law_972 ?_
  refine w_sld hS0 hX (by omega) (by omega) hL dL_law_973 ?_
  refine w_callV (As := [.int (iZ (zs (i + 1).toNat))]) (st := []) (pc := 974) (q0 := 30) (ci := 8) hS0 rfl rfl lkL_125 (lfM (uC := u2) (x := r) hOL (qX11_count hO.1 (hzs _) hRO.2.1)) rfl rfl (by decide) (rOk_W (by decide) (by decide)) ⟨by show cl + 1 ≤ 601024; omega, by show sl + 6 ≤ 7293034; omega⟩ dL_law_974 (fun v u hp => ?_)
  obtain ⟨⟨J2, B2⟩, ⟨b9, rfl, hb⟩, rfl⟩ := hp
  obtain ⟨g1, g2, g3⟩ := hF b9 (J2, B2) hb
  dsimp only at g2
  show JW l room_1 7 D _ X _ _ 977 _ [.int (iZ b9)] _
  refine w_ist6 hS0 dL_law_977 (by decide) ?_
  refine w_ald2 hS0 dL_law_979 ?_
  refine w_callV (As := []) (st := []) (pc := 980) (q0 := 30) (ci := 8) hS0 rfl rfl lkL_67 (lfM (uC := u2) (x := r) hOL (qX11_thrown hO.1)) rfl rfl (by decide) (rOk_W (by decide) (by decide)) ⟨by show cl + 1 ≤ 601024; omega, by show sl + 6 ≤ 7293034; omega⟩ dL_law_980 (fun v u hp => ?_)
  obtain ⟨v3, ⟨t9, rfl, ht9, rfl⟩, rfl⟩ := hp
  rw [g2] at ht9
  subst ht9
  show JW l room_1 7 D _ X _ _ 983 _ [.int (iZ t9)] _
  refine w_ild5 hS0 dL_law_983 ?_
  refine w_icmp_eqS (tgt := 990) hS0 dL_law_985 (by decide) ?_
  refine w_ild5 hS0 dL_law_990 ?_
  have kg : ∀ st5 st6 x9, LJ l D cI cJ adM bo X b (ad 19) i st5 st6 (cl + 1) (sl + 6) 1007 (u2, (J2, B2), x9) := fun st5 st6 x9 => w_goto (tgt := 1010) hS0 dL_law_1007 (by decide) (kn u2 (J2, B2) x9 st5 st6 g1 h19)
  refine w_if_ne (tgt := 1007) hS0 dL_law_992 (by decide) ⟨by omega, by omega⟩ (fun _ => kg _ _ _) (fun e0 => ?_)
  have g4 := g3 e0
  subst g4
  refine w_ald3 hS0 dL_law_995 ?_
  refine w_iconst hS0 dL_law_996 ?_
  refine w_lald hS0 dL_law_997 ?_
  refine w_ild6 hS0 dL_law_998 ?_
  refine w_i2l hS0 dL_law_1000 ?_
  refine w_lcmpE hS0 dL_law_1001 ?_
  exact w_if_eq (tgt := 1007) hS0 dL_law_1002 (by decide) inR_0 (fun _ => kg _ _ _) (fun q => absurd rfl q)
set_option maxHeartbeats 4000000 in
theorem law_loop {l : Launch} {D : va_G} {cI cJ : ClassId} {adM : Nat → Nat} {bo : Nat} {O : OT} {adK adV : Nat → Nat} {tT : Nat} {X : CtxT} {b L : Nat} {zs : Nat → Int} (hLK : LK l D cI cJ O adK adV tT X b L zs) {h : Nat} (hend : ∀ (cl sl : Nat) (lv : List (Option Value)) (u : sL), cl ≤ 601024 → sl ≤ 7293034 → JW l room_1 7 D (wL adM bo cI cJ) X cl sl 1016 lv [] u) : ∀ (n : Nat) (cl sl : Nat) (i : Int) (a5 a6 : Option Value) (uC : sC) (uM : sM) (x : Int), 0 ≤ i → i ≤ 4000 → (L : Int) ≤ i + n → cl + n ≤ 601024 → sl + 6 * n ≤ 7293034 → Rel uC uM → uC.1 19 = h → LJ l D cI cJ adM bo X b h i a5 a6 cl sl 23 (uC, uM, x) := by
  intro n
  induction n with
  | zero =>
    intro cl sl i a5 a6 uC uM x i0 i9 i1 hc hs hR h19
    have hLK2 := id hLK
    obtain ⟨hS0, hX, hL, hzs, -⟩ := hLK2
    unfold LJ
    refine w_ild4 hS0 dL_law_23 ?_
    refine w_ald0 hS0 dL_law_25 ?_
    refine w_slen hS0 hX dL_law_26 ?_
    refine w_bipush hS0 dL_law_27 (by decide) ?_
    refine w_isub hS0 dL_law_29 ?_
    exact w_icmp_gt (tgt := 1016) hS0 dL_law_30 (by decide) ⟨by omega, by omega⟩ ⟨by omega, by omega⟩ (fun _ => hend _ _ _ _ (by omega) (by omega)) (fun q => absurd q (by omega))
  | succ n ih =>
    intro cl sl i a5 a6 uC uM x i0 i9 i1 hc hs hR h19
    have hLK2 := id hLK
    obtain ⟨hS0, hX, hL, hzs, -⟩ := hLK2
    unfold LJ
    refine w_ild4 hS0 dL_law_23 ?_
    refine w_ald0 hS0 dL_law_25 ?_
    refine w_slen hS0 hX dL_law_26 ?_
    refine w_bipush hS0 dL_law_27 (by decide) ?_
    refine w_isub hS0 dL_law_29 ?_
    refine w_icmp_gt (tgt := 1016) hS0 dL_law_30 (by decide) ⟨by omega, by omega⟩ ⟨by omega, by omega⟩ (fun _ => hend _ _ _ _ (by omega) (by omega)) (fun q => ?_)
    have q1 : i + 6 ≤ L := by omega
    refine w_ald0 hS0 dL_law_33 ?_
    refine w_ild4 hS0 dL_law_34 ?_
    refine w_sld hS0 hX (by omega) (by omega) hL dL_law_36 ?_
    refine w_bipush hS0 dL_law_37 (by decide) ?_
    refine w_iand hS0 dL_law_39 ?_
    have hz := zand_31 (zs i.toNat)
    generalize zand (zs i.toNat) 31 = z at hz ⊢
    have kn : LN l D cI cJ adM bo X b h i (cl + 1) (sl + 6) := fun uC uM x a5 a6 hR h19 => by
      unfold LJ
      refine w_inc4 hS0 dL_law_1010 (by decide) ?_
      refine w_goto (tgt := 23) hS0 dL_law_1013 (by decide) ?_
      exact ih (cl + 1) (sl + 6) (i + 6) a5 a6 uC uM x (by omega) (by omega) (by omega) (by omega) (by omega) hR h19
    by_cases zo : 17 < z
    · exact w_tableOut (tgt := 1010) hS0 dL_law_40 ⟨by omega, by omega⟩ (Or.inr zo) (by decide) (w_widen (Nat.le_succ cl) (Nat.le_add_right sl 6) (kn uC uM x a5 a6 hR h19))
    · obtain ⟨ad, I, A⟩ := uC
      obtain ⟨J, B⟩ := uM
      dsimp only at h19
      subst h19
      have zz : z = 0 ∨ z = 1 ∨ z = 2 ∨ z = 3 ∨ z = 4 ∨ z = 5 ∨ z = 6 ∨ z = 7 ∨ z = 8 ∨ z = 9 ∨ z = 10 ∨ z = 11 ∨ z = 12 ∨ z = 13 ∨ z = 14 ∨ z = 15 ∨ z = 16 ∨ z = 17 := by omega
      rcases zz with rfl | rfl | rfl | rfl | rfl | rfl | rfl | rfl | rfl | rfl | rfl | rfl | rfl | rfl | rfl | rfl | rfl | rfl
      · exact w_tableIn (tgt := 128) hS0 dL_law_40 ⟨by decide, by decide⟩ (by decide) (by decide) rfl (by decide) (lc_feed hLK ⟨by omega, by omega⟩ i0 q1 hR kn)
      · exact w_tableIn (tgt := 201) hS0 dL_law_40 ⟨by decide, by decide⟩ (by decide) (by decide) rfl (by decide) (lc_song hLK ⟨by omega, by omega⟩ i0 q1 hR kn)
      · exact w_tableIn (tgt := 257) hS0 dL_law_40 ⟨by decide, by decide⟩ (by decide) (by decide) rfl (by decide) (lc_fault hLK ⟨by omega, by omega⟩ i0 q1 hR kn)
      · exact w_tableIn (tgt := 313) hS0 dL_law_40 ⟨by decide, by decide⟩ (by decide) (by decide) rfl (by decide) (lc_key hLK ⟨by omega, by omega⟩ i0 q1 hR kn)
      · exact w_tableIn (tgt := 369) hS0 dL_law_40 ⟨by decide, by decide⟩ (by decide) (by decide) rfl (by decide) (lc_move hLK ⟨by omega, by omega⟩ i0 q1 hR kn)
      · exact w_tableIn (tgt := 425) hS0 dL_law_40 ⟨by decide, by decide⟩ (by decide) (by decide) rfl (by decide) (lc_chord hLK ⟨by omega, by omega⟩ i0 q1 hR kn)
      · exact w_tableIn (tgt := 493) hS0 dL_law_40 ⟨by decide, by decide⟩ (by decide) (by decide) rfl (by decide) (lc_name hLK ⟨by omega, by omega⟩ i0 q1 hR kn)
      · exact w_tableIn (tgt := 549) hS0 dL_law_40 ⟨by decide, by decide⟩ (by decide) (by decide) rfl (by decide) (lc_write hLK ⟨by omega, by omega⟩ i0 q1 hR kn)
      · exact w_tableIn (tgt := 562) hS0 dL_law_40 ⟨by decide, by decide⟩ (by decide) (by decide) rfl (by decide) (lc_told hLK ⟨by omega, by omega⟩ i0 q1 hR kn)
      · exact w_tableIn (tgt := 618) hS0 dL_law_40 ⟨by decide, by decide⟩ (by decide) (by decide) rfl (by decide) (lc_string hLK ⟨by omega, by omega⟩ i0 q1 hR kn)
      · exact w_tableIn (tgt := 674) hS0 dL_law_40 ⟨by decide, by decide⟩ (by decide) (by decide) rfl (by decide) (lc_unstring hLK ⟨by omega, by omega⟩ i0 q1 hR kn)
      · exact w_tableIn (tgt := 687) hS0 dL_law_40 ⟨by decide, by decide⟩ (by decide) (by decide) rfl (by decide) (lc_hands hLK ⟨by omega, by omega⟩ i0 q1 hR kn)
      · exact w_tableIn (tgt := 755) hS0 dL_law_40 ⟨by decide, by decide⟩ (by decide) (by decide) rfl (by decide) (lc_fret hLK ⟨by omega, by omega⟩ i0 q1 hR kn)
      · exact w_tableIn (tgt := 847) hS0 dL_law_40 ⟨by decide, by decide⟩ (by decide) (by decide) rfl (by decide) (lc_play hLK ⟨by omega, by omega⟩ i0 q1 hR kn)
      · exact w_tableIn (tgt := 903) hS0 dL_law_40 ⟨by decide, by decide⟩ (by decide) (by decide) rfl (by decide) (lc_easiest hLK ⟨by omega, by omega⟩ i0 q1 hR kn)
      · exact w_tableIn (tgt := 916) hS0 dL_law_40 ⟨by decide, by decide⟩ (by decide) (by decide) rfl (by decide) (lc_played hLK ⟨by omega, by omega⟩ i0 q1 hR kn)
      · exact w_tableIn (tgt := 941) hS0 dL_law_40 ⟨by decide, by decide⟩ (by decide) (by decide) rfl (by decide) (lc_guess hLK ⟨by omega, by omega⟩ i0 q1 hR kn)
      · exact w_tableIn (tgt := 954) hS0 dL_law_40 ⟨by decide, by decide⟩ (by decide) (by decide) rfl (by decide) (lc_count hLK ⟨by omega, by omega⟩ i0 q1 hR kn)
theorem Rel_first {ad : Nat → Nat} {F : Int → Int} (h : ad 3 = ad 59 ∧ ad 4 = ad 79) : Rel (ad, I0, A0 F) (J0, B0) := by
  have no : ∀ {P : Prop} (j : Int), 0 ≤ j → j < 0 → P := fun j a b => absurd a (by omega)
  refine ⟨⟨h, ⟨rfl, rfl, rfl, rfl, rfl, rfl, rfl, rfl⟩, ⟨⟨by decide, by decide⟩, Or.inl rfl, fun _ => rfl, ⟨by decide, by decide⟩, by decide, by decide⟩, ⟨rfl, fun j a b => no j a b⟩, ⟨fun j a b => no j a b, ⟨by decide, by decide⟩, fun j a b => no j a b⟩, ⟨rfl, ⟨by decide, by decide⟩, fun j a b => no j a b⟩, ⟨fun j a b => no j a b, ⟨⟨by decide, by decide⟩, fun j a b => no j a b, rfl⟩, fun j k a jk b => no k (by omega) b⟩⟩, ⟨rfl, ⟨by decide, by decide⟩, fun j a b => no j a b⟩, ⟨rfl, ⟨by decide, by decide⟩, fun q => absurd rfl q⟩, fun i bar a b => no i a b, fun i bar a b => no i a b⟩
