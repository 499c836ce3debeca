def rX (b : Nat) : Room := { frames := b, cells := 1, slots := 6, locals := 40 * b }
theorem rOk_X {a b n : Nat} (h : a < b) (hn : n ≤ 21) : rOk (rL a) (rX b) n := ⟨rfl, rfl, h, by show 8 + (n + 11) + 40 * a ≤ 40 * b; omega⟩
def xTxt : List (Nat × String) := [(78, "the tape has not so many bytes"), (101, "a fault has no such number"), (104, "a key is -7 to 7"), (109, "a move is -11 to 11"), (124, "there is no such chord"), (142, "a chord has no such number"), (159, "no such byte is kept"), (164, "a pitch is 0 to 60"), (175, "a bar is at 0 to 7"), (187, "there is no such hand"), (189, "there is no such string"), (228, "nothing is counted under this number")]
/-- words of the tables that are carried beside the others -/
def xFace : List Cond := [.castable "java/lang/IllegalArgumentException" "java/lang/IllegalArgumentException", .castable "java/util/NoSuchElementException" "java/util/NoSuchElementException", .declares (Bundle.initS "java/lang/RuntimeException"), .declares (Bundle.initS "java/lang/Exception"), .declares (Bundle.initS "java/lang/Throwable")]
theorem xFace_ot : ∀ w ∈ xFace, w.onTables = true := by decide +kernel
/-- what lies outside, for throws -/
def OGT (O : OT) : Prop := ∀ (A : Nat → Prop) (U : State) (H : Heap), O A U H → vx_Zq Bundle.tN "UNASSIGNED_STACK" Bundle.steD A U H ∧ vx_Zq Bundle.tN "SUPPRESSED_SENTINEL" Bundle.listD A U H ∧ (∀ q ∈ xTxt, ∃ a, vk_R RX10 q.1 q.2 a U) ∧ ∀ w ∈ xFace, va_Nw w U
section TXC
variable {σ : Type}
def cX (D : va_G) (tys : List (ClassId × FieldType)) (wld : σ → va_W) (A : Nat → Prop) (E : String) (px : σ → Prop) : String → State → State → Prop := vx_X px (fun E2 (u2 : σ) t => E2 = E ∧ va_P D vwCl (wld u2) t.heap ∧ va_K D vwCl tys t ∧ va_D A (wld u2)) A
def qX (A : Nat → Prop) : Array Value → State → Outcome → State → Prop := va_Qi (fun (_ : Int32) (_ : Unit) => False) (fun _ _ => True) A
/-- a contract: in the world at u the method y throws E, the world is then as px says -/
def CtX (l : Launch) (y : MethodName) (cc : ByteArray) (n : Nat) (rt : Option FieldType) (rm : Room) (D : va_G) (tys : List (ClassId × FieldType)) (O : OT) (wld : σ → va_W) (as : List Value) (u : σ) (E : String) (px : σ → Prop) : Prop :=
  ∀ sz : Nat, vx_Met l y (Cond.code y cc n rt :: gw) rm (va_Pc as (fun U => U.heap.size = sz ∧ va_P D vwCl (wld u) U.heap ∧ va_K D vwCl tys U ∧ va_D (fun _ => True) (wld u) ∧ O (va_A (wld u) sz) U U.heap)) (qX (va_A (wld u) sz)) (cX D tys wld (va_A (wld u) sz) E px) 1 6 (va_A (wld u) sz)
def TX (D : va_G) (tys : List (ClassId × FieldType)) (wld : σ → va_W) (E : String) (px : σ → Prop) (X : CtxT) : Prop := match X with
  | (_, _, s, _, args, below, _, c, A, Q) => (∀ x ∈ c.exceptionTable.toList, False) ∧ ∀ t, vx_MQ below (qX A) (cX D tys wld A E px) args s 1 6 A t → Q t
set_option maxHeartbeats 4000000 in
theorem ctx_intro {l : Launch} {rm : Room} {cc : ByteArray} {n : Nat} {own : String} {rt : Option FieldType} {D : va_G} {tys : List (ClassId × FieldType)} {O : OT} {wld : σ → va_W} {E : String} {px : σ → Prop} {y : MethodName} {as : List Value} {u : σ} (hy : plainName y.cls = true) (hyc : y.cls = own) (hOL : OL O) (has : as.length ≤ n) (hcat : ∀ v ∈ as, v.category = 1)
    (h : ∀ (X : CtxT) (J : KT σ), Snd l rm cc n own rt D tys O wld (fun _ _ => False) X J → TX D tys wld E px X → J 0 (as.map some ++ List.replicate (n - as.length) none) [] u) : CtX l y cc n rt rm D tys O wld as u E px := by
  intro sz
  refine vx_ofW (cc := cc) (maxL := n) (ret := rt) hy rfl ?_
  intro p e s m args below meth c s₁ B hml ht hv
  obtain ⟨rfl, hsz, hP, hK, hD0, hO⟩ := hv
  have hts := atoms_spec (ws := Cond.code y cc n rt :: gw) B.pre
  have hown : s.vm.findClass own = some m.cls := by rw [← hyc]; exact findClass_of_methodNamed B.named
  subst hsz
  rw [lg_entry_eq]
  have key := h (p, e, s, m, as.toArray, below, meth, c, va_A (wld u) s.heap.size, vx_MQ below (qX (va_A (wld u) s.heap.size)) (cX D tys wld (va_A (wld u) s.heap.size) E px) as.toArray s 1 6 (va_A (wld u) s.heap.size)) (fun pc lv st u' => ∀ (H : Heap) (locs : List Loc) (ls : Array Slot), va_P D vwCl (wld u') H → va_D (va_A (wld u) s.heap.size) (wld u') → va_S (va_A (wld u) s.heap.size) s.heap H locs → lvH ls n lv → W p l e rm s m as.toArray below meth c H locs 0 0 (vx_MQ below (qX (va_A (wld u) s.heap.size)) (cX D tys wld (va_A (wld u) s.heap.size) E px) as.toArray s 1 6 (va_A (wld u) s.heap.size)) (F0 m pc ls st))
    ⟨B.exec, B.bytes, hml, hown, fun w hw => hts w (List.mem_cons_of_mem _ hw), B.returns, B.notSynchronized, hK, fun q hq => Or.inr hq, hOL, hO, fun t h => by obtain ⟨o, -, -, ⟨⟨-, -, -, hf, -⟩, -⟩, -⟩ := h; exact hf.elim, fun _ _ _ _ => Iff.rfl⟩
    ⟨ht, fun _ h => h⟩
  exact key s.heap [] _ hP hD0.self va_S.rf (lv_start as n has hcat)
variable {l : Launch} {R : Room} {cc : ByteArray} {nL : Nat} {own : String} {rt : Option FieldType} {D : va_G} {tys : List (ClassId × FieldType)} {O : OT} {wld : σ → va_W} {post : Option Value → σ → Prop} {X : CtxT} {J : KT σ}
variable {pc : Nat} {lv : List (Option Value)} {st : List Value} {u : σ}
theorem gw_ot {w : Cond} (h : w ∈ gw) : vx_ot w = true := by
  unfold vx_ot
  rw [(List.mem_filter.mp h).2, Bool.or_true]
theorem v_throw (hJ : Snd l R cc nL own rt D tys O wld post X J) {cls YS text : String} {names : List String} {ik is ic ix : Nat} {rx : ByteArray} {px : σ → Prop} (hX : TX D tys wld cls px X) (hl : l.stackTraces = false)
    (hT : ∀ (A : Nat → Prop) (U : State) (H : Heap), O A U H → vx_Zq Bundle.tN "UNASSIGNED_STACK" Bundle.steD A U H ∧ vx_Zq Bundle.tN "SUPPRESSED_SENTINEL" Bundle.listD A U H ∧ (∃ a, vk_R own is text a U) ∧ ∀ w ∈ xFace, va_Nw w U)
    (x0 : decode rx 0 = .ok (.aload_n 0, 1)) (x1 : decode rx 1 = .ok (.aload_n 1, 1)) (x2 : decode rx 2 = .ok (.invokespecial ix, 3)) (x5 : decode rx 5 = .ok (.return_, 1)) (hcls : Bundle.fit cls = true) (hY : Bundle.fit YS = true) (hnames : ∀ n ∈ names, Bundle.fit n = true)
    (hk : Cond.classLink own ik cls ∈ gw) (hini : Cond.initialized cls ∈ gw) (hat : ∀ w ∈ tx_at own ic cls YS ix rx names, w ∈ gw ∨ w ∈ xFace)
    (hRf : names.length + 4 < R.frames) (hRl : (st.map fun v => v.category).sum + (13 * (names.length + 2) + 43) ≤ R.locals) (hRc : 1 ≤ R.cells ∧ 6 ≤ R.slots)
    (d0 : decode cc pc = .ok (.new ik, 3)) (d3 : decode cc (pc + 3) = .ok (.dup, 1)) (d4 : decode cc (pc + 4) = .ok (.ldc is, 2)) (d6 : decode cc (pc + 6) = .ok (.invokespecial ic, 3)) (d9 : decode cc (pc + 9) = .ok (.athrow, 1)) (hpx : px u) : J pc lv st u := by
  obtain ⟨p, e, s, m, args, below, meth, c, A, Q⟩ := X
  obtain ⟨hx, hb, hml, hown, hts, hr, hlk, hK, hA, hOL, hO, hQ, hW⟩ := hJ
  obtain ⟨hX1, hX2⟩ := hX
  refine (hW _ _ _ _).mpr (fun H locs ls hP hD hS hl9 => ?_)
  obtain ⟨t1, t2, ⟨sa, t3⟩, t4⟩ := hT A s s.heap hO
  have key := tx_throwS (p := p) (e := e) (R := R) (m := m) (args := args) (below := below) (meth := meth) (H := H) (locs := locs) (cells := 0) (slots := 0) (ls := ls) (rest := st) (Qc := qX A) (XC := cX D tys wld A cls px) (free := A) (mc := 1) (ms := 6) (A := A) (pc := pc) hx hb hl x0 x1 x2 x5 hown hcls hY hnames (hts _ hk) (hts _ hini) t3 (fun w hw => (hat w hw).elim (fun h => hts w h) (fun h => va_Nw.use (xFace_ot w h) (t4 w h))) (fun w hw => by
      rcases List.mem_cons.mp hw with rfl | hw
      · exact gw_ot hk
      · rcases List.mem_cons.mp hw with rfl | hw
        · exact gw_ot hini
        · exact (hat w hw).elim gw_ot (fun h => by unfold vx_ot; rw [xFace_ot w h, Bool.true_or])) t1 t2 hS (by rw [hml]; exact hl9.1) d0 d3 d4 d6 d9 (fun x h => (hX1 x h).elim) hRf hRl (by omega) (by omega) hlk
      (fun t hal hsz hq => ⟨u, hpx, ⟨rfl, hP.kept (fun k x h => hq x.1 ((hP k x h).lt)), va_K.moved hal hK, hD⟩, Nat.le_trans hS.1 hsz, fun q h1 h2 => (hq q (Nat.lt_of_lt_of_le h1 hS.1)).trans (hS.2.1 q h1 h2)⟩) hS.2.2 (by decide) (by decide)
  intro T hT9 XX
  obtain ⟨t, a, b⟩ := key T hT9 XX
  exact ⟨t, a, hX2 t b⟩
/-- a call that throws, and nothing here catches it -/
theorem v_callX (hJ : Snd l R cc nL own rt D tys O wld post X J) {E : String} {px : σ → Prop} (hX : TX D tys wld E px X) {q0 ci N idx kn n' : Nat} {C : String} {T : u_T} {fs : List Value} {b : Nat} {y : MethodName} {cc' : ByteArray} {rt' : Option FieldType} {rm : Room} {As st0 : List Value} (he : (wld u)[q0]? = some (b, .inr (ci, fs))) (hc : vwCl[ci]? = some (C, T, N)) (lk : LkV own idx C y cc' n' rt' kn) (hM : CtX l y cc' n' rt' rm D tys O wld (.ref b :: As) u E px) (hkn : As.length = kn) (hst : st0 = As.reverse ++ .ref b :: st) (hroom : (st.map fun v => v.category).sum ≤ 8) (hrm : rm.cells = 1 ∧ rm.slots = 6 ∧ rm.frames + 1 ≤ R.frames ∧ 8 + (n' + 11) + rm.locals ≤ R.locals) (hRc : 1 ≤ R.cells ∧ 6 ≤ R.slots) (d : decode cc pc = .ok (.invokevirtual idx, 3)) : J pc lv st0 u := by
  obtain ⟨p, e, s, m, args, below, meth, c, A, Q⟩ := X
  obtain ⟨hx, hb, hml, hown, hts, hr, hlk, hK, hA, hOL, hO, hQ, hW⟩ := hJ
  obtain ⟨hX1, hX2⟩ := hX
  refine (hW _ _ _ _).mpr (fun H locs ls hP hD hS hl => ?_)
  have hF : ∀ q, va_A (wld u) H.size q → A q := by
    rintro q (⟨k9, e9, h9⟩ | h9)
    · exact hD.2 k9 _ h9
    · exact hA q (Nat.le_trans hS.1 h9)
  have key : W p l e R s m args below meth c H locs 0 0 (vx_MQ below (qX A) (cX D tys wld A E px) args s 1 6 A) (F0 m pc ls st0) := by
    refine vx_calli (vx_runV (As := As) (rest := st) (Ts := gw) (own := own) (b := b) ⟨hx, hb, hml, hown, hts⟩ (hM H.size) (cwV kn hts (lk_good lk.1) rfl hrm.1 hrm.2.1 lk.2 hrm.2.2) ⟨ct_blind hOL _, va_recv hK hP hc he, ct_pre (p := p) (e := e) (m := m) (args := args) (below := below) hK hOL hO hP hD hS hF _⟩ rfl hkn hl.1 hst (lv_room hroom) d ⟨by omega, by omega⟩) hS (fun q _ h => hF q h) hF (fun q _ h => hF q h) (fun E2 ce q9 u2 t H1 locs1 ht hal hpx hB hz hk hS1 hce hcv hcl => ?_) (fun r u2 t H1 locs1 ht hal hp => hp.elim)
    obtain ⟨rfl, hP2, hK2, hD2⟩ := hB
    rw [ht] at hP2
    exact vx_out (fun x h => (hX1 x h).elim) hlk hce hcv hcl (fun t2 ht2 hal2 => ⟨u2, hpx, ⟨rfl, by rw [ht2]; exact hP2, va_K.moved hal2 hK, hD2.weaken (fun _ _ _ h => hF _ h)⟩, hS1.F ht2⟩) hS1.2.2 (by omega) (by omega)
  intro T9 hT9 XX
  obtain ⟨t, a1, b1⟩ := key T9 hT9 XX
  exact ⟨t, a1, hX2 t b1⟩
end TXC
abbrev CX (l : Launch) (D : va_G) (cI : ClassId) (O : OT) (y : MethodName) (cc : ByteArray) (n : Nat) (rt : Option FieldType) (lev : Nat) (as : List Value) (u : sC) (E : String) (px : sC → Prop) : Prop := CtX l y cc n rt (rX lev) D [(cI, .int)] O (wC cI) as u E px
theorem nse_0 : decode prog_26_method_4_code 0 = .ok (.aload_n 0, 1) := by decide +kernel
theorem nse_1 : decode prog_26_method_4_code 1 = .ok (.aload_n 1, 1) := by decide +kernel
theorem nse_2 : decode prog_26_method_4_code 2 = .ok (.invokespecial 13, 3) := by decide +kernel
theorem nse_5 : decode prog_26_method_4_code 5 = .ok (.return_, 1) := by decide +kernel
theorem at_iae : ∀ w ∈ tx_at RX10 80 "java/lang/IllegalArgumentException" "java/lang/RuntimeException" 7 Bundle.six ["java/lang/Exception"], w ∈ gw ∨ w ∈ xFace := fun w h => by
  have h1 := List.all_eq_true.mp (show (tx_at RX10 80 "java/lang/IllegalArgumentException" "java/lang/RuntimeException" 7 Bundle.six ["java/lang/Exception"]).all (fun w => (decide (w ∈ lw_tbl) && goodWord w) || decide (w ∈ xFace)) = true by decide +kernel) w h
  simp only [Bool.or_eq_true, Bool.and_eq_true, decide_eq_true_eq] at h1
  exact h1.elim (fun h => Or.inl (gw_of h.1 h.2)) Or.inr
theorem kl_iae : Cond.classLink RX10 76 "java/lang/IllegalArgumentException" ∈ gw := gw_of (List.mem_of_getElem? (i := 586) (by decide +kernel)) (by decide +kernel)
theorem ki_iae : Cond.initialized "java/lang/IllegalArgumentException" ∈ gw := gw_of (List.mem_of_getElem? (i := 60) (by decide +kernel)) (by decide +kernel)
theorem th_iae {l : Launch} {lev : Nat} {cc : ByteArray} {nL : Nat} {rt : Option FieldType} {D : va_G} {tys : List (ClassId × FieldType)} {O : OT} {σ : Type} {wld : σ → va_W} {post : Option Value → σ → Prop} {X : CtxT} {J : KT σ} {pc : Nat} {lv : List (Option Value)} {u : σ} {px : σ → Prop} {is : Nat} {text : String} (hJ : Snd l (rX lev) cc nL RX10 rt D tys O wld post X J) (hX : TX D tys wld "java/lang/IllegalArgumentException" px X) (hl : l.stackTraces = false) (hT : OGT O) (hm : (is, text) ∈ xTxt) (hlev : 6 ≤ lev) (d0 : decode cc pc = .ok (.new 76, 3)) (d3 : decode cc (pc + 3) = .ok (.dup, 1)) (d4 : decode cc (pc + 4) = .ok (.ldc is, 2)) (d6 : decode cc (pc + 6) = .ok (.invokespecial 80, 3)) (d9 : decode cc (pc + 9) = .ok (.athrow, 1)) (hpx : px u) : J pc lv [] u :=
  v_throw (YS := "java/lang/RuntimeException") (names := ["java/lang/Exception"]) hJ hX hl (fun A U H h => ⟨(hT A U H h).1, (hT A U H h).2.1, (hT A U H h).2.2.1 (is, text) hm, (hT A U H h).2.2.2⟩) Bundle.six_0 Bundle.six_1 Bundle.six_2 Bundle.six_5 (by decide +kernel) (by decide +kernel) (by decide +kernel) kl_iae ki_iae at_iae (by show 1 + 4 < lev; omega) (by show 0 + (13 * (1 + 2) + 43) ≤ 40 * lev; omega) ⟨by show 1 ≤ 1; omega, by show 6 ≤ 6; omega⟩ d0 d3 d4 d6 d9 hpx
theorem at_nse : ∀ w ∈ tx_at RX10 103 "java/util/NoSuchElementException" "java/lang/RuntimeException" 13 prog_26_method_4_code ["java/lang/Exception"], w ∈ gw ∨ w ∈ xFace := fun w h => by
  have h1 := List.all_eq_true.mp (show (tx_at RX10 103 "java/util/NoSuchElementException" "java/lang/RuntimeException" 13 prog_26_method_4_code ["java/lang/Exception"]).all (fun w => (decide (w ∈ lw_tbl) && goodWord w) || decide (w ∈ xFace)) = true by decide +kernel) w h
  simp only [Bool.or_eq_true, Bool.and_eq_true, decide_eq_true_eq] at h1
  exact h1.elim (fun h => Or.inl (gw_of h.1 h.2)) Or.inr
theorem kl_nse : Cond.classLink RX10 99 "java/util/NoSuchElementException" ∈ gw := gw_of (List.mem_of_getElem? (i := 777) (by decide +kernel)) (by decide +kernel)
theorem ki_nse : Cond.initialized "java/util/NoSuchElementException" ∈ gw := gw_of (List.mem_of_getElem? (i := 69) (by decide +kernel)) (by decide +kernel)
theorem th_nse {l : Launch} {lev : Nat} {cc : ByteArray} {nL : Nat} {rt : Option FieldType} {D : va_G} {tys : List (ClassId × FieldType)} {O : OT} {σ : Type} {wld : σ → va_W} {post : Option Value → σ → Prop} {X : CtxT} {J : KT σ} {pc : Nat} {lv : List (Option Value)} {u : σ} {px : σ → Prop} {is : Nat} {text : String} (hJ : Snd l (rX lev) cc nL RX10 rt D tys O wld post X J) (hX : TX D tys wld "java/util/NoSuchElementException" px X) (hl : l.stackTraces = false) (hT : OGT O) (hm : (is, text) ∈ xTxt) (hlev : 6 ≤ lev) (d0 : decode cc pc = .ok (.new 99, 3)) (d3 : decode cc (pc + 3) = .ok (.dup, 1)) (d4 : decode cc (pc + 4) = .ok (.ldc is, 2)) (d6 : decode cc (pc + 6) = .ok (.invokespecial 103, 3)) (d9 : decode cc (pc + 9) = .ok (.athrow, 1)) (hpx : px u) : J pc lv [] u :=
  v_throw (YS := "java/lang/RuntimeException") (names := ["java/lang/Exception"]) hJ hX hl (fun A U H h => ⟨(hT A U H h).1, (hT A U H h).2.1, (hT A U H h).2.2.1 (is, text) hm, (hT A U H h).2.2.2⟩) nse_0 nse_1 nse_2 nse_5 (by decide +kernel) (by decide +kernel) (by decide +kernel) kl_nse ki_nse at_nse (by show 1 + 4 < lev; omega) (by show 0 + (13 * (1 + 2) + 43) ≤ 40 * lev; omega) ⟨by show 1 ≤ 1; omega, by show 6 ≤ 6; omega⟩ d0 d3 d4 d6 d9 hpx
set_option maxHeartbeats 4000000 in
set_option maxRecDepth 100000 in
theorem xX10_song {l : Launch} {D : va_G} {cI : ClassId} {O : OT} {adK adV : Nat → Nat} {tT : Nat} (hO : OGC O adK adV tT) (hT : OGT O) (hl : l.stackTraces = false) {ad : Nat → Nat} {I : Nat → Int} {A : Nat → Int → Int} {n : Int} (hn : inR n) (h1 : inR (I 1)) (hx : ¬ (0 ≤ n ∧ n ≤ I 1)) : CX l D cI O yX10_song cX10_song 3 (some .int) 6 [.ref (ad 19), .int (iZ n)] (ad, I, A) "java/lang/IllegalArgumentException" (fun u2 => u2 = (ad, I, A)) := by
  refine ctx_intro (own := RX10) (by decide) rfl hO.1.1 (Nat.le_of_ble_eq_true rfl) (by simp [Value.category]) (fun X J hJ hX => ?_)
  show J 0 [some (.ref (ad 19)), some (.int (iZ n)), none] [] (ad, I, A)
  refine v_ild1 (pc := 0) hJ dX10_song_0 ?_
  refine v_if_lt (tgt := 12) (pc := 1) hJ dX10_song_1 (by decide) (by omega) (fun h1 => ?_) (fun h1 => ?_)
  · exact th_iae (pc := 12) (text := "the tape has not so many bytes") hJ hX hl hT (List.mem_of_getElem? (i := 0) rfl) (by decide) dX10_song_12 dX10_song_15 dX10_song_16 dX10_song_18 dX10_song_21 rfl
  · refine v_ild1 (pc := 4) hJ dX10_song_4 ?_
    refine v_ald0 (pc := 5) hJ dX10_song_5 ?_
    refine cgX10_69 (pc := 6) hJ dX10_song_6 ?_
    refine v_icmp_le (tgt := 22) (pc := 9) hJ dX10_song_9 (by decide) (by omega) (by omega) (fun h9 => ?_) (fun h9 => ?_)
    · exfalso; omega
    · exact th_iae (pc := 12) (text := "the tape has not so many bytes") hJ hX hl hT (List.mem_of_getElem? (i := 0) rfl) (by decide) dX10_song_12 dX10_song_15 dX10_song_16 dX10_song_18 dX10_song_21 rfl
set_option maxHeartbeats 4000000 in
set_option maxRecDepth 100000 in
theorem xX10_fault {l : Launch} {D : va_G} {cI : ClassId} {O : OT} {adK adV : Nat → Nat} {tT : Nat} (hO : OGC O adK adV tT) (hT : OGT O) (hl : l.stackTraces = false) {ad : Nat → Nat} {I : Nat → Int} {A : Nat → Int → Int} {w : Int} (hw : inR w) (h0 : w ≠ 0) (h1 : w ≠ 1) : CX l D cI O yX10_fault cX10_fault 2 (some .int) 6 [.ref (ad 19), .int (iZ w)] (ad, I, A) "java/util/NoSuchElementException" (fun u2 => u2 = (ad, I, A)) := by
  refine ctx_intro (own := RX10) (by decide) rfl hO.1.1 (Nat.le_of_ble_eq_true rfl) (by simp [Value.category]) (fun X J hJ hX => ?_)
  show J 0 [some (.ref (ad 19)), some (.int (iZ w))] [] (ad, I, A)
  refine v_ild1 (pc := 0) hJ dX10_fault_0 ?_
  refine v_lookup (off := 37) (tgt := 38) (pc := 1) hJ dX10_fault_1 hw (by decide) (by show Op.lookupswitch.offset [(0, 27), (1, 32)] 37 w = 37; rw [Op.lookupswitch.offset_cons, if_neg (Ne.symm h0), Op.lookupswitch.offset_cons, if_neg (Ne.symm h1)]; rfl) (by decide) ?_
  exact th_nse (pc := 38) (text := "a fault has no such number") hJ hX hl hT (List.mem_of_getElem? (i := 1) rfl) (by decide) dX10_fault_38 dX10_fault_41 dX10_fault_42 dX10_fault_44 dX10_fault_47 rfl
set_option maxHeartbeats 4000000 in
set_option maxRecDepth 100000 in
theorem xX10_key {l : Launch} {D : va_G} {cI : ClassId} {O : OT} {adK adV : Nat → Nat} {tT : Nat} (hO : OGC O adK adV tT) (hT : OGT O) (hl : l.stackTraces = false) {ad : Nat → Nat} {I : Nat → Int} {A : Nat → Int → Int} {k : Int} (hk : inR k) (hx : ¬ (-7 ≤ k ∧ k ≤ 7)) : CX l D cI O yX10_key cX10_key 3 (some .int) 6 [.ref (ad 19), .int (iZ k)] (ad, I, A) "java/lang/IllegalArgumentException" (fun u2 => u2 = (ad, I, A)) := by
  refine ctx_intro (own := RX10) (by decide) rfl hO.1.1 (Nat.le_of_ble_eq_true rfl) (by simp [Value.category]) (fun X J hJ hX => ?_)
  show J 0 [some (.ref (ad 19)), some (.int (iZ k)), none] [] (ad, I, A)
  refine v_ild1 (pc := 0) hJ dX10_key_0 ?_
  refine v_bipush (pc := 1) hJ dX10_key_1 (by decide) ?_
  refine v_icmp_lt (tgt := 12) (pc := 3) hJ dX10_key_3 (by decide) (by omega) (by omega) (fun h3 => ?_) (fun h3 => ?_)
  · exact th_iae (pc := 12) (text := "a key is -7 to 7") hJ hX hl hT (List.mem_of_getElem? (i := 2) rfl) (by decide) dX10_key_12 dX10_key_15 dX10_key_16 dX10_key_18 dX10_key_21 rfl
  · refine v_ild1 (pc := 6) hJ dX10_key_6 ?_
    refine v_bipush (pc := 7) hJ dX10_key_7 (by decide) ?_
    refine v_icmp_le (tgt := 22) (pc := 9) hJ dX10_key_9 (by decide) (by omega) (by omega) (fun h9 => ?_) (fun h9 => ?_)
    · exfalso; omega
    · exact th_iae (pc := 12) (text := "a key is -7 to 7") hJ hX hl hT (List.mem_of_getElem? (i := 2) rfl) (by decide) dX10_key_12 dX10_key_15 dX10_key_16 dX10_key_18 dX10_key_21 rfl
set_option maxHeartbeats 4000000 in
set_option maxRecDepth 100000 in
theorem xX10_move {l : Launch} {D : va_G} {cI : ClassId} {O : OT} {adK adV : Nat → Nat} {tT : Nat} (hO : OGC O adK adV tT) (hT : OGT O) (hl : l.stackTraces = false) {ad : Nat → Nat} {I : Nat → Int} {A : Nat → Int → Int} {n : Int} (hn : inR n) (hx : ¬ (-11 ≤ n ∧ n ≤ 11)) : CX l D cI O yX10_move cX10_move 3 (some .int) 6 [.ref (ad 19), .int (iZ n)] (ad, I, A) "java/lang/IllegalArgumentException" (fun u2 => u2 = (ad, I, A)) := by
  refine ctx_intro (own := RX10) (by decide) rfl hO.1.1 (Nat.le_of_ble_eq_true rfl) (by simp [Value.category]) (fun X J hJ hX => ?_)
  show J 0 [some (.ref (ad 19)), some (.int (iZ n)), none] [] (ad, I, A)
  refine v_ild1 (pc := 0) hJ dX10_move_0 ?_
  refine v_bipush (pc := 1) hJ dX10_move_1 (by decide) ?_
  refine v_icmp_lt (tgt := 12) (pc := 3) hJ dX10_move_3 (by decide) (by omega) (by omega) (fun h3 => ?_) (fun h3 => ?_)
  · exact th_iae (pc := 12) (text := "a move is -11 to 11") hJ hX hl hT (List.mem_of_getElem? (i := 3) rfl) (by decide) dX10_move_12 dX10_move_15 dX10_move_16 dX10_move_18 dX10_move_21 rfl
  · refine v_ild1 (pc := 6) hJ dX10_move_6 ?_
    refine v_bipush (pc := 7) hJ dX10_move_7 (by decide) ?_
    refine v_icmp_le (tgt := 22) (pc := 9) hJ dX10_move_9 (by decide) (by omega) (by omega) (fun h9 => ?_) (fun h9 => ?_)
    · exfalso; omega
    · exact th_iae (pc := 12) (text := "a move is -11 to 11") hJ hX hl hT (List.mem_of_getElem? (i := 3) rfl) (by decide) dX10_move_12 dX10_move_15 dX10_move_16 dX10_move_18 dX10_move_21 rfl
set_option maxHeartbeats 4000000 in
set_option maxRecDepth 100000 in
theorem xX10_chorda {l : Launch} {D : va_G} {cI : ClassId} {O : OT} {adK adV : Nat → Nat} {tT : Nat} (hO : OGC O adK adV tT) (hT : OGT O) (hl : l.stackTraces = false) {ad : Nat → Nat} {I : Nat → Int} {A : Nat → Int → Int} {i w : Int} (h3 : ad 3 = ad 59) (h43 : 0 ≤ I 43 ∧ I 43 ≤ 60) (hi : inR i) (hx : ¬ (0 ≤ i ∧ i < I 43)) : CX l D cI O yX10_chord cX10_chord 3 (some .int) 6 [.ref (ad 19), .int (iZ i), .int (iZ w)] (ad, I, A) "java/util/NoSuchElementException" (fun u2 => u2 = (ad, I, A)) := by
  refine ctx_intro (own := RX10) (by decide) rfl hO.1.1 (Nat.le_of_ble_eq_true rfl) (by simp [Value.category]) (fun X J hJ hX => ?_)
  show J 0 [some (.ref (ad 19)), some (.int (iZ i)), some (.int (iZ w))] [] (ad, I, A)
  refine v_ald0 (pc := 0) hJ dX10_chord_0 ?_
  refine cgX10_23 (pc := 1) hJ dX10_chord_1 ?_
  rw [h3]
  refine v_ild1 (pc := 4) hJ dX10_chord_4 ?_
  refine v_cV1i (pc := 5) (q0 := 3) (ci := 5) hJ rfl rfl lkX10_120 (qX8_hasChord hO hi (by omega)) (Nat.le_of_ble_eq_true rfl) (rOk_X (by decide) (by decide)) dX10_chord_5 (fun r5 u5 g5 => ?_)
  obtain ⟨g5a, g5b, rfl⟩ := g5
  refine v_if_ne (tgt := 21) (pc := 8) hJ dX10_chord_8 (by decide) (by omega) (fun h8 => ?_) (fun h8 => ?_)
  · exfalso; exact hx (g5b.mp (by omega))
  · exact th_nse (pc := 11) (text := "there is no such chord") hJ hX hl hT (List.mem_of_getElem? (i := 4) rfl) (by decide) dX10_chord_11 dX10_chord_14 dX10_chord_15 dX10_chord_17 dX10_chord_20 rfl
set_option maxHeartbeats 4000000 in
set_option maxRecDepth 100000 in
theorem xX10_chordb {l : Launch} {D : va_G} {cI : ClassId} {O : OT} {adK adV : Nat → Nat} {tT : Nat} (hO : OGC O adK adV tT) (hT : OGT O) (hl : l.stackTraces = false) {ad : Nat → Nat} {I : Nat → Int} {A : Nat → Int → Int} {i w : Int} (h3 : ad 3 = ad 59) (h43 : 0 ≤ I 43 ∧ I 43 ≤ 60) (hi : inR i) (hw : inR w) (hx : 0 ≤ i ∧ i < I 43) (hx2 : ¬ (0 ≤ w ∧ w ≤ 4)) : CX l D cI O yX10_chord cX10_chord 3 (some .int) 6 [.ref (ad 19), .int (iZ i), .int (iZ w)] (ad, I, A) "java/util/NoSuchElementException" (fun u2 => u2 = (ad, I, A)) := by
  refine ctx_intro (own := RX10) (by decide) rfl hO.1.1 (Nat.le_of_ble_eq_true rfl) (by simp [Value.category]) (fun X J hJ hX => ?_)
  show J 0 [some (.ref (ad 19)), some (.int (iZ i)), some (.int (iZ w))] [] (ad, I, A)
  refine v_ald0 (pc := 0) hJ dX10_chord_0 ?_
  refine cgX10_23 (pc := 1) hJ dX10_chord_1 ?_
  rw [h3]
  refine v_ild1 (pc := 4) hJ dX10_chord_4 ?_
  refine v_cV1i (pc := 5) (q0 := 3) (ci := 5) hJ rfl rfl lkX10_120 (qX8_hasChord hO hi (by omega)) (Nat.le_of_ble_eq_true rfl) (rOk_X (by decide) (by decide)) dX10_chord_5 (fun r5 u5 g5 => ?_)
  obtain ⟨g5a, g5b, rfl⟩ := g5
  refine v_if_ne (tgt := 21) (pc := 8) hJ dX10_chord_8 (by decide) (by omega) (fun h8 => ?_) (fun h8 => ?_)
  · refine v_ild2 (pc := 21) hJ dX10_chord_21 ?_
    by_cases hsw22 : w < 0 ∨ 4 < w
    · refine v_tableOut (tgt := 105) (pc := 22) hJ dX10_chord_22 (by omega) hsw22 (by decide) ?_
      exact th_nse (pc := 105) (text := "a chord has no such number") hJ hX hl hT (List.mem_of_getElem? (i := 5) rfl) (by decide) dX10_chord_105 dX10_chord_108 dX10_chord_109 dX10_chord_111 dX10_chord_114 rfl
    · rcases (show w = 0 ∨ w = 1 ∨ w = 2 ∨ w = 3 ∨ w = 4 by omega) with rfl | rfl | rfl | rfl | rfl
      · refine v_tableIn (off := 34) (tgt := 56) (pc := 22) hJ dX10_chord_22 (by omega) (by decide) (by decide) rfl (by decide) ?_
        exfalso; omega
      · refine v_tableIn (off := 44) (tgt := 66) (pc := 22) hJ dX10_chord_22 (by omega) (by decide) (by decide) rfl (by decide) ?_
        exfalso; omega
      · refine v_tableIn (off := 54) (tgt := 76) (pc := 22) hJ dX10_chord_22 (by omega) (by decide) (by decide) rfl (by decide) ?_
        exfalso; omega
      · refine v_tableIn (off := 64) (tgt := 86) (pc := 22) hJ dX10_chord_22 (by omega) (by decide) (by decide) rfl (by decide) ?_
        exfalso; omega
      · refine v_tableIn (off := 73) (tgt := 95) (pc := 22) hJ dX10_chord_22 (by omega) (by decide) (by decide) rfl (by decide) ?_
        exfalso; omega
  · exfalso; have := g5b.mpr hx; omega
set_option maxHeartbeats 4000000 in
set_option maxRecDepth 100000 in
theorem xX10_name {l : Launch} {D : va_G} {cI : ClassId} {O : OT} {adK adV : Nat → Nat} {tT : Nat} (hO : OGC O adK adV tT) (hT : OGT O) (hl : l.stackTraces = false) {ad : Nat → Nat} {I : Nat → Int} {A : Nat → Int → Int} {i : Int} (h3 : ad 3 = ad 59) (h43 : 0 ≤ I 43 ∧ I 43 ≤ 60) (hi : inR i) (hx : ¬ (0 ≤ i ∧ i < I 43)) : CX l D cI O yX10_name cX10_name 2 (some .int) 6 [.ref (ad 19), .int (iZ i)] (ad, I, A) "java/util/NoSuchElementException" (fun u2 => u2 = (ad, I, A)) := by
  refine ctx_intro (own := RX10) (by decide) rfl hO.1.1 (Nat.le_of_ble_eq_true rfl) (by simp [Value.category]) (fun X J hJ hX => ?_)
  show J 0 [some (.ref (ad 19)), some (.int (iZ i))] [] (ad, I, A)
  refine v_ald0 (pc := 0) hJ dX10_name_0 ?_
  refine cgX10_23 (pc := 1) hJ dX10_name_1 ?_
  rw [h3]
  refine v_ild1 (pc := 4) hJ dX10_name_4 ?_
  refine v_cV1i (pc := 5) (q0 := 3) (ci := 5) hJ rfl rfl lkX10_120 (qX8_hasChord hO hi (by omega)) (Nat.le_of_ble_eq_true rfl) (rOk_X (by decide) (by decide)) dX10_name_5 (fun r5 u5 g5 => ?_)
  obtain ⟨g5a, g5b, rfl⟩ := g5
  refine v_if_ne (tgt := 21) (pc := 8) hJ dX10_name_8 (by decide) (by omega) (fun h8 => ?_) (fun h8 => ?_)
  · exfalso; exact hx (g5b.mp (by omega))
  · exact th_nse (pc := 11) (text := "there is no such chord") hJ hX hl hT (List.mem_of_getElem? (i := 4) rfl) (by decide) dX10_name_11 dX10_name_14 dX10_name_15 dX10_name_17 dX10_name_20 rfl
set_option maxHeartbeats 4000000 in
set_option maxRecDepth 100000 in
theorem xX10_told {l : Launch} {D : va_G} {cI : ClassId} {O : OT} {adK adV : Nat → Nat} {tT : Nat} (hO : OGC O adK adV tT) (hT : OGT O) (hl : l.stackTraces = false) {ad : Nat → Nat} {I : Nat → Int} {A : Nat → Int → Int} {k : Int} (hk : inR k) (h81 : 0 ≤ I 81 ∧ I 81 < 1000000) (hx : ¬ (0 ≤ k ∧ k < (if I 81 < 4000 then I 81 else 4000))) : CX l D cI O yX10_told cX10_told 2 (some .int) 6 [.ref (ad 19), .int (iZ k)] (ad, I, A) "java/util/NoSuchElementException" (fun u2 => u2 = (ad, I, A)) := by
  refine ctx_intro (own := RX10) (by decide) rfl hO.1.1 (Nat.le_of_ble_eq_true rfl) (by simp [Value.category]) (fun X J hJ hX => ?_)
  show J 0 [some (.ref (ad 19)), some (.int (iZ k))] [] (ad, I, A)
  refine v_ild1 (pc := 0) hJ dX10_told_0 ?_
  refine v_if_lt (tgt := 15) (pc := 1) hJ dX10_told_1 (by decide) (by omega) (fun h1 => ?_) (fun h1 => ?_)
  · exact th_nse (pc := 15) (text := "no such byte is kept") hJ hX hl hT (List.mem_of_getElem? (i := 6) rfl) (by decide) dX10_told_15 dX10_told_18 dX10_told_19 dX10_told_21 dX10_told_24 rfl
  · refine v_ild1 (pc := 4) hJ dX10_told_4 ?_
    refine v_ald0 (pc := 5) hJ dX10_told_5 ?_
    refine cgX10_37 (pc := 6) hJ dX10_told_6 ?_
    refine v_cV0i (pc := 9) (q0 := 15) (ci := 2) hJ rfl rfl lkX10_155 (qX5_keptLength hO (by omega)) (Nat.le_of_ble_eq_true rfl) (rOk_X (by decide) (by decide)) dX10_told_9 (fun r9 u9 g9 => ?_)
    obtain ⟨rfl, rfl⟩ := g9
    refine v_icmp_lt (tgt := 25) (pc := 12) hJ dX10_told_12 (by decide) (by omega) (by split <;> omega) (fun h12 => ?_) (fun h12 => ?_)
    · exact absurd ⟨by omega, h12⟩ hx
    · exact th_nse (pc := 15) (text := "no such byte is kept") hJ hX hl hT (List.mem_of_getElem? (i := 6) rfl) (by decide) dX10_told_15 dX10_told_18 dX10_told_19 dX10_told_21 dX10_told_24 rfl
set_option maxHeartbeats 4000000 in
set_option maxRecDepth 100000 in
theorem xX10_string {l : Launch} {D : va_G} {cI : ClassId} {O : OT} {adK adV : Nat → Nat} {tT : Nat} (hO : OGC O adK adV tT) (hT : OGT O) (hl : l.stackTraces = false) {ad : Nat → Nat} {I : Nat → Int} {A : Nat → Int → Int} {p : Int} (hp : inR p) (hx : ¬ (0 ≤ p ∧ p ≤ 60)) : CX l D cI O yX10_string cX10_string 2 (some .int) 6 [.ref (ad 19), .int (iZ p)] (ad, I, A) "java/lang/IllegalArgumentException" (fun u2 => u2 = (ad, I, A)) := by
  refine ctx_intro (own := RX10) (by decide) rfl hO.1.1 (Nat.le_of_ble_eq_true rfl) (by simp [Value.category]) (fun X J hJ hX => ?_)
  show J 0 [some (.ref (ad 19)), some (.int (iZ p))] [] (ad, I, A)
  refine v_ild1 (pc := 0) hJ dX10_string_0 ?_
  refine v_if_lt (tgt := 10) (pc := 1) hJ dX10_string_1 (by decide) (by omega) (fun h1 => ?_) (fun h1 => ?_)
  · exact th_iae (pc := 10) (text := "a pitch is 0 to 60") hJ hX hl hT (List.mem_of_getElem? (i := 7) rfl) (by decide) dX10_string_10 dX10_string_13 dX10_string_14 dX10_string_16 dX10_string_19 rfl
  · refine v_ild1 (pc := 4) hJ dX10_string_4 ?_
    refine v_bipush (pc := 5) hJ dX10_string_5 (by decide) ?_
    refine v_icmp_le (tgt := 20) (pc := 7) hJ dX10_string_7 (by decide) (by omega) (by omega) (fun h7 => ?_) (fun h7 => ?_)
    · exfalso; omega
    · exact th_iae (pc := 10) (text := "a pitch is 0 to 60") hJ hX hl hT (List.mem_of_getElem? (i := 7) rfl) (by decide) dX10_string_10 dX10_string_13 dX10_string_14 dX10_string_16 dX10_string_19 rfl
set_option maxHeartbeats 4000000 in
set_option maxRecDepth 100000 in
theorem xX10_handsa {l : Launch} {D : va_G} {cI : ClassId} {O : OT} {adK adV : Nat → Nat} {tT : Nat} (hO : OGC O adK adV tT) (hT : OGT O) (hl : l.stackTraces = false) {ad : Nat → Nat} {I : Nat → Int} {A : Nat → Int → Int} {i bar : Int} (h3 : ad 3 = ad 59) (h43 : 0 ≤ I 43 ∧ I 43 ≤ 60) (hi : inR i) (hx : ¬ (0 ≤ i ∧ i < I 43)) : CX l D cI O yX10_hands cX10_hands 3 (some .int) 6 [.ref (ad 19), .int (iZ i), .int (iZ bar)] (ad, I, A) "java/util/NoSuchElementException" (fun u2 => u2 = (ad, I, A)) := by
  refine ctx_intro (own := RX10) (by decide) rfl hO.1.1 (Nat.le_of_ble_eq_true rfl) (by simp [Value.category]) (fun X J hJ hX => ?_)
  show J 0 [some (.ref (ad 19)), some (.int (iZ i)), some (.int (iZ bar))] [] (ad, I, A)
  refine v_ald0 (pc := 0) hJ dX10_hands_0 ?_
  refine cgX10_23 (pc := 1) hJ dX10_hands_1 ?_
  rw [h3]
  refine v_ild1 (pc := 4) hJ dX10_hands_4 ?_
  refine v_cV1i (pc := 5) (q0 := 3) (ci := 5) hJ rfl rfl lkX10_120 (qX8_hasChord hO hi (by omega)) (Nat.le_of_ble_eq_true rfl) (rOk_X (by decide) (by decide)) dX10_hands_5 (fun r5 u5 g5 => ?_)
  obtain ⟨g5a, g5b, rfl⟩ := g5
  refine v_if_ne (tgt := 21) (pc := 8) hJ dX10_hands_8 (by decide) (by omega) (fun h8 => ?_) (fun h8 => ?_)
  · exfalso; exact hx (g5b.mp (by omega))
  · exact th_nse (pc := 11) (text := "there is no such chord") hJ hX hl hT (List.mem_of_getElem? (i := 4) rfl) (by decide) dX10_hands_11 dX10_hands_14 dX10_hands_15 dX10_hands_17 dX10_hands_20 rfl
set_option maxHeartbeats 4000000 in
set_option maxRecDepth 100000 in
theorem xX10_handsb {l : Launch} {D : va_G} {cI : ClassId} {O : OT} {adK adV : Nat → Nat} {tT : Nat} (hO : OGC O adK adV tT) (hT : OGT O) (hl : l.stackTraces = false) {ad : Nat → Nat} {I : Nat → Int} {A : Nat → Int → Int} {i bar : Int} (h3 : ad 3 = ad 59) (h43 : 0 ≤ I 43 ∧ I 43 ≤ 60) (hi : inR i) (hb : inR bar) (hx : 0 ≤ i ∧ i < I 43) (hx2 : ¬ (0 ≤ bar ∧ bar ≤ 7)) : CX l D cI O yX10_hands cX10_hands 3 (some .int) 6 [.ref (ad 19), .int (iZ i), .int (iZ bar)] (ad, I, A) "java/lang/IllegalArgumentException" (fun u2 => u2 = (ad, I, A)) := by
  refine ctx_intro (own := RX10) (by decide) rfl hO.1.1 (Nat.le_of_ble_eq_true rfl) (by simp [Value.category]) (fun X J hJ hX => ?_)
  show J 0 [some (.ref (ad 19)), some (.int (iZ i)), some (.int (iZ bar))] [] (ad, I, A)
  refine v_ald0 (pc := 0) hJ dX10_hands_0 ?_
  refine cgX10_23 (pc := 1) hJ dX10_hands_1 ?_
  rw [h3]
  refine v_ild1 (pc := 4) hJ dX10_hands_4 ?_
  refine v_cV1i (pc := 5) (q0 := 3) (ci := 5) hJ rfl rfl lkX10_120 (qX8_hasChord hO hi (by omega)) (Nat.le_of_ble_eq_true rfl) (rOk_X (by decide) (by decide)) dX10_hands_5 (fun r5 u5 g5 => ?_)
  obtain ⟨g5a, g5b, rfl⟩ := g5
  refine v_if_ne (tgt := 21) (pc := 8) hJ dX10_hands_8 (by decide) (by omega) (fun h8 => ?_) (fun h8 => ?_)
  · refine v_ild2 (pc := 21) hJ dX10_hands_21 ?_
    refine v_cS1i (pc := 22) hJ lkX10_172 (qX10_isBar hO hb) (Nat.le_of_ble_eq_true rfl) (rOk_X (by decide) (by decide)) dX10_hands_22 (fun r22 u22 g22 => ?_)
    obtain ⟨g22a, g22b, rfl⟩ := g22
    try simp only [up_s, up_n, up_up, ne_eq, Nat.reduceEqDiff, not_false_eq_true]
    refine v_if_ne (tgt := 38) (pc := 25) hJ dX10_hands_25 (by decide) (by omega) (fun h25 => ?_) (fun h25 => ?_)
    · exfalso; exact hx2 (g22b.mp (by omega))
    · exact th_iae (pc := 28) (text := "a bar is at 0 to 7") hJ hX hl hT (List.mem_of_getElem? (i := 8) rfl) (by decide) dX10_hands_28 dX10_hands_31 dX10_hands_32 dX10_hands_34 dX10_hands_37 rfl
  · exfalso; have := g5b.mpr hx; omega
set_option maxHeartbeats 4000000 in
set_option maxRecDepth 100000 in
theorem xX10_freta {l : Launch} {D : va_G} {cI : ClassId} {O : OT} {adK adV : Nat → Nat} {tT : Nat} (hO : OGC O adK adV tT) (hT : OGT O) (hl : l.stackTraces = false) {ad : Nat → Nat} {I : Nat → Int} {A : Nat → Int → Int} {i bar j s : Int} (h3 : ad 3 = ad 59) (h43 : 0 ≤ I 43 ∧ I 43 ≤ 60) (hi : inR i) (hx : ¬ (0 ≤ i ∧ i < I 43)) : CX l D cI O yX10_fret cX10_fret 7 (some .int) 8 [.ref (ad 19), .int (iZ i), .int (iZ bar), .int (iZ j), .int (iZ s)] (ad, I, A) "java/util/NoSuchElementException" (fun u2 => u2 = (ad, I, A)) := by
  refine ctx_intro (own := RX10) (by decide) rfl hO.1.1 (Nat.le_of_ble_eq_true rfl) (by simp [Value.category]) (fun X J hJ hX => ?_)
  show J 0 [some (.ref (ad 19)), some (.int (iZ i)), some (.int (iZ bar)), some (.int (iZ j)), some (.int (iZ s)), none, none] [] (ad, I, A)
  refine v_ald0 (pc := 0) hJ dX10_fret_0 ?_
  refine v_ild1 (pc := 1) hJ dX10_fret_1 ?_
  refine v_ild2 (pc := 2) hJ dX10_fret_2 ?_
  exact v_callX (As := [.int (iZ i), .int (iZ bar)]) (st := []) (pc := 3) (q0 := 0) (ci := 7) hJ hX rfl rfl lkX10_184 (xX10_handsa hO hT hl h3 h43 hi hx) rfl rfl (Nat.le_of_ble_eq_true rfl) ⟨rfl, rfl, by decide, by decide⟩ ⟨by decide, by decide⟩ dX10_fret_3
set_option maxHeartbeats 4000000 in
set_option maxRecDepth 100000 in
theorem xX10_fretb {l : Launch} {D : va_G} {cI : ClassId} {O : OT} {adK adV : Nat → Nat} {tT : Nat} (hO : OGC O adK adV tT) (hT : OGT O) (hl : l.stackTraces = false) {ad : Nat → Nat} {I : Nat → Int} {A : Nat → Int → Int} {i bar j s : Int} (h3 : ad 3 = ad 59) (h43 : 0 ≤ I 43 ∧ I 43 ≤ 60) (hi : inR i) (hb : inR bar) (hx : 0 ≤ i ∧ i < I 43) (hx2 : ¬ (0 ≤ bar ∧ bar ≤ 7)) : CX l D cI O yX10_fret cX10_fret 7 (some .int) 8 [.ref (ad 19), .int (iZ i), .int (iZ bar), .int (iZ j), .int (iZ s)] (ad, I, A) "java/lang/IllegalArgumentException" (fun u2 => u2 = (ad, I, A)) := by
  refine ctx_intro (own := RX10) (by decide) rfl hO.1.1 (Nat.le_of_ble_eq_true rfl) (by simp [Value.category]) (fun X J hJ hX => ?_)
  show J 0 [some (.ref (ad 19)), some (.int (iZ i)), some (.int (iZ bar)), some (.int (iZ j)), some (.int (iZ s)), none, none] [] (ad, I, A)
  refine v_ald0 (pc := 0) hJ dX10_fret_0 ?_
  refine v_ild1 (pc := 1) hJ dX10_fret_1 ?_
  refine v_ild2 (pc := 2) hJ dX10_fret_2 ?_
  exact v_callX (As := [.int (iZ i), .int (iZ bar)]) (st := []) (pc := 3) (q0 := 0) (ci := 7) hJ hX rfl rfl lkX10_184 (xX10_handsb hO hT hl h3 h43 hi hb hx hx2) rfl rfl (Nat.le_of_ble_eq_true rfl) ⟨rfl, rfl, by decide, by decide⟩ ⟨by decide, by decide⟩ dX10_fret_3
set_option maxHeartbeats 4000000 in
set_option maxRecDepth 100000 in
theorem xX10_fretc {l : Launch} {D : va_G} {cI : ClassId} {O : OT} {adK adV : Nat → Nat} {tT : Nat} (hO : OGC O adK adV tT) (hT : OGT O) (hl : l.stackTraces = false) {ad : Nat → Nat} {I : Nat → Int} {A : Nat → Int → Int} {i bar j s : Int} (h3 : ad 3 = ad 59) (hC : cokC I A) (hN : cokN I A) (hH : cokH I A) (hi : 0 ≤ i ∧ i < I 43) (hb : 0 ≤ bar ∧ bar ≤ 7) (hj : inR j) (hs : inR s) (hx : ¬ ((0 ≤ j ∧ j < ((chdA I A i bar).length : Int)) ∧ -1 ≤ s ∧ s < I 121)) : CX l D cI O yX10_fret cX10_fret 7 (some .int) 16 [.ref (ad 19), .int (iZ i), .int (iZ bar), .int (iZ j), .int (iZ s)] (ad, I, A) "java/util/NoSuchElementException" (fun u2 => hndP ad I A u2) := by
  refine ctx_intro (own := RX10) (by decide) rfl hO.1.1 (Nat.le_of_ble_eq_true rfl) (by simp [Value.category]) (fun X J hJ hX => ?_)
  show J 0 [some (.ref (ad 19)), some (.int (iZ i)), some (.int (iZ bar)), some (.int (iZ j)), some (.int (iZ s)), none, none] [] (ad, I, A)
  refine v_ald0 (pc := 0) hJ dX10_fret_0 ?_
  refine v_ild1 (pc := 1) hJ dX10_fret_1 ?_
  refine v_ild2 (pc := 2) hJ dX10_fret_2 ?_
  refine v_cV2i (pc := 3) (q0 := 0) (ci := 7) hJ rfl rfl lkX10_184 (qX10_hands hO h3 hC hN hH hi hb) (Nat.le_of_ble_eq_true rfl) (rOk_X (by decide) (by decide)) dX10_fret_3 (fun r3 u3 g3 => ?_)
  obtain ⟨rfl, l3, t3⟩ := g3
  obtain ⟨ad3, I3, A3⟩ := u3
  obtain ⟨e3, f3, k3⟩ := t3
  dsimp only at e3 f3 k3
  subst e3
  have i121 : I3 121 = I 121 := f3.1 121 (by decide) (by decide) (by decide) (by decide) (by decide)
  have n1 := hN.1
  refine v_ist5 (pc := 6) hJ dX10_fret_6 (by decide) ?_
  refine v_ild3 (pc := 8) hJ dX10_fret_8 ?_
  refine v_if_lt (tgt := 18) (pc := 9) hJ dX10_fret_9 (by decide) (by omega) (fun h9 => ?_) (fun h9 => ?_)
  · exact th_nse (pc := 18) (text := "there is no such hand") hJ hX hl hT (List.mem_of_getElem? (i := 9) rfl) (by decide) dX10_fret_18 dX10_fret_21 dX10_fret_22 dX10_fret_24 dX10_fret_27 ⟨rfl, f3, k3⟩
  · refine v_ild3 (pc := 12) hJ dX10_fret_12 ?_
    refine v_ild5 (pc := 13) hJ dX10_fret_13 ?_
    refine v_icmp_lt (tgt := 28) (pc := 15) hJ dX10_fret_15 (by decide) (by omega) (by omega) (fun h15 => ?_) (fun h15 => ?_)
    · refine v_ild4 (pc := 28) hJ dX10_fret_28 ?_
      refine v_iconst (pc := 30) hJ dX10_fret_30 ?_
      refine v_icmp_lt (tgt := 46) (pc := 31) hJ dX10_fret_31 (by decide) (by omega) (by omega) (fun h31 => ?_) (fun h31 => ?_)
      · exact th_nse (pc := 46) (text := "there is no such string") hJ hX hl hT (List.mem_of_getElem? (i := 10) rfl) (by decide) dX10_fret_46 dX10_fret_49 dX10_fret_50 dX10_fret_52 dX10_fret_55 ⟨rfl, f3, k3⟩
      · refine v_ild4 (pc := 34) hJ dX10_fret_34 ?_
        refine v_ald0 (pc := 36) hJ dX10_fret_36 ?_
        refine cgX10_51 (pc := 37) hJ dX10_fret_37 ?_
        refine cgX10_166 (pc := 40) hJ dX10_fret_40 ?_
        try simp only [up_s, up_n, up_up, ne_eq, Nat.reduceEqDiff, not_false_eq_true]
        rw [i121]
        refine v_icmp_lt (tgt := 56) (pc := 43) hJ dX10_fret_43 (by decide) (by omega) (by omega) (fun h43 => ?_) (fun h43 => ?_)
        · exfalso; omega
        · exact th_nse (pc := 46) (text := "there is no such string") hJ hX hl hT (List.mem_of_getElem? (i := 10) rfl) (by decide) dX10_fret_46 dX10_fret_49 dX10_fret_50 dX10_fret_52 dX10_fret_55 ⟨rfl, f3, k3⟩
    · exact th_nse (pc := 18) (text := "there is no such hand") hJ hX hl hT (List.mem_of_getElem? (i := 9) rfl) (by decide) dX10_fret_18 dX10_fret_21 dX10_fret_22 dX10_fret_24 dX10_fret_27 ⟨rfl, f3, k3⟩
set_option maxHeartbeats 4000000 in
set_option maxRecDepth 100000 in
theorem xX10_play {l : Launch} {D : va_G} {cI : ClassId} {O : OT} {adK adV : Nat → Nat} {tT : Nat} (hO : OGC O adK adV tT) (hT : OGT O) (hl : l.stackTraces = false) {ad : Nat → Nat} {I : Nat → Int} {A : Nat → Int → Int} {bar : Int} (hb : inR bar) (hx : ¬ (0 ≤ bar ∧ bar ≤ 7)) : CX l D cI O yX10_play cX10_play 3 (some .int) 6 [.ref (ad 19), .int (iZ bar)] (ad, I, A) "java/lang/IllegalArgumentException" (fun u2 => u2 = (ad, I, A)) := by
  refine ctx_intro (own := RX10) (by decide) rfl hO.1.1 (Nat.le_of_ble_eq_true rfl) (by simp [Value.category]) (fun X J hJ hX => ?_)
  show J 0 [some (.ref (ad 19)), some (.int (iZ bar)), none] [] (ad, I, A)
  refine v_ild1 (pc := 0) hJ dX10_play_0 ?_
  refine v_cS1i (pc := 1) hJ lkX10_172 (qX10_isBar hO hb) (Nat.le_of_ble_eq_true rfl) (rOk_X (by decide) (by decide)) dX10_play_1 (fun r1 u1 g1 => ?_)
  obtain ⟨g1a, g1b, rfl⟩ := g1
  refine v_if_ne (tgt := 17) (pc := 4) hJ dX10_play_4 (by decide) (by omega) (fun h4 => ?_) (fun h4 => ?_)
  · exfalso; exact hx (g1b.mp (by omega))
  · exact th_iae (pc := 7) (text := "a bar is at 0 to 7") hJ hX hl hT (List.mem_of_getElem? (i := 8) rfl) (by decide) dX10_play_7 dX10_play_10 dX10_play_11 dX10_play_13 dX10_play_16 rfl
set_option maxHeartbeats 4000000 in
set_option maxRecDepth 100000 in
theorem xX10_count {l : Launch} {D : va_G} {cI : ClassId} {O : OT} {adK adV : Nat → Nat} {tT : Nat} (hO : OGC O adK adV tT) (hT : OGT O) (hl : l.stackTraces = false) {ad : Nat → Nat} {I : Nat → Int} {A : Nat → Int → Int} {w : Int} (hw : inR w) (hx : ¬ (0 ≤ w ∧ w ≤ 5)) : CX l D cI O yX10_count cX10_count 2 (some .int) 6 [.ref (ad 19), .int (iZ w)] (ad, I, A) "java/util/NoSuchElementException" (fun u2 => u2 = (ad, I, A)) := by
  refine ctx_intro (own := RX10) (by decide) rfl hO.1.1 (Nat.le_of_ble_eq_true rfl) (by simp [Value.category]) (fun X J hJ hX => ?_)
  show J 0 [some (.ref (ad 19)), some (.int (iZ w))] [] (ad, I, A)
  refine v_ild1 (pc := 0) hJ dX10_count_0 ?_
  by_cases hsw1 : w < 0 ∨ 5 < w
  · refine v_tableOut (tgt := 82) (pc := 1) hJ dX10_count_1 (by omega) hsw1 (by decide) ?_
    exact th_nse (pc := 82) (text := "nothing is counted under this number") hJ hX hl hT (List.mem_of_getElem? (i := 11) rfl) (by decide) dX10_count_82 dX10_count_85 dX10_count_86 dX10_count_88 dX10_count_91 rfl
  · rcases (show w = 0 ∨ w = 1 ∨ w = 2 ∨ w = 3 ∨ w = 4 ∨ w = 5 by omega) with rfl | rfl | rfl | rfl | rfl | rfl
    · refine v_tableIn (off := 39) (tgt := 40) (pc := 1) hJ dX10_count_1 (by omega) (by decide) (by decide) rfl (by decide) ?_
      exfalso; omega
    · refine v_tableIn (off := 47) (tgt := 48) (pc := 1) hJ dX10_count_1 (by omega) (by decide) (by decide) rfl (by decide) ?_
      exfalso; omega
    · refine v_tableIn (off := 55) (tgt := 56) (pc := 1) hJ dX10_count_1 (by omega) (by decide) (by decide) rfl (by decide) ?_
      exfalso; omega
    · refine v_tableIn (off := 60) (tgt := 61) (pc := 1) hJ dX10_count_1 (by omega) (by decide) (by decide) rfl (by decide) ?_
      exfalso; omega
    · refine v_tableIn (off := 68) (tgt := 69) (pc := 1) hJ dX10_count_1 (by omega) (by decide) (by decide) rfl (by decide) ?_
      exfalso; omega
    · refine v_tableIn (off := 76) (tgt := 77) (pc := 1) hJ dX10_count_1 (by omega) (by decide) (by decide) rfl (by decide) ?_
      exfalso; omega
