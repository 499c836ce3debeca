section LFT
theorem vP_mem {D : va_G} {cl : List vw_C} {ws : va_W} {H : Heap} : va_P D cl ws H ↔ ∀ q ∈ ws, va_at D cl q H :=
  ⟨fun h q hq => by obtain ⟨k, hk⟩ := List.getElem?_of_mem hq; exact h k q hk, fun h k q hk => h q (List.mem_of_getElem? hk)⟩
theorem vD_iff {A : Nat → Prop} {ws : va_W} : va_D A ws ↔ ws.Pairwise (fun p q => p.1 ≠ q.1) ∧ ∀ q ∈ ws, A q.1 := by
  constructor
  · intro h
    refine ⟨List.pairwise_iff_getElem.mpr (fun i j hi hj hij e => ?_), fun q hq => ?_⟩
    · have := h.1 i j ws[i] ws[j] (List.getElem?_eq_getElem hi) (List.getElem?_eq_getElem hj) e
      omega
    · obtain ⟨k, hk⟩ := List.getElem?_of_mem hq
      exact h.2 k q hk
  · intro h
    refine ⟨fun i j p q hi hj e => ?_, fun k q hk => h.2 q (List.mem_of_getElem? hk)⟩
    obtain ⟨hi1, hi2⟩ := List.getElem?_eq_some_iff.mp hi
    obtain ⟨hj1, hj2⟩ := List.getElem?_eq_some_iff.mp hj
    have key := List.pairwise_iff_getElem.mp h.1
    rcases Nat.lt_trichotomy i j with hij | hij | hij
    · exact absurd (by rw [hi2, hj2]; exact e) (key i j hi1 hj1 hij)
    · exact hij
    · exact absurd (by rw [hi2, hj2]; exact e.symm) (key j i hj1 hi1 hij)
theorem vA_mem {ws : va_W} {sz q : Nat} : va_A ws sz q ↔ (∃ x ∈ ws, x.1 = q) ∨ sz ≤ q := by
  constructor
  · rintro (⟨k, e, h⟩ | h)
    · exact Or.inl ⟨(q, e), List.mem_of_getElem? h, rfl⟩
    · exact Or.inr h
  · rintro (⟨⟨x, e⟩, h, rfl⟩ | h)
    · obtain ⟨k, hk⟩ := List.getElem?_of_mem h
      exact Or.inl ⟨k, e, hk⟩
    · exact Or.inr h
variable {D : va_G} {cl : List vw_C}
theorem lf_A {a w b : va_W} {sz q : Nat} (h : va_A w sz q) : va_A (a ++ (w ++ b)) sz q := by
  rcases vA_mem.mp h with ⟨x, hx, e⟩ | h
  · exact vA_mem.mpr (Or.inl ⟨x, by simp [hx], e⟩)
  · exact vA_mem.mpr (Or.inr h)
/-- a method's world in the midst of a larger one -/
theorem lf_core {a w w2 b : va_W} {s t : State} (hP : va_P D cl (a ++ (w ++ b)) s.heap) (hD : va_D (fun _ => True) (a ++ (w ++ b))) (hP2 : va_P D cl w2 t.heap) (hD2 : va_D (va_A w s.heap.size) w2) (hF : va_F (va_A w s.heap.size) s t) :
    va_P D cl (a ++ (w2 ++ b)) t.heap ∧ va_D (va_A (a ++ (w ++ b)) s.heap.size) (a ++ (w2 ++ b)) ∧ va_F (va_A (a ++ (w ++ b)) s.heap.size) s t := by
  have hP := vP_mem.mp hP
  have hP2 := vP_mem.mp hP2
  obtain ⟨d1, -⟩ := vD_iff.mp hD
  obtain ⟨e1, e2⟩ := vD_iff.mp hD2
  obtain ⟨da, dwb, dx⟩ := List.pairwise_append.mp d1
  obtain ⟨dw, db, dy⟩ := List.pairwise_append.mp dwb
  have hlt : ∀ q ∈ a ++ (w ++ b), q.1 < s.heap.size := fun q hq => (hP q hq).lt
  have hna : ∀ q ∈ a, ¬ va_A w s.heap.size q.1 := fun q hq h => by
    rcases vA_mem.mp h with ⟨x, hx, e⟩ | h
    · exact dx q hq x (List.mem_append_left _ hx) e.symm
    · exact absurd (hlt q (List.mem_append_left _ hq)) (Nat.not_lt.mpr h)
  have hnb : ∀ q ∈ b, ¬ va_A w s.heap.size q.1 := fun q hq h => by
    rcases vA_mem.mp h with ⟨x, hx, e⟩ | h
    · exact dy x hx q hq e
    · exact absurd (hlt q (List.mem_append_right _ (List.mem_append_right _ hq))) (Nat.not_lt.mpr h)
  have hka : ∀ q ∈ a, va_at D cl q t.heap := fun q hq => (hP q (List.mem_append_left _ hq)).kept (hF.2 q.1 (hlt q (List.mem_append_left _ hq)) (hna q hq))
  have hkb : ∀ q ∈ b, va_at D cl q t.heap := fun q hq => (hP q (List.mem_append_right _ (List.mem_append_right _ hq))).kept (hF.2 q.1 (hlt q (List.mem_append_right _ (List.mem_append_right _ hq))) (hnb q hq))
  refine ⟨vP_mem.mpr (fun q hq => ?_), vD_iff.mpr ⟨List.pairwise_append.mpr ⟨da, List.pairwise_append.mpr ⟨e1, db, fun x hx y hy e => ?_⟩, fun x hx y hy e => ?_⟩, fun q hq => ?_⟩, hF.1, fun q h1 h2 => hF.2 q h1 (fun z => h2 (lf_A z))⟩
  · rcases List.mem_append.mp hq with h | h
    · exact hka q h
    · rcases List.mem_append.mp h with h | h
      · exact hP2 q h
      · exact hkb q h
  · exact hnb y hy (by rw [← e]; exact e2 x hx)
  · rcases List.mem_append.mp hy with h | h
    · exact hna x hx (by rw [e]; exact e2 y h)
    · exact dx x hx y (List.mem_append_right _ h) e
  · rcases List.mem_append.mp hq with h | h
    · exact vA_mem.mpr (Or.inl ⟨q, List.mem_append_left _ h, rfl⟩)
    · rcases List.mem_append.mp h with h | h
      · exact lf_A (e2 q h)
      · exact vA_mem.mpr (Or.inl ⟨q, List.mem_append_right _ (List.mem_append_right _ h), rfl⟩)
theorem lf_pre {a w b : va_W} {H : Heap} (hP : va_P D cl (a ++ (w ++ b)) H) (hD : va_D (fun _ => True) (a ++ (w ++ b))) : va_P D cl w H ∧ va_D (fun _ => True) w := by
  have hP := vP_mem.mp hP
  obtain ⟨d1, -⟩ := vD_iff.mp hD
  obtain ⟨da, dwb, dx⟩ := List.pairwise_append.mp d1
  obtain ⟨dw, db, dy⟩ := List.pairwise_append.mp dwb
  exact ⟨vP_mem.mpr (fun q hq => hP q (by simp [hq])), vD_iff.mpr ⟨dw, fun _ _ => trivial⟩⟩
theorem lf_K {tys tysB : List (ClassId × FieldType)} {U : State} (ht : ∀ q ∈ tys, q ∈ tysB) (h : va_K D cl tysB U) : va_K D cl tys U := ⟨h.1, fun k q hk => by
  obtain ⟨j, hj⟩ := List.getElem?_of_mem (ht q (List.mem_of_getElem? hk))
  exact h.2 j q hj⟩
variable {σ τ : Type} {l : Launch} {y : MethodName} {cc : ByteArray} {n : Nat} {rt : Option FieldType} {rm : Room} {tys tysB : List (ClassId × FieldType)} {O : OT} {wld : σ → va_W} {wldB : τ → va_W} {as : List Value} {u : σ} {v : τ} {put : σ → τ} {a b : va_W}
theorem ct_lift {post : Option Value → σ → Prop} (hOL : OL O) (hv : wldB v = a ++ (wld u ++ b)) (hput : ∀ u2, wldB (put u2) = a ++ (wld u2 ++ b)) (ht : ∀ q ∈ tys, q ∈ tysB) (h : Ct l y cc n rt rm D tys O wld as u post) : Ct l y cc n rt rm D tysB O wldB as v (fun o v2 => ∃ u2, post o u2 ∧ v2 = put u2) := by
  intro sz p e h1 h2 h3 s m args below h4 h5 h6 h7
  obtain ⟨e1, e2, e3, e4, e5, e6⟩ := h6
  subst e2
  rw [hv] at e3 e5 e6
  obtain ⟨p1, p2⟩ := lf_pre e3 e5
  obtain ⟨k, oc, a1, a2, a3, ⟨⟨⟨r, u2, b1, b2, b3, b4, b5⟩, b6⟩, L, b7, b8⟩⟩ := h s.heap.size p e h1 h2 h3 s m args below h4 h5 ⟨e1, rfl, p1, lf_K ht e4, p2, hOL.1 _ _ _ _ e6 (fun q hq => lf_A hq)⟩ h7
  obtain ⟨c1, c2, c3⟩ := lf_core e3 e5 b3 b5 b6
  rw [hv]
  exact ⟨k, oc, a1, a2, a3, ⟨⟨⟨r, put u2, b1, ⟨u2, b2, rfl⟩, by rw [hput]; exact c1, va_K.moved b7.2.1.alike e4, by rw [hput]; exact c2⟩, c3⟩, L, b7, fun q hq => lf_A (b8 q hq)⟩⟩
theorem ctx_lift {E : String} {px : σ → Prop} (hOL : OL O) (hv : wldB v = a ++ (wld u ++ b)) (hput : ∀ u2, wldB (put u2) = a ++ (wld u2 ++ b)) (ht : ∀ q ∈ tys, q ∈ tysB) (h : CtX l y cc n rt rm D tys O wld as u E px) : CtX l y cc n rt rm D tysB O wldB as v E (fun v2 => ∃ u2, px u2 ∧ v2 = put u2) := by
  intro sz p e h1 h2 h3 s m args below h4 h5 h6 h7
  obtain ⟨e1, e2, e3, e4, e5, e6⟩ := h6
  subst e2
  rw [hv] at e3 e5 e6
  obtain ⟨p1, p2⟩ := lf_pre e3 e5
  obtain ⟨k, oc, a1, a2, a3, a4⟩ := h s.heap.size p e h1 h2 h3 s m args below h4 h5 ⟨e1, rfl, p1, lf_K ht e4, p2, hOL.1 _ _ _ _ e6 (fun q hq => lf_A hq)⟩ h7
  rcases a4 with ⟨⟨⟨-, -, -, hf, -⟩, -⟩, -⟩ | ⟨q, b1, E2, ce, L, ⟨u2, c1, ⟨c2, c3, c4, c5⟩, c6⟩, b2, b3, b4, b5, b6, b7⟩
  · exact hf.elim
  · obtain ⟨g1, g2, g3⟩ := lf_core e3 e5 c3 c5 c6
    rw [hv]
    exact ⟨k, oc, a1, a2, a3, Or.inr ⟨q, b1, E2, ce, L, ⟨put u2, ⟨u2, c1, rfl⟩, ⟨c2, by rw [hput]; exact g1, va_K.moved b5.alike e4, by rw [hput]; exact g2⟩, g3⟩, b2, b3, b4, b5, b6, fun z hz => lf_A (b7 z hz)⟩⟩
end LFT
/-! the law's world -/
abbrev sL : Type := sC × sM × Int
def oF (x : Int) : Nat → Int64 := fun j => if j = 0 then (iZ x).toInt64 else 0
def wL (adM : Nat → Nat) (bo : Nat) (cI cJ : ClassId) (u : sL) : va_W := wC cI u.1 ++ (wM adM cI u.2.1 ++ [(bo, .inl (cJ, 1, .inr (.inl (oF u.2.2))))])
theorem oF_up (x r : Int) : vp_updL (oF x) 0 (iZ r).toInt64 = oF r := by
  funext j
  unfold vp_updL oF
  split <;> simp_all
section CTW
variable {σ : Type}
def CtW (l : Launch) (y : MethodName) (cc : ByteArray) (n : Nat) (hh : List (Nat × Nat × Nat × Nat)) (rm : Room) (D : va_G) (tys : List (ClassId × FieldType)) (O : OT) (wld : σ → va_W) (as : List Value) (u : σ) (post : Option Value → σ → Prop) : Prop :=
  ∀ sz : Nat, Met l y (Cond.codeWith y cc n (some .int) hh :: gw) rm (va_Pc as (fun U => U.heap.size = sz ∧ va_P D vwCl (wld u) U.heap ∧ va_K D vwCl tys U ∧ va_D (fun _ => True) (wld u) ∧ O (va_A (wld u) sz) U U.heap)) (cQ D tys wld (va_A (wld u) sz) post) 1 6 (va_A (wld u) sz)
def HX (hh : List (Nat × Nat × Nat × Nat)) (D : va_G) (tys : List (ClassId × FieldType)) (wld : σ → va_W) (post : Option Value → σ → Prop) (X : CtxT) : Prop := match X with
  | (_, _, s, _, args, below, _, c, A, Q) => c.exceptionTable.toList = tableOf hh ∧ ∀ t, MQ below (cQ D tys wld A post) args s 1 6 A t → Q t
theorem MQ_mono {below : List Frame} {Qc : Array Value → State → Outcome → State → Prop} {a : Array Value} {s : State} {mc ms mc2 ms2 : Nat} {free : Addr → Prop} (h1 : mc ≤ mc2) (h2 : ms ≤ ms2) {t : State} (h : MQ below Qc a s mc ms free t) : MQ below Qc a s mc2 ms2 free t := by
  obtain ⟨o, a1, a2, a3, L, ⟨b1, b2, b3⟩, a5⟩ := h
  exact ⟨o, a1, a2, a3, L, ⟨b1, b2, b3.mono h1 h2⟩, a5⟩
set_option maxHeartbeats 4000000 in
theorem ctw_intro {l : Launch} {rm : Room} {cc : ByteArray} {n : Nat} {own : String} {hh : List (Nat × Nat × Nat × Nat)} {D : va_G} {tys : List (ClassId × FieldType)} {O : OT} {wld : σ → va_W} {post : Option Value → σ → Prop} {y : MethodName} {as : List Value} {u : σ} (hy : plainName y.cls = true) (hyc : y.cls = own) (hOL : OL O) (has : as.length ≤ n) (hcat : ∀ v ∈ as, v.category = 1)
    (h : ∀ (X : CtxT) (J : KT σ), Snd l rm cc n own (some .int) D tys O wld post X J → HX hh D tys wld post X → J 0 (as.map some ++ List.replicate (n - as.length) none) [] u) : CtW l y cc n hh rm D tys O wld as u post := by
  intro sz
  refine va_MetW (cc := cc) (maxL := n) (ret := some .int) (hh := hh) hy rfl ?_
  intro p e s m args below meth c s₁ B hml hv
  obtain ⟨rfl, hsz, hP, hK, hD0, hO⟩ := hv
  have hts := atoms_spec (ws := Cond.codeWith y cc n (some .int) hh :: gw) B.pre
  have hown : s.vm.findClass own = some m.cls := by rw [← hyc]; exact findClass_of_methodNamed B.named
  subst hsz
  rw [lg_entry_eq]
  have key := h (p, e, s, m, as.toArray, below, meth, c, va_A (wld u) s.heap.size, MQ below (cQ D tys wld (va_A (wld u) s.heap.size) post) as.toArray s 1 6 (va_A (wld u) s.heap.size)) (fun pc lv st u' => ∀ (H : Heap) (locs : List Loc) (ls : Array Slot), va_P D vwCl (wld u') H → va_D (va_A (wld u) s.heap.size) (wld u') → va_S (va_A (wld u) s.heap.size) s.heap H locs → lvH ls n lv → W p l e rm s m as.toArray below meth c H locs 0 0 (MQ below (cQ D tys wld (va_A (wld u) s.heap.size) post) as.toArray s 1 6 (va_A (wld u) s.heap.size)) (F0 m pc ls st))
    ⟨B.exec, B.bytes, hml, hown, fun w hw => hts w (List.mem_cons_of_mem _ hw), B.returns, B.notSynchronized, hK, fun q hq => Or.inr hq, hOL, hO, fun t h => MQ_mono (by decide) (by decide) h, fun _ _ _ _ => Iff.rfl⟩
    ⟨vx_table (x := y) B (hts _ List.mem_cons_self), fun _ h => h⟩
  exact key s.heap [] _ hP hD0.self va_S.rf (lv_start as n has hcat)
variable {l : Launch} {R : Room} {cc : ByteArray} {nL : Nat} {own : String} {rt : Option FieldType} {D : va_G} {tys : List (ClassId × FieldType)} {O : OT} {wld : σ → va_W} {post : Option Value → σ → Prop} {X : CtxT} {J : KT σ}
variable {pc : Nat} {lv : List (Option Value)} {st : List Value} {u : σ}
theorem v_i2l (hJ : Snd l R cc nL own rt D tys O wld post X J) {x : Int} (d : decode cc pc = .ok (.i2l, 1)) (k : J (pc + 1) lv (.long (iZ x).toInt64 :: st) u) : J pc lv (.int (iZ x) :: st) u := by
  obtain ⟨p, e, s, m, args, below, meth, c, A, Q⟩ := X
  obtain ⟨hx, hb, hml, hown, hts, hr, hlk, hK, hA, hOL, hO, hQ, hW⟩ := hJ
  refine (hW _ _ _ _).mpr (fun H locs ls hP hD hS hl => ?_)
  exact lv_i2l hx hb d rfl ((hW _ _ _ _).mp k H locs ls hP hD hS hl)
theorem v_catch3 (hJ : Snd l R cc nL own (some .int) D tys O wld post X J) {hh : List (Nat × Nat × Nat × Nat)} (hH : HX hh D tys wld post X) {E name : String} {px : σ → Prop} {q0 ci N idx kn n' : Nat} {C : String} {T : u_T} {fs : List Value} {b : Nat} {y : MethodName} {cc' : ByteArray} {rt' : Option FieldType} {rm : Room} {As st0 : List Value} {r : Int} (he : (wld u)[q0]? = some (b, .inr (ci, fs))) (hc : vwCl[ci]? = some (C, T, N)) (lk : LkV own idx C y cc' n' rt' kn) (hM : CtX l y cc' n' rt' rm D tys O wld (.ref b :: As) u E px) (hkn : As.length = kn) (hst : st0 = As.reverse ++ .ref b :: st) (hroom : (st.map fun v => v.category).sum ≤ 8) (hrm : rm.cells = 1 ∧ rm.slots = 6 ∧ rm.frames + 1 ≤ R.frames ∧ 8 + (n' + 11) + rm.locals ≤ R.locals) (hRc : 1 ≤ R.cells ∧ 6 ≤ R.slots) (d : decode cc pc = .ok (.invokevirtual idx, 3))
    (pre : List ExceptionTableEntry) (x : ExceptionTableEntry) (suf : List ExceptionTableEntry) (hsplit : tableOf hh = pre ++ x :: suf) (hpass : ∀ z ∈ pre, z.catchType ≠ 0 ∧ ∃ nm : String, Cond.classLink own z.catchType nm ∈ gw ∧ ∀ (A : Nat → Prop) (U : State) (H : Heap), O A U H → va_Nc E nm U) (hcov : covers x pc = true) (h0 : x.catchType ≠ 0) (hlink : Cond.classLink own x.catchType name ∈ gw) (hcast : ∀ (A : Nat → Prop) (U : State) (H : Heap), O A U H → va_Nw (.castable E name) U)
    (hn : 3 < nL) (da : decode cc x.handlerPc = .ok (.astore_n 3, 1)) (di : decode cc (x.handlerPc + 1) = .ok (.iconst r, 1)) (dr : decode cc (x.handlerPc + 1 + 1) = .ok (.ireturn, 1)) (hq : ∀ u2, px u2 → post (some (.int (iZ r))) u2) : J pc lv st0 u := by
  obtain ⟨p, e, s, m, args, below, meth, c, A, Q⟩ := X
  obtain ⟨hx, hb, hml, hown, hts, hr, hlk, hK, hA, hOL, hO, hQ, hW⟩ := hJ
  obtain ⟨hH1, hH2⟩ := hH
  refine (hW _ _ _ _).mpr (fun H locs ls hP hD hS hl => ?_)
  have hF : ∀ q, va_A (wld u) H.size q → A q := by
    rintro q (⟨k9, e9, h9⟩ | h9)
    · exact hD.2 k9 _ h9
    · exact hA q (Nat.le_trans hS.1 h9)
  have key : W p l e R s m args below meth c H locs 0 0 (MQ below (cQ D tys wld A post) args s 1 6 A) (F0 m pc ls st0) := by
    refine vx_calli (vx_runV (As := As) (rest := st) (Ts := gw) (own := own) (b := b) ⟨hx, hb, hml, hown, hts⟩ (hM H.size) (cwV kn hts (lk_good lk.1) rfl hrm.1 hrm.2.1 lk.2 hrm.2.2) ⟨ct_blind hOL _, va_recv hK hP hc he, ct_pre (p := p) (e := e) (m := m) (args := args) (below := below) hK hOL hO hP hD hS hF _⟩ rfl hkn hl.1 hst (lv_room hroom) d ⟨by omega, by omega⟩) hS (fun q _ h => hF q h) hF (fun q _ h => hF q h) (fun E2 ce q9 u2 t H1 locs1 ht hal hpx hB hz hk hS1 hce hcv hcl => ?_) (fun r2 u2 t H1 locs1 ht hal hp => hp.elim)
    obtain ⟨rfl, hP2, hK2, hD2⟩ := hB
    rw [ht] at hP2
    refine vx_catch (name := name) hown pre x suf (by rw [hH1]; exact hsplit) (fun z hz => ?_) hcov h0 (hts _ hlink) (va_Nw.use rfl (hcast A s s.heap hO)) hce hcv hcl ?_
    · obtain ⟨z1, nm, z2, z3⟩ := hpass z hz
      exact Or.inr ⟨z1, nm, hts _ z2, z3 A s s.heap hO⟩
    · refine lv_astore_n hx hb da rfl hl.has hn rfl (fun ls2 h2 => ?_)
      refine lv_iconst (v := iZ r) hx hb di rfl ?_
      exact W.iret (cells := 0 + 1) (slots := 0 + 6) hx hb hr (fun t9 ht9 hWm => ⟨⟨_, u2, rfl, hq u2 hpx, by rw [ht9]; exact hP2, va_K.moved hWm.alike hK, hD2.weaken (fun _ _ _ h => hF _ h)⟩, hS1.F ht9⟩) hS1.2.2 dr hlk
  intro T9 hT9 XX
  obtain ⟨t, a1, b1⟩ := key T9 hT9 XX
  exact ⟨t, a1, hH2 t b1⟩
theorem v_catchN (hJ : Snd l R cc nL own (some .int) D tys O wld post X J) {hh : List (Nat × Nat × Nat × Nat)} (hH : HX hh D tys wld post X) {E name : String} {px : σ → Prop} {q0 ci N idx kn n' : Nat} {C : String} {T : u_T} {fs : List Value} {b : Nat} {y : MethodName} {cc' : ByteArray} {rt' : Option FieldType} {rm : Room} {As st0 : List Value} {r : Int} (he : (wld u)[q0]? = some (b, .inr (ci, fs))) (hc : vwCl[ci]? = some (C, T, N)) (lk : LkV own idx C y cc' n' rt' kn) (hM : CtX l y cc' n' rt' rm D tys O wld (.ref b :: As) u E px) (hkn : As.length = kn) (hst : st0 = As.reverse ++ .ref b :: st) (hroom : (st.map fun v => v.category).sum ≤ 8) (hrm : rm.cells = 1 ∧ rm.slots = 6 ∧ rm.frames + 1 ≤ R.frames ∧ 8 + (n' + 11) + rm.locals ≤ R.locals) (hRc : 1 ≤ R.cells ∧ 6 ≤ R.slots) (d : decode cc pc = .ok (.invokevirtual idx, 3))
    (pre : List ExceptionTableEntry) (x : ExceptionTableEntry) (suf : List ExceptionTableEntry) (hsplit : tableOf hh = pre ++ x :: suf) (hpass : ∀ z ∈ pre, z.catchType ≠ 0 ∧ ∃ nm : String, Cond.classLink own z.catchType nm ∈ gw ∧ ∀ (A : Nat → Prop) (U : State) (H : Heap), O A U H → va_Nc E nm U) (hcov : covers x pc = true) (h0 : x.catchType ≠ 0) (hlink : Cond.classLink own x.catchType name ∈ gw) (hcast : ∀ (A : Nat → Prop) (U : State) (H : Heap), O A U H → va_Nw (.castable E name) U)
    {kx : Nat} (hn : kx < nL) (da : decode cc x.handlerPc = .ok (.astore kx, 2)) (di : decode cc (x.handlerPc + 2) = .ok (.iconst r, 1)) (dr : decode cc (x.handlerPc + 2 + 1) = .ok (.ireturn, 1)) (hq : ∀ u2, px u2 → post (some (.int (iZ r))) u2) : J pc lv st0 u := by
  obtain ⟨p, e, s, m, args, below, meth, c, A, Q⟩ := X
  obtain ⟨hx, hb, hml, hown, hts, hr, hlk, hK, hA, hOL, hO, hQ, hW⟩ := hJ
  obtain ⟨hH1, hH2⟩ := hH
  refine (hW _ _ _ _).mpr (fun H locs ls hP hD hS hl => ?_)
  have hF : ∀ q, va_A (wld u) H.size q → A q := by
    rintro q (⟨k9, e9, h9⟩ | h9)
    · exact hD.2 k9 _ h9
    · exact hA q (Nat.le_trans hS.1 h9)
  have key : W p l e R s m args below meth c H locs 0 0 (MQ below (cQ D tys wld A post) args s 1 6 A) (F0 m pc ls st0) := by
    refine vx_calli (vx_runV (As := As) (rest := st) (Ts := gw) (own := own) (b := b) ⟨hx, hb, hml, hown, hts⟩ (hM H.size) (cwV kn hts (lk_good lk.1) rfl hrm.1 hrm.2.1 lk.2 hrm.2.2) ⟨ct_blind hOL _, va_recv hK hP hc he, ct_pre (p := p) (e := e) (m := m) (args := args) (below := below) hK hOL hO hP hD hS hF _⟩ rfl hkn hl.1 hst (lv_room hroom) d ⟨by omega, by omega⟩) hS (fun q _ h => hF q h) hF (fun q _ h => hF q h) (fun E2 ce q9 u2 t H1 locs1 ht hal hpx hB hz hk hS1 hce hcv hcl => ?_) (fun r2 u2 t H1 locs1 ht hal hp => hp.elim)
    obtain ⟨rfl, hP2, hK2, hD2⟩ := hB
    rw [ht] at hP2
    refine vx_catch (name := name) hown pre x suf (by rw [hH1]; exact hsplit) (fun z hz => ?_) hcov h0 (hts _ hlink) (va_Nw.use rfl (hcast A s s.heap hO)) hce hcv hcl ?_
    · obtain ⟨z1, nm, z2, z3⟩ := hpass z hz
      exact Or.inr ⟨z1, nm, hts _ z2, z3 A s s.heap hO⟩
    · refine lv_astore hx hb da hl.has hn rfl (fun ls2 h2 => ?_)
      refine lv_iconst (v := iZ r) hx hb di rfl ?_
      exact W.iret (cells := 0 + 1) (slots := 0 + 6) hx hb hr (fun t9 ht9 hWm => ⟨⟨_, u2, rfl, hq u2 hpx, by rw [ht9]; exact hP2, va_K.moved hWm.alike hK, hD2.weaken (fun _ _ _ h => hF _ h)⟩, hS1.F ht9⟩) hS1.2.2 dr hlk
  intro T9 hT9 XX
  obtain ⟨t, a1, b1⟩ := key T9 hT9 XX
  exact ⟨t, a1, hH2 t b1⟩
end CTW
theorem v_lsto {l : Launch} {R : Room} {cc : ByteArray} {nL : Nat} {own : String} {rt : Option FieldType} {D : va_G} {cI cJ : ClassId} {adM : Nat → Nat} {bo : Nat} {O : OT} {post : Option Value → sL → Prop} {X : CtxT} {J : KT sL} {pc : Nat} {lv : List (Option Value)} {st : List Value} {uC : sC} {uM : sM} {x r : Int} (hJ : Snd l R cc nL own rt D [(cI, .int), (cJ, .long)] O (wL adM bo cI cJ) post X J) (d : decode cc pc = .ok (.lastore, 1)) (k : J (pc + 1) lv st (uC, uM, r)) : J pc lv (.long (iZ r).toInt64 :: .int (iZ 0) :: .ref bo :: st) (uC, uM, x) := by
  obtain ⟨p, e, s, m, args, below, meth, c, A, Q⟩ := X
  obtain ⟨hx, hb, hml, hown, hts, hr, hlk, hK, hA, hOL, hO, hQ, hW⟩ := hJ
  refine (hW _ _ _ _).mpr (fun H locs ls hP hD hS hl => ?_)
  refine va_last (D := D) hx hb hK hP hD hS 55 1 (n := 1) (f := oF x) rfl rfl (iZ_in (by decide) (by decide) (by decide)) d (fun H1 locs1 hP1 hD1 hS1 => ?_)
  have e : (wL adM bo cI cJ (uC, uM, x)).set 55 (bo, .inl (cJ, 1, .inr (.inl (vp_updL (oF x) (iZ 0).toNatClampNeg (iZ r).toInt64)))) = wL adM bo cI cJ (uC, uM, r) := by
    show (wL adM bo cI cJ (uC, uM, x)).set 55 (bo, .inl (cJ, 1, .inr (.inl (vp_updL (oF x) 0 (iZ r).toInt64)))) = _
    rw [oF_up]
    rfl
  rw [e] at hP1 hD1
  exact (hW _ _ _ _).mp k H1 locs1 ls hP1 hD1 hS1 hl
/-- the class's contract, the reference's, in the law's world -/
theorem lfC {l : Launch} {D : va_G} {cI cJ : ClassId} {adM : Nat → Nat} {bo : Nat} {O : OT} {y : MethodName} {cc : ByteArray} {n : Nat} {rt : Option FieldType} {rm : Room} {as : List Value} {uC : sC} {uM : sM} {x : Int} {post : Option Value → sC → Prop} (hOL : OL O) (h : Ct l y cc n rt rm D [(cI, .int)] O (wC cI) as uC post) : Ct l y cc n rt rm D [(cI, .int), (cJ, .long)] O (wL adM bo cI cJ) as (uC, uM, x) (fun o v2 => ∃ u2, post o u2 ∧ v2 = (u2, uM, x)) :=
  ct_lift (put := fun u2 => (u2, uM, x)) (a := []) (b := wM adM cI uM ++ [(bo, .inl (cJ, 1, .inr (.inl (oF x))))]) hOL rfl (fun _ => rfl) (fun q hq => by rw [List.mem_singleton.mp hq]; exact List.mem_cons_self) h
theorem lfX {l : Launch} {D : va_G} {cI cJ : ClassId} {adM : Nat → Nat} {bo : Nat} {O : OT} {y : MethodName} {cc : ByteArray} {n : Nat} {rt : Option FieldType} {rm : Room} {as : List Value} {uC : sC} {uM : sM} {x : Int} {E : String} {px : sC → Prop} (hOL : OL O) (h : CtX l y cc n rt rm D [(cI, .int)] O (wC cI) as uC E px) : CtX l y cc n rt rm D [(cI, .int), (cJ, .long)] O (wL adM bo cI cJ) as (uC, uM, x) E (fun v2 => ∃ u2, px u2 ∧ v2 = (u2, uM, x)) :=
  ctx_lift (put := fun u2 => (u2, uM, x)) (a := []) (b := wM adM cI uM ++ [(bo, .inl (cJ, 1, .inr (.inl (oF x))))]) hOL rfl (fun _ => rfl) (fun q hq => by rw [List.mem_singleton.mp hq]; exact List.mem_cons_self) h
theorem lfM {l : Launch} {D : va_G} {cI cJ : ClassId} {adM : Nat → Nat} {bo : Nat} {O : OT} {y : MethodName} {cc : ByteArray} {n : Nat} {rt : Option FieldType} {rm : Room} {as : List Value} {uC : sC} {uM : sM} {x : Int} {post : Option Value → sM → Prop} (hOL : OL O) (h : Ct l y cc n rt rm D [(cI, .int)] O (wM adM cI) as uM post) : Ct l y cc n rt rm D [(cI, .int), (cJ, .long)] O (wL adM bo cI cJ) as (uC, uM, x) (fun o v2 => ∃ u2, post o u2 ∧ v2 = (uC, u2, x)) :=
  ct_lift (put := fun u2 => (uC, u2, x)) (a := wC cI uC) (b := [(bo, .inl (cJ, 1, .inr (.inl (oF x))))]) hOL rfl (fun _ => rfl) (fun q hq => by rw [List.mem_singleton.mp hq]; exact List.mem_cons_self) h
theorem pI_ex {σ τ : Type} {P : Int → σ → Prop} {f : σ → τ} {o : Option Value} {v2 : τ} (h : ∃ u2, pI P o u2 ∧ v2 = f u2) : pI (fun r v2 => ∃ u2, P r u2 ∧ v2 = f u2) o v2 := by
  obtain ⟨u2, ⟨r, h1, h2⟩, h3⟩ := h
  exact ⟨r, h1, u2, h2, h3⟩
/-- what the law's place of a static call of its own says -/
def LkW (own : String) (idx : Nat) (y : MethodName) (cc : ByteArray) (n : Nat) (hh : List (Nat × Nat × Nat × Nat)) (k : Nat) : Prop := (∀ w ∈ va_wsS own idx y [Cond.codeWith y cc n (some .int) hh], w ∈ gw) ∧ y.cls ≠ "java/lang/invoke/MethodHandle" ∧ y.cls ≠ "java/lang/invoke/VarHandle" ∧ (parseMethodDescriptor y.desc).map (fun d => d.parameters.length) = some k
theorem lkL_7 : LkV RL 7 RX10 yX10_song cX10_song 3 (some .int) 1 :=
  ⟨fun w hw => by
    rcases (show w = _ ∨ w = _ ∨ w = _ ∨ w = _ ∨ w = _ by simpa [wsV] using hw) with rfl | rfl | rfl | rfl | rfl
    · exact gw_of (List.mem_of_getElem? (i := 582) (by decide +kernel)) (by decide +kernel)
    · exact gw_of (List.mem_of_getElem? (i := 583) (by decide +kernel)) (by decide +kernel)
    · exact gw_of (List.mem_of_getElem? (i := 584) (by decide +kernel)) (by decide +kernel)
    · exact gw_of (List.mem_of_getElem? (i := 47) (by decide +kernel)) (by decide +kernel)
    · exact gw_of (List.mem_of_getElem? (i := 585) (by decide +kernel)) (by decide +kernel), rfl, by decide, by decide, by decide +kernel⟩
theorem lkL_15 : LkV RL 15 RX10 yX10_fault cX10_fault 2 (some .int) 1 :=
  ⟨fun w hw => by
    rcases (show w = _ ∨ w = _ ∨ w = _ ∨ w = _ ∨ w = _ by simpa [wsV] using hw) with rfl | rfl | rfl | rfl | rfl
    · exact gw_of (List.mem_of_getElem? (i := 773) (by decide +kernel)) (by decide +kernel)
    · exact gw_of (List.mem_of_getElem? (i := 774) (by decide +kernel)) (by decide +kernel)
    · exact gw_of (List.mem_of_getElem? (i := 775) (by decide +kernel)) (by decide +kernel)
    · exact gw_of (List.mem_of_getElem? (i := 47) (by decide +kernel)) (by decide +kernel)
    · exact gw_of (List.mem_of_getElem? (i := 776) (by decide +kernel)) (by decide +kernel), rfl, by decide, by decide, by decide +kernel⟩
theorem lkL_20 : LkV RL 20 RX10 yX10_key cX10_key 3 (some .int) 1 :=
  ⟨fun w hw => by
    rcases (show w = _ ∨ w = _ ∨ w = _ ∨ w = _ ∨ w = _ by simpa [wsV] using hw) with rfl | rfl | rfl | rfl | rfl
    · exact gw_of (List.mem_of_getElem? (i := 796) (by decide +kernel)) (by decide +kernel)
    · exact gw_of (List.mem_of_getElem? (i := 797) (by decide +kernel)) (by decide +kernel)
    · exact gw_of (List.mem_of_getElem? (i := 798) (by decide +kernel)) (by decide +kernel)
    · exact gw_of (List.mem_of_getElem? (i := 47) (by decide +kernel)) (by decide +kernel)
    · exact gw_of (List.mem_of_getElem? (i := 799) (by decide +kernel)) (by decide +kernel), rfl, by decide, by decide, by decide +kernel⟩
theorem lkL_23 : LkV RL 23 RX10 yX10_move cX10_move 3 (some .int) 1 :=
  ⟨fun w hw => by
    rcases (show w = _ ∨ w = _ ∨ w = _ ∨ w = _ ∨ w = _ by simpa [wsV] using hw) with rfl | rfl | rfl | rfl | rfl
    · exact gw_of (List.mem_of_getElem? (i := 804) (by decide +kernel)) (by decide +kernel)
    · exact gw_of (List.mem_of_getElem? (i := 805) (by decide +kernel)) (by decide +kernel)
    · exact gw_of (List.mem_of_getElem? (i := 806) (by decide +kernel)) (by decide +kernel)
    · exact gw_of (List.mem_of_getElem? (i := 47) (by decide +kernel)) (by decide +kernel)
    · exact gw_of (List.mem_of_getElem? (i := 807) (by decide +kernel)) (by decide +kernel), rfl, by decide, by decide, by decide +kernel⟩
theorem lkL_26 : LkV RL 26 RX10 yX10_chord cX10_chord 3 (some .int) 2 :=
  ⟨fun w hw => by
    rcases (show w = _ ∨ w = _ ∨ w = _ ∨ w = _ ∨ w = _ by simpa [wsV] using hw) with rfl | rfl | rfl | rfl | rfl
    · exact gw_of (List.mem_of_getElem? (i := 820) (by decide +kernel)) (by decide +kernel)
    · exact gw_of (List.mem_of_getElem? (i := 821) (by decide +kernel)) (by decide +kernel)
    · exact gw_of (List.mem_of_getElem? (i := 822) (by decide +kernel)) (by decide +kernel)
    · exact gw_of (List.mem_of_getElem? (i := 47) (by decide +kernel)) (by decide +kernel)
    · exact gw_of (List.mem_of_getElem? (i := 823) (by decide +kernel)) (by decide +kernel), rfl, by decide, by decide, by decide +kernel⟩
theorem lkL_30 : LkV RL 30 RX10 yX10_name cX10_name 2 (some .int) 1 :=
  ⟨fun w hw => by
    rcases (show w = _ ∨ w = _ ∨ w = _ ∨ w = _ ∨ w = _ by simpa [wsV] using hw) with rfl | rfl | rfl | rfl | rfl
    · exact gw_of (List.mem_of_getElem? (i := 830) (by decide +kernel)) (by decide +kernel)
    · exact gw_of (List.mem_of_getElem? (i := 831) (by decide +kernel)) (by decide +kernel)
    · exact gw_of (List.mem_of_getElem? (i := 832) (by decide +kernel)) (by decide +kernel)
    · exact gw_of (List.mem_of_getElem? (i := 47) (by decide +kernel)) (by decide +kernel)
    · exact gw_of (List.mem_of_getElem? (i := 833) (by decide +kernel)) (by decide +kernel), rfl, by decide, by decide, by decide +kernel⟩
theorem lkL_33 : LkV RL 33 RX10 yX10_told cX10_told 2 (some .int) 1 :=
  ⟨fun w hw => by
    rcases (show w = _ ∨ w = _ ∨ w = _ ∨ w = _ ∨ w = _ by simpa [wsV] using hw) with rfl | rfl | rfl | rfl | rfl
    · exact gw_of (List.mem_of_getElem? (i := 838) (by decide +kernel)) (by decide +kernel)
    · exact gw_of (List.mem_of_getElem? (i := 839) (by decide +kernel)) (by decide +kernel)
    · exact gw_of (List.mem_of_getElem? (i := 840) (by decide +kernel)) (by decide +kernel)
    · exact gw_of (List.mem_of_getElem? (i := 47) (by decide +kernel)) (by decide +kernel)
    · exact gw_of (List.mem_of_getElem? (i := 841) (by decide +kernel)) (by decide +kernel), rfl, by decide, by decide, by decide +kernel⟩
theorem lkL_36 : LkV RL 36 RX10 yX10_string cX10_string 2 (some .int) 1 :=
  ⟨fun w hw => by
    rcases (show w = _ ∨ w = _ ∨ w = _ ∨ w = _ ∨ w = _ by simpa [wsV] using hw) with rfl | rfl | rfl | rfl | rfl
    · exact gw_of (List.mem_of_getElem? (i := 851) (by decide +kernel)) (by decide +kernel)
    · exact gw_of (List.mem_of_getElem? (i := 852) (by decide +kernel)) (by decide +kernel)
    · exact gw_of (List.mem_of_getElem? (i := 853) (by decide +kernel)) (by decide +kernel)
    · exact gw_of (List.mem_of_getElem? (i := 47) (by decide +kernel)) (by decide +kernel)
    · exact gw_of (List.mem_of_getElem? (i := 854) (by decide +kernel)) (by decide +kernel), rfl, by decide, by decide, by decide +kernel⟩
theorem lkL_39 : LkV RL 39 RX10 yX10_hands cX10_hands 3 (some .int) 2 :=
  ⟨fun w hw => by
    rcases (show w = _ ∨ w = _ ∨ w = _ ∨ w = _ ∨ w = _ by simpa [wsV] using hw) with rfl | rfl | rfl | rfl | rfl
    · exact gw_of (List.mem_of_getElem? (i := 859) (by decide +kernel)) (by decide +kernel)
    · exact gw_of (List.mem_of_getElem? (i := 860) (by decide +kernel)) (by decide +kernel)
    · exact gw_of (List.mem_of_getElem? (i := 861) (by decide +kernel)) (by decide +kernel)
    · exact gw_of (List.mem_of_getElem? (i := 47) (by decide +kernel)) (by decide +kernel)
    · exact gw_of (List.mem_of_getElem? (i := 862) (by decide +kernel)) (by decide +kernel), rfl, by decide, by decide, by decide +kernel⟩
theorem lkL_42 : LkV RL 42 RX10 yX10_fret cX10_fret 7 (some .int) 4 :=
  ⟨fun w hw => by
    rcases (show w = _ ∨ w = _ ∨ w = _ ∨ w = _ ∨ w = _ by simpa [wsV] using hw) with rfl | rfl | rfl | rfl | rfl
    · exact gw_of (List.mem_of_getElem? (i := 871) (by decide +kernel)) (by decide +kernel)
    · exact gw_of (List.mem_of_getElem? (i := 872) (by decide +kernel)) (by decide +kernel)
    · exact gw_of (List.mem_of_getElem? (i := 873) (by decide +kernel)) (by decide +kernel)
    · exact gw_of (List.mem_of_getElem? (i := 47) (by decide +kernel)) (by decide +kernel)
    · exact gw_of (List.mem_of_getElem? (i := 874) (by decide +kernel)) (by decide +kernel), rfl, by decide, by decide, by decide +kernel⟩
theorem lkL_46 : LkV RL 46 RX10 yX10_play cX10_play 3 (some .int) 1 :=
  ⟨fun w hw => by
    rcases (show w = _ ∨ w = _ ∨ w = _ ∨ w = _ ∨ w = _ by simpa [wsV] using hw) with rfl | rfl | rfl | rfl | rfl
    · exact gw_of (List.mem_of_getElem? (i := 883) (by decide +kernel)) (by decide +kernel)
    · exact gw_of (List.mem_of_getElem? (i := 884) (by decide +kernel)) (by decide +kernel)
    · exact gw_of (List.mem_of_getElem? (i := 885) (by decide +kernel)) (by decide +kernel)
    · exact gw_of (List.mem_of_getElem? (i := 47) (by decide +kernel)) (by decide +kernel)
    · exact gw_of (List.mem_of_getElem? (i := 886) (by decide +kernel)) (by decide +kernel), rfl, by decide, by decide, by decide +kernel⟩
theorem lkL_49 : LkV RL 49 RX10 yX10_count cX10_count 2 (some .int) 1 :=
  ⟨fun w hw => by
    rcases (show w = _ ∨ w = _ ∨ w = _ ∨ w = _ ∨ w = _ by simpa [wsV] using hw) with rfl | rfl | rfl | rfl | rfl
    · exact gw_of (List.mem_of_getElem? (i := 890) (by decide +kernel)) (by decide +kernel)
    · exact gw_of (List.mem_of_getElem? (i := 891) (by decide +kernel)) (by decide +kernel)
    · exact gw_of (List.mem_of_getElem? (i := 892) (by decide +kernel)) (by decide +kernel)
    · exact gw_of (List.mem_of_getElem? (i := 47) (by decide +kernel)) (by decide +kernel)
    · exact gw_of (List.mem_of_getElem? (i := 893) (by decide +kernel)) (by decide +kernel), rfl, by decide, by decide, by decide +kernel⟩
theorem lkL_56 : LkV RL 56 RX10 yX10_feed cX10_feed 6 (some .int) 5 :=
  ⟨fun w hw => by
    rcases (show w = _ ∨ w = _ ∨ w = _ ∨ w = _ ∨ w = _ by simpa [wsV] using hw) with rfl | rfl | rfl | rfl | rfl
    · exact gw_of (List.mem_of_getElem? (i := 301) (by decide +kernel)) (by decide +kernel)
    · exact gw_of (List.mem_of_getElem? (i := 302) (by decide +kernel)) (by decide +kernel)
    · exact gw_of (List.mem_of_getElem? (i := 303) (by decide +kernel)) (by decide +kernel)
    · exact gw_of (List.mem_of_getElem? (i := 47) (by decide +kernel)) (by decide +kernel)
    · exact gw_of (List.mem_of_getElem? (i := 304) (by decide +kernel)) (by decide +kernel), rfl, by decide, by decide, by decide +kernel⟩
theorem lkL_60 : LkV RL 60 RX11 yX11_feed cX11_feed 6 (some .int) 5 :=
  ⟨fun w hw => by
    rcases (show w = _ ∨ w = _ ∨ w = _ ∨ w = _ ∨ w = _ by simpa [wsV] using hw) with rfl | rfl | rfl | rfl | rfl
    · exact gw_of (List.mem_of_getElem? (i := 1041) (by decide +kernel)) (by decide +kernel)
    · exact gw_of (List.mem_of_getElem? (i := 1042) (by decide +kernel)) (by decide +kernel)
    · exact gw_of (List.mem_of_getElem? (i := 1043) (by decide +kernel)) (by decide +kernel)
    · exact gw_of (List.mem_of_getElem? (i := 56) (by decide +kernel)) (by decide +kernel)
    · exact gw_of (List.mem_of_getElem? (i := 1044) (by decide +kernel)) (by decide +kernel), rfl, by decide, by decide, by decide +kernel⟩
theorem lkL_66 : LkV RL 66 RX11 yX11_song cX11_song 3 (some .int) 1 :=
  ⟨fun w hw => by
    rcases (show w = _ ∨ w = _ ∨ w = _ ∨ w = _ ∨ w = _ by simpa [wsV] using hw) with rfl | rfl | rfl | rfl | rfl
    · exact gw_of (List.mem_of_getElem? (i := 1049) (by decide +kernel)) (by decide +kernel)
    · exact gw_of (List.mem_of_getElem? (i := 1050) (by decide +kernel)) (by decide +kernel)
    · exact gw_of (List.mem_of_getElem? (i := 1051) (by decide +kernel)) (by decide +kernel)
    · exact gw_of (List.mem_of_getElem? (i := 56) (by decide +kernel)) (by decide +kernel)
    · exact gw_of (List.mem_of_getElem? (i := 1052) (by decide +kernel)) (by decide +kernel), rfl, by decide, by decide, by decide +kernel⟩
theorem lkL_67 : LkV RL 67 RX11 yX11_thrown cX11_thrown 1 (some .int) 0 :=
  ⟨fun w hw => by
    rcases (show w = _ ∨ w = _ ∨ w = _ ∨ w = _ ∨ w = _ by simpa [wsV] using hw) with rfl | rfl | rfl | rfl | rfl
    · exact gw_of (List.mem_of_getElem? (i := 1037) (by decide +kernel)) (by decide +kernel)
    · exact gw_of (List.mem_of_getElem? (i := 1038) (by decide +kernel)) (by decide +kernel)
    · exact gw_of (List.mem_of_getElem? (i := 1039) (by decide +kernel)) (by decide +kernel)
    · exact gw_of (List.mem_of_getElem? (i := 56) (by decide +kernel)) (by decide +kernel)
    · exact gw_of (List.mem_of_getElem? (i := 1040) (by decide +kernel)) (by decide +kernel), rfl, by decide, by decide, by decide +kernel⟩
theorem lkL_73 : LkV RL 73 RX11 yX11_fault cX11_fault 2 (some .int) 1 :=
  ⟨fun w hw => by
    rcases (show w = _ ∨ w = _ ∨ w = _ ∨ w = _ ∨ w = _ by simpa [wsV] using hw) with rfl | rfl | rfl | rfl | rfl
    · exact gw_of (List.mem_of_getElem? (i := 1107) (by decide +kernel)) (by decide +kernel)
    · exact gw_of (List.mem_of_getElem? (i := 1108) (by decide +kernel)) (by decide +kernel)
    · exact gw_of (List.mem_of_getElem? (i := 1109) (by decide +kernel)) (by decide +kernel)
    · exact gw_of (List.mem_of_getElem? (i := 56) (by decide +kernel)) (by decide +kernel)
    · exact gw_of (List.mem_of_getElem? (i := 1110) (by decide +kernel)) (by decide +kernel), rfl, by decide, by decide, by decide +kernel⟩
theorem lkL_76 : LkV RL 76 RX11 yX11_key cX11_key 3 (some .int) 1 :=
  ⟨fun w hw => by
    rcases (show w = _ ∨ w = _ ∨ w = _ ∨ w = _ ∨ w = _ by simpa [wsV] using hw) with rfl | rfl | rfl | rfl | rfl
    · exact gw_of (List.mem_of_getElem? (i := 1111) (by decide +kernel)) (by decide +kernel)
    · exact gw_of (List.mem_of_getElem? (i := 1112) (by decide +kernel)) (by decide +kernel)
    · exact gw_of (List.mem_of_getElem? (i := 1113) (by decide +kernel)) (by decide +kernel)
    · exact gw_of (List.mem_of_getElem? (i := 56) (by decide +kernel)) (by decide +kernel)
    · exact gw_of (List.mem_of_getElem? (i := 1114) (by decide +kernel)) (by decide +kernel), rfl, by decide, by decide, by decide +kernel⟩
theorem lkL_79 : LkV RL 79 RX11 yX11_move cX11_move 4 (some .int) 1 :=
  ⟨fun w hw => by
    rcases (show w = _ ∨ w = _ ∨ w = _ ∨ w = _ ∨ w = _ by simpa [wsV] using hw) with rfl | rfl | rfl | rfl | rfl
    · exact gw_of (List.mem_of_getElem? (i := 1115) (by decide +kernel)) (by decide +kernel)
    · exact gw_of (List.mem_of_getElem? (i := 1116) (by decide +kernel)) (by decide +kernel)
    · exact gw_of (List.mem_of_getElem? (i := 1117) (by decide +kernel)) (by decide +kernel)
    · exact gw_of (List.mem_of_getElem? (i := 56) (by decide +kernel)) (by decide +kernel)
    · exact gw_of (List.mem_of_getElem? (i := 1118) (by decide +kernel)) (by decide +kernel), rfl, by decide, by decide, by decide +kernel⟩
theorem lkL_83 : LkV RL 83 RX11 yX11_chord cX11_chord 3 (some .int) 2 :=
  ⟨fun w hw => by
    rcases (show w = _ ∨ w = _ ∨ w = _ ∨ w = _ ∨ w = _ by simpa [wsV] using hw) with rfl | rfl | rfl | rfl | rfl
    · exact gw_of (List.mem_of_getElem? (i := 1122) (by decide +kernel)) (by decide +kernel)
    · exact gw_of (List.mem_of_getElem? (i := 1123) (by decide +kernel)) (by decide +kernel)
    · exact gw_of (List.mem_of_getElem? (i := 1124) (by decide +kernel)) (by decide +kernel)
    · exact gw_of (List.mem_of_getElem? (i := 56) (by decide +kernel)) (by decide +kernel)
    · exact gw_of (List.mem_of_getElem? (i := 1125) (by decide +kernel)) (by decide +kernel), rfl, by decide, by decide, by decide +kernel⟩
theorem lkL_86 : LkV RL 86 RX11 yX11_name cX11_name 3 (some .int) 1 :=
  ⟨fun w hw => by
    rcases (show w = _ ∨ w = _ ∨ w = _ ∨ w = _ ∨ w = _ by simpa [wsV] using hw) with rfl | rfl | rfl | rfl | rfl
    · exact gw_of (List.mem_of_getElem? (i := 1140) (by decide +kernel)) (by decide +kernel)
    · exact gw_of (List.mem_of_getElem? (i := 1141) (by decide +kernel)) (by decide +kernel)
    · exact gw_of (List.mem_of_getElem? (i := 1142) (by decide +kernel)) (by decide +kernel)
    · exact gw_of (List.mem_of_getElem? (i := 56) (by decide +kernel)) (by decide +kernel)
    · exact gw_of (List.mem_of_getElem? (i := 1143) (by decide +kernel)) (by decide +kernel), rfl, by decide, by decide, by decide +kernel⟩
theorem lkL_87 : LkV RL 87 RX10 yX10_write cX10_write 1 (some .int) 0 :=
  ⟨fun w hw => by
    rcases (show w = _ ∨ w = _ ∨ w = _ ∨ w = _ ∨ w = _ by simpa [wsV] using hw) with rfl | rfl | rfl | rfl | rfl
    · exact gw_of (List.mem_of_getElem? (i := 309) (by decide +kernel)) (by decide +kernel)
    · exact gw_of (List.mem_of_getElem? (i := 310) (by decide +kernel)) (by decide +kernel)
    · exact gw_of (List.mem_of_getElem? (i := 311) (by decide +kernel)) (by decide +kernel)
    · exact gw_of (List.mem_of_getElem? (i := 47) (by decide +kernel)) (by decide +kernel)
    · exact gw_of (List.mem_of_getElem? (i := 312) (by decide +kernel)) (by decide +kernel), rfl, by decide, by decide, by decide +kernel⟩
theorem lkL_90 : LkV RL 90 RX11 yX11_write cX11_write 5 (some .int) 0 :=
  ⟨fun w hw => by
    rcases (show w = _ ∨ w = _ ∨ w = _ ∨ w = _ ∨ w = _ by simpa [wsV] using hw) with rfl | rfl | rfl | rfl | rfl
    · exact gw_of (List.mem_of_getElem? (i := 1161) (by decide +kernel)) (by decide +kernel)
    · exact gw_of (List.mem_of_getElem? (i := 1162) (by decide +kernel)) (by decide +kernel)
    · exact gw_of (List.mem_of_getElem? (i := 1163) (by decide +kernel)) (by decide +kernel)
    · exact gw_of (List.mem_of_getElem? (i := 56) (by decide +kernel)) (by decide +kernel)
    · exact gw_of (List.mem_of_getElem? (i := 1164) (by decide +kernel)) (by decide +kernel), rfl, by decide, by decide, by decide +kernel⟩
theorem lkL_93 : LkV RL 93 RX11 yX11_told cX11_told 2 (some .int) 1 :=
  ⟨fun w hw => by
    rcases (show w = _ ∨ w = _ ∨ w = _ ∨ w = _ ∨ w = _ by simpa [wsV] using hw) with rfl | rfl | rfl | rfl | rfl
    · exact gw_of (List.mem_of_getElem? (i := 1176) (by decide +kernel)) (by decide +kernel)
    · exact gw_of (List.mem_of_getElem? (i := 1177) (by decide +kernel)) (by decide +kernel)
    · exact gw_of (List.mem_of_getElem? (i := 1178) (by decide +kernel)) (by decide +kernel)
    · exact gw_of (List.mem_of_getElem? (i := 56) (by decide +kernel)) (by decide +kernel)
    · exact gw_of (List.mem_of_getElem? (i := 1179) (by decide +kernel)) (by decide +kernel), rfl, by decide, by decide, by decide +kernel⟩
theorem lkL_96 : LkV RL 96 RX11 yX11_string cX11_string 2 (some .int) 1 :=
  ⟨fun w hw => by
    rcases (show w = _ ∨ w = _ ∨ w = _ ∨ w = _ ∨ w = _ by simpa [wsV] using hw) with rfl | rfl | rfl | rfl | rfl
    · exact gw_of (List.mem_of_getElem? (i := 1184) (by decide +kernel)) (by decide +kernel)
    · exact gw_of (List.mem_of_getElem? (i := 1185) (by decide +kernel)) (by decide +kernel)
    · exact gw_of (List.mem_of_getElem? (i := 1186) (by decide +kernel)) (by decide +kernel)
    · exact gw_of (List.mem_of_getElem? (i := 56) (by decide +kernel)) (by decide +kernel)
    · exact gw_of (List.mem_of_getElem? (i := 1187) (by decide +kernel)) (by decide +kernel), rfl, by decide, by decide, by decide +kernel⟩
theorem lkL_97 : LkV RL 97 RX10 yX10_unstring cX10_unstring 2 (some .int) 0 :=
  ⟨fun w hw => by
    rcases (show w = _ ∨ w = _ ∨ w = _ ∨ w = _ ∨ w = _ by simpa [wsV] using hw) with rfl | rfl | rfl | rfl | rfl
    · exact gw_of (List.mem_of_getElem? (i := 445) (by decide +kernel)) (by decide +kernel)
    · exact gw_of (List.mem_of_getElem? (i := 446) (by decide +kernel)) (by decide +kernel)
    · exact gw_of (List.mem_of_getElem? (i := 447) (by decide +kernel)) (by decide +kernel)
    · exact gw_of (List.mem_of_getElem? (i := 47) (by decide +kernel)) (by decide +kernel)
    · exact gw_of (List.mem_of_getElem? (i := 448) (by decide +kernel)) (by decide +kernel), rfl, by decide, by decide, by decide +kernel⟩
theorem lkL_100 : LkV RL 100 RX11 yX11_unstring cX11_unstring 2 (some .int) 0 :=
  ⟨fun w hw => by
    rcases (show w = _ ∨ w = _ ∨ w = _ ∨ w = _ ∨ w = _ by simpa [wsV] using hw) with rfl | rfl | rfl | rfl | rfl
    · exact gw_of (List.mem_of_getElem? (i := 1188) (by decide +kernel)) (by decide +kernel)
    · exact gw_of (List.mem_of_getElem? (i := 1189) (by decide +kernel)) (by decide +kernel)
    · exact gw_of (List.mem_of_getElem? (i := 1190) (by decide +kernel)) (by decide +kernel)
    · exact gw_of (List.mem_of_getElem? (i := 56) (by decide +kernel)) (by decide +kernel)
    · exact gw_of (List.mem_of_getElem? (i := 1191) (by decide +kernel)) (by decide +kernel), rfl, by decide, by decide, by decide +kernel⟩
theorem lkL_103 : LkV RL 103 RX11 yX11_hands cX11_hands 3 (some .int) 2 :=
  ⟨fun w hw => by
    rcases (show w = _ ∨ w = _ ∨ w = _ ∨ w = _ ∨ w = _ by simpa [wsV] using hw) with rfl | rfl | rfl | rfl | rfl
    · exact gw_of (List.mem_of_getElem? (i := 1192) (by decide +kernel)) (by decide +kernel)
    · exact gw_of (List.mem_of_getElem? (i := 1193) (by decide +kernel)) (by decide +kernel)
    · exact gw_of (List.mem_of_getElem? (i := 1194) (by decide +kernel)) (by decide +kernel)
    · exact gw_of (List.mem_of_getElem? (i := 56) (by decide +kernel)) (by decide +kernel)
    · exact gw_of (List.mem_of_getElem? (i := 1195) (by decide +kernel)) (by decide +kernel), rfl, by decide, by decide, by decide +kernel⟩
theorem lkL_107 : LkV RL 107 RX11 yX11_fret cX11_fret 7 (some .int) 4 :=
  ⟨fun w hw => by
    rcases (show w = _ ∨ w = _ ∨ w = _ ∨ w = _ ∨ w = _ by simpa [wsV] using hw) with rfl | rfl | rfl | rfl | rfl
    · exact gw_of (List.mem_of_getElem? (i := 1215) (by decide +kernel)) (by decide +kernel)
    · exact gw_of (List.mem_of_getElem? (i := 1216) (by decide +kernel)) (by decide +kernel)
    · exact gw_of (List.mem_of_getElem? (i := 1217) (by decide +kernel)) (by decide +kernel)
    · exact gw_of (List.mem_of_getElem? (i := 56) (by decide +kernel)) (by decide +kernel)
    · exact gw_of (List.mem_of_getElem? (i := 1218) (by decide +kernel)) (by decide +kernel), rfl, by decide, by decide, by decide +kernel⟩
theorem lkL_110 : LkV RL 110 RX11 yX11_play cX11_play 3 (some .int) 1 :=
  ⟨fun w hw => by
    rcases (show w = _ ∨ w = _ ∨ w = _ ∨ w = _ ∨ w = _ by simpa [wsV] using hw) with rfl | rfl | rfl | rfl | rfl
    · exact gw_of (List.mem_of_getElem? (i := 1219) (by decide +kernel)) (by decide +kernel)
    · exact gw_of (List.mem_of_getElem? (i := 1220) (by decide +kernel)) (by decide +kernel)
    · exact gw_of (List.mem_of_getElem? (i := 1221) (by decide +kernel)) (by decide +kernel)
    · exact gw_of (List.mem_of_getElem? (i := 56) (by decide +kernel)) (by decide +kernel)
    · exact gw_of (List.mem_of_getElem? (i := 1222) (by decide +kernel)) (by decide +kernel), rfl, by decide, by decide, by decide +kernel⟩
theorem lkL_111 : LkV RL 111 RX10 yX10_easiest cX10_easiest 5 (some .int) 0 :=
  ⟨fun w hw => by
    rcases (show w = _ ∨ w = _ ∨ w = _ ∨ w = _ ∨ w = _ by simpa [wsV] using hw) with rfl | rfl | rfl | rfl | rfl
    · exact gw_of (List.mem_of_getElem? (i := 457) (by decide +kernel)) (by decide +kernel)
    · exact gw_of (List.mem_of_getElem? (i := 458) (by decide +kernel)) (by decide +kernel)
    · exact gw_of (List.mem_of_getElem? (i := 459) (by decide +kernel)) (by decide +kernel)
    · exact gw_of (List.mem_of_getElem? (i := 47) (by decide +kernel)) (by decide +kernel)
    · exact gw_of (List.mem_of_getElem? (i := 460) (by decide +kernel)) (by decide +kernel), rfl, by decide, by decide, by decide +kernel⟩
theorem lkL_114 : LkV RL 114 RX11 yX11_easiest cX11_easiest 5 (some .int) 0 :=
  ⟨fun w hw => by
    rcases (show w = _ ∨ w = _ ∨ w = _ ∨ w = _ ∨ w = _ by simpa [wsV] using hw) with rfl | rfl | rfl | rfl | rfl
    · exact gw_of (List.mem_of_getElem? (i := 1235) (by decide +kernel)) (by decide +kernel)
    · exact gw_of (List.mem_of_getElem? (i := 1236) (by decide +kernel)) (by decide +kernel)
    · exact gw_of (List.mem_of_getElem? (i := 1237) (by decide +kernel)) (by decide +kernel)
    · exact gw_of (List.mem_of_getElem? (i := 56) (by decide +kernel)) (by decide +kernel)
    · exact gw_of (List.mem_of_getElem? (i := 1238) (by decide +kernel)) (by decide +kernel), rfl, by decide, by decide, by decide +kernel⟩
theorem lkL_115 : LkV RL 115 RX10 yX10_played cX10_played 2 (some .int) 1 :=
  ⟨fun w hw => by
    rcases (show w = _ ∨ w = _ ∨ w = _ ∨ w = _ ∨ w = _ by simpa [wsV] using hw) with rfl | rfl | rfl | rfl | rfl
    · exact gw_of (List.mem_of_getElem? (i := 560) (by decide +kernel)) (by decide +kernel)
    · exact gw_of (List.mem_of_getElem? (i := 561) (by decide +kernel)) (by decide +kernel)
    · exact gw_of (List.mem_of_getElem? (i := 562) (by decide +kernel)) (by decide +kernel)
    · exact gw_of (List.mem_of_getElem? (i := 47) (by decide +kernel)) (by decide +kernel)
    · exact gw_of (List.mem_of_getElem? (i := 563) (by decide +kernel)) (by decide +kernel), rfl, by decide, by decide, by decide +kernel⟩
theorem lkL_118 : LkV RL 118 RX11 yX11_played cX11_played 2 (some .int) 1 :=
  ⟨fun w hw => by
    rcases (show w = _ ∨ w = _ ∨ w = _ ∨ w = _ ∨ w = _ by simpa [wsV] using hw) with rfl | rfl | rfl | rfl | rfl
    · exact gw_of (List.mem_of_getElem? (i := 1239) (by decide +kernel)) (by decide +kernel)
    · exact gw_of (List.mem_of_getElem? (i := 1240) (by decide +kernel)) (by decide +kernel)
    · exact gw_of (List.mem_of_getElem? (i := 1241) (by decide +kernel)) (by decide +kernel)
    · exact gw_of (List.mem_of_getElem? (i := 56) (by decide +kernel)) (by decide +kernel)
    · exact gw_of (List.mem_of_getElem? (i := 1242) (by decide +kernel)) (by decide +kernel), rfl, by decide, by decide, by decide +kernel⟩
theorem lkL_119 : LkV RL 119 RX10 yX10_guess cX10_guess 5 (some .int) 0 :=
  ⟨fun w hw => by
    rcases (show w = _ ∨ w = _ ∨ w = _ ∨ w = _ ∨ w = _ by simpa [wsV] using hw) with rfl | rfl | rfl | rfl | rfl
    · exact gw_of (List.mem_of_getElem? (i := 565) (by decide +kernel)) (by decide +kernel)
    · exact gw_of (List.mem_of_getElem? (i := 566) (by decide +kernel)) (by decide +kernel)
    · exact gw_of (List.mem_of_getElem? (i := 567) (by decide +kernel)) (by decide +kernel)
    · exact gw_of (List.mem_of_getElem? (i := 47) (by decide +kernel)) (by decide +kernel)
    · exact gw_of (List.mem_of_getElem? (i := 568) (by decide +kernel)) (by decide +kernel), rfl, by decide, by decide, by decide +kernel⟩
theorem lkL_122 : LkV RL 122 RX11 yX11_guess cX11_guess 7 (some .int) 0 :=
  ⟨fun w hw => by
    rcases (show w = _ ∨ w = _ ∨ w = _ ∨ w = _ ∨ w = _ by simpa [wsV] using hw) with rfl | rfl | rfl | rfl | rfl
    · exact gw_of (List.mem_of_getElem? (i := 1243) (by decide +kernel)) (by decide +kernel)
    · exact gw_of (List.mem_of_getElem? (i := 1244) (by decide +kernel)) (by decide +kernel)
    · exact gw_of (List.mem_of_getElem? (i := 1245) (by decide +kernel)) (by decide +kernel)
    · exact gw_of (List.mem_of_getElem? (i := 56) (by decide +kernel)) (by decide +kernel)
    · exact gw_of (List.mem_of_getElem? (i := 1246) (by decide +kernel)) (by decide +kernel), rfl, by decide, by decide, by decide +kernel⟩
theorem lkL_125 : LkV RL 125 RX11 yX11_count cX11_count 2 (some .int) 1 :=
  ⟨fun w hw => by
    rcases (show w = _ ∨ w = _ ∨ w = _ ∨ w = _ ∨ w = _ by simpa [wsV] using hw) with rfl | rfl | rfl | rfl | rfl
    · exact gw_of (List.mem_of_getElem? (i := 1247) (by decide +kernel)) (by decide +kernel)
    · exact gw_of (List.mem_of_getElem? (i := 1248) (by decide +kernel)) (by decide +kernel)
    · exact gw_of (List.mem_of_getElem? (i := 1249) (by decide +kernel)) (by decide +kernel)
    · exact gw_of (List.mem_of_getElem? (i := 56) (by decide +kernel)) (by decide +kernel)
    · exact gw_of (List.mem_of_getElem? (i := 1250) (by decide +kernel)) (by decide +kernel), rfl, by decide, by decide, by decide +kernel⟩
theorem lkW_L_song : LkW RL 61 yL_song cL_song 4 [(0, 9, 12, 13)] 3 :=
  ⟨fun w hw => by
    rcases (show w = _ ∨ w = _ ∨ w = _ ∨ w = _ by simpa [va_wsS] using hw) with rfl | rfl | rfl | rfl
    · exact gw_of (List.mem_of_getElem? (i := 578) (by decide +kernel)) (by decide +kernel)
    · exact gw_of (List.mem_of_getElem? (i := 579) (by decide +kernel)) (by decide +kernel)
    · exact gw_of (List.mem_of_getElem? (i := 46) (by decide +kernel)) (by decide +kernel)
    · exact gw_of (List.mem_of_getElem? (i := 580) (by decide +kernel)) (by decide +kernel), by decide, by decide, by decide +kernel⟩
theorem lkW_L_fault : LkW RL 71 yL_fault cL_fault 4 [(0, 9, 12, 18)] 3 :=
  ⟨fun w hw => by
    rcases (show w = _ ∨ w = _ ∨ w = _ ∨ w = _ by simpa [va_wsS] using hw) with rfl | rfl | rfl | rfl
    · exact gw_of (List.mem_of_getElem? (i := 769) (by decide +kernel)) (by decide +kernel)
    · exact gw_of (List.mem_of_getElem? (i := 770) (by decide +kernel)) (by decide +kernel)
    · exact gw_of (List.mem_of_getElem? (i := 46) (by decide +kernel)) (by decide +kernel)
    · exact gw_of (List.mem_of_getElem? (i := 771) (by decide +kernel)) (by decide +kernel), by decide, by decide, by decide +kernel⟩
theorem lkW_L_key : LkW RL 74 yL_key cL_key 4 [(0, 9, 12, 13)] 3 :=
  ⟨fun w hw => by
    rcases (show w = _ ∨ w = _ ∨ w = _ ∨ w = _ by simpa [va_wsS] using hw) with rfl | rfl | rfl | rfl
    · exact gw_of (List.mem_of_getElem? (i := 793) (by decide +kernel)) (by decide +kernel)
    · exact gw_of (List.mem_of_getElem? (i := 794) (by decide +kernel)) (by decide +kernel)
    · exact gw_of (List.mem_of_getElem? (i := 46) (by decide +kernel)) (by decide +kernel)
    · exact gw_of (List.mem_of_getElem? (i := 795) (by decide +kernel)) (by decide +kernel), by decide, by decide, by decide +kernel⟩
theorem lkW_L_move : LkW RL 77 yL_move cL_move 4 [(0, 9, 12, 13)] 3 :=
  ⟨fun w hw => by
    rcases (show w = _ ∨ w = _ ∨ w = _ ∨ w = _ by simpa [va_wsS] using hw) with rfl | rfl | rfl | rfl
    · exact gw_of (List.mem_of_getElem? (i := 801) (by decide +kernel)) (by decide +kernel)
    · exact gw_of (List.mem_of_getElem? (i := 802) (by decide +kernel)) (by decide +kernel)
    · exact gw_of (List.mem_of_getElem? (i := 46) (by decide +kernel)) (by decide +kernel)
    · exact gw_of (List.mem_of_getElem? (i := 803) (by decide +kernel)) (by decide +kernel), by decide, by decide, by decide +kernel⟩
theorem lkW_L_chord : LkW RL 80 yL_chord cL_chord 5 [(0, 10, 13, 18)] 4 :=
  ⟨fun w hw => by
    rcases (show w = _ ∨ w = _ ∨ w = _ ∨ w = _ by simpa [va_wsS] using hw) with rfl | rfl | rfl | rfl
    · exact gw_of (List.mem_of_getElem? (i := 817) (by decide +kernel)) (by decide +kernel)
    · exact gw_of (List.mem_of_getElem? (i := 818) (by decide +kernel)) (by decide +kernel)
    · exact gw_of (List.mem_of_getElem? (i := 46) (by decide +kernel)) (by decide +kernel)
    · exact gw_of (List.mem_of_getElem? (i := 819) (by decide +kernel)) (by decide +kernel), by decide, by decide, by decide +kernel⟩
theorem lkW_L_name : LkW RL 84 yL_name cL_name 4 [(0, 9, 12, 18)] 3 :=
  ⟨fun w hw => by
    rcases (show w = _ ∨ w = _ ∨ w = _ ∨ w = _ by simpa [va_wsS] using hw) with rfl | rfl | rfl | rfl
    · exact gw_of (List.mem_of_getElem? (i := 827) (by decide +kernel)) (by decide +kernel)
    · exact gw_of (List.mem_of_getElem? (i := 828) (by decide +kernel)) (by decide +kernel)
    · exact gw_of (List.mem_of_getElem? (i := 46) (by decide +kernel)) (by decide +kernel)
    · exact gw_of (List.mem_of_getElem? (i := 829) (by decide +kernel)) (by decide +kernel), by decide, by decide, by decide +kernel⟩
theorem lkW_L_told : LkW RL 91 yL_told cL_told 4 [(0, 9, 12, 18)] 3 :=
  ⟨fun w hw => by
    rcases (show w = _ ∨ w = _ ∨ w = _ ∨ w = _ by simpa [va_wsS] using hw) with rfl | rfl | rfl | rfl
    · exact gw_of (List.mem_of_getElem? (i := 835) (by decide +kernel)) (by decide +kernel)
    · exact gw_of (List.mem_of_getElem? (i := 836) (by decide +kernel)) (by decide +kernel)
    · exact gw_of (List.mem_of_getElem? (i := 46) (by decide +kernel)) (by decide +kernel)
    · exact gw_of (List.mem_of_getElem? (i := 837) (by decide +kernel)) (by decide +kernel), by decide, by decide, by decide +kernel⟩
theorem lkW_L_string : LkW RL 94 yL_string cL_string 4 [(0, 9, 12, 13)] 3 :=
  ⟨fun w hw => by
    rcases (show w = _ ∨ w = _ ∨ w = _ ∨ w = _ by simpa [va_wsS] using hw) with rfl | rfl | rfl | rfl
    · exact gw_of (List.mem_of_getElem? (i := 848) (by decide +kernel)) (by decide +kernel)
    · exact gw_of (List.mem_of_getElem? (i := 849) (by decide +kernel)) (by decide +kernel)
    · exact gw_of (List.mem_of_getElem? (i := 46) (by decide +kernel)) (by decide +kernel)
    · exact gw_of (List.mem_of_getElem? (i := 850) (by decide +kernel)) (by decide +kernel), by decide, by decide, by decide +kernel⟩
theorem lkW_L_hands : LkW RL 101 yL_hands cL_hands 5 [(0, 10, 13, 18), (0, 10, 17, 13)] 4 :=
  ⟨fun w hw => by
    rcases (show w = _ ∨ w = _ ∨ w = _ ∨ w = _ by simpa [va_wsS] using hw) with rfl | rfl | rfl | rfl
    · exact gw_of (List.mem_of_getElem? (i := 856) (by decide +kernel)) (by decide +kernel)
    · exact gw_of (List.mem_of_getElem? (i := 857) (by decide +kernel)) (by decide +kernel)
    · exact gw_of (List.mem_of_getElem? (i := 46) (by decide +kernel)) (by decide +kernel)
    · exact gw_of (List.mem_of_getElem? (i := 858) (by decide +kernel)) (by decide +kernel), by decide, by decide, by decide +kernel⟩
theorem lkW_L_fret : LkW RL 104 yL_fret cL_fret 7 [(0, 14, 17, 18), (0, 14, 21, 13)] 6 :=
  ⟨fun w hw => by
    rcases (show w = _ ∨ w = _ ∨ w = _ ∨ w = _ by simpa [va_wsS] using hw) with rfl | rfl | rfl | rfl
    · exact gw_of (List.mem_of_getElem? (i := 868) (by decide +kernel)) (by decide +kernel)
    · exact gw_of (List.mem_of_getElem? (i := 869) (by decide +kernel)) (by decide +kernel)
    · exact gw_of (List.mem_of_getElem? (i := 46) (by decide +kernel)) (by decide +kernel)
    · exact gw_of (List.mem_of_getElem? (i := 870) (by decide +kernel)) (by decide +kernel), by decide, by decide, by decide +kernel⟩
theorem lkW_L_play : LkW RL 108 yL_play cL_play 4 [(0, 9, 12, 13)] 3 :=
  ⟨fun w hw => by
    rcases (show w = _ ∨ w = _ ∨ w = _ ∨ w = _ by simpa [va_wsS] using hw) with rfl | rfl | rfl | rfl
    · exact gw_of (List.mem_of_getElem? (i := 880) (by decide +kernel)) (by decide +kernel)
    · exact gw_of (List.mem_of_getElem? (i := 881) (by decide +kernel)) (by decide +kernel)
    · exact gw_of (List.mem_of_getElem? (i := 46) (by decide +kernel)) (by decide +kernel)
    · exact gw_of (List.mem_of_getElem? (i := 882) (by decide +kernel)) (by decide +kernel), by decide, by decide, by decide +kernel⟩
theorem lkW_L_count : LkW RL 123 yL_count cL_count 4 [(0, 9, 12, 18)] 3 :=
  ⟨fun w hw => by
    rcases (show w = _ ∨ w = _ ∨ w = _ ∨ w = _ by simpa [va_wsS] using hw) with rfl | rfl | rfl | rfl
    · exact gw_of (List.mem_of_getElem? (i := 887) (by decide +kernel)) (by decide +kernel)
    · exact gw_of (List.mem_of_getElem? (i := 888) (by decide +kernel)) (by decide +kernel)
    · exact gw_of (List.mem_of_getElem? (i := 46) (by decide +kernel)) (by decide +kernel)
    · exact gw_of (List.mem_of_getElem? (i := 889) (by decide +kernel)) (by decide +kernel), by decide, by decide, by decide +kernel⟩
theorem klL_iae : Cond.classLink RL 13 "java/lang/IllegalArgumentException" ∈ gw := gw_of (List.mem_of_getElem? (i := 581) (by decide +kernel)) (by decide +kernel)
theorem kc_iae {O : OT} (hT : OGT O) : ∀ (A : Nat → Prop) (U : State) (H : Heap), O A U H → va_Nw (.castable "java/lang/IllegalArgumentException" "java/lang/IllegalArgumentException") U := fun A U H h => (hT A U H h).2.2.2 _ (List.mem_of_getElem? (i := 0) rfl)
theorem klL_nse : Cond.classLink RL 18 "java/util/NoSuchElementException" ∈ gw := gw_of (List.mem_of_getElem? (i := 772) (by decide +kernel)) (by decide +kernel)
theorem kc_nse {O : OT} (hT : OGT O) : ∀ (A : Nat → Prop) (U : State) (H : Heap), O A U H → va_Nw (.castable "java/util/NoSuchElementException" "java/util/NoSuchElementException") U := fun A U H h => (hT A U H h).2.2.2 _ (List.mem_of_getElem? (i := 1) rfl)
def OGN (O : OT) : Prop := ∀ (A : Nat → Prop) (U : State) (H : Heap), O A U H → va_Nc "java/lang/IllegalArgumentException" "java/util/NoSuchElementException" U
