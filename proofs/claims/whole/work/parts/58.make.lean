abbrev idW : va_W → va_W := fun w => w
def OGI (O : OT) (cI : ClassId) : Prop := ∀ (A : Nat → Prop) (U : State) (H : Heap), O A U H → U.vm.findClass "[I" = some cI
def nestT : List (Nat × String) := [(15, "ChordMover$Reader"), (22, "ChordMover$Song"), (36, "ChordMover$Page"), (43, "ChordMover$Writer"), (50, "ChordMover$Finder"), (64, "ChordMover$Plan")]
def OGL (O : OT) : Prop := ∀ (A : Nat → Prop) (U : State) (H : Heap), O A U H → ∀ q ∈ nestT, va_Nw (.methodLinkNest "ChordMover" q.1 ⟨q.2, "<init>", "()V"⟩ "ChordMover") U
theorem kAC : Cond.arrayClass .int ∈ gw := gw_of (List.mem_of_getElem? (i := 105) (by decide +kernel)) (by decide +kernel)
theorem kOi : Cond.instanceMethod Lib.objectInit ∈ gw := gw_of (List.mem_of_getElem? (i := 79) (by decide +kernel)) (by decide +kernel)
theorem kOc : Cond.code Lib.objectInit ⟨#[0xb1]⟩ 1 none ∈ gw := gw_of (List.mem_of_getElem? (i := 80) (by decide +kernel)) (by decide +kernel)
section NLIFT
variable {σ τ : Type} {l : Launch} {y : MethodName} {rm : Room} {D : va_G} {tys tysB : List (ClassId × FieldType)} {O : OT} {wld : σ → va_W} {wldB : τ → va_W} {as : List Value} {u : σ} {v : τ} {put : σ → τ} {a b : va_W}
theorem met_lift {wsC : List Cond} {mc ms : Nat} {post : Option Value → σ → Prop} (hOL : OL O) (hv : wldB v = a ++ (wld u ++ b)) (hput : ∀ u2, wldB (put u2) = a ++ (wld u2 ++ b)) (ht : ∀ q ∈ tys, q ∈ tysB) (h : ∀ sz, Met l y wsC rm (va_Pc as (fun U => U.heap.size = sz ∧ va_P D vwCl (wld u) U.heap ∧ va_K D vwCl tys U ∧ va_D (fun _ => True) (wld u) ∧ O (va_A (wld u) sz) U U.heap)) (cQ D tys wld (va_A (wld u) sz) post) mc ms (va_A (wld u) sz)) : ∀ sz, Met l y wsC rm (va_Pc as (fun U => U.heap.size = sz ∧ va_P D vwCl (wldB v) U.heap ∧ va_K D vwCl tysB U ∧ va_D (fun _ => True) (wldB v) ∧ O (va_A (wldB v) sz) U U.heap)) (cQ D tysB wldB (va_A (wldB v) sz) (fun o v2 => ∃ u2, post o u2 ∧ v2 = put u2)) mc ms (va_A (wldB v) sz) := by
  intro sz p e h1 h2 h3 s m args below h4 h5 h6 h7
  obtain ⟨e1, e2, e3, e4, e5, e6⟩ := h6
  subst e2
  rw [hv] at e3 e5 e6
  obtain ⟨p1, p2⟩ := lf_pre e3 e5
  obtain ⟨k, oc, a1, a2, a3, ⟨⟨⟨r, u2, b1, b2, b3, b4, b5⟩, b6⟩, L, b7, b8⟩⟩ := h s.heap.size p e h1 h2 h3 s m args below h4 h5 ⟨e1, rfl, p1, lf_K ht e4, p2, hOL.1 _ _ _ _ e6 (fun q hq => lf_A hq)⟩ h7
  obtain ⟨c1, c2, c3⟩ := lf_core e3 e5 b3 b5 b6
  rw [hv]
  exact ⟨k, oc, a1, a2, a3, ⟨⟨⟨r, put u2, b1, ⟨u2, b2, rfl⟩, by rw [hput]; exact c1, va_K.moved b7.2.1.alike e4, by rw [hput]; exact c2⟩, c3⟩, L, b7, fun q hq => lf_A (b8 q hq)⟩⟩
end NLIFT
/-- a contract of a method that makes cells: the world ws becomes one of post -/
def CtN (l : Launch) (y : MethodName) (cc : ByteArray) (n : Nat) (rm : Room) (D : va_G) (tys : List (ClassId × FieldType)) (O : OT) (as : List Value) (ws : va_W) (mc ms : Nat) (post : va_W → Prop) : Prop :=
  ∀ sz : Nat, Met l y (Cond.code y cc n none :: gw) rm (va_Pc as (fun U => U.heap.size = sz ∧ va_P D vwCl (idW ws) U.heap ∧ va_K D vwCl tys U ∧ va_D (fun _ => True) (idW ws) ∧ O (va_A (idW ws) sz) U U.heap)) (cQ D tys idW (va_A (idW ws) sz) (fun v w2 => v = none ∧ post w2)) mc ms (va_A (idW ws) sz)
def NX (mc ms : Nat) (D : va_G) (tys : List (ClassId × FieldType)) (post : va_W → Prop) (X : CtxT) : Prop := match X with
  | (_, _, s, _, args, below, meth, _, A, Q) => meth.sig.returnType = none ∧ meth.locks = false ∧ meth.name = "<init>" ∧ va_K D vwCl tys s ∧ ∀ t, MQ below (cQ D tys idW A (fun v w2 => v = none ∧ post w2)) args s mc ms A t → Q t
set_option maxHeartbeats 4000000 in
theorem ctn_intro {l : Launch} {rm : Room} {cc : ByteArray} {n : Nat} {own : String} {D : va_G} {tys : List (ClassId × FieldType)} {O : OT} {post : va_W → Prop} {y : MethodName} {as : List Value} {ws : va_W} {mc ms : Nat} (hy : plainFor y = true) (hyc : y.cls = own) (hyn : y.name = "<init>") (hOL : OL O) (has : as.length ≤ n) (hcat : ∀ v ∈ as, v.category = 1)
    (h : ∀ X : CtxT, SW cc n own D tys O X → NX mc ms D tys post X → JW l rm n D idW X 0 0 0 (as.map some ++ List.replicate (n - as.length) none) [] ws) : CtN l y cc n rm D tys O as ws mc ms post := by
  intro sz
  refine va_MetF (cc := cc) (maxL := n) (ret := none) hy rfl ?_
  intro p e s m args below meth c s₁ B hml hv
  obtain ⟨rfl, hsz, hP, hK, hD0, hO⟩ := hv
  have hts := atoms_spec (ws := Cond.code y cc n none :: gw) B.pre
  have hown : s.vm.findClass own = some m.cls := by rw [← hyc]; exact findClass_of_methodNamed B.named
  have hin : meth.name = "<init>" := by rw [← hyn]; exact (name_of_methodNamed B.named B.method).1
  subst hsz
  rw [lg_entry_eq]
  have key := h (p, e, s, m, as.toArray, below, meth, c, va_A (idW ws) s.heap.size, MQ below (cQ D tys idW (va_A (idW ws) s.heap.size) (fun v w2 => v = none ∧ post w2)) as.toArray s mc ms (va_A (idW ws) s.heap.size))
    ⟨B.exec, B.bytes, hml, hown, fun w hw => hts w (List.mem_cons_of_mem _ hw), hK, fun q hq => Or.inr hq, hOL, hO⟩ ⟨B.returns, B.notSynchronized, hin, hK, fun _ h => h⟩
  exact key s.heap [] _ hP hD0.self va_S.rf (lv_start as n has hcat)
section NROWS
variable {l : Launch} {R : Room} {cc : ByteArray} {nL : Nat} {own : String} {D : va_G} {tys : List (ClassId × FieldType)} {cI : ClassId} {O : OT} {X : CtxT} {cl sl : Nat}
variable {pc : Nat} {lv : List (Option Value)} {st : List Value} {ws ws2 : va_W}
theorem w_sipush (hS0 : SW cc nL own D tys O X) {n : Int} (d : decode cc pc = .ok (.sipush n, 3)) (hn : (Int16.ofInt n).toInt32 = iZ n) (k : JW l R nL D idW X cl sl (pc + 3) lv (.int (iZ n) :: st) ws) : JW l R nL D idW X cl sl pc lv st ws := by
  obtain ⟨p, e, s, m, args, below, meth, c, A, Q⟩ := X
  obtain ⟨hx, hb, hml, hown, hts, hK, hA, hOL, hO⟩ := hS0
  intro H locs ls hP hD hS hl
  exact lv_sipush hx hb d hn (k H locs ls hP hD hS hl)
theorem w_newi (hS0 : SW cc nL own D tys O X) (hI : OGI O cI) {N : Nat} (hN : N ≤ 100000) (hR : cl + 1 ≤ R.cells ∧ sl + N ≤ R.slots) (d : decode cc pc = .ok (.newarray .int, 2)) (k : ∀ q, JW l R nL D idW X (cl + 1) (sl + N) (pc + 2) lv (.ref q :: st) (ws ++ [(q, .inl (cI, N, .inl (zrow fun _ => 0)))])) : JW l R nL D idW X cl sl pc lv (.int (iZ (N : Int)) :: st) ws := by
  obtain ⟨p, e, s, m, args, below, meth, c, A, Q⟩ := X
  obtain ⟨hx, hb, hml, hown, hts, hK, hA, hOL, hO⟩ := hS0
  intro H locs ls hP hD hS hl
  have hr : inR (N : Int) := ⟨by omega, by omega⟩
  have hnn : ¬ iZ (N : Int) < 0 := by
    rw [show (0 : Int32) = iZ 0 from rfl, iZ_lt hr inR_0]
    omega
  refine va_newaK (atype := .int) (N := N) (n := iZ (N : Int)) (rest := st) hx hb (hts _ kAC) rfl d rfl hnn (by rw [iZ_clamp hr]; omega) (by show N * 4 ≤ 536870912; omega) hR.1 hR.2 rfl (fun H1 cA e1 z1 o1 hAr hNm => ?_)
  have hcA : cI = cA := Option.some.inj ((hI A s s.heap hO).symm.trans hNm)
  subst hcA
  have hk : ∀ (k : Nat) (x : Nat × va_E), ws[k]? = some x → H1[x.1]? = H[x.1]? := fun k x hx9 => o1 x.1 ((hP k x hx9).lt)
  refine k H.size H1 locs ls ((va_P.kept hP hk).app (fun k9 x9 hx9 => ?_)) (va_D.push hD hP rfl (hA _ hS.1)) ⟨Nat.le_trans hS.1 (by omega), fun q h1 h2 => (o1 q (Nat.lt_of_lt_of_le h1 hS.1)).trans (hS.2.1 q h1 h2), hS.2.2⟩ hl
  have hz : k9 < 1 := (List.getElem?_eq_some_iff.mp hx9).1
  rw [show k9 = 0 by omega] at hx9
  cases hx9
  show H1[H.size]? = some (vp_cell cI (N, .inl (zrow fun _ => 0)))
  rw [e1]
  rfl
theorem w_newo (hS0 : SW cc nL own D tys O X) {C : String} {T : u_T} {N ci idx : Nat} {fs : List Value} {ty : Nat → FieldType} (hin : ∀ w ∈ u_ws C T N, w ∈ gw) (hty : ∀ k, k < N → parseFieldDescriptor (T k).2.2.1 = some (ty k)) (hcl : Cond.classLink own idx C ∈ gw) (hinst : Cond.instantiable C N ∈ gw) (hini : Cond.initialized C ∈ gw) (hc : vwCl[ci]? = some (C, T, N)) (hfs : ∀ j, j < N → defaultValue (ty j) = vp_V fs j) (hR : cl + 1 ≤ R.cells ∧ sl + N ≤ R.slots) (d : decode cc pc = .ok (.new idx, 3)) (k : ∀ q, JW l R nL D idW X (cl + 1) (sl + N) (pc + 3) lv (.ref q :: st) (ws ++ [(q, .inr (ci, fs))])) : JW l R nL D idW X cl sl pc lv st ws := by
  obtain ⟨p, e, s, m, args, below, meth, c, A, Q⟩ := X
  obtain ⟨hx, hb, hml, hown, hts, hK, hA, hOL, hO⟩ := hS0
  intro H locs ls hP hD hS hl
  exact va_new (fs := fs) hx hb hts hin ty hty hown (hts _ hcl) (hts _ hinst) (hts _ hini) hK hP hD hS hA hc hfs hR.1 hR.2 d (fun q H1 hP1 hD1 hS1 => k q H1 locs ls hP1 hD1 hS1 hl)
theorem w_put (hS0 : SW cc nL own D tys O X) {C : String} {T : u_T} {N ci fk q0 idx a : Nat} {fs : List Value} {v : Value} {ty : FieldType} {ty0 : Nat → FieldType} (he : ws[q0]? = some (a, .inr (ci, fs))) (hc : vwCl[ci]? = some (C, T, N)) (hin : ∀ w ∈ u_ws C T N, w ∈ gw) (hty : ∀ k, k < N → parseFieldDescriptor (T k).2.2.1 = some (ty0 k)) (hnm : ∀ a, a < N → ∀ b, b < N → a ≠ b → (T a).2.1 ≠ (T b).2.1) (hk : fk < N) (hlink : Cond.fieldLink own idx (T fk).1 (T fk).2.1 (T fk).2.2.1 ∈ gw) (hfin : (T fk).2.2.2 = false) (hd : parseFieldDescriptor (T fk).2.2.1 = some ty) (hn : narrow ty v = v) (hfit : fits ty v = true) (hl9 : fk < fs.length) (hset : ws.set q0 (a, .inr (ci, fs.set fk v)) = ws2) (d : decode cc pc = .ok (.putfield idx, 3)) (k : JW l R nL D idW X cl sl (pc + 3) lv st ws2) : JW l R nL D idW X cl sl pc lv (v :: .ref a :: st) ws := by
  obtain ⟨p, e, s, m, args, below, meth, c, A, Q⟩ := X
  obtain ⟨hx, hb, hml, hown, hts, hK, hA, hOL, hO⟩ := hS0
  intro H locs ls hP hD hS hl
  subst hset
  exact va_put (D := D) (ci := ci) (v := v) (ty := ty) hx hb hts hin ty0 hty hnm hown hK hP hD hS q0 he hc fk hk (hts _ hlink) (fun _ h9 => h9) hfin hd hn hfit hl9 d (fun H1 locs1 hP1 hD1 hS1 => k H1 locs1 ls hP1 hD1 hS1 hl)
theorem w_putF (hS0 : SW cc nL own D tys O X) {mc ms : Nat} {post : va_W → Prop} (hX : NX mc ms D tys post X) {C : String} {T : u_T} {N ci fk q0 idx a : Nat} {fs : List Value} {v : Value} {ty : FieldType} {ty0 : Nat → FieldType} (he : ws[q0]? = some (a, .inr (ci, fs))) (hc : vwCl[ci]? = some (C, T, N)) (hin : ∀ w ∈ u_ws C T N, w ∈ gw) (hty : ∀ k, k < N → parseFieldDescriptor (T k).2.2.1 = some (ty0 k)) (hnm : ∀ a, a < N → ∀ b, b < N → a ≠ b → (T a).2.1 ≠ (T b).2.1) (hk : fk < N) (hlink : Cond.fieldLink own idx (T fk).1 (T fk).2.1 (T fk).2.2.1 ∈ gw) (hfin : (T fk).2.2.2 = true) (hdecl : (T fk).1 = own) (hd : parseFieldDescriptor (T fk).2.2.1 = some ty) (hn : narrow ty v = v) (hfit : fits ty v = true) (hl9 : fk < fs.length) (hset : ws.set q0 (a, .inr (ci, fs.set fk v)) = ws2) (d : decode cc pc = .ok (.putfield idx, 3)) (k : JW l R nL D idW X cl sl (pc + 3) lv st ws2) : JW l R nL D idW X cl sl pc lv (v :: .ref a :: st) ws := by
  obtain ⟨p, e, s, m, args, below, meth, c, A, Q⟩ := X
  obtain ⟨hx, hb, hml, hown, hts, hK, hA, hOL, hO⟩ := hS0
  intro H locs ls hP hD hS hl
  subst hset
  exact va_putF (D := D) (ci := ci) (v := v) (ty := ty) hx hb hts hin ty0 hty hnm hown hK hP hD hS q0 he hc fk hk (hts _ hlink) (fun _ h9 => h9) hfin hX.2.2.1 hdecl hd hn hfit hl9 d (fun H1 locs1 hP1 hD1 hS1 => k H1 locs1 ls hP1 hD1 hS1 hl)
theorem w_getf (hS0 : SW cc nL own D tys O X) {C : String} {T : u_T} {N ci fk q0 idx a : Nat} {fs : List Value} {v : Value} (he : ws[q0]? = some (a, .inr (ci, fs))) (hc : vwCl[ci]? = some (C, T, N)) (hin : ∀ w ∈ u_ws C T N, w ∈ gw) (hk : fk < N) (hlink : Cond.fieldLink own idx (T fk).1 (T fk).2.1 (T fk).2.2.1 ∈ gw) (hv : fs[fk]? = some v) (d : decode cc pc = .ok (.getfield idx, 3)) (k : JW l R nL D idW X cl sl (pc + 3) lv (v :: st) ws) : JW l R nL D idW X cl sl pc lv (.ref a :: st) ws := by
  obtain ⟨p, e, s, m, args, below, meth, c, A, Q⟩ := X
  obtain ⟨hx, hb, hml, hown, hts, hK, hA, hOL, hO⟩ := hS0
  intro H locs ls hP hD hS hl
  exact va_get (D := D) (Ts := gw) hx hb hts hin hown hK hP q0 he hc fk hk (hts _ hlink) (fun _ h => h) hv d (k H locs ls hP hD hS hl)
theorem w_oinit (hS0 : SW cc nL own D tys O X) {idx a : Nat} (hlink : Cond.methodLink own idx Lib.objectInit ∈ gw) (hR : 1 ≤ R.frames ∧ (st.map fun v => v.category).sum + 12 ≤ R.locals) (d : decode cc pc = .ok (.invokespecial idx, 3)) (k : JW l R nL D idW X cl sl (pc + 3) lv st ws) : JW l R nL D idW X cl sl pc lv (.ref a :: st) ws := by
  obtain ⟨p, e, s, m, args, below, meth, c, A, Q⟩ := X
  obtain ⟨hx, hb, hml, hown, hts, hK, hA, hOL, hO⟩ := hS0
  intro H locs ls hP hD hS hl
  exact W.objInit hx hb hown (hts _ hlink) (hts _ kOi) (hts _ kOc) rfl (by rw [hml]; exact hl.1) rfl d hR.1 (by show 2 * 0 + _ + 12 ≤ _; omega) (k H locs ls hP hD hS hl)
theorem w_sub (hS0 : SW cc nL own D tys O X) (is : List Nat) (h1 : is.filterMap (fun i => ws[i]?) = ws2) (h2 : is.map (fun i => ws[i]?) = ws2.map some) (h3 : va_nd is = true) (k : JW l R nL D idW X cl sl pc lv st ws2) : JW l R nL D idW X cl sl pc lv st ws := by
  obtain ⟨p, e, s, m, args, below, meth, c, A, Q⟩ := X
  obtain ⟨hx, hb, hml, hown, hts, hK, hA, hOL, hO⟩ := hS0
  intro H locs ls hP hD hS hl
  exact k H locs ls (va_P.sub hP is h1) (va_D.sub hD is h3 h2) hS hl
theorem w_vret (hS0 : SW cc nL own D tys O X) {mc ms : Nat} {post : va_W → Prop} (hX : NX mc ms D tys post X) (h1 : cl ≤ mc) (h2 : sl ≤ ms) (d : decode cc pc = .ok (.return_, 1)) (hq : post ws) : JW l R nL D idW X cl sl pc lv [] ws := by
  obtain ⟨p, e, s, m, args, below, meth, c, A, Q⟩ := X
  obtain ⟨hx, hb, hml, hown, hts, hK, hA, hOL, hO⟩ := hS0
  intro H locs ls hP hD hS hl
  obtain ⟨x1, x2, x3, x4, x5⟩ := hX
  have k1 : W p l e R s m args below meth c H locs cl sl (MQ below (cQ D tys idW A (fun v w2 => v = none ∧ post w2)) args s cl sl A) (F0 m pc ls []) := W.vret hx hb x1 (fun t ht hWm => ⟨⟨_, ws, rfl, ⟨rfl, hq⟩, by rw [ht]; exact hP, va_K.moved hWm.alike x4, hD⟩, hS.F ht⟩) hS.2.2 d x2
  intro T hT X9
  obtain ⟨t, a1, b1⟩ := k1 T hT X9
  exact ⟨t, a1, x5 t (MQ_mono h1 h2 b1)⟩
/-- a static call in the midst of the world -/
theorem w_callSm (hS0 : SW cc nL own D tys O X) {σ : Type} {wld : σ → va_W} {u : σ} {idx kn n' : Nat} {y : MethodName} {cc' : ByteArray} {rt' : Option FieldType} {rm : Room} {As st0 : List Value} {post' : Option Value → σ → Prop} (a b : va_W) (hws : ws = a ++ (wld u ++ b)) (lk : LkS own idx y cc' n' rt' kn) (hM : Ct l y cc' n' rt' rm D tys O wld As u post') (hkn : As.length = kn) (hst : st0 = As.reverse ++ st) (hroom : (st.map fun v => v.category).sum ≤ 8) (hrm : rOk rm R n') (hR : cl ≤ R.cells ∧ sl ≤ R.slots) (d : decode cc pc = .ok (.invokestatic idx, 3)) (kk : ∀ (v : Option Value) (u' : σ), post' v u' → JW l R nL D idW X cl sl (pc + 3) lv (v.toList ++ st) (a ++ (wld u' ++ b))) : JW l R nL D idW X cl sl pc lv st0 ws := by
  obtain ⟨p, e, s, m, args, below, meth, c, A, Q⟩ := X
  obtain ⟨hx, hb, hml, hown, hts, hK, hA, hOL, hO⟩ := hS0
  intro H locs ls hP hD hS hl
  have hM2 := met_lift (wldB := idW) (v := ws) (put := fun u2 => a ++ (wld u2 ++ b)) (a := a) (b := b) hOL hws (fun _ => rfl) (fun q h => h) hM
  have hF : ∀ q, va_A (idW ws) H.size q → A q := by
    rintro q (⟨k9, e9, h9⟩ | h9)
    · exact hD.2 k9 _ h9
    · exact hA q (Nat.le_trans hS.1 h9)
  exact va_goon2 (D := D) (tys := tys) (wld := idW) (A1 := va_A (idW ws) H.size) (va_runS (As := As) (rest := st) (Ts := gw) (own := own) ⟨hx, hb, hml, hown, hts⟩ (hM2 H.size) (va_cwS kn hts (lk_good lk.1) rfl hrm.1 hrm.2.1 lk.2 hrm.2.2) ⟨ct_blind hOL _, ct_pre (p := p) (e := e) (m := m) (args := args) (below := below) hK hOL hO hP hD hS hF _⟩ rfl hkn hl.1 hst (lv_room hroom) d ⟨hR.1, hR.2⟩) hS hF hF (fun v w2 H1 locs1 hp hP1 hD1 hS1 => by
    obtain ⟨u2, h1, h2⟩ := hp
    subst h2
    exact kk v u2 h1 H1 locs1 ls hP1 hD1 hS1 hl)
theorem w_callI (hS0 : SW cc nL own D tys O X) {idx n' mc ms q : Nat} {e0 : va_E} {y : MethodName} {cc' : ByteArray} {rm : Room} {post : va_W → Prop} {tys0 : List (ClassId × FieldType)} (ht : ∀ q ∈ tys0, q ∈ tys) (hM : CtN l y cc' n' rm D tys0 O [.ref q] [(q, e0)] mc ms post) (hcode : ∀ w ∈ ([] : List Cond) ++ [Cond.code y cc' n' none], w ∈ gw) (hini : Cond.initialized y.cls ∈ gw) (hlink : Cond.methodLink own idx y ∈ gw) (hin : Cond.instanceMethod y ∈ gw) (hyn : y.name = "<init>") (hd : y.cls ≠ "java/lang/invoke/MethodHandle" ∧ y.cls ≠ "java/lang/invoke/VarHandle" ∧ (parseMethodDescriptor y.desc).map (fun d => d.parameters.length) = some 0) (hroom : (st.map fun v => v.category).sum ≤ 8) (hrm : rm.cells = mc ∧ rm.slots = ms ∧ rm.frames + 1 ≤ R.frames ∧ 8 + (n' + 11) + rm.locals ≤ R.locals) (hR : cl + mc ≤ R.cells ∧ sl + ms ≤ R.slots) (d : decode cc pc = .ok (.invokespecial idx, 3)) (kk : ∀ w1, post w1 → JW l R nL D idW X (cl + mc) (sl + ms) (pc + 3) lv st (ws ++ w1)) : JW l R nL D idW X cl sl pc lv (.ref q :: st) (ws ++ [(q, e0)]) := by
  obtain ⟨p, e, s, m, args, below, meth, c, A, Q⟩ := X
  obtain ⟨hx, hb, hml, hown, hts, hK, hA, hOL, hO⟩ := hS0
  intro H locs ls hP hD hS hl
  have hM2 := met_lift (wldB := idW) (v := ws ++ [(q, e0)]) (put := fun w1 => ws ++ (w1 ++ [])) (a := ws) (b := []) hOL rfl (fun _ => rfl) ht hM
  have hF : ∀ z, va_A (idW (ws ++ [(q, e0)])) H.size z → A z := by
    rintro z (⟨k9, e9, h9⟩ | h9)
    · exact hD.2 k9 _ h9
    · exact hA z (Nat.le_trans hS.1 h9)
  exact va_goon2 (D := D) (tys := tys) (wld := idW) (A1 := va_A (idW (ws ++ [(q, e0)])) H.size) (va_runI (As := []) (rest := st) (Ts := gw) (own := own) ⟨hx, hb, hml, hown, hts⟩ (hM2 H.size) (cwI 0 hts (lk_good (ws := []) hcode) rfl hrm.1 hrm.2.1 (hts _ hini) (hts _ hlink) (hts _ hin) hyn hd hrm.2.2) ⟨ct_blind hOL _, ct_pre (p := p) (e := e) (m := m) (args := args) (below := below) hK hOL hO hP hD hS hF _⟩ rfl rfl hl.1 rfl (lv_room hroom) d hR) hS hF hF (fun v w2 H1 locs1 hp hP1 hD1 hS1 => by
    obtain ⟨u2, ⟨h0, h1⟩, h2⟩ := hp
    subst h0
    rw [List.append_nil] at h2
    subst h2
    exact kk u2 h1 H1 locs1 ls hP1 hD1 hS1 hl)
theorem w_callIN (hS0 : SW cc nL own D tys O X) {idx n' mc ms q : Nat} {e0 : va_E} {y : MethodName} {cc' : ByteArray} {rm : Room} {post : va_W → Prop} {tys0 : List (ClassId × FieldType)} (ht : ∀ q ∈ tys0, q ∈ tys) (hM : CtN l y cc' n' rm D tys0 O [.ref q] [(q, e0)] mc ms post) (hcode : ∀ w ∈ ([] : List Cond) ++ [Cond.code y cc' n' none], w ∈ gw) (hini : Cond.initialized y.cls ∈ gw) (hlink : ∀ (A : Nat → Prop) (U : State) (H : Heap), O A U H → va_Nw (.methodLinkNest own idx y "ChordMover") U) (hin : Cond.instanceMethod y ∈ gw) (hyn : y.name = "<init>") (hd : y.cls ≠ "java/lang/invoke/MethodHandle" ∧ y.cls ≠ "java/lang/invoke/VarHandle" ∧ (parseMethodDescriptor y.desc).map (fun d => d.parameters.length) = some 0) (hroom : (st.map fun v => v.category).sum ≤ 8) (hrm : rm.cells = mc ∧ rm.slots = ms ∧ rm.frames + 1 ≤ R.frames ∧ 8 + (n' + 11) + rm.locals ≤ R.locals) (hR : cl + mc ≤ R.cells ∧ sl + ms ≤ R.slots) (d : decode cc pc = .ok (.invokespecial idx, 3)) (kk : ∀ w1, post w1 → JW l R nL D idW X (cl + mc) (sl + ms) (pc + 3) lv st (ws ++ w1)) : JW l R nL D idW X cl sl pc lv (.ref q :: st) (ws ++ [(q, e0)]) := by
  obtain ⟨p, e, s, m, args, below, meth, c, A, Q⟩ := X
  obtain ⟨hx, hb, hml, hown, hts, hK, hA, hOL, hO⟩ := hS0
  intro H locs ls hP hD hS hl
  have hM2 := met_lift (wldB := idW) (v := ws ++ [(q, e0)]) (put := fun w1 => ws ++ (w1 ++ [])) (a := ws) (b := []) hOL rfl (fun _ => rfl) ht hM
  have hF : ∀ z, va_A (idW (ws ++ [(q, e0)])) H.size z → A z := by
    rintro z (⟨k9, e9, h9⟩ | h9)
    · exact hD.2 k9 _ h9
    · exact hA z (Nat.le_trans hS.1 h9)
  exact va_goon2 (D := D) (tys := tys) (wld := idW) (A1 := va_A (idW (ws ++ [(q, e0)])) H.size) (va_runIN (As := []) (rest := st) (Ts := gw) (own := own) (host := "ChordMover") ⟨hx, hb, hml, hown, hts⟩ (hM2 H.size) ⟨va_cnB 0 hts (lk_good (ws := []) hcode) rfl hrm.1 hrm.2.1 (hlink A s s.heap hO) (hts _ hini) hd hrm.2.2, hyn, hts _ hin⟩ ⟨ct_blind hOL _, ct_pre (p := p) (e := e) (m := m) (args := args) (below := below) hK hOL hO hP hD hS hF _⟩ rfl rfl hl.1 rfl (lv_room hroom) d hR) hS hF hF (fun v w2 H1 locs1 hp hP1 hD1 hS1 => by
    obtain ⟨u2, ⟨h0, h1⟩, h2⟩ := hp
    subst h0
    rw [List.append_nil] at h2
    subst h2
    exact kk u2 h1 H1 locs1 ls hP1 hD1 hS1 hl)
theorem w_newl (hS0 : SW cc nL own D tys O X) {cJ : ClassId} (hI : ∀ (A : Nat → Prop) (U : State) (H : Heap), O A U H → U.vm.findClass "[J" = some cJ) (hac : Cond.arrayClass .long ∈ gw) (hR : cl + 1 ≤ R.cells ∧ sl + 1 ≤ R.slots) (d : decode cc pc = .ok (.newarray .long, 2)) (k : ∀ q, JW l R nL D idW X (cl + 1) (sl + 1) (pc + 2) lv (.ref q :: st) (ws ++ [(q, .inl (cJ, 1, .inr (.inl (oF 0))))])) : JW l R nL D idW X cl sl pc lv (.int (iZ 1) :: st) ws := by
  obtain ⟨p, e, s, m, args, below, meth, c, A, Q⟩ := X
  obtain ⟨hx, hb, hml, hown, hts, hK, hA, hOL, hO⟩ := hS0
  intro H locs ls hP hD hS hl
  refine va_newaK (atype := .long) (N := 1) (n := iZ 1) (rest := st) hx hb (hts _ hac) rfl d rfl (by decide) (by decide) (by decide) hR.1 hR.2 rfl (fun H1 cA e1 z1 o1 hAr hNm => ?_)
  have hcA : cJ = cA := Option.some.inj ((hI A s s.heap hO).symm.trans hNm)
  subst hcA
  have hk : ∀ (k : Nat) (x : Nat × va_E), ws[k]? = some x → H1[x.1]? = H[x.1]? := fun k x hx9 => o1 x.1 ((hP k x hx9).lt)
  refine k H.size H1 locs ls ((va_P.kept hP hk).app (fun k9 x9 hx9 => ?_)) (va_D.push hD hP rfl (hA _ hS.1)) ⟨Nat.le_trans hS.1 (by omega), fun q h1 h2 => (o1 q (Nat.lt_of_lt_of_le h1 hS.1)).trans (hS.2.1 q h1 h2), hS.2.2⟩ hl
  have hz : k9 < 1 := (List.getElem?_eq_some_iff.mp hx9).1
  rw [show k9 = 0 by omega] at hx9
  cases hx9
  show H1[H.size]? = some (vp_cell cJ (1, .inr (.inl (oF 0))))
  rw [e1, vp_cell_l]
  congr 2
  funext j
  show defaultValue .long = .long (oF 0 j)
  unfold oF
  split <;> rfl
end NROWS
