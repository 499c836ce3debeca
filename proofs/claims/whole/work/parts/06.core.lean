/-! ===== whole numbers for ints ===== -/
def iZ (z : Int) : Int32 := Int32.ofInt z
abbrev inR (z : Int) : Prop := -2147483648 ≤ z ∧ z < 2147483648
theorem iZ_toInt {z : Int} (h : inR z) : (iZ z).toInt = z := Int32.toInt_ofInt_of_le h.1 h.2
theorem iZ_of (x : Int32) : iZ x.toInt = x := Int32.ofInt_toInt x
theorem inR_of (x : Int32) : inR x.toInt := ⟨Int32.le_toInt x, Int32.toInt_lt x⟩
theorem iZ_add (a b : Int) : iZ a + iZ b = iZ (a + b) := (Int32.ofInt_add a b).symm
theorem iZ_sub (a b : Int) : iZ a - iZ b = iZ (a - b) := (Int32.ofInt_sub a b).symm
theorem iZ_mul (a b : Int) : iZ a * iZ b = iZ (a * b) := (Int32.ofInt_mul a b).symm
theorem iZ_neg (a : Int) : - iZ a = iZ (-a) := (Int32.ofInt_neg a).symm
theorem iZ_eq {a b : Int} (ha : inR a) (hb : inR b) : iZ a = iZ b ↔ a = b :=
  ⟨fun h => by rw [← iZ_toInt ha, ← iZ_toInt hb, h], fun h => by rw [h]⟩
theorem iZ_lt {a b : Int} (ha : inR a) (hb : inR b) : iZ a < iZ b ↔ a < b := by
  rw [Int32.lt_iff_toInt_lt, iZ_toInt ha, iZ_toInt hb]
theorem iZ_le {a b : Int} (ha : inR a) (hb : inR b) : iZ a ≤ iZ b ↔ a ≤ b := by
  rw [Int32.le_iff_toInt_le, iZ_toInt ha, iZ_toInt hb]
theorem inR_0 : inR 0 := ⟨by decide, by decide⟩
theorem iZ_0 : iZ 0 = 0 := rfl
theorem iZ_div {a b : Int} (ha : inR a) (hb : inR b) (h : b ≠ -1) : iZ a / iZ b = iZ (a.tdiv b) := by
  apply Int32.toInt_inj.mp
  have e : iZ b ≠ -1 := fun q => h (by have := congrArg Int32.toInt q; rw [iZ_toInt hb] at this; exact this)
  rw [Int32.toInt_div_of_ne_right _ _ e, iZ_toInt ha, iZ_toInt hb]
  have hr : inR (a.tdiv b) := by
    have := Int32.toInt_div_of_ne_right (iZ a) (iZ b) e
    rw [iZ_toInt ha, iZ_toInt hb] at this
    rw [← this]
    exact inR_of _
  rw [iZ_toInt hr]
theorem iZ_rem {a b : Int} (ha : inR a) (hb : inR b) (h : b ≠ -1) : iZ a - iZ a / iZ b * iZ b = iZ (a.tmod b) := by
  rw [iZ_div ha hb h, iZ_mul, iZ_sub, Int.tmod_def, Int.mul_comm]
theorem iZ_clamp {i : Int} (h : inR i) : (iZ i).toNatClampNeg = i.toNat := by
  show (iZ i).toInt.toNat = _
  rw [iZ_toInt h]
theorem iZ_in {i : Int} {n : Nat} (h0 : 0 ≤ i) (h1 : i < n) (hn : n ≤ 2147483648) : vp_in (iZ i) n := by
  have hr : inR i := ⟨by omega, by omega⟩
  exact vp_in_iff.mpr (by rw [iZ_toInt hr]; exact ⟨h0, h1⟩)
def zand (a b : Int) : Int := (iZ a &&& iZ b).toInt
def zor (a b : Int) : Int := (iZ a ||| iZ b).toInt
def zxor (a b : Int) : Int := (iZ a ^^^ iZ b).toInt
def zshl (a b : Int) : Int := (iZ a <<< (iZ b &&& 31)).toInt
def zshr (a b : Int) : Int := (iZ a >>> (iZ b &&& 31)).toInt
def zushr (a b : Int) : Int := ((iZ a).toUInt32 >>> ((iZ b).toUInt32 &&& Int32.toUInt32 31)).toInt32.toInt
def zi2c (a : Int) : Int := ((iZ a).toUInt32 % 65536).toInt32.toInt
def zi2b (a : Int) : Int := (iZ a).toInt8.toInt32.toInt
/-- a place of a row changed -/
def zu (f : Int → Int) (i v : Int) : Int → Int := fun j => if j = i then v else f j
theorem zu_same (f : Int → Int) (i v : Int) : zu f i v i = v := if_pos rfl
theorem zu_ne {f : Int → Int} {i v j : Int} (h : j ≠ i) : zu f i v j = f j := if_neg h
/-- a row of ints as the machine has it -/
def zrow (f : Int → Int) : Nat → Int32 := fun j => iZ (f (j : Int))
theorem zrow_get (f : Int → Int) {i : Int} (h : 0 ≤ i) : zrow f i.toNat = iZ (f i) := by
  unfold zrow
  rw [Int.toNat_of_nonneg h]
theorem zrow_upd (f : Int → Int) {i : Int} (v : Int) (h : 0 ≤ i) : upd (zrow f) i.toNat (iZ v) = zrow (zu f i v) := by
  funext j
  unfold zrow zu upd
  by_cases hj : j = i.toNat
  · subst hj
    rw [if_pos rfl, if_pos (Int.toNat_of_nonneg h)]
  · rw [if_neg hj, if_neg (fun q => hj (by omega))]
/-! ===== the abstract judgement ===== -/
def gw : List Cond := lw_tbl.filter goodWord
theorem gw_in {w : Cond} (h : w ∈ gw) : w ∈ lw_tbl := (List.mem_filter.mp h).1
theorem gw_of {w : Cond} (h : w ∈ lw_tbl) (g : goodWord w = true) : w ∈ gw := List.mem_filter.mpr ⟨h, g⟩
theorem gw_good : GoodIn gw gw := fun _ h => ⟨h, good_of_word (List.mem_filter.mp h).2⟩
abbrev CtxT : Type := Program × Env × State × MethodId × Array Value × List Frame × Method × Code × (Nat → Prop) × (State → Prop)
abbrev OT : Type := (Nat → Prop) → State → Heap → Prop
abbrev KT (σ : Type) : Type := Nat → List (Option Value) → List Value → σ → Prop
/-- what lies outside the world and stays: laws of it -/
def OL (O : OT) : Prop := (∀ (A B : Nat → Prop) (U : State) (H : Heap), O A U H → (∀ q, B q → A q) → O B U H) ∧ (∀ (A : Nat → Prop) (U : State) (H H1 : Heap), O A U H → (∀ a : Nat, a < H.size → ¬ A a → H1[a]? = H[a]?) → O A U H1) ∧ (∀ (A : Nat → Prop) (s U : State) (H : Heap), s.WarmedH U.vm → O A s H → O A U H)
def cQ {σ : Type} (D : va_G) (tys : List (ClassId × FieldType)) (wld : σ → va_W) (A : Nat → Prop) (post : Option Value → σ → Prop) : Array Value → State → Outcome → State → Prop := fun _ st oc t => (∃ (v : Option Value) (u : σ), oc = .returned v ∧ post v u ∧ va_P D vwCl (wld u) t.heap ∧ va_K D vwCl tys t ∧ va_D A (wld u)) ∧ va_F A st t
/-- the locals -/
def lvH (ls : Array Slot) (nL : Nat) (lv : List (Option Value)) : Prop := ls.size = nL ∧ lv_wf ls ∧ ∀ (i : Nat) (v : Value), lv[i]? = some (some v) → ls[i]? = some (.val v) ∧ v.category = 1
def lvP (lv : List (Option Value)) : List (Nat × Value) := lv.zipIdx.filterMap (fun q => q.1.map (fun v => (q.2, v)))
theorem lvP_mem {lv : List (Option Value)} {i : Nat} {v : Value} : (i, v) ∈ lvP lv ↔ lv[i]? = some (some v) := by
  unfold lvP
  rw [List.mem_filterMap]
  constructor
  · rintro ⟨⟨x, j⟩, h1, h2⟩
    cases x with
    | none => cases h2
    | some w =>
      cases h2
      exact List.mem_zipIdx_iff_getElem?.mp h1
  · intro h
    exact ⟨(some v, i), List.mem_zipIdx_iff_getElem?.mpr h, rfl⟩
theorem lvH.has {ls : Array Slot} {nL : Nat} {lv : List (Option Value)} (h : lvH ls nL lv) : lv_has ls nL (lvP lv) := ⟨h.1, h.2.1, fun q hq => (h.2.2 q.1 q.2 (lvP_mem.mp hq)).1⟩
theorem lvH.store {ls ls' : Array Slot} {nL i : Nat} {v : Value} {lv : List (Option Value)} (h : lvH ls nL lv) (hc : v.category = 1) (hs : lv_has ls' nL ((i, v) :: (lvP lv).filter (fun q => !(q.1 == i) && !(q.1 + 1 == i && q.2.category == 2)))) : lvH ls' nL (lv.set i (some v)) := by
  refine ⟨hs.1, hs.2.1, fun j w hj => ?_⟩
  by_cases hij : j = i
  · subst hij
    have hl : j < lv.length := by
      have := (List.getElem?_eq_some_iff.mp hj).1
      rwa [List.length_set] at this
    rw [List.getElem?_set_self hl] at hj
    cases hj
    exact ⟨hs.2.2 (j, v) List.mem_cons_self, hc⟩
  · rw [List.getElem?_set_ne (Ne.symm hij)] at hj
    have hw := (h.2.2 j w hj).2
    refine ⟨hs.2.2 (j, w) (List.mem_cons_of_mem _ (List.mem_filter.mpr ⟨lvP_mem.mpr hj, ?_⟩)), hw⟩
    simp [hij, hw]
def Snd {σ : Type} (l : Launch) (R : Room) (cc : ByteArray) (nL : Nat) (own : String) (rt : Option FieldType) (D : va_G) (tys : List (ClassId × FieldType)) (O : OT) (wld : σ → va_W) (post : Option Value → σ → Prop) (X : CtxT) (J : KT σ) : Prop :=
  match X with
  | (p, e, s, m, args, below, meth, c, A, Q) => p.tables.exec = Jvm.exec ∧ c.code = cc ∧ c.maxLocals = nL ∧ s.vm.findClass own = some m.cls ∧ (∀ w ∈ gw, w.before args s = true) ∧ meth.sig.returnType = rt ∧ meth.locks = false ∧ va_K D vwCl tys s ∧ (∀ q, s.heap.size ≤ q → A q) ∧ OL O ∧ O A s s.heap ∧ (∀ t, MQ below (cQ D tys wld A post) args s 0 0 A t → Q t) ∧
    ∀ pc lv st u, J pc lv st u ↔ (∀ (H : Heap) (locs : List Loc) (ls : Array Slot), va_P D vwCl (wld u) H → va_D A (wld u) → va_S A s.heap H locs → lvH ls nL lv → W p l e R s m args below meth c H locs 0 0 Q (F0 m pc ls st))
/-- a contract: in the world at u the method y with the arguments as returns, as post says; nothing is made -/
def Ct {σ : Type} (l : Launch) (y : MethodName) (cc : ByteArray) (n : Nat) (rt : Option FieldType) (rm : Room) (D : va_G) (tys : List (ClassId × FieldType)) (O : OT) (wld : σ → va_W) (as : List Value) (u : σ) (post : Option Value → σ → Prop) : Prop :=
  ∀ sz : Nat, Met l y (Cond.code y cc n rt :: gw) rm (va_Pc as (fun U => U.heap.size = sz ∧ va_P D vwCl (wld u) U.heap ∧ va_K D vwCl tys U ∧ va_D (fun _ => True) (wld u) ∧ O (va_A (wld u) sz) U U.heap)) (cQ D tys wld (va_A (wld u) sz) post) 0 0 (va_A (wld u) sz)
def pI {σ : Type} (P : Int → σ → Prop) : Option Value → σ → Prop := fun v u => ∃ r : Int, v = some (.int (iZ r)) ∧ P r u
def pV {σ : Type} (P : σ → Prop) : Option Value → σ → Prop := fun v u => v = none ∧ P u
def pR {σ : Type} (P : Nat → σ → Prop) : Option Value → σ → Prop := fun v u => ∃ r : Nat, v = some (.ref r) ∧ P r u
theorem lv_args_cat : ∀ (as : List Value) (k : Nat), (∀ v ∈ as, v.category = 1) → ∀ (i : Nat) (v : Value), as[i]? = some v → (k + i, v) ∈ lv_args k as
  | [], _, _, i, v, h => by simp at h
  | a :: as, k, hc, i, v, h => by
    have ha : a.category = 1 := hc a List.mem_cons_self
    unfold lv_args
    rw [if_neg (by omega)]
    cases i with
    | zero =>
      cases h
      exact List.mem_cons_self
    | succ i =>
      rw [List.getElem?_cons_succ] at h
      have := lv_args_cat as (k + 1) (fun v hv => hc v (List.mem_cons_of_mem _ hv)) i v h
      rw [show k + (i + 1) = k + 1 + i by omega]
      exact List.mem_cons_of_mem _ this
theorem lg_sl_len : ∀ (as : List Value), (∀ v ∈ as, v.category = 1) → (lg_sl as).length = as.length
  | [], _ => rfl
  | a :: as, hc => by
    have ha : ¬ a.category = 2 := by have := hc a List.mem_cons_self; omega
    have ih := lg_sl_len as (fun v hv => hc v (List.mem_cons_of_mem _ hv))
    unfold lg_sl at ih ⊢
    rw [List.flatMap_cons, List.length_append, if_neg ha, ih]
    simp [Nat.add_comm]
theorem lv_start (as : List Value) (n : Nat) (has : as.length ≤ n) (hc : ∀ v ∈ as, v.category = 1) : lvH ((lg_sl as ++ List.replicate (n - (lg_sl as).length) Slot.unset).toArray) n (as.map some ++ List.replicate (n - as.length) none) := by
  have h := lv_entry as (n := n) (by rw [lg_sl_len as hc]; exact has)
  refine ⟨h.1, h.2.1, fun i v hi => ?_⟩
  have hv : as[i]? = some v := by
    by_cases hl : i < as.length
    · rw [List.getElem?_append_left (by rw [List.length_map]; exact hl), List.getElem?_map] at hi
      cases hx : as[i]? with
      | none => rw [hx] at hi; cases hi
      | some x => rw [hx] at hi; cases hi; rfl
    · rw [List.getElem?_append_right (by rw [List.length_map]; omega)] at hi
      have := List.mem_replicate.mp (List.mem_of_getElem? hi)
      cases this.2
  refine ⟨?_, hc v (List.mem_of_getElem? hv)⟩
  have := h.2.2 (0 + i, v) (lv_args_cat as 0 hc i v hv)
  rwa [Nat.zero_add] at this
set_option maxHeartbeats 4000000 in
/-- a contract out of a walk -/
theorem ct_intro {σ : Type} {l : Launch} {rm : Room} {cc : ByteArray} {n : Nat} {own : String} {rt : Option FieldType} {D : va_G} {tys : List (ClassId × FieldType)} {O : OT} {wld : σ → va_W} {post : Option Value → σ → Prop} {y : MethodName} {as : List Value} {u : σ} (hy : plainFor y = true) (hyc : y.cls = own) (hOL : OL O) (has : as.length ≤ n) (hcat : ∀ v ∈ as, v.category = 1)
    (h : ∀ (X : CtxT) (J : KT σ), Snd l rm cc n own rt D tys O wld post X J → J 0 (as.map some ++ List.replicate (n - as.length) none) [] u) : Ct l y cc n rt rm D tys O wld as u post := by
  intro sz
  refine va_MetF (cc := cc) (maxL := n) (ret := rt) hy rfl ?_
  intro p e s m args below meth c s₁ B hml hv
  obtain ⟨rfl, hsz, hP, hK, hD0, hO⟩ := hv
  have hts := atoms_spec (ws := Cond.code y cc n rt :: gw) B.pre
  have hown : s.vm.findClass own = some m.cls := by rw [← hyc]; exact findClass_of_methodNamed B.named
  subst hsz
  rw [lg_entry_eq]
  have key := h (p, e, s, m, as.toArray, below, meth, c, va_A (wld u) s.heap.size, MQ below (cQ D tys wld (va_A (wld u) s.heap.size) post) as.toArray s 0 0 (va_A (wld u) s.heap.size)) (fun pc lv st u' => ∀ (H : Heap) (locs : List Loc) (ls : Array Slot), va_P D vwCl (wld u') H → va_D (va_A (wld u) s.heap.size) (wld u') → va_S (va_A (wld u) s.heap.size) s.heap H locs → lvH ls n lv → W p l e rm s m as.toArray below meth c H locs 0 0 (MQ below (cQ D tys wld (va_A (wld u) s.heap.size) post) as.toArray s 0 0 (va_A (wld u) s.heap.size)) (F0 m pc ls st))
    ⟨B.exec, B.bytes, hml, hown, fun w hw => hts w (List.mem_cons_of_mem _ hw), B.returns, B.notSynchronized, hK, fun q hq => Or.inr hq, hOL, hO, fun _ h => h, fun _ _ _ _ => Iff.rfl⟩
  exact key s.heap [] _ hP hD0.self va_S.rf (lv_start as n has hcat)
section ROWS
variable {σ : Type} {l : Launch} {R : Room} {cc : ByteArray} {nL : Nat} {own : String} {rt : Option FieldType} {D : va_G} {tys : List (ClassId × FieldType)} {O : OT} {wld : σ → va_W} {post : Option Value → σ → Prop} {X : CtxT} {J : KT σ}
variable {pc : Nat} {lv : List (Option Value)} {st : List Value} {u : σ}
theorem v_iconst (hJ : Snd l R cc nL own rt D tys O wld post X J) {n : Int} (d : decode cc pc = .ok (.iconst n, 1)) (k : J (pc + 1) lv (.int (iZ n) :: st) u) : J pc lv st u := by
  obtain ⟨p, e, s, m, args, below, meth, c, A, Q⟩ := X
  obtain ⟨hx, hb, hml, hown, hts, hr, hlk, hK, hA, hOL, hO, hQ, hW⟩ := hJ
  refine (hW _ _ _ _).mpr (fun H locs ls hP hD hS hl => ?_)
  exact lv_iconst hx hb d rfl ((hW _ _ _ _).mp k H locs ls hP hD hS hl)
theorem v_bipush (hJ : Snd l R cc nL own rt D tys O wld post X J) {n : Int} (d : decode cc pc = .ok (.bipush n, 2)) (hn : (Int8.ofInt n).toInt32 = iZ n) (k : J (pc + 2) lv (.int (iZ n) :: st) u) : J pc lv st u := by
  obtain ⟨p, e, s, m, args, below, meth, c, A, Q⟩ := X
  obtain ⟨hx, hb, hml, hown, hts, hr, hlk, hK, hA, hOL, hO, hQ, hW⟩ := hJ
  refine (hW _ _ _ _).mpr (fun H locs ls hP hD hS hl => ?_)
  exact lv_bipush hx hb d hn ((hW _ _ _ _).mp k H locs ls hP hD hS hl)
theorem v_sipush (hJ : Snd l R cc nL own rt D tys O wld post X J) {n : Int} (d : decode cc pc = .ok (.sipush n, 3)) (hn : (Int16.ofInt n).toInt32 = iZ n) (k : J (pc + 3) lv (.int (iZ n) :: st) u) : J pc lv st u := by
  obtain ⟨p, e, s, m, args, below, meth, c, A, Q⟩ := X
  obtain ⟨hx, hb, hml, hown, hts, hr, hlk, hK, hA, hOL, hO, hQ, hW⟩ := hJ
  refine (hW _ _ _ _).mpr (fun H locs ls hP hD hS hl => ?_)
  exact lv_sipush hx hb d hn ((hW _ _ _ _).mp k H locs ls hP hD hS hl)
theorem v_ldc (hJ : Snd l R cc nL own rt D tys O wld post X J) {n : Int} {index : Nat} (d : decode cc pc = .ok (.ldc index, 2)) (hc : Cond.constant own index (iZ n) ∈ gw) (k : J (pc + 2) lv (.int (iZ n) :: st) u) : J pc lv st u := by
  obtain ⟨p, e, s, m, args, below, meth, c, A, Q⟩ := X
  obtain ⟨hx, hb, hml, hown, hts, hr, hlk, hK, hA, hOL, hO, hQ, hW⟩ := hJ
  refine (hW _ _ _ _).mpr (fun H locs ls hP hD hS hl => ?_)
  exact lv_ldc hx hb hown (hts _ hc) d ((hW _ _ _ _).mp k H locs ls hP hD hS hl)
theorem v_ild0 (hJ : Snd l R cc nL own rt D tys O wld post X J) {x : Int32} (d : decode cc pc = .ok (.iload_n 0, 1)) (k : J (pc + 1) (some (.int x) :: lv) (.int x :: st) u) : J pc (some (.int x) :: lv) st u := by
  obtain ⟨p, e, s, m, args, below, meth, c, A, Q⟩ := X
  obtain ⟨hx, hb, hml, hown, hts, hr, hlk, hK, hA, hOL, hO, hQ, hW⟩ := hJ
  refine (hW _ _ _ _).mpr (fun H locs ls hP hD hS hl => ?_)
  exact lv_iload_n hx hb d rfl (hl.2.2 0 _ rfl).1 ((hW _ _ _ _).mp k H locs ls hP hD hS hl)
theorem v_ald0 (hJ : Snd l R cc nL own rt D tys O wld post X J) {x : Nat} (d : decode cc pc = .ok (.aload_n 0, 1)) (k : J (pc + 1) (some (.ref x) :: lv) (.ref x :: st) u) : J pc (some (.ref x) :: lv) st u := by
  obtain ⟨p, e, s, m, args, below, meth, c, A, Q⟩ := X
  obtain ⟨hx, hb, hml, hown, hts, hr, hlk, hK, hA, hOL, hO, hQ, hW⟩ := hJ
  refine (hW _ _ _ _).mpr (fun H locs ls hP hD hS hl => ?_)
  exact lv_aload_n hx hb d rfl (hl.2.2 0 _ rfl).1 ((hW _ _ _ _).mp k H locs ls hP hD hS hl)
theorem v_ist0 (hJ : Snd l R cc nL own rt D tys O wld post X J) {a0 : Option Value} {x : Int32} (d : decode cc pc = .ok (.istore_n 0, 1)) (hn : 0 < nL) (k : J (pc + 1) (some (.int x) :: lv) st u) : J pc (a0 :: lv) (.int x :: st) u := by
  obtain ⟨p, e, s, m, args, below, meth, c, A, Q⟩ := X
  obtain ⟨hx, hb, hml, hown, hts, hr, hlk, hK, hA, hOL, hO, hQ, hW⟩ := hJ
  refine (hW _ _ _ _).mpr (fun H locs ls hP hD hS hl => ?_)
  exact lv_istore_n hx hb d rfl hl.has hn rfl (fun ls2 h2 => (hW _ _ _ _).mp k H locs ls2 hP hD hS (hl.store rfl h2))
theorem v_ast0 (hJ : Snd l R cc nL own rt D tys O wld post X J) {a0 : Option Value} {x : Nat} (d : decode cc pc = .ok (.astore_n 0, 1)) (hn : 0 < nL) (k : J (pc + 1) (some (.ref x) :: lv) st u) : J pc (a0 :: lv) (.ref x :: st) u := by
  obtain ⟨p, e, s, m, args, below, meth, c, A, Q⟩ := X
  obtain ⟨hx, hb, hml, hown, hts, hr, hlk, hK, hA, hOL, hO, hQ, hW⟩ := hJ
  refine (hW _ _ _ _).mpr (fun H locs ls hP hD hS hl => ?_)
  exact lv_astore_n hx hb d rfl hl.has hn rfl (fun ls2 h2 => (hW _ _ _ _).mp k H locs ls2 hP hD hS (hl.store rfl h2))
theorem v_inc0 (hJ : Snd l R cc nL own rt D tys O wld post X J) {x n : Int} (d : decode cc pc = .ok (.iinc 0 n, 3)) (hn : 0 < nL) (k : J (pc + 3) (some (.int (iZ (x + n))) :: lv) st u) : J pc (some (.int (iZ x)) :: lv) st u := by
  obtain ⟨p, e, s, m, args, below, meth, c, A, Q⟩ := X
  obtain ⟨hx, hb, hml, hown, hts, hr, hlk, hK, hA, hOL, hO, hQ, hW⟩ := hJ
  refine (hW _ _ _ _).mpr (fun H locs ls hP hD hS hl => ?_)
  obtain ⟨kk, hkk⟩ := List.getElem?_of_mem (lvP_mem (i := 0) (v := .int (iZ x)).mpr (show (some (.int (iZ x)) :: lv)[0]? = _ from rfl))
  exact lv_iinc (v := iZ (x + n)) hx hb d hl.has hkk (iZ_add x n) hn rfl (fun ls2 h2 => (hW _ _ _ _).mp k H locs ls2 hP hD hS (hl.store rfl h2))
theorem v_ild1 (hJ : Snd l R cc nL own rt D tys O wld post X J) {a0 : Option Value} {x : Int32} (d : decode cc pc = .ok (.iload_n 1, 1)) (k : J (pc + 1) (a0 :: some (.int x) :: lv) (.int x :: st) u) : J pc (a0 :: some (.int x) :: lv) st u := by
  obtain ⟨p, e, s, m, args, below, meth, c, A, Q⟩ := X
  obtain ⟨hx, hb, hml, hown, hts, hr, hlk, hK, hA, hOL, hO, hQ, hW⟩ := hJ
  refine (hW _ _ _ _).mpr (fun H locs ls hP hD hS hl => ?_)
  exact lv_iload_n hx hb d rfl (hl.2.2 1 _ rfl).1 ((hW _ _ _ _).mp k H locs ls hP hD hS hl)
theorem v_ald1 (hJ : Snd l R cc nL own rt D tys O wld post X J) {a0 : Option Value} {x : Nat} (d : decode cc pc = .ok (.aload_n 1, 1)) (k : J (pc + 1) (a0 :: some (.ref x) :: lv) (.ref x :: st) u) : J pc (a0 :: some (.ref x) :: lv) st u := by
  obtain ⟨p, e, s, m, args, below, meth, c, A, Q⟩ := X
  obtain ⟨hx, hb, hml, hown, hts, hr, hlk, hK, hA, hOL, hO, hQ, hW⟩ := hJ
  refine (hW _ _ _ _).mpr (fun H locs ls hP hD hS hl => ?_)
  exact lv_aload_n hx hb d rfl (hl.2.2 1 _ rfl).1 ((hW _ _ _ _).mp k H locs ls hP hD hS hl)
theorem v_ist1 (hJ : Snd l R cc nL own rt D tys O wld post X J) {a0 a1 : Option Value} {x : Int32} (d : decode cc pc = .ok (.istore_n 1, 1)) (hn : 1 < nL) (k : J (pc + 1) (a0 :: some (.int x) :: lv) st u) : J pc (a0 :: a1 :: lv) (.int x :: st) u := by
  obtain ⟨p, e, s, m, args, below, meth, c, A, Q⟩ := X
  obtain ⟨hx, hb, hml, hown, hts, hr, hlk, hK, hA, hOL, hO, hQ, hW⟩ := hJ
  refine (hW _ _ _ _).mpr (fun H locs ls hP hD hS hl => ?_)
  exact lv_istore_n hx hb d rfl hl.has hn rfl (fun ls2 h2 => (hW _ _ _ _).mp k H locs ls2 hP hD hS (hl.store rfl h2))
theorem v_ast1 (hJ : Snd l R cc nL own rt D tys O wld post X J) {a0 a1 : Option Value} {x : Nat} (d : decode cc pc = .ok (.astore_n 1, 1)) (hn : 1 < nL) (k : J (pc + 1) (a0 :: some (.ref x) :: lv) st u) : J pc (a0 :: a1 :: lv) (.ref x :: st) u := by
  obtain ⟨p, e, s, m, args, below, meth, c, A, Q⟩ := X
  obtain ⟨hx, hb, hml, hown, hts, hr, hlk, hK, hA, hOL, hO, hQ, hW⟩ := hJ
  refine (hW _ _ _ _).mpr (fun H locs ls hP hD hS hl => ?_)
  exact lv_astore_n hx hb d rfl hl.has hn rfl (fun ls2 h2 => (hW _ _ _ _).mp k H locs ls2 hP hD hS (hl.store rfl h2))
theorem v_inc1 (hJ : Snd l R cc nL own rt D tys O wld post X J) {a0 : Option Value} {x n : Int} (d : decode cc pc = .ok (.iinc 1 n, 3)) (hn : 1 < nL) (k : J (pc + 3) (a0 :: some (.int (iZ (x + n))) :: lv) st u) : J pc (a0 :: some (.int (iZ x)) :: lv) st u := by
  obtain ⟨p, e, s, m, args, below, meth, c, A, Q⟩ := X
  obtain ⟨hx, hb, hml, hown, hts, hr, hlk, hK, hA, hOL, hO, hQ, hW⟩ := hJ
  refine (hW _ _ _ _).mpr (fun H locs ls hP hD hS hl => ?_)
  obtain ⟨kk, hkk⟩ := List.getElem?_of_mem (lvP_mem (i := 1) (v := .int (iZ x)).mpr (show (a0 :: some (.int (iZ x)) :: lv)[1]? = _ from rfl))
  exact lv_iinc (v := iZ (x + n)) hx hb d hl.has hkk (iZ_add x n) hn rfl (fun ls2 h2 => (hW _ _ _ _).mp k H locs ls2 hP hD hS (hl.store rfl h2))
theorem v_ild2 (hJ : Snd l R cc nL own rt D tys O wld post X J) {a0 a1 : Option Value} {x : Int32} (d : decode cc pc = .ok (.iload_n 2, 1)) (k : J (pc + 1) (a0 :: a1 :: some (.int x) :: lv) (.int x :: st) u) : J pc (a0 :: a1 :: some (.int x) :: lv) st u := by
  obtain ⟨p, e, s, m, args, below, meth, c, A, Q⟩ := X
  obtain ⟨hx, hb, hml, hown, hts, hr, hlk, hK, hA, hOL, hO, hQ, hW⟩ := hJ
  refine (hW _ _ _ _).mpr (fun H locs ls hP hD hS hl => ?_)
  exact lv_iload_n hx hb d rfl (hl.2.2 2 _ rfl).1 ((hW _ _ _ _).mp k H locs ls hP hD hS hl)
theorem v_ald2 (hJ : Snd l R cc nL own rt D tys O wld post X J) {a0 a1 : Option Value} {x : Nat} (d : decode cc pc = .ok (.aload_n 2, 1)) (k : J (pc + 1) (a0 :: a1 :: some (.ref x) :: lv) (.ref x :: st) u) : J pc (a0 :: a1 :: some (.ref x) :: lv) st u := by
  obtain ⟨p, e, s, m, args, below, meth, c, A, Q⟩ := X
  obtain ⟨hx, hb, hml, hown, hts, hr, hlk, hK, hA, hOL, hO, hQ, hW⟩ := hJ
  refine (hW _ _ _ _).mpr (fun H locs ls hP hD hS hl => ?_)
  exact lv_aload_n hx hb d rfl (hl.2.2 2 _ rfl).1 ((hW _ _ _ _).mp k H locs ls hP hD hS hl)
theorem v_ist2 (hJ : Snd l R cc nL own rt D tys O wld post X J) {a0 a1 a2 : Option Value} {x : Int32} (d : decode cc pc = .ok (.istore_n 2, 1)) (hn : 2 < nL) (k : J (pc + 1) (a0 :: a1 :: some (.int x) :: lv) st u) : J pc (a0 :: a1 :: a2 :: lv) (.int x :: st) u := by
  obtain ⟨p, e, s, m, args, below, meth, c, A, Q⟩ := X
  obtain ⟨hx, hb, hml, hown, hts, hr, hlk, hK, hA, hOL, hO, hQ, hW⟩ := hJ
  refine (hW _ _ _ _).mpr (fun H locs ls hP hD hS hl => ?_)
  exact lv_istore_n hx hb d rfl hl.has hn rfl (fun ls2 h2 => (hW _ _ _ _).mp k H locs ls2 hP hD hS (hl.store rfl h2))
theorem v_ast2 (hJ : Snd l R cc nL own rt D tys O wld post X J) {a0 a1 a2 : Option Value} {x : Nat} (d : decode cc pc = .ok (.astore_n 2, 1)) (hn : 2 < nL) (k : J (pc + 1) (a0 :: a1 :: some (.ref x) :: lv) st u) : J pc (a0 :: a1 :: a2 :: lv) (.ref x :: st) u := by
  obtain ⟨p, e, s, m, args, below, meth, c, A, Q⟩ := X
  obtain ⟨hx, hb, hml, hown, hts, hr, hlk, hK, hA, hOL, hO, hQ, hW⟩ := hJ
  refine (hW _ _ _ _).mpr (fun H locs ls hP hD hS hl => ?_)
  exact lv_astore_n hx hb d rfl hl.has hn rfl (fun ls2 h2 => (hW _ _ _ _).mp k H locs ls2 hP hD hS (hl.store rfl h2))
theorem v_inc2 (hJ : Snd l R cc nL own rt D tys O wld post X J) {a0 a1 : Option Value} {x n : Int} (d : decode cc pc = .ok (.iinc 2 n, 3)) (hn : 2 < nL) (k : J (pc + 3) (a0 :: a1 :: some (.int (iZ (x + n))) :: lv) st u) : J pc (a0 :: a1 :: some (.int (iZ x)) :: lv) st u := by
  obtain ⟨p, e, s, m, args, below, meth, c, A, Q⟩ := X
  obtain ⟨hx, hb, hml, hown, hts, hr, hlk, hK, hA, hOL, hO, hQ, hW⟩ := hJ
  refine (hW _ _ _ _).mpr (fun H locs ls hP hD hS hl => ?_)
  obtain ⟨kk, hkk⟩ := List.getElem?_of_mem (lvP_mem (i := 2) (v := .int (iZ x)).mpr (show (a0 :: a1 :: some (.int (iZ x)) :: lv)[2]? = _ from rfl))
  exact lv_iinc (v := iZ (x + n)) hx hb d hl.has hkk (iZ_add x n) hn rfl (fun ls2 h2 => (hW _ _ _ _).mp k H locs ls2 hP hD hS (hl.store rfl h2))
theorem v_ild3 (hJ : Snd l R cc nL own rt D tys O wld post X J) {a0 a1 a2 : Option Value} {x : Int32} (d : decode cc pc = .ok (.iload_n 3, 1)) (k : J (pc + 1) (a0 :: a1 :: a2 :: some (.int x) :: lv) (.int x :: st) u) : J pc (a0 :: a1 :: a2 :: some (.int x) :: lv) st u := by
  obtain ⟨p, e, s, m, args, below, meth, c, A, Q⟩ := X
  obtain ⟨hx, hb, hml, hown, hts, hr, hlk, hK, hA, hOL, hO, hQ, hW⟩ := hJ
  refine (hW _ _ _ _).mpr (fun H locs ls hP hD hS hl => ?_)
  exact lv_iload_n hx hb d rfl (hl.2.2 3 _ rfl).1 ((hW _ _ _ _).mp k H locs ls hP hD hS hl)
theorem v_ald3 (hJ : Snd l R cc nL own rt D tys O wld post X J) {a0 a1 a2 : Option Value} {x : Nat} (d : decode cc pc = .ok (.aload_n 3, 1)) (k : J (pc + 1) (a0 :: a1 :: a2 :: some (.ref x) :: lv) (.ref x :: st) u) : J pc (a0 :: a1 :: a2 :: some (.ref x) :: lv) st u := by
  obtain ⟨p, e, s, m, args, below, meth, c, A, Q⟩ := X
  obtain ⟨hx, hb, hml, hown, hts, hr, hlk, hK, hA, hOL, hO, hQ, hW⟩ := hJ
  refine (hW _ _ _ _).mpr (fun H locs ls hP hD hS hl => ?_)
  exact lv_aload_n hx hb d rfl (hl.2.2 3 _ rfl).1 ((hW _ _ _ _).mp k H locs ls hP hD hS hl)
theorem v_ist3 (hJ : Snd l R cc nL own rt D tys O wld post X J) {a0 a1 a2 a3 : Option Value} {x : Int32} (d : decode cc pc = .ok (.istore_n 3, 1)) (hn : 3 < nL) (k : J (pc + 1) (a0 :: a1 :: a2 :: some (.int x) :: lv) st u) : J pc (a0 :: a1 :: a2 :: a3 :: lv) (.int x :: st) u := by
  obtain ⟨p, e, s, m, args, below, meth, c, A, Q⟩ := X
  obtain ⟨hx, hb, hml, hown, hts, hr, hlk, hK, hA, hOL, hO, hQ, hW⟩ := hJ
  refine (hW _ _ _ _).mpr (fun H locs ls hP hD hS hl => ?_)
  exact lv_istore_n hx hb d rfl hl.has hn rfl (fun ls2 h2 => (hW _ _ _ _).mp k H locs ls2 hP hD hS (hl.store rfl h2))
theorem v_ast3 (hJ : Snd l R cc nL own rt D tys O wld post X J) {a0 a1 a2 a3 : Option Value} {x : Nat} (d : decode cc pc = .ok (.astore_n 3, 1)) (hn : 3 < nL) (k : J (pc + 1) (a0 :: a1 :: a2 :: some (.ref x) :: lv) st u) : J pc (a0 :: a1 :: a2 :: a3 :: lv) (.ref x :: st) u := by
  obtain ⟨p, e, s, m, args, below, meth, c, A, Q⟩ := X
  obtain ⟨hx, hb, hml, hown, hts, hr, hlk, hK, hA, hOL, hO, hQ, hW⟩ := hJ
  refine (hW _ _ _ _).mpr (fun H locs ls hP hD hS hl => ?_)
  exact lv_astore_n hx hb d rfl hl.has hn rfl (fun ls2 h2 => (hW _ _ _ _).mp k H locs ls2 hP hD hS (hl.store rfl h2))
theorem v_inc3 (hJ : Snd l R cc nL own rt D tys O wld post X J) {a0 a1 a2 : Option Value} {x n : Int} (d : decode cc pc = .ok (.iinc 3 n, 3)) (hn : 3 < nL) (k : J (pc + 3) (a0 :: a1 :: a2 :: some (.int (iZ (x + n))) :: lv) st u) : J pc (a0 :: a1 :: a2 :: some (.int (iZ x)) :: lv) st u := by
  obtain ⟨p, e, s, m, args, below, meth, c, A, Q⟩ := X
  obtain ⟨hx, hb, hml, hown, hts, hr, hlk, hK, hA, hOL, hO, hQ, hW⟩ := hJ
  refine (hW _ _ _ _).mpr (fun H locs ls hP hD hS hl => ?_)
  obtain ⟨kk, hkk⟩ := List.getElem?_of_mem (lvP_mem (i := 3) (v := .int (iZ x)).mpr (show (a0 :: a1 :: a2 :: some (.int (iZ x)) :: lv)[3]? = _ from rfl))
  exact lv_iinc (v := iZ (x + n)) hx hb d hl.has hkk (iZ_add x n) hn rfl (fun ls2 h2 => (hW _ _ _ _).mp k H locs ls2 hP hD hS (hl.store rfl h2))
theorem v_ild4 (hJ : Snd l R cc nL own rt D tys O wld post X J) {a0 a1 a2 a3 : Option Value} {x : Int32} (d : decode cc pc = .ok (.iload 4, 2)) (k : J (pc + 2) (a0 :: a1 :: a2 :: a3 :: some (.int x) :: lv) (.int x :: st) u) : J pc (a0 :: a1 :: a2 :: a3 :: some (.int x) :: lv) st u := by
  obtain ⟨p, e, s, m, args, below, meth, c, A, Q⟩ := X
  obtain ⟨hx, hb, hml, hown, hts, hr, hlk, hK, hA, hOL, hO, hQ, hW⟩ := hJ
  refine (hW _ _ _ _).mpr (fun H locs ls hP hD hS hl => ?_)
  exact lv_iload hx hb d (hl.2.2 4 _ rfl).1 ((hW _ _ _ _).mp k H locs ls hP hD hS hl)
theorem v_ald4 (hJ : Snd l R cc nL own rt D tys O wld post X J) {a0 a1 a2 a3 : Option Value} {x : Nat} (d : decode cc pc = .ok (.aload 4, 2)) (k : J (pc + 2) (a0 :: a1 :: a2 :: a3 :: some (.ref x) :: lv) (.ref x :: st) u) : J pc (a0 :: a1 :: a2 :: a3 :: some (.ref x) :: lv) st u := by
  obtain ⟨p, e, s, m, args, below, meth, c, A, Q⟩ := X
  obtain ⟨hx, hb, hml, hown, hts, hr, hlk, hK, hA, hOL, hO, hQ, hW⟩ := hJ
  refine (hW _ _ _ _).mpr (fun H locs ls hP hD hS hl => ?_)
  exact lv_aload hx hb d (hl.2.2 4 _ rfl).1 ((hW _ _ _ _).mp k H locs ls hP hD hS hl)
theorem v_ist4 (hJ : Snd l R cc nL own rt D tys O wld post X J) {a0 a1 a2 a3 a4 : Option Value} {x : Int32} (d : decode cc pc = .ok (.istore 4, 2)) (hn : 4 < nL) (k : J (pc + 2) (a0 :: a1 :: a2 :: a3 :: some (.int x) :: lv) st u) : J pc (a0 :: a1 :: a2 :: a3 :: a4 :: lv) (.int x :: st) u := by
  obtain ⟨p, e, s, m, args, below, meth, c, A, Q⟩ := X
  obtain ⟨hx, hb, hml, hown, hts, hr, hlk, hK, hA, hOL, hO, hQ, hW⟩ := hJ
  refine (hW _ _ _ _).mpr (fun H locs ls hP hD hS hl => ?_)
  exact lv_istore hx hb d hl.has hn rfl (fun ls2 h2 => (hW _ _ _ _).mp k H locs ls2 hP hD hS (hl.store rfl h2))
theorem v_ast4 (hJ : Snd l R cc nL own rt D tys O wld post X J) {a0 a1 a2 a3 a4 : Option Value} {x : Nat} (d : decode cc pc = .ok (.astore 4, 2)) (hn : 4 < nL) (k : J (pc + 2) (a0 :: a1 :: a2 :: a3 :: some (.ref x) :: lv) st u) : J pc (a0 :: a1 :: a2 :: a3 :: a4 :: lv) (.ref x :: st) u := by
  obtain ⟨p, e, s, m, args, below, meth, c, A, Q⟩ := X
  obtain ⟨hx, hb, hml, hown, hts, hr, hlk, hK, hA, hOL, hO, hQ, hW⟩ := hJ
  refine (hW _ _ _ _).mpr (fun H locs ls hP hD hS hl => ?_)
  exact lv_astore hx hb d hl.has hn rfl (fun ls2 h2 => (hW _ _ _ _).mp k H locs ls2 hP hD hS (hl.store rfl h2))
theorem v_inc4 (hJ : Snd l R cc nL own rt D tys O wld post X J) {a0 a1 a2 a3 : Option Value} {x n : Int} (d : decode cc pc = .ok (.iinc 4 n, 3)) (hn : 4 < nL) (k : J (pc + 3) (a0 :: a1 :: a2 :: a3 :: some (.int (iZ (x + n))) :: lv) st u) : J pc (a0 :: a1 :: a2 :: a3 :: some (.int (iZ x)) :: lv) st u := by
  obtain ⟨p, e, s, m, args, below, meth, c, A, Q⟩ := X
  obtain ⟨hx, hb, hml, hown, hts, hr, hlk, hK, hA, hOL, hO, hQ, hW⟩ := hJ
  refine (hW _ _ _ _).mpr (fun H locs ls hP hD hS hl => ?_)
  obtain ⟨kk, hkk⟩ := List.getElem?_of_mem (lvP_mem (i := 4) (v := .int (iZ x)).mpr (show (a0 :: a1 :: a2 :: a3 :: some (.int (iZ x)) :: lv)[4]? = _ from rfl))
  exact lv_iinc (v := iZ (x + n)) hx hb d hl.has hkk (iZ_add x n) hn rfl (fun ls2 h2 => (hW _ _ _ _).mp k H locs ls2 hP hD hS (hl.store rfl h2))
theorem v_ild5 (hJ : Snd l R cc nL own rt D tys O wld post X J) {a0 a1 a2 a3 a4 : Option Value} {x : Int32} (d : decode cc pc = .ok (.iload 5, 2)) (k : J (pc + 2) (a0 :: a1 :: a2 :: a3 :: a4 :: some (.int x) :: lv) (.int x :: st) u) : J pc (a0 :: a1 :: a2 :: a3 :: a4 :: some (.int x) :: lv) st u := by
  obtain ⟨p, e, s, m, args, below, meth, c, A, Q⟩ := X
  obtain ⟨hx, hb, hml, hown, hts, hr, hlk, hK, hA, hOL, hO, hQ, hW⟩ := hJ
  refine (hW _ _ _ _).mpr (fun H locs ls hP hD hS hl => ?_)
  exact lv_iload hx hb d (hl.2.2 5 _ rfl).1 ((hW _ _ _ _).mp k H locs ls hP hD hS hl)
theorem v_ald5 (hJ : Snd l R cc nL own rt D tys O wld post X J) {a0 a1 a2 a3 a4 : Option Value} {x : Nat} (d : decode cc pc = .ok (.aload 5, 2)) (k : J (pc + 2) (a0 :: a1 :: a2 :: a3 :: a4 :: some (.ref x) :: lv) (.ref x :: st) u) : J pc (a0 :: a1 :: a2 :: a3 :: a4 :: some (.ref x) :: lv) st u := by
  obtain ⟨p, e, s, m, args, below, meth, c, A, Q⟩ := X
  obtain ⟨hx, hb, hml, hown, hts, hr, hlk, hK, hA, hOL, hO, hQ, hW⟩ := hJ
  refine (hW _ _ _ _).mpr (fun H locs ls hP hD hS hl => ?_)
  exact lv_aload hx hb d (hl.2.2 5 _ rfl).1 ((hW _ _ _ _).mp k H locs ls hP hD hS hl)
theorem v_ist5 (hJ : Snd l R cc nL own rt D tys O wld post X J) {a0 a1 a2 a3 a4 a5 : Option Value} {x : Int32} (d : decode cc pc = .ok (.istore 5, 2)) (hn : 5 < nL) (k : J (pc + 2) (a0 :: a1 :: a2 :: a3 :: a4 :: some (.int x) :: lv) st u) : J pc (a0 :: a1 :: a2 :: a3 :: a4 :: a5 :: lv) (.int x :: st) u := by
  obtain ⟨p, e, s, m, args, below, meth, c, A, Q⟩ := X
  obtain ⟨hx, hb, hml, hown, hts, hr, hlk, hK, hA, hOL, hO, hQ, hW⟩ := hJ
  refine (hW _ _ _ _).mpr (fun H locs ls hP hD hS hl => ?_)
  exact lv_istore hx hb d hl.has hn rfl (fun ls2 h2 => (hW _ _ _ _).mp k H locs ls2 hP hD hS (hl.store rfl h2))
theorem v_ast5 (hJ : Snd l R cc nL own rt D tys O wld post X J) {a0 a1 a2 a3 a4 a5 : Option Value} {x : Nat} (d : decode cc pc = .ok (.astore 5, 2)) (hn : 5 < nL) (k : J (pc + 2) (a0 :: a1 :: a2 :: a3 :: a4 :: some (.ref x) :: lv) st u) : J pc (a0 :: a1 :: a2 :: a3 :: a4 :: a5 :: lv) (.ref x :: st) u := by
  obtain ⟨p, e, s, m, args, below, meth, c, A, Q⟩ := X
  obtain ⟨hx, hb, hml, hown, hts, hr, hlk, hK, hA, hOL, hO, hQ, hW⟩ := hJ
  refine (hW _ _ _ _).mpr (fun H locs ls hP hD hS hl => ?_)
  exact lv_astore hx hb d hl.has hn rfl (fun ls2 h2 => (hW _ _ _ _).mp k H locs ls2 hP hD hS (hl.store rfl h2))
theorem v_inc5 (hJ : Snd l R cc nL own rt D tys O wld post X J) {a0 a1 a2 a3 a4 : Option Value} {x n : Int} (d : decode cc pc = .ok (.iinc 5 n, 3)) (hn : 5 < nL) (k : J (pc + 3) (a0 :: a1 :: a2 :: a3 :: a4 :: some (.int (iZ (x + n))) :: lv) st u) : J pc (a0 :: a1 :: a2 :: a3 :: a4 :: some (.int (iZ x)) :: lv) st u := by
  obtain ⟨p, e, s, m, args, below, meth, c, A, Q⟩ := X
  obtain ⟨hx, hb, hml, hown, hts, hr, hlk, hK, hA, hOL, hO, hQ, hW⟩ := hJ
  refine (hW _ _ _ _).mpr (fun H locs ls hP hD hS hl => ?_)
  obtain ⟨kk, hkk⟩ := List.getElem?_of_mem (lvP_mem (i := 5) (v := .int (iZ x)).mpr (show (a0 :: a1 :: a2 :: a3 :: a4 :: some (.int (iZ x)) :: lv)[5]? = _ from rfl))
  exact lv_iinc (v := iZ (x + n)) hx hb d hl.has hkk (iZ_add x n) hn rfl (fun ls2 h2 => (hW _ _ _ _).mp k H locs ls2 hP hD hS (hl.store rfl h2))
theorem v_ild6 (hJ : Snd l R cc nL own rt D tys O wld post X J) {a0 a1 a2 a3 a4 a5 : Option Value} {x : Int32} (d : decode cc pc = .ok (.iload 6, 2)) (k : J (pc + 2) (a0 :: a1 :: a2 :: a3 :: a4 :: a5 :: some (.int x) :: lv) (.int x :: st) u) : J pc (a0 :: a1 :: a2 :: a3 :: a4 :: a5 :: some (.int x) :: lv) st u := by
  obtain ⟨p, e, s, m, args, below, meth, c, A, Q⟩ := X
  obtain ⟨hx, hb, hml, hown, hts, hr, hlk, hK, hA, hOL, hO, hQ, hW⟩ := hJ
  refine (hW _ _ _ _).mpr (fun H locs ls hP hD hS hl => ?_)
  exact lv_iload hx hb d (hl.2.2 6 _ rfl).1 ((hW _ _ _ _).mp k H locs ls hP hD hS hl)
theorem v_ald6 (hJ : Snd l R cc nL own rt D tys O wld post X J) {a0 a1 a2 a3 a4 a5 : Option Value} {x : Nat} (d : decode cc pc = .ok (.aload 6, 2)) (k : J (pc + 2) (a0 :: a1 :: a2 :: a3 :: a4 :: a5 :: some (.ref x) :: lv) (.ref x :: st) u) : J pc (a0 :: a1 :: a2 :: a3 :: a4 :: a5 :: some (.ref x) :: lv) st u := by
  obtain ⟨p, e, s, m, args, below, meth, c, A, Q⟩ := X
  obtain ⟨hx, hb, hml, hown, hts, hr, hlk, hK, hA, hOL, hO, hQ, hW⟩ := hJ
  refine (hW _ _ _ _).mpr (fun H locs ls hP hD hS hl => ?_)
  exact lv_aload hx hb d (hl.2.2 6 _ rfl).1 ((hW _ _ _ _).mp k H locs ls hP hD hS hl)
theorem v_ist6 (hJ : Snd l R cc nL own rt D tys O wld post X J) {a0 a1 a2 a3 a4 a5 a6 : Option Value} {x : Int32} (d : decode cc pc = .ok (.istore 6, 2)) (hn : 6 < nL) (k : J (pc + 2) (a0 :: a1 :: a2 :: a3 :: a4 :: a5 :: some (.int x) :: lv) st u) : J pc (a0 :: a1 :: a2 :: a3 :: a4 :: a5 :: a6 :: lv) (.int x :: st) u := by
  obtain ⟨p, e, s, m, args, below, meth, c, A, Q⟩ := X
  obtain ⟨hx, hb, hml, hown, hts, hr, hlk, hK, hA, hOL, hO, hQ, hW⟩ := hJ
  refine (hW _ _ _ _).mpr (fun H locs ls hP hD hS hl => ?_)
  exact lv_istore hx hb d hl.has hn rfl (fun ls2 h2 => (hW _ _ _ _).mp k H locs ls2 hP hD hS (hl.store rfl h2))
theorem v_ast6 (hJ : Snd l R cc nL own rt D tys O wld post X J) {a0 a1 a2 a3 a4 a5 a6 : Option Value} {x : Nat} (d : decode cc pc = .ok (.astore 6, 2)) (hn : 6 < nL) (k : J (pc + 2) (a0 :: a1 :: a2 :: a3 :: a4 :: a5 :: some (.ref x) :: lv) st u) : J pc (a0 :: a1 :: a2 :: a3 :: a4 :: a5 :: a6 :: lv) (.ref x :: st) u := by
  obtain ⟨p, e, s, m, args, below, meth, c, A, Q⟩ := X
  obtain ⟨hx, hb, hml, hown, hts, hr, hlk, hK, hA, hOL, hO, hQ, hW⟩ := hJ
  refine (hW _ _ _ _).mpr (fun H locs ls hP hD hS hl => ?_)
  exact lv_astore hx hb d hl.has hn rfl (fun ls2 h2 => (hW _ _ _ _).mp k H locs ls2 hP hD hS (hl.store rfl h2))
theorem v_inc6 (hJ : Snd l R cc nL own rt D tys O wld post X J) {a0 a1 a2 a3 a4 a5 : Option Value} {x n : Int} (d : decode cc pc = .ok (.iinc 6 n, 3)) (hn : 6 < nL) (k : J (pc + 3) (a0 :: a1 :: a2 :: a3 :: a4 :: a5 :: some (.int (iZ (x + n))) :: lv) st u) : J pc (a0 :: a1 :: a2 :: a3 :: a4 :: a5 :: some (.int (iZ x)) :: lv) st u := by
  obtain ⟨p, e, s, m, args, below, meth, c, A, Q⟩ := X
  obtain ⟨hx, hb, hml, hown, hts, hr, hlk, hK, hA, hOL, hO, hQ, hW⟩ := hJ
  refine (hW _ _ _ _).mpr (fun H locs ls hP hD hS hl => ?_)
  obtain ⟨kk, hkk⟩ := List.getElem?_of_mem (lvP_mem (i := 6) (v := .int (iZ x)).mpr (show (a0 :: a1 :: a2 :: a3 :: a4 :: a5 :: some (.int (iZ x)) :: lv)[6]? = _ from rfl))
  exact lv_iinc (v := iZ (x + n)) hx hb d hl.has hkk (iZ_add x n) hn rfl (fun ls2 h2 => (hW _ _ _ _).mp k H locs ls2 hP hD hS (hl.store rfl h2))
theorem v_ild7 (hJ : Snd l R cc nL own rt D tys O wld post X J) {a0 a1 a2 a3 a4 a5 a6 : Option Value} {x : Int32} (d : decode cc pc = .ok (.iload 7, 2)) (k : J (pc + 2) (a0 :: a1 :: a2 :: a3 :: a4 :: a5 :: a6 :: some (.int x) :: lv) (.int x :: st) u) : J pc (a0 :: a1 :: a2 :: a3 :: a4 :: a5 :: a6 :: some (.int x) :: lv) st u := by
  obtain ⟨p, e, s, m, args, below, meth, c, A, Q⟩ := X
  obtain ⟨hx, hb, hml, hown, hts, hr, hlk, hK, hA, hOL, hO, hQ, hW⟩ := hJ
  refine (hW _ _ _ _).mpr (fun H locs ls hP hD hS hl => ?_)
  exact lv_iload hx hb d (hl.2.2 7 _ rfl).1 ((hW _ _ _ _).mp k H locs ls hP hD hS hl)
theorem v_ald7 (hJ : Snd l R cc nL own rt D tys O wld post X J) {a0 a1 a2 a3 a4 a5 a6 : Option Value} {x : Nat} (d : decode cc pc = .ok (.aload 7, 2)) (k : J (pc + 2) (a0 :: a1 :: a2 :: a3 :: a4 :: a5 :: a6 :: some (.ref x) :: lv) (.ref x :: st) u) : J pc (a0 :: a1 :: a2 :: a3 :: a4 :: a5 :: a6 :: some (.ref x) :: lv) st u := by
  obtain ⟨p, e, s, m, args, below, meth, c, A, Q⟩ := X
  obtain ⟨hx, hb, hml, hown, hts, hr, hlk, hK, hA, hOL, hO, hQ, hW⟩ := hJ
  refine (hW _ _ _ _).mpr (fun H locs ls hP hD hS hl => ?_)
  exact lv_aload hx hb d (hl.2.2 7 _ rfl).1 ((hW _ _ _ _).mp k H locs ls hP hD hS hl)
theorem v_ist7 (hJ : Snd l R cc nL own rt D tys O wld post X J) {a0 a1 a2 a3 a4 a5 a6 a7 : Option Value} {x : Int32} (d : decode cc pc = .ok (.istore 7, 2)) (hn : 7 < nL) (k : J (pc + 2) (a0 :: a1 :: a2 :: a3 :: a4 :: a5 :: a6 :: some (.int x) :: lv) st u) : J pc (a0 :: a1 :: a2 :: a3 :: a4 :: a5 :: a6 :: a7 :: lv) (.int x :: st) u := by
  obtain ⟨p, e, s, m, args, below, meth, c, A, Q⟩ := X
  obtain ⟨hx, hb, hml, hown, hts, hr, hlk, hK, hA, hOL, hO, hQ, hW⟩ := hJ
  refine (hW _ _ _ _).mpr (fun H locs ls hP hD hS hl => ?_)
  exact lv_istore hx hb d hl.has hn rfl (fun ls2 h2 => (hW _ _ _ _).mp k H locs ls2 hP hD hS (hl.store rfl h2))
theorem v_ast7 (hJ : Snd l R cc nL own rt D tys O wld post X J) {a0 a1 a2 a3 a4 a5 a6 a7 : Option Value} {x : Nat} (d : decode cc pc = .ok (.astore 7, 2)) (hn : 7 < nL) (k : J (pc + 2) (a0 :: a1 :: a2 :: a3 :: a4 :: a5 :: a6 :: some (.ref x) :: lv) st u) : J pc (a0 :: a1 :: a2 :: a3 :: a4 :: a5 :: a6 :: a7 :: lv) (.ref x :: st) u := by
  obtain ⟨p, e, s, m, args, below, meth, c, A, Q⟩ := X
  obtain ⟨hx, hb, hml, hown, hts, hr, hlk, hK, hA, hOL, hO, hQ, hW⟩ := hJ
  refine (hW _ _ _ _).mpr (fun H locs ls hP hD hS hl => ?_)
  exact lv_astore hx hb d hl.has hn rfl (fun ls2 h2 => (hW _ _ _ _).mp k H locs ls2 hP hD hS (hl.store rfl h2))
theorem v_inc7 (hJ : Snd l R cc nL own rt D tys O wld post X J) {a0 a1 a2 a3 a4 a5 a6 : Option Value} {x n : Int} (d : decode cc pc = .ok (.iinc 7 n, 3)) (hn : 7 < nL) (k : J (pc + 3) (a0 :: a1 :: a2 :: a3 :: a4 :: a5 :: a6 :: some (.int (iZ (x + n))) :: lv) st u) : J pc (a0 :: a1 :: a2 :: a3 :: a4 :: a5 :: a6 :: some (.int (iZ x)) :: lv) st u := by
  obtain ⟨p, e, s, m, args, below, meth, c, A, Q⟩ := X
  obtain ⟨hx, hb, hml, hown, hts, hr, hlk, hK, hA, hOL, hO, hQ, hW⟩ := hJ
  refine (hW _ _ _ _).mpr (fun H locs ls hP hD hS hl => ?_)
  obtain ⟨kk, hkk⟩ := List.getElem?_of_mem (lvP_mem (i := 7) (v := .int (iZ x)).mpr (show (a0 :: a1 :: a2 :: a3 :: a4 :: a5 :: a6 :: some (.int (iZ x)) :: lv)[7]? = _ from rfl))
  exact lv_iinc (v := iZ (x + n)) hx hb d hl.has hkk (iZ_add x n) hn rfl (fun ls2 h2 => (hW _ _ _ _).mp k H locs ls2 hP hD hS (hl.store rfl h2))
theorem v_ild8 (hJ : Snd l R cc nL own rt D tys O wld post X J) {a0 a1 a2 a3 a4 a5 a6 a7 : Option Value} {x : Int32} (d : decode cc pc = .ok (.iload 8, 2)) (k : J (pc + 2) (a0 :: a1 :: a2 :: a3 :: a4 :: a5 :: a6 :: a7 :: some (.int x) :: lv) (.int x :: st) u) : J pc (a0 :: a1 :: a2 :: a3 :: a4 :: a5 :: a6 :: a7 :: some (.int x) :: lv) st u := by
  obtain ⟨p, e, s, m, args, below, meth, c, A, Q⟩ := X
  obtain ⟨hx, hb, hml, hown, hts, hr, hlk, hK, hA, hOL, hO, hQ, hW⟩ := hJ
  refine (hW _ _ _ _).mpr (fun H locs ls hP hD hS hl => ?_)
  exact lv_iload hx hb d (hl.2.2 8 _ rfl).1 ((hW _ _ _ _).mp k H locs ls hP hD hS hl)
theorem v_ald8 (hJ : Snd l R cc nL own rt D tys O wld post X J) {a0 a1 a2 a3 a4 a5 a6 a7 : Option Value} {x : Nat} (d : decode cc pc = .ok (.aload 8, 2)) (k : J (pc + 2) (a0 :: a1 :: a2 :: a3 :: a4 :: a5 :: a6 :: a7 :: some (.ref x) :: lv) (.ref x :: st) u) : J pc (a0 :: a1 :: a2 :: a3 :: a4 :: a5 :: a6 :: a7 :: some (.ref x) :: lv) st u := by
  obtain ⟨p, e, s, m, args, below, meth, c, A, Q⟩ := X
  obtain ⟨hx, hb, hml, hown, hts, hr, hlk, hK, hA, hOL, hO, hQ, hW⟩ := hJ
  refine (hW _ _ _ _).mpr (fun H locs ls hP hD hS hl => ?_)
  exact lv_aload hx hb d (hl.2.2 8 _ rfl).1 ((hW _ _ _ _).mp k H locs ls hP hD hS hl)
theorem v_ist8 (hJ : Snd l R cc nL own rt D tys O wld post X J) {a0 a1 a2 a3 a4 a5 a6 a7 a8 : Option Value} {x : Int32} (d : decode cc pc = .ok (.istore 8, 2)) (hn : 8 < nL) (k : J (pc + 2) (a0 :: a1 :: a2 :: a3 :: a4 :: a5 :: a6 :: a7 :: some (.int x) :: lv) st u) : J pc (a0 :: a1 :: a2 :: a3 :: a4 :: a5 :: a6 :: a7 :: a8 :: lv) (.int x :: st) u := by
  obtain ⟨p, e, s, m, args, below, meth, c, A, Q⟩ := X
  obtain ⟨hx, hb, hml, hown, hts, hr, hlk, hK, hA, hOL, hO, hQ, hW⟩ := hJ
  refine (hW _ _ _ _).mpr (fun H locs ls hP hD hS hl => ?_)
  exact lv_istore hx hb d hl.has hn rfl (fun ls2 h2 => (hW _ _ _ _).mp k H locs ls2 hP hD hS (hl.store rfl h2))
theorem v_ast8 (hJ : Snd l R cc nL own rt D tys O wld post X J) {a0 a1 a2 a3 a4 a5 a6 a7 a8 : Option Value} {x : Nat} (d : decode cc pc = .ok (.astore 8, 2)) (hn : 8 < nL) (k : J (pc + 2) (a0 :: a1 :: a2 :: a3 :: a4 :: a5 :: a6 :: a7 :: some (.ref x) :: lv) st u) : J pc (a0 :: a1 :: a2 :: a3 :: a4 :: a5 :: a6 :: a7 :: a8 :: lv) (.ref x :: st) u := by
  obtain ⟨p, e, s, m, args, below, meth, c, A, Q⟩ := X
  obtain ⟨hx, hb, hml, hown, hts, hr, hlk, hK, hA, hOL, hO, hQ, hW⟩ := hJ
  refine (hW _ _ _ _).mpr (fun H locs ls hP hD hS hl => ?_)
  exact lv_astore hx hb d hl.has hn rfl (fun ls2 h2 => (hW _ _ _ _).mp k H locs ls2 hP hD hS (hl.store rfl h2))
theorem v_inc8 (hJ : Snd l R cc nL own rt D tys O wld post X J) {a0 a1 a2 a3 a4 a5 a6 a7 : Option Value} {x n : Int} (d : decode cc pc = .ok (.iinc 8 n, 3)) (hn : 8 < nL) (k : J (pc + 3) (a0 :: a1 :: a2 :: a3 :: a4 :: a5 :: a6 :: a7 :: some (.int (iZ (x + n))) :: lv) st u) : J pc (a0 :: a1 :: a2 :: a3 :: a4 :: a5 :: a6 :: a7 :: some (.int (iZ x)) :: lv) st u := by
  obtain ⟨p, e, s, m, args, below, meth, c, A, Q⟩ := X
  obtain ⟨hx, hb, hml, hown, hts, hr, hlk, hK, hA, hOL, hO, hQ, hW⟩ := hJ
  refine (hW _ _ _ _).mpr (fun H locs ls hP hD hS hl => ?_)
  obtain ⟨kk, hkk⟩ := List.getElem?_of_mem (lvP_mem (i := 8) (v := .int (iZ x)).mpr (show (a0 :: a1 :: a2 :: a3 :: a4 :: a5 :: a6 :: a7 :: some (.int (iZ x)) :: lv)[8]? = _ from rfl))
  exact lv_iinc (v := iZ (x + n)) hx hb d hl.has hkk (iZ_add x n) hn rfl (fun ls2 h2 => (hW _ _ _ _).mp k H locs ls2 hP hD hS (hl.store rfl h2))
theorem v_ild9 (hJ : Snd l R cc nL own rt D tys O wld post X J) {a0 a1 a2 a3 a4 a5 a6 a7 a8 : Option Value} {x : Int32} (d : decode cc pc = .ok (.iload 9, 2)) (k : J (pc + 2) (a0 :: a1 :: a2 :: a3 :: a4 :: a5 :: a6 :: a7 :: a8 :: some (.int x) :: lv) (.int x :: st) u) : J pc (a0 :: a1 :: a2 :: a3 :: a4 :: a5 :: a6 :: a7 :: a8 :: some (.int x) :: lv) st u := by
  obtain ⟨p, e, s, m, args, below, meth, c, A, Q⟩ := X
  obtain ⟨hx, hb, hml, hown, hts, hr, hlk, hK, hA, hOL, hO, hQ, hW⟩ := hJ
  refine (hW _ _ _ _).mpr (fun H locs ls hP hD hS hl => ?_)
  exact lv_iload hx hb d (hl.2.2 9 _ rfl).1 ((hW _ _ _ _).mp k H locs ls hP hD hS hl)
theorem v_ald9 (hJ : Snd l R cc nL own rt D tys O wld post X J) {a0 a1 a2 a3 a4 a5 a6 a7 a8 : Option Value} {x : Nat} (d : decode cc pc = .ok (.aload 9, 2)) (k : J (pc + 2) (a0 :: a1 :: a2 :: a3 :: a4 :: a5 :: a6 :: a7 :: a8 :: some (.ref x) :: lv) (.ref x :: st) u) : J pc (a0 :: a1 :: a2 :: a3 :: a4 :: a5 :: a6 :: a7 :: a8 :: some (.ref x) :: lv) st u := by
  obtain ⟨p, e, s, m, args, below, meth, c, A, Q⟩ := X
  obtain ⟨hx, hb, hml, hown, hts, hr, hlk, hK, hA, hOL, hO, hQ, hW⟩ := hJ
  refine (hW _ _ _ _).mpr (fun H locs ls hP hD hS hl => ?_)
  exact lv_aload hx hb d (hl.2.2 9 _ rfl).1 ((hW _ _ _ _).mp k H locs ls hP hD hS hl)
theorem v_ist9 (hJ : Snd l R cc nL own rt D tys O wld post X J) {a0 a1 a2 a3 a4 a5 a6 a7 a8 a9 : Option Value} {x : Int32} (d : decode cc pc = .ok (.istore 9, 2)) (hn : 9 < nL) (k : J (pc + 2) (a0 :: a1 :: a2 :: a3 :: a4 :: a5 :: a6 :: a7 :: a8 :: some (.int x) :: lv) st u) : J pc (a0 :: a1 :: a2 :: a3 :: a4 :: a5 :: a6 :: a7 :: a8 :: a9 :: lv) (.int x :: st) u := by
  obtain ⟨p, e, s, m, args, below, meth, c, A, Q⟩ := X
  obtain ⟨hx, hb, hml, hown, hts, hr, hlk, hK, hA, hOL, hO, hQ, hW⟩ := hJ
  refine (hW _ _ _ _).mpr (fun H locs ls hP hD hS hl => ?_)
  exact lv_istore hx hb d hl.has hn rfl (fun ls2 h2 => (hW _ _ _ _).mp k H locs ls2 hP hD hS (hl.store rfl h2))
theorem v_ast9 (hJ : Snd l R cc nL own rt D tys O wld post X J) {a0 a1 a2 a3 a4 a5 a6 a7 a8 a9 : Option Value} {x : Nat} (d : decode cc pc = .ok (.astore 9, 2)) (hn : 9 < nL) (k : J (pc + 2) (a0 :: a1 :: a2 :: a3 :: a4 :: a5 :: a6 :: a7 :: a8 :: some (.ref x) :: lv) st u) : J pc (a0 :: a1 :: a2 :: a3 :: a4 :: a5 :: a6 :: a7 :: a8 :: a9 :: lv) (.ref x :: st) u := by
  obtain ⟨p, e, s, m, args, below, meth, c, A, Q⟩ := X
  obtain ⟨hx, hb, hml, hown, hts, hr, hlk, hK, hA, hOL, hO, hQ, hW⟩ := hJ
  refine (hW _ _ _ _).mpr (fun H locs ls hP hD hS hl => ?_)
  exact lv_astore hx hb d hl.has hn rfl (fun ls2 h2 => (hW _ _ _ _).mp k H locs ls2 hP hD hS (hl.store rfl h2))
theorem v_inc9 (hJ : Snd l R cc nL own rt D tys O wld post X J) {a0 a1 a2 a3 a4 a5 a6 a7 a8 : Option Value} {x n : Int} (d : decode cc pc = .ok (.iinc 9 n, 3)) (hn : 9 < nL) (k : J (pc + 3) (a0 :: a1 :: a2 :: a3 :: a4 :: a5 :: a6 :: a7 :: a8 :: some (.int (iZ (x + n))) :: lv) st u) : J pc (a0 :: a1 :: a2 :: a3 :: a4 :: a5 :: a6 :: a7 :: a8 :: some (.int (iZ x)) :: lv) st u := by
  obtain ⟨p, e, s, m, args, below, meth, c, A, Q⟩ := X
  obtain ⟨hx, hb, hml, hown, hts, hr, hlk, hK, hA, hOL, hO, hQ, hW⟩ := hJ
  refine (hW _ _ _ _).mpr (fun H locs ls hP hD hS hl => ?_)
  obtain ⟨kk, hkk⟩ := List.getElem?_of_mem (lvP_mem (i := 9) (v := .int (iZ x)).mpr (show (a0 :: a1 :: a2 :: a3 :: a4 :: a5 :: a6 :: a7 :: a8 :: some (.int (iZ x)) :: lv)[9]? = _ from rfl))
  exact lv_iinc (v := iZ (x + n)) hx hb d hl.has hkk (iZ_add x n) hn rfl (fun ls2 h2 => (hW _ _ _ _).mp k H locs ls2 hP hD hS (hl.store rfl h2))
theorem v_ild10 (hJ : Snd l R cc nL own rt D tys O wld post X J) {a0 a1 a2 a3 a4 a5 a6 a7 a8 a9 : Option Value} {x : Int32} (d : decode cc pc = .ok (.iload 10, 2)) (k : J (pc + 2) (a0 :: a1 :: a2 :: a3 :: a4 :: a5 :: a6 :: a7 :: a8 :: a9 :: some (.int x) :: lv) (.int x :: st) u) : J pc (a0 :: a1 :: a2 :: a3 :: a4 :: a5 :: a6 :: a7 :: a8 :: a9 :: some (.int x) :: lv) st u := by
  obtain ⟨p, e, s, m, args, below, meth, c, A, Q⟩ := X
  obtain ⟨hx, hb, hml, hown, hts, hr, hlk, hK, hA, hOL, hO, hQ, hW⟩ := hJ
  refine (hW _ _ _ _).mpr (fun H locs ls hP hD hS hl => ?_)
  exact lv_iload hx hb d (hl.2.2 10 _ rfl).1 ((hW _ _ _ _).mp k H locs ls hP hD hS hl)
theorem v_ald10 (hJ : Snd l R cc nL own rt D tys O wld post X J) {a0 a1 a2 a3 a4 a5 a6 a7 a8 a9 : Option Value} {x : Nat} (d : decode cc pc = .ok (.aload 10, 2)) (k : J (pc + 2) (a0 :: a1 :: a2 :: a3 :: a4 :: a5 :: a6 :: a7 :: a8 :: a9 :: some (.ref x) :: lv) (.ref x :: st) u) : J pc (a0 :: a1 :: a2 :: a3 :: a4 :: a5 :: a6 :: a7 :: a8 :: a9 :: some (.ref x) :: lv) st u := by
  obtain ⟨p, e, s, m, args, below, meth, c, A, Q⟩ := X
  obtain ⟨hx, hb, hml, hown, hts, hr, hlk, hK, hA, hOL, hO, hQ, hW⟩ := hJ
  refine (hW _ _ _ _).mpr (fun H locs ls hP hD hS hl => ?_)
  exact lv_aload hx hb d (hl.2.2 10 _ rfl).1 ((hW _ _ _ _).mp k H locs ls hP hD hS hl)
theorem v_ist10 (hJ : Snd l R cc nL own rt D tys O wld post X J) {a0 a1 a2 a3 a4 a5 a6 a7 a8 a9 a10 : Option Value} {x : Int32} (d : decode cc pc = .ok (.istore 10, 2)) (hn : 10 < nL) (k : J (pc + 2) (a0 :: a1 :: a2 :: a3 :: a4 :: a5 :: a6 :: a7 :: a8 :: a9 :: some (.int x) :: lv) st u) : J pc (a0 :: a1 :: a2 :: a3 :: a4 :: a5 :: a6 :: a7 :: a8 :: a9 :: a10 :: lv) (.int x :: st) u := by
  obtain ⟨p, e, s, m, args, below, meth, c, A, Q⟩ := X
  obtain ⟨hx, hb, hml, hown, hts, hr, hlk, hK, hA, hOL, hO, hQ, hW⟩ := hJ
  refine (hW _ _ _ _).mpr (fun H locs ls hP hD hS hl => ?_)
  exact lv_istore hx hb d hl.has hn rfl (fun ls2 h2 => (hW _ _ _ _).mp k H locs ls2 hP hD hS (hl.store rfl h2))
theorem v_ast10 (hJ : Snd l R cc nL own rt D tys O wld post X J) {a0 a1 a2 a3 a4 a5 a6 a7 a8 a9 a10 : Option Value} {x : Nat} (d : decode cc pc = .ok (.astore 10, 2)) (hn : 10 < nL) (k : J (pc + 2) (a0 :: a1 :: a2 :: a3 :: a4 :: a5 :: a6 :: a7 :: a8 :: a9 :: some (.ref x) :: lv) st u) : J pc (a0 :: a1 :: a2 :: a3 :: a4 :: a5 :: a6 :: a7 :: a8 :: a9 :: a10 :: lv) (.ref x :: st) u := by
  obtain ⟨p, e, s, m, args, below, meth, c, A, Q⟩ := X
  obtain ⟨hx, hb, hml, hown, hts, hr, hlk, hK, hA, hOL, hO, hQ, hW⟩ := hJ
  refine (hW _ _ _ _).mpr (fun H locs ls hP hD hS hl => ?_)
  exact lv_astore hx hb d hl.has hn rfl (fun ls2 h2 => (hW _ _ _ _).mp k H locs ls2 hP hD hS (hl.store rfl h2))
theorem v_inc10 (hJ : Snd l R cc nL own rt D tys O wld post X J) {a0 a1 a2 a3 a4 a5 a6 a7 a8 a9 : Option Value} {x n : Int} (d : decode cc pc = .ok (.iinc 10 n, 3)) (hn : 10 < nL) (k : J (pc + 3) (a0 :: a1 :: a2 :: a3 :: a4 :: a5 :: a6 :: a7 :: a8 :: a9 :: some (.int (iZ (x + n))) :: lv) st u) : J pc (a0 :: a1 :: a2 :: a3 :: a4 :: a5 :: a6 :: a7 :: a8 :: a9 :: some (.int (iZ x)) :: lv) st u := by
  obtain ⟨p, e, s, m, args, below, meth, c, A, Q⟩ := X
  obtain ⟨hx, hb, hml, hown, hts, hr, hlk, hK, hA, hOL, hO, hQ, hW⟩ := hJ
  refine (hW _ _ _ _).mpr (fun H locs ls hP hD hS hl => ?_)
  obtain ⟨kk, hkk⟩ := List.getElem?_of_mem (lvP_mem (i := 10) (v := .int (iZ x)).mpr (show (a0 :: a1 :: a2 :: a3 :: a4 :: a5 :: a6 :: a7 :: a8 :: a9 :: some (.int (iZ x)) :: lv)[10]? = _ from rfl))
  exact lv_iinc (v := iZ (x + n)) hx hb d hl.has hkk (iZ_add x n) hn rfl (fun ls2 h2 => (hW _ _ _ _).mp k H locs ls2 hP hD hS (hl.store rfl h2))
theorem v_ild11 (hJ : Snd l R cc nL own rt D tys O wld post X J) {a0 a1 a2 a3 a4 a5 a6 a7 a8 a9 a10 : Option Value} {x : Int32} (d : decode cc pc = .ok (.iload 11, 2)) (k : J (pc + 2) (a0 :: a1 :: a2 :: a3 :: a4 :: a5 :: a6 :: a7 :: a8 :: a9 :: a10 :: some (.int x) :: lv) (.int x :: st) u) : J pc (a0 :: a1 :: a2 :: a3 :: a4 :: a5 :: a6 :: a7 :: a8 :: a9 :: a10 :: some (.int x) :: lv) st u := by
  obtain ⟨p, e, s, m, args, below, meth, c, A, Q⟩ := X
  obtain ⟨hx, hb, hml, hown, hts, hr, hlk, hK, hA, hOL, hO, hQ, hW⟩ := hJ
  refine (hW _ _ _ _).mpr (fun H locs ls hP hD hS hl => ?_)
  exact lv_iload hx hb d (hl.2.2 11 _ rfl).1 ((hW _ _ _ _).mp k H locs ls hP hD hS hl)
theorem v_ald11 (hJ : Snd l R cc nL own rt D tys O wld post X J) {a0 a1 a2 a3 a4 a5 a6 a7 a8 a9 a10 : Option Value} {x : Nat} (d : decode cc pc = .ok (.aload 11, 2)) (k : J (pc + 2) (a0 :: a1 :: a2 :: a3 :: a4 :: a5 :: a6 :: a7 :: a8 :: a9 :: a10 :: some (.ref x) :: lv) (.ref x :: st) u) : J pc (a0 :: a1 :: a2 :: a3 :: a4 :: a5 :: a6 :: a7 :: a8 :: a9 :: a10 :: some (.ref x) :: lv) st u := by
  obtain ⟨p, e, s, m, args, below, meth, c, A, Q⟩ := X
  obtain ⟨hx, hb, hml, hown, hts, hr, hlk, hK, hA, hOL, hO, hQ, hW⟩ := hJ
  refine (hW _ _ _ _).mpr (fun H locs ls hP hD hS hl => ?_)
  exact lv_aload hx hb d (hl.2.2 11 _ rfl).1 ((hW _ _ _ _).mp k H locs ls hP hD hS hl)
theorem v_ist11 (hJ : Snd l R cc nL own rt D tys O wld post X J) {a0 a1 a2 a3 a4 a5 a6 a7 a8 a9 a10 a11 : Option Value} {x : Int32} (d : decode cc pc = .ok (.istore 11, 2)) (hn : 11 < nL) (k : J (pc + 2) (a0 :: a1 :: a2 :: a3 :: a4 :: a5 :: a6 :: a7 :: a8 :: a9 :: a10 :: some (.int x) :: lv) st u) : J pc (a0 :: a1 :: a2 :: a3 :: a4 :: a5 :: a6 :: a7 :: a8 :: a9 :: a10 :: a11 :: lv) (.int x :: st) u := by
  obtain ⟨p, e, s, m, args, below, meth, c, A, Q⟩ := X
  obtain ⟨hx, hb, hml, hown, hts, hr, hlk, hK, hA, hOL, hO, hQ, hW⟩ := hJ
  refine (hW _ _ _ _).mpr (fun H locs ls hP hD hS hl => ?_)
  exact lv_istore hx hb d hl.has hn rfl (fun ls2 h2 => (hW _ _ _ _).mp k H locs ls2 hP hD hS (hl.store rfl h2))
theorem v_ast11 (hJ : Snd l R cc nL own rt D tys O wld post X J) {a0 a1 a2 a3 a4 a5 a6 a7 a8 a9 a10 a11 : Option Value} {x : Nat} (d : decode cc pc = .ok (.astore 11, 2)) (hn : 11 < nL) (k : J (pc + 2) (a0 :: a1 :: a2 :: a3 :: a4 :: a5 :: a6 :: a7 :: a8 :: a9 :: a10 :: some (.ref x) :: lv) st u) : J pc (a0 :: a1 :: a2 :: a3 :: a4 :: a5 :: a6 :: a7 :: a8 :: a9 :: a10 :: a11 :: lv) (.ref x :: st) u := by
  obtain ⟨p, e, s, m, args, below, meth, c, A, Q⟩ := X
  obtain ⟨hx, hb, hml, hown, hts, hr, hlk, hK, hA, hOL, hO, hQ, hW⟩ := hJ
  refine (hW _ _ _ _).mpr (fun H locs ls hP hD hS hl => ?_)
  exact lv_astore hx hb d hl.has hn rfl (fun ls2 h2 => (hW _ _ _ _).mp k H locs ls2 hP hD hS (hl.store rfl h2))
theorem v_inc11 (hJ : Snd l R cc nL own rt D tys O wld post X J) {a0 a1 a2 a3 a4 a5 a6 a7 a8 a9 a10 : Option Value} {x n : Int} (d : decode cc pc = .ok (.iinc 11 n, 3)) (hn : 11 < nL) (k : J (pc + 3) (a0 :: a1 :: a2 :: a3 :: a4 :: a5 :: a6 :: a7 :: a8 :: a9 :: a10 :: some (.int (iZ (x + n))) :: lv) st u) : J pc (a0 :: a1 :: a2 :: a3 :: a4 :: a5 :: a6 :: a7 :: a8 :: a9 :: a10 :: some (.int (iZ x)) :: lv) st u := by
  obtain ⟨p, e, s, m, args, below, meth, c, A, Q⟩ := X
  obtain ⟨hx, hb, hml, hown, hts, hr, hlk, hK, hA, hOL, hO, hQ, hW⟩ := hJ
  refine (hW _ _ _ _).mpr (fun H locs ls hP hD hS hl => ?_)
  obtain ⟨kk, hkk⟩ := List.getElem?_of_mem (lvP_mem (i := 11) (v := .int (iZ x)).mpr (show (a0 :: a1 :: a2 :: a3 :: a4 :: a5 :: a6 :: a7 :: a8 :: a9 :: a10 :: some (.int (iZ x)) :: lv)[11]? = _ from rfl))
  exact lv_iinc (v := iZ (x + n)) hx hb d hl.has hkk (iZ_add x n) hn rfl (fun ls2 h2 => (hW _ _ _ _).mp k H locs ls2 hP hD hS (hl.store rfl h2))
theorem v_ild12 (hJ : Snd l R cc nL own rt D tys O wld post X J) {a0 a1 a2 a3 a4 a5 a6 a7 a8 a9 a10 a11 : Option Value} {x : Int32} (d : decode cc pc = .ok (.iload 12, 2)) (k : J (pc + 2) (a0 :: a1 :: a2 :: a3 :: a4 :: a5 :: a6 :: a7 :: a8 :: a9 :: a10 :: a11 :: some (.int x) :: lv) (.int x :: st) u) : J pc (a0 :: a1 :: a2 :: a3 :: a4 :: a5 :: a6 :: a7 :: a8 :: a9 :: a10 :: a11 :: some (.int x) :: lv) st u := by
  obtain ⟨p, e, s, m, args, below, meth, c, A, Q⟩ := X
  obtain ⟨hx, hb, hml, hown, hts, hr, hlk, hK, hA, hOL, hO, hQ, hW⟩ := hJ
  refine (hW _ _ _ _).mpr (fun H locs ls hP hD hS hl => ?_)
  exact lv_iload hx hb d (hl.2.2 12 _ rfl).1 ((hW _ _ _ _).mp k H locs ls hP hD hS hl)
theorem v_ald12 (hJ : Snd l R cc nL own rt D tys O wld post X J) {a0 a1 a2 a3 a4 a5 a6 a7 a8 a9 a10 a11 : Option Value} {x : Nat} (d : decode cc pc = .ok (.aload 12, 2)) (k : J (pc + 2) (a0 :: a1 :: a2 :: a3 :: a4 :: a5 :: a6 :: a7 :: a8 :: a9 :: a10 :: a11 :: some (.ref x) :: lv) (.ref x :: st) u) : J pc (a0 :: a1 :: a2 :: a3 :: a4 :: a5 :: a6 :: a7 :: a8 :: a9 :: a10 :: a11 :: some (.ref x) :: lv) st u := by
  obtain ⟨p, e, s, m, args, below, meth, c, A, Q⟩ := X
  obtain ⟨hx, hb, hml, hown, hts, hr, hlk, hK, hA, hOL, hO, hQ, hW⟩ := hJ
  refine (hW _ _ _ _).mpr (fun H locs ls hP hD hS hl => ?_)
  exact lv_aload hx hb d (hl.2.2 12 _ rfl).1 ((hW _ _ _ _).mp k H locs ls hP hD hS hl)
theorem v_ist12 (hJ : Snd l R cc nL own rt D tys O wld post X J) {a0 a1 a2 a3 a4 a5 a6 a7 a8 a9 a10 a11 a12 : Option Value} {x : Int32} (d : decode cc pc = .ok (.istore 12, 2)) (hn : 12 < nL) (k : J (pc + 2) (a0 :: a1 :: a2 :: a3 :: a4 :: a5 :: a6 :: a7 :: a8 :: a9 :: a10 :: a11 :: some (.int x) :: lv) st u) : J pc (a0 :: a1 :: a2 :: a3 :: a4 :: a5 :: a6 :: a7 :: a8 :: a9 :: a10 :: a11 :: a12 :: lv) (.int x :: st) u := by
  obtain ⟨p, e, s, m, args, below, meth, c, A, Q⟩ := X
  obtain ⟨hx, hb, hml, hown, hts, hr, hlk, hK, hA, hOL, hO, hQ, hW⟩ := hJ
  refine (hW _ _ _ _).mpr (fun H locs ls hP hD hS hl => ?_)
  exact lv_istore hx hb d hl.has hn rfl (fun ls2 h2 => (hW _ _ _ _).mp k H locs ls2 hP hD hS (hl.store rfl h2))
theorem v_ast12 (hJ : Snd l R cc nL own rt D tys O wld post X J) {a0 a1 a2 a3 a4 a5 a6 a7 a8 a9 a10 a11 a12 : Option Value} {x : Nat} (d : decode cc pc = .ok (.astore 12, 2)) (hn : 12 < nL) (k : J (pc + 2) (a0 :: a1 :: a2 :: a3 :: a4 :: a5 :: a6 :: a7 :: a8 :: a9 :: a10 :: a11 :: some (.ref x) :: lv) st u) : J pc (a0 :: a1 :: a2 :: a3 :: a4 :: a5 :: a6 :: a7 :: a8 :: a9 :: a10 :: a11 :: a12 :: lv) (.ref x :: st) u := by
  obtain ⟨p, e, s, m, args, below, meth, c, A, Q⟩ := X
  obtain ⟨hx, hb, hml, hown, hts, hr, hlk, hK, hA, hOL, hO, hQ, hW⟩ := hJ
  refine (hW _ _ _ _).mpr (fun H locs ls hP hD hS hl => ?_)
  exact lv_astore hx hb d hl.has hn rfl (fun ls2 h2 => (hW _ _ _ _).mp k H locs ls2 hP hD hS (hl.store rfl h2))
theorem v_inc12 (hJ : Snd l R cc nL own rt D tys O wld post X J) {a0 a1 a2 a3 a4 a5 a6 a7 a8 a9 a10 a11 : Option Value} {x n : Int} (d : decode cc pc = .ok (.iinc 12 n, 3)) (hn : 12 < nL) (k : J (pc + 3) (a0 :: a1 :: a2 :: a3 :: a4 :: a5 :: a6 :: a7 :: a8 :: a9 :: a10 :: a11 :: some (.int (iZ (x + n))) :: lv) st u) : J pc (a0 :: a1 :: a2 :: a3 :: a4 :: a5 :: a6 :: a7 :: a8 :: a9 :: a10 :: a11 :: some (.int (iZ x)) :: lv) st u := by
  obtain ⟨p, e, s, m, args, below, meth, c, A, Q⟩ := X
  obtain ⟨hx, hb, hml, hown, hts, hr, hlk, hK, hA, hOL, hO, hQ, hW⟩ := hJ
  refine (hW _ _ _ _).mpr (fun H locs ls hP hD hS hl => ?_)
  obtain ⟨kk, hkk⟩ := List.getElem?_of_mem (lvP_mem (i := 12) (v := .int (iZ x)).mpr (show (a0 :: a1 :: a2 :: a3 :: a4 :: a5 :: a6 :: a7 :: a8 :: a9 :: a10 :: a11 :: some (.int (iZ x)) :: lv)[12]? = _ from rfl))
  exact lv_iinc (v := iZ (x + n)) hx hb d hl.has hkk (iZ_add x n) hn rfl (fun ls2 h2 => (hW _ _ _ _).mp k H locs ls2 hP hD hS (hl.store rfl h2))
theorem v_ild13 (hJ : Snd l R cc nL own rt D tys O wld post X J) {a0 a1 a2 a3 a4 a5 a6 a7 a8 a9 a10 a11 a12 : Option Value} {x : Int32} (d : decode cc pc = .ok (.iload 13, 2)) (k : J (pc + 2) (a0 :: a1 :: a2 :: a3 :: a4 :: a5 :: a6 :: a7 :: a8 :: a9 :: a10 :: a11 :: a12 :: some (.int x) :: lv) (.int x :: st) u) : J pc (a0 :: a1 :: a2 :: a3 :: a4 :: a5 :: a6 :: a7 :: a8 :: a9 :: a10 :: a11 :: a12 :: some (.int x) :: lv) st u := by
  obtain ⟨p, e, s, m, args, below, meth, c, A, Q⟩ := X
  obtain ⟨hx, hb, hml, hown, hts, hr, hlk, hK, hA, hOL, hO, hQ, hW⟩ := hJ
  refine (hW _ _ _ _).mpr (fun H locs ls hP hD hS hl => ?_)
  exact lv_iload hx hb d (hl.2.2 13 _ rfl).1 ((hW _ _ _ _).mp k H locs ls hP hD hS hl)
theorem v_ald13 (hJ : Snd l R cc nL own rt D tys O wld post X J) {a0 a1 a2 a3 a4 a5 a6 a7 a8 a9 a10 a11 a12 : Option Value} {x : Nat} (d : decode cc pc = .ok (.aload 13, 2)) (k : J (pc + 2) (a0 :: a1 :: a2 :: a3 :: a4 :: a5 :: a6 :: a7 :: a8 :: a9 :: a10 :: a11 :: a12 :: some (.ref x) :: lv) (.ref x :: st) u) : J pc (a0 :: a1 :: a2 :: a3 :: a4 :: a5 :: a6 :: a7 :: a8 :: a9 :: a10 :: a11 :: a12 :: some (.ref x) :: lv) st u := by
  obtain ⟨p, e, s, m, args, below, meth, c, A, Q⟩ := X
  obtain ⟨hx, hb, hml, hown, hts, hr, hlk, hK, hA, hOL, hO, hQ, hW⟩ := hJ
  refine (hW _ _ _ _).mpr (fun H locs ls hP hD hS hl => ?_)
  exact lv_aload hx hb d (hl.2.2 13 _ rfl).1 ((hW _ _ _ _).mp k H locs ls hP hD hS hl)
theorem v_ist13 (hJ : Snd l R cc nL own rt D tys O wld post X J) {a0 a1 a2 a3 a4 a5 a6 a7 a8 a9 a10 a11 a12 a13 : Option Value} {x : Int32} (d : decode cc pc = .ok (.istore 13, 2)) (hn : 13 < nL) (k : J (pc + 2) (a0 :: a1 :: a2 :: a3 :: a4 :: a5 :: a6 :: a7 :: a8 :: a9 :: a10 :: a11 :: a12 :: some (.int x) :: lv) st u) : J pc (a0 :: a1 :: a2 :: a3 :: a4 :: a5 :: a6 :: a7 :: a8 :: a9 :: a10 :: a11 :: a12 :: a13 :: lv) (.int x :: st) u := by
  obtain ⟨p, e, s, m, args, below, meth, c, A, Q⟩ := X
  obtain ⟨hx, hb, hml, hown, hts, hr, hlk, hK, hA, hOL, hO, hQ, hW⟩ := hJ
  refine (hW _ _ _ _).mpr (fun H locs ls hP hD hS hl => ?_)
  exact lv_istore hx hb d hl.has hn rfl (fun ls2 h2 => (hW _ _ _ _).mp k H locs ls2 hP hD hS (hl.store rfl h2))
theorem v_ast13 (hJ : Snd l R cc nL own rt D tys O wld post X J) {a0 a1 a2 a3 a4 a5 a6 a7 a8 a9 a10 a11 a12 a13 : Option Value} {x : Nat} (d : decode cc pc = .ok (.astore 13, 2)) (hn : 13 < nL) (k : J (pc + 2) (a0 :: a1 :: a2 :: a3 :: a4 :: a5 :: a6 :: a7 :: a8 :: a9 :: a10 :: a11 :: a12 :: some (.ref x) :: lv) st u) : J pc (a0 :: a1 :: a2 :: a3 :: a4 :: a5 :: a6 :: a7 :: a8 :: a9 :: a10 :: a11 :: a12 :: a13 :: lv) (.ref x :: st) u := by
  obtain ⟨p, e, s, m, args, below, meth, c, A, Q⟩ := X
  obtain ⟨hx, hb, hml, hown, hts, hr, hlk, hK, hA, hOL, hO, hQ, hW⟩ := hJ
  refine (hW _ _ _ _).mpr (fun H locs ls hP hD hS hl => ?_)
  exact lv_astore hx hb d hl.has hn rfl (fun ls2 h2 => (hW _ _ _ _).mp k H locs ls2 hP hD hS (hl.store rfl h2))
theorem v_inc13 (hJ : Snd l R cc nL own rt D tys O wld post X J) {a0 a1 a2 a3 a4 a5 a6 a7 a8 a9 a10 a11 a12 : Option Value} {x n : Int} (d : decode cc pc = .ok (.iinc 13 n, 3)) (hn : 13 < nL) (k : J (pc + 3) (a0 :: a1 :: a2 :: a3 :: a4 :: a5 :: a6 :: a7 :: a8 :: a9 :: a10 :: a11 :: a12 :: some (.int (iZ (x + n))) :: lv) st u) : J pc (a0 :: a1 :: a2 :: a3 :: a4 :: a5 :: a6 :: a7 :: a8 :: a9 :: a10 :: a11 :: a12 :: some (.int (iZ x)) :: lv) st u := by
  obtain ⟨p, e, s, m, args, below, meth, c, A, Q⟩ := X
  obtain ⟨hx, hb, hml, hown, hts, hr, hlk, hK, hA, hOL, hO, hQ, hW⟩ := hJ
  refine (hW _ _ _ _).mpr (fun H locs ls hP hD hS hl => ?_)
  obtain ⟨kk, hkk⟩ := List.getElem?_of_mem (lvP_mem (i := 13) (v := .int (iZ x)).mpr (show (a0 :: a1 :: a2 :: a3 :: a4 :: a5 :: a6 :: a7 :: a8 :: a9 :: a10 :: a11 :: a12 :: some (.int (iZ x)) :: lv)[13]? = _ from rfl))
  exact lv_iinc (v := iZ (x + n)) hx hb d hl.has hkk (iZ_add x n) hn rfl (fun ls2 h2 => (hW _ _ _ _).mp k H locs ls2 hP hD hS (hl.store rfl h2))
theorem v_ild14 (hJ : Snd l R cc nL own rt D tys O wld post X J) {a0 a1 a2 a3 a4 a5 a6 a7 a8 a9 a10 a11 a12 a13 : Option Value} {x : Int32} (d : decode cc pc = .ok (.iload 14, 2)) (k : J (pc + 2) (a0 :: a1 :: a2 :: a3 :: a4 :: a5 :: a6 :: a7 :: a8 :: a9 :: a10 :: a11 :: a12 :: a13 :: some (.int x) :: lv) (.int x :: st) u) : J pc (a0 :: a1 :: a2 :: a3 :: a4 :: a5 :: a6 :: a7 :: a8 :: a9 :: a10 :: a11 :: a12 :: a13 :: some (.int x) :: lv) st u := by
  obtain ⟨p, e, s, m, args, below, meth, c, A, Q⟩ := X
  obtain ⟨hx, hb, hml, hown, hts, hr, hlk, hK, hA, hOL, hO, hQ, hW⟩ := hJ
  refine (hW _ _ _ _).mpr (fun H locs ls hP hD hS hl => ?_)
  exact lv_iload hx hb d (hl.2.2 14 _ rfl).1 ((hW _ _ _ _).mp k H locs ls hP hD hS hl)
theorem v_ald14 (hJ : Snd l R cc nL own rt D tys O wld post X J) {a0 a1 a2 a3 a4 a5 a6 a7 a8 a9 a10 a11 a12 a13 : Option Value} {x : Nat} (d : decode cc pc = .ok (.aload 14, 2)) (k : J (pc + 2) (a0 :: a1 :: a2 :: a3 :: a4 :: a5 :: a6 :: a7 :: a8 :: a9 :: a10 :: a11 :: a12 :: a13 :: some (.ref x) :: lv) (.ref x :: st) u) : J pc (a0 :: a1 :: a2 :: a3 :: a4 :: a5 :: a6 :: a7 :: a8 :: a9 :: a10 :: a11 :: a12 :: a13 :: some (.ref x) :: lv) st u := by
  obtain ⟨p, e, s, m, args, below, meth, c, A, Q⟩ := X
  obtain ⟨hx, hb, hml, hown, hts, hr, hlk, hK, hA, hOL, hO, hQ, hW⟩ := hJ
  refine (hW _ _ _ _).mpr (fun H locs ls hP hD hS hl => ?_)
  exact lv_aload hx hb d (hl.2.2 14 _ rfl).1 ((hW _ _ _ _).mp k H locs ls hP hD hS hl)
theorem v_ist14 (hJ : Snd l R cc nL own rt D tys O wld post X J) {a0 a1 a2 a3 a4 a5 a6 a7 a8 a9 a10 a11 a12 a13 a14 : Option Value} {x : Int32} (d : decode cc pc = .ok (.istore 14, 2)) (hn : 14 < nL) (k : J (pc + 2) (a0 :: a1 :: a2 :: a3 :: a4 :: a5 :: a6 :: a7 :: a8 :: a9 :: a10 :: a11 :: a12 :: a13 :: some (.int x) :: lv) st u) : J pc (a0 :: a1 :: a2 :: a3 :: a4 :: a5 :: a6 :: a7 :: a8 :: a9 :: a10 :: a11 :: a12 :: a13 :: a14 :: lv) (.int x :: st) u := by
  obtain ⟨p, e, s, m, args, below, meth, c, A, Q⟩ := X
  obtain ⟨hx, hb, hml, hown, hts, hr, hlk, hK, hA, hOL, hO, hQ, hW⟩ := hJ
  refine (hW _ _ _ _).mpr (fun H locs ls hP hD hS hl => ?_)
  exact lv_istore hx hb d hl.has hn rfl (fun ls2 h2 => (hW _ _ _ _).mp k H locs ls2 hP hD hS (hl.store rfl h2))
theorem v_ast14 (hJ : Snd l R cc nL own rt D tys O wld post X J) {a0 a1 a2 a3 a4 a5 a6 a7 a8 a9 a10 a11 a12 a13 a14 : Option Value} {x : Nat} (d : decode cc pc = .ok (.astore 14, 2)) (hn : 14 < nL) (k : J (pc + 2) (a0 :: a1 :: a2 :: a3 :: a4 :: a5 :: a6 :: a7 :: a8 :: a9 :: a10 :: a11 :: a12 :: a13 :: some (.ref x) :: lv) st u) : J pc (a0 :: a1 :: a2 :: a3 :: a4 :: a5 :: a6 :: a7 :: a8 :: a9 :: a10 :: a11 :: a12 :: a13 :: a14 :: lv) (.ref x :: st) u := by
  obtain ⟨p, e, s, m, args, below, meth, c, A, Q⟩ := X
  obtain ⟨hx, hb, hml, hown, hts, hr, hlk, hK, hA, hOL, hO, hQ, hW⟩ := hJ
  refine (hW _ _ _ _).mpr (fun H locs ls hP hD hS hl => ?_)
  exact lv_astore hx hb d hl.has hn rfl (fun ls2 h2 => (hW _ _ _ _).mp k H locs ls2 hP hD hS (hl.store rfl h2))
theorem v_inc14 (hJ : Snd l R cc nL own rt D tys O wld post X J) {a0 a1 a2 a3 a4 a5 a6 a7 a8 a9 a10 a11 a12 a13 : Option Value} {x n : Int} (d : decode cc pc = .ok (.iinc 14 n, 3)) (hn : 14 < nL) (k : J (pc + 3) (a0 :: a1 :: a2 :: a3 :: a4 :: a5 :: a6 :: a7 :: a8 :: a9 :: a10 :: a11 :: a12 :: a13 :: some (.int (iZ (x + n))) :: lv) st u) : J pc (a0 :: a1 :: a2 :: a3 :: a4 :: a5 :: a6 :: a7 :: a8 :: a9 :: a10 :: a11 :: a12 :: a13 :: some (.int (iZ x)) :: lv) st u := by
  obtain ⟨p, e, s, m, args, below, meth, c, A, Q⟩ := X
  obtain ⟨hx, hb, hml, hown, hts, hr, hlk, hK, hA, hOL, hO, hQ, hW⟩ := hJ
  refine (hW _ _ _ _).mpr (fun H locs ls hP hD hS hl => ?_)
  obtain ⟨kk, hkk⟩ := List.getElem?_of_mem (lvP_mem (i := 14) (v := .int (iZ x)).mpr (show (a0 :: a1 :: a2 :: a3 :: a4 :: a5 :: a6 :: a7 :: a8 :: a9 :: a10 :: a11 :: a12 :: a13 :: some (.int (iZ x)) :: lv)[14]? = _ from rfl))
  exact lv_iinc (v := iZ (x + n)) hx hb d hl.has hkk (iZ_add x n) hn rfl (fun ls2 h2 => (hW _ _ _ _).mp k H locs ls2 hP hD hS (hl.store rfl h2))
theorem v_ild15 (hJ : Snd l R cc nL own rt D tys O wld post X J) {a0 a1 a2 a3 a4 a5 a6 a7 a8 a9 a10 a11 a12 a13 a14 : Option Value} {x : Int32} (d : decode cc pc = .ok (.iload 15, 2)) (k : J (pc + 2) (a0 :: a1 :: a2 :: a3 :: a4 :: a5 :: a6 :: a7 :: a8 :: a9 :: a10 :: a11 :: a12 :: a13 :: a14 :: some (.int x) :: lv) (.int x :: st) u) : J pc (a0 :: a1 :: a2 :: a3 :: a4 :: a5 :: a6 :: a7 :: a8 :: a9 :: a10 :: a11 :: a12 :: a13 :: a14 :: some (.int x) :: lv) st u := by
  obtain ⟨p, e, s, m, args, below, meth, c, A, Q⟩ := X
  obtain ⟨hx, hb, hml, hown, hts, hr, hlk, hK, hA, hOL, hO, hQ, hW⟩ := hJ
  refine (hW _ _ _ _).mpr (fun H locs ls hP hD hS hl => ?_)
  exact lv_iload hx hb d (hl.2.2 15 _ rfl).1 ((hW _ _ _ _).mp k H locs ls hP hD hS hl)
theorem v_ald15 (hJ : Snd l R cc nL own rt D tys O wld post X J) {a0 a1 a2 a3 a4 a5 a6 a7 a8 a9 a10 a11 a12 a13 a14 : Option Value} {x : Nat} (d : decode cc pc = .ok (.aload 15, 2)) (k : J (pc + 2) (a0 :: a1 :: a2 :: a3 :: a4 :: a5 :: a6 :: a7 :: a8 :: a9 :: a10 :: a11 :: a12 :: a13 :: a14 :: some (.ref x) :: lv) (.ref x :: st) u) : J pc (a0 :: a1 :: a2 :: a3 :: a4 :: a5 :: a6 :: a7 :: a8 :: a9 :: a10 :: a11 :: a12 :: a13 :: a14 :: some (.ref x) :: lv) st u := by
  obtain ⟨p, e, s, m, args, below, meth, c, A, Q⟩ := X
  obtain ⟨hx, hb, hml, hown, hts, hr, hlk, hK, hA, hOL, hO, hQ, hW⟩ := hJ
  refine (hW _ _ _ _).mpr (fun H locs ls hP hD hS hl => ?_)
  exact lv_aload hx hb d (hl.2.2 15 _ rfl).1 ((hW _ _ _ _).mp k H locs ls hP hD hS hl)
theorem v_ist15 (hJ : Snd l R cc nL own rt D tys O wld post X J) {a0 a1 a2 a3 a4 a5 a6 a7 a8 a9 a10 a11 a12 a13 a14 a15 : Option Value} {x : Int32} (d : decode cc pc = .ok (.istore 15, 2)) (hn : 15 < nL) (k : J (pc + 2) (a0 :: a1 :: a2 :: a3 :: a4 :: a5 :: a6 :: a7 :: a8 :: a9 :: a10 :: a11 :: a12 :: a13 :: a14 :: some (.int x) :: lv) st u) : J pc (a0 :: a1 :: a2 :: a3 :: a4 :: a5 :: a6 :: a7 :: a8 :: a9 :: a10 :: a11 :: a12 :: a13 :: a14 :: a15 :: lv) (.int x :: st) u := by
  obtain ⟨p, e, s, m, args, below, meth, c, A, Q⟩ := X
  obtain ⟨hx, hb, hml, hown, hts, hr, hlk, hK, hA, hOL, hO, hQ, hW⟩ := hJ
  refine (hW _ _ _ _).mpr (fun H locs ls hP hD hS hl => ?_)
  exact lv_istore hx hb d hl.has hn rfl (fun ls2 h2 => (hW _ _ _ _).mp k H locs ls2 hP hD hS (hl.store rfl h2))
theorem v_ast15 (hJ : Snd l R cc nL own rt D tys O wld post X J) {a0 a1 a2 a3 a4 a5 a6 a7 a8 a9 a10 a11 a12 a13 a14 a15 : Option Value} {x : Nat} (d : decode cc pc = .ok (.astore 15, 2)) (hn : 15 < nL) (k : J (pc + 2) (a0 :: a1 :: a2 :: a3 :: a4 :: a5 :: a6 :: a7 :: a8 :: a9 :: a10 :: a11 :: a12 :: a13 :: a14 :: some (.ref x) :: lv) st u) : J pc (a0 :: a1 :: a2 :: a3 :: a4 :: a5 :: a6 :: a7 :: a8 :: a9 :: a10 :: a11 :: a12 :: a13 :: a14 :: a15 :: lv) (.ref x :: st) u := by
  obtain ⟨p, e, s, m, args, below, meth, c, A, Q⟩ := X
  obtain ⟨hx, hb, hml, hown, hts, hr, hlk, hK, hA, hOL, hO, hQ, hW⟩ := hJ
  refine (hW _ _ _ _).mpr (fun H locs ls hP hD hS hl => ?_)
  exact lv_astore hx hb d hl.has hn rfl (fun ls2 h2 => (hW _ _ _ _).mp k H locs ls2 hP hD hS (hl.store rfl h2))
theorem v_inc15 (hJ : Snd l R cc nL own rt D tys O wld post X J) {a0 a1 a2 a3 a4 a5 a6 a7 a8 a9 a10 a11 a12 a13 a14 : Option Value} {x n : Int} (d : decode cc pc = .ok (.iinc 15 n, 3)) (hn : 15 < nL) (k : J (pc + 3) (a0 :: a1 :: a2 :: a3 :: a4 :: a5 :: a6 :: a7 :: a8 :: a9 :: a10 :: a11 :: a12 :: a13 :: a14 :: some (.int (iZ (x + n))) :: lv) st u) : J pc (a0 :: a1 :: a2 :: a3 :: a4 :: a5 :: a6 :: a7 :: a8 :: a9 :: a10 :: a11 :: a12 :: a13 :: a14 :: some (.int (iZ x)) :: lv) st u := by
  obtain ⟨p, e, s, m, args, below, meth, c, A, Q⟩ := X
  obtain ⟨hx, hb, hml, hown, hts, hr, hlk, hK, hA, hOL, hO, hQ, hW⟩ := hJ
  refine (hW _ _ _ _).mpr (fun H locs ls hP hD hS hl => ?_)
  obtain ⟨kk, hkk⟩ := List.getElem?_of_mem (lvP_mem (i := 15) (v := .int (iZ x)).mpr (show (a0 :: a1 :: a2 :: a3 :: a4 :: a5 :: a6 :: a7 :: a8 :: a9 :: a10 :: a11 :: a12 :: a13 :: a14 :: some (.int (iZ x)) :: lv)[15]? = _ from rfl))
  exact lv_iinc (v := iZ (x + n)) hx hb d hl.has hkk (iZ_add x n) hn rfl (fun ls2 h2 => (hW _ _ _ _).mp k H locs ls2 hP hD hS (hl.store rfl h2))
theorem v_iadd (hJ : Snd l R cc nL own rt D tys O wld post X J) {x y : Int} (d : decode cc pc = .ok (.iadd, 1)) (k : J (pc + 1) lv (.int (iZ (x + y)) :: st) u) : J pc lv (.int (iZ y) :: .int (iZ x) :: st) u := by
  obtain ⟨p, e, s, m, args, below, meth, c, A, Q⟩ := X
  obtain ⟨hx, hb, hml, hown, hts, hr, hlk, hK, hA, hOL, hO, hQ, hW⟩ := hJ
  refine (hW _ _ _ _).mpr (fun H locs ls hP hD hS hl => ?_)
  exact lv_iadd hx hb d (by rw [iZ_add]; exact ((hW _ _ _ _).mp k H locs ls hP hD hS hl))
theorem v_isub (hJ : Snd l R cc nL own rt D tys O wld post X J) {x y : Int} (d : decode cc pc = .ok (.isub, 1)) (k : J (pc + 1) lv (.int (iZ (x - y)) :: st) u) : J pc lv (.int (iZ y) :: .int (iZ x) :: st) u := by
  obtain ⟨p, e, s, m, args, below, meth, c, A, Q⟩ := X
  obtain ⟨hx, hb, hml, hown, hts, hr, hlk, hK, hA, hOL, hO, hQ, hW⟩ := hJ
  refine (hW _ _ _ _).mpr (fun H locs ls hP hD hS hl => ?_)
  exact lv_isub hx hb d (by rw [iZ_sub]; exact ((hW _ _ _ _).mp k H locs ls hP hD hS hl))
theorem v_imul (hJ : Snd l R cc nL own rt D tys O wld post X J) {x y : Int} (d : decode cc pc = .ok (.imul, 1)) (k : J (pc + 1) lv (.int (iZ (x * y)) :: st) u) : J pc lv (.int (iZ y) :: .int (iZ x) :: st) u := by
  obtain ⟨p, e, s, m, args, below, meth, c, A, Q⟩ := X
  obtain ⟨hx, hb, hml, hown, hts, hr, hlk, hK, hA, hOL, hO, hQ, hW⟩ := hJ
  refine (hW _ _ _ _).mpr (fun H locs ls hP hD hS hl => ?_)
  exact lv_imul hx hb d (by rw [iZ_mul]; exact ((hW _ _ _ _).mp k H locs ls hP hD hS hl))
theorem v_ineg (hJ : Snd l R cc nL own rt D tys O wld post X J) {x : Int} (d : decode cc pc = .ok (.ineg, 1)) (k : J (pc + 1) lv (.int (iZ (-x)) :: st) u) : J pc lv (.int (iZ x) :: st) u := by
  obtain ⟨p, e, s, m, args, below, meth, c, A, Q⟩ := X
  obtain ⟨hx, hb, hml, hown, hts, hr, hlk, hK, hA, hOL, hO, hQ, hW⟩ := hJ
  refine (hW _ _ _ _).mpr (fun H locs ls hP hD hS hl => ?_)
  exact lv_ineg hx hb d (by rw [iZ_neg]; exact ((hW _ _ _ _).mp k H locs ls hP hD hS hl))
theorem v_idiv (hJ : Snd l R cc nL own rt D tys O wld post X J) {x y : Int} (d : decode cc pc = .ok (.idiv, 1)) (h1 : inR x) (h2 : inR y) (h3 : 0 < y) (k : J (pc + 1) lv (.int (iZ (x.tdiv y)) :: st) u) : J pc lv (.int (iZ y) :: .int (iZ x) :: st) u := by
  obtain ⟨p, e, s, m, args, below, meth, c, A, Q⟩ := X
  obtain ⟨hx, hb, hml, hown, hts, hr, hlk, hK, hA, hOL, hO, hQ, hW⟩ := hJ
  refine (hW _ _ _ _).mpr (fun H locs ls hP hD hS hl => ?_)
  exact lv_idiv hx hb d (fun q => by rw [← iZ_0, iZ_eq h2 inR_0] at q; omega) (by rw [iZ_div h1 h2 (by omega)]; exact ((hW _ _ _ _).mp k H locs ls hP hD hS hl))
theorem v_irem (hJ : Snd l R cc nL own rt D tys O wld post X J) {x y : Int} (d : decode cc pc = .ok (.irem, 1)) (h1 : inR x) (h2 : inR y) (h3 : 0 < y) (k : J (pc + 1) lv (.int (iZ (x.tmod y)) :: st) u) : J pc lv (.int (iZ y) :: .int (iZ x) :: st) u := by
  obtain ⟨p, e, s, m, args, below, meth, c, A, Q⟩ := X
  obtain ⟨hx, hb, hml, hown, hts, hr, hlk, hK, hA, hOL, hO, hQ, hW⟩ := hJ
  refine (hW _ _ _ _).mpr (fun H locs ls hP hD hS hl => ?_)
  exact lv_irem hx hb d (fun q => by rw [← iZ_0, iZ_eq h2 inR_0] at q; omega) (by rw [iZ_rem h1 h2 (by omega)]; exact ((hW _ _ _ _).mp k H locs ls hP hD hS hl))
theorem v_iand (hJ : Snd l R cc nL own rt D tys O wld post X J) {x y : Int} (d : decode cc pc = .ok (.iand, 1)) (k : J (pc + 1) lv (.int (iZ (zand x y)) :: st) u) : J pc lv (.int (iZ y) :: .int (iZ x) :: st) u := by
  obtain ⟨p, e, s, m, args, below, meth, c, A, Q⟩ := X
  obtain ⟨hx, hb, hml, hown, hts, hr, hlk, hK, hA, hOL, hO, hQ, hW⟩ := hJ
  refine (hW _ _ _ _).mpr (fun H locs ls hP hD hS hl => ?_)
  have k1 := ((hW _ _ _ _).mp k H locs ls hP hD hS hl)
  rw [show iZ (zand x y) = _ from iZ_of _] at k1
  exact lv_iand hx hb d k1
theorem v_ior (hJ : Snd l R cc nL own rt D tys O wld post X J) {x y : Int} (d : decode cc pc = .ok (.ior, 1)) (k : J (pc + 1) lv (.int (iZ (zor x y)) :: st) u) : J pc lv (.int (iZ y) :: .int (iZ x) :: st) u := by
  obtain ⟨p, e, s, m, args, below, meth, c, A, Q⟩ := X
  obtain ⟨hx, hb, hml, hown, hts, hr, hlk, hK, hA, hOL, hO, hQ, hW⟩ := hJ
  refine (hW _ _ _ _).mpr (fun H locs ls hP hD hS hl => ?_)
  have k1 := ((hW _ _ _ _).mp k H locs ls hP hD hS hl)
  rw [show iZ (zor x y) = _ from iZ_of _] at k1
  exact lv_ior hx hb d k1
theorem v_ixor (hJ : Snd l R cc nL own rt D tys O wld post X J) {x y : Int} (d : decode cc pc = .ok (.ixor, 1)) (k : J (pc + 1) lv (.int (iZ (zxor x y)) :: st) u) : J pc lv (.int (iZ y) :: .int (iZ x) :: st) u := by
  obtain ⟨p, e, s, m, args, below, meth, c, A, Q⟩ := X
  obtain ⟨hx, hb, hml, hown, hts, hr, hlk, hK, hA, hOL, hO, hQ, hW⟩ := hJ
  refine (hW _ _ _ _).mpr (fun H locs ls hP hD hS hl => ?_)
  have k1 := ((hW _ _ _ _).mp k H locs ls hP hD hS hl)
  rw [show iZ (zxor x y) = _ from iZ_of _] at k1
  exact lv_ixor hx hb d k1
theorem v_ishl (hJ : Snd l R cc nL own rt D tys O wld post X J) {x y : Int} (d : decode cc pc = .ok (.ishl, 1)) (k : J (pc + 1) lv (.int (iZ (zshl x y)) :: st) u) : J pc lv (.int (iZ y) :: .int (iZ x) :: st) u := by
  obtain ⟨p, e, s, m, args, below, meth, c, A, Q⟩ := X
  obtain ⟨hx, hb, hml, hown, hts, hr, hlk, hK, hA, hOL, hO, hQ, hW⟩ := hJ
  refine (hW _ _ _ _).mpr (fun H locs ls hP hD hS hl => ?_)
  have k1 := ((hW _ _ _ _).mp k H locs ls hP hD hS hl)
  rw [show iZ (zshl x y) = _ from iZ_of _] at k1
  exact lv_ishl hx hb d k1
theorem v_ishr (hJ : Snd l R cc nL own rt D tys O wld post X J) {x y : Int} (d : decode cc pc = .ok (.ishr, 1)) (k : J (pc + 1) lv (.int (iZ (zshr x y)) :: st) u) : J pc lv (.int (iZ y) :: .int (iZ x) :: st) u := by
  obtain ⟨p, e, s, m, args, below, meth, c, A, Q⟩ := X
  obtain ⟨hx, hb, hml, hown, hts, hr, hlk, hK, hA, hOL, hO, hQ, hW⟩ := hJ
  refine (hW _ _ _ _).mpr (fun H locs ls hP hD hS hl => ?_)
  have k1 := ((hW _ _ _ _).mp k H locs ls hP hD hS hl)
  rw [show iZ (zshr x y) = _ from iZ_of _] at k1
  exact lv_ishr hx hb d k1
theorem v_iushr (hJ : Snd l R cc nL own rt D tys O wld post X J) {x y : Int} (d : decode cc pc = .ok (.iushr, 1)) (k : J (pc + 1) lv (.int (iZ (zushr x y)) :: st) u) : J pc lv (.int (iZ y) :: .int (iZ x) :: st) u := by
  obtain ⟨p, e, s, m, args, below, meth, c, A, Q⟩ := X
  obtain ⟨hx, hb, hml, hown, hts, hr, hlk, hK, hA, hOL, hO, hQ, hW⟩ := hJ
  refine (hW _ _ _ _).mpr (fun H locs ls hP hD hS hl => ?_)
  exact lv_iushr hx hb d (iZ_of _).symm ((hW _ _ _ _).mp k H locs ls hP hD hS hl)
theorem v_i2c (hJ : Snd l R cc nL own rt D tys O wld post X J) {x : Int} (d : decode cc pc = .ok (.i2c, 1)) (k : J (pc + 1) lv (.int (iZ (zi2c x)) :: st) u) : J pc lv (.int (iZ x) :: st) u := by
  obtain ⟨p, e, s, m, args, below, meth, c, A, Q⟩ := X
  obtain ⟨hx, hb, hml, hown, hts, hr, hlk, hK, hA, hOL, hO, hQ, hW⟩ := hJ
  refine (hW _ _ _ _).mpr (fun H locs ls hP hD hS hl => ?_)
  exact lv_i2c hx hb d (iZ_of _).symm ((hW _ _ _ _).mp k H locs ls hP hD hS hl)
theorem v_i2b (hJ : Snd l R cc nL own rt D tys O wld post X J) {x : Int} (d : decode cc pc = .ok (.i2b, 1)) (k : J (pc + 1) lv (.int (iZ (zi2b x)) :: st) u) : J pc lv (.int (iZ x) :: st) u := by
  obtain ⟨p, e, s, m, args, below, meth, c, A, Q⟩ := X
  obtain ⟨hx, hb, hml, hown, hts, hr, hlk, hK, hA, hOL, hO, hQ, hW⟩ := hJ
  refine (hW _ _ _ _).mpr (fun H locs ls hP hD hS hl => ?_)
  exact lv_i2b hx hb d (iZ_of _).symm ((hW _ _ _ _).mp k H locs ls hP hD hS hl)
theorem v_dup (hJ : Snd l R cc nL own rt D tys O wld post X J) {v : Value} (d : decode cc pc = .ok (.dup, 1)) (hv : v.category = 1) (k : J (pc + 1) lv (v :: v :: st) u) : J pc lv (v :: st) u := by
  obtain ⟨p, e, s, m, args, below, meth, c, A, Q⟩ := X
  obtain ⟨hx, hb, hml, hown, hts, hr, hlk, hK, hA, hOL, hO, hQ, hW⟩ := hJ
  refine (hW _ _ _ _).mpr (fun H locs ls hP hD hS hl => ?_)
  exact lv_dup hx hb d hv ((hW _ _ _ _).mp k H locs ls hP hD hS hl)
theorem v_pop (hJ : Snd l R cc nL own rt D tys O wld post X J) {v : Value} (d : decode cc pc = .ok (.pop, 1)) (hv : v.category = 1) (k : J (pc + 1) lv st u) : J pc lv (v :: st) u := by
  obtain ⟨p, e, s, m, args, below, meth, c, A, Q⟩ := X
  obtain ⟨hx, hb, hml, hown, hts, hr, hlk, hK, hA, hOL, hO, hQ, hW⟩ := hJ
  refine (hW _ _ _ _).mpr (fun H locs ls hP hD hS hl => ?_)
  exact lv_pop hx hb d hv ((hW _ _ _ _).mp k H locs ls hP hD hS hl)
theorem v_dup2 (hJ : Snd l R cc nL own rt D tys O wld post X J) {v w : Value} (d : decode cc pc = .ok (.dup2, 1)) (hv : v.category = 1) (hw : w.category = 1) (k : J (pc + 1) lv (v :: w :: v :: w :: st) u) : J pc lv (v :: w :: st) u := by
  obtain ⟨p, e, s, m, args, below, meth, c, A, Q⟩ := X
  obtain ⟨hx, hb, hml, hown, hts, hr, hlk, hK, hA, hOL, hO, hQ, hW⟩ := hJ
  refine (hW _ _ _ _).mpr (fun H locs ls hP hD hS hl => ?_)
  exact lv_dup2_11 hx hb d hv hw ((hW _ _ _ _).mp k H locs ls hP hD hS hl)
theorem v_goto (hJ : Snd l R cc nL own rt D tys O wld post X J) {off : Int} {tgt : Nat} (d : decode cc pc = .ok (.goto off, 3)) (ht : (pc : Int) + off = (tgt : Int)) (k : J tgt lv st u) : J pc lv st u := by
  obtain ⟨p, e, s, m, args, below, meth, c, A, Q⟩ := X
  obtain ⟨hx, hb, hml, hown, hts, hr, hlk, hK, hA, hOL, hO, hQ, hW⟩ := hJ
  refine (hW _ _ _ _).mpr (fun H locs ls hP hD hS hl => ?_)
  exact lv_goto hx hb d ht ((hW _ _ _ _).mp k H locs ls hP hD hS hl)
theorem v_icmp_eq (hJ : Snd l R cc nL own rt D tys O wld post X J) {x y : Int} {off : Int} {tgt : Nat} (d : decode cc pc = .ok (.if_icmp .eq off, 3)) (ht : (pc : Int) + off = (tgt : Int)) (hx1 : inR x) (hy1 : inR y) (kt : x = y → J tgt lv st u) (kf : ¬ (x = y) → J (pc + 3) lv st u) : J pc lv (.int (iZ y) :: .int (iZ x) :: st) u := by
  obtain ⟨p, e, s, m, args, below, meth, c, A, Q⟩ := X
  obtain ⟨hx, hb, hml, hown, hts, hr, hlk, hK, hA, hOL, hO, hQ, hW⟩ := hJ
  refine (hW _ _ _ _).mpr (fun H locs ls hP hD hS hl => ?_)
  exact lv_icmp_eq hx hb d ht (fun q => (hW _ _ _ _).mp (kt ((iZ_eq hx1 hy1).mp q)) H locs ls hP hD hS hl) (fun q => (hW _ _ _ _).mp (kf (fun z => q ((iZ_eq hx1 hy1).mpr z))) H locs ls hP hD hS hl)
theorem v_if_eq (hJ : Snd l R cc nL own rt D tys O wld post X J) {x : Int} {off : Int} {tgt : Nat} (d : decode cc pc = .ok (.ifCond .eq off, 3)) (ht : (pc : Int) + off = (tgt : Int)) (hx1 : inR x) (kt : x = 0 → J tgt lv st u) (kf : ¬ (x = 0) → J (pc + 3) lv st u) : J pc lv (.int (iZ x) :: st) u := by
  obtain ⟨p, e, s, m, args, below, meth, c, A, Q⟩ := X
  obtain ⟨hx, hb, hml, hown, hts, hr, hlk, hK, hA, hOL, hO, hQ, hW⟩ := hJ
  refine (hW _ _ _ _).mpr (fun H locs ls hP hD hS hl => ?_)
  exact lv_if_eq hx hb d ht (fun q => (hW _ _ _ _).mp (kt ((iZ_eq hx1 inR_0).mp q)) H locs ls hP hD hS hl) (fun q => (hW _ _ _ _).mp (kf (fun z => q ((iZ_eq hx1 inR_0).mpr z))) H locs ls hP hD hS hl)
theorem v_icmp_ne (hJ : Snd l R cc nL own rt D tys O wld post X J) {x y : Int} {off : Int} {tgt : Nat} (d : decode cc pc = .ok (.if_icmp .ne off, 3)) (ht : (pc : Int) + off = (tgt : Int)) (hx1 : inR x) (hy1 : inR y) (kt : x ≠ y → J tgt lv st u) (kf : x = y → J (pc + 3) lv st u) : J pc lv (.int (iZ y) :: .int (iZ x) :: st) u := by
  obtain ⟨p, e, s, m, args, below, meth, c, A, Q⟩ := X
  obtain ⟨hx, hb, hml, hown, hts, hr, hlk, hK, hA, hOL, hO, hQ, hW⟩ := hJ
  refine (hW _ _ _ _).mpr (fun H locs ls hP hD hS hl => ?_)
  exact lv_icmp_ne hx hb d ht (fun q => (hW _ _ _ _).mp (kt (fun z => q ((iZ_eq hx1 hy1).mpr z))) H locs ls hP hD hS hl) (fun q => (hW _ _ _ _).mp (kf ((iZ_eq hx1 hy1).mp q)) H locs ls hP hD hS hl)
theorem v_if_ne (hJ : Snd l R cc nL own rt D tys O wld post X J) {x : Int} {off : Int} {tgt : Nat} (d : decode cc pc = .ok (.ifCond .ne off, 3)) (ht : (pc : Int) + off = (tgt : Int)) (hx1 : inR x) (kt : x ≠ 0 → J tgt lv st u) (kf : x = 0 → J (pc + 3) lv st u) : J pc lv (.int (iZ x) :: st) u := by
  obtain ⟨p, e, s, m, args, below, meth, c, A, Q⟩ := X
  obtain ⟨hx, hb, hml, hown, hts, hr, hlk, hK, hA, hOL, hO, hQ, hW⟩ := hJ
  refine (hW _ _ _ _).mpr (fun H locs ls hP hD hS hl => ?_)
  exact lv_if_ne hx hb d ht (fun q => (hW _ _ _ _).mp (kt (fun z => q ((iZ_eq hx1 inR_0).mpr z))) H locs ls hP hD hS hl) (fun q => (hW _ _ _ _).mp (kf ((iZ_eq hx1 inR_0).mp q)) H locs ls hP hD hS hl)
theorem v_icmp_lt (hJ : Snd l R cc nL own rt D tys O wld post X J) {x y : Int} {off : Int} {tgt : Nat} (d : decode cc pc = .ok (.if_icmp .lt off, 3)) (ht : (pc : Int) + off = (tgt : Int)) (hx1 : inR x) (hy1 : inR y) (kt : x < y → J tgt lv st u) (kf : ¬ (x < y) → J (pc + 3) lv st u) : J pc lv (.int (iZ y) :: .int (iZ x) :: st) u := by
  obtain ⟨p, e, s, m, args, below, meth, c, A, Q⟩ := X
  obtain ⟨hx, hb, hml, hown, hts, hr, hlk, hK, hA, hOL, hO, hQ, hW⟩ := hJ
  refine (hW _ _ _ _).mpr (fun H locs ls hP hD hS hl => ?_)
  exact lv_icmp_lt hx hb d ht (fun q => (hW _ _ _ _).mp (kt ((iZ_lt hx1 hy1).mp q)) H locs ls hP hD hS hl) (fun q => (hW _ _ _ _).mp (kf (fun z => q ((iZ_lt hx1 hy1).mpr z))) H locs ls hP hD hS hl)
theorem v_if_lt (hJ : Snd l R cc nL own rt D tys O wld post X J) {x : Int} {off : Int} {tgt : Nat} (d : decode cc pc = .ok (.ifCond .lt off, 3)) (ht : (pc : Int) + off = (tgt : Int)) (hx1 : inR x) (kt : x < 0 → J tgt lv st u) (kf : ¬ (x < 0) → J (pc + 3) lv st u) : J pc lv (.int (iZ x) :: st) u := by
  obtain ⟨p, e, s, m, args, below, meth, c, A, Q⟩ := X
  obtain ⟨hx, hb, hml, hown, hts, hr, hlk, hK, hA, hOL, hO, hQ, hW⟩ := hJ
  refine (hW _ _ _ _).mpr (fun H locs ls hP hD hS hl => ?_)
  exact lv_if_lt hx hb d ht (fun q => (hW _ _ _ _).mp (kt ((iZ_lt hx1 inR_0).mp q)) H locs ls hP hD hS hl) (fun q => (hW _ _ _ _).mp (kf (fun z => q ((iZ_lt hx1 inR_0).mpr z))) H locs ls hP hD hS hl)
theorem v_icmp_ge (hJ : Snd l R cc nL own rt D tys O wld post X J) {x y : Int} {off : Int} {tgt : Nat} (d : decode cc pc = .ok (.if_icmp .ge off, 3)) (ht : (pc : Int) + off = (tgt : Int)) (hx1 : inR x) (hy1 : inR y) (kt : y ≤ x → J tgt lv st u) (kf : ¬ (y ≤ x) → J (pc + 3) lv st u) : J pc lv (.int (iZ y) :: .int (iZ x) :: st) u := by
  obtain ⟨p, e, s, m, args, below, meth, c, A, Q⟩ := X
  obtain ⟨hx, hb, hml, hown, hts, hr, hlk, hK, hA, hOL, hO, hQ, hW⟩ := hJ
  refine (hW _ _ _ _).mpr (fun H locs ls hP hD hS hl => ?_)
  exact lv_icmp_ge hx hb d ht (fun q => (hW _ _ _ _).mp (kt ((iZ_le hy1 hx1).mp q)) H locs ls hP hD hS hl) (fun q => (hW _ _ _ _).mp (kf (fun z => q ((iZ_le hy1 hx1).mpr z))) H locs ls hP hD hS hl)
theorem v_if_ge (hJ : Snd l R cc nL own rt D tys O wld post X J) {x : Int} {off : Int} {tgt : Nat} (d : decode cc pc = .ok (.ifCond .ge off, 3)) (ht : (pc : Int) + off = (tgt : Int)) (hx1 : inR x) (kt : 0 ≤ x → J tgt lv st u) (kf : ¬ (0 ≤ x) → J (pc + 3) lv st u) : J pc lv (.int (iZ x) :: st) u := by
  obtain ⟨p, e, s, m, args, below, meth, c, A, Q⟩ := X
  obtain ⟨hx, hb, hml, hown, hts, hr, hlk, hK, hA, hOL, hO, hQ, hW⟩ := hJ
  refine (hW _ _ _ _).mpr (fun H locs ls hP hD hS hl => ?_)
  exact lv_if_ge hx hb d ht (fun q => (hW _ _ _ _).mp (kt ((iZ_le inR_0 hx1).mp q)) H locs ls hP hD hS hl) (fun q => (hW _ _ _ _).mp (kf (fun z => q ((iZ_le inR_0 hx1).mpr z))) H locs ls hP hD hS hl)
theorem v_icmp_gt (hJ : Snd l R cc nL own rt D tys O wld post X J) {x y : Int} {off : Int} {tgt : Nat} (d : decode cc pc = .ok (.if_icmp .gt off, 3)) (ht : (pc : Int) + off = (tgt : Int)) (hx1 : inR x) (hy1 : inR y) (kt : y < x → J tgt lv st u) (kf : ¬ (y < x) → J (pc + 3) lv st u) : J pc lv (.int (iZ y) :: .int (iZ x) :: st) u := by
  obtain ⟨p, e, s, m, args, below, meth, c, A, Q⟩ := X
  obtain ⟨hx, hb, hml, hown, hts, hr, hlk, hK, hA, hOL, hO, hQ, hW⟩ := hJ
  refine (hW _ _ _ _).mpr (fun H locs ls hP hD hS hl => ?_)
  exact lv_icmp_gt hx hb d ht (fun q => (hW _ _ _ _).mp (kt ((iZ_lt hy1 hx1).mp q)) H locs ls hP hD hS hl) (fun q => (hW _ _ _ _).mp (kf (fun z => q ((iZ_lt hy1 hx1).mpr z))) H locs ls hP hD hS hl)
theorem v_if_gt (hJ : Snd l R cc nL own rt D tys O wld post X J) {x : Int} {off : Int} {tgt : Nat} (d : decode cc pc = .ok (.ifCond .gt off, 3)) (ht : (pc : Int) + off = (tgt : Int)) (hx1 : inR x) (kt : 0 < x → J tgt lv st u) (kf : ¬ (0 < x) → J (pc + 3) lv st u) : J pc lv (.int (iZ x) :: st) u := by
  obtain ⟨p, e, s, m, args, below, meth, c, A, Q⟩ := X
  obtain ⟨hx, hb, hml, hown, hts, hr, hlk, hK, hA, hOL, hO, hQ, hW⟩ := hJ
  refine (hW _ _ _ _).mpr (fun H locs ls hP hD hS hl => ?_)
  exact lv_if_gt hx hb d ht (fun q => (hW _ _ _ _).mp (kt ((iZ_lt inR_0 hx1).mp q)) H locs ls hP hD hS hl) (fun q => (hW _ _ _ _).mp (kf (fun z => q ((iZ_lt inR_0 hx1).mpr z))) H locs ls hP hD hS hl)
theorem v_icmp_le (hJ : Snd l R cc nL own rt D tys O wld post X J) {x y : Int} {off : Int} {tgt : Nat} (d : decode cc pc = .ok (.if_icmp .le off, 3)) (ht : (pc : Int) + off = (tgt : Int)) (hx1 : inR x) (hy1 : inR y) (kt : x ≤ y → J tgt lv st u) (kf : ¬ (x ≤ y) → J (pc + 3) lv st u) : J pc lv (.int (iZ y) :: .int (iZ x) :: st) u := by
  obtain ⟨p, e, s, m, args, below, meth, c, A, Q⟩ := X
  obtain ⟨hx, hb, hml, hown, hts, hr, hlk, hK, hA, hOL, hO, hQ, hW⟩ := hJ
  refine (hW _ _ _ _).mpr (fun H locs ls hP hD hS hl => ?_)
  exact lv_icmp_le hx hb d ht (fun q => (hW _ _ _ _).mp (kt ((iZ_le hx1 hy1).mp q)) H locs ls hP hD hS hl) (fun q => (hW _ _ _ _).mp (kf (fun z => q ((iZ_le hx1 hy1).mpr z))) H locs ls hP hD hS hl)
theorem v_if_le (hJ : Snd l R cc nL own rt D tys O wld post X J) {x : Int} {off : Int} {tgt : Nat} (d : decode cc pc = .ok (.ifCond .le off, 3)) (ht : (pc : Int) + off = (tgt : Int)) (hx1 : inR x) (kt : x ≤ 0 → J tgt lv st u) (kf : ¬ (x ≤ 0) → J (pc + 3) lv st u) : J pc lv (.int (iZ x) :: st) u := by
  obtain ⟨p, e, s, m, args, below, meth, c, A, Q⟩ := X
  obtain ⟨hx, hb, hml, hown, hts, hr, hlk, hK, hA, hOL, hO, hQ, hW⟩ := hJ
  refine (hW _ _ _ _).mpr (fun H locs ls hP hD hS hl => ?_)
  exact lv_if_le hx hb d ht (fun q => (hW _ _ _ _).mp (kt ((iZ_le hx1 inR_0).mp q)) H locs ls hP hD hS hl) (fun q => (hW _ _ _ _).mp (kf (fun z => q ((iZ_le hx1 inR_0).mpr z))) H locs ls hP hD hS hl)
theorem v_lookup (hJ : Snd l R cc nL own rt D tys O wld post X J) {dflt : Int} {ps : Array (Int × Int)} {len : Nat} {x : Int} {off : Int} {tgt : Nat} (d : decode cc pc = .ok (.lookupswitch dflt ps, len)) (hx1 : inR x) (hp : (ps.toList.zip (ps.toList.drop 1)).all (fun (a, next) => a.1 < next.1) = true) (ho : Op.lookupswitch.offset ps.toList dflt x = off) (ht : (pc : Int) + off = (tgt : Int)) (k : J tgt lv st u) : J pc lv (.int (iZ x) :: st) u := by
  obtain ⟨p, e, s, m, args, below, meth, c, A, Q⟩ := X
  obtain ⟨hx, hb, hml, hown, hts, hr, hlk, hK, hA, hOL, hO, hQ, hW⟩ := hJ
  refine (hW _ _ _ _).mpr (fun H locs ls hP hD hS hl => ?_)
  exact lv_lookup hx hb d hp (by rw [iZ_toInt hx1]; exact ho) ht ((hW _ _ _ _).mp k H locs ls hP hD hS hl)
theorem v_tableOut (hJ : Snd l R cc nL own rt D tys O wld post X J) {dflt lo hi : Int} {offs : Array Int} {len : Nat} {x : Int} {tgt : Nat} (d : decode cc pc = .ok (.tableswitch dflt lo hi offs, len)) (hx1 : inR x) (h : x < lo ∨ hi < x) (ht : (pc : Int) + dflt = (tgt : Int)) (k : J tgt lv st u) : J pc lv (.int (iZ x) :: st) u := by
  obtain ⟨p, e, s, m, args, below, meth, c, A, Q⟩ := X
  obtain ⟨hx, hb, hml, hown, hts, hr, hlk, hK, hA, hOL, hO, hQ, hW⟩ := hJ
  refine (hW _ _ _ _).mpr (fun H locs ls hP hD hS hl => ?_)
  exact lv_tableOut hx hb d (by rw [iZ_toInt hx1]; exact h) ht ((hW _ _ _ _).mp k H locs ls hP hD hS hl)
theorem v_tableIn (hJ : Snd l R cc nL own rt D tys O wld post X J) {dflt lo hi : Int} {offs : Array Int} {len : Nat} {x : Int} {off : Int} {tgt : Nat} (d : decode cc pc = .ok (.tableswitch dflt lo hi offs, len)) (hx1 : inR x) (h1 : ¬ x < lo) (h2 : ¬ hi < x) (ho : offs[(x - lo).toNat]? = some off) (ht : (pc : Int) + off = (tgt : Int)) (k : J tgt lv st u) : J pc lv (.int (iZ x) :: st) u := by
  obtain ⟨p, e, s, m, args, below, meth, c, A, Q⟩ := X
  obtain ⟨hx, hb, hml, hown, hts, hr, hlk, hK, hA, hOL, hO, hQ, hW⟩ := hJ
  refine (hW _ _ _ _).mpr (fun H locs ls hP hD hS hl => ?_)
  exact lv_tableIn hx hb d (by rw [iZ_toInt hx1]; exact h1) (by rw [iZ_toInt hx1]; exact h2) (by rw [iZ_toInt hx1]; exact ho) ht ((hW _ _ _ _).mp k H locs ls hP hD hS hl)
theorem v_getf (hJ : Snd l R cc nL own rt D tys O wld post X J) {q0 ci fk N idx : Nat} {C : String} {T : u_T} {fs : List Value} {a : Nat} {v : Value} (he : (wld u)[q0]? = some (a, .inr (ci, fs))) (hc : vwCl[ci]? = some (C, T, N)) (hin : ∀ w ∈ u_ws C T N, w ∈ gw) (hk : fk < N) (hlink : Cond.fieldLink own idx (T fk).1 (T fk).2.1 (T fk).2.2.1 ∈ gw) (hv : fs[fk]? = some v) (d : decode cc pc = .ok (.getfield idx, 3)) (k : J (pc + 3) lv (v :: st) u) : J pc lv (.ref a :: st) u := by
  obtain ⟨p, e, s, m, args, below, meth, c, A, Q⟩ := X
  obtain ⟨hx, hb, hml, hown, hts, hr, hlk, hK, hA, hOL, hO, hQ, hW⟩ := hJ
  refine (hW _ _ _ _).mpr (fun H locs ls hP hD hS hl => ?_)
  exact va_get (D := D) (Ts := gw) hx hb hts hin hown hK hP q0 he hc fk hk (hts _ hlink) (fun _ h => h) hv d ((hW _ _ _ _).mp k H locs ls hP hD hS hl)
theorem v_putf (hJ : Snd l R cc nL own rt D tys O wld post X J) {q0 ci fk N idx : Nat} {C : String} {T : u_T} {fs : List Value} {a : Nat} {v : Value} {u2 : σ} {ty0 : Nat → FieldType} (he : (wld u)[q0]? = some (a, .inr (ci, fs))) (hc : vwCl[ci]? = some (C, T, N)) (hin : ∀ w ∈ u_ws C T N, w ∈ gw) (hty : ∀ k, k < N → parseFieldDescriptor (T k).2.2.1 = some (ty0 k)) (hnm : ∀ a, a < N → ∀ b, b < N → a ≠ b → (T a).2.1 ≠ (T b).2.1) (hk : fk < N) (hlink : Cond.fieldLink own idx (T fk).1 (T fk).2.1 (T fk).2.2.1 ∈ gw) (hfin : (T fk).2.2.2 = false) (hn : narrow (ty0 fk) v = v) (hfit : fits (ty0 fk) v = true) (hl2 : fk < fs.length) (hset : (wld u).set q0 (a, .inr (ci, fs.set fk v)) = wld u2) (d : decode cc pc = .ok (.putfield idx, 3)) (k : J (pc + 3) lv st u2) : J pc lv (v :: .ref a :: st) u := by
  obtain ⟨p, e, s, m, args, below, meth, c, A, Q⟩ := X
  obtain ⟨hx, hb, hml, hown, hts, hr, hlk, hK, hA, hOL, hO, hQ, hW⟩ := hJ
  refine (hW _ _ _ _).mpr (fun H locs ls hP hD hS hl => ?_)
  refine va_put (D := D) (Ts := gw) hx hb hts hin ty0 hty hnm hown hK hP hD hS q0 he hc fk hk (hts _ hlink) (fun _ h => h) hfin (hty fk hk) hn hfit hl2 d (fun H1 locs1 hP1 hD1 hS1 => ?_)
  rw [hset] at hP1 hD1
  exact (hW _ _ _ _).mp k H1 locs1 ls hP1 hD1 hS1 hl
theorem v_iald (hJ : Snd l R cc nL own rt D tys O wld post X J) {q0 t0 n : Nat} {cA : ClassId} {f : Int → Int} {a : Nat} {i : Int} (he : (wld u)[q0]? = some (a, .inl (cA, n, .inl (zrow f)))) (ht : tys[t0]? = some (cA, .int)) (hn : n ≤ 2147483648) (h0 : 0 ≤ i) (h1 : i < n) (d : decode cc pc = .ok (.iaload, 1)) (k : J (pc + 1) lv (.int (iZ (f i)) :: st) u) : J pc lv (.int (iZ i) :: .ref a :: st) u := by
  obtain ⟨p, e, s, m, args, below, meth, c, A, Q⟩ := X
  obtain ⟨hx, hb, hml, hown, hts, hr, hlk, hK, hA, hOL, hO, hQ, hW⟩ := hJ
  refine (hW _ _ _ _).mpr (fun H locs ls hP hD hS hl => ?_)
  refine va_iald (D := D) hx hb hK hP q0 t0 he ht (iZ_in h0 h1 hn) d ?_
  rw [iZ_clamp (show inR i from ⟨by omega, by omega⟩), zrow_get f h0]
  exact ((hW _ _ _ _).mp k H locs ls hP hD hS hl)
theorem v_iast (hJ : Snd l R cc nL own rt D tys O wld post X J) {q0 t0 n : Nat} {cA : ClassId} {f : Int → Int} {a : Nat} {i x : Int} {u2 : σ} (he : (wld u)[q0]? = some (a, .inl (cA, n, .inl (zrow f)))) (ht : tys[t0]? = some (cA, .int)) (hn : n ≤ 2147483648) (h0 : 0 ≤ i) (h1 : i < n) (hset : (wld u).set q0 (a, .inl (cA, n, .inl (zrow (zu f i x)))) = wld u2) (d : decode cc pc = .ok (.iastore, 1)) (k : J (pc + 1) lv st u2) : J pc lv (.int (iZ x) :: .int (iZ i) :: .ref a :: st) u := by
  obtain ⟨p, e, s, m, args, below, meth, c, A, Q⟩ := X
  obtain ⟨hx, hb, hml, hown, hts, hr, hlk, hK, hA, hOL, hO, hQ, hW⟩ := hJ
  refine (hW _ _ _ _).mpr (fun H locs ls hP hD hS hl => ?_)
  refine va_iast (D := D) hx hb hK hP hD hS q0 t0 he ht (iZ_in h0 h1 hn) d (fun H1 locs1 hP1 hD1 hS1 => ?_)
  rw [iZ_clamp (show inR i from ⟨by omega, by omega⟩), zrow_upd f x h0, hset] at hP1 hD1
  exact (hW _ _ _ _).mp k H1 locs1 ls hP1 hD1 hS1 hl
theorem v_alen (hJ : Snd l R cc nL own rt D tys O wld post X J) {q0 t0 n : Nat} {cA : ClassId} {f : Nat → Int32} {a : Nat} (he : (wld u)[q0]? = some (a, .inl (cA, n, .inl f))) (ht : tys[t0]? = some (cA, .int)) (d : decode cc pc = .ok (.arraylength, 1)) (k : J (pc + 1) lv (.int (iZ (n : Int)) :: st) u) : J pc lv (.ref a :: st) u := by
  obtain ⟨p, e, s, m, args, below, meth, c, A, Q⟩ := X
  obtain ⟨hx, hb, hml, hown, hts, hr, hlk, hK, hA, hOL, hO, hQ, hW⟩ := hJ
  refine (hW _ _ _ _).mpr (fun H locs ls hP hD hS hl => ?_)
  exact va_alen (D := D) hx hb hK hP q0 t0 he ht (show Int32.ofNat n = iZ (n : Int) from Int32.ofInt_eq_ofNat.symm) d ((hW _ _ _ _).mp k H locs ls hP hD hS hl)
theorem v_iret  (hJ : Snd l R cc nL own (some .int) D tys O wld post X J) {x : Int32} (d : decode cc pc = .ok (.ireturn, 1)) (hq : post (some (.int x)) u) : J pc lv [.int x] u := by
  obtain ⟨p, e, s, m, args, below, meth, c, A, Q⟩ := X
  obtain ⟨hx, hb, hml, hown, hts, hr, hlk, hK, hA, hOL, hO, hQ, hW⟩ := hJ
  refine (hW _ _ _ _).mpr (fun H locs ls hP hD hS hl => ?_)
  have k1 : W p l e R s m args below meth c H locs 0 0 (MQ below (cQ D tys wld A post) args s 0 0 A) (F0 m pc ls [.int x]) := W.iret hx hb hr (fun t ht hWm => ⟨⟨_, u, rfl, hq, by rw [ht]; exact hP, va_K.moved hWm.alike hK, hD⟩, hS.F ht⟩) hS.2.2 d hlk
  intro T hT X
  obtain ⟨t, a1, b1⟩ := k1 T hT X
  exact ⟨t, a1, hQ t b1⟩
theorem v_zret {ty : FieldType} (hJ : Snd l R cc nL own (some ty) D tys O wld post X J) {x : Int32} (hn : narrow ty (.int x) = .int x) (d : decode cc pc = .ok (.ireturn, 1)) (hq : post (some (.int x)) u) : J pc lv [.int x] u := by
  obtain ⟨p, e, s, m, args, below, meth, c, A, Q⟩ := X
  obtain ⟨hx, hb, hml, hown, hts, hr, hlk, hK, hA, hOL, hO, hQ, hW⟩ := hJ
  refine (hW _ _ _ _).mpr (fun H locs ls hP hD hS hl => ?_)
  have k1 : W p l e R s m args below meth c H locs 0 0 (MQ below (cQ D tys wld A post) args s 0 0 A) (F0 m pc ls [.int x]) := W.zret hx hb hr hn (fun t ht hWm => ⟨⟨_, u, rfl, hq, by rw [ht]; exact hP, va_K.moved hWm.alike hK, hD⟩, hS.F ht⟩) hS.2.2 d hlk
  intro T hT X
  obtain ⟨t, a1, b1⟩ := k1 T hT X
  exact ⟨t, a1, hQ t b1⟩
theorem v_vret  (hJ : Snd l R cc nL own (none) D tys O wld post X J)  (d : decode cc pc = .ok (.return_, 1)) (hq : post none u) : J pc lv [] u := by
  obtain ⟨p, e, s, m, args, below, meth, c, A, Q⟩ := X
  obtain ⟨hx, hb, hml, hown, hts, hr, hlk, hK, hA, hOL, hO, hQ, hW⟩ := hJ
  refine (hW _ _ _ _).mpr (fun H locs ls hP hD hS hl => ?_)
  have k1 : W p l e R s m args below meth c H locs 0 0 (MQ below (cQ D tys wld A post) args s 0 0 A) (F0 m pc ls []) := W.vret hx hb hr (fun t ht hWm => ⟨⟨_, u, rfl, hq, by rw [ht]; exact hP, va_K.moved hWm.alike hK, hD⟩, hS.F ht⟩) hS.2.2 d hlk
  intro T hT X
  obtain ⟨t, a1, b1⟩ := k1 T hT X
  exact ⟨t, a1, hQ t b1⟩
theorem v_aret {on : String} (hJ : Snd l R cc nL own (some (.object on)) D tys O wld post X J) {x : Nat} (d : decode cc pc = .ok (.areturn, 1)) (hq : post (some (.ref x)) u) : J pc lv [.ref x] u := by
  obtain ⟨p, e, s, m, args, below, meth, c, A, Q⟩ := X
  obtain ⟨hx, hb, hml, hown, hts, hr, hlk, hK, hA, hOL, hO, hQ, hW⟩ := hJ
  refine (hW _ _ _ _).mpr (fun H locs ls hP hD hS hl => ?_)
  have k1 : W p l e R s m args below meth c H locs 0 0 (MQ below (cQ D tys wld A post) args s 0 0 A) (F0 m pc ls [.ref x]) := W.aret hx hb hr (Or.inl ⟨_, rfl⟩) (Or.inr ⟨_, rfl⟩) (fun t ht hWm => ⟨⟨_, u, rfl, hq, by rw [ht]; exact hP, va_K.moved hWm.alike hK, hD⟩, hS.F ht⟩) hS.2.2 d hlk
  intro T hT X
  obtain ⟨t, a1, b1⟩ := k1 T hT X
  exact ⟨t, a1, hQ t b1⟩
theorem va_goon {p : Program} {e : Env} {s : State} {m : MethodId} {args : Array Value} {below : List Frame} {meth : Method} {c : Code} {H : Heap} {locs : List Loc} {Q : State → Prop} {ls : Array Slot} {rest st0 : List Value} {a : Array Value} {A0 A1 : Nat → Prop} {H0 : Heap} {free : Addr → Prop} {post' : Option Value → σ → Prop} (hr : va_Run p l e R s m args below meth c H locs 0 0 0 0 (F0 m pc ls st0) rest (cQ D tys wld A1 post' a) free) (hS : va_S A0 H0 H locs) (hA : ∀ q, A1 q → A0 q) (hf : ∀ q, free q → A0 q)
    (kk : ∀ (v : Option Value) (u : σ) (H1 : Heap) (locs1 : List Loc), post' v u → va_P D vwCl (wld u) H1 → va_D A0 (wld u) → va_S A0 H0 H1 locs1 → W p l e R s m args below meth c H1 locs1 0 0 Q (F0 m (pc + 3) ls (v.toList ++ rest))) : W p l e R s m args below meth c H locs 0 0 Q (F0 m pc ls st0) := by
  intro T hT X
  obtain ⟨v, st₀, t, T', L, h0, X', hL, e1, e2, ⟨⟨v2, u, hv, hp, hP, hK, hD⟩, hz, hk⟩, st⟩ := hr T hT X
  cases hv
  rw [h0] at hz hk
  obtain ⟨t2, a1, b1⟩ := kk v u T'.heap (locs ++ L) hp (by rw [e1]; exact hP) (hD.weaken (fun _ _ _ h => hA _ h))
    ⟨Nat.le_trans hS.1 (by rw [e1]; exact hz), fun q h1 h2 => by rw [e1, hk q (Nat.lt_of_lt_of_le h1 hS.1) (fun z => h2 (hA q z))]; exact hS.2.1 q h1 h2, fun q hq => by
      rcases List.mem_append.mp hq with h | h
      · exact hS.2.2 q h
      · exact hf _ (hL q h)⟩ T' rfl X'
  exact ⟨t2, st t2 a1, b1⟩
/-- what a call's place in the code says: links and words -/
def LkV (own : String) (idx : Nat) (C : String) (y : MethodName) (cc : ByteArray) (n : Nat) (rt : Option FieldType) (k : Nat) : Prop := (∀ w ∈ wsV own idx C y [Cond.code y cc n rt], w ∈ gw) ∧ y.cls = C ∧ y.cls ≠ "java/lang/invoke/MethodHandle" ∧ y.cls ≠ "java/lang/invoke/VarHandle" ∧ (parseMethodDescriptor y.desc).map (fun d => d.parameters.length) = some k
def LkS (own : String) (idx : Nat) (y : MethodName) (cc : ByteArray) (n : Nat) (rt : Option FieldType) (k : Nat) : Prop := (∀ w ∈ va_wsS own idx y [Cond.code y cc n rt], w ∈ gw) ∧ y.cls ≠ "java/lang/invoke/MethodHandle" ∧ y.cls ≠ "java/lang/invoke/VarHandle" ∧ (parseMethodDescriptor y.desc).map (fun d => d.parameters.length) = some k
def rOk (rm R : Room) (n : Nat) : Prop := rm.cells = 0 ∧ rm.slots = 0 ∧ rm.frames + 1 ≤ R.frames ∧ 8 + (n + 11) + rm.locals ≤ R.locals
theorem lk_good {y : MethodName} {cc : ByteArray} {n : Nat} {rt : Option FieldType} {ws : List Cond} (h : ∀ w ∈ ws ++ [Cond.code y cc n rt], w ∈ gw) : GoodIn gw (ws ++ (Cond.code y cc n rt :: gw)) := by
  intro w hw
  rcases List.mem_append.mp hw with h1 | h1
  · exact gw_good w (h w (List.mem_append_left _ h1))
  · rcases List.mem_cons.mp h1 with h2 | h2
    · exact gw_good w (h w (by rw [h2]; exact List.mem_append_right _ List.mem_cons_self))
    · exact gw_good w h2
theorem ct_pre {p : Program} {e : Env} {s : State} {m : MethodId} {args : Array Value} {below : List Frame} {A : Nat → Prop} {H : Heap} {locs : List Loc} (hK : va_K D vwCl tys s) (hOL : OL O) (hO : O A s s.heap) (hP : va_P D vwCl (wld u) H) (hD : va_D A (wld u)) (hS : va_S A s.heap H locs) (hF : ∀ q, va_A (wld u) H.size q → A q) (as : List Value) : ∀ U : State, U.heap = H → s.WarmedH U.vm → va_Pc as (fun U => U.heap.size = H.size ∧ va_P D vwCl (wld u) U.heap ∧ va_K D vwCl tys U ∧ va_D (fun _ => True) (wld u) ∧ O (va_A (wld u) H.size) U U.heap) as.toArray U := by
  intro U hU hWm
  refine ⟨rfl, by rw [hU], by rw [hU]; exact hP, va_K.moved hWm.alike hK, hD.weaken (fun _ _ _ _ => trivial), ?_⟩
  rw [hU]
  exact hOL.2.2 _ s U H hWm (hOL.1 A _ s H (hOL.2.1 A s s.heap H hO hS.2.1) hF)
theorem ct_blind {sz : Nat} {A1 : Nat → Prop} (hOL : OL O) (as : List Value) : FrameBlind (va_Pc as (fun U => U.heap.size = sz ∧ va_P D vwCl (wld u) U.heap ∧ va_K D vwCl tys U ∧ va_D (fun _ => True) (wld u) ∧ O A1 U U.heap)) := by
  intro a U g mk q
  obtain ⟨q0, q1, qP, qK, qD, qO⟩ := q
  exact ⟨q0, q1, qP, va_K.moved (u := U) (U := U.calling g mk a) (Vm.Alike.refl U.vm) qK, qD, hOL.2.2 _ U (U.calling g mk a) U.heap (State.WarmedH.refl U) qO⟩
theorem v_callV (hJ : Snd l R cc nL own rt D tys O wld post X J) {q0 ci N idx kn n' : Nat} {C : String} {T : u_T} {fs : List Value} {b : Nat} {y : MethodName} {cc' : ByteArray} {rt' : Option FieldType} {rm : Room} {As st0 : List Value} {post' : Option Value → σ → Prop} (he : (wld u)[q0]? = some (b, .inr (ci, fs))) (hc : vwCl[ci]? = some (C, T, N)) (lk : LkV own idx C y cc' n' rt' kn) (hM : Ct l y cc' n' rt' rm D tys O wld (.ref b :: As) u post') (hkn : As.length = kn) (hst : st0 = As.reverse ++ .ref b :: st) (hroom : (st.map fun v => v.category).sum ≤ 8) (hrm : rOk rm R n') (d : decode cc pc = .ok (.invokevirtual idx, 3)) (kk : ∀ (v : Option Value) (u' : σ), post' v u' → J (pc + 3) lv (v.toList ++ st) u') : J pc lv st0 u := by
  obtain ⟨p, e, s, m, args, below, meth, c, A, Q⟩ := X
  obtain ⟨hx, hb, hml, hown, hts, hr, hlk, hK, hA, hOL, hO, hQ, hW⟩ := hJ
  refine (hW _ _ _ _).mpr (fun H locs ls hP hD hS hl => ?_)
  have hF : ∀ q, va_A (wld u) H.size q → A q := by
    rintro q (⟨k9, e9, h9⟩ | h9)
    · exact hD.2 k9 _ h9
    · exact hA q (Nat.le_trans hS.1 h9)
  refine va_goon (D := D) (tys := tys) (wld := wld) (A1 := va_A (wld u) H.size) (va_runV (As := As) (rest := st) (Ts := gw) (own := own) (b := b) ⟨hx, hb, hml, hown, hts⟩ (hM H.size) (cwV kn hts (lk_good lk.1) rfl hrm.1 hrm.2.1 lk.2 hrm.2.2) ⟨ct_blind hOL _, va_recv hK hP hc he, ct_pre (p := p) (e := e) (m := m) (args := args) (below := below) hK hOL hO hP hD hS hF _⟩ rfl hkn hl.1 hst (lv_room hroom) d ⟨Nat.zero_le _, Nat.zero_le _⟩) hS hF hF (fun v u' H1 locs1 hp hP1 hD1 hS1 => (hW _ _ _ _).mp (kk v u' hp) H1 locs1 ls hP1 hD1 hS1 hl)
theorem v_callS (hJ : Snd l R cc nL own rt D tys O wld post X J) {idx kn n' : Nat} {y : MethodName} {cc' : ByteArray} {rt' : Option FieldType} {rm : Room} {As st0 : List Value} {post' : Option Value → σ → Prop} (lk : LkS own idx y cc' n' rt' kn) (hM : Ct l y cc' n' rt' rm D tys O wld As u post') (hkn : As.length = kn) (hst : st0 = As.reverse ++ st) (hroom : (st.map fun v => v.category).sum ≤ 8) (hrm : rOk rm R n') (d : decode cc pc = .ok (.invokestatic idx, 3)) (kk : ∀ (v : Option Value) (u' : σ), post' v u' → J (pc + 3) lv (v.toList ++ st) u') : J pc lv st0 u := by
  obtain ⟨p, e, s, m, args, below, meth, c, A, Q⟩ := X
  obtain ⟨hx, hb, hml, hown, hts, hr, hlk, hK, hA, hOL, hO, hQ, hW⟩ := hJ
  refine (hW _ _ _ _).mpr (fun H locs ls hP hD hS hl => ?_)
  have hF : ∀ q, va_A (wld u) H.size q → A q := by
    rintro q (⟨k9, e9, h9⟩ | h9)
    · exact hD.2 k9 _ h9
    · exact hA q (Nat.le_trans hS.1 h9)
  refine va_goon (D := D) (tys := tys) (wld := wld) (A1 := va_A (wld u) H.size) (va_runS (As := As) (rest := st) (Ts := gw) (own := own) ⟨hx, hb, hml, hown, hts⟩ (hM H.size) (va_cwS kn hts (lk_good lk.1) rfl hrm.1 hrm.2.1 lk.2 hrm.2.2) ⟨ct_blind hOL _, ct_pre (p := p) (e := e) (m := m) (args := args) (below := below) hK hOL hO hP hD hS hF _⟩ rfl hkn hl.1 hst (lv_room hroom) d ⟨Nat.zero_le _, Nat.zero_le _⟩) hS hF hF (fun v u' H1 locs1 hp hP1 hD1 hS1 => (hW _ _ _ _).mp (kk v u' hp) H1 locs1 ls hP1 hD1 hS1 hl)
theorem v_cV0i (hJ : Snd l R cc nL own rt D tys O wld post X J) {q0 ci N idx n2 : Nat} {C : String} {T : u_T} {fs : List Value} {b : Nat} {y : MethodName} {cc2 : ByteArray} {rt2 : Option FieldType} {rm : Room} {P : Int → σ → Prop} (he : (wld u)[q0]? = some (b, .inr (ci, fs))) (hc : vwCl[ci]? = some (C, T, N)) (lk : LkV own idx C y cc2 n2 rt2 0) (hM : Ct l y cc2 n2 rt2 rm D tys O wld (.ref b :: []) u (pI P)) (hroom : (st.map fun v => v.category).sum ≤ 8) (hrm : rOk rm R n2) (d : decode cc pc = .ok (.invokevirtual idx, 3)) (kk : ∀ (r : Int) (u2 : σ), P r u2 → J (pc + 3) lv (.int (iZ r) :: st) u2) : J pc lv (.ref b :: st) u :=
  v_callV (As := []) hJ he hc lk hM rfl rfl hroom hrm d (fun v u2 h => by obtain ⟨r, rfl, h2⟩ := h; exact kk r u2 h2)
theorem v_cS0i (hJ : Snd l R cc nL own rt D tys O wld post X J) {idx n2 : Nat} {y : MethodName} {cc2 : ByteArray} {rt2 : Option FieldType} {rm : Room} {P : Int → σ → Prop} (lk : LkS own idx y cc2 n2 rt2 0) (hM : Ct l y cc2 n2 rt2 rm D tys O wld [] u (pI P)) (hroom : (st.map fun v => v.category).sum ≤ 8) (hrm : rOk rm R n2) (d : decode cc pc = .ok (.invokestatic idx, 3)) (kk : ∀ (r : Int) (u2 : σ), P r u2 → J (pc + 3) lv (.int (iZ r) :: st) u2) : J pc lv (st) u :=
  v_callS (As := []) hJ lk hM rfl rfl hroom hrm d (fun v u2 h => by obtain ⟨r, rfl, h2⟩ := h; exact kk r u2 h2)
theorem v_cV0v (hJ : Snd l R cc nL own rt D tys O wld post X J) {q0 ci N idx n2 : Nat} {C : String} {T : u_T} {fs : List Value} {b : Nat} {y : MethodName} {cc2 : ByteArray} {rt2 : Option FieldType} {rm : Room} {P : σ → Prop} (he : (wld u)[q0]? = some (b, .inr (ci, fs))) (hc : vwCl[ci]? = some (C, T, N)) (lk : LkV own idx C y cc2 n2 rt2 0) (hM : Ct l y cc2 n2 rt2 rm D tys O wld (.ref b :: []) u (pV P)) (hroom : (st.map fun v => v.category).sum ≤ 8) (hrm : rOk rm R n2) (d : decode cc pc = .ok (.invokevirtual idx, 3)) (kk : ∀ (u2 : σ), P u2 → J (pc + 3) lv st u2) : J pc lv (.ref b :: st) u :=
  v_callV (As := []) hJ he hc lk hM rfl rfl hroom hrm d (fun v u2 h => by obtain ⟨rfl, h2⟩ := h; exact kk u2 h2)
theorem v_cS0v (hJ : Snd l R cc nL own rt D tys O wld post X J) {idx n2 : Nat} {y : MethodName} {cc2 : ByteArray} {rt2 : Option FieldType} {rm : Room} {P : σ → Prop} (lk : LkS own idx y cc2 n2 rt2 0) (hM : Ct l y cc2 n2 rt2 rm D tys O wld [] u (pV P)) (hroom : (st.map fun v => v.category).sum ≤ 8) (hrm : rOk rm R n2) (d : decode cc pc = .ok (.invokestatic idx, 3)) (kk : ∀ (u2 : σ), P u2 → J (pc + 3) lv st u2) : J pc lv (st) u :=
  v_callS (As := []) hJ lk hM rfl rfl hroom hrm d (fun v u2 h => by obtain ⟨rfl, h2⟩ := h; exact kk u2 h2)
theorem v_cV0r (hJ : Snd l R cc nL own rt D tys O wld post X J) {q0 ci N idx n2 : Nat} {C : String} {T : u_T} {fs : List Value} {b : Nat} {y : MethodName} {cc2 : ByteArray} {rt2 : Option FieldType} {rm : Room} {P : Nat → σ → Prop} (he : (wld u)[q0]? = some (b, .inr (ci, fs))) (hc : vwCl[ci]? = some (C, T, N)) (lk : LkV own idx C y cc2 n2 rt2 0) (hM : Ct l y cc2 n2 rt2 rm D tys O wld (.ref b :: []) u (pR P)) (hroom : (st.map fun v => v.category).sum ≤ 8) (hrm : rOk rm R n2) (d : decode cc pc = .ok (.invokevirtual idx, 3)) (kk : ∀ (r : Nat) (u2 : σ), P r u2 → J (pc + 3) lv (.ref r :: st) u2) : J pc lv (.ref b :: st) u :=
  v_callV (As := []) hJ he hc lk hM rfl rfl hroom hrm d (fun v u2 h => by obtain ⟨r, rfl, h2⟩ := h; exact kk r u2 h2)
theorem v_cS0r (hJ : Snd l R cc nL own rt D tys O wld post X J) {idx n2 : Nat} {y : MethodName} {cc2 : ByteArray} {rt2 : Option FieldType} {rm : Room} {P : Nat → σ → Prop} (lk : LkS own idx y cc2 n2 rt2 0) (hM : Ct l y cc2 n2 rt2 rm D tys O wld [] u (pR P)) (hroom : (st.map fun v => v.category).sum ≤ 8) (hrm : rOk rm R n2) (d : decode cc pc = .ok (.invokestatic idx, 3)) (kk : ∀ (r : Nat) (u2 : σ), P r u2 → J (pc + 3) lv (.ref r :: st) u2) : J pc lv (st) u :=
  v_callS (As := []) hJ lk hM rfl rfl hroom hrm d (fun v u2 h => by obtain ⟨r, rfl, h2⟩ := h; exact kk r u2 h2)
theorem v_cV1i (hJ : Snd l R cc nL own rt D tys O wld post X J) {q0 ci N idx n2 : Nat} {C : String} {T : u_T} {fs : List Value} {b : Nat} {y : MethodName} {cc2 : ByteArray} {rt2 : Option FieldType} {rm : Room} {v1 : Value} {P : Int → σ → Prop} (he : (wld u)[q0]? = some (b, .inr (ci, fs))) (hc : vwCl[ci]? = some (C, T, N)) (lk : LkV own idx C y cc2 n2 rt2 1) (hM : Ct l y cc2 n2 rt2 rm D tys O wld (.ref b :: [v1]) u (pI P)) (hroom : (st.map fun v => v.category).sum ≤ 8) (hrm : rOk rm R n2) (d : decode cc pc = .ok (.invokevirtual idx, 3)) (kk : ∀ (r : Int) (u2 : σ), P r u2 → J (pc + 3) lv (.int (iZ r) :: st) u2) : J pc lv (v1 :: .ref b :: st) u :=
  v_callV (As := [v1]) hJ he hc lk hM rfl rfl hroom hrm d (fun v u2 h => by obtain ⟨r, rfl, h2⟩ := h; exact kk r u2 h2)
theorem v_cS1i (hJ : Snd l R cc nL own rt D tys O wld post X J) {idx n2 : Nat} {y : MethodName} {cc2 : ByteArray} {rt2 : Option FieldType} {rm : Room} {v1 : Value} {P : Int → σ → Prop} (lk : LkS own idx y cc2 n2 rt2 1) (hM : Ct l y cc2 n2 rt2 rm D tys O wld [v1] u (pI P)) (hroom : (st.map fun v => v.category).sum ≤ 8) (hrm : rOk rm R n2) (d : decode cc pc = .ok (.invokestatic idx, 3)) (kk : ∀ (r : Int) (u2 : σ), P r u2 → J (pc + 3) lv (.int (iZ r) :: st) u2) : J pc lv (v1 :: st) u :=
  v_callS (As := [v1]) hJ lk hM rfl rfl hroom hrm d (fun v u2 h => by obtain ⟨r, rfl, h2⟩ := h; exact kk r u2 h2)
theorem v_cV1v (hJ : Snd l R cc nL own rt D tys O wld post X J) {q0 ci N idx n2 : Nat} {C : String} {T : u_T} {fs : List Value} {b : Nat} {y : MethodName} {cc2 : ByteArray} {rt2 : Option FieldType} {rm : Room} {v1 : Value} {P : σ → Prop} (he : (wld u)[q0]? = some (b, .inr (ci, fs))) (hc : vwCl[ci]? = some (C, T, N)) (lk : LkV own idx C y cc2 n2 rt2 1) (hM : Ct l y cc2 n2 rt2 rm D tys O wld (.ref b :: [v1]) u (pV P)) (hroom : (st.map fun v => v.category).sum ≤ 8) (hrm : rOk rm R n2) (d : decode cc pc = .ok (.invokevirtual idx, 3)) (kk : ∀ (u2 : σ), P u2 → J (pc + 3) lv st u2) : J pc lv (v1 :: .ref b :: st) u :=
  v_callV (As := [v1]) hJ he hc lk hM rfl rfl hroom hrm d (fun v u2 h => by obtain ⟨rfl, h2⟩ := h; exact kk u2 h2)
theorem v_cS1v (hJ : Snd l R cc nL own rt D tys O wld post X J) {idx n2 : Nat} {y : MethodName} {cc2 : ByteArray} {rt2 : Option FieldType} {rm : Room} {v1 : Value} {P : σ → Prop} (lk : LkS own idx y cc2 n2 rt2 1) (hM : Ct l y cc2 n2 rt2 rm D tys O wld [v1] u (pV P)) (hroom : (st.map fun v => v.category).sum ≤ 8) (hrm : rOk rm R n2) (d : decode cc pc = .ok (.invokestatic idx, 3)) (kk : ∀ (u2 : σ), P u2 → J (pc + 3) lv st u2) : J pc lv (v1 :: st) u :=
  v_callS (As := [v1]) hJ lk hM rfl rfl hroom hrm d (fun v u2 h => by obtain ⟨rfl, h2⟩ := h; exact kk u2 h2)
theorem v_cV1r (hJ : Snd l R cc nL own rt D tys O wld post X J) {q0 ci N idx n2 : Nat} {C : String} {T : u_T} {fs : List Value} {b : Nat} {y : MethodName} {cc2 : ByteArray} {rt2 : Option FieldType} {rm : Room} {v1 : Value} {P : Nat → σ → Prop} (he : (wld u)[q0]? = some (b, .inr (ci, fs))) (hc : vwCl[ci]? = some (C, T, N)) (lk : LkV own idx C y cc2 n2 rt2 1) (hM : Ct l y cc2 n2 rt2 rm D tys O wld (.ref b :: [v1]) u (pR P)) (hroom : (st.map fun v => v.category).sum ≤ 8) (hrm : rOk rm R n2) (d : decode cc pc = .ok (.invokevirtual idx, 3)) (kk : ∀ (r : Nat) (u2 : σ), P r u2 → J (pc + 3) lv (.ref r :: st) u2) : J pc lv (v1 :: .ref b :: st) u :=
  v_callV (As := [v1]) hJ he hc lk hM rfl rfl hroom hrm d (fun v u2 h => by obtain ⟨r, rfl, h2⟩ := h; exact kk r u2 h2)
theorem v_cS1r (hJ : Snd l R cc nL own rt D tys O wld post X J) {idx n2 : Nat} {y : MethodName} {cc2 : ByteArray} {rt2 : Option FieldType} {rm : Room} {v1 : Value} {P : Nat → σ → Prop} (lk : LkS own idx y cc2 n2 rt2 1) (hM : Ct l y cc2 n2 rt2 rm D tys O wld [v1] u (pR P)) (hroom : (st.map fun v => v.category).sum ≤ 8) (hrm : rOk rm R n2) (d : decode cc pc = .ok (.invokestatic idx, 3)) (kk : ∀ (r : Nat) (u2 : σ), P r u2 → J (pc + 3) lv (.ref r :: st) u2) : J pc lv (v1 :: st) u :=
  v_callS (As := [v1]) hJ lk hM rfl rfl hroom hrm d (fun v u2 h => by obtain ⟨r, rfl, h2⟩ := h; exact kk r u2 h2)
theorem v_cV2i (hJ : Snd l R cc nL own rt D tys O wld post X J) {q0 ci N idx n2 : Nat} {C : String} {T : u_T} {fs : List Value} {b : Nat} {y : MethodName} {cc2 : ByteArray} {rt2 : Option FieldType} {rm : Room} {v1 v2 : Value} {P : Int → σ → Prop} (he : (wld u)[q0]? = some (b, .inr (ci, fs))) (hc : vwCl[ci]? = some (C, T, N)) (lk : LkV own idx C y cc2 n2 rt2 2) (hM : Ct l y cc2 n2 rt2 rm D tys O wld (.ref b :: [v1, v2]) u (pI P)) (hroom : (st.map fun v => v.category).sum ≤ 8) (hrm : rOk rm R n2) (d : decode cc pc = .ok (.invokevirtual idx, 3)) (kk : ∀ (r : Int) (u2 : σ), P r u2 → J (pc + 3) lv (.int (iZ r) :: st) u2) : J pc lv (v2 :: v1 :: .ref b :: st) u :=
  v_callV (As := [v1, v2]) hJ he hc lk hM rfl rfl hroom hrm d (fun v u2 h => by obtain ⟨r, rfl, h2⟩ := h; exact kk r u2 h2)
theorem v_cS2i (hJ : Snd l R cc nL own rt D tys O wld post X J) {idx n2 : Nat} {y : MethodName} {cc2 : ByteArray} {rt2 : Option FieldType} {rm : Room} {v1 v2 : Value} {P : Int → σ → Prop} (lk : LkS own idx y cc2 n2 rt2 2) (hM : Ct l y cc2 n2 rt2 rm D tys O wld [v1, v2] u (pI P)) (hroom : (st.map fun v => v.category).sum ≤ 8) (hrm : rOk rm R n2) (d : decode cc pc = .ok (.invokestatic idx, 3)) (kk : ∀ (r : Int) (u2 : σ), P r u2 → J (pc + 3) lv (.int (iZ r) :: st) u2) : J pc lv (v2 :: v1 :: st) u :=
  v_callS (As := [v1, v2]) hJ lk hM rfl rfl hroom hrm d (fun v u2 h => by obtain ⟨r, rfl, h2⟩ := h; exact kk r u2 h2)
theorem v_cV2v (hJ : Snd l R cc nL own rt D tys O wld post X J) {q0 ci N idx n2 : Nat} {C : String} {T : u_T} {fs : List Value} {b : Nat} {y : MethodName} {cc2 : ByteArray} {rt2 : Option FieldType} {rm : Room} {v1 v2 : Value} {P : σ → Prop} (he : (wld u)[q0]? = some (b, .inr (ci, fs))) (hc : vwCl[ci]? = some (C, T, N)) (lk : LkV own idx C y cc2 n2 rt2 2) (hM : Ct l y cc2 n2 rt2 rm D tys O wld (.ref b :: [v1, v2]) u (pV P)) (hroom : (st.map fun v => v.category).sum ≤ 8) (hrm : rOk rm R n2) (d : decode cc pc = .ok (.invokevirtual idx, 3)) (kk : ∀ (u2 : σ), P u2 → J (pc + 3) lv st u2) : J pc lv (v2 :: v1 :: .ref b :: st) u :=
  v_callV (As := [v1, v2]) hJ he hc lk hM rfl rfl hroom hrm d (fun v u2 h => by obtain ⟨rfl, h2⟩ := h; exact kk u2 h2)
theorem v_cS2v (hJ : Snd l R cc nL own rt D tys O wld post X J) {idx n2 : Nat} {y : MethodName} {cc2 : ByteArray} {rt2 : Option FieldType} {rm : Room} {v1 v2 : Value} {P : σ → Prop} (lk : LkS own idx y cc2 n2 rt2 2) (hM : Ct l y cc2 n2 rt2 rm D tys O wld [v1, v2] u (pV P)) (hroom : (st.map fun v => v.category).sum ≤ 8) (hrm : rOk rm R n2) (d : decode cc pc = .ok (.invokestatic idx, 3)) (kk : ∀ (u2 : σ), P u2 → J (pc + 3) lv st u2) : J pc lv (v2 :: v1 :: st) u :=
  v_callS (As := [v1, v2]) hJ lk hM rfl rfl hroom hrm d (fun v u2 h => by obtain ⟨rfl, h2⟩ := h; exact kk u2 h2)
theorem v_cV2r (hJ : Snd l R cc nL own rt D tys O wld post X J) {q0 ci N idx n2 : Nat} {C : String} {T : u_T} {fs : List Value} {b : Nat} {y : MethodName} {cc2 : ByteArray} {rt2 : Option FieldType} {rm : Room} {v1 v2 : Value} {P : Nat → σ → Prop} (he : (wld u)[q0]? = some (b, .inr (ci, fs))) (hc : vwCl[ci]? = some (C, T, N)) (lk : LkV own idx C y cc2 n2 rt2 2) (hM : Ct l y cc2 n2 rt2 rm D tys O wld (.ref b :: [v1, v2]) u (pR P)) (hroom : (st.map fun v => v.category).sum ≤ 8) (hrm : rOk rm R n2) (d : decode cc pc = .ok (.invokevirtual idx, 3)) (kk : ∀ (r : Nat) (u2 : σ), P r u2 → J (pc + 3) lv (.ref r :: st) u2) : J pc lv (v2 :: v1 :: .ref b :: st) u :=
  v_callV (As := [v1, v2]) hJ he hc lk hM rfl rfl hroom hrm d (fun v u2 h => by obtain ⟨r, rfl, h2⟩ := h; exact kk r u2 h2)
theorem v_cS2r (hJ : Snd l R cc nL own rt D tys O wld post X J) {idx n2 : Nat} {y : MethodName} {cc2 : ByteArray} {rt2 : Option FieldType} {rm : Room} {v1 v2 : Value} {P : Nat → σ → Prop} (lk : LkS own idx y cc2 n2 rt2 2) (hM : Ct l y cc2 n2 rt2 rm D tys O wld [v1, v2] u (pR P)) (hroom : (st.map fun v => v.category).sum ≤ 8) (hrm : rOk rm R n2) (d : decode cc pc = .ok (.invokestatic idx, 3)) (kk : ∀ (r : Nat) (u2 : σ), P r u2 → J (pc + 3) lv (.ref r :: st) u2) : J pc lv (v2 :: v1 :: st) u :=
  v_callS (As := [v1, v2]) hJ lk hM rfl rfl hroom hrm d (fun v u2 h => by obtain ⟨r, rfl, h2⟩ := h; exact kk r u2 h2)
theorem v_cV3i (hJ : Snd l R cc nL own rt D tys O wld post X J) {q0 ci N idx n2 : Nat} {C : String} {T : u_T} {fs : List Value} {b : Nat} {y : MethodName} {cc2 : ByteArray} {rt2 : Option FieldType} {rm : Room} {v1 v2 v3 : Value} {P : Int → σ → Prop} (he : (wld u)[q0]? = some (b, .inr (ci, fs))) (hc : vwCl[ci]? = some (C, T, N)) (lk : LkV own idx C y cc2 n2 rt2 3) (hM : Ct l y cc2 n2 rt2 rm D tys O wld (.ref b :: [v1, v2, v3]) u (pI P)) (hroom : (st.map fun v => v.category).sum ≤ 8) (hrm : rOk rm R n2) (d : decode cc pc = .ok (.invokevirtual idx, 3)) (kk : ∀ (r : Int) (u2 : σ), P r u2 → J (pc + 3) lv (.int (iZ r) :: st) u2) : J pc lv (v3 :: v2 :: v1 :: .ref b :: st) u :=
  v_callV (As := [v1, v2, v3]) hJ he hc lk hM rfl rfl hroom hrm d (fun v u2 h => by obtain ⟨r, rfl, h2⟩ := h; exact kk r u2 h2)
theorem v_cS3i (hJ : Snd l R cc nL own rt D tys O wld post X J) {idx n2 : Nat} {y : MethodName} {cc2 : ByteArray} {rt2 : Option FieldType} {rm : Room} {v1 v2 v3 : Value} {P : Int → σ → Prop} (lk : LkS own idx y cc2 n2 rt2 3) (hM : Ct l y cc2 n2 rt2 rm D tys O wld [v1, v2, v3] u (pI P)) (hroom : (st.map fun v => v.category).sum ≤ 8) (hrm : rOk rm R n2) (d : decode cc pc = .ok (.invokestatic idx, 3)) (kk : ∀ (r : Int) (u2 : σ), P r u2 → J (pc + 3) lv (.int (iZ r) :: st) u2) : J pc lv (v3 :: v2 :: v1 :: st) u :=
  v_callS (As := [v1, v2, v3]) hJ lk hM rfl rfl hroom hrm d (fun v u2 h => by obtain ⟨r, rfl, h2⟩ := h; exact kk r u2 h2)
theorem v_cV3v (hJ : Snd l R cc nL own rt D tys O wld post X J) {q0 ci N idx n2 : Nat} {C : String} {T : u_T} {fs : List Value} {b : Nat} {y : MethodName} {cc2 : ByteArray} {rt2 : Option FieldType} {rm : Room} {v1 v2 v3 : Value} {P : σ → Prop} (he : (wld u)[q0]? = some (b, .inr (ci, fs))) (hc : vwCl[ci]? = some (C, T, N)) (lk : LkV own idx C y cc2 n2 rt2 3) (hM : Ct l y cc2 n2 rt2 rm D tys O wld (.ref b :: [v1, v2, v3]) u (pV P)) (hroom : (st.map fun v => v.category).sum ≤ 8) (hrm : rOk rm R n2) (d : decode cc pc = .ok (.invokevirtual idx, 3)) (kk : ∀ (u2 : σ), P u2 → J (pc + 3) lv st u2) : J pc lv (v3 :: v2 :: v1 :: .ref b :: st) u :=
  v_callV (As := [v1, v2, v3]) hJ he hc lk hM rfl rfl hroom hrm d (fun v u2 h => by obtain ⟨rfl, h2⟩ := h; exact kk u2 h2)
theorem v_cS3v (hJ : Snd l R cc nL own rt D tys O wld post X J) {idx n2 : Nat} {y : MethodName} {cc2 : ByteArray} {rt2 : Option FieldType} {rm : Room} {v1 v2 v3 : Value} {P : σ → Prop} (lk : LkS own idx y cc2 n2 rt2 3) (hM : Ct l y cc2 n2 rt2 rm D tys O wld [v1, v2, v3] u (pV P)) (hroom : (st.map fun v => v.category).sum ≤ 8) (hrm : rOk rm R n2) (d : decode cc pc = .ok (.invokestatic idx, 3)) (kk : ∀ (u2 : σ), P u2 → J (pc + 3) lv st u2) : J pc lv (v3 :: v2 :: v1 :: st) u :=
  v_callS (As := [v1, v2, v3]) hJ lk hM rfl rfl hroom hrm d (fun v u2 h => by obtain ⟨rfl, h2⟩ := h; exact kk u2 h2)
theorem v_cV3r (hJ : Snd l R cc nL own rt D tys O wld post X J) {q0 ci N idx n2 : Nat} {C : String} {T : u_T} {fs : List Value} {b : Nat} {y : MethodName} {cc2 : ByteArray} {rt2 : Option FieldType} {rm : Room} {v1 v2 v3 : Value} {P : Nat → σ → Prop} (he : (wld u)[q0]? = some (b, .inr (ci, fs))) (hc : vwCl[ci]? = some (C, T, N)) (lk : LkV own idx C y cc2 n2 rt2 3) (hM : Ct l y cc2 n2 rt2 rm D tys O wld (.ref b :: [v1, v2, v3]) u (pR P)) (hroom : (st.map fun v => v.category).sum ≤ 8) (hrm : rOk rm R n2) (d : decode cc pc = .ok (.invokevirtual idx, 3)) (kk : ∀ (r : Nat) (u2 : σ), P r u2 → J (pc + 3) lv (.ref r :: st) u2) : J pc lv (v3 :: v2 :: v1 :: .ref b :: st) u :=
  v_callV (As := [v1, v2, v3]) hJ he hc lk hM rfl rfl hroom hrm d (fun v u2 h => by obtain ⟨r, rfl, h2⟩ := h; exact kk r u2 h2)
theorem v_cS3r (hJ : Snd l R cc nL own rt D tys O wld post X J) {idx n2 : Nat} {y : MethodName} {cc2 : ByteArray} {rt2 : Option FieldType} {rm : Room} {v1 v2 v3 : Value} {P : Nat → σ → Prop} (lk : LkS own idx y cc2 n2 rt2 3) (hM : Ct l y cc2 n2 rt2 rm D tys O wld [v1, v2, v3] u (pR P)) (hroom : (st.map fun v => v.category).sum ≤ 8) (hrm : rOk rm R n2) (d : decode cc pc = .ok (.invokestatic idx, 3)) (kk : ∀ (r : Nat) (u2 : σ), P r u2 → J (pc + 3) lv (.ref r :: st) u2) : J pc lv (v3 :: v2 :: v1 :: st) u :=
  v_callS (As := [v1, v2, v3]) hJ lk hM rfl rfl hroom hrm d (fun v u2 h => by obtain ⟨r, rfl, h2⟩ := h; exact kk r u2 h2)
theorem v_cV4i (hJ : Snd l R cc nL own rt D tys O wld post X J) {q0 ci N idx n2 : Nat} {C : String} {T : u_T} {fs : List Value} {b : Nat} {y : MethodName} {cc2 : ByteArray} {rt2 : Option FieldType} {rm : Room} {v1 v2 v3 v4 : Value} {P : Int → σ → Prop} (he : (wld u)[q0]? = some (b, .inr (ci, fs))) (hc : vwCl[ci]? = some (C, T, N)) (lk : LkV own idx C y cc2 n2 rt2 4) (hM : Ct l y cc2 n2 rt2 rm D tys O wld (.ref b :: [v1, v2, v3, v4]) u (pI P)) (hroom : (st.map fun v => v.category).sum ≤ 8) (hrm : rOk rm R n2) (d : decode cc pc = .ok (.invokevirtual idx, 3)) (kk : ∀ (r : Int) (u2 : σ), P r u2 → J (pc + 3) lv (.int (iZ r) :: st) u2) : J pc lv (v4 :: v3 :: v2 :: v1 :: .ref b :: st) u :=
  v_callV (As := [v1, v2, v3, v4]) hJ he hc lk hM rfl rfl hroom hrm d (fun v u2 h => by obtain ⟨r, rfl, h2⟩ := h; exact kk r u2 h2)
theorem v_cS4i (hJ : Snd l R cc nL own rt D tys O wld post X J) {idx n2 : Nat} {y : MethodName} {cc2 : ByteArray} {rt2 : Option FieldType} {rm : Room} {v1 v2 v3 v4 : Value} {P : Int → σ → Prop} (lk : LkS own idx y cc2 n2 rt2 4) (hM : Ct l y cc2 n2 rt2 rm D tys O wld [v1, v2, v3, v4] u (pI P)) (hroom : (st.map fun v => v.category).sum ≤ 8) (hrm : rOk rm R n2) (d : decode cc pc = .ok (.invokestatic idx, 3)) (kk : ∀ (r : Int) (u2 : σ), P r u2 → J (pc + 3) lv (.int (iZ r) :: st) u2) : J pc lv (v4 :: v3 :: v2 :: v1 :: st) u :=
  v_callS (As := [v1, v2, v3, v4]) hJ lk hM rfl rfl hroom hrm d (fun v u2 h => by obtain ⟨r, rfl, h2⟩ := h; exact kk r u2 h2)
theorem v_cV4v (hJ : Snd l R cc nL own rt D tys O wld post X J) {q0 ci N idx n2 : Nat} {C : String} {T : u_T} {fs : List Value} {b : Nat} {y : MethodName} {cc2 : ByteArray} {rt2 : Option FieldType} {rm : Room} {v1 v2 v3 v4 : Value} {P : σ → Prop} (he : (wld u)[q0]? = some (b, .inr (ci, fs))) (hc : vwCl[ci]? = some (C, T, N)) (lk : LkV own idx C y cc2 n2 rt2 4) (hM : Ct l y cc2 n2 rt2 rm D tys O wld (.ref b :: [v1, v2, v3, v4]) u (pV P)) (hroom : (st.map fun v => v.category).sum ≤ 8) (hrm : rOk rm R n2) (d : decode cc pc = .ok (.invokevirtual idx, 3)) (kk : ∀ (u2 : σ), P u2 → J (pc + 3) lv st u2) : J pc lv (v4 :: v3 :: v2 :: v1 :: .ref b :: st) u :=
  v_callV (As := [v1, v2, v3, v4]) hJ he hc lk hM rfl rfl hroom hrm d (fun v u2 h => by obtain ⟨rfl, h2⟩ := h; exact kk u2 h2)
theorem v_cS4v (hJ : Snd l R cc nL own rt D tys O wld post X J) {idx n2 : Nat} {y : MethodName} {cc2 : ByteArray} {rt2 : Option FieldType} {rm : Room} {v1 v2 v3 v4 : Value} {P : σ → Prop} (lk : LkS own idx y cc2 n2 rt2 4) (hM : Ct l y cc2 n2 rt2 rm D tys O wld [v1, v2, v3, v4] u (pV P)) (hroom : (st.map fun v => v.category).sum ≤ 8) (hrm : rOk rm R n2) (d : decode cc pc = .ok (.invokestatic idx, 3)) (kk : ∀ (u2 : σ), P u2 → J (pc + 3) lv st u2) : J pc lv (v4 :: v3 :: v2 :: v1 :: st) u :=
  v_callS (As := [v1, v2, v3, v4]) hJ lk hM rfl rfl hroom hrm d (fun v u2 h => by obtain ⟨rfl, h2⟩ := h; exact kk u2 h2)
theorem v_cV4r (hJ : Snd l R cc nL own rt D tys O wld post X J) {q0 ci N idx n2 : Nat} {C : String} {T : u_T} {fs : List Value} {b : Nat} {y : MethodName} {cc2 : ByteArray} {rt2 : Option FieldType} {rm : Room} {v1 v2 v3 v4 : Value} {P : Nat → σ → Prop} (he : (wld u)[q0]? = some (b, .inr (ci, fs))) (hc : vwCl[ci]? = some (C, T, N)) (lk : LkV own idx C y cc2 n2 rt2 4) (hM : Ct l y cc2 n2 rt2 rm D tys O wld (.ref b :: [v1, v2, v3, v4]) u (pR P)) (hroom : (st.map fun v => v.category).sum ≤ 8) (hrm : rOk rm R n2) (d : decode cc pc = .ok (.invokevirtual idx, 3)) (kk : ∀ (r : Nat) (u2 : σ), P r u2 → J (pc + 3) lv (.ref r :: st) u2) : J pc lv (v4 :: v3 :: v2 :: v1 :: .ref b :: st) u :=
  v_callV (As := [v1, v2, v3, v4]) hJ he hc lk hM rfl rfl hroom hrm d (fun v u2 h => by obtain ⟨r, rfl, h2⟩ := h; exact kk r u2 h2)
theorem v_cS4r (hJ : Snd l R cc nL own rt D tys O wld post X J) {idx n2 : Nat} {y : MethodName} {cc2 : ByteArray} {rt2 : Option FieldType} {rm : Room} {v1 v2 v3 v4 : Value} {P : Nat → σ → Prop} (lk : LkS own idx y cc2 n2 rt2 4) (hM : Ct l y cc2 n2 rt2 rm D tys O wld [v1, v2, v3, v4] u (pR P)) (hroom : (st.map fun v => v.category).sum ≤ 8) (hrm : rOk rm R n2) (d : decode cc pc = .ok (.invokestatic idx, 3)) (kk : ∀ (r : Nat) (u2 : σ), P r u2 → J (pc + 3) lv (.ref r :: st) u2) : J pc lv (v4 :: v3 :: v2 :: v1 :: st) u :=
  v_callS (As := [v1, v2, v3, v4]) hJ lk hM rfl rfl hroom hrm d (fun v u2 h => by obtain ⟨r, rfl, h2⟩ := h; exact kk r u2 h2)
theorem v_cV5i (hJ : Snd l R cc nL own rt D tys O wld post X J) {q0 ci N idx n2 : Nat} {C : String} {T : u_T} {fs : List Value} {b : Nat} {y : MethodName} {cc2 : ByteArray} {rt2 : Option FieldType} {rm : Room} {v1 v2 v3 v4 v5 : Value} {P : Int → σ → Prop} (he : (wld u)[q0]? = some (b, .inr (ci, fs))) (hc : vwCl[ci]? = some (C, T, N)) (lk : LkV own idx C y cc2 n2 rt2 5) (hM : Ct l y cc2 n2 rt2 rm D tys O wld (.ref b :: [v1, v2, v3, v4, v5]) u (pI P)) (hroom : (st.map fun v => v.category).sum ≤ 8) (hrm : rOk rm R n2) (d : decode cc pc = .ok (.invokevirtual idx, 3)) (kk : ∀ (r : Int) (u2 : σ), P r u2 → J (pc + 3) lv (.int (iZ r) :: st) u2) : J pc lv (v5 :: v4 :: v3 :: v2 :: v1 :: .ref b :: st) u :=
  v_callV (As := [v1, v2, v3, v4, v5]) hJ he hc lk hM rfl rfl hroom hrm d (fun v u2 h => by obtain ⟨r, rfl, h2⟩ := h; exact kk r u2 h2)
theorem v_cS5i (hJ : Snd l R cc nL own rt D tys O wld post X J) {idx n2 : Nat} {y : MethodName} {cc2 : ByteArray} {rt2 : Option FieldType} {rm : Room} {v1 v2 v3 v4 v5 : Value} {P : Int → σ → Prop} (lk : LkS own idx y cc2 n2 rt2 5) (hM : Ct l y cc2 n2 rt2 rm D tys O wld [v1, v2, v3, v4, v5] u (pI P)) (hroom : (st.map fun v => v.category).sum ≤ 8) (hrm : rOk rm R n2) (d : decode cc pc = .ok (.invokestatic idx, 3)) (kk : ∀ (r : Int) (u2 : σ), P r u2 → J (pc + 3) lv (.int (iZ r) :: st) u2) : J pc lv (v5 :: v4 :: v3 :: v2 :: v1 :: st) u :=
  v_callS (As := [v1, v2, v3, v4, v5]) hJ lk hM rfl rfl hroom hrm d (fun v u2 h => by obtain ⟨r, rfl, h2⟩ := h; exact kk r u2 h2)
theorem v_cV5v (hJ : Snd l R cc nL own rt D tys O wld post X J) {q0 ci N idx n2 : Nat} {C : String} {T : u_T} {fs : List Value} {b : Nat} {y : MethodName} {cc2 : ByteArray} {rt2 : Option FieldType} {rm : Room} {v1 v2 v3 v4 v5 : Value} {P : σ → Prop} (he : (wld u)[q0]? = some (b, .inr (ci, fs))) (hc : vwCl[ci]? = some (C, T, N)) (lk : LkV own idx C y cc2 n2 rt2 5) (hM : Ct l y cc2 n2 rt2 rm D tys O wld (.ref b :: [v1, v2, v3, v4, v5]) u (pV P)) (hroom : (st.map fun v => v.category).sum ≤ 8) (hrm : rOk rm R n2) (d : decode cc pc = .ok (.invokevirtual idx, 3)) (kk : ∀ (u2 : σ), P u2 → J (pc + 3) lv st u2) : J pc lv (v5 :: v4 :: v3 :: v2 :: v1 :: .ref b :: st) u :=
  v_callV (As := [v1, v2, v3, v4, v5]) hJ he hc lk hM rfl rfl hroom hrm d (fun v u2 h => by obtain ⟨rfl, h2⟩ := h; exact kk u2 h2)
theorem v_cS5v (hJ : Snd l R cc nL own rt D tys O wld post X J) {idx n2 : Nat} {y : MethodName} {cc2 : ByteArray} {rt2 : Option FieldType} {rm : Room} {v1 v2 v3 v4 v5 : Value} {P : σ → Prop} (lk : LkS own idx y cc2 n2 rt2 5) (hM : Ct l y cc2 n2 rt2 rm D tys O wld [v1, v2, v3, v4, v5] u (pV P)) (hroom : (st.map fun v => v.category).sum ≤ 8) (hrm : rOk rm R n2) (d : decode cc pc = .ok (.invokestatic idx, 3)) (kk : ∀ (u2 : σ), P u2 → J (pc + 3) lv st u2) : J pc lv (v5 :: v4 :: v3 :: v2 :: v1 :: st) u :=
  v_callS (As := [v1, v2, v3, v4, v5]) hJ lk hM rfl rfl hroom hrm d (fun v u2 h => by obtain ⟨rfl, h2⟩ := h; exact kk u2 h2)
theorem v_cV5r (hJ : Snd l R cc nL own rt D tys O wld post X J) {q0 ci N idx n2 : Nat} {C : String} {T : u_T} {fs : List Value} {b : Nat} {y : MethodName} {cc2 : ByteArray} {rt2 : Option FieldType} {rm : Room} {v1 v2 v3 v4 v5 : Value} {P : Nat → σ → Prop} (he : (wld u)[q0]? = some (b, .inr (ci, fs))) (hc : vwCl[ci]? = some (C, T, N)) (lk : LkV own idx C y cc2 n2 rt2 5) (hM : Ct l y cc2 n2 rt2 rm D tys O wld (.ref b :: [v1, v2, v3, v4, v5]) u (pR P)) (hroom : (st.map fun v => v.category).sum ≤ 8) (hrm : rOk rm R n2) (d : decode cc pc = .ok (.invokevirtual idx, 3)) (kk : ∀ (r : Nat) (u2 : σ), P r u2 → J (pc + 3) lv (.ref r :: st) u2) : J pc lv (v5 :: v4 :: v3 :: v2 :: v1 :: .ref b :: st) u :=
  v_callV (As := [v1, v2, v3, v4, v5]) hJ he hc lk hM rfl rfl hroom hrm d (fun v u2 h => by obtain ⟨r, rfl, h2⟩ := h; exact kk r u2 h2)
theorem v_cS5r (hJ : Snd l R cc nL own rt D tys O wld post X J) {idx n2 : Nat} {y : MethodName} {cc2 : ByteArray} {rt2 : Option FieldType} {rm : Room} {v1 v2 v3 v4 v5 : Value} {P : Nat → σ → Prop} (lk : LkS own idx y cc2 n2 rt2 5) (hM : Ct l y cc2 n2 rt2 rm D tys O wld [v1, v2, v3, v4, v5] u (pR P)) (hroom : (st.map fun v => v.category).sum ≤ 8) (hrm : rOk rm R n2) (d : decode cc pc = .ok (.invokestatic idx, 3)) (kk : ∀ (r : Nat) (u2 : σ), P r u2 → J (pc + 3) lv (.ref r :: st) u2) : J pc lv (v5 :: v4 :: v3 :: v2 :: v1 :: st) u :=
  v_callS (As := [v1, v2, v3, v4, v5]) hJ lk hM rfl rfl hroom hrm d (fun v u2 h => by obtain ⟨r, rfl, h2⟩ := h; exact kk r u2 h2)
theorem v_cS6i (hJ : Snd l R cc nL own rt D tys O wld post X J) {idx n2 : Nat} {y : MethodName} {cc2 : ByteArray} {rt2 : Option FieldType} {rm : Room} {v1 v2 v3 v4 v5 v6 : Value} {P : Int → σ → Prop} (lk : LkS own idx y cc2 n2 rt2 6) (hM : Ct l y cc2 n2 rt2 rm D tys O wld [v1, v2, v3, v4, v5, v6] u (pI P)) (hroom : (st.map fun v => v.category).sum ≤ 8) (hrm : rOk rm R n2) (d : decode cc pc = .ok (.invokestatic idx, 3)) (kk : ∀ (r : Int) (u2 : σ), P r u2 → J (pc + 3) lv (.int (iZ r) :: st) u2) : J pc lv (v6 :: v5 :: v4 :: v3 :: v2 :: v1 :: st) u :=
  v_callS (As := [v1, v2, v3, v4, v5, v6]) hJ lk hM rfl rfl hroom hrm d (fun v u2 h => by obtain ⟨r, rfl, h2⟩ := h; exact kk r u2 h2)
theorem v_cS6v (hJ : Snd l R cc nL own rt D tys O wld post X J) {idx n2 : Nat} {y : MethodName} {cc2 : ByteArray} {rt2 : Option FieldType} {rm : Room} {v1 v2 v3 v4 v5 v6 : Value} {P : σ → Prop} (lk : LkS own idx y cc2 n2 rt2 6) (hM : Ct l y cc2 n2 rt2 rm D tys O wld [v1, v2, v3, v4, v5, v6] u (pV P)) (hroom : (st.map fun v => v.category).sum ≤ 8) (hrm : rOk rm R n2) (d : decode cc pc = .ok (.invokestatic idx, 3)) (kk : ∀ (u2 : σ), P u2 → J (pc + 3) lv st u2) : J pc lv (v6 :: v5 :: v4 :: v3 :: v2 :: v1 :: st) u :=
  v_callS (As := [v1, v2, v3, v4, v5, v6]) hJ lk hM rfl rfl hroom hrm d (fun v u2 h => by obtain ⟨rfl, h2⟩ := h; exact kk u2 h2)
theorem v_cS6r (hJ : Snd l R cc nL own rt D tys O wld post X J) {idx n2 : Nat} {y : MethodName} {cc2 : ByteArray} {rt2 : Option FieldType} {rm : Room} {v1 v2 v3 v4 v5 v6 : Value} {P : Nat → σ → Prop} (lk : LkS own idx y cc2 n2 rt2 6) (hM : Ct l y cc2 n2 rt2 rm D tys O wld [v1, v2, v3, v4, v5, v6] u (pR P)) (hroom : (st.map fun v => v.category).sum ≤ 8) (hrm : rOk rm R n2) (d : decode cc pc = .ok (.invokestatic idx, 3)) (kk : ∀ (r : Nat) (u2 : σ), P r u2 → J (pc + 3) lv (.ref r :: st) u2) : J pc lv (v6 :: v5 :: v4 :: v3 :: v2 :: v1 :: st) u :=
  v_callS (As := [v1, v2, v3, v4, v5, v6]) hJ lk hM rfl rfl hroom hrm d (fun v u2 h => by obtain ⟨r, rfl, h2⟩ := h; exact kk r u2 h2)
end ROWS
