/-- the law's body: as J, with cl cells of sl slots made so far -/
def JW {σ : Type} (l : Launch) (R : Room) (nL : Nat) (D : va_G) (wld : σ → va_W) (X : CtxT) (cl sl : Nat) : KT σ := fun pc lv st u => match X with
  | (p, e, s, m, args, below, meth, c, A, Q) => ∀ (H : Heap) (locs : List Loc) (ls : Array Slot), va_P D vwCl (wld u) H → va_D A (wld u) → va_S A s.heap H locs → lvH ls nL lv → W p l e R s m args below meth c H locs cl sl Q (F0 m pc ls st)
def SW (cc : ByteArray) (nL : Nat) (own : String) (D : va_G) (tys : List (ClassId × FieldType)) (O : OT) (X : CtxT) : Prop := match X with
  | (p, _, s, m, args, _, _, c, A, _) => p.tables.exec = Jvm.exec ∧ c.code = cc ∧ c.maxLocals = nL ∧ s.vm.findClass own = some m.cls ∧ (∀ w ∈ gw, w.before args s = true) ∧ va_K D vwCl tys s ∧ (∀ q, s.heap.size ≤ q → A q) ∧ OL O ∧ O A s s.heap
/-- the script -/
def SX (b L : Nat) (zs : Nat → Int) (X : CtxT) : Prop := match X with
  | (_, _, s, _, _, _, _, _, A, _) => va_X b L (fun j => iZ (zs j)) s s.heap ∧ b < s.heap.size ∧ ¬ A b
section WROWS
variable {σ : Type} {l : Launch} {R : Room} {cc : ByteArray} {nL : Nat} {own : String} {D : va_G} {tys : List (ClassId × FieldType)} {O : OT} {wld : σ → va_W} {X : CtxT} {cl sl : Nat}
variable {pc : Nat} {lv : List (Option Value)} {st : List Value} {u : σ}
theorem w_iconst (hS0 : SW cc nL own D tys O X) {n : Int} (d : decode cc pc = .ok (.iconst n, 1)) (k : JW l R nL D wld X cl sl (pc + 1) lv (.int (iZ n) :: st) u) : JW l R nL D wld X cl sl pc lv st u := by
  obtain ⟨p, e, s, m, args, below, meth, c, A, Q⟩ := X
  obtain ⟨hx, hb, hml, hown, hts, hK, hA, hOL, hO⟩ := hS0
  intro H locs ls hP hD hS hl
  exact lv_iconst hx hb d rfl (k H locs ls hP hD hS hl)
theorem w_bipush (hS0 : SW cc nL own D tys O X) {n : Int} (d : decode cc pc = .ok (.bipush n, 2)) (hn : (Int8.ofInt n).toInt32 = iZ n) (k : JW l R nL D wld X cl sl (pc + 2) lv (.int (iZ n) :: st) u) : JW l R nL D wld X cl sl pc lv st u := by
  obtain ⟨p, e, s, m, args, below, meth, c, A, Q⟩ := X
  obtain ⟨hx, hb, hml, hown, hts, hK, hA, hOL, hO⟩ := hS0
  intro H locs ls hP hD hS hl
  exact lv_bipush hx hb d hn (k H locs ls hP hD hS hl)
theorem w_iadd (hS0 : SW cc nL own D tys O X) {x y : Int} (d : decode cc pc = .ok (.iadd, 1)) (k : JW l R nL D wld X cl sl (pc + 1) lv (.int (iZ (x + y)) :: st) u) : JW l R nL D wld X cl sl pc lv (.int (iZ y) :: .int (iZ x) :: st) u := by
  obtain ⟨p, e, s, m, args, below, meth, c, A, Q⟩ := X
  obtain ⟨hx, hb, hml, hown, hts, hK, hA, hOL, hO⟩ := hS0
  intro H locs ls hP hD hS hl
  exact lv_iadd hx hb d (by rw [iZ_add]; exact (k H locs ls hP hD hS hl))
theorem w_isub (hS0 : SW cc nL own D tys O X) {x y : Int} (d : decode cc pc = .ok (.isub, 1)) (k : JW l R nL D wld X cl sl (pc + 1) lv (.int (iZ (x - y)) :: st) u) : JW l R nL D wld X cl sl pc lv (.int (iZ y) :: .int (iZ x) :: st) u := by
  obtain ⟨p, e, s, m, args, below, meth, c, A, Q⟩ := X
  obtain ⟨hx, hb, hml, hown, hts, hK, hA, hOL, hO⟩ := hS0
  intro H locs ls hP hD hS hl
  exact lv_isub hx hb d (by rw [iZ_sub]; exact (k H locs ls hP hD hS hl))
theorem w_iand (hS0 : SW cc nL own D tys O X) {x y : Int} (d : decode cc pc = .ok (.iand, 1)) (k : JW l R nL D wld X cl sl (pc + 1) lv (.int (iZ (zand x y)) :: st) u) : JW l R nL D wld X cl sl pc lv (.int (iZ y) :: .int (iZ x) :: st) u := by
  obtain ⟨p, e, s, m, args, below, meth, c, A, Q⟩ := X
  obtain ⟨hx, hb, hml, hown, hts, hK, hA, hOL, hO⟩ := hS0
  intro H locs ls hP hD hS hl
  have k1 := (k H locs ls hP hD hS hl)
  rw [show iZ (zand x y) = _ from iZ_of _] at k1
  exact lv_iand hx hb d k1
theorem w_goto (hS0 : SW cc nL own D tys O X) {off : Int} {tgt : Nat} (d : decode cc pc = .ok (.goto off, 3)) (ht : (pc : Int) + off = (tgt : Int)) (k : JW l R nL D wld X cl sl tgt lv st u) : JW l R nL D wld X cl sl pc lv st u := by
  obtain ⟨p, e, s, m, args, below, meth, c, A, Q⟩ := X
  obtain ⟨hx, hb, hml, hown, hts, hK, hA, hOL, hO⟩ := hS0
  intro H locs ls hP hD hS hl
  exact lv_goto hx hb d ht (k H locs ls hP hD hS hl)
theorem w_icmp_eq (hS0 : SW cc nL own D tys O X) {x y : Int} {off : Int} {tgt : Nat} (d : decode cc pc = .ok (.if_icmp .eq off, 3)) (ht : (pc : Int) + off = (tgt : Int)) (hx1 : inR x) (hy1 : inR y) (kt : x = y → JW l R nL D wld X cl sl tgt lv st u) (kf : ¬ (x = y) → JW l R nL D wld X cl sl (pc + 3) lv st u) : JW l R nL D wld X cl sl pc lv (.int (iZ y) :: .int (iZ x) :: st) u := by
  obtain ⟨p, e, s, m, args, below, meth, c, A, Q⟩ := X
  obtain ⟨hx, hb, hml, hown, hts, hK, hA, hOL, hO⟩ := hS0
  intro H locs ls hP hD hS hl
  exact lv_icmp_eq hx hb d ht (fun q => (kt ((iZ_eq hx1 hy1).mp q)) H locs ls hP hD hS hl) (fun q => (kf (fun z => q ((iZ_eq hx1 hy1).mpr z))) H locs ls hP hD hS hl)
theorem w_icmp_gt (hS0 : SW cc nL own D tys O X) {x y : Int} {off : Int} {tgt : Nat} (d : decode cc pc = .ok (.if_icmp .gt off, 3)) (ht : (pc : Int) + off = (tgt : Int)) (hx1 : inR x) (hy1 : inR y) (kt : y < x → JW l R nL D wld X cl sl tgt lv st u) (kf : ¬ (y < x) → JW l R nL D wld X cl sl (pc + 3) lv st u) : JW l R nL D wld X cl sl pc lv (.int (iZ y) :: .int (iZ x) :: st) u := by
  obtain ⟨p, e, s, m, args, below, meth, c, A, Q⟩ := X
  obtain ⟨hx, hb, hml, hown, hts, hK, hA, hOL, hO⟩ := hS0
  intro H locs ls hP hD hS hl
  exact lv_icmp_gt hx hb d ht (fun q => (kt ((iZ_lt hy1 hx1).mp q)) H locs ls hP hD hS hl) (fun q => (kf (fun z => q ((iZ_lt hy1 hx1).mpr z))) H locs ls hP hD hS hl)
theorem w_if_ne (hS0 : SW cc nL own D tys O X) {x : Int} {off : Int} {tgt : Nat} (d : decode cc pc = .ok (.ifCond .ne off, 3)) (ht : (pc : Int) + off = (tgt : Int)) (hx1 : inR x) (kt : x ≠ 0 → JW l R nL D wld X cl sl tgt lv st u) (kf : x = 0 → JW l R nL D wld X cl sl (pc + 3) lv st u) : JW l R nL D wld X cl sl pc lv (.int (iZ x) :: st) u := by
  obtain ⟨p, e, s, m, args, below, meth, c, A, Q⟩ := X
  obtain ⟨hx, hb, hml, hown, hts, hK, hA, hOL, hO⟩ := hS0
  intro H locs ls hP hD hS hl
  exact lv_if_ne hx hb d ht (fun q => (kt (fun z => q ((iZ_eq hx1 inR_0).mpr z))) H locs ls hP hD hS hl) (fun q => (kf ((iZ_eq hx1 inR_0).mp q)) H locs ls hP hD hS hl)
theorem w_if_eq (hS0 : SW cc nL own D tys O X) {x : Int} {off : Int} {tgt : Nat} (d : decode cc pc = .ok (.ifCond .eq off, 3)) (ht : (pc : Int) + off = (tgt : Int)) (hx1 : inR x) (kt : x = 0 → JW l R nL D wld X cl sl tgt lv st u) (kf : ¬ (x = 0) → JW l R nL D wld X cl sl (pc + 3) lv st u) : JW l R nL D wld X cl sl pc lv (.int (iZ x) :: st) u := by
  obtain ⟨p, e, s, m, args, below, meth, c, A, Q⟩ := X
  obtain ⟨hx, hb, hml, hown, hts, hK, hA, hOL, hO⟩ := hS0
  intro H locs ls hP hD hS hl
  exact lv_if_eq hx hb d ht (fun q => (kt ((iZ_eq hx1 inR_0).mp q)) H locs ls hP hD hS hl) (fun q => (kf (fun z => q ((iZ_eq hx1 inR_0).mpr z))) H locs ls hP hD hS hl)
theorem w_tableOut (hS0 : SW cc nL own D tys O X) {dflt lo hi : Int} {offs : Array Int} {len : Nat} {x : Int} {tgt : Nat} (d : decode cc pc = .ok (.tableswitch dflt lo hi offs, len)) (hx1 : inR x) (h : x < lo ∨ hi < x) (ht : (pc : Int) + dflt = (tgt : Int)) (k : JW l R nL D wld X cl sl tgt lv st u) : JW l R nL D wld X cl sl pc lv (.int (iZ x) :: st) u := by
  obtain ⟨p, e, s, m, args, below, meth, c, A, Q⟩ := X
  obtain ⟨hx, hb, hml, hown, hts, hK, hA, hOL, hO⟩ := hS0
  intro H locs ls hP hD hS hl
  exact lv_tableOut hx hb d (by rw [iZ_toInt hx1]; exact h) ht (k H locs ls hP hD hS hl)
theorem w_tableIn (hS0 : SW cc nL own D tys O X) {dflt lo hi : Int} {offs : Array Int} {len : Nat} {x : Int} {off : Int} {tgt : Nat} (d : decode cc pc = .ok (.tableswitch dflt lo hi offs, len)) (hx1 : inR x) (h1 : ¬ x < lo) (h2 : ¬ hi < x) (ho : offs[(x - lo).toNat]? = some off) (ht : (pc : Int) + off = (tgt : Int)) (k : JW l R nL D wld X cl sl tgt lv st u) : JW l R nL D wld X cl sl pc lv (.int (iZ x) :: st) u := by
  obtain ⟨p, e, s, m, args, below, meth, c, A, Q⟩ := X
  obtain ⟨hx, hb, hml, hown, hts, hK, hA, hOL, hO⟩ := hS0
  intro H locs ls hP hD hS hl
  exact lv_tableIn hx hb d (by rw [iZ_toInt hx1]; exact h1) (by rw [iZ_toInt hx1]; exact h2) (by rw [iZ_toInt hx1]; exact ho) ht (k H locs ls hP hD hS hl)
theorem w_ald0 (hS0 : SW cc nL own D tys O X) {x : Nat} (d : decode cc pc = .ok (.aload_n 0, 1)) (k : JW l R nL D wld X cl sl (pc + 1) (some (.ref x) :: lv) (.ref x :: st) u) : JW l R nL D wld X cl sl pc (some (.ref x) :: lv) st u := by
  obtain ⟨p, e, s, m, args, below, meth, c, A, Q⟩ := X
  obtain ⟨hx, hb, hml, hown, hts, hK, hA, hOL, hO⟩ := hS0
  intro H locs ls hP hD hS hl
  exact lv_aload_n hx hb d rfl (hl.2.2 0 _ rfl).1 (k H locs ls hP hD hS hl)
theorem w_ald1 (hS0 : SW cc nL own D tys O X) {a0 : Option Value} {x : Nat} (d : decode cc pc = .ok (.aload_n 1, 1)) (k : JW l R nL D wld X cl sl (pc + 1) (a0 :: some (.ref x) :: lv) (.ref x :: st) u) : JW l R nL D wld X cl sl pc (a0 :: some (.ref x) :: lv) st u := by
  obtain ⟨p, e, s, m, args, below, meth, c, A, Q⟩ := X
  obtain ⟨hx, hb, hml, hown, hts, hK, hA, hOL, hO⟩ := hS0
  intro H locs ls hP hD hS hl
  exact lv_aload_n hx hb d rfl (hl.2.2 1 _ rfl).1 (k H locs ls hP hD hS hl)
theorem w_ald2 (hS0 : SW cc nL own D tys O X) {a0 a1 : Option Value} {x : Nat} (d : decode cc pc = .ok (.aload_n 2, 1)) (k : JW l R nL D wld X cl sl (pc + 1) (a0 :: a1 :: some (.ref x) :: lv) (.ref x :: st) u) : JW l R nL D wld X cl sl pc (a0 :: a1 :: some (.ref x) :: lv) st u := by
  obtain ⟨p, e, s, m, args, below, meth, c, A, Q⟩ := X
  obtain ⟨hx, hb, hml, hown, hts, hK, hA, hOL, hO⟩ := hS0
  intro H locs ls hP hD hS hl
  exact lv_aload_n hx hb d rfl (hl.2.2 2 _ rfl).1 (k H locs ls hP hD hS hl)
theorem w_ald3 (hS0 : SW cc nL own D tys O X) {a0 a1 a2 : Option Value} {x : Nat} (d : decode cc pc = .ok (.aload_n 3, 1)) (k : JW l R nL D wld X cl sl (pc + 1) (a0 :: a1 :: a2 :: some (.ref x) :: lv) (.ref x :: st) u) : JW l R nL D wld X cl sl pc (a0 :: a1 :: a2 :: some (.ref x) :: lv) st u := by
  obtain ⟨p, e, s, m, args, below, meth, c, A, Q⟩ := X
  obtain ⟨hx, hb, hml, hown, hts, hK, hA, hOL, hO⟩ := hS0
  intro H locs ls hP hD hS hl
  exact lv_aload_n hx hb d rfl (hl.2.2 3 _ rfl).1 (k H locs ls hP hD hS hl)
theorem w_ild4 (hS0 : SW cc nL own D tys O X) {a0 a1 a2 a3 : Option Value} {x : Int32} (d : decode cc pc = .ok (.iload 4, 2)) (k : JW l R nL D wld X cl sl (pc + 2) (a0 :: a1 :: a2 :: a3 :: some (.int x) :: lv) (.int x :: st) u) : JW l R nL D wld X cl sl pc (a0 :: a1 :: a2 :: a3 :: some (.int x) :: lv) st u := by
  obtain ⟨p, e, s, m, args, below, meth, c, A, Q⟩ := X
  obtain ⟨hx, hb, hml, hown, hts, hK, hA, hOL, hO⟩ := hS0
  intro H locs ls hP hD hS hl
  exact lv_iload hx hb d (hl.2.2 4 _ rfl).1 (k H locs ls hP hD hS hl)
theorem w_ild5 (hS0 : SW cc nL own D tys O X) {a0 a1 a2 a3 a4 : Option Value} {x : Int32} (d : decode cc pc = .ok (.iload 5, 2)) (k : JW l R nL D wld X cl sl (pc + 2) (a0 :: a1 :: a2 :: a3 :: a4 :: some (.int x) :: lv) (.int x :: st) u) : JW l R nL D wld X cl sl pc (a0 :: a1 :: a2 :: a3 :: a4 :: some (.int x) :: lv) st u := by
  obtain ⟨p, e, s, m, args, below, meth, c, A, Q⟩ := X
  obtain ⟨hx, hb, hml, hown, hts, hK, hA, hOL, hO⟩ := hS0
  intro H locs ls hP hD hS hl
  exact lv_iload hx hb d (hl.2.2 5 _ rfl).1 (k H locs ls hP hD hS hl)
theorem w_ild6 (hS0 : SW cc nL own D tys O X) {a0 a1 a2 a3 a4 a5 : Option Value} {x : Int32} (d : decode cc pc = .ok (.iload 6, 2)) (k : JW l R nL D wld X cl sl (pc + 2) (a0 :: a1 :: a2 :: a3 :: a4 :: a5 :: some (.int x) :: lv) (.int x :: st) u) : JW l R nL D wld X cl sl pc (a0 :: a1 :: a2 :: a3 :: a4 :: a5 :: some (.int x) :: lv) st u := by
  obtain ⟨p, e, s, m, args, below, meth, c, A, Q⟩ := X
  obtain ⟨hx, hb, hml, hown, hts, hK, hA, hOL, hO⟩ := hS0
  intro H locs ls hP hD hS hl
  exact lv_iload hx hb d (hl.2.2 6 _ rfl).1 (k H locs ls hP hD hS hl)
theorem w_ist4 (hS0 : SW cc nL own D tys O X) {a0 a1 a2 a3 a4 : Option Value} {x : Int32} (d : decode cc pc = .ok (.istore 4, 2)) (hn : 4 < nL) (k : JW l R nL D wld X cl sl (pc + 2) (a0 :: a1 :: a2 :: a3 :: some (.int x) :: lv) st u) : JW l R nL D wld X cl sl pc (a0 :: a1 :: a2 :: a3 :: a4 :: lv) (.int x :: st) u := by
  obtain ⟨p, e, s, m, args, below, meth, c, A, Q⟩ := X
  obtain ⟨hx, hb, hml, hown, hts, hK, hA, hOL, hO⟩ := hS0
  intro H locs ls hP hD hS hl
  exact lv_istore hx hb d hl.has hn rfl (fun ls2 h2 => k H locs ls2 hP hD hS (hl.store rfl h2))
theorem w_ist5 (hS0 : SW cc nL own D tys O X) {a0 a1 a2 a3 a4 a5 : Option Value} {x : Int32} (d : decode cc pc = .ok (.istore 5, 2)) (hn : 5 < nL) (k : JW l R nL D wld X cl sl (pc + 2) (a0 :: a1 :: a2 :: a3 :: a4 :: some (.int x) :: lv) st u) : JW l R nL D wld X cl sl pc (a0 :: a1 :: a2 :: a3 :: a4 :: a5 :: lv) (.int x :: st) u := by
  obtain ⟨p, e, s, m, args, below, meth, c, A, Q⟩ := X
  obtain ⟨hx, hb, hml, hown, hts, hK, hA, hOL, hO⟩ := hS0
  intro H locs ls hP hD hS hl
  exact lv_istore hx hb d hl.has hn rfl (fun ls2 h2 => k H locs ls2 hP hD hS (hl.store rfl h2))
theorem w_ist6 (hS0 : SW cc nL own D tys O X) {a0 a1 a2 a3 a4 a5 a6 : Option Value} {x : Int32} (d : decode cc pc = .ok (.istore 6, 2)) (hn : 6 < nL) (k : JW l R nL D wld X cl sl (pc + 2) (a0 :: a1 :: a2 :: a3 :: a4 :: a5 :: some (.int x) :: lv) st u) : JW l R nL D wld X cl sl pc (a0 :: a1 :: a2 :: a3 :: a4 :: a5 :: a6 :: lv) (.int x :: st) u := by
  obtain ⟨p, e, s, m, args, below, meth, c, A, Q⟩ := X
  obtain ⟨hx, hb, hml, hown, hts, hK, hA, hOL, hO⟩ := hS0
  intro H locs ls hP hD hS hl
  exact lv_istore hx hb d hl.has hn rfl (fun ls2 h2 => k H locs ls2 hP hD hS (hl.store rfl h2))
theorem w_inc4 (hS0 : SW cc nL own D tys O X) {a0 a1 a2 a3 : Option Value} {x n : Int} (d : decode cc pc = .ok (.iinc 4 n, 3)) (hn : 4 < nL) (k : JW l R nL D wld X cl sl (pc + 3) (a0 :: a1 :: a2 :: a3 :: some (.int (iZ (x + n))) :: lv) st u) : JW l R nL D wld X cl sl pc (a0 :: a1 :: a2 :: a3 :: some (.int (iZ x)) :: lv) st u := by
  obtain ⟨p, e, s, m, args, below, meth, c, A, Q⟩ := X
  obtain ⟨hx, hb, hml, hown, hts, hK, hA, hOL, hO⟩ := hS0
  intro H locs ls hP hD hS hl
  obtain ⟨kk, hkk⟩ := List.getElem?_of_mem (lvP_mem (i := 4) (v := .int (iZ x)).mpr (show (a0 :: a1 :: a2 :: a3 :: some (.int (iZ x)) :: lv)[4]? = _ from rfl))
  exact lv_iinc (v := iZ (x + n)) hx hb d hl.has hkk (iZ_add x n) hn rfl (fun ls2 h2 => k H locs ls2 hP hD hS (hl.store rfl h2))
theorem w_ast1 (hS0 : SW cc nL own D tys O X) {a0 a1 : Option Value} {x : Nat} (d : decode cc pc = .ok (.astore_n 1, 1)) (hn : 1 < nL) (k : JW l R nL D wld X cl sl (pc + 1) (a0 :: some (.ref x) :: lv) st u) : JW l R nL D wld X cl sl pc (a0 :: a1 :: lv) (.ref x :: st) u := by
  obtain ⟨p, e, s, m, args, below, meth, c, A, Q⟩ := X
  obtain ⟨hx, hb, hml, hown, hts, hK, hA, hOL, hO⟩ := hS0
  intro H locs ls hP hD hS hl
  exact lv_astore_n hx hb d rfl hl.has hn rfl (fun ls2 h2 => k H locs ls2 hP hD hS (hl.store rfl h2))
theorem w_ast2 (hS0 : SW cc nL own D tys O X) {a0 a1 a2 : Option Value} {x : Nat} (d : decode cc pc = .ok (.astore_n 2, 1)) (hn : 2 < nL) (k : JW l R nL D wld X cl sl (pc + 1) (a0 :: a1 :: some (.ref x) :: lv) st u) : JW l R nL D wld X cl sl pc (a0 :: a1 :: a2 :: lv) (.ref x :: st) u := by
  obtain ⟨p, e, s, m, args, below, meth, c, A, Q⟩ := X
  obtain ⟨hx, hb, hml, hown, hts, hK, hA, hOL, hO⟩ := hS0
  intro H locs ls hP hD hS hl
  exact lv_astore_n hx hb d rfl hl.has hn rfl (fun ls2 h2 => k H locs ls2 hP hD hS (hl.store rfl h2))
theorem w_ast3 (hS0 : SW cc nL own D tys O X) {a0 a1 a2 a3 : Option Value} {x : Nat} (d : decode cc pc = .ok (.astore_n 3, 1)) (hn : 3 < nL) (k : JW l R nL D wld X cl sl (pc + 1) (a0 :: a1 :: a2 :: some (.ref x) :: lv) st u) : JW l R nL D wld X cl sl pc (a0 :: a1 :: a2 :: a3 :: lv) (.ref x :: st) u := by
  obtain ⟨p, e, s, m, args, below, meth, c, A, Q⟩ := X
  obtain ⟨hx, hb, hml, hown, hts, hK, hA, hOL, hO⟩ := hS0
  intro H locs ls hP hD hS hl
  exact lv_astore_n hx hb d rfl hl.has hn rfl (fun ls2 h2 => k H locs ls2 hP hD hS (hl.store rfl h2))
theorem w_dup (hS0 : SW cc nL own D tys O X) {v : Value} (d : decode cc pc = .ok (.dup, 1)) (hv : v.category = 1) (k : JW l R nL D wld X cl sl (pc + 1) lv (v :: v :: st) u) : JW l R nL D wld X cl sl pc lv (v :: st) u := by
  obtain ⟨p, e, s, m, args, below, meth, c, A, Q⟩ := X
  obtain ⟨hx, hb, hml, hown, hts, hK, hA, hOL, hO⟩ := hS0
  intro H locs ls hP hD hS hl
  exact lv_dup hx hb d hv (k H locs ls hP hD hS hl)
theorem w_widen {cl2 sl2 : Nat} (h1 : cl ≤ cl2) (h2 : sl ≤ sl2) (k : JW l R nL D wld X cl2 sl2 pc lv st u) : JW l R nL D wld X cl sl pc lv st u := by
  obtain ⟨p, e, s, m, args, below, meth, c, A, Q⟩ := X
  intro H locs ls hP hD hS hl
  exact W.widen h1 h2 (k H locs ls hP hD hS hl)
theorem w_i2l (hS0 : SW cc nL own D tys O X) {x : Int} (d : decode cc pc = .ok (.i2l, 1)) (k : JW l R nL D wld X cl sl (pc + 1) lv (.long (iZ x).toInt64 :: st) u) : JW l R nL D wld X cl sl pc lv (.int (iZ x) :: st) u := by
  obtain ⟨p, e, s, m, args, below, meth, c, A, Q⟩ := X
  obtain ⟨hx, hb, hml, hown, hts, hK, hA, hOL, hO⟩ := hS0
  intro H locs ls hP hD hS hl
  exact lv_i2l hx hb d rfl (k H locs ls hP hD hS hl)
theorem w_lcmpE (hS0 : SW cc nL own D tys O X) {x : Int64} (d : decode cc pc = .ok (.lcmp, 1)) (k : JW l R nL D wld X cl sl (pc + 1) lv (.int (iZ 0) :: st) u) : JW l R nL D wld X cl sl pc lv (.long x :: .long x :: st) u := by
  obtain ⟨p, e, s, m, args, below, meth, c, A, Q⟩ := X
  obtain ⟨hx, hb, hml, hown, hts, hK, hA, hOL, hO⟩ := hS0
  intro H locs ls hP hD hS hl
  refine W.lcmp hx hb d ?_
  have e0 : lg_cmp x x = iZ 0 := by
    unfold lg_cmp
    simp [iZ]
  rw [e0]
  exact k H locs ls hP hD hS hl
theorem w_sld (hS0 : SW cc nL own D tys O X) {b L : Nat} {zs : Nat → Int} (hX : SX b L zs X) {i : Int} (h0 : 0 ≤ i) (h1 : i < L) (hL : L ≤ 3072) (d : decode cc pc = .ok (.iaload, 1)) (k : JW l R nL D wld X cl sl (pc + 1) lv (.int (iZ (zs i.toNat)) :: st) u) : JW l R nL D wld X cl sl pc lv (.int (iZ i) :: .ref b :: st) u := by
  obtain ⟨p, e, s, m, args, below, meth, c, A, Q⟩ := X
  obtain ⟨hx, hb, hml, hown, hts, hK, hA, hOL, hO⟩ := hS0
  intro H locs ls hP hD hS hl
  obtain ⟨x1, x2, x3⟩ := hX
  refine va_sld hx hb x1 x2 x3 hS (iZ_in h0 h1 (by omega)) d ?_
  show W _ _ _ _ _ _ _ _ _ _ _ _ _ _ _ (F0 m (pc + 1) ls (.int (iZ (zs (iZ i).toNatClampNeg)) :: st))
  rw [iZ_clamp ⟨by omega, by omega⟩]
  exact k H locs ls hP hD hS hl
theorem w_slen (hS0 : SW cc nL own D tys O X) {b L : Nat} {zs : Nat → Int} (hX : SX b L zs X) (d : decode cc pc = .ok (.arraylength, 1)) (k : JW l R nL D wld X cl sl (pc + 1) lv (.int (iZ (L : Int)) :: st) u) : JW l R nL D wld X cl sl pc lv (.ref b :: st) u := by
  obtain ⟨p, e, s, m, args, below, meth, c, A, Q⟩ := X
  obtain ⟨hx, hb, hml, hown, hts, hK, hA, hOL, hO⟩ := hS0
  intro H locs ls hP hD hS hl
  obtain ⟨x1, x2, x3⟩ := hX
  refine va_slen hx hb x1 x2 x3 hS d ?_
  rw [show Int32.ofNat L = iZ (L : Int) from Int32.ofInt_eq_ofNat.symm]
  exact k H locs ls hP hD hS hl
theorem va_goon2 {p : Program} {e : Env} {s : State} {m : MethodId} {args : Array Value} {below : List Frame} {meth : Method} {c : Code} {H : Heap} {locs : List Loc} {Q : State → Prop} {ls : Array Slot} {rest st0 : List Value} {a : Array Value} {A0 A1 : Nat → Prop} {H0 : Heap} {free : Addr → Prop} {mc ms : Nat} {post' : Option Value → σ → Prop} (hr : va_Run p l e R s m args below meth c H locs cl sl mc ms (F0 m pc ls st0) rest (cQ D tys wld A1 post' a) free) (hS : va_S A0 H0 H locs) (hA : ∀ q, A1 q → A0 q) (hf : ∀ q, free q → A0 q)
    (kk : ∀ (v : Option Value) (u : σ) (H1 : Heap) (locs1 : List Loc), post' v u → va_P D vwCl (wld u) H1 → va_D A0 (wld u) → va_S A0 H0 H1 locs1 → W p l e R s m args below meth c H1 locs1 (cl + mc) (sl + ms) Q (F0 m (pc + 3) ls (v.toList ++ rest))) : W p l e R s m args below meth c H locs cl sl Q (F0 m pc ls st0) := by
  intro T hT X
  obtain ⟨v, st₀, t, T', L, h0, X', hL, e1, e2, ⟨⟨v2, u, hv, hp, hP, hK, hD⟩, hz, hk⟩, st⟩ := hr T hT X
  cases hv
  rw [h0] at hz hk
  obtain ⟨t2, a1, b1⟩ := kk v u T'.heap (locs ++ L) hp (by rw [e1]; exact hP) (hD.weaken (fun _ _ _ h => hA _ h))
    ⟨Nat.le_trans hS.1 (by rw [e1]; exact hz), fun q h1 h2 => by rw [e1, hk q (Nat.lt_of_lt_of_le h1 hS.1) (fun z => h2 (hA q z))]; exact hS.2.1 q h1 h2, fun q hq => by
      rcases List.mem_append.mp hq with h | h
      · exact hS.2.2 q h
      · exact hf _ (hL q h)⟩ T' rfl X'
  exact ⟨t2, st t2 a1, b1⟩
theorem w_callV (hS0 : SW cc nL own D tys O X) {q0 ci N idx kn n' : Nat} {C : String} {T : u_T} {fs : List Value} {b : Nat} {y : MethodName} {cc' : ByteArray} {rt' : Option FieldType} {rm : Room} {As st0 : List Value} {post' : Option Value → σ → Prop} (he : (wld u)[q0]? = some (b, .inr (ci, fs))) (hc : vwCl[ci]? = some (C, T, N)) (lk : LkV own idx C y cc' n' rt' kn) (hM : Ct l y cc' n' rt' rm D tys O wld (.ref b :: As) u post') (hkn : As.length = kn) (hst : st0 = As.reverse ++ .ref b :: st) (hroom : (st.map fun v => v.category).sum ≤ 8) (hrm : rOk rm R n') (hR : cl ≤ R.cells ∧ sl ≤ R.slots) (d : decode cc pc = .ok (.invokevirtual idx, 3)) (kk : ∀ (v : Option Value) (u' : σ), post' v u' → JW l R nL D wld X cl sl (pc + 3) lv (v.toList ++ st) u') : JW l R nL D wld X cl sl pc lv st0 u := by
  obtain ⟨p, e, s, m, args, below, meth, c, A, Q⟩ := X
  obtain ⟨hx, hb, hml, hown, hts, hK, hA, hOL, hO⟩ := hS0
  intro H locs ls hP hD hS hl
  have hF : ∀ q, va_A (wld u) H.size q → A q := by
    rintro q (⟨k9, e9, h9⟩ | h9)
    · exact hD.2 k9 _ h9
    · exact hA q (Nat.le_trans hS.1 h9)
  exact va_goon2 (D := D) (tys := tys) (wld := wld) (A1 := va_A (wld u) H.size) (va_runV (As := As) (rest := st) (Ts := gw) (own := own) (b := b) ⟨hx, hb, hml, hown, hts⟩ (hM H.size) (cwV kn hts (lk_good lk.1) rfl hrm.1 hrm.2.1 lk.2 hrm.2.2) ⟨ct_blind hOL _, va_recv hK hP hc he, ct_pre (p := p) (e := e) (m := m) (args := args) (below := below) hK hOL hO hP hD hS hF _⟩ rfl hkn hl.1 hst (lv_room hroom) d ⟨hR.1, hR.2⟩) hS hF hF (fun v u' H1 locs1 hp hP1 hD1 hS1 => kk v u' hp H1 locs1 ls hP1 hD1 hS1 hl)
theorem lkW_good {y : MethodName} {cc : ByteArray} {n : Nat} {hh : List (Nat × Nat × Nat × Nat)} {ws : List Cond} (h : ∀ w ∈ ws ++ [Cond.codeWith y cc n (some .int) hh], w ∈ gw) : GoodIn gw (ws ++ (Cond.codeWith y cc n (some .int) hh :: gw)) := by
  intro w hw
  rcases List.mem_append.mp hw with h1 | h1
  · exact gw_good w (h w (List.mem_append_left _ h1))
  · rcases List.mem_cons.mp h1 with h2 | h2
    · exact gw_good w (h w (by rw [h2]; exact List.mem_append_right _ List.mem_cons_self))
    · exact gw_good w h2
theorem w_callW (hS0 : SW cc nL own D tys O X) {idx kn n' : Nat} {y : MethodName} {cc' : ByteArray} {hh : List (Nat × Nat × Nat × Nat)} {rm : Room} {As st0 : List Value} {post' : Option Value → σ → Prop} (lk : LkW own idx y cc' n' hh kn) (hM : CtW l y cc' n' hh rm D tys O wld As u post') (hkn : As.length = kn) (hst : st0 = As.reverse ++ st) (hroom : (st.map fun v => v.category).sum ≤ 8) (hrm : rm.cells = 1 ∧ rm.slots = 6 ∧ rm.frames + 1 ≤ R.frames ∧ 8 + (n' + 11) + rm.locals ≤ R.locals) (hR : cl + 1 ≤ R.cells ∧ sl + 6 ≤ R.slots) (d : decode cc pc = .ok (.invokestatic idx, 3)) (kk : ∀ (v : Option Value) (u' : σ), post' v u' → JW l R nL D wld X (cl + 1) (sl + 6) (pc + 3) lv (v.toList ++ st) u') : JW l R nL D wld X cl sl pc lv st0 u := by
  obtain ⟨p, e, s, m, args, below, meth, c, A, Q⟩ := X
  obtain ⟨hx, hb, hml, hown, hts, hK, hA, hOL, hO⟩ := hS0
  intro H locs ls hP hD hS hl
  have hF : ∀ q, va_A (wld u) H.size q → A q := by
    rintro q (⟨k9, e9, h9⟩ | h9)
    · exact hD.2 k9 _ h9
    · exact hA q (Nat.le_trans hS.1 h9)
  exact va_goon2 (D := D) (tys := tys) (wld := wld) (A1 := va_A (wld u) H.size) (vx_runSW (As := As) (rest := st) (Ts := gw) (own := own) ⟨hx, hb, hml, hown, hts⟩ (hM H.size) (vx_cwSW kn hts (lkW_good lk.1) rfl hrm.1 hrm.2.1 lk.2 hrm.2.2) ⟨ct_blind hOL _, ct_pre (p := p) (e := e) (m := m) (args := args) (below := below) hK hOL hO hP hD hS hF _⟩ rfl hkn hl.1 hst (lv_room hroom) d hR) hS hF hF (fun v u' H1 locs1 hp hP1 hD1 hS1 => kk v u' hp H1 locs1 ls hP1 hD1 hS1 hl)
end WROWS
theorem w_lald {l : Launch} {R : Room} {cc : ByteArray} {nL : Nat} {own : String} {D : va_G} {cI cJ : ClassId} {adM : Nat → Nat} {bo : Nat} {O : OT} {X : CtxT} {cl sl : Nat} {pc : Nat} {lv : List (Option Value)} {st : List Value} {uC : sC} {uM : sM} {x : Int} (hS0 : SW cc nL own D [(cI, .int), (cJ, .long)] O X) (d : decode cc pc = .ok (.laload, 1)) (k : JW l R nL D (wL adM bo cI cJ) X cl sl (pc + 1) lv (.long (iZ x).toInt64 :: st) (uC, uM, x)) : JW l R nL D (wL adM bo cI cJ) X cl sl pc lv (.int (iZ 0) :: .ref bo :: st) (uC, uM, x) := by
  obtain ⟨p, e, s, m, args, below, meth, c, A, Q⟩ := X
  obtain ⟨hx, hb, hml, hown, hts, hK, hA, hOL, hO⟩ := hS0
  intro H locs ls hP hD hS hl
  exact va_lald (D := D) hx hb hK hP 55 1 (n := 1) (f := oF x) rfl rfl (iZ_in (by decide) (by decide) (by decide)) d (k H locs ls hP hD hS hl)
