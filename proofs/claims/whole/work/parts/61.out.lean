/-- what lies outside the law's world -/
def OO (adK adV : Nat → Nat) (tT : Nat) (cI cJ : ClassId) : OT := fun A U H => (vk_S 15 lenS bytS adK adV A U H ∧ (∀ q ∈ strT, vk_R q.1 q.2.1 q.2.2.1 (adK q.2.2.2) U) ∧ va_Z "java/lang/String" "COMPACT_STRINGS" "Z" (.int (iZ 1)) A U H ∧ va_Zq "jdk/internal/util/Preconditions" "SIOOBE_FORMATTER" "Ljava/util/function/BiFunction;" A U H) ∧ (va_Z "ChordMover$Kinds" "TONES" "[I" (.ref tT) A U H ∧ va_T .int tT 14 (fun j => .int (iZ (kT (j : Int)))) A U H) ∧ (vx_Zq Bundle.tN "UNASSIGNED_STACK" Bundle.steD A U H ∧ vx_Zq Bundle.tN "SUPPRESSED_SENTINEL" Bundle.listD A U H ∧ (∀ q ∈ xTxt, ∃ a, vk_R RX10 q.1 q.2 a U) ∧ ∀ w ∈ xFace, va_Nw w U) ∧ va_Nc "java/lang/IllegalArgumentException" "java/util/NoSuchElementException" U ∧ (U.vm.findClass "[I" = some cI ∧ U.vm.findClass "[J" = some cJ) ∧ ∀ q ∈ nestT, va_Nw (.methodLinkNest "ChordMover" q.1 ⟨q.2, "<init>", "()V"⟩ "ChordMover") U
theorem xFace_w {w : Cond} (hw : w ∈ xFace) {s U : State} (hW : s.WarmedH U.vm) (h : va_Nw w s) : va_Nw w U := by
  rcases (show w = _ ∨ w = _ ∨ w = _ ∨ w = _ ∨ w = _ by simpa [xFace] using hw) with rfl | rfl | rfl | rfl | rfl
  · exact va_Nw.warmC hW h
  · exact va_Nw.warmC hW h
  · exact va_Nw.warmD hW h
  · exact va_Nw.warmD hW h
  · exact va_Nw.warmD hW h
theorem OO_law {adK adV : Nat → Nat} {tT : Nat} {cI cJ : ClassId} : OL (OO adK adV tT cI cJ) := by
  refine ⟨fun A B U H h hAB => ?_, fun A U H H1 h hq => ?_, fun A s U H hW h => ?_⟩
  · obtain ⟨⟨a1, a2, a3, a4⟩, ⟨b1, b2⟩, ⟨c1, c2, c3, c4⟩, d⟩ := h
    exact ⟨⟨a1.narrow hAB, a2, a3.narrow hAB, a4.narrow hAB⟩, ⟨b1.narrow hAB, b2.narrow hAB⟩, ⟨c1.narrow hAB, c2.narrow hAB, c3, c4⟩, d⟩
  · obtain ⟨⟨a1, a2, a3, a4⟩, ⟨b1, b2⟩, ⟨c1, c2, c3, c4⟩, d⟩ := h
    exact ⟨⟨a1.kept hq, a2, a3.kept hq, a4.kept hq⟩, ⟨b1.kept hq, b2.kept hq⟩, ⟨c1.kept hq, c2.kept hq, c3, c4⟩, d⟩
  · obtain ⟨⟨a1, a2, a3, a4⟩, ⟨b1, b2⟩, ⟨c1, c2, c3, c4⟩, d, ⟨f1, f2⟩, g⟩ := h
    have hv := hW.alike
    exact ⟨⟨a1.moved hv, fun q hq => (a2 q hq).warm hW, a3.moved hv, a4.moved hv⟩, ⟨b1.moved hv, b2.moved hv⟩, ⟨c1.moved hv, c2.moved hv, fun q hq => by obtain ⟨a, ha⟩ := c3 q hq; exact ⟨a, ha.warm hW⟩, fun w hw => xFace_w hw hW (c4 w hw)⟩, d.moved hv, ⟨by rw [hv.findClass]; exact f1, by rw [hv.findClass]; exact f2⟩, fun q hq => va_Nw.warmM hW (g q hq)⟩
theorem OO_G {adK adV : Nat → Nat} {tT : Nat} {cI cJ : ClassId} : OGC (OO adK adV tT cI cJ) adK adV tT := ⟨⟨OO_law, fun A U H h => h.1⟩, fun A U H h => h.2.1⟩
theorem OO_T {adK adV : Nat → Nat} {tT : Nat} {cI cJ : ClassId} : OGT (OO adK adV tT cI cJ) := fun A U H h => h.2.2.1
theorem OO_N {adK adV : Nat → Nat} {tT : Nat} {cI cJ : ClassId} : OGN (OO adK adV tT cI cJ) := fun A U H h => h.2.2.2.1
theorem OO_I {adK adV : Nat → Nat} {tT : Nat} {cI cJ : ClassId} : OGI (OO adK adV tT cI cJ) cI := fun A U H h => h.2.2.2.2.1.1
theorem OO_J {adK adV : Nat → Nat} {tT : Nat} {cI cJ : ClassId} : ∀ (A : Nat → Prop) (U : State) (H : Heap), OO adK adV tT cI cJ A U H → U.vm.findClass "[J" = some cJ := fun A U H h => h.2.2.2.2.1.2
theorem OO_L {adK adV : Nat → Nat} {tT : Nat} {cI cJ : ClassId} : OGL (OO adK adV tT cI cJ) := fun A U H h => h.2.2.2.2.2
/-! the String constants, by their contents -/
def tmS (i : Nat) : Term := [Term.string "ChordMover$Kinds" 33, Term.string "ChordMover$Kinds" 7, Term.string "ChordMover$Kinds" 9, Term.string "ChordMover$Kinds" 11, Term.string "ChordMover$Kinds" 13, Term.string "ChordMover$Kinds" 15, Term.string "ChordMover$Kinds" 17, Term.string "ChordMover$Kinds" 19, Term.string "ChordMover$Kinds" 21, Term.string "ChordMover$Kinds" 23, Term.string "ChordMover$Kinds" 25, Term.string "ChordMover$Kinds" 27, Term.string "ChordMover$Kinds" 29, Term.string "ChordMover$Kinds" 31, Term.string "ChordMover$Notes" 15].getD i (Term.int 0)
abbrev tmV (i : Nat) : Term := .field (tmS i) "java/lang/String" "value" "[B"
abbrev gvC : Cond := Jvm.Cond.and given_1 narrow_1
theorem gs_ex : ∀ i, i < 15 → Cond.exactly (tmS i) "java/lang/String" ∈ flatC gvC := by decide +kernel
theorem gs_co : ∀ i, i < 15 → Cond.eq (.field (tmS i) "java/lang/String" "coder" "B") (.int 0) ∈ flatC gvC := by decide +kernel
theorem gs_ar : ∀ i, i < 15 → Cond.arrayOf (tmV i) .byte ∈ flatC gvC := by decide +kernel
theorem gs_le : ∀ i, i < 15 → Cond.eq (.length (tmV i)) (.int (Int32.ofNat (lenS.getD i 0))) ∈ flatC gvC := by decide +kernel
theorem gs_el : ∀ i, i < 15 → ∀ j, j < lenS.getD i 0 → Cond.eq (.elem (tmV i) (.int (Int32.ofNat j))) (.int ((bytS.getD i []).getD j 0)) ∈ flatC gvC := by decide +kernel
theorem gs_ne : ∀ i, i < 15 → ∀ j, j < 15 → lenS.getD i 0 = lenS.getD j 0 → (∀ k, k < lenS.getD i 0 → (bytS.getD i []).getD k 0 = (bytS.getD j []).getD k 0) → i = j := by decide +kernel
theorem gs_sm : ∀ i, i < 15 → lenS.getD i 0 < 8 := by decide +kernel
theorem gs_tx : ∀ q ∈ strT, Cond.stringRef q.1 q.2.1 q.2.2.1 ∈ tables_1 := by decide +kernel
theorem gs_eq : ∀ q ∈ strT, q.2.2.2 < 15 ∧ (Term.string q.1 q.2.1 = tmS q.2.2.2 ∨ (Cond.eq (tmS q.2.2.2) (Term.string q.1 q.2.1) ∈ flatC gvC ∧ Cond.exactly (Term.string q.1 q.2.1) "java/lang/String" ∈ flatC gvC)) := by decide +kernel
theorem gs_x1 : ∀ q ∈ xTxt, Cond.stringRef RX10 q.1 q.2 ∈ tables_1 := by decide +kernel
theorem gs_x2 : ∀ q ∈ xTxt, Cond.exactly (Term.string RX10 q.1) "java/lang/String" ∈ flatC gvC := by decide +kernel
theorem gs_xf : ∀ w ∈ xFace, w ∈ tables_1 := by decide +kernel
theorem gs_nl : ∀ q ∈ nestT, Cond.methodLinkNest "ChordMover" q.1 ⟨q.2, "<init>", "()V"⟩ "ChordMover" ∈ tables_1 := by decide +kernel
theorem gs_to : ∀ j, j < 14 → Cond.eq (.elem (.static "ChordMover$Kinds" "TONES" "[I") (.int (Int32.ofNat j))) (.int (iZ (kT (j : Int)))) ∈ flatC gvC := by decide +kernel
theorem eqR {args : Array Value} {s : State} {t u : Term} {a b : Nat} (h : (Cond.eq t u).before args s = true) (ht : t.eval args s none [] s = some (.ref a)) (hu : u.eval args s none [] s = some (.ref b)) : a = b := by
  simp [Cond.before, Cond.holds, Cond.value, ht, hu] at h
  exact h
theorem neR {args : Array Value} {s : State} {t u : Term} {a b : Nat} (h : a ≠ b) (ht : t.eval args s none [] s = some (.ref a)) (hu : u.eval args s none [] s = some (.ref b)) : (Cond.not (.eq t u)).before args s = true := by
  simp [Cond.before, Cond.holds, Cond.value, ht, hu]
  exact h
set_option maxHeartbeats 4000000 in
theorem OO_at {b : Nat} {s : State} (hts : ∀ w ∈ lw_tbl, w.before #[Value.ref b] s = true) (hgv : gvC.before #[Value.ref b] s = true) {A : Nat → Prop} (hA : ∀ a : Nat, a < s.heap.size → ¬ A a) : ∃ (adK adV : Nat → Nat) (tT : Nat) (cI cJ : ClassId), OO adK adV tT cI cJ A s s.heap ∧ (ArrOfT s cI .int ∧ va_RA s cI .int) ∧ ArrOfT s cJ .long ∧ va_RA s cJ .long := by
  have hs := flat_of_before _ hgv
  have ht1 : ∀ w ∈ tables_1, w.before #[Value.ref b] s = true := fun w hw => hts w (List.mem_append_right _ hw)
  have hT : ∀ i, i < 15 → ∃ t : Nat, (tmV i).eval #[Value.ref b] s none [] s = some (.ref t) ∧ va_T .byte t (lenS.getD i 0) (fun j => .int ((bytS.getD i []).getD j 0)) A s s.heap := fun i hi => va_Tof (Nat.lt_trans (gs_sm i hi) (by decide)) (hs _ (gs_ar i hi)) (va_eqt (hs _ (gs_le i hi))) (fun j hj => va_eqt (hs _ (gs_el i hi j hj))) hA
  have hE : ∀ t : Term, Cond.exactly t "java/lang/String" ∈ flatC gvC → ∃ a : Nat, t.eval #[Value.ref b] s none [] s = some (.ref a) := fun t h => by
    obtain ⟨a, c, cA, kA, q1, -⟩ := Cond.exactly_spec (args := #[Value.ref b]) (first := s) (o := none) (s := s) (idx := []) (t := t) (cls := "java/lang/String") (hs _ h)
    exact ⟨a, q1⟩
  obtain ⟨adK, adV, hS, hev⟩ := vk_Sof (args := #[Value.ref b]) (s := s) (N := 15) (tm := tmS) (len := lenS) (byt := bytS) (A := A) (fun i hi => Nat.lt_trans (gs_sm i hi) (by decide)) (fun i hi => hs _ (gs_ex i hi)) (fun i hi => hs _ (gs_co i hi)) (fun i hi => hs _ (gs_ar i hi)) (fun i hi => hs _ (gs_le i hi)) (fun i hi j hj => hs _ (gs_el i hi j hj)) (fun i j hi hj hij => by
    obtain ⟨a1, e1⟩ := hE _ (gs_ex i hi)
    obtain ⟨a2, e2⟩ := hE _ (gs_ex j hj)
    refine Or.inl (neR (fun e => hij ?_) e1 e2)
    subst e
    obtain ⟨t1, f1, cell1, g1, -, -, g2, g3, g4, -⟩ := hT i hi
    obtain ⟨t2, f2, cell2, k1, -, -, k2, k3, k4, -⟩ := hT j hj
    rw [va_fe e1] at f1
    rw [va_fe e2] at f2
    cases f1.symm.trans f2
    cases g1.symm.trans k1
    have hl : lenS.getD i 0 = lenS.getD j 0 := by
      have h1 := gs_sm i hi
      have h2 := gs_sm j hj
      have h3 : Int32.ofNat (lenS.getD i 0) = Int32.ofNat (lenS.getD j 0) := g3.symm.trans k3
      have h4 := congrArg Int32.toNatClampNeg h3
      rw [Int32.toNatClampNeg_ofNat_of_lt (by omega), Int32.toNatClampNeg_ofNat_of_lt (by omega)] at h4
      exact h4
    exact gs_ne i hi j hj hl (fun k hk => by
      have h5 := (g4 k hk).symm.trans (k4 k (by omega))
      exact Value.int.inj (Option.some.inj h5))) hA
  obtain ⟨tT, hto, hTT⟩ := va_Tof (args := #[Value.ref b]) (s := s) (tm := .static "ChordMover$Kinds" "TONES" "[I") (ty := .int) (N := 14) (f := fun j => .int (iZ (kT (j : Int)))) (A := A) (by decide) (hs _ (by decide +kernel)) (va_eqt (hs (Cond.eq (.length (.static "ChordMover$Kinds" "TONES" "[I")) (.int (Int32.ofNat 14))) (by decide +kernel))) (fun j hj => va_eqt (hs _ (gs_to j hj))) hA
  obtain ⟨cI, kI, compI, i1, i2, i3⟩ := Cond.arrayClass_spec (type := .int) (hts _ (List.mem_of_getElem? (i := 105) (by decide +kernel)))
  obtain ⟨cJ, kJ, compJ, j1, j2, j3⟩ := Cond.arrayClass_spec (type := .long) (hts _ (List.mem_of_getElem? (i := 1251) (by decide +kernel)))
  refine ⟨adK, adV, tT, cI, cJ, ⟨⟨hS, fun q hq => ?_, ?_, ?_⟩, ⟨?_, hTT⟩, ⟨?_, ?_, fun q hq => ?_, fun w hw => va_Nw.of (xFace_ot w hw) (ht1 w (gs_xf w hw))⟩, va_Nc.of (hs (Cond.not (.castable "java/lang/IllegalArgumentException" "java/util/NoSuchElementException")) (by decide +kernel)), ⟨i1, j1⟩, fun q hq => va_Nw.of rfl (ht1 _ (gs_nl q hq))⟩, ⟨fun n z => ⟨fun k h => (by cases h), kI, i2, compI, i3⟩, i1⟩, fun n z => ⟨fun k h => (by cases h), kJ, j2, compJ, j3⟩, j1⟩
  · obtain ⟨h1, h2⟩ := gs_eq q hq
    refine vk_R.of (ht1 _ (gs_tx q hq)) ?_
    rcases h2 with h2 | ⟨h2, h3⟩
    · rw [h2]; exact hev _ h1
    · obtain ⟨a, ha⟩ := hE _ h3
      rw [ha, eqR (hs _ h2) (hev _ h1) ha]
  · exact va_Zof (hts _ (List.mem_of_getElem? (i := 375) (by decide +kernel))) (hts _ (List.mem_of_getElem? (i := 63) (by decide +kernel))) (va_eqt (hs (Cond.eq (.static "java/lang/String" "COMPACT_STRINGS" "Z") (.int (iZ 1))) (by decide +kernel))) hA
  · exact va_Zqof (hts _ (List.mem_of_getElem? (i := 383) (by decide +kernel))) (hts _ (List.mem_of_getElem? (i := 66) (by decide +kernel))) (hs _ (by decide +kernel)) hA
  · exact va_Zof (hts _ (List.mem_of_getElem? (i := 488) (by decide +kernel))) (hts _ (List.mem_of_getElem? (i := 68) (by decide +kernel))) hto hA
  · exact vx_Zqof (hts _ (List.mem_of_getElem? (i := 613) (by decide +kernel))) (hts _ (List.mem_of_getElem? (i := 57) (by decide +kernel))) (hs _ (by decide +kernel)) hA
  · exact vx_Zqof (hts _ (List.mem_of_getElem? (i := 615) (by decide +kernel))) (hts _ (List.mem_of_getElem? (i := 57) (by decide +kernel))) (hs _ (by decide +kernel)) hA
  · obtain ⟨a, ha⟩ := hE _ (gs_x2 q hq)
    exact ⟨a, vk_R.of (ht1 _ (gs_x1 q hq)) ha⟩
