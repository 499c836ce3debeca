def R_law : String := "ChordMoverLaw"
def lw_P (b : Addr) (xs : List Int32) (args : Array Value) (s : State) : Prop := args = #[.ref b] ∧ s.IntsAt b xs ∧ xs.length ≤ 3072 ∧ (Jvm.Cond.and given_1 narrow_1).before args s = true
def lw_Q (_ : Array Value) (s : State) (o : Outcome) (t : State) : Prop := o = .returned (some (.int 1)) ∧ Framed s o t [] 601024 7293034
def lw_Z (below : List Frame) (a : Array Value) (s : State) : State → Prop := fun t => ∃ o, t.status = .running ∧ Ended t below o ∧ lw_Q a s o t
/-- the law's own end, with 1 on the stack, nothing written that was there before, its room as the claim has it -/
theorem lw_ret {p : Program} {l : Launch} {e : Env} {s : State} {m : MethodId} {below : List Frame} {meth : Method} {c : Code} {b : Nat} (hx : p.tables.exec = Jvm.exec) (hb : c.code = code) (hr : meth.sig.returnType = ret) (hlocks : meth.locks = false) {pc : Nat} {H : Heap} {ls : Array Slot} (hdg : decode code pc = .ok (.ireturn, 1)) : W p l e room_1 s m #[Value.ref b] below meth c H [] 601024 7293034 (lw_Z below #[Value.ref b] s) (F0 m pc ls [.int 1]) := by
  intro T hT X
  obtain ⟨fs, hret, hrun, hended, hW, hframe⟩ := X.leave (v := some (.int 1)) (hlocks := hlocks) (fun h => by rw [hr] at h; cases h)
  have hmeth' : T.vm.method? m = some meth := X.method'
  refine ⟨T.setFrames fs, ?_, .returned (some (.int 1)), hrun, hended, rfl, ⟨_, rfl⟩, hW, hframe⟩
  jvm_step X.here [X.here.top, hx, hb, hdg, hmeth', hr, ret, narrow_b1]
  (try refine ⟨rfl, ?_⟩); (try refine ⟨rfl, ?_⟩)
  first | (intro acts; rw [hret _ acts rfl rfl rfl]) | rw [hret _ _ rfl rfl rfl]
  exact Steps.refl _
/-- what holds at the law's entry: the machine, the code, the tables' words (any of lw_tbl by 'hts w (by decide +kernel)'), the script of L ints xs at the cell b, what the Statement gives of the start (any of its parts by flat_of_before) -/
def lw_At (p : Program) (s : State) (m : MethodId) (meth : Method) (c : Code) (b L : Nat) (xs : Nat → Int32) : Prop :=
  p.tables.exec = Jvm.exec ∧ c.code = code ∧ meth.sig.returnType = ret ∧ c.maxLocals = 7 ∧ s.vm.findClass R_law = some m.cls ∧ (∀ w ∈ lw_tbl, w.before #[Value.ref b] s = true) ∧ va_X b L xs s s.heap ∧ b < s.heap.size ∧ meth.locks = false ∧ (Jvm.Cond.and given_1 narrow_1).before #[Value.ref b] s = true
set_option maxHeartbeats 8000000 in
theorem whole_start {p : Program} {e : Env} {s : State} {m : MethodId} {below : List Frame} {meth : Method} {c : Code} (l : Launch) (hst : l.stackTraces = false) {b L : Nat} {xs : Nat → Int32} (hL : L ≤ 3072) (C0 : lw_At p s m meth c b L xs) : W p l e room_1 s m #[Value.ref b] below meth c s.heap [] 0 0 (lw_Z below #[Value.ref b] s) (entryFrame m ([Value.ref b] : List Value).toArray 7) := by
  obtain ⟨hx, hb, hr, hml, hown, hts, hX, hbl, hlocks, hgv⟩ := id C0
  obtain ⟨c0, iS0, hKn0⟩ := u_known (C := RX0) (T := TX0) (N := 9) (n := 9) hts (fun w hw => gw_in (inX0g w hw)) (hts (.instantiable RX0 9) (List.mem_of_getElem? (i := 180) (by decide +kernel)))
  obtain ⟨c1, iS1, hKn1⟩ := u_known (C := RX2) (T := TX2) (N := 2) (n := 2) hts (fun w hw => gw_in (inX2g w hw)) (hts (.instantiable RX2 2) (List.mem_of_getElem? (i := 218) (by decide +kernel)))
  obtain ⟨c2, iS2, hKn2⟩ := u_known (C := RX5) (T := TX5) (N := 2) (n := 2) hts (fun w hw => gw_in (inX5g w hw)) (hts (.instantiable RX5 2) (List.mem_of_getElem? (i := 154) (by decide +kernel)))
  obtain ⟨c3, iS3, hKn3⟩ := u_known (C := RX6) (T := TX6) (N := 5) (n := 5) hts (fun w hw => gw_in (inX6g w hw)) (hts (.instantiable RX6 5) (List.mem_of_getElem? (i := 238) (by decide +kernel)))
  obtain ⟨c4, iS4, hKn4⟩ := u_known (C := RX7) (T := TX7) (N := 5) (n := 5) hts (fun w hw => gw_in (inX7g w hw)) (hts (.instantiable RX7 5) (List.mem_of_getElem? (i := 82) (by decide +kernel)))
  obtain ⟨c5, iS5, hKn5⟩ := u_known (C := RX8) (T := TX8) (N := 8) (n := 8) hts (fun w hw => gw_in (inX8g w hw)) (hts (.instantiable RX8 8) (List.mem_of_getElem? (i := 107) (by decide +kernel)))
  obtain ⟨c6, iS6, hKn6⟩ := u_known (C := RX9) (T := TX9) (N := 1) (n := 1) hts (fun w hw => gw_in (inX9g w hw)) (hts (.instantiable RX9 1) (List.mem_of_getElem? (i := 170) (by decide +kernel)))
  obtain ⟨c7, iS7, hKn7⟩ := u_known (C := RX10) (T := TX10) (N := 13) (n := 13) hts (fun w hw => gw_in (inX10g w hw)) (hts (.instantiable RX10 13) (List.mem_of_getElem? (i := 74) (by decide +kernel)))
  obtain ⟨c8, iS8, hKn8⟩ := u_known (C := RX11) (T := TX11) (N := 45) (n := 45) hts (fun w hw => gw_in (inX11g w hw)) (hts (.instantiable RX11 45) (List.mem_of_getElem? (i := 896) (by decide +kernel)))
  obtain ⟨dC, dI, hKc⟩ : ∃ (dC : Nat → ClassId) (dI : Nat → Nat → Nat), ∀ (k : Nat) (q : vw_C), vwCl[k]? = some q → u_Kn s q.1 q.2.1 q.2.2 (dC k) (dI k) := by
    refine ⟨fun k => if k = 0 then c0 else if k = 1 then c1 else if k = 2 then c2 else if k = 3 then c3 else if k = 4 then c4 else if k = 5 then c5 else if k = 6 then c6 else if k = 7 then c7 else c8, fun k => if k = 0 then iS0 else if k = 1 then iS1 else if k = 2 then iS2 else if k = 3 then iS3 else if k = 4 then iS4 else if k = 5 then iS5 else if k = 6 then iS6 else if k = 7 then iS7 else iS8, ?_⟩
    intro k q hq
    match k, hq with
    | 0, hq => cases hq; exact hKn0
    | 1, hq => cases hq; exact hKn1
    | 2, hq => cases hq; exact hKn2
    | 3, hq => cases hq; exact hKn3
    | 4, hq => cases hq; exact hKn4
    | 5, hq => cases hq; exact hKn5
    | 6, hq => cases hq; exact hKn6
    | 7, hq => cases hq; exact hKn7
    | 8, hq => cases hq; exact hKn8
    | k + 9, hq => simp [vwCl] at hq
  obtain ⟨adK, adV, tT, cI, cJ, hOO, hI1, hJ1⟩ := OO_at (A := fun q : Nat => s.heap.size ≤ q) hts hgv (fun a ha => Nat.not_le.mpr ha)
  have hK : va_K (dC, dI) vwCl (tyL cI cJ) s := ⟨hKc, fun k q h => by
    match k, h with
    | 0, h => cases h; exact hI1
    | 1, h => cases h; exact hJ1
    | k + 2, h => simp at h⟩
  obtain ⟨X, hXe⟩ : ∃ X : CtxT, X = (p, e, s, m, #[Value.ref b], below, meth, c, (fun q : Nat => s.heap.size ≤ q), lw_Z below #[Value.ref b] s) := ⟨_, rfl⟩
  have hS0 : SW code 7 RL (dC, dI) (tyL cI cJ) (OO adK adV tT cI cJ) X := by
    rw [hXe]
    exact ⟨hx, hb, hml, hown, fun w hw => hts w (gw_in hw), hK, fun _ h => h, OO_law, hOO⟩
  have hSX : SX b L (fun j => (xs j).toInt) X := by
    rw [hXe]
    refine ⟨?_, hbl, Nat.not_le.mpr hbl⟩
    rw [show (fun j => iZ ((xs j).toInt)) = xs from funext fun j => iZ_of _]
    exact hX
  have hLK : LK l (dC, dI) cI cJ (OO adK adV tT cI cJ) adK adV tT X b L (fun j => (xs j).toInt) := ⟨hS0, hSX, hL, fun j => ⟨Int32.le_toInt _, Int32.toInt_lt _⟩, OO_G, OO_T, OO_N, hst⟩
  have hend : ∀ (adM : Nat → Nat) (bo : Nat) (cl sl : Nat) (lv : List (Option Value)) (u : sL), cl ≤ 601024 → sl ≤ 7293034 → JW l room_1 7 (dC, dI) (wL adM bo cI cJ) X cl sl 1016 lv [] u := fun adM bo cl sl lv u h1 h2 => by
    refine w_iconst hS0 dL_law_1016 ?_
    rw [hXe]
    intro H locs ls hP hD hS hl
    rw [show iZ 1 = 1 from by decide]
    exact W.widen h1 h2 (va_forget (fun q hq => hS.2.2 q hq) (lw_ret hx hb hr hlocks dL_law_1017))
  have htI : ∀ q ∈ [(cI, FieldType.int)], q ∈ tyL cI cJ := fun q hq => by rw [List.mem_singleton.mp hq]; exact List.mem_cons_self
  have start : JW l room_1 7 (dC, dI) idW X 0 0 0 [some (.ref b), none, none, none, none, none, none] [] [] := by
    refine w_newo (pc := 0) (C := RX10) (T := TX10) (N := 13) (ci := 7) (fs := [.null, .int (iZ 0), .null, .null, .null, .int (iZ 0), .int (iZ 0), .int (iZ 0), .null, .null, .null, .null, .null]) (ty := tyX10) hS0 inX10g tyX10_ok (gw_of (List.mem_of_getElem? (i := 73) (by decide +kernel)) (by decide +kernel)) (gw_of (List.mem_of_getElem? (i := 74) (by decide +kernel)) (by decide +kernel)) (gw_of (List.mem_of_getElem? (i := 47) (by decide +kernel)) (by decide +kernel)) rfl (fun j hj => by rcases (show j = 0 ∨ j = 1 ∨ j = 2 ∨ j = 3 ∨ j = 4 ∨ j = 5 ∨ j = 6 ∨ j = 7 ∨ j = 8 ∨ j = 9 ∨ j = 10 ∨ j = 11 ∨ j = 12 by omega) with rfl | rfl | rfl | rfl | rfl | rfl | rfl | rfl | rfl | rfl | rfl | rfl | rfl <;> rfl) ⟨Nat.le_of_ble_eq_true rfl, Nat.le_of_ble_eq_true rfl⟩ dL_law_0 (fun q1 => ?_)
    show JW l _ 7 (dC, dI) idW X 1 13 3 [some (.ref b), none, none, none, none, none, none] [.ref q1] [(q1, .inr (7, [.null, .int (iZ 0), .null, .null, .null, .int (iZ 0), .int (iZ 0), .int (iZ 0), .null, .null, .null, .null, .null]))]
    refine w_dup (pc := 3) hS0 dL_law_3 rfl ?_
    refine w_callI (pc := 4) (ws := []) (st := [.ref q1]) hS0 htI (mX10 OO_law OO_I OO_L (h := q1)) (hcode1 (gw_of (List.mem_of_getElem? (i := 77) (by decide +kernel)) (by decide +kernel))) (gw_of (List.mem_of_getElem? (i := 47) (by decide +kernel)) (by decide +kernel)) (gw_of (List.mem_of_getElem? (i := 75) (by decide +kernel)) (by decide +kernel)) (gw_of (List.mem_of_getElem? (i := 76) (by decide +kernel)) (by decide +kernel)) rfl ⟨by decide, by decide, by decide +kernel⟩ (Nat.le_of_ble_eq_true rfl) ⟨rfl, rfl, Nat.le_of_ble_eq_true rfl, Nat.le_of_ble_eq_true rfl⟩ ⟨Nat.le_of_ble_eq_true rfl, Nat.le_of_ble_eq_true rfl⟩ dL_law_4 (fun w1 hw1 => ?_)
    obtain ⟨ad, F, rfl, h19, h3, h4, hF⟩ := hw1
    show JW l _ 7 (dC, dI) idW X 31 12351 7 [some (.ref b), none, none, none, none, none, none] [.ref q1] (wC cI (ad, I0, A0 F))
    refine w_ast1 (pc := 7) hS0 dL_law_7 (by decide) ?_
    refine w_newo (pc := 8) (C := RX11) (T := TX11) (N := 45) (ci := 8) (fs := [.int (iZ 0), .null, .int (iZ 0), .int (iZ 0), .int (iZ 0), .int (iZ 0), .int (iZ 0), .int (iZ 0), .int (iZ 0), .int (iZ 0), .int (iZ 0), .null, .null, .null, .null, .null, .null, .null, .null, .null, .null, .int (iZ 0), .int (iZ 0), .null, .null, .null, .int (iZ 0), .int (iZ 0), .int (iZ 0), .int (iZ 0), .int (iZ 0), .int (iZ 0), .null, .int (iZ 0), .null, .null, .int (iZ 0), .int (iZ 0), .null, .null, .null, .null, .null, .null, .null]) (ty := tyX11) hS0 inX11g tyX11_ok (gw_of (List.mem_of_getElem? (i := 895) (by decide +kernel)) (by decide +kernel)) (gw_of (List.mem_of_getElem? (i := 896) (by decide +kernel)) (by decide +kernel)) (gw_of (List.mem_of_getElem? (i := 56) (by decide +kernel)) (by decide +kernel)) rfl (fun j hj => by rcases (show j = 0 ∨ j = 1 ∨ j = 2 ∨ j = 3 ∨ j = 4 ∨ j = 5 ∨ j = 6 ∨ j = 7 ∨ j = 8 ∨ j = 9 ∨ j = 10 ∨ j = 11 ∨ j = 12 ∨ j = 13 ∨ j = 14 ∨ j = 15 ∨ j = 16 ∨ j = 17 ∨ j = 18 ∨ j = 19 ∨ j = 20 ∨ j = 21 ∨ j = 22 ∨ j = 23 ∨ j = 24 ∨ j = 25 ∨ j = 26 ∨ j = 27 ∨ j = 28 ∨ j = 29 ∨ j = 30 ∨ j = 31 ∨ j = 32 ∨ j = 33 ∨ j = 34 ∨ j = 35 ∨ j = 36 ∨ j = 37 ∨ j = 38 ∨ j = 39 ∨ j = 40 ∨ j = 41 ∨ j = 42 ∨ j = 43 ∨ j = 44 by omega) with rfl | rfl | rfl | rfl | rfl | rfl | rfl | rfl | rfl | rfl | rfl | rfl | rfl | rfl | rfl | rfl | rfl | rfl | rfl | rfl | rfl | rfl | rfl | rfl | rfl | rfl | rfl | rfl | rfl | rfl | rfl | rfl | rfl | rfl | rfl | rfl | rfl | rfl | rfl | rfl | rfl | rfl | rfl | rfl | rfl <;> rfl) ⟨Nat.le_of_ble_eq_true rfl, Nat.le_of_ble_eq_true rfl⟩ dL_law_8 (fun q2 => ?_)
    show JW l _ 7 (dC, dI) idW X 32 12396 11 [some (.ref b), some (.ref q1), none, none, none, none, none] [.ref q2] (wC cI (ad, I0, A0 F) ++ [(q2, .inr (8, [.int (iZ 0), .null, .int (iZ 0), .int (iZ 0), .int (iZ 0), .int (iZ 0), .int (iZ 0), .int (iZ 0), .int (iZ 0), .int (iZ 0), .int (iZ 0), .null, .null, .null, .null, .null, .null, .null, .null, .null, .null, .int (iZ 0), .int (iZ 0), .null, .null, .null, .int (iZ 0), .int (iZ 0), .int (iZ 0), .int (iZ 0), .int (iZ 0), .int (iZ 0), .null, .int (iZ 0), .null, .null, .int (iZ 0), .int (iZ 0), .null, .null, .null, .null, .null, .null, .null]))])
    refine w_dup (pc := 11) hS0 dL_law_11 rfl ?_
    refine w_callI (pc := 12) (ws := wC cI (ad, I0, A0 F)) (st := [.ref q2]) hS0 htI (mX11 OO_law OO_I (h := q2)) (hcode1 (gw_of (List.mem_of_getElem? (i := 899) (by decide +kernel)) (by decide +kernel))) (gw_of (List.mem_of_getElem? (i := 56) (by decide +kernel)) (by decide +kernel)) (gw_of (List.mem_of_getElem? (i := 897) (by decide +kernel)) (by decide +kernel)) (gw_of (List.mem_of_getElem? (i := 898) (by decide +kernel)) (by decide +kernel)) rfl ⟨by decide, by decide, by decide +kernel⟩ (Nat.le_of_ble_eq_true rfl) ⟨rfl, rfl, Nat.le_of_ble_eq_true rfl, Nat.le_of_ble_eq_true rfl⟩ ⟨Nat.le_of_ble_eq_true rfl, Nat.le_of_ble_eq_true rfl⟩ dL_law_12 (fun w1 hw1 => ?_)
    obtain ⟨adM, rfl, h0M⟩ := hw1
    show JW l _ 7 (dC, dI) idW X 56 49586 15 [some (.ref b), some (.ref q1), none, none, none, none, none] [.ref q2] (wC cI (ad, I0, A0 F) ++ wM adM cI (J0, B0))
    refine w_ast2 (pc := 15) hS0 dL_law_15 (by decide) ?_
    refine w_iconst (pc := 16) hS0 dL_law_16 ?_
    refine w_newl (pc := 17) hS0 OO_J (gw_of (List.mem_of_getElem? (i := 1251) (by decide +kernel)) (by decide +kernel)) ⟨Nat.le_of_ble_eq_true rfl, Nat.le_of_ble_eq_true rfl⟩ dL_law_17 (fun bo => ?_)
    rw [List.append_assoc]
    show JW l _ 7 (dC, dI) idW X 57 49587 19 [some (.ref b), some (.ref q1), some (.ref q2), none, none, none, none] [.ref bo] (wL adM bo cI cJ ((ad, I0, A0 F), (J0, B0), 0))
    refine w_ast3 (pc := 19) hS0 dL_law_19 (by decide) ?_
    refine w_iconst (pc := 20) hS0 dL_law_20 ?_
    refine w_ist4 (pc := 21) hS0 dL_law_21 (by decide) ?_
    subst h0M
    have key := law_loop (adM := adM) (bo := bo) (h := q1) hLK (hend adM bo) 3072 57 49587 0 none none (ad, I0, A0 F) (J0, B0) 0 (by decide) (by decide) (by omega) (by decide) (by decide) (Rel_first ⟨h3, h4⟩) h19
    rw [hXe] at key ⊢
    exact key
  rw [lg_entry_eq]
  rw [hXe] at start
  exact start s.heap [] _ (fun k q h => by simp at h) ⟨fun i j p q h => by simp at h, fun k q h => by simp at h⟩ va_S.rf (lv_start [.ref b] 7 (Nat.le_of_ble_eq_true rfl) (by simp [Value.category]))
