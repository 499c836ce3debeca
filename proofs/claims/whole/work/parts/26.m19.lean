/-- the first place of the least -/
def amN (f : Nat → Int) : Nat → Nat
  | 0 => 0
  | k + 1 => if f k < mnN f k then k else amN f k
theorem mnN_le {f : Nat → Int} : ∀ (n k : Nat), k < n → mnN f n ≤ f k
  | 0, k, h => by omega
  | n + 1, k, h => by
    rw [mnN]
    by_cases e : k = n
    · subst e; split <;> omega
    · have := mnN_le (f := f) n k (by omega)
      split <;> omega
theorem amN_ok {f : Nat → Int} : ∀ n : Nat, 0 < n → (∀ k, k < n → f k < 1000000000) → amN f n < n ∧ f (amN f n) = mnN f n ∧ ∀ k, k < amN f n → f k ≠ mnN f n
  | 0, h, _ => by omega
  | 1, _, h => by
    have := h 0 (by omega)
    have e : amN f 1 = 0 := by rw [amN]; split <;> rfl
    rw [e]
    refine ⟨by omega, ?_, fun k hk => by omega⟩
    rw [mnN, mnN, if_pos (by omega)]
  | n + 2, _, h => by
    obtain ⟨h1, h2, h3⟩ := amN_ok (f := f) (n + 1) (by omega) (fun k hk => h k (by omega))
    have ea : amN f (n + 2) = if f (n + 1) < mnN f (n + 1) then n + 1 else amN f (n + 1) := rfl
    have em : mnN f (n + 2) = if f (n + 1) < mnN f (n + 1) then f (n + 1) else mnN f (n + 1) := rfl
    rw [ea, em]
    by_cases e : f (n + 1) < mnN f (n + 1)
    · rw [if_pos e, if_pos e]
      exact ⟨by omega, rfl, fun k hk => by have := mnN_le (f := f) (n + 1) k (by omega); omega⟩
    · rw [if_neg e, if_neg e]
      exact ⟨by omega, h2, h3⟩
/-- with which hands a song is played -/
def jsA (I : Nat → Int) (A : Nat → Int → Int) (bar : Int) : Nat → Nat
  | 0 => amN (rsA I A bar 0) (hdA I A 0 bar).length
  | i + 1 => amN (fun k => chL (I 9).toNat (hj (hdA I A i bar) (jsA I A bar i)) (hj (hdA I A ((i : Int) + 1) bar) k) + rsA I A bar ((i : Int) + 1) k) (hdA I A ((i : Int) + 1) bar).length
theorem rsA_in {I : Nat → Int} {A : Nat → Int → Int} {bar : Int} (h9 : 0 ≤ I 9 ∧ I 9 ≤ 6) (h6 : I 6 ≤ 60) (hall : allH I A bar) {i : Int} {j : Nat} (i0 : 0 ≤ i) (i1 : i < I 6) (hjl : j < (hdA I A i bar).length) : 0 ≤ rsA I A bar i j ∧ rsA I A bar i j ≤ 7000 := by
  have := rsN_in (n := (I 9).toNat) (hs := fun i => hdA I A i bar) (c := I 6) (by omega) h6 (fun i i0 i1 => ⟨hdX_ok (by omega), hall.2 i i0 i1⟩) (I 6 - 1 - i).toNat j (by omega) (by rw [show I 6 - 1 - (((I 6 - 1 - i).toNat : Nat) : Int) = i by omega]; exact hjl)
  unfold rsA
  omega
set_option maxHeartbeats 4000000 in
set_option maxRecDepth 100000 in
theorem qX11_plays {l : Launch} {D : va_G} {cI : ClassId} {ad : Nat → Nat} {O : OT} {adK adV : Nat → Nat} (hO : OG O adK adV) {I : Nat → Int} {A : Nat → Int → Int} {bar sm : Int} (hC : okC I A) (hN : okN I A) (hb : 0 ≤ bar ∧ bar ≤ 7) (hall : allH I A bar) (hsm : sm = mnN (rsA I A bar 0) (hdA I A 0 bar).length) (hr : ∀ i : Int, 0 ≤ i → i < I 6 → repH A (8 * i + bar) (I 9).toNat (hdA I A i bar) ∧ ∀ j : Nat, j < (hdA I A i bar).length → A 44 (6 * i + j) = rsA I A bar i j) : MC l D cI ad O yX11_plays cX11_plays 6 none 2 [.ref (ad 0), .int (iZ bar), .int (iZ sm)] (I, A) (pV fun u2 => ∃ P, (∀ i : Nat, (i : Int) < I 6 → P i = (jsA I A bar i : Int)) ∧ u2 = (va_up I 10 bar, va_up A 24 P)) := by
  refine ct_intro (own := RX11) (by decide) rfl hO.1 (Nat.le_of_ble_eq_true rfl) (by simp [Value.category]) (fun X J hJ => ?_)
  obtain ⟨⟨c1, c2⟩, c3⟩ := id hC
  obtain ⟨n1, n2⟩ := id hN
  have hc0 := hall.1
  have hrin : ∀ (i : Int) (j : Nat), 0 ≤ i → i < I 6 → j < (hdA I A i bar).length → 0 ≤ rsA I A bar i j ∧ rsA I A bar i j ≤ 7000 := fun i j i0 i1 h => rsA_in n1 c2 hall i0 i1 h
  have hso : ∀ i, okHS (I 9).toNat (hdA I A i bar) := fun i => hdX_ok (by omega)
  obtain ⟨fI, hfI⟩ : ∃ z : Nat → Nat → Int, z = fun i k => if i = 0 then rsA I A bar 0 k else chL (I 9).toNat (hj (hdA I A ((i - 1 : Nat) : Int) bar) (jsA I A bar (i - 1))) (hj (hdA I A (i : Int) bar) k) + rsA I A bar (i : Int) k := ⟨_, rfl⟩
  have hjs : ∀ i : Nat, jsA I A bar i = amN (fI i) (hdA I A (i : Int) bar).length := fun i => by
    cases i with
    | zero => rw [jsA, hfI]; rfl
    | succ i =>
      rw [jsA, hfI]
      simp only [Nat.add_sub_cancel, Nat.succ_ne_zero, if_false]
      rw [show ((i + 1 : Nat) : Int) = (i : Int) + 1 by omega]
  have hjl : ∀ i : Nat, (i : Int) < I 6 → (∀ k : Nat, k < (hdA I A (i : Int) bar).length → 0 ≤ fI i k ∧ fI i k ≤ 10000) ∧ jsA I A bar i < (hdA I A (i : Int) bar).length ∧ fI i (jsA I A bar i) = mnN (fI i) (hdA I A (i : Int) bar).length ∧ ∀ k, k < jsA I A bar i → fI i k ≠ mnN (fI i) (hdA I A (i : Int) bar).length := fun i => by
    induction i with
    | zero =>
      intro hi
      have h1 : ∀ k : Nat, k < (hdA I A ((0 : Nat) : Int) bar).length → 0 ≤ fI 0 k ∧ fI 0 k ≤ 10000 := fun k hk => by
        have := hrin 0 k (by omega) hc0 hk
        rw [hfI]
        simp only [if_true]
        omega
      refine ⟨h1, ?_⟩
      rw [hjs]
      exact amN_ok _ (hall.2 _ (by omega) hi) (fun k hk => by have := h1 k hk; omega)
    | succ i ih =>
      intro hi
      obtain ⟨-, hj1, -⟩ := ih (by omega)
      have h1 : ∀ k : Nat, k < (hdA I A ((i + 1 : Nat) : Int) bar).length → 0 ≤ fI (i + 1) k ∧ fI (i + 1) k ≤ 10000 := fun k hk => by
        have a1 := hrin ((i + 1 : Nat) : Int) k (by omega) hi hk
        have a2 := chL_in (n := (I 9).toNat) (by omega) (hso (i : Int)) (hso ((i + 1 : Nat) : Int)) hj1 hk
        rw [hfI]
        simp only [Nat.add_sub_cancel, Nat.succ_ne_zero, if_false]
        omega
      refine ⟨h1, ?_⟩
      rw [hjs]
      exact amN_ok _ (hall.2 _ (by omega) hi) (fun k hk => by have := h1 k hk; omega)
  have lp : ∀ (fu : Nat) (i : Nat) (due : Int) (P : Int → Int) (a5 : Option Value), (i : Int) ≤ I 6 → ((i : Int) < I 6 → due = mnN (fI i) (hdA I A (i : Int) bar).length) → (∀ i2 : Nat, i2 < i → P i2 = (jsA I A bar i2 : Int)) → I 6 - (i : Int) < (fu : Int) → J 10 [some (.ref (ad 0)), some (.int (iZ (bar))), some (.int (iZ (sm))), some (.int (iZ (due))), some (.int (iZ ((i : Int)))), a5] [] (va_up I 10 bar, va_up A 24 P) := by
    intro fu
    induction fu with
    | zero => intro i due P a5 hi hd hP hmu; exfalso; omega
    | succ fu ih0 =>
      intro i due P a5 hi hd hP hmu
      by_cases hin : (i : Int) < I 6
      · have hd := hd hin
        obtain ⟨hr1, hr2⟩ := hr i (by omega) hin
        obtain ⟨hj1, hj2, hj3, hj4⟩ := hjl i hin
        have hl6 := hr1.2.1
        have hj5 := hj1 (jsA I A bar i) hj2
        rw [hj3, ← hd] at hj5
        have l2 : ∀ (fj j : Nat), j ≤ jsA I A bar i → (jsA I A bar i : Int) - (j : Int) < (fj : Int) → J 22 [some (.ref (ad 0)), some (.int (iZ (bar))), some (.int (iZ (sm))), some (.int (iZ (due))), some (.int (iZ ((i : Int)))), some (.int (iZ ((j : Int))))] [] (va_up I 10 bar, va_up A 24 P) := by
          intro fj
          induction fj with
          | zero => intro j hjj hmj; exfalso; omega
          | succ fj ihj =>
            intro j hjj hmj
            have hv := hj1 j (by omega)
            have j67 : J 67 [some (.ref (ad 0)), some (.int (iZ (bar))), some (.int (iZ (sm))), some (.int (iZ (due))), some (.int (iZ ((i : Int)))), some (.int (iZ ((j : Int))))] [.int (iZ (fI i j))] (va_up I 10 bar, va_up A 24 P) := by
              refine v_ild3 (pc := 67) hJ dX11_plays_67 ?_
              refine v_icmp_eq (tgt := 77) (pc := 68) hJ dX11_plays_68 (by decide) (by omega) (by omega) (fun h68 => ?_) (fun h68 => ?_)
              · have ej : j = jsA I A bar i := by
                  rcases Nat.lt_or_ge j (jsA I A bar i) with q | q
                  · exact absurd (by rw [h68]; exact hd) (hj4 j q)
                  · omega
                have hr3 := hr2 j (by omega)
                have hr4 := ((hr1.2.2 j (by omega)).1).1
                have hs60 := (okHS_j (hso (i : Int)) (show j < (hdA I A (i : Int) bar).length by omega)).1
                refine v_ald0 (pc := 77) hJ dX11_plays_77 ?_
                refine mg24 (pc := 78) hJ dX11_plays_78 ?_
                refine v_ild4 (pc := 81) hJ dX11_plays_81 ?_
                refine v_ild5 (pc := 83) hJ dX11_plays_83 ?_
                refine ms24 (pc := 85) hJ (by omega) (by omega) dX11_plays_85 ?_
                refine v_ald0 (pc := 86) hJ dX11_plays_86 ?_
                refine mg44 (pc := 87) hJ dX11_plays_87 ?_
                refine v_bipush (pc := 90) hJ dX11_plays_90 (by decide) ?_
                refine v_ild4 (pc := 92) hJ dX11_plays_92 ?_
                refine v_imul (pc := 94) hJ dX11_plays_94 ?_
                refine v_ild5 (pc := 95) hJ dX11_plays_95 ?_
                refine v_iadd (pc := 97) hJ dX11_plays_97 ?_
                refine ma44 (pc := 98) hJ (by omega) (by omega) dX11_plays_98 ?_
                try simp only [up_s, up_n, up_up, ne_eq, Nat.reduceEqDiff, not_false_eq_true]
                rw [hr3]
                refine v_ald0 (pc := 99) hJ dX11_plays_99 ?_
                refine mg40 (pc := 100) hJ dX11_plays_100 ?_
                refine v_bipush (pc := 103) hJ dX11_plays_103 (by decide) ?_
                refine v_bipush (pc := 105) hJ dX11_plays_105 (by decide) ?_
                refine v_ild4 (pc := 107) hJ dX11_plays_107 ?_
                refine v_imul (pc := 109) hJ dX11_plays_109 ?_
                refine v_ild1 (pc := 110) hJ dX11_plays_110 ?_
                refine v_iadd (pc := 111) hJ dX11_plays_111 ?_
                refine v_imul (pc := 112) hJ dX11_plays_112 ?_
                refine v_ild5 (pc := 113) hJ dX11_plays_113 ?_
                refine v_iadd (pc := 115) hJ dX11_plays_115 ?_
                refine ma40 (pc := 116) hJ (by omega) (by omega) dX11_plays_116 ?_
                try simp only [up_s, up_n, up_up, ne_eq, Nat.reduceEqDiff, not_false_eq_true]
                rw [hr4, show ((hdA I A (i : Int) bar).getD j (0, [])).1 = sj (hdA I A (i : Int) bar) j from rfl]
                refine v_isub (pc := 117) hJ dX11_plays_117 ?_
                refine v_ist3 (pc := 118) hJ dX11_plays_118 (by decide) ?_
                refine v_inc4 (pc := 119) hJ dX11_plays_119 (by decide) ?_
                refine v_goto (tgt := 10) (pc := 122) hJ dX11_plays_122 (by decide) ?_
                try simp only [up_s, up_n, up_up, ne_eq, Nat.reduceEqDiff, not_false_eq_true]
                refine ih0 (i + 1) _ (zu P (i : Int) (j : Int)) _ (by omega) (fun hi2 => ?_) (fun i2 h2 => ?_) (by omega)
                · rw [rsA_step (by omega) (by omega), hfI]
                  simp only [Nat.add_sub_cancel, Nat.succ_ne_zero, if_false]
                  rw [show ((i + 1 : Nat) : Int) = (i : Int) + 1 by omega, ← ej]
                  omega
                · by_cases e2 : i2 = i
                  · rw [e2, zu_same, ej]
                  · rw [zu_ne (by omega)]; exact hP i2 (by omega)
              · refine v_inc5 (pc := 71) hJ dX11_plays_71 (by decide) ?_
                refine v_goto (tgt := 22) (pc := 74) hJ dX11_plays_74 (by decide) ?_
                exact ihj (j + 1) (by
                  rcases Nat.lt_or_ge j (jsA I A bar i) with q | q
                  · omega
                  · have ej : j = jsA I A bar i := by omega
                    rw [ej, hj3] at h68
                    omega) (by omega)
            have hrj := hr2 j (by omega)
            by_cases hi0 : i = 0
            · subst hi0
              refine v_ald0 (pc := 22) hJ dX11_plays_22 ?_
              refine mg44 (pc := 23) hJ dX11_plays_23 ?_
              refine v_bipush (pc := 26) hJ dX11_plays_26 (by decide) ?_
              refine v_ild4 (pc := 28) hJ dX11_plays_28 ?_
              refine v_imul (pc := 30) hJ dX11_plays_30 ?_
              refine v_ild5 (pc := 31) hJ dX11_plays_31 ?_
              refine v_iadd (pc := 33) hJ dX11_plays_33 ?_
              refine ma44 (pc := 34) hJ (by omega) (by omega) dX11_plays_34 ?_
              try simp only [up_s, up_n, up_up, ne_eq, Nat.reduceEqDiff, not_false_eq_true]
              rw [hrj]
              refine v_ild4 (pc := 35) hJ dX11_plays_35 ?_
              refine v_if_ne (tgt := 44) (pc := 37) hJ dX11_plays_37 (by decide) (by omega) (fun h37 => ?_) (fun h37 => ?_)
              · exact absurd rfl h37
              · refine v_iconst (pc := 40) hJ dX11_plays_40 ?_
                refine v_goto (tgt := 66) (pc := 41) hJ dX11_plays_41 (by decide) ?_
                refine v_iadd (pc := 66) hJ dX11_plays_66 ?_
                have ef : fI 0 j = rsA I A bar ((0 : Nat) : Int) j + 0 := by rw [hfI]; simp only [if_true]; rw [Int.add_zero]; rfl
                rw [ef] at j67
                exact j67
            · obtain ⟨ip, hip⟩ : ∃ ip, i = ip + 1 := ⟨i - 1, by omega⟩
              refine v_ald0 (pc := 22) hJ dX11_plays_22 ?_
              refine mg44 (pc := 23) hJ dX11_plays_23 ?_
              refine v_bipush (pc := 26) hJ dX11_plays_26 (by decide) ?_
              refine v_ild4 (pc := 28) hJ dX11_plays_28 ?_
              refine v_imul (pc := 30) hJ dX11_plays_30 ?_
              refine v_ild5 (pc := 31) hJ dX11_plays_31 ?_
              refine v_iadd (pc := 33) hJ dX11_plays_33 ?_
              refine ma44 (pc := 34) hJ (by omega) (by omega) dX11_plays_34 ?_
              try simp only [up_s, up_n, up_up, ne_eq, Nat.reduceEqDiff, not_false_eq_true]
              rw [hrj]
              refine v_ild4 (pc := 35) hJ dX11_plays_35 ?_
              refine v_if_ne (tgt := 44) (pc := 37) hJ dX11_plays_37 (by decide) (by omega) (fun h37 => ?_) (fun h37 => ?_)
              · refine v_ald0 (pc := 44) hJ dX11_plays_44 ?_
                refine v_ild4 (pc := 45) hJ dX11_plays_45 ?_
                refine v_iconst (pc := 47) hJ dX11_plays_47 ?_
                refine v_isub (pc := 48) hJ dX11_plays_48 ?_
                refine v_ald0 (pc := 49) hJ dX11_plays_49 ?_
                refine mg24 (pc := 50) hJ dX11_plays_50 ?_
                refine v_ild4 (pc := 53) hJ dX11_plays_53 ?_
                refine v_iconst (pc := 55) hJ dX11_plays_55 ?_
                refine v_isub (pc := 56) hJ dX11_plays_56 ?_
                refine ma24 (pc := 57) hJ (by omega) (by omega) dX11_plays_57 ?_
                try simp only [up_s, up_n, up_up, ne_eq, Nat.reduceEqDiff, not_false_eq_true]
                rw [show (i : Int) - 1 = (ip : Int) by omega, hP ip (by omega)]
                refine v_ild4 (pc := 58) hJ dX11_plays_58 ?_
                refine v_ild5 (pc := 60) hJ dX11_plays_60 ?_
                refine v_ild1 (pc := 62) hJ dX11_plays_62 ?_
                refine v_cV5i (pc := 63) (q0 := 0) (ci := 8) hJ rfl rfl lkX11_286 (changeW (n := (I 9).toNat) (H1 := hdA I A (ip : Int) bar) (H2 := hdA I A (i : Int) bar) hO (by simp only [up_s, up_n, up_up, ne_eq, Nat.reduceEqDiff, not_false_eq_true]; omega) (by omega) (by omega) (by omega) hb (by unfold repH; simp only [up_s, up_n, up_up, ne_eq, Nat.reduceEqDiff, not_false_eq_true]; exact (hr (ip : Int) (by omega) (by omega)).1) (by unfold repH; simp only [up_s, up_n, up_up, ne_eq, Nat.reduceEqDiff, not_false_eq_true]; exact hr1) (hso _) (hso _) (hjl ip (by omega)).2.1 (by omega)) (Nat.le_of_ble_eq_true rfl) (rOk_L (by decide) (by decide)) dX11_plays_63 (fun r63 u63 g63 => ?_)
                obtain ⟨rfl, rfl⟩ := g63
                try simp only [up_s, up_n, up_up, ne_eq, Nat.reduceEqDiff, not_false_eq_true]
                refine v_iadd (pc := 66) hJ dX11_plays_66 ?_
                have ef : fI i j = rsA I A bar (i : Int) j + chL (I 9).toNat (hj (hdA I A (ip : Int) bar) (jsA I A bar ip)) (hj (hdA I A (i : Int) bar) j) := by
                  rw [hfI]
                  simp only [if_neg hi0]
                  rw [show i - 1 = ip by omega]
                  omega
                rw [ef] at j67
                exact j67
              · omega
        refine v_ild4 (pc := 10) hJ dX11_plays_10 ?_
        refine v_ald0 (pc := 12) hJ dX11_plays_12 ?_
        refine mg6 (pc := 13) hJ dX11_plays_13 ?_
        try simp only [up_s, up_n, up_up, ne_eq, Nat.reduceEqDiff, not_false_eq_true]
        refine v_icmp_ge (tgt := 125) (pc := 16) hJ dX11_plays_16 (by decide) (by omega) (by omega) (fun h16 => ?_) (fun h16 => ?_)
        · omega
        · refine v_iconst (pc := 19) hJ dX11_plays_19 ?_
          refine v_ist5 (pc := 20) hJ dX11_plays_20 (by decide) ?_
          exact l2 7 0 (by omega) (by omega)
      · skip
        refine v_ild4 (pc := 10) hJ dX11_plays_10 ?_
        refine v_ald0 (pc := 12) hJ dX11_plays_12 ?_
        refine mg6 (pc := 13) hJ dX11_plays_13 ?_
        try simp only [up_s, up_n, up_up, ne_eq, Nat.reduceEqDiff, not_false_eq_true]
        refine v_icmp_ge (tgt := 125) (pc := 16) hJ dX11_plays_16 (by decide) (by omega) (by omega) (fun h16 => ?_) (fun h16 => ?_)
        · refine v_vret (pc := 125) hJ dX11_plays_125 ⟨rfl, ?_⟩
          exact ⟨P, fun i2 h2 => hP i2 (by omega), rfl⟩
        · omega
  show J 0 [some (.ref (ad 0)), some (.int (iZ bar)), some (.int (iZ sm)), none, none, none] [] (I, A)
  refine v_ald0 (pc := 0) hJ dX11_plays_0 ?_
  refine v_ild1 (pc := 1) hJ dX11_plays_1 ?_
  refine mp10 (pc := 2) hJ dX11_plays_2 ?_
  refine v_ild2 (pc := 5) hJ dX11_plays_5 ?_
  refine v_ist3 (pc := 6) hJ dX11_plays_6 (by decide) ?_
  refine v_iconst (pc := 7) hJ dX11_plays_7 ?_
  refine v_ist4 (pc := 8) hJ dX11_plays_8 (by decide) ?_
  rw [← up_id A 24]
  refine lp 61 0 sm (A 24) none (by omega) (fun _ => ?_) (fun i2 h => absurd h (Nat.not_lt_zero _)) (by omega)
  rw [hsm, hfI]
  rfl
