theorem emR {P X Y : Prop} {r : Int} (g : (P → r = 1 ∧ X) ∧ (¬ P → r = 0 ∧ Y)) : inR r := by
  rcases Classical.em P with q | q
  · have := (g.1 q).1; omega
  · have := (g.2 q).1; omega
theorem emT {P X Y : Prop} {r : Int} (g : (P → r = 1 ∧ X) ∧ (¬ P → r = 0 ∧ Y)) (h : r ≠ 0) : P ∧ r = 1 ∧ X := by
  rcases Classical.em P with q | q
  · exact ⟨q, g.1 q⟩
  · exact absurd (g.2 q).1 h
theorem emF {P X Y : Prop} {r : Int} (g : (P → r = 1 ∧ X) ∧ (¬ P → r = 0 ∧ Y)) (h : r = 0) : ¬ P ∧ r = 0 ∧ Y := by
  rcases Classical.em P with q | q
  · have := (g.1 q).1; omega
  · exact ⟨q, g.2 q⟩
theorem zu_zu (f : Int → Int) (i v w : Int) : zu (zu f i v) i w = zu f i w := by
  funext j
  unfold zu
  split <;> rfl
noncomputable def kdAt (f : Int → Int) (p : Int) : Nat := kbN f p 14
/-- a NAME's end: what was read, and the place behind it; or the place of the fault -/
def closeAt (f : Int → Int) (p r k b : Int) : Int ⊕ (Int × Int × Int × Int) := if f p = 93 then .inr (r, k, b, p + 1) else .inl p
def tailAt (f : Int → Int) (p r k : Int) : Int ⊕ (Int × Int × Int × Int) := if f p = 47 then (if isN (f (p + 1)) then closeAt f (p + 1 + 1 + ncnt f (p + 1)) r k (nval f (p + 1)) else .inl (p + 1)) else closeAt f p r k r
noncomputable def chordAt (f : Int → Int) (p : Int) : Int ⊕ (Int × Int × Int × Int) := if isN (f p) then tailAt f (p + 1 + ncnt f p + ((txS (kdAt f (p + 1 + ncnt f p))).length : Int)) (nval f p) (kdAt f (p + 1 + ncnt f p)) else .inl p
def namedP (I : Nat → Int) (A : Nat → Int → Int) (res : Int ⊕ (Int × Int × Int × Int)) (r : Int) (u : sM) : Prop :=
  (∀ k, k ≠ 3 → k ≠ 4 → k ≠ 27 → k ≠ 29 → u.1 k = I k) ∧ (∀ k, k ≠ 15 → k ≠ 16 → k ≠ 17 → u.2 k = A k) ∧ match res with
  | .inl p => r = 0 ∧ u.1 3 = 1 ∧ u.1 4 = p
  | .inr (ro, kd, ba, p) => r = 1 ∧ u.1 27 = p ∧ u.1 3 = I 3 ∧ u.1 4 = I 4 ∧ u.2 15 = zu (A 15) (I 30) ro ∧ u.2 16 = zu (A 16) (I 30) kd ∧ u.2 17 = zu (A 17) (I 30) ba
set_option maxHeartbeats 4000000 in
set_option maxRecDepth 100000 in
theorem qX11_named {l : Launch} {D : va_G} {cI : ClassId} {ad : Nat → Nat} {O : OT} {adK adV : Nat → Nat} (hO : OG O adK adV) {I : Nat → Int} {A : Nat → Int → Int}  (h28 : 0 ≤ I 28 ∧ I 28 ≤ 1200) (h27 : 0 ≤ I 27 ∧ I 27 ≤ 1210) (hT : ∀ j, 0 ≤ j → j < I 28 → 0 ≤ A 1 j ∧ A 1 j ≤ 255) (h30 : 0 ≤ I 30 ∧ I 30 < 60) : MC l D cI ad O yX11_named cX11_named 3 (some .boolean) 6 [.ref (ad 0)] (I, A) (pI fun r u2 => namedP I A (chordAt (bA (A 1) (I 28)) (I 27)) r u2) := by
  refine ct_intro (own := RX11) (by decide) rfl hO.1 (Nat.le_of_ble_eq_true rfl) (by simp [Value.category]) (fun X J hJ => ?_)
  obtain ⟨f, hf⟩ : ∃ f, f = bA (A 1) (I 28) := ⟨_, rfl⟩
  have hfk : ∀ k, (if k < I 28 then A 1 k else 0) = f k := fun k => by rw [hf]; rfl
  have hfi : ∀ k, 0 ≤ k → 0 ≤ f k ∧ f k ≤ 255 := fun k hk => by rw [hf]; exact bA_in hT hk
  rw [← hf] at hJ
  have hB : ∀ {I1 : Nat → Int} {A1 : Nat → Int → Int} {k : Int}, (0 ≤ k ∧ k < 2000) → I1 28 = I 28 → A1 1 = A 1 → MC l D cI ad O yX11_byteAt cX11_byteAt 2 (some .int) 1 [.ref (ad 0), .int (iZ k)] (I1, A1) (pI fun r u2 => r = f k ∧ u2 = (I1, A1)) := fun {I1 A1 k} hk he ha => by
    have := qX11_byteAt (l := l) (D := D) (cI := cI) (ad := ad) hO (I := I1) (A := A1) hk (by rw [he]; exact h28)
    rw [he, ha, hfk] at this
    exact this
  have hNo : ∀ {I1 : Nat → Int} {A1 : Nat → Int → Int}, (0 ≤ I1 27 ∧ I1 27 ≤ 1250) → I1 28 = I 28 → A1 1 = A 1 → MC l D cI ad O yX11_noted cX11_noted 4 (some .boolean) 2 [.ref (ad 0)] (I1, A1) (pI fun r u2 => (isN (f (I1 27)) → r = 1 ∧ u2 = (va_up (va_up I1 29 (nval f (I1 27))) 27 (I1 27 + 1 + ncnt f (I1 27)), A1)) ∧ (¬ isN (f (I1 27)) → r = 0 ∧ u2 = (va_up (va_up I1 3 1) 4 (I1 27), A1))) := fun {I1 A1} hk he ha => by
    have := qX11_noted (l := l) (D := D) (cI := cI) (ad := ad) hO (I := I1) (A := A1) (by rw [he]; exact h28) hk (by rw [he, ha]; exact hT)
    rw [he, ha, ← hf] at this
    exact this
  have hHe : ∀ {I1 : Nat → Int} {A1 : Nat → Int → Int} {i : Nat}, i < 15 → (0 ≤ I1 27 ∧ I1 27 ≤ 1300) → I1 28 = I 28 → A1 1 = A 1 → MC l D cI ad O yX11_isHere cX11_isHere 4 (some .boolean) 5 [.ref (ad 0), .ref (adK i)] (I1, A1) (pI fun r u2 => (r = 0 ∨ r = 1) ∧ (r = 1 ↔ hereP f (I1 27) (txS i) (txS i).length) ∧ u2 = (I1, A1)) := fun {I1 A1 i} hi hk he ha => by
    have := qX11_isHere (l := l) (D := D) (cI := cI) (ad := ad) hO (I := I1) (A := A1) hi (by rw [he]; exact h28) hk (by rw [he, ha]; exact hT)
    rw [he, ha, ← hf] at this
    exact this
  have hn1 := ncnt_in f (I 27)
  have hv1 := nval_in f (I 27)
  obtain ⟨p1, hp1⟩ : ∃ z, z = I 27 + 1 + ncnt f (I 27) := ⟨_, rfl⟩
  have lp : ∀ (n : Nat) (kn : Nat), (kn ≤ 14) → (isN (f (I 27))) → (14 - (kn : Int)) < (n : Int) → J 39 [some (.ref (ad 0)), some (.int (iZ ((kbN f p1 kn : Nat) : Int))), some (.int (iZ (kn : Int)))] [] (va_up (va_up I 29 (nval f (I 27))) 27 p1, va_up (va_up A 15 (zu (A 15) (I 30) (nval f (I 27)))) 17 (zu (A 17) (I 30) (nval f (I 27)))) := by
    intro n
    induction n with
    | zero => intro kn hkn hN hmu; exfalso; omega
    | succ n ih =>
      intro kn hkn hN hmu
      have hkb := kbN_lt f p1 kn hkn
      have hlk := lenS_ok (kbN f p1 kn) (by omega)
      have hlk2 := lenS_ok (kn) (by omega)
      refine v_ild2 (pc := 39) hJ dX11_named_39 ?_
      refine v_bipush (pc := 40) hJ dX11_named_40 (by decide) ?_
      refine v_icmp_ge (tgt := 81) (pc := 42) hJ dX11_named_42 (by decide) (by omega) (by omega) (fun h42 => ?_) (fun h42 => ?_)
      · have ek : kn = 14 := by omega
        subst ek
        refine v_ald0 (pc := 81) hJ dX11_named_81 ?_
        refine mg16 (pc := 82) hJ dX11_named_82 ?_
        refine v_ald0 (pc := 85) hJ dX11_named_85 ?_
        refine mg30 (pc := 86) hJ dX11_named_86 ?_
        try simp only [up_s, up_n, up_up, ne_eq, Nat.reduceEqDiff, not_false_eq_true]
        refine v_ild1 (pc := 89) hJ dX11_named_89 ?_
        refine ms16 (pc := 90) hJ (by omega) (by omega) dX11_named_90 ?_
        refine v_ald0 (pc := 91) hJ dX11_named_91 ?_
        refine v_dup (pc := 92) hJ dX11_named_92 rfl ?_
        refine mg27 (pc := 93) hJ dX11_named_93 ?_
        try simp only [up_s, up_n, up_up, ne_eq, Nat.reduceEqDiff, not_false_eq_true]
        refine v_ild1 (pc := 96) hJ dX11_named_96 ?_
        refine v_cS1r (pc := 97) hJ lkX11_173 (qX11_kindOf hO (by omega)) (Nat.le_of_ble_eq_true rfl) (rOk_L (by decide) (by decide)) dX11_named_97 (fun r97 u97 g97 => ?_)
        obtain ⟨rfl, rfl⟩ := g97
        try simp only [up_s, up_n, up_up, ne_eq, Nat.reduceEqDiff, not_false_eq_true]
        refine v_cT0i (pc := 100) hJ hO (by omega) lkX11_156 (qJ0_length_8abf5 hO (by omega)) (Nat.le_of_ble_eq_true rfl) (rOk_L (by decide) (by decide)) dX11_named_100 (fun r100 u100 g100 => ?_)
        obtain ⟨rfl, rfl⟩ := g100
        try simp only [up_s, up_n, up_up, ne_eq, Nat.reduceEqDiff, not_false_eq_true]
        refine v_iadd (pc := 103) hJ dX11_named_103 ?_
        refine mp27 (pc := 104) hJ dX11_named_104 ?_
        refine v_ald0 (pc := 107) hJ dX11_named_107 ?_
        refine v_ald0 (pc := 108) hJ dX11_named_108 ?_
        refine mg27 (pc := 109) hJ dX11_named_109 ?_
        try simp only [up_s, up_n, up_up, ne_eq, Nat.reduceEqDiff, not_false_eq_true]
        refine v_cV1i (pc := 112) (q0 := 0) (ci := 8) hJ rfl rfl lkX11_143 (hB (by (try simp only [up_s, up_n, up_up, ne_eq, Nat.reduceEqDiff, not_false_eq_true]); omega) (by first | rfl | simp only [up_s, up_n, up_up, ne_eq, Nat.reduceEqDiff, not_false_eq_true]) (by first | rfl | simp only [up_s, up_n, up_up, ne_eq, Nat.reduceEqDiff, not_false_eq_true])) (Nat.le_of_ble_eq_true rfl) (rOk_L (by decide) (by decide)) dX11_named_112 (fun r112 u112 g112 => ?_)
        obtain ⟨rfl, rfl⟩ := g112
        try simp only [up_s, up_n, up_up, ne_eq, Nat.reduceEqDiff, not_false_eq_true]
        refine v_bipush (pc := 115) hJ dX11_named_115 (by decide) ?_
        have hb2 := hfi (p1 + ((txS (kbN f p1 14)).length : Int)) (by omega)
        refine v_icmp_ne (tgt := 152) (pc := 117) hJ dX11_named_117 (by decide) (by omega) (by omega) (fun h117 => ?_) (fun h117 => ?_)
        · refine v_ald0 (pc := 152) hJ dX11_named_152 ?_
          refine v_ald0 (pc := 153) hJ dX11_named_153 ?_
          refine mg27 (pc := 154) hJ dX11_named_154 ?_
          try simp only [up_s, up_n, up_up, ne_eq, Nat.reduceEqDiff, not_false_eq_true]
          refine v_cV1i (pc := 157) (q0 := 0) (ci := 8) hJ rfl rfl lkX11_143 (hB (by (try simp only [up_s, up_n, up_up, ne_eq, Nat.reduceEqDiff, not_false_eq_true]); omega) (by first | rfl | simp only [up_s, up_n, up_up, ne_eq, Nat.reduceEqDiff, not_false_eq_true]) (by first | rfl | simp only [up_s, up_n, up_up, ne_eq, Nat.reduceEqDiff, not_false_eq_true])) (Nat.le_of_ble_eq_true rfl) (rOk_L (by decide) (by decide)) dX11_named_157 (fun r157 u157 g157 => ?_)
          obtain ⟨rfl, rfl⟩ := g157
          try simp only [up_s, up_n, up_up, ne_eq, Nat.reduceEqDiff, not_false_eq_true]
          refine v_bipush (pc := 160) hJ dX11_named_160 (by decide) ?_
          refine v_icmp_eq (tgt := 175) (pc := 162) hJ dX11_named_162 (by decide) (by omega) (by omega) (fun h162 => ?_) (fun h162 => ?_)
          · refine v_ald0 (pc := 175) hJ dX11_named_175 ?_
            refine v_dup (pc := 176) hJ dX11_named_176 rfl ?_
            refine mg27 (pc := 177) hJ dX11_named_177 ?_
            try simp only [up_s, up_n, up_up, ne_eq, Nat.reduceEqDiff, not_false_eq_true]
            refine v_iconst (pc := 180) hJ dX11_named_180 ?_
            refine v_iadd (pc := 181) hJ dX11_named_181 ?_
            refine mp27 (pc := 182) hJ dX11_named_182 ?_
            refine v_iconst (pc := 185) hJ dX11_named_185 ?_
            refine v_zret (pc := 186) hJ rfl dX11_named_186 ⟨_, rfl, ?_⟩
            rw [show chordAt f (I 27) = .inr (nval f (I 27), ((kbN f p1 14 : Nat) : Int), nval f (I 27), (p1 + ((txS (kbN f p1 14)).length : Int)) + 1) by
              unfold chordAt
              rw [if_pos hN, ← hp1]
              unfold tailAt
              rw [show kdAt f p1 = kbN f p1 14 from rfl, if_neg h117]
              unfold closeAt
              rw [if_pos h162]]
            refine ⟨fun k h1 h2 h3 h4 => by simp [up_n, h1, h2, h3, h4], fun k h1 h2 h3 => by simp [up_n, h1, h2, h3], ?_⟩
            refine ⟨rfl, ?_, ?_, ?_, ?_, ?_, ?_⟩ <;> simp only [up_s, up_n, up_up, ne_eq, Nat.reduceEqDiff, not_false_eq_true, zu_zu]
          · refine v_ald0 (pc := 165) hJ dX11_named_165 ?_
            refine v_iconst (pc := 166) hJ dX11_named_166 ?_
            refine v_ald0 (pc := 167) hJ dX11_named_167 ?_
            refine mg27 (pc := 168) hJ dX11_named_168 ?_
            try simp only [up_s, up_n, up_up, ne_eq, Nat.reduceEqDiff, not_false_eq_true]
            refine v_cV2i (pc := 171) (q0 := 0) (ci := 8) hJ rfl rfl lkX11_146 (qX11_wrong hO) (Nat.le_of_ble_eq_true rfl) (rOk_L (by decide) (by decide)) dX11_named_171 (fun r171 u171 g171 => ?_)
            obtain ⟨rfl, rfl⟩ := g171
            try simp only [up_s, up_n, up_up, ne_eq, Nat.reduceEqDiff, not_false_eq_true]
            refine v_zret (pc := 174) hJ rfl dX11_named_174 ⟨_, rfl, ?_⟩
            rw [show chordAt f (I 27) = .inl (p1 + ((txS (kbN f p1 14)).length : Int)) by
              unfold chordAt
              rw [if_pos hN, ← hp1]
              unfold tailAt
              rw [show kdAt f p1 = kbN f p1 14 from rfl, if_neg h117]
              unfold closeAt
              rw [if_neg h162]]
            refine ⟨fun k h1 h2 h3 h4 => by simp [up_n, h1, h2, h3, h4], fun k h1 h2 h3 => by simp [up_n, h1, h2, h3], ?_⟩
            exact ⟨rfl, by simp only [up_s, up_n, up_up, ne_eq, Nat.reduceEqDiff, not_false_eq_true], by simp only [up_s, up_n, up_up, ne_eq, Nat.reduceEqDiff, not_false_eq_true]⟩
        · refine v_ald0 (pc := 120) hJ dX11_named_120 ?_
          refine v_dup (pc := 121) hJ dX11_named_121 rfl ?_
          refine mg27 (pc := 122) hJ dX11_named_122 ?_
          try simp only [up_s, up_n, up_up, ne_eq, Nat.reduceEqDiff, not_false_eq_true]
          refine v_iconst (pc := 125) hJ dX11_named_125 ?_
          refine v_iadd (pc := 126) hJ dX11_named_126 ?_
          refine mp27 (pc := 127) hJ dX11_named_127 ?_
          refine v_ald0 (pc := 130) hJ dX11_named_130 ?_
          refine v_cV0i (pc := 131) (q0 := 0) (ci := 8) hJ rfl rfl lkX11_166 (hNo (by (try simp only [up_s, up_n, up_up, ne_eq, Nat.reduceEqDiff, not_false_eq_true]); omega) (by first | rfl | simp only [up_s, up_n, up_up, ne_eq, Nat.reduceEqDiff, not_false_eq_true]) (by first | rfl | simp only [up_s, up_n, up_up, ne_eq, Nat.reduceEqDiff, not_false_eq_true])) (Nat.le_of_ble_eq_true rfl) (rOk_L (by decide) (by decide)) dX11_named_131 (fun r131 u131 g131 => ?_)
          skip
          try simp only [up_s, up_n, up_up, ne_eq, Nat.reduceEqDiff, not_false_eq_true]
          refine v_if_ne (tgt := 139) (pc := 134) hJ dX11_named_134 (by decide) (emR g131) (fun h134 => ?_) (fun h134 => ?_)
          · obtain ⟨hN2, rfl, rfl⟩ := emT g131 h134
            simp only [up_s, up_n, up_up, ne_eq, Nat.reduceEqDiff, not_false_eq_true] at hN2
            try simp only [up_s, up_n, up_up, ne_eq, Nat.reduceEqDiff, not_false_eq_true]
            have hn2 := ncnt_in f (p1 + ((txS (kbN f p1 14)).length : Int) + 1)
            have hb4 := hfi (p1 + ((txS (kbN f p1 14)).length : Int) + 1 + 1 + ncnt f (p1 + ((txS (kbN f p1 14)).length : Int) + 1)) (by omega)
            refine v_ald0 (pc := 139) hJ dX11_named_139 ?_
            refine mg17 (pc := 140) hJ dX11_named_140 ?_
            refine v_ald0 (pc := 143) hJ dX11_named_143 ?_
            refine mg30 (pc := 144) hJ dX11_named_144 ?_
            try simp only [up_s, up_n, up_up, ne_eq, Nat.reduceEqDiff, not_false_eq_true]
            refine v_ald0 (pc := 147) hJ dX11_named_147 ?_
            refine mg29 (pc := 148) hJ dX11_named_148 ?_
            try simp only [up_s, up_n, up_up, ne_eq, Nat.reduceEqDiff, not_false_eq_true]
            refine ms17 (pc := 151) hJ (by omega) (by omega) dX11_named_151 ?_
            refine v_ald0 (pc := 152) hJ dX11_named_152 ?_
            refine v_ald0 (pc := 153) hJ dX11_named_153 ?_
            refine mg27 (pc := 154) hJ dX11_named_154 ?_
            try simp only [up_s, up_n, up_up, ne_eq, Nat.reduceEqDiff, not_false_eq_true]
            refine v_cV1i (pc := 157) (q0 := 0) (ci := 8) hJ rfl rfl lkX11_143 (hB (by (try simp only [up_s, up_n, up_up, ne_eq, Nat.reduceEqDiff, not_false_eq_true]); omega) (by first | rfl | simp only [up_s, up_n, up_up, ne_eq, Nat.reduceEqDiff, not_false_eq_true]) (by first | rfl | simp only [up_s, up_n, up_up, ne_eq, Nat.reduceEqDiff, not_false_eq_true])) (Nat.le_of_ble_eq_true rfl) (rOk_L (by decide) (by decide)) dX11_named_157 (fun r157 u157 g157 => ?_)
            obtain ⟨rfl, rfl⟩ := g157
            try simp only [up_s, up_n, up_up, ne_eq, Nat.reduceEqDiff, not_false_eq_true]
            refine v_bipush (pc := 160) hJ dX11_named_160 (by decide) ?_
            refine v_icmp_eq (tgt := 175) (pc := 162) hJ dX11_named_162 (by decide) (by omega) (by omega) (fun h162 => ?_) (fun h162 => ?_)
            · refine v_ald0 (pc := 175) hJ dX11_named_175 ?_
              refine v_dup (pc := 176) hJ dX11_named_176 rfl ?_
              refine mg27 (pc := 177) hJ dX11_named_177 ?_
              try simp only [up_s, up_n, up_up, ne_eq, Nat.reduceEqDiff, not_false_eq_true]
              refine v_iconst (pc := 180) hJ dX11_named_180 ?_
              refine v_iadd (pc := 181) hJ dX11_named_181 ?_
              refine mp27 (pc := 182) hJ dX11_named_182 ?_
              refine v_iconst (pc := 185) hJ dX11_named_185 ?_
              refine v_zret (pc := 186) hJ rfl dX11_named_186 ⟨_, rfl, ?_⟩
              rw [show chordAt f (I 27) = .inr (nval f (I 27), ((kbN f p1 14 : Nat) : Int), nval f ((p1 + ((txS (kbN f p1 14)).length : Int)) + 1), ((p1 + ((txS (kbN f p1 14)).length : Int)) + 1 + 1 + ncnt f ((p1 + ((txS (kbN f p1 14)).length : Int)) + 1)) + 1) by
                unfold chordAt
                rw [if_pos hN, ← hp1]
                unfold tailAt
                rw [show kdAt f p1 = kbN f p1 14 from rfl, if_pos h117, if_pos hN2]
                unfold closeAt
                rw [if_pos h162]]
              refine ⟨fun k h1 h2 h3 h4 => by simp [up_n, h1, h2, h3, h4], fun k h1 h2 h3 => by simp [up_n, h1, h2, h3], ?_⟩
              refine ⟨rfl, ?_, ?_, ?_, ?_, ?_, ?_⟩ <;> simp only [up_s, up_n, up_up, ne_eq, Nat.reduceEqDiff, not_false_eq_true, zu_zu]
            · refine v_ald0 (pc := 165) hJ dX11_named_165 ?_
              refine v_iconst (pc := 166) hJ dX11_named_166 ?_
              refine v_ald0 (pc := 167) hJ dX11_named_167 ?_
              refine mg27 (pc := 168) hJ dX11_named_168 ?_
              try simp only [up_s, up_n, up_up, ne_eq, Nat.reduceEqDiff, not_false_eq_true]
              refine v_cV2i (pc := 171) (q0 := 0) (ci := 8) hJ rfl rfl lkX11_146 (qX11_wrong hO) (Nat.le_of_ble_eq_true rfl) (rOk_L (by decide) (by decide)) dX11_named_171 (fun r171 u171 g171 => ?_)
              obtain ⟨rfl, rfl⟩ := g171
              try simp only [up_s, up_n, up_up, ne_eq, Nat.reduceEqDiff, not_false_eq_true]
              refine v_zret (pc := 174) hJ rfl dX11_named_174 ⟨_, rfl, ?_⟩
              rw [show chordAt f (I 27) = .inl ((p1 + ((txS (kbN f p1 14)).length : Int)) + 1 + 1 + ncnt f ((p1 + ((txS (kbN f p1 14)).length : Int)) + 1)) by
                unfold chordAt
                rw [if_pos hN, ← hp1]
                unfold tailAt
                rw [show kdAt f p1 = kbN f p1 14 from rfl, if_pos h117, if_pos hN2]
                unfold closeAt
                rw [if_neg h162]]
              refine ⟨fun k h1 h2 h3 h4 => by simp [up_n, h1, h2, h3, h4], fun k h1 h2 h3 => by simp [up_n, h1, h2, h3], ?_⟩
              exact ⟨rfl, by simp only [up_s, up_n, up_up, ne_eq, Nat.reduceEqDiff, not_false_eq_true], by simp only [up_s, up_n, up_up, ne_eq, Nat.reduceEqDiff, not_false_eq_true]⟩
          · obtain ⟨hN2, rfl, rfl⟩ := emF g131 h134
            simp only [up_s, up_n, up_up, ne_eq, Nat.reduceEqDiff, not_false_eq_true] at hN2
            try simp only [up_s, up_n, up_up, ne_eq, Nat.reduceEqDiff, not_false_eq_true]
            refine v_iconst (pc := 137) hJ dX11_named_137 ?_
            refine v_zret (pc := 138) hJ rfl dX11_named_138 ⟨_, rfl, ?_⟩
            rw [show chordAt f (I 27) = .inl ((p1 + ((txS (kbN f p1 14)).length : Int)) + 1) by
              unfold chordAt
              rw [if_pos hN, ← hp1]
              unfold tailAt
              rw [show kdAt f p1 = kbN f p1 14 from rfl, if_pos h117, if_neg hN2]]
            refine ⟨fun k h1 h2 h3 h4 => by simp [up_n, h1, h2, h3, h4], fun k h1 h2 h3 => by simp [up_n, h1, h2, h3], ?_⟩
            exact ⟨rfl, by simp only [up_s, up_n, up_up, ne_eq, Nat.reduceEqDiff, not_false_eq_true], by simp only [up_s, up_n, up_up, ne_eq, Nat.reduceEqDiff, not_false_eq_true]⟩
      · refine v_ald0 (pc := 45) hJ dX11_named_45 ?_
        refine v_ild2 (pc := 46) hJ dX11_named_46 ?_
        refine v_cS1r (pc := 47) hJ lkX11_173 (qX11_kindOf hO (by omega)) (Nat.le_of_ble_eq_true rfl) (rOk_L (by decide) (by decide)) dX11_named_47 (fun r47 u47 g47 => ?_)
        obtain ⟨rfl, rfl⟩ := g47
        try simp only [up_s, up_n, up_up, ne_eq, Nat.reduceEqDiff, not_false_eq_true]
        refine v_cV1i (pc := 50) (q0 := 0) (ci := 8) hJ rfl rfl lkX11_177 (hHe (by omega) (by (try simp only [up_s, up_n, up_up, ne_eq, Nat.reduceEqDiff, not_false_eq_true]); omega) (by first | rfl | simp only [up_s, up_n, up_up, ne_eq, Nat.reduceEqDiff, not_false_eq_true]) (by first | rfl | simp only [up_s, up_n, up_up, ne_eq, Nat.reduceEqDiff, not_false_eq_true])) (Nat.le_of_ble_eq_true rfl) (rOk_L (by decide) (by decide)) dX11_named_50 (fun r50 u50 g50 => ?_)
        obtain ⟨g50a, g50b, rfl⟩ := g50
        simp only [up_s, up_n, up_up, ne_eq, Nat.reduceEqDiff, not_false_eq_true] at g50b
        try simp only [up_s, up_n, up_up, ne_eq, Nat.reduceEqDiff, not_false_eq_true]
        refine v_if_eq (tgt := 75) (pc := 53) hJ dX11_named_53 (by decide) (by omega) (fun h53 => ?_) (fun h53 => ?_)
        · refine v_inc2 (pc := 75) hJ dX11_named_75 (by decide) ?_
          refine v_goto (tgt := 39) (pc := 78) hJ dX11_named_78 (by decide) ?_
          first
            | (have hn := ih (kn + 1) (by omega) hN (by omega)
               rw [kbN_pos ⟨g50b.mp (by omega), by omega⟩] at hn
               exact hn)
            | (have hn := ih (kn + 1) (by omega) hN (by omega)
               rw [kbN_neg (fun q => by first | omega | (have := g50b.mpr q.1; omega))] at hn
               exact hn)
        · refine v_ild2 (pc := 56) hJ dX11_named_56 ?_
          refine v_cS1r (pc := 57) hJ lkX11_173 (qX11_kindOf hO (by omega)) (Nat.le_of_ble_eq_true rfl) (rOk_L (by decide) (by decide)) dX11_named_57 (fun r57 u57 g57 => ?_)
          obtain ⟨rfl, rfl⟩ := g57
          try simp only [up_s, up_n, up_up, ne_eq, Nat.reduceEqDiff, not_false_eq_true]
          refine v_cT0i (pc := 60) hJ hO (by omega) lkX11_156 (qJ0_length_8abf5 hO (by omega)) (Nat.le_of_ble_eq_true rfl) (rOk_L (by decide) (by decide)) dX11_named_60 (fun r60 u60 g60 => ?_)
          obtain ⟨rfl, rfl⟩ := g60
          try simp only [up_s, up_n, up_up, ne_eq, Nat.reduceEqDiff, not_false_eq_true]
          refine v_ild1 (pc := 63) hJ dX11_named_63 ?_
          refine v_cS1r (pc := 64) hJ lkX11_173 (qX11_kindOf hO (by omega)) (Nat.le_of_ble_eq_true rfl) (rOk_L (by decide) (by decide)) dX11_named_64 (fun r64 u64 g64 => ?_)
          obtain ⟨rfl, rfl⟩ := g64
          try simp only [up_s, up_n, up_up, ne_eq, Nat.reduceEqDiff, not_false_eq_true]
          refine v_cT0i (pc := 67) hJ hO (by omega) lkX11_156 (qJ0_length_8abf5 hO (by omega)) (Nat.le_of_ble_eq_true rfl) (rOk_L (by decide) (by decide)) dX11_named_67 (fun r67 u67 g67 => ?_)
          obtain ⟨rfl, rfl⟩ := g67
          try simp only [up_s, up_n, up_up, ne_eq, Nat.reduceEqDiff, not_false_eq_true]
          refine v_icmp_le (tgt := 75) (pc := 70) hJ dX11_named_70 (by decide) (by omega) (by omega) (fun h70 => ?_) (fun h70 => ?_)
          · refine v_inc2 (pc := 75) hJ dX11_named_75 (by decide) ?_
            refine v_goto (tgt := 39) (pc := 78) hJ dX11_named_78 (by decide) ?_
            first
              | (have hn := ih (kn + 1) (by omega) hN (by omega)
                 rw [kbN_pos ⟨g50b.mp (by omega), by omega⟩] at hn
                 exact hn)
              | (have hn := ih (kn + 1) (by omega) hN (by omega)
                 rw [kbN_neg (fun q => by first | omega | (have := g50b.mpr q.1; omega))] at hn
                 exact hn)
          · refine v_ild2 (pc := 73) hJ dX11_named_73 ?_
            refine v_ist1 (pc := 74) hJ dX11_named_74 (by decide) ?_
            refine v_inc2 (pc := 75) hJ dX11_named_75 (by decide) ?_
            refine v_goto (tgt := 39) (pc := 78) hJ dX11_named_78 (by decide) ?_
            first
              | (have hn := ih (kn + 1) (by omega) hN (by omega)
                 rw [kbN_pos ⟨g50b.mp (by omega), by omega⟩] at hn
                 exact hn)
              | (have hn := ih (kn + 1) (by omega) hN (by omega)
                 rw [kbN_neg (fun q => by first | omega | (have := g50b.mpr q.1; omega))] at hn
                 exact hn)
  show J 0 [some (.ref (ad 0)), none, none] [] (I, A)
  refine v_ald0 (pc := 0) hJ dX11_named_0 ?_
  refine v_cV0i (pc := 1) (q0 := 0) (ci := 8) hJ rfl rfl lkX11_166 (hNo (by omega) rfl rfl) (Nat.le_of_ble_eq_true rfl) (rOk_L (by decide) (by decide)) dX11_named_1 (fun r1 u1 g1 => ?_)
  skip
  refine v_if_ne (tgt := 9) (pc := 4) hJ dX11_named_4 (by decide) (emR g1) (fun h4 => ?_) (fun h4 => ?_)
  · obtain ⟨hN, rfl, rfl⟩ := emT g1 h4
    rw [← hp1]
    refine v_ald0 (pc := 9) hJ dX11_named_9 ?_
    refine mg15 (pc := 10) hJ dX11_named_10 ?_
    refine v_ald0 (pc := 13) hJ dX11_named_13 ?_
    refine mg30 (pc := 14) hJ dX11_named_14 ?_
    try simp only [up_s, up_n, up_up, ne_eq, Nat.reduceEqDiff, not_false_eq_true]
    refine v_ald0 (pc := 17) hJ dX11_named_17 ?_
    refine mg29 (pc := 18) hJ dX11_named_18 ?_
    try simp only [up_s, up_n, up_up, ne_eq, Nat.reduceEqDiff, not_false_eq_true]
    refine ms15 (pc := 21) hJ (by omega) (by omega) dX11_named_21 ?_
    refine v_ald0 (pc := 22) hJ dX11_named_22 ?_
    refine mg17 (pc := 23) hJ dX11_named_23 ?_
    refine v_ald0 (pc := 26) hJ dX11_named_26 ?_
    refine mg30 (pc := 27) hJ dX11_named_27 ?_
    try simp only [up_s, up_n, up_up, ne_eq, Nat.reduceEqDiff, not_false_eq_true]
    refine v_ald0 (pc := 30) hJ dX11_named_30 ?_
    refine mg29 (pc := 31) hJ dX11_named_31 ?_
    try simp only [up_s, up_n, up_up, ne_eq, Nat.reduceEqDiff, not_false_eq_true]
    refine ms17 (pc := 34) hJ (by omega) (by omega) dX11_named_34 ?_
    refine v_iconst (pc := 35) hJ dX11_named_35 ?_
    refine v_ist1 (pc := 36) hJ dX11_named_36 (by decide) ?_
    refine v_iconst (pc := 37) hJ dX11_named_37 ?_
    refine v_ist2 (pc := 38) hJ dX11_named_38 (by decide) ?_
    exact lp 15 0 (by omega) hN (by omega)
  · obtain ⟨hN, rfl, rfl⟩ := emF g1 h4
    refine v_iconst (pc := 7) hJ dX11_named_7 ?_
    refine v_zret (pc := 8) hJ rfl dX11_named_8 ⟨_, rfl, ?_⟩
    have ec : chordAt f (I 27) = .inl (I 27) := by
      unfold chordAt
      rw [if_neg hN]
    rw [ec]
    exact ⟨fun k h1 h2 h3 h4 => by simp [up_n, h1, h2, h3, h4], fun k h1 h2 h3 => rfl, rfl, by simp only [up_s, up_n, up_up, ne_eq, Nat.reduceEqDiff, not_false_eq_true], by simp only [up_s, up_n, up_up, ne_eq, Nat.reduceEqDiff, not_false_eq_true]⟩
