/-- behind which of the first ones a strain comes -/
def posN (st : Int → Int) (x : Int) : Nat → Nat
  | 0 => 0
  | j + 1 => if x < st j then posN st x j else j + 1
theorem posN_le (st : Int → Int) (x : Int) : ∀ j : Nat, posN st x j ≤ j
  | 0 => Nat.le_refl _
  | j + 1 => by
    have := posN_le st x j
    rw [posN]
    split <;> omega
/-- a hand comes among the first ones of a place -/
def comesP (I : Nat → Int) (A : Nat → Int → Int) (a x : Int) (pos : Nat) (M : Int) (u : sM) : Prop :=
  u.1 = I ∧ (∀ k, k ≠ 38 → k ≠ 39 → k ≠ 40 → u.2 k = A k) ∧ (∀ q, u.2 38 q = if q = a then M else A 38 q) ∧ (∀ q, u.2 40 q = if q = 6 * a + pos then x else if 6 * a + pos < q ∧ q < 6 * a + M then A 40 (q - 1) else A 40 q) ∧ (∀ q, u.2 39 q = if 36 * a + 6 * pos ≤ q ∧ q < 36 * a + 6 * pos + I 9 then A 41 (q - (36 * a + 6 * pos)) else if 36 * a + 6 * pos + 6 ≤ q ∧ q < 36 * a + 6 * M then A 39 (q - 6) else A 39 q)
set_option maxHeartbeats 4000000 in
set_option maxRecDepth 100000 in
theorem qX11_comes {l : Launch} {D : va_G} {cI : ClassId} {ad : Nat → Nat} {O : OT} {adK adV : Nat → Nat} (hO : OG O adK adV) {I : Nat → Int} {A : Nat → Int → Int} {a x : Int} (ha : 0 ≤ a ∧ a < 480) (hx : inR x) (hM : 0 ≤ A 38 a ∧ A 38 a ≤ 6) (h40 : ∀ j : Int, 0 ≤ j → j < A 38 a → inR (A 40 (6 * a + j))) (h9 : 0 ≤ I 9 ∧ I 9 ≤ 6) : MC l D cI ad O yX11_comes cX11_comes 6 none 1 [.ref (ad 0), .int (iZ a), .int (iZ x)] (I, A) (pV fun u2 => (posN (fun j => A 40 (6 * a + j)) x (A 38 a).toNat = 6 → u2 = (I, A)) ∧ (posN (fun j => A 40 (6 * a + j)) x (A 38 a).toNat < 6 → comesP I A a x (posN (fun j => A 40 (6 * a + j)) x (A 38 a).toNat) (if A 38 a < 6 then A 38 a + 1 else 6) u2)) := by
  refine ct_intro (own := RX11) (by decide) rfl hO.1 (Nat.le_of_ble_eq_true rfl) (by simp [Value.category]) (fun X J hJ => ?_)
  obtain ⟨ps, hps⟩ : ∃ z, z = posN (fun j => A 40 (6 * a + j)) x (A 38 a).toNat := ⟨_, rfl⟩
  obtain ⟨M, hMe⟩ : ∃ z, z = (if A 38 a < 6 then A 38 a + 1 else 6) := ⟨_, rfl⟩
  have hM7 : 1 ≤ M ∧ M ≤ 6 := by rw [hMe]; split <;> omega
  rw [← hps, ← hMe] at hJ
  have hpl := posN_le (fun j => A 40 (6 * a + j)) x (A 38 a).toNat
  rw [← hps] at hpl
  have l4 : ∀ (fu : Nat) (s : Nat) (a5 : Option Value) (A1 : Nat → Int → Int), ((s : Int) ≤ I 9) → (ps < 6) → (∀ k, k ≠ 38 → k ≠ 39 → k ≠ 40 → A1 k = A k) → (∀ q, A1 38 q = if q = a then M else A 38 q) → (∀ q, A1 40 q = if q = 6 * a + ps then x else if 6 * a + ps < q ∧ q < 6 * a + M then A 40 (q - 1) else A 40 q) → (∀ q, A1 39 q = if 36 * a + 6 * ps ≤ q ∧ q < 36 * a + 6 * ps + s then A 41 (q - (36 * a + 6 * ps)) else if 36 * a + 6 * ps + 6 ≤ q ∧ q < 36 * a + 6 * M then A 39 (q - 6) else A 39 q) → (7 - (s : Int)) < (fu : Int) → J 180 [some (.ref (ad 0)), some (.int (iZ (a))), some (.int (iZ (x))), some (.int (iZ ((ps : Int)))), some (.int (iZ ((s : Int)))), a5] [] (I, A1) := by
    intro fu
    induction fu with
    | zero => intro s  a5  A1 hs hp6 f0 f38 f40 f39 hmu; exfalso; omega
    | succ fu ih =>
      intro s  a5  A1 hs hp6 f0 f38 f40 f39 hmu
      refine v_ild4 (pc := 180) hJ dX11_comes_180 ?_
      refine v_ald0 (pc := 182) hJ dX11_comes_182 ?_
      refine mg9 (pc := 183) hJ dX11_comes_183 ?_
      refine v_icmp_ge (tgt := 219) (pc := 186) hJ dX11_comes_186 (by decide) (by omega) (by omega) (fun h186 => ?_) (fun h186 => ?_)
      · refine v_vret (pc := 219) hJ dX11_comes_219 ⟨rfl, ?_⟩
        have e9 : (s : Int) = I 9 := by omega
        rw [e9] at f39
        exact ⟨fun q => by omega, fun _ => ⟨rfl, f0, f38, f40, f39⟩⟩
      · refine v_ald0 (pc := 189) hJ dX11_comes_189 ?_
        refine mg39 (pc := 190) hJ dX11_comes_190 ?_
        refine v_bipush (pc := 193) hJ dX11_comes_193 (by decide) ?_
        refine v_ild1 (pc := 195) hJ dX11_comes_195 ?_
        refine v_imul (pc := 196) hJ dX11_comes_196 ?_
        refine v_bipush (pc := 197) hJ dX11_comes_197 (by decide) ?_
        refine v_ild3 (pc := 199) hJ dX11_comes_199 ?_
        refine v_imul (pc := 200) hJ dX11_comes_200 ?_
        refine v_iadd (pc := 201) hJ dX11_comes_201 ?_
        refine v_ild4 (pc := 202) hJ dX11_comes_202 ?_
        refine v_iadd (pc := 204) hJ dX11_comes_204 ?_
        refine v_ald0 (pc := 205) hJ dX11_comes_205 ?_
        refine mg41 (pc := 206) hJ dX11_comes_206 ?_
        refine v_ild4 (pc := 209) hJ dX11_comes_209 ?_
        refine ma41 (pc := 211) hJ (by omega) (by omega) dX11_comes_211 ?_
        refine ms39 (pc := 212) hJ (by omega) (by omega) dX11_comes_212 ?_
        refine v_inc4 (pc := 213) hJ dX11_comes_213 (by decide) ?_
        refine v_goto (tgt := 180) (pc := 216) hJ dX11_comes_216 (by decide) ?_
        refine ih (s + 1) a5 _ (by omega) hp6 (fun k k1 k2 k3 => by rw [up_n k2]; exact f0 k k1 k2 k3) ?_ ?_ ?_ (by omega)
        · simp only [up_s, up_n, up_up, ne_eq, Nat.reduceEqDiff, not_false_eq_true]; exact f38
        · simp only [up_s, up_n, up_up, ne_eq, Nat.reduceEqDiff, not_false_eq_true]; exact f40
        · intro q
          simp only [up_s, up_n, up_up, ne_eq, Nat.reduceEqDiff, not_false_eq_true]
          by_cases e : q = 36 * a + 6 * ps + s
          · rw [e, zu_same, if_pos ⟨by omega, by omega⟩, f0 41 (by decide) (by decide) (by decide)]
            congr 1; omega
          · rw [zu_ne e, f39 q]
            by_cases e2 : 36 * a + 6 * ps ≤ q ∧ q < 36 * a + 6 * ps + s
            · rw [if_pos e2, if_pos ⟨by omega, by omega⟩]
            · rw [if_neg e2, if_neg (show ¬ (36 * a + 6 * (ps : Int) ≤ q ∧ q < 36 * a + 6 * (ps : Int) + ((s + 1 : Nat) : Int)) by omega)]
  have l2 : ∀ (fu : Nat) (k : Int) (a5 : Option Value) (A1 : Nat → Int → Int), (ps : Int) ≤ k → k < M → ps < 6 → (∀ k, k ≠ 38 → k ≠ 39 → k ≠ 40 → A1 k = A k) → (∀ q, A1 38 q = if q = a then M else A 38 q) → (∀ q, A1 40 q = if 6 * a + k < q ∧ q < 6 * a + M then A 40 (q - 1) else A 40 q) → (∀ q, A1 39 q = if 36 * a + 6 * k + 6 ≤ q ∧ q < 36 * a + 6 * M then A 39 (q - 6) else A 39 q) → k - ps < (fu : Int) → J 72 [some (.ref (ad 0)), some (.int (iZ (a))), some (.int (iZ (x))), some (.int (iZ ((ps : Int)))), some (.int (iZ (k))), a5] [] (I, A1) := by
    intro fu
    induction fu with
    | zero => intro k a5 A1 k0 k1 hp6 f0 f38 f40 f39 hmu; exfalso; omega
    | succ fu ih0 =>
      intro k a5 A1 k0 k1 hp6 f0 f38 f40 f39 hmu
      have l3 : ∀ (fu : Nat) (s : Nat) (A2 : Nat → Int → Int), (s ≤ 6) → ((ps : Int) < k) → (∀ k, k ≠ 38 → k ≠ 39 → k ≠ 40 → A2 k = A k) → (∀ q, A2 38 q = if q = a then M else A 38 q) → (∀ q, A2 40 q = if 6 * a + (k - 1) < q ∧ q < 6 * a + M then A 40 (q - 1) else A 40 q) → (∀ q, A2 39 q = if (36 * a + 6 * k ≤ q ∧ q < 36 * a + 6 * k + s) ∨ (36 * a + 6 * k + 6 ≤ q ∧ q < 36 * a + 6 * M) then A 39 (q - 6) else A 39 q) → (7 - (s : Int)) < (fu : Int) → J 107 [some (.ref (ad 0)), some (.int (iZ (a))), some (.int (iZ (x))), some (.int (iZ ((ps : Int)))), some (.int (iZ (k))), some (.int (iZ ((s : Int))))] [] (I, A2) := by
        intro fu
        induction fu with
        | zero => intro s  A2 hs hkp e0 e38 e40 e39 hmu; exfalso; omega
        | succ fu ih =>
          intro s  A2 hs hkp e0 e38 e40 e39 hmu
          refine v_ild5 (pc := 107) hJ dX11_comes_107 ?_
          refine v_bipush (pc := 109) hJ dX11_comes_109 (by decide) ?_
          refine v_icmp_ge (tgt := 159) (pc := 111) hJ dX11_comes_111 (by decide) (by omega) (by omega) (fun h111 => ?_) (fun h111 => ?_)
          · refine v_inc4 (pc := 159) hJ dX11_comes_159 (by decide) ?_
            refine v_goto (tgt := 72) (pc := 162) hJ dX11_comes_162 (by decide) ?_
            have hs6 : s = 6 := by omega
            subst hs6
            exact ih0 (k + -1) _ A2 (by omega) (by omega) hp6 e0 e38 (fun q => by rw [e40 q, show k - 1 = k + -1 by omega]) (fun q => by
              rw [e39 q]
              by_cases e2 : 36 * a + 6 * (k + -1) + 6 ≤ q ∧ q < 36 * a + 6 * M
              · rw [if_pos e2, if_pos (by omega)]
              · rw [if_neg e2, if_neg (by omega)]) (by omega)
          · refine v_ald0 (pc := 114) hJ dX11_comes_114 ?_
            refine mg39 (pc := 115) hJ dX11_comes_115 ?_
            refine v_bipush (pc := 118) hJ dX11_comes_118 (by decide) ?_
            refine v_ild1 (pc := 120) hJ dX11_comes_120 ?_
            refine v_imul (pc := 121) hJ dX11_comes_121 ?_
            refine v_bipush (pc := 122) hJ dX11_comes_122 (by decide) ?_
            refine v_ild4 (pc := 124) hJ dX11_comes_124 ?_
            refine v_imul (pc := 126) hJ dX11_comes_126 ?_
            refine v_iadd (pc := 127) hJ dX11_comes_127 ?_
            refine v_ild5 (pc := 128) hJ dX11_comes_128 ?_
            refine v_iadd (pc := 130) hJ dX11_comes_130 ?_
            refine v_ald0 (pc := 131) hJ dX11_comes_131 ?_
            refine mg39 (pc := 132) hJ dX11_comes_132 ?_
            refine v_bipush (pc := 135) hJ dX11_comes_135 (by decide) ?_
            refine v_ild1 (pc := 137) hJ dX11_comes_137 ?_
            refine v_imul (pc := 138) hJ dX11_comes_138 ?_
            refine v_bipush (pc := 139) hJ dX11_comes_139 (by decide) ?_
            refine v_ild4 (pc := 141) hJ dX11_comes_141 ?_
            refine v_imul (pc := 143) hJ dX11_comes_143 ?_
            refine v_iadd (pc := 144) hJ dX11_comes_144 ?_
            refine v_bipush (pc := 145) hJ dX11_comes_145 (by decide) ?_
            refine v_isub (pc := 147) hJ dX11_comes_147 ?_
            refine v_ild5 (pc := 148) hJ dX11_comes_148 ?_
            refine v_iadd (pc := 150) hJ dX11_comes_150 ?_
            refine ma39 (pc := 151) hJ (by omega) (by omega) dX11_comes_151 ?_
            refine ms39 (pc := 152) hJ (by omega) (by omega) dX11_comes_152 ?_
            refine v_inc5 (pc := 153) hJ dX11_comes_153 (by decide) ?_
            refine v_goto (tgt := 107) (pc := 156) hJ dX11_comes_156 (by decide) ?_
            refine ih (s + 1) _ (by omega) hkp (fun k k1 k2 k3 => by rw [up_n k2]; exact e0 k k1 k2 k3) ?_ ?_ ?_ (by omega)
            · simp only [up_s, up_n, up_up, ne_eq, Nat.reduceEqDiff, not_false_eq_true]; exact e38
            · simp only [up_s, up_n, up_up, ne_eq, Nat.reduceEqDiff, not_false_eq_true]; exact e40
            · intro q
              simp only [up_s, up_n, up_up, ne_eq, Nat.reduceEqDiff, not_false_eq_true]
              by_cases e : q = 36 * a + 6 * k + s
              · rw [e, zu_same, if_pos (by omega), e39 (36 * a + 6 * k - 6 + s), if_neg (by omega)]
                congr 1; omega
              · rw [zu_ne e, e39 q]
                by_cases e2 : (36 * a + 6 * k ≤ q ∧ q < 36 * a + 6 * k + s) ∨ (36 * a + 6 * k + 6 ≤ q ∧ q < 36 * a + 6 * M)
                · rw [if_pos e2, if_pos (by omega)]
                · rw [if_neg e2, if_neg (by omega)]
      refine v_ild4 (pc := 72) hJ dX11_comes_72 ?_
      refine v_ild3 (pc := 74) hJ dX11_comes_74 ?_
      refine v_icmp_le (tgt := 165) (pc := 75) hJ dX11_comes_75 (by decide) (by omega) (by omega) (fun h75 => ?_) (fun h75 => ?_)
      · refine v_ald0 (pc := 165) hJ dX11_comes_165 ?_
        refine mg40 (pc := 166) hJ dX11_comes_166 ?_
        refine v_bipush (pc := 169) hJ dX11_comes_169 (by decide) ?_
        refine v_ild1 (pc := 171) hJ dX11_comes_171 ?_
        refine v_imul (pc := 172) hJ dX11_comes_172 ?_
        refine v_ild3 (pc := 173) hJ dX11_comes_173 ?_
        refine v_iadd (pc := 174) hJ dX11_comes_174 ?_
        refine v_ild2 (pc := 175) hJ dX11_comes_175 ?_
        refine ms40 (pc := 176) hJ (by omega) (by omega) dX11_comes_176 ?_
        refine v_iconst (pc := 177) hJ dX11_comes_177 ?_
        refine v_ist4 (pc := 178) hJ dX11_comes_178 (by decide) ?_
        have ek : k = ps := by omega
        subst ek
        refine l4 8 0 a5 _ (by omega) hp6 (fun k k1 k2 k3 => by rw [up_n k3]; exact f0 k k1 k2 k3) ?_ ?_ ?_ (by omega)
        · simp only [up_s, up_n, up_up, ne_eq, Nat.reduceEqDiff, not_false_eq_true]; exact f38
        · intro q
          simp only [up_s, up_n, up_up, ne_eq, Nat.reduceEqDiff, not_false_eq_true]
          by_cases e : q = 6 * a + ps
          · rw [e, zu_same, if_pos rfl]
          · rw [zu_ne e, f40 q, if_neg e]
        · intro q
          simp only [up_s, up_n, up_up, ne_eq, Nat.reduceEqDiff, not_false_eq_true]
          rw [f39 q, if_neg (show ¬ (36 * a + 6 * (ps : Int) ≤ q ∧ q < 36 * a + 6 * (ps : Int) + ((0 : Nat) : Int)) by omega)]
      · refine v_ald0 (pc := 78) hJ dX11_comes_78 ?_
        refine mg40 (pc := 79) hJ dX11_comes_79 ?_
        refine v_bipush (pc := 82) hJ dX11_comes_82 (by decide) ?_
        refine v_ild1 (pc := 84) hJ dX11_comes_84 ?_
        refine v_imul (pc := 85) hJ dX11_comes_85 ?_
        refine v_ild4 (pc := 86) hJ dX11_comes_86 ?_
        refine v_iadd (pc := 88) hJ dX11_comes_88 ?_
        refine v_ald0 (pc := 89) hJ dX11_comes_89 ?_
        refine mg40 (pc := 90) hJ dX11_comes_90 ?_
        refine v_bipush (pc := 93) hJ dX11_comes_93 (by decide) ?_
        refine v_ild1 (pc := 95) hJ dX11_comes_95 ?_
        refine v_imul (pc := 96) hJ dX11_comes_96 ?_
        refine v_ild4 (pc := 97) hJ dX11_comes_97 ?_
        refine v_iadd (pc := 99) hJ dX11_comes_99 ?_
        refine v_iconst (pc := 100) hJ dX11_comes_100 ?_
        refine v_isub (pc := 101) hJ dX11_comes_101 ?_
        refine ma40 (pc := 102) hJ (by omega) (by omega) dX11_comes_102 ?_
        refine ms40 (pc := 103) hJ (by omega) (by omega) dX11_comes_103 ?_
        refine v_iconst (pc := 104) hJ dX11_comes_104 ?_
        refine v_ist5 (pc := 105) hJ dX11_comes_105 (by decide) ?_
        refine l3 8 0 _ (by omega) (by omega) (fun k k1 k2 k3 => by rw [up_n k3]; exact f0 k k1 k2 k3) ?_ ?_ ?_ (by omega)
        · simp only [up_s, up_n, up_up, ne_eq, Nat.reduceEqDiff, not_false_eq_true]; exact f38
        · intro q
          simp only [up_s, up_n, up_up, ne_eq, Nat.reduceEqDiff, not_false_eq_true]
          by_cases e : q = 6 * a + k
          · rw [e, zu_same, if_pos (by omega), f40 (6 * a + k - 1), if_neg (by omega)]
          · rw [zu_ne e, f40 q]
            by_cases e2 : 6 * a + k < q ∧ q < 6 * a + M
            · rw [if_pos e2, if_pos (by omega)]
            · rw [if_neg e2, if_neg (by omega)]
        · intro q
          simp only [up_s, up_n, up_up, ne_eq, Nat.reduceEqDiff, not_false_eq_true]
          rw [f39 q]
          by_cases e2 : 36 * a + 6 * k + 6 ≤ q ∧ q < 36 * a + 6 * M
          · rw [if_pos e2, if_pos (by omega)]
          · rw [if_neg e2, if_neg (by omega)]
  have l1 : ∀ (fu : Nat) (j : Nat), ((j : Int) ≤ A 38 a) → (posN (fun j => A 40 (6 * a + j)) x j = ps) → (7 + (j : Int)) < (fu : Int) → J 7 [some (.ref (ad 0)), some (.int (iZ (a))), some (.int (iZ (x))), some (.int (iZ ((j : Int)))), none, none] [] (I, A) := by
    intro fu
    induction fu with
    | zero => intro j hj hp hmu; exfalso; omega
    | succ fu ih =>
      intro j hj hp hmu
      refine v_ild3 (pc := 7) hJ dX11_comes_7 ?_
      refine v_if_le (tgt := 34) (pc := 8) hJ dX11_comes_8 (by decide) (by omega) (fun h8 => ?_) (fun h8 => ?_)
      · have ejp : j = ps := by
          first
            | (have : j = 0 := by omega
               subst this
               exact hp)
            | (obtain ⟨j, rfl⟩ : ∃ j2, j = j2 + 1 := ⟨j - 1, by omega⟩
               rw [posN, if_neg (show ¬ x < A 40 (6 * a + (j : Int)) by rw [show 6 * a + (j : Int) = 6 * a + ((j + 1 : Nat) : Int) - 1 by omega]; omega)] at hp
               exact hp)
        subst ejp
        refine v_ild3 (pc := 34) hJ dX11_comes_34 ?_
        refine v_bipush (pc := 35) hJ dX11_comes_35 (by decide) ?_
        refine v_icmp_ne (tgt := 41) (pc := 37) hJ dX11_comes_37 (by decide) (by omega) (by omega) (fun h37 => ?_) (fun h37 => ?_)
        · refine v_ald0 (pc := 41) hJ dX11_comes_41 ?_
          refine mg38 (pc := 42) hJ dX11_comes_42 ?_
          refine v_ild1 (pc := 45) hJ dX11_comes_45 ?_
          refine ma38 (pc := 46) hJ (by omega) (by omega) dX11_comes_46 ?_
          refine v_bipush (pc := 47) hJ dX11_comes_47 (by decide) ?_
          refine v_icmp_ge (tgt := 62) (pc := 49) hJ dX11_comes_49 (by decide) (by omega) (by omega) (fun h49 => ?_) (fun h49 => ?_)
          · refine v_ald0 (pc := 62) hJ dX11_comes_62 ?_
            refine mg38 (pc := 63) hJ dX11_comes_63 ?_
            refine v_ild1 (pc := 66) hJ dX11_comes_66 ?_
            refine ma38 (pc := 67) hJ (by omega) (by omega) dX11_comes_67 ?_
            refine v_iconst (pc := 68) hJ dX11_comes_68 ?_
            refine v_isub (pc := 69) hJ dX11_comes_69 ?_
            refine v_ist4 (pc := 70) hJ dX11_comes_70 (by decide) ?_
            have eM : M = 6 := by rw [hMe, if_neg (by omega)]
            have e6 : A 38 a = 6 := by omega
            exact l2 8 (A 38 a - 1) none A (by omega) (by omega) (by omega) (fun k k1 k2 k3 => rfl) (fun q => by split; (rename_i e; rw [e, e6, eM]); rfl) (fun q => by rw [if_neg (by omega)]) (fun q => by rw [if_neg (by omega)]) (by omega)
          · refine v_ald0 (pc := 52) hJ dX11_comes_52 ?_
            refine mg38 (pc := 53) hJ dX11_comes_53 ?_
            refine v_ild1 (pc := 56) hJ dX11_comes_56 ?_
            refine v_dup2 (pc := 57) hJ dX11_comes_57 rfl rfl ?_
            refine ma38 (pc := 58) hJ (by omega) (by omega) dX11_comes_58 ?_
            refine v_iconst (pc := 59) hJ dX11_comes_59 ?_
            refine v_iadd (pc := 60) hJ dX11_comes_60 ?_
            refine ms38 (pc := 61) hJ (by omega) (by omega) dX11_comes_61 ?_
            refine v_ald0 (pc := 62) hJ dX11_comes_62 ?_
            refine mg38 (pc := 63) hJ dX11_comes_63 ?_
            refine v_ild1 (pc := 66) hJ dX11_comes_66 ?_
            refine ma38 (pc := 67) hJ (by omega) (by omega) dX11_comes_67 ?_
            try simp only [up_s, up_n, up_up, ne_eq, Nat.reduceEqDiff, not_false_eq_true]
            refine v_iconst (pc := 68) hJ dX11_comes_68 ?_
            refine v_isub (pc := 69) hJ dX11_comes_69 ?_
            refine v_ist4 (pc := 70) hJ dX11_comes_70 (by decide) ?_
            have eM : M = A 38 a + 1 := by rw [hMe, if_pos (by omega)]
            try simp only [up_s, up_n, up_up, ne_eq, Nat.reduceEqDiff, not_false_eq_true]
            rw [zu_same, show A 38 a + 1 - 1 = A 38 a by omega]
            exact l2 8 (A 38 a) none _ (by omega) (by omega) (by omega) (fun k k1 k2 k3 => by rw [up_n k1]) (fun q => by simp only [up_s, up_n, up_up, ne_eq, Nat.reduceEqDiff, not_false_eq_true]; unfold zu; rw [eM]) (fun q => by simp only [up_s, up_n, up_up, ne_eq, Nat.reduceEqDiff, not_false_eq_true]; rw [if_neg (by omega)]) (fun q => by simp only [up_s, up_n, up_up, ne_eq, Nat.reduceEqDiff, not_false_eq_true]; rw [if_neg (by omega)]) (by omega)
        · refine v_vret (pc := 40) hJ dX11_comes_40 ⟨rfl, ?_⟩
          exact ⟨fun _ => rfl, fun q => by omega⟩
      · refine v_ald0 (pc := 11) hJ dX11_comes_11 ?_
        refine mg40 (pc := 12) hJ dX11_comes_12 ?_
        refine v_bipush (pc := 15) hJ dX11_comes_15 (by decide) ?_
        refine v_ild1 (pc := 17) hJ dX11_comes_17 ?_
        refine v_imul (pc := 18) hJ dX11_comes_18 ?_
        refine v_ild3 (pc := 19) hJ dX11_comes_19 ?_
        refine v_iadd (pc := 20) hJ dX11_comes_20 ?_
        refine v_iconst (pc := 21) hJ dX11_comes_21 ?_
        refine v_isub (pc := 22) hJ dX11_comes_22 ?_
        refine ma40 (pc := 23) hJ (by omega) (by omega) dX11_comes_23 ?_
        refine v_ild2 (pc := 24) hJ dX11_comes_24 ?_
        have h4j := h40 ((j : Int) - 1) (by omega) (by omega)
        rw [show 6 * a + ((j : Int) - 1) = 6 * a + (j : Int) - 1 by omega] at h4j
        refine v_icmp_le (tgt := 34) (pc := 25) hJ dX11_comes_25 (by decide) (by omega) (by omega) (fun h25 => ?_) (fun h25 => ?_)
        · have ejp : j = ps := by
            first
              | (have : j = 0 := by omega
                 subst this
                 exact hp)
              | (obtain ⟨j, rfl⟩ : ∃ j2, j = j2 + 1 := ⟨j - 1, by omega⟩
                 rw [posN, if_neg (show ¬ x < A 40 (6 * a + (j : Int)) by rw [show 6 * a + (j : Int) = 6 * a + ((j + 1 : Nat) : Int) - 1 by omega]; omega)] at hp
                 exact hp)
          subst ejp
          refine v_ild3 (pc := 34) hJ dX11_comes_34 ?_
          refine v_bipush (pc := 35) hJ dX11_comes_35 (by decide) ?_
          refine v_icmp_ne (tgt := 41) (pc := 37) hJ dX11_comes_37 (by decide) (by omega) (by omega) (fun h37 => ?_) (fun h37 => ?_)
          · refine v_ald0 (pc := 41) hJ dX11_comes_41 ?_
            refine mg38 (pc := 42) hJ dX11_comes_42 ?_
            refine v_ild1 (pc := 45) hJ dX11_comes_45 ?_
            refine ma38 (pc := 46) hJ (by omega) (by omega) dX11_comes_46 ?_
            refine v_bipush (pc := 47) hJ dX11_comes_47 (by decide) ?_
            refine v_icmp_ge (tgt := 62) (pc := 49) hJ dX11_comes_49 (by decide) (by omega) (by omega) (fun h49 => ?_) (fun h49 => ?_)
            · refine v_ald0 (pc := 62) hJ dX11_comes_62 ?_
              refine mg38 (pc := 63) hJ dX11_comes_63 ?_
              refine v_ild1 (pc := 66) hJ dX11_comes_66 ?_
              refine ma38 (pc := 67) hJ (by omega) (by omega) dX11_comes_67 ?_
              refine v_iconst (pc := 68) hJ dX11_comes_68 ?_
              refine v_isub (pc := 69) hJ dX11_comes_69 ?_
              refine v_ist4 (pc := 70) hJ dX11_comes_70 (by decide) ?_
              have eM : M = 6 := by rw [hMe, if_neg (by omega)]
              have e6 : A 38 a = 6 := by omega
              exact l2 8 (A 38 a - 1) none A (by omega) (by omega) (by omega) (fun k k1 k2 k3 => rfl) (fun q => by split; (rename_i e; rw [e, e6, eM]); rfl) (fun q => by rw [if_neg (by omega)]) (fun q => by rw [if_neg (by omega)]) (by omega)
            · refine v_ald0 (pc := 52) hJ dX11_comes_52 ?_
              refine mg38 (pc := 53) hJ dX11_comes_53 ?_
              refine v_ild1 (pc := 56) hJ dX11_comes_56 ?_
              refine v_dup2 (pc := 57) hJ dX11_comes_57 rfl rfl ?_
              refine ma38 (pc := 58) hJ (by omega) (by omega) dX11_comes_58 ?_
              refine v_iconst (pc := 59) hJ dX11_comes_59 ?_
              refine v_iadd (pc := 60) hJ dX11_comes_60 ?_
              refine ms38 (pc := 61) hJ (by omega) (by omega) dX11_comes_61 ?_
              refine v_ald0 (pc := 62) hJ dX11_comes_62 ?_
              refine mg38 (pc := 63) hJ dX11_comes_63 ?_
              refine v_ild1 (pc := 66) hJ dX11_comes_66 ?_
              refine ma38 (pc := 67) hJ (by omega) (by omega) dX11_comes_67 ?_
              try simp only [up_s, up_n, up_up, ne_eq, Nat.reduceEqDiff, not_false_eq_true]
              refine v_iconst (pc := 68) hJ dX11_comes_68 ?_
              refine v_isub (pc := 69) hJ dX11_comes_69 ?_
              refine v_ist4 (pc := 70) hJ dX11_comes_70 (by decide) ?_
              have eM : M = A 38 a + 1 := by rw [hMe, if_pos (by omega)]
              try simp only [up_s, up_n, up_up, ne_eq, Nat.reduceEqDiff, not_false_eq_true]
              rw [zu_same, show A 38 a + 1 - 1 = A 38 a by omega]
              exact l2 8 (A 38 a) none _ (by omega) (by omega) (by omega) (fun k k1 k2 k3 => by rw [up_n k1]) (fun q => by simp only [up_s, up_n, up_up, ne_eq, Nat.reduceEqDiff, not_false_eq_true]; unfold zu; rw [eM]) (fun q => by simp only [up_s, up_n, up_up, ne_eq, Nat.reduceEqDiff, not_false_eq_true]; rw [if_neg (by omega)]) (fun q => by simp only [up_s, up_n, up_up, ne_eq, Nat.reduceEqDiff, not_false_eq_true]; rw [if_neg (by omega)]) (by omega)
          · refine v_vret (pc := 40) hJ dX11_comes_40 ⟨rfl, ?_⟩
            exact ⟨fun _ => rfl, fun q => by omega⟩
        · refine v_inc3 (pc := 28) hJ dX11_comes_28 (by decide) ?_
          refine v_goto (tgt := 7) (pc := 31) hJ dX11_comes_31 (by decide) ?_
          obtain ⟨j, rfl⟩ : ∃ j2, j = j2 + 1 := ⟨j - 1, by omega⟩
          rw [posN, if_pos (show x < A 40 (6 * a + (j : Int)) by rw [show 6 * a + (j : Int) = 6 * a + ((j + 1 : Nat) : Int) - 1 by omega]; omega)] at hp
          rw [show ((j + 1 : Nat) : Int) + -1 = (j : Int) by omega]
          exact ih j (by omega) hp (by omega)
  show J 0 [some (.ref (ad 0)), some (.int (iZ a)), some (.int (iZ x)), none, none, none] [] (I, A)
  refine v_ald0 (pc := 0) hJ dX11_comes_0 ?_
  refine mg38 (pc := 1) hJ dX11_comes_1 ?_
  refine v_ild1 (pc := 4) hJ dX11_comes_4 ?_
  refine ma38 (pc := 5) hJ (by omega) (by omega) dX11_comes_5 ?_
  refine v_ist3 (pc := 6) hJ dX11_comes_6 (by decide) ?_
  have hn := l1 14 (A 38 a).toNat (by omega) hps.symm (by omega)
  rw [show (((A 38 a).toNat : Nat) : Int) = A 38 a by omega] at hn
  exact hn
