/-! the search for hands: what is left out changes nothing -/
def lsN (g : Int → Int) : Nat → Int
  | 0 => 99
  | s + 1 => lsF (lsN g s) (g s)
def msN (g : Int → Int) : Nat → Int
  | 0 => 0
  | s + 1 => msF (msN g s) (g s)
def fgN (g : Int → Int) (n : Nat) : Int := if opnN g n = 0 ∧ 1 < atlN g (lsN g n) n then finN g n - (atlN g (lsN g n) n - 1) else finN g n
def st0 (g : Int → Int) (n : Nat) : Int := 3 * fgN g n + msN g n + 4 * silN g n
def soN (g : Int → Int) (n : Nat) : Int := if (lsN g n < 99 ∧ 3 < msN g n - lsN g n) ∨ 4 < fgN g n then -1 else st0 g n
theorem gL_snoc (p : List Int) (v : Int) (s : Nat) (h : s < p.length) : gL (p ++ [v]) s = gL p s := by
  unfold gL
  rw [Int.toNat_natCast, getD_snoc p v s (by omega), if_pos h]
theorem gL_last (p : List Int) (v : Int) : gL (p ++ [v]) (p.length : Nat) = v := by
  unfold gL
  rw [Int.toNat_natCast, getD_snoc p v _ (by omega), if_neg (by omega)]
theorem lsL_N (p : List Int) : ∀ n : Nat, n ≤ p.length → lsL (p.take n) = lsN (gL p) n ∧ msL (p.take n) = msN (gL p) n
  | 0, _ => ⟨rfl, rfl⟩
  | n + 1, h => by
    obtain ⟨h1, h2⟩ := lsL_N p n (by omega)
    rw [take_add (by omega), lsL_snoc, msL_snoc, h1, h2]
    exact ⟨rfl, rfl⟩
theorem lsL_all (p : List Int) : lsL p = lsN (gL p) p.length ∧ msL p = msN (gL p) p.length := by
  have := lsL_N p p.length (Nat.le_refl _)
  rw [List.take_length] at this
  exact this
theorem g_eq {g g2 pt : Int → Int} {bar : Int} : ∀ n : Nat, (∀ s : Nat, s < n → g s = g2 s) → lsN g n = lsN g2 n ∧ msN g n = msN g2 n ∧ silN g n = silN g2 n ∧ opnN g n = opnN g2 n ∧ finN g n = finN g2 n ∧ (∀ l, atlN g l n = atlN g2 l n) ∧ sndN g pt bar n = sndN g2 pt bar n ∧ lowN g pt bar n = lowN g2 pt bar n ∧ rvN g n = rvN g2 n
  | 0, _ => ⟨rfl, rfl, rfl, rfl, rfl, fun _ => rfl, rfl, rfl, rfl⟩
  | n + 1, h => by
    obtain ⟨h1, h2, h3, h4, h5, h6, h7, h8, h9⟩ := g_eq (g := g) (g2 := g2) (pt := pt) (bar := bar) n (fun s hs => h s (by omega))
    have e := h n (by omega)
    have e2 : sq g pt bar n = sq g2 pt bar n := by unfold sq; rw [e]
    refine ⟨by rw [lsN, lsN, h1, e], by rw [msN, msN, h2, e], by rw [silN, silN, h3, e], by rw [opnN, opnN, h4, e], by rw [finN, finN, h5, e], fun l => by rw [atlN, atlN, h6, e], by rw [sndN, sndN, h7, e, e2], by rw [lowN, lowN, h8, e, e2], by rw [rvN, rvN, h9, e]⟩
theorem fg_eq {g g2 : Int → Int} {n : Nat} (h : ∀ s : Nat, s < n → g s = g2 s) : fgN g n = fgN g2 n ∧ st0 g n = st0 g2 n ∧ soN g n = soN g2 n := by
  obtain ⟨h1, h2, h3, h4, h5, h6, -⟩ := g_eq (pt := g) (bar := 0) n h
  have e : fgN g n = fgN g2 n := by unfold fgN; rw [h1, h4, h5, h6]
  have e2 : st0 g n = st0 g2 n := by unfold st0; rw [e, h2, h3]
  exact ⟨e, e2, by unfold soN; rw [h1, h2, e, e2]⟩
theorem atl_lt {g : Int → Int} {l : Int} : ∀ n : Nat, l < lsN g n → atlN g l n = 0
  | 0, _ => rfl
  | n + 1, h => by
    rw [lsN] at h
    have h2 : l < lsN g n := by unfold lsF at h; split at h <;> omega
    have h3 : ¬ (0 < g n ∧ g n = l) := by
      unfold lsF at h
      split at h
      · omega
      · rename_i q; intro w; exact q ⟨w.1, by omega⟩
    rw [atlN, atl_lt n h2, if_neg h3]
    split <;> rfl
theorem fg_mono {g : Int → Int} {n : Nat} (hv : -1 ≤ g n ∧ g n ≤ 9) : fgN g n ≤ fgN g (n + 1) ∧ msN g n ≤ msN g (n + 1) ∧ silN g n ≤ silN g (n + 1) := by
  obtain ⟨-, hf, ha, ho⟩ := st_b g g 0 (lsN g n) n
  have hlt : g n < lsN g n → atlN g (g n) n = 0 := fun h => atl_lt n h
  refine ⟨?_, ?_, ?_⟩
  · by_cases q1 : g n = -1
    · have e1 : lsN g (n + 1) = lsN g n := by rw [lsN]; unfold lsF; rw [if_neg (by omega)]
      unfold fgN
      rw [e1, opnN, finN, atlN, if_pos q1, if_pos q1, if_pos q1]
      exact Int.le_refl _
    · by_cases q0 : g n = 0
      · have eo : opnN g (n + 1) = 1 := by rw [opnN, if_neg q1, if_pos (Or.inr q0)]
        have ef : finN g (n + 1) = finN g n := by rw [finN, if_neg q1, if_neg (by omega)]; omega
        unfold fgN
        rw [eo, ef, if_neg (show ¬ ((1 : Int) = 0 ∧ _) from fun h => absurd h.1 (by decide))]
        split <;> omega
      · have hp : 0 < g n := by omega
        have eo : opnN g (n + 1) = opnN g n := by
          rw [opnN, if_neg q1]
          rcases ho with o | o
          · rw [o, if_neg (by omega)]
          · rw [o, if_pos (by omega)]
        have ef : finN g (n + 1) = finN g n + 1 := by rw [finN, if_neg q1, if_pos hp]
        by_cases ql : g n < lsN g n
        · have e1 : lsN g (n + 1) = g n := by rw [lsN]; unfold lsF; rw [if_pos ⟨hp, ql⟩]
          have ea : atlN g (g n) (n + 1) = 1 := by rw [atlN, if_neg q1, if_pos ⟨hp, rfl⟩, hlt ql]; rfl
          unfold fgN
          rw [e1, eo, ef, ea, if_neg (show ¬ (opnN g n = 0 ∧ (1 : Int) < 1) from fun h => absurd h.2 (by decide))]
          split <;> omega
        · have e1 : lsN g (n + 1) = lsN g n := by rw [lsN]; unfold lsF; rw [if_neg (by omega)]
          by_cases qe : g n = lsN g n
          · have ea : atlN g (lsN g n) (n + 1) = atlN g (lsN g n) n + 1 := by rw [atlN, if_neg q1, if_pos ⟨hp, qe⟩]
            unfold fgN
            rw [e1, eo, ef, ea]
            split <;> split <;> omega
          · have ea : atlN g (lsN g n) (n + 1) = atlN g (lsN g n) n := by rw [atlN, if_neg q1, if_neg (fun h => qe h.2)]; omega
            unfold fgN
            rw [e1, eo, ef, ea]
            split <;> omega
  · rw [msN]; unfold msF; split <;> omega
  · rw [silN]; split <;> omega
/-! bits again -/
def bI (x : Int) (i : Nat) : Bool := (iZ x).toBitVec.getLsbD i
theorem bI_and (a b : Int) (i : Nat) : bI (zand a b) i = (bI a i && bI b i) := by
  unfold bI zand
  rw [iZ_of, show (iZ a &&& iZ b).toBitVec = (iZ a).toBitVec &&& (iZ b).toBitVec from rfl, BitVec.getLsbD_and]
theorem bI_or (a b : Int) (i : Nat) : bI (zor a b) i = (bI a i || bI b i) := by
  unfold bI zor
  rw [iZ_of, show (iZ a ||| iZ b).toBitVec = (iZ a).toBitVec ||| (iZ b).toBitVec from rfl, BitVec.getLsbD_or]
theorem bI_m1 : ∀ i : Nat, i < 32 → bI (-1) i = true := by decide +kernel
theorem bI_not (a : Int) {i : Nat} (h : i < 32) : bI (zxor a (-1)) i = !bI a i := by
  have h1 := bI_m1 i h
  unfold bI at h1 ⊢
  unfold zxor
  rw [iZ_of, show (iZ a ^^^ iZ (-1)).toBitVec = (iZ a).toBitVec ^^^ (iZ (-1)).toBitVec from rfl, BitVec.getLsbD_xor, h1]
  simp
theorem bI_shl : ∀ t : Nat, t < 12 → ∀ i : Nat, i < 12 → bI (zshl 1 t) i = decide (i = t) := by decide +kernel
theorem bI_cnt (x : Int) : ∀ i : Nat, i < 12 → zand (zshr x i) 1 = if bI x i then 1 else 0 := by
  intro i hi
  have e0 : ∀ n : Nat, n < 32 → ((iZ (n : Int) &&& 31).toBitVec.smod 32).toNat = n := by decide +kernel
  have h1 : bI (zshr x i) 0 = bI x i := by
    unfold bI zshr
    rw [iZ_of]
    show (BitVec.sshiftRight' (iZ x).toBitVec ((iZ (i : Int) &&& 31).toBitVec.smod 32)).getLsbD 0 = _
    rw [BitVec.sshiftRight', e0 i (by omega), BitVec.getLsbD_sshiftRight]
    simp [show i < 32 by omega]
  rw [← h1]
  have h2 : ∀ y : Int, zand y 1 = if bI y 0 then 1 else 0 := by
    intro y
    unfold zand bI
    show (((iZ y).toBitVec &&& 1#32).toInt) = _
    rw [BitVec.and_one_eq_setWidth_ofBool_getLsbD]
    cases (iZ y).toBitVec.getLsbD 0 <;> decide
  exact h2 _
def cntB (f : Nat → Bool) : Nat → Int
  | 0 => 0
  | n + 1 => cntB f n + if f n then 1 else 0
theorem cntN_B (x : Int) : ∀ n : Nat, n ≤ 12 → cntN x n = cntB (bI x) n
  | 0, _ => rfl
  | n + 1, h => by rw [cntN, cntB, cntN_B x n (by omega), bI_cnt x n (by omega)]
theorem cntB_eq {f g : Nat → Bool} : ∀ n : Nat, (∀ i, i < n → f i = g i) → cntB f n = cntB g n
  | 0, _ => rfl
  | n + 1, h => by rw [cntB, cntB, cntB_eq n (fun i hi => h i (by omega)), h n (by omega)]
theorem cntB_step (a s : Nat → Bool) (t : Nat) : ∀ n : Nat, cntB (fun i => a i && !s i) n - (if t < n then 1 else 0) ≤ cntB (fun i => a i && !(s i || decide (i = t))) n
  | 0 => by simp [cntB]
  | n + 1 => by
    have ih := cntB_step a s t n
    rw [cntB, cntB]
    by_cases e : n = t
    · subst e
      rw [if_neg (Nat.lt_irrefl n)] at ih
      rw [if_pos (Nat.lt_succ_self n)]
      have : (if (a n && !s n) = true then (1 : Int) else 0) ≤ 1 := by split <;> omega
      have h2 : (0 : Int) ≤ if (a n && !(s n || decide (n = n))) = true then 1 else 0 := by split <;> omega
      omega
    · have h3 : (a n && !(s n || decide (n = t))) = (a n && !s n) := by simp [e]
      rw [h3]
      have h4 : (if t < n + 1 then (1 : Int) else 0) = if t < n then 1 else 0 := by
        by_cases q : t < n
        · rw [if_pos q, if_pos (by omega)]
        · rw [if_neg q, if_neg (by omega)]
      rw [h4]
      omega
theorem cnt_snd (nd s : Int) {t : Int} (ht : 0 ≤ t ∧ t < 12) : cntN (zand nd (zxor s (-1))) 12 - 1 ≤ cntN (zand nd (zxor (zor s (zshl 1 t)) (-1))) 12 := by
  rw [cntN_B _ 12 (by omega), cntN_B _ 12 (by omega)]
  have e1 : cntB (bI (zand nd (zxor s (-1)))) 12 = cntB (fun i => bI nd i && !bI s i) 12 := cntB_eq 12 (fun i hi => by rw [bI_and, bI_not s (by omega)])
  have e2 : cntB (bI (zand nd (zxor (zor s (zshl 1 t)) (-1)))) 12 = cntB (fun i => bI nd i && !(bI s i || decide (i = t.toNat))) 12 := cntB_eq 12 (fun i hi => by
    have h := bI_shl t.toNat (by omega) i hi
    rw [show ((t.toNat : Nat) : Int) = t by omega] at h
    rw [bI_and, bI_not _ (by omega), bI_or, h])
  rw [e1, e2]
  have := cntB_step (bI nd) (bI s) t.toNat 12
  rw [if_pos (by omega)] at this
  exact this
theorem cntB_0 {f : Nat → Bool} : ∀ n : Nat, 0 ≤ cntB f n ∧ (cntB f n ≤ 0 → ∀ i, i < n → f i = false)
  | 0 => ⟨Int.le_refl _, fun _ i hi => absurd hi (Nat.not_lt_zero _)⟩
  | n + 1 => by
    obtain ⟨h1, h2⟩ := cntB_0 (f := f) n
    rw [cntB]
    cases e : f n with
    | false =>
      refine ⟨by simp; exact h1, fun h i hi => ?_⟩
      by_cases q : i = n
      · rw [q, e]
      · exact h2 (by simpa using h) i (by omega)
    | true => exact ⟨by simp; omega, fun h => by simp at h; omega⟩
theorem cnt_0 {x : Int} (hx : 0 ≤ x ∧ x < 4096) (h : cntN x 12 ≤ 0) : x = 0 := by
  rw [cntN_B _ 12 (by omega)] at h
  have h2 := (cntB_0 (f := bI x) 12).2 h
  have e : x.toNat = 0 := by
    refine Nat.eq_of_testBit_eq (fun i => ?_)
    rw [Nat.zero_testBit]
    by_cases q : i < 12
    · have := h2 i q
      unfold bI at this
      rw [BitVec.getLsbD, iZ_nat (by omega)] at this
      exact this
    · exact Nat.testBit_lt_two_pow (Nat.lt_of_lt_of_le (show x.toNat < 2 ^ 12 by omega) (Nat.pow_le_pow_right (by omega) (by omega)))
  omega
theorem cnt_n0 {x : Int} (h : 0 < cntN x 12) : x ≠ 0 := fun e => by
  rw [e] at h
  exact absurd h (by decide +kernel)
/-! what a hand can't do without -/
def ndX (rt t : Int) : Int := if cntN t 12 < 4 then t else zand t (zxor (zshl 1 ((rt + 7).tmod 12)) (-1))
theorem zand_sw (a b c : Int) : zand (zand a b) c = zand (zand a c) b := by
  unfold zand
  rw [iZ_of, iZ_of, Int32.and_assoc, Int32.and_comm (iZ b), ← Int32.and_assoc]
theorem stL_eq {pt : Int → Int} {n : Nat} {bar tones rt bs : Int} {p : List Int} (hp : p.length = n) : stL pt n bar tones rt bs p = if lowN (gL p) pt bar n = 1000000000 ∨ (lowN (gL p) pt bar n).tmod 12 ≠ bs then 1000000000 else if zand (ndX rt tones) (zxor (sndN (gL p) pt bar n) (-1)) ≠ 0 then 1000000000 else if 4 < fgN (gL p) n then 1000000000 else st0 (gL p) n := by
  unfold stL stX st0
  obtain ⟨e1, e2⟩ := lsL_all p
  rw [hp] at e1 e2
  rw [e1, e2]
  have e3 : (if cntN tones 12 < 4 then zand tones (zxor (sndN (gL p) pt bar n) (-1)) else zand (zand tones (zxor (sndN (gL p) pt bar n) (-1))) (zxor (zshl 1 ((rt + 7).tmod 12)) (-1))) = zand (ndX rt tones) (zxor (sndN (gL p) pt bar n) (-1)) := by
    unfold ndX
    split
    · rfl
    · rw [zand_sw]
  rw [e3]
  rfl
abbrev cS (g pt : Int → Int) (bar nd : Int) (d : Nat) : Int := cntN (zand nd (zxor (sndN g pt bar d) (-1))) 12
theorem cS_step {g pt : Int → Int} {bar nd : Int} {d : Nat} (hb : 0 ≤ bar) (hp : 0 ≤ pt d) (hg : -1 ≤ g d) : cS g pt bar nd d - 1 ≤ cS g pt bar nd (d + 1) := by
  unfold cS
  rw [sndN]
  split
  · omega
  · refine cnt_snd _ _ ?_
    unfold sq
    rw [Int.tmod_eq_emod_of_nonneg (by omega)]
    omega
/-- a prefix behind which nothing new is found -/
def deadP (pt : Int → Int) (bar nd : Int) (k : Nat) (p : List Int) (H : HS) : Prop := 4 < fgN (gL p) p.length ∨ (k : Int) < cS (gL p) pt bar nd p.length ∨ (H.length = 6 ∧ sj H 5 ≤ st0 (gL p) p.length)
theorem subH_dead {pt : Int → Int} {n : Nat} {bar tones rt bs : Int} (hb : 0 ≤ bar) (hpt : ∀ s : Nat, s < n → 0 ≤ pt s) : ∀ (k : Nat) (p : List Int) (H : HS), p.length + k = n → deadP pt bar (ndX rt tones) k p H → subH pt n bar tones rt bs k p H = H
  | 0, p, H, hl, hd => by
    have hpl : p.length = n := by omega
    show leafH pt n bar tones rt bs p H = H
    unfold leafH
    rw [stL_eq hpl]
    unfold deadP at hd
    rw [hpl] at hd
    by_cases c1 : lowN (gL p) pt bar n = 1000000000 ∨ (lowN (gL p) pt bar n).tmod 12 ≠ bs
    · rw [if_pos c1, if_neg (by omega)]
    · rw [if_neg c1]
      by_cases c2 : zand (ndX rt tones) (zxor (sndN (gL p) pt bar n) (-1)) ≠ 0
      · rw [if_pos c2, if_neg (by omega)]
      · rw [if_neg c2]
        by_cases c3 : 4 < fgN (gL p) n
        · rw [if_pos c3, if_neg (by omega)]
        · rw [if_neg c3]
          rcases hd with h | h | h
          · exact absurd h c3
          · exact absurd (cnt_n0 (by omega)) c2
          · split
            · refine rep_full (by omega) ?_
              rw [h.1, posN, if_neg]
              show ¬ st0 (gL p) n < hst H ((5 : Nat) : Int)
              have : hst H ((5 : Nat) : Int) = sj H 5 := rfl
              omega
            · rfl
  | k + 1, p, H, hl, hd => by
    rw [subH_s]
    have key : ∀ c : Nat, c ≤ 11 → (vals c).foldl (brH pt n bar tones rt bs k p) H = H := by
      intro c
      induction c with
      | zero => intro _; rfl
      | succ c ih =>
        intro hc
        show (vals c).foldl (brH pt n bar tones rt bs k p) (brH pt n bar tones rt bs k p H (9 - (c : Int))) = H
        have e : brH pt n bar tones rt bs k p H (9 - (c : Int)) = H := by
          unfold brH
          split
          · refine subH_dead hb hpt k (p ++ [9 - (c : Int)]) H (by rw [List.length_append, List.length_singleton]; omega) ?_
            obtain ⟨v, hv⟩ : ∃ v, v = 9 - (c : Int) := ⟨_, rfl⟩
            rw [← hv]
            have hvr : -1 ≤ v ∧ v ≤ 9 := by omega
            have hgl := gL_last p v
            obtain ⟨f1, f2, f3⟩ := fg_mono (g := gL (p ++ [v])) (n := p.length) (by rw [hgl]; exact hvr)
            obtain ⟨q1, q2, -⟩ := fg_eq (g := gL (p ++ [v])) (g2 := gL p) (n := p.length) (fun s hs => gL_snoc p v s hs)
            have q3 := (g_eq (g := gL (p ++ [v])) (g2 := gL p) (pt := pt) (bar := bar) p.length (fun s hs => gL_snoc p v s hs)).2.2.2.2.2.2.1
            have hcs := cS_step (g := gL (p ++ [v])) (pt := pt) (nd := ndX rt tones) (d := p.length) hb (hpt _ (by omega)) (by rw [hgl]; exact hvr.1)
            unfold cS at hcs
            rw [q3] at hcs
            unfold deadP cS
            rw [List.length_append, List.length_singleton]
            unfold deadP cS at hd
            rcases hd with h | h | h
            · exact Or.inl (by omega)
            · exact Or.inr (Or.inl (by omega))
            · refine Or.inr (Or.inr ⟨h.1, ?_⟩)
              have : st0 (gL (p ++ [v])) p.length ≤ st0 (gL (p ++ [v])) (p.length + 1) := by unfold st0; omega
              omega
          · rfl
        rw [e]
        exact ih (by omega)
    exact key 11 (by omega)
/-! the order of hands is that of their numbers -/
def rvL (p : List Int) : Int := rvN (gL p) p.length
def hnE (e : Int × List Int) : Int := e.1 * 16777216 + rvL e.2
def srt (H : HS) : Prop := ∀ i j : Nat, i < j → j < H.length → sj H i ≤ sj H j
def QH (n : Nat) (b : Int) (H : HS) : Prop := okHS n H ∧ H.length ≤ 6 ∧ srt H ∧ ∀ e ∈ H, rvL e.2 < b
theorem rvL_in {p : List Int} (hl : p.length ≤ 6) (hv : ∀ v ∈ p, -1 ≤ v ∧ v ≤ 9) : 0 ≤ rvL p ∧ rvL p < 16777216 := by
  have := rv_in (g := gL p) p.length hl (fun j hj => by
    unfold gL
    rw [Int.toNat_natCast, List.getD, List.getElem?_eq_getElem hj]
    exact hv _ (List.getElem_mem hj))
  have h2 := Nat.two_pow_pos (4 * (6 - p.length))
  unfold rvL
  omega
theorem rvL_snoc (p : List Int) (v : Int) : rvL (p ++ [v]) = rvL p + (v + 1) * ((2 ^ (4 * (5 - p.length)) : Nat) : Int) := by
  unfold rvL
  rw [List.length_append, List.length_singleton, rvN, gL_last, (g_eq (g := gL (p ++ [v])) (g2 := gL p) (pt := gL p) (bar := 0) p.length (fun s hs => gL_snoc p v s hs)).2.2.2.2.2.2.2.2]
theorem posN_sp {st : Int → Int} {x : Int} : ∀ n : Nat, (∀ j : Nat, posN st x n ≤ j → j < n → x < st j) ∧ (0 < posN st x n → st ((posN st x n - 1 : Nat) : Int) ≤ x)
  | 0 => ⟨fun j h1 h2 => by omega, fun h => by simp [posN] at h⟩
  | n + 1 => by
    obtain ⟨h1, h2⟩ := posN_sp (st := st) (x := x) n
    rw [posN]
    split
    · rename_i q
      refine ⟨fun j j1 j2 => ?_, h2⟩
      by_cases e : j = n
      · subst e; exact q
      · exact h1 j j1 (by omega)
    · rename_i q
      exact ⟨fun j j1 j2 => by omega, fun _ => by rw [show n + 1 - 1 = n by omega]; omega⟩
theorem sj_ins (H : HS) (x : Int) (p : List Int) {j : Nat} (hj : j < (insH H x p).length) : sj (insH H x p) j = if j < posN (hst H) x H.length then sj H j else if j = posN (hst H) x H.length then x else sj H (j - 1) := by
  unfold sj
  rw [insH_get H x p hj]
  split
  · rfl
  · split <;> rfl
theorem ins_srt {H : HS} {x : Int} {p : List Int} (h : srt H) : srt (insH H x p) := by
  intro i j hij hj
  have hl := insH_len H x p
  obtain ⟨p1, p2⟩ := posN_sp (st := hst H) (x := x) H.length
  have p0 := posN_le (hst H) x H.length
  rw [sj_ins H x p hj, sj_ins H x p (show i < _ by omega)]
  generalize hpz : posN (hst H) x H.length = z at *
  have hst2 : ∀ j : Nat, hst H (j : Int) = sj H j := fun j => by unfold hst sj; rw [Int.toNat_natCast]
  by_cases c1 : j < z
  · rw [if_pos c1, if_pos (by omega)]
    exact h i j hij (by omega)
  · rw [if_neg c1]
    by_cases c2 : j = z
    · rw [if_pos c2, if_pos (by omega)]
      have := p2 (by omega)
      rw [hst2] at this
      by_cases c3 : i = z - 1
      · rw [c3]; exact this
      · have := h i (z - 1) (by omega) (by omega)
        omega
    · rw [if_neg c2]
      have q1 := p1 (j - 1) (by omega) (by omega)
      rw [hst2] at q1
      by_cases c3 : i < z
      · rw [if_pos c3]
        exact h i (j - 1) (by omega) (by omega)
      · rw [if_neg c3]
        by_cases c4 : i = z
        · rw [if_pos c4]; omega
        · rw [if_neg c4]
          exact h (i - 1) (j - 1) (by omega) (by omega)
theorem QH_mono {n : Nat} {a b : Int} {H : HS} (h : QH n a H) (hab : a ≤ b) : QH n b H := ⟨h.1, h.2.1, h.2.2.1, fun e he => Int.lt_of_lt_of_le (h.2.2.2 e he) hab⟩
theorem leaf_Q {pt : Int → Int} {n : Nat} {bar tones rt bs : Int} {p : List Int} {H : HS} (hn : n ≤ 6) (hp : p.length = n) (hv : ∀ v ∈ p, -1 ≤ v ∧ v ≤ 9) (h : QH n (rvL p) H) : QH n (rvL p + 1) (leafH pt n bar tones rt bs p H) := by
  obtain ⟨h1, h2, h3, h4⟩ := h
  refine ⟨leafH_ok hn hp hv h1, ?_, ?_, ?_⟩
  · unfold leafH
    split
    · rw [insH_len]; omega
    · exact h2
  · unfold leafH
    split
    · exact ins_srt h3
    · exact h3
  · intro e he
    unfold leafH at he
    split at he
    · rcases insH_mem he with q | q
      · have := h4 e q; omega
      · rw [q]; show rvL p < _; omega
    · have := h4 e he; omega
theorem sub_Q {pt : Int → Int} {n : Nat} {bar tones rt bs : Int} (hn : n ≤ 6) : ∀ (k : Nat) (p : List Int) (H : HS), p.length + k = n → (∀ v ∈ p, -1 ≤ v ∧ v ≤ 9) → QH n (rvL p) H → QH n (rvL p + ((2 ^ (4 * (6 - p.length)) : Nat) : Int)) (subH pt n bar tones rt bs k p H)
  | 0, p, H, hl, hv, h => by
    have := leaf_Q (pt := pt) (bar := bar) (tones := tones) (rt := rt) (bs := bs) hn (by omega) hv h
    refine QH_mono this ?_
    have := Nat.two_pow_pos (4 * (6 - p.length))
    omega
  | k + 1, p, H, hl, hv, h => by
    obtain ⟨w, hw⟩ : ∃ w : Nat, w = 2 ^ (4 * (5 - p.length)) := ⟨_, rfl⟩
    have hw0 : 0 < w := by rw [hw]; exact Nat.two_pow_pos _
    have key : ∀ c : Nat, c ≤ 11 → ∀ H : HS, QH n (rvL p + (11 - (c : Int)) * (w : Int)) H → QH n (rvL p + 11 * (w : Int)) ((vals c).foldl (brH pt n bar tones rt bs k p) H) := by
      intro c
      induction c with
      | zero => intro _ H h; simpa [vals] using h
      | succ c ih =>
        intro hc H h
        show QH n _ ((vals c).foldl (brH pt n bar tones rt bs k p) (brH pt n bar tones rt bs k p H (9 - (c : Int))))
        refine ih (by omega) _ ?_
        unfold brH
        have e11 : (11 - ((c + 1 : Nat) : Int)) = 9 - (c : Int) + 1 := by omega
        rw [e11] at h
        have hz : (11 - (c : Int)) * (w : Int) = (9 - (c : Int) + 1) * (w : Int) + w := by
          rw [show (11 - (c : Int)) = (9 - (c : Int) + 1) + 1 by omega, Int.add_mul, Int.one_mul]
        split
        · have hs := sub_Q (pt := pt) (bar := bar) (tones := tones) (rt := rt) (bs := bs) hn k (p ++ [9 - (c : Int)]) H (by rw [List.length_append, List.length_singleton]; omega) (fun v hv2 => by
            rcases List.mem_append.mp hv2 with q | q
            · exact hv v q
            · rw [List.mem_singleton.mp q]; omega) (by rw [rvL_snoc, ← hw]; exact h)
          rw [rvL_snoc, ← hw, List.length_append, List.length_singleton, show 4 * (6 - (p.length + 1)) = 4 * (5 - p.length) by omega, ← hw] at hs
          refine QH_mono hs ?_
          omega
        · refine QH_mono h ?_
          omega
    have h2 := key 11 (by omega) H (by simpa using h)
    rw [subH_s]
    refine QH_mono h2 ?_
    have : ((2 ^ (4 * (6 - p.length)) : Nat) : Int) = 16 * (w : Int) := by
      rw [show 4 * (6 - p.length) = 4 * (5 - p.length) + 4 by omega, Nat.pow_add, hw, Int.natCast_mul, Int.mul_comm]
      rfl
    omega
theorem hn_lt {n : Nat} {x : Int} {p : List Int} {e : Int × List Int} (hn : n ≤ 6) (he : okE n e) (hp : p.length = n) (hv : ∀ v ∈ p, -1 ≤ v ∧ v ≤ 9) (h : rvL e.2 < rvL p) : (x < e.1 ↔ hnE (x, p) < hnE e) ∧ hnE e ≠ hnE (x, p) := by
  have h1 := rvL_in (p := p) (by omega) hv
  have h2 := rvL_in (p := e.2) (by rw [he.2.1]; exact hn) he.2.2
  unfold hnE
  constructor
  · constructor <;> (intro q; dsimp only at *; omega)
  · dsimp only; omega
theorem hn_in {n : Nat} {e : Int × List Int} (hn : n ≤ 6) (he : okE n e) : 0 ≤ hnE e ∧ hnE e < 1023410176 ∧ hnE e / 16777216 = e.1 := by
  have h2 := rvL_in (p := e.2) (by rw [he.2.1]; exact hn) he.2.2
  have h3 := he.1
  unfold hnE
  omega
