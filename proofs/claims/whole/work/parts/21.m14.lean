/-! hands: the first six, found string by string -/
abbrev HS : Type := List (Int × List Int)
def lsF (l f : Int) : Int := if 0 < f ∧ f < l then f else l
def msF (m f : Int) : Int := if m < f then f else m
def lsL (p : List Int) : Int := p.foldl lsF 99
def msL (p : List Int) : Int := p.foldl msF 0
def vals : Nat → List Int
  | 0 => []
  | c + 1 => (9 - (c : Int)) :: vals c
def hst (H : HS) (j : Int) : Int := (H.getD j.toNat (0, [])).1
def insH (H : HS) (x : Int) (p : List Int) : HS := (H.take (posN (hst H) x H.length) ++ (x, p) :: H.drop (posN (hst H) x H.length)).take 6
def gL (p : List Int) (d : Int) : Int := p.getD d.toNat 0
def stL (pt : Int → Int) (n : Nat) (bar tones rt bs : Int) (p : List Int) : Int := stX (gL p) pt n bar tones (lsL p) (msL p) rt bs
def leafH (pt : Int → Int) (n : Nat) (bar tones rt bs : Int) (p : List Int) (H : HS) : HS := if stL pt n bar tones rt bs p < 1000000000 then insH H (stL pt n bar tones rt bs p) p else H
abbrev okV (pt : Int → Int) (bar tones : Int) (p : List Int) (v : Int) : Prop := (v < 0 ∨ zand (zshr tones ((pt p.length + bar + v).tmod 12)) 1 ≠ 0) ∧ ¬ (lsL (p ++ [v]) < 99 ∧ 3 < msL (p ++ [v]) - lsL (p ++ [v]))
def subH (pt : Int → Int) (n : Nat) (bar tones rt bs : Int) : Nat → List Int → HS → HS
  | 0, p, H => leafH pt n bar tones rt bs p H
  | k + 1, p, H => (vals 11).foldl (fun H v => if okV pt bar tones p v then subH pt n bar tones rt bs k (p ++ [v]) H else H) H
def brH (pt : Int → Int) (n : Nat) (bar tones rt bs : Int) (k : Nat) (p : List Int) (H : HS) (v : Int) : HS := if okV pt bar tones p v then subH pt n bar tones rt bs k (p ++ [v]) H else H
theorem subH_s (pt : Int → Int) (n : Nat) (bar tones rt bs : Int) (k : Nat) (p : List Int) (H : HS) : subH pt n bar tones rt bs (k + 1) p H = (vals 11).foldl (brH pt n bar tones rt bs k p) H := rfl
/-- the first six hands of a chord at a bar -/
def hdX (pt : Int → Int) (n : Nat) (bar tones rt bs : Int) : HS := if n = 0 then [] else subH pt n bar tones rt bs n [] []
theorem lsL_snoc (p : List Int) (v : Int) : lsL (p ++ [v]) = lsF (lsL p) v := by unfold lsL; rw [List.foldl_append]; rfl
theorem msL_snoc (p : List Int) (v : Int) : msL (p ++ [v]) = msF (msL p) v := by unfold msL; rw [List.foldl_append]; rfl
theorem lm_in {p : List Int} (h : ∀ d : Nat, d < p.length → -1 ≤ p.getD d 0 ∧ p.getD d 0 ≤ 9) : (0 ≤ lsL p ∧ lsL p ≤ 99) ∧ (0 ≤ msL p ∧ msL p ≤ 9) := by
  have key : ∀ (q : List Int) (l m : Int), (0 ≤ l ∧ l ≤ 99) → (0 ≤ m ∧ m ≤ 9) → (∀ v ∈ q, -1 ≤ v ∧ v ≤ 9) → (0 ≤ q.foldl lsF l ∧ q.foldl lsF l ≤ 99) ∧ (0 ≤ q.foldl msF m ∧ q.foldl msF m ≤ 9) := by
    intro q
    induction q with
    | nil => intro l m hl hm _; exact ⟨hl, hm⟩
    | cons v q ih =>
      intro l m hl hm hv
      have h1 := hv v List.mem_cons_self
      refine ih (lsF l v) (msF m v) ?_ ?_ (fun w hw => hv w (List.mem_cons_of_mem _ hw))
      · unfold lsF; split <;> omega
      · unfold msF; split <;> omega
  refine key p 99 0 (by omega) (by omega) (fun v hv => ?_)
  obtain ⟨d, hd, e⟩ := List.getElem_of_mem hv
  have := h d hd
  rw [List.getD, List.getElem?_eq_getElem hd, e] at this
  exact this
theorem posN_eq {s t : Int → Int} {x : Int} : ∀ k : Nat, (∀ j : Nat, j < k → s j = t j) → posN s x k = posN t x k
  | 0, _ => rfl
  | k + 1, h => by rw [posN, posN, h k (by omega), posN_eq k (fun j hj => h j (by omega))]
theorem stX_eq {g g2 pt : Int → Int} {n : Nat} {bar tones ls ms rt bs : Int} (h : ∀ s : Nat, s < n → g s = g2 s) : stX g pt n bar tones ls ms rt bs = stX g2 pt n bar tones ls ms rt bs := by
  have key : ∀ k : Nat, k ≤ n → sndN g pt bar k = sndN g2 pt bar k ∧ lowN g pt bar k = lowN g2 pt bar k ∧ silN g k = silN g2 k ∧ opnN g k = opnN g2 k ∧ finN g k = finN g2 k ∧ atlN g ls k = atlN g2 ls k := by
    intro k
    induction k with
    | zero => intro _; exact ⟨rfl, rfl, rfl, rfl, rfl, rfl⟩
    | succ k ih =>
      intro hk
      obtain ⟨h1, h2, h3, h4, h5, h6⟩ := ih (by omega)
      have e := h k (by omega)
      have e2 : sq g pt bar k = sq g2 pt bar k := by unfold sq; rw [e]
      rw [sndN, sndN, lowN, lowN, silN, silN, opnN, opnN, finN, finN, atlN, atlN, h1, h2, h3, h4, h5, h6, e, e2]
      exact ⟨rfl, rfl, rfl, rfl, rfl, rfl⟩
  obtain ⟨h1, h2, h3, h4, h5, h6⟩ := key n (Nat.le_refl _)
  unfold stX
  rw [h1, h2, h3, h4, h5, h6]
theorem zand1 (x : Int) : zand x 1 = 0 ∨ zand x 1 = 1 := by
  unfold zand
  obtain ⟨j, hj, e⟩ := pk_andE (iZ x) (m := iZ 1) 1 (by decide)
  rw [e, nI_toInt (by omega)]
  omega
theorem cntN_in (b : Int) : ∀ n : Nat, 0 ≤ cntN b n ∧ cntN b n ≤ n
  | 0 => by simp [cntN]
  | n + 1 => by
    have h1 := cntN_in b n
    have h2 := zand1 (zshr b n)
    rw [cntN]
    omega
/-- a place's hands as the reference keeps them -/
def repH (A : Nat → Int → Int) (a : Int) (n : Nat) (H : HS) : Prop := A 38 a = (H.length : Int) ∧ H.length ≤ 6 ∧ ∀ j : Nat, j < H.length → (A 40 (6 * a + j) = (H.getD j (0, [])).1 ∧ inR (A 40 (6 * a + j))) ∧ ∀ s : Nat, s < n → A 39 (36 * a + 6 * j + s) = (H.getD j (0, [])).2.getD s 0
/-- nothing of another place changes -/
def frF (A : Nat → Int → Int) (a : Int) (A1 : Nat → Int → Int) : Prop := (∀ k, k ≠ 38 → k ≠ 39 → k ≠ 40 → k ≠ 41 → k ≠ 42 → k ≠ 43 → A1 k = A k) ∧ (∀ q, q ≠ a → A1 38 q = A 38 q) ∧ (∀ q, ¬ (6 * a ≤ q ∧ q < 6 * a + 6) → A1 40 q = A 40 q) ∧ (∀ q, ¬ (36 * a ≤ q ∧ q < 36 * a + 36) → A1 39 q = A 39 q)
theorem insH_len (H : HS) (x : Int) (p : List Int) : (insH H x p).length = min 6 (H.length + 1) := by
  have := posN_le (hst H) x H.length
  unfold insH
  rw [List.length_take, List.length_append, List.length_cons, List.length_take, List.length_drop]
  omega
theorem insH_get (H : HS) (x : Int) (p : List Int) {j : Nat} (hj : j < (insH H x p).length) : (insH H x p).getD j (0, []) = if j < posN (hst H) x H.length then H.getD j (0, []) else if j = posN (hst H) x H.length then (x, p) else H.getD (j - 1) (0, []) := by
  have h1 := posN_le (hst H) x H.length
  rw [insH_len] at hj
  unfold insH
  rw [List.getD, List.getElem?_take_of_lt (by omega)]
  by_cases e : j < posN (hst H) x H.length
  · rw [if_pos e, List.getElem?_append_left (by rw [List.length_take]; omega), List.getElem?_take_of_lt e]
    rfl
  · rw [if_neg e, List.getElem?_append_right (by rw [List.length_take]; omega), List.length_take, Nat.min_eq_left h1]
    by_cases e2 : j = posN (hst H) x H.length
    · rw [if_pos e2, e2, Nat.sub_self]
      rfl
    · rw [if_neg e2]
      obtain ⟨d, hd⟩ : ∃ d, j - posN (hst H) x H.length = d + 1 := ⟨j - posN (hst H) x H.length - 1, by omega⟩
      rw [hd, List.getElem?_cons_succ, List.getElem?_drop, show posN (hst H) x H.length + d = j - 1 by omega]
      rfl
theorem rep_pos {A : Nat → Int → Int} {a x : Int} {n : Nat} {H : HS} (h : repH A a n H) : posN (fun j => A 40 (6 * a + j)) x (A 38 a).toNat = posN (hst H) x H.length := by
  rw [h.1, Int.toNat_natCast]
  refine posN_eq _ (fun j hj => ?_)
  unfold hst
  rw [Int.toNat_natCast]
  exact ((h.2.2 j hj).1).1
theorem rep_full {H : HS} {x : Int} {p : List Int} (h6 : H.length ≤ 6) (h : posN (hst H) x H.length = 6) : insH H x p = H := by
  have := posN_le (hst H) x H.length
  unfold insH
  rw [h, List.take_append_of_le_length (by rw [List.length_take]; omega), List.take_take, Nat.min_self, List.take_of_length_le (by omega)]
theorem rep_ins {I : Nat → Int} {A : Nat → Int → Int} {a x M : Int} {n : Nat} {H : HS} {p : List Int} {u : sM} (hx : inR x) (h9 : I 9 = n) (hn : n ≤ 6) (h : repH A a n H) (hp : ∀ s : Nat, s < n → A 41 s = p.getD s 0) (hlt : posN (hst H) x H.length < 6) (hM : M = if A 38 a < 6 then A 38 a + 1 else 6) (hc : comesP I A a x (posN (hst H) x H.length) M u) : repH u.2 a n (insH H x p) := by
  obtain ⟨-, f0, f38, f40, f39⟩ := hc
  obtain ⟨r1, r2, r3⟩ := h
  have hpl := posN_le (hst H) x H.length
  have hln := insH_len H x p
  have hML : M = ((insH H x p).length : Int) := by rw [hM, r1, hln]; split <;> omega
  refine ⟨by rw [f38 a, if_pos rfl, hML], by omega, fun j hj => ?_⟩
  rw [insH_get H x p hj]
  obtain ⟨ps, hps⟩ : ∃ z, z = posN (hst H) x H.length := ⟨_, rfl⟩
  rw [← hps] at f40 f39 hpl hlt ⊢
  rw [f40 (6 * a + j)]
  by_cases e : j < ps
  · rw [if_pos e, if_neg (by omega), if_neg (by omega)]
    refine ⟨(r3 j (by omega)).1, fun s hs => ?_⟩
    rw [f39, if_neg (by omega), if_neg (by omega)]
    exact (r3 j (by omega)).2 s hs
  · rw [if_neg e]
    by_cases e2 : j = ps
    · rw [if_pos e2, if_pos (by omega)]
      refine ⟨⟨rfl, hx⟩, fun s hs => ?_⟩
      rw [f39, if_pos (by omega), show 36 * a + 6 * (j : Int) + s - (36 * a + 6 * (ps : Int)) = (s : Int) by omega]
      exact hp s hs
    · rw [if_neg e2, if_neg (by omega), if_pos (by omega)]
      have r4 := r3 (j - 1) (by omega)
      rw [show 6 * a + (j : Int) - 1 = 6 * a + ((j - 1 : Nat) : Int) by omega]
      refine ⟨r4.1, fun s hs => ?_⟩
      rw [f39, if_neg (by omega), if_pos (by omega), show 36 * a + 6 * (j : Int) + s - 6 = 36 * a + 6 * ((j - 1 : Nat) : Int) + s by omega]
      exact r4.2 s hs
