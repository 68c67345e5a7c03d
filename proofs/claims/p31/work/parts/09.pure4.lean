/-! the model's own ways: sessions' places, how many steps are passed from a place, spans, ranks -/
section
variable {us ids tms ord : Nat → Nat} {n gp u my : Nat} {ow : Nat → Nat} {sn : Nat} {bg : Nat → Nat}
theorem LKok.hbl (hn : n ≤ 250) (h : LKok us ids tms ord n gp u my ow sn bg) {s : Nat} (hs : s < sn) : bg s < bg (s + 1) ∧ bg (s + 1) ≤ my := by
  have hm := h.le
  obtain ⟨h1, h2, h3, h4⟩ := h
  rw [h4 s (by omega), h4 (s + 1) (by omega)]
  rw [← h1] at h3
  have hsn := fb_ct_le (bs (tau us ids tms ord n u) gp) my
  obtain ⟨p, a1, a2, a3⟩ := fb_ct_kth (show s < fb_ct (bs (tau us ids tms ord n u) gp) my by omega)
  rw [sbL_pos (show my < 2 ^ 31 by omega) a1 a2 a3 my 0 (by omega) (Nat.zero_le _)]
  by_cases hq : s + 1 < sn
  · obtain ⟨p2, b1, b2, b3⟩ := fb_ct_kth (show s + 1 < fb_ct (bs (tau us ids tms ord n u) gp) my by omega)
    rw [sbL_pos (show my < 2 ^ 31 by omega) b1 b2 b3 my 0 (by omega) (Nat.zero_le _)]
    refine ⟨?_, by omega⟩
    by_cases hp : p2 ≤ p
    · have := fb_ct_mono (bs (tau us ids tms ord n u) gp) hp
      omega
    · omega
  · rw [sbL_end (show my < 2 ^ 31 by omega) (show fb_ct _ my ≤ s + 1 by omega) (by omega) my 0 (by omega)]
    exact ⟨a1, Nat.le_refl _⟩
theorem LKok.hbl0 (hn : n ≤ 250) (h : LKok us ids tms ord n gp u my ow sn bg) {s : Nat} (hs : s < sn) : bg s < my := by
  have := h.hbl hn hs
  omega
theorem LKok.ow_lt (hI : Inv us ids tms ord n) (h : LKok us ids tms ord n gp u my ow sn bg) {i : Nat} (hi : i < my) : ow i < 250 := by
  rw [h.how hi]
  rw [h.1] at hi
  obtain ⟨k, -, -, -, h4⟩ := evl_at (f := uf us ids ord u) (ord := ord) (n := n) (j := i) hi
  rw [show Em us ids ord n u i = ord k from h4]
  exact hI.hor k
theorem LKok.hta (h : LKok us ids tms ord n gp u my ow sn bg) {i : Nat} (hi : i < my) : tms (ow i) = tau us ids tms ord n u i := by rw [h.how hi]
theorem LKok.hka {kd : Nat → Int32} (h : LKok us ids tms ord n gp u my ow sn bg) {i : Nat} (hi : i < my) : kd (ow i) = kap us ids kd ord n u i := by rw [h.how hi]
theorem tau_sort2 (hI : Inv us ids tms ord n) : ∀ d i, i + d < mm us ids ord n u → tau us ids tms ord n u i ≤ tau us ids tms ord n u (i + d)
  | 0, i, _ => Nat.le_refl _
  | d + 1, i, hd => Nat.le_trans (tau_sort2 hI d i (by omega)) (tau_sort hI (i + d) hd)
theorem LKok.so (hI : Inv us ids tms ord n) (h : LKok us ids tms ord n gp u my ow sn bg) : ∀ i j, i ≤ j → j < my → tms (ow i) ≤ tms (ow j) := by
  intro i j hij hj
  rw [h.hta hj, h.hta (show i < my by omega)]
  have := tau_sort2 (u := u) hI (j - i) i (by rw [← h.1]; omega)
  rwa [show i + (j - i) = j by omega] at this
end
section
variable {kq : Nat → Int32} {tq : Nat → Nat} {m cnt win : Nat} {stp : Nat → Int32} {pl k p : Nat}
/-- how many steps are passed, begun at the place pl, gone on with from k, with p passed so far -/
def pfL (kq : Nat → Int32) (tq : Nat → Nat) (cnt win : Nat) (stp : Nat → Int32) (pl : Nat) : Nat → Nat → Nat → Nat
  | 0, _, p => p
  | r + 1, k, p => if p < cnt ∧ tq k ≤ tq pl + win then (if kq k = stp p then pfL kq tq cnt win stp pl r (k + 1) (p + 1) else if k = pl then 0 else pfL kq tq cnt win stp pl r (k + 1) p) else p
def gP (kq : Nat → Int32) (tq : Nat → Nat) (m cnt win : Nat) (stp : Nat → Int32) (pl : Nat) : Nat := pfL kq tq cnt win stp pl (m - pl) pl 0
theorem pf_e1 (h : m ≤ k) : pfL kq tq cnt win stp pl (m - k) k p = p := by rw [show m - k = 0 by omega]; rfl
theorem pf_e2 (h : cnt ≤ p) : pfL kq tq cnt win stp pl (m - k) k p = p := by
  cases hm : m - k with
  | zero => rfl
  | succ r => exact if_neg (by omega)
theorem pf_e3 (h : tq pl + win < tq k) : pfL kq tq cnt win stp pl (m - k) k p = p := by
  cases hm : m - k with
  | zero => rfl
  | succ r => exact if_neg (by omega)
theorem pf_y (h : k < m) (h1 : p < cnt) (h2 : tq k ≤ tq pl + win) (h3 : kq k = stp p) : pfL kq tq cnt win stp pl (m - (k + 1)) (k + 1) (p + 1) = pfL kq tq cnt win stp pl (m - k) k p := by
  rw [show m - k = (m - (k + 1)) + 1 by omega]
  exact ((if_pos ⟨h1, h2⟩).trans (if_pos h3)).symm
theorem pf_0 (h : k < m) (h1 : p < cnt) (h2 : tq k ≤ tq pl + win) (h3 : ¬ kq k = stp p) (h4 : k = pl) : pfL kq tq cnt win stp pl (m - k) k p = 0 := by
  rw [show m - k = (m - (k + 1)) + 1 by omega]
  exact ((if_pos ⟨h1, h2⟩).trans (if_neg h3)).trans (if_pos h4)
theorem pf_n (h : k < m) (h1 : p < cnt) (h2 : tq k ≤ tq pl + win) (h3 : ¬ kq k = stp p) (h4 : k ≠ pl) : pfL kq tq cnt win stp pl (m - (k + 1)) (k + 1) p = pfL kq tq cnt win stp pl (m - k) k p := by
  rw [show m - k = (m - (k + 1)) + 1 by omega]
  exact (((if_pos ⟨h1, h2⟩).trans (if_neg h3)).trans (if_neg h4)).symm
theorem pf_le : ∀ r k p, p ≤ cnt → pfL kq tq cnt win stp pl r k p ≤ cnt
  | 0, _, _, h => h
  | r + 1, k, p, h => by
    unfold pfL
    split
    · rename_i h1
      split
      · exact pf_le r (k + 1) (p + 1) (by omega)
      · split
        · exact Nat.zero_le _
        · exact pf_le r (k + 1) p h
    · exact h
theorem gP_le : gP kq tq m cnt win stp pl ≤ cnt := pf_le _ _ _ (Nat.zero_le _)
theorem pf_cong {kq2 : Nat → Int32} {tq2 : Nat → Nat} (hk : ∀ j, j < m → kq j = kq2 j) (ht : ∀ j, j < m → tq j = tq2 j) (hp : pl < m) : ∀ r k p, k + r ≤ m → pfL kq tq cnt win stp pl r k p = pfL kq2 tq2 cnt win stp pl r k p
  | 0, _, _, _ => rfl
  | r + 1, k, p, h => by
    unfold pfL
    rw [hk k (by omega), ht k (by omega), ht pl hp, pf_cong hk ht hp r (k + 1) (p + 1) (by omega), pf_cong hk ht hp r (k + 1) p (by omega)]
theorem gP_cong {kq2 : Nat → Int32} {tq2 : Nat → Nat} (hk : ∀ j, j < m → kq j = kq2 j) (ht : ∀ j, j < m → tq j = tq2 j) (hp : pl < m) : gP kq tq m cnt win stp pl = gP kq2 tq2 m cnt win stp pl := pf_cong hk ht hp _ _ _ (by omega)
/-- the place behind that by which the last step is passed -/
def spL (kq : Nat → Int32) (cnt : Nat) (stp : Nat → Int32) : Nat → Nat → Nat → Nat
  | 0, k, _ => k
  | r + 1, k, p => if p < cnt then (if kq k = stp p then spL kq cnt stp r (k + 1) (p + 1) else spL kq cnt stp r (k + 1) p) else k
theorem sp_e (h : cnt ≤ p) : spL kq cnt stp (m - k) k p = k := by
  cases hm : m - k with
  | zero => rfl
  | succ r => exact if_neg (by omega)
theorem sp_y (h : k < m) (h1 : p < cnt) (h3 : kq k = stp p) : spL kq cnt stp (m - (k + 1)) (k + 1) (p + 1) = spL kq cnt stp (m - k) k p := by
  rw [show m - k = (m - (k + 1)) + 1 by omega]
  exact ((if_pos h1).trans (if_pos h3)).symm
theorem sp_n (h : k < m) (h1 : p < cnt) (h3 : ¬ kq k = stp p) : spL kq cnt stp (m - (k + 1)) (k + 1) p = spL kq cnt stp (m - k) k p := by
  rw [show m - k = (m - (k + 1)) + 1 by omega]
  exact ((if_pos h1).trans (if_neg h3)).symm
theorem sp_cong {kq2 : Nat → Int32} (hk : ∀ j, j < m → kq j = kq2 j) : ∀ r k p, k + r ≤ m → spL kq cnt stp r k p = spL kq2 cnt stp r k p
  | 0, _, _, _ => rfl
  | r + 1, k, p, h => by
    unfold spL
    rw [hk k (by omega), sp_cong hk r (k + 1) (p + 1) (by omega), sp_cong hk r (k + 1) p (by omega)]
theorem sp_le : ∀ r k p, k ≤ spL kq cnt stp r k p ∧ spL kq cnt stp r k p ≤ k + r
  | 0, k, p => ⟨Nat.le_refl _, Nat.le_refl _⟩
  | r + 1, k, p => by
    unfold spL
    have h1 := sp_le r (k + 1) (p + 1)
    have h2 := sp_le r (k + 1) p
    split
    · split <;> omega
    · omega
theorem pf_step (h : pfL kq tq cnt win stp pl (m - k) k p = cnt) (hp : p < cnt) : k < m ∧ (kq k = stp p → pfL kq tq cnt win stp pl (m - (k + 1)) (k + 1) (p + 1) = cnt) ∧ (¬ kq k = stp p → pfL kq tq cnt win stp pl (m - (k + 1)) (k + 1) p = cnt) := by
  by_cases hk : k < m
  · by_cases ht : tq k ≤ tq pl + win
    · refine ⟨hk, fun h3 => (pf_y hk hp ht h3).trans h, fun h3 => ?_⟩
      by_cases h4 : k = pl
      · rw [pf_0 hk hp ht h3 h4] at h
        omega
      · exact (pf_n hk hp ht h3 h4).trans h
    · rw [pf_e3 (by omega)] at h
      omega
  · rw [pf_e1 (by omega)] at h
    omega
/-- the minutes from the place pl to that by which the last step is passed -/
def gS (kq : Nat → Int32) (tq : Nat → Nat) (m cnt : Nat) (stp : Nat → Int32) (pl : Nat) : Nat := tq (spL kq cnt stp (m - pl) pl 0 - 1) - tq pl
theorem gS_cong {kq2 : Nat → Int32} {tq2 : Nat → Nat} (hk : ∀ j, j < m → kq j = kq2 j) (ht : ∀ j, j < m → tq j = tq2 j) (hp : pl < m) : gS kq tq m cnt stp pl = gS kq2 tq2 m cnt stp pl := by
  unfold gS
  have h1 := sp_le (kq := kq2) (cnt := cnt) (stp := stp) (m - pl) pl 0
  rw [sp_cong hk (m - pl) pl 0 (by omega), ht pl hp, ht _ (by omega)]
/-- the greatest of so many -/
def mxF (f : Nat → Nat) : Nat → Nat
  | 0 => 0
  | j + 1 => max (mxF f j) (f j)
theorem mx_y {f : Nat → Nat} {j : Nat} (h : mxF f j < f j) : f j = mxF f (j + 1) := (Nat.max_eq_right (Nat.le_of_lt h)).symm
theorem mx_n {f : Nat → Nat} {j : Nat} (h : f j ≤ mxF f j) : mxF f j = mxF f (j + 1) := (Nat.max_eq_left h).symm
theorem mx_le {f : Nat → Nat} {M : Nat} (h : ∀ j, f j ≤ M) : ∀ j, mxF f j ≤ M
  | 0 => Nat.zero_le _
  | j + 1 => Nat.max_le.mpr ⟨mx_le h j, h j⟩
theorem mx_cong {f g : Nat → Nat} : ∀ {j : Nat}, (∀ i, i < j → f i = g i) → mxF f j = mxF g j
  | 0, _ => rfl
  | j + 1, h => by
    show max _ _ = max _ _
    rw [mx_cong (fun i hi => h i (by omega)), h j (by omega)]
/-- the fewest minutes over the places from which all the steps are passed -/
def fsL (g s : Nat → Nat) (cnt : Nat) : Nat → Option Nat
  | 0 => none
  | j + 1 => if g j = cnt then fmU (fsL g s cnt j) (s j) else fsL g s cnt j
theorem fs_n {g s : Nat → Nat} {j : Nat} (h : ¬ g j = cnt) : fsL g s cnt (j + 1) = fsL g s cnt j := if_neg h
theorem fs_0 {g s : Nat → Nat} {j : Nat} (h : g j = cnt) (h2 : fsL g s cnt j = none) : fsL g s cnt (j + 1) = some (s j) := (if_pos h).trans (by rw [h2]; rfl)
theorem fs_1 {g s : Nat → Nat} {j x : Nat} (h : g j = cnt) (h2 : fsL g s cnt j = some x) (h3 : s j < x) : fsL g s cnt (j + 1) = some (s j) := (if_pos h).trans (by rw [h2]; exact if_pos h3)
theorem fs_2 {g s : Nat → Nat} {j x : Nat} (h : g j = cnt) (h2 : fsL g s cnt j = some x) (h3 : x ≤ s j) : fsL g s cnt (j + 1) = some x := (if_pos h).trans (by rw [h2]; exact if_neg (by omega))
theorem fs_le {g s : Nat → Nat} {M : Nat} (h : ∀ j, s j ≤ M) : ∀ j x, fsL g s cnt j = some x → x ≤ M
  | 0, x, hx => by cases hx
  | j + 1, x, hx => by
    by_cases hg : g j = cnt
    · cases hf : fsL g s cnt j with
      | none => rw [fs_0 hg hf] at hx; cases hx; exact h j
      | some y =>
        have hy := fs_le h j y hf
        by_cases hl : s j < y
        · rw [fs_1 hg hf hl] at hx; cases hx; exact h j
        · rw [fs_2 hg hf (by omega)] at hx; cases hx; exact hy
    · rw [fs_n hg] at hx; exact fs_le h j x hx
theorem fs_cong {g s g2 s2 : Nat → Nat} : ∀ {j : Nat}, (∀ i, i < j → g i = g2 i) → (∀ i, i < j → s i = s2 i) → fsL g s cnt j = fsL g2 s2 cnt j
  | 0, _, _ => rfl
  | j + 1, h, h2 => by
    show (if _ then _ else _) = if _ then _ else _
    rw [fs_cong (fun i hi => h i (by omega)) (fun i hi => h2 i (by omega)), h j (by omega), h2 j (by omega)]
end
section
variable (us ids tms ord : Nat → Nat) (kd : Nat → Int32) (n cnt win : Nat) (stp : Nat → Int32) (gp u : Nat)
abbrev gPu (j : Nat) : Nat := gP (kap us ids kd ord n u) (tau us ids tms ord n u) (mm us ids ord n u) cnt win stp j
abbrev gSu (j : Nat) : Nat := gS (kap us ids kd ord n u) (tau us ids tms ord n u) (mm us ids ord n u) cnt stp j
def dpM : Nat := mxF (gPu us ids tms ord kd n cnt win stp u) (mm us ids ord n u)
def fsM : Option Nat := if 0 < cnt then fsL (gPu us ids tms ord kd n cnt win stp u) (gSu us ids tms ord kd n cnt stp u) cnt (mm us ids ord n u) else none
theorem dpM_le : dpM us ids tms ord kd n cnt win stp u ≤ cnt := mx_le (fun _ => gP_le) _
/-- what a user is ranked by -/
def wrR (k : Int32) : Int32 := if mm us ids ord n u = 0 then -1 else if k = 0 then nI (mm us ids ord n u) else if k = nI 1 then nI (fb_ct (bs (tau us ids tms ord n u) gp) (mm us ids ord n u)) else nI (dpM us ids tms ord kd n cnt win stp u)
def acP (dy k : Nat) : Bool := decide (us (ids k) = u) && decide (tms k / 100 = dy)
end
/-- whether there is one below -/
def exB (f : Nat → Bool) : Nat → Bool
  | 0 => false
  | k + 1 => exB f k || f k
theorem ex_y {f : Nat → Bool} {k : Nat} (h : f k = true) : ∀ d, exB f (k + 1 + d) = true
  | 0 => by show (exB f k || f k) = true; rw [h, Bool.or_true]
  | d + 1 => by show (exB f (k + 1 + d) || f (k + 1 + d)) = true; rw [ex_y h d]; rfl
theorem ex_y2 {f : Nat → Bool} {k n : Nat} (h : f k = true) (hk : k < n) : exB f n = true := by
  have := ex_y h (n - (k + 1))
  rwa [show k + 1 + (n - (k + 1)) = n by omega] at this
theorem ex_n {f : Nat → Bool} {k : Nat} (h : exB f k = false) (h2 : f k = false) : exB f (k + 1) = false := by show (exB f k || f k) = false; rw [h, h2]; rfl
theorem ex_iff {f : Nat → Bool} : ∀ {n : Nat}, exB f n = true ↔ ∃ k, k < n ∧ f k = true
  | 0 => ⟨fun h => (by cases h), fun ⟨k, h, _⟩ => absurd h (Nat.not_lt_zero _)⟩
  | n + 1 => ⟨fun h => by
      cases h2 : f n with
      | true => exact ⟨n, Nat.lt_succ_self _, h2⟩
      | false =>
        have h3 : exB f n = true := by
          have h : (exB f n || f n) = true := h
          rwa [h2, Bool.or_false] at h
        obtain ⟨k, a, b⟩ := ex_iff.mp h3
        exact ⟨k, by omega, b⟩, fun ⟨k, h, h2⟩ => ex_y2 h2 h⟩
def acB (us ids tms : Nat → Nat) (n u dy : Nat) : Bool := exB (acP us ids tms u dy) n
theorem acP_y {us ids tms : Nat → Nat} {u dy k : Nat} (h1 : us (ids k) = u) (h2 : tms k / 100 = dy) : acP us ids tms u dy k = true := by simp [acP, h1, h2]
theorem acP_n1 {us ids tms : Nat → Nat} {u dy k : Nat} (h1 : ¬ us (ids k) = u) : acP us ids tms u dy k = false := by simp [acP, h1]
theorem acP_n2 {us ids tms : Nat → Nat} {u dy k : Nat} (h2 : ¬ tms k / 100 = dy) : acP us ids tms u dy k = false := by simp [acP, h2]
/-- whether it holds at each of so many from i on -/
def alB (f : Nat → Bool) (i : Nat) : Nat → Bool
  | 0 => true
  | d + 1 => alB f i d && f (i + d)
def afS (A : Nat → Bool) : Nat → Int32
  | 0 => nI 0
  | u + 1 => afS A u ||| (if A u = true then bit1 u else nI 0)
theorem af_y {A : Nat → Bool} {u : Nat} (h : A u = true) : afS A (u + 1) = afS A u ||| bit1 u := by show _ ||| (if _ then _ else _) = _; rw [if_pos h]
theorem af_n {A : Nat → Bool} {u : Nat} (h : A u = false) : afS A (u + 1) = afS A u ||| nI 0 := by show _ ||| (if _ then _ else _) = _; rw [if_neg (by rw [h]; decide)]
/-! ranks, as the model finds them: a worth after the other, each user in turn -/
def rkStep (sc : Nat → Int32) (W u : Nat) (d : Int32 × Option Nat) : Int32 × Option Nat := if sc u = nI W then (d.1 + -1, if d.1 = 0 then some u else d.2) else d
def rkIn (sc : Nat → Int32) (W : Nat) : Nat → Int32 × Option Nat → Int32 × Option Nat
  | 0, d => d
  | u + 1, d => rkStep sc W u (rkIn sc W u d)
def rkOut (sc : Nat → Int32) : Nat → Int32 × Option Nat → Int32 × Option Nat
  | 0, d => d
  | W + 1, d => rkOut sc W (rkIn sc W 20 d)
theorem rk_n {sc : Nat → Int32} {W u : Nat} {d e : Int32 × Option Nat} (h : ¬ sc u = nI W) (he : e = rkIn sc W u d) : e = rkIn sc W (u + 1) d := by rw [he]; exact (if_neg h).symm
theorem rk_0 {sc : Nat → Int32} {W u : Nat} {d : Int32 × Option Nat} {l : Int32} {o : Option Nat} (h : sc u = nI W) (he : (l, o) = rkIn sc W u d) (h2 : l = 0) : (l + -1, some u) = rkIn sc W (u + 1) d := by
  refine Eq.trans ?_ (if_pos h).symm
  rw [← he]
  show _ = (_, if l = 0 then _ else _)
  rw [if_pos h2]
theorem rk_1 {sc : Nat → Int32} {W u : Nat} {d : Int32 × Option Nat} {l : Int32} {o : Option Nat} (h : sc u = nI W) (he : (l, o) = rkIn sc W u d) (h2 : ¬ l = 0) : (l + -1, o) = rkIn sc W (u + 1) d := by
  refine Eq.trans ?_ (if_pos h).symm
  rw [← he]
  show _ = (_, if l = 0 then _ else _)
  rw [if_neg h2]
theorem rkStep_lt {sc : Nat → Int32} {W u : Nat} {d : Int32 × Option Nat} (hu : u < 20) (h : ∀ z, d.2 = some z → z < 20) : ∀ z, (rkStep sc W u d).2 = some z → z < 20 := by
  intro z
  unfold rkStep
  split
  · show (if _ then _ else _) = _ → _
    split
    · intro hz; cases hz; exact hu
    · exact h z
  · exact h z
theorem rkIn_lt {sc : Nat → Int32} {W : Nat} {d : Int32 × Option Nat} (h : ∀ z, d.2 = some z → z < 20) : ∀ u, u ≤ 20 → ∀ z, (rkIn sc W u d).2 = some z → z < 20
  | 0, _ => h
  | u + 1, hu => rkStep_lt (by omega) (rkIn_lt h u (by omega))
def fndM (sc : Nat → Int32) (k : Int32) : Option Nat := if k < 0 then none else (rkOut sc 251 (k, none)).2
section
variable {k1 k2 : Int32}
theorem rt_0 (h : inRb k1 0 19 = false) : false = true ↔ inRb k1 0 19 = true ∧ inRb k2 0 (19 - cN k1) = true := ⟨fun q => (by cases q), fun q => by rw [h] at q; cases q.1⟩
theorem rt_1 (_ : inRb k1 0 19 = true) (h2 : k2 < 0) : false = true ↔ inRb k1 0 19 = true ∧ inRb k2 0 (19 - cN k1) = true := ⟨fun q => (by cases q), fun q => by rw [inRb_lt h2] at q; cases q.2⟩
theorem rt_s (h : inRb k1 0 19 = true) : nI 19 - k1 = nI (19 - cN k1) := by
  obtain ⟨i, -, h2, rfl⟩ := inR_nat (inRb_t.mp h) (by omega) (by omega)
  rw [cN_nI (by omega), pk_sub (by omega)]
theorem rt_2 (h : inRb k1 0 19 = true) (_ : ¬ k2 < 0) (h3 : nI 19 - k1 < k2) : false = true ↔ inRb k1 0 19 = true ∧ inRb k2 0 (19 - cN k1) = true := ⟨fun q => (by cases q), fun q => by
  rw [rt_s h] at h3
  rw [inRb_gt h3] at q
  cases q.2⟩
theorem rt_3 (h : inRb k1 0 19 = true) (h2 : ¬ k2 < 0) (h3 : ¬ nI 19 - k1 < k2) : true = true ↔ inRb k1 0 19 = true ∧ inRb k2 0 (19 - cN k1) = true := ⟨fun _ => ⟨h, by
  rw [rt_s h] at h3
  exact inRb_in h2 h3⟩, fun _ => rfl⟩
theorem ae_0 (h : inRb k1 0 19 = false) : false = true ↔ inRb k1 0 19 = true ∧ inRb k2 0 19 = true ∧ k1 ≤ k2 := ⟨fun q => (by cases q), fun q => by rw [h] at q; cases q.1⟩
theorem ae_1 (h : inRb k2 0 19 = false) : false = true ↔ inRb k1 0 19 = true ∧ inRb k2 0 19 = true ∧ k1 ≤ k2 := ⟨fun q => (by cases q), fun q => by rw [h] at q; cases q.2.1⟩
theorem ae_2 (h : k2 < k1) : false = true ↔ inRb k1 0 19 = true ∧ inRb k2 0 19 = true ∧ k1 ≤ k2 := ⟨fun q => (by cases q), fun q => absurd q.2.2 (Int32.not_le.mpr h)⟩
theorem ae_3 (h : inRb k1 0 19 = true) (h2 : inRb k2 0 19 = true) (h3 : ¬ k2 < k1) : true = true ↔ inRb k1 0 19 = true ∧ inRb k2 0 19 = true ∧ k1 ≤ k2 := ⟨fun _ => ⟨h, h2, Int32.not_lt.mp h3⟩, fun _ => rfl⟩
end
theorem fsu_lt {us ids tms ord : Nat → Nat} {kd : Nat → Int32} {n cnt win : Nat} {stp : Nat → Int32} {u : Nat} (hI : Inv us ids tms ord n) {j z : Nat} (h : fsL (gPu us ids tms ord kd n cnt win stp u) (gSu us ids tms ord kd n cnt stp u) cnt j = some z) : z < 2000 := by
  have := fs_le (M := 1999) (fun i => Nat.le_of_lt_succ (Nat.lt_of_le_of_lt (Nat.sub_le _ _) (hI.htm _))) j z h
  omega
theorem fsM_e {us ids tms ord : Nat → Nat} {kd : Nat → Int32} {n cnt win : Nat} {stp : Nat → Int32} {u j : Nat} (hm : mm us ids ord n u = j) (h : j = 0 ∨ 0 < cnt) : fsL (gPu us ids tms ord kd n cnt win stp u) (gSu us ids tms ord kd n cnt stp u) cnt j = fsM us ids tms ord kd n cnt win stp u := by
  by_cases h2 : 0 < cnt
  · refine Eq.trans ?_ (if_pos h2).symm
    rw [hm]
  · refine Eq.trans ?_ (if_neg h2).symm
    rw [show j = 0 by omega]
    rfl
theorem fsM_z {us ids tms ord : Nat → Nat} {kd : Nat → Int32} {n cnt win : Nat} {stp : Nat → Int32} {u j : Nat} (hc : cnt = 0) (h : j = 0 ∨ 0 < cnt) : fsL (gPu us ids tms ord kd n cnt win stp u) (gSu us ids tms ord kd n cnt stp u) cnt j = fsM us ids tms ord kd n cnt win stp u := by
  refine Eq.trans ?_ (if_neg (by omega)).symm
  rw [show j = 0 by omega]
  rfl
theorem ii_le {i j : Nat} (hi : i < 2 ^ 31) (hj : j < 2 ^ 31) (h : nI i ≤ nI j) : i ≤ j := by
  rw [Int32.le_iff_toInt_le, nI_toInt hi, nI_toInt hj] at h
  omega
theorem fnd_1 {sc : Nat → Int32} {k l : Int32} {o : Option Nat} {q : Nat} {f : Bool} (h : q = 0) (h2 : (q = 251 ∧ l = k ∧ o = none) ∨ (f = true ∧ ¬ k < 0)) (h3 : rkOut sc q (l, o) = rkOut sc 251 (k, none)) : fndM sc k = o := by
  subst h
  rcases h2 with h2 | h2
  · exact absurd h2.1 (by decide)
  · refine (if_neg h2.2).trans ?_
    rw [← h3]
    rfl
theorem fnd_2 {sc : Nat → Int32} {k l : Int32} {o : Option Nat} {q : Nat} {f : Bool} (h : k < 0) (h2 : (q = 251 ∧ l = k ∧ o = none) ∨ (f = true ∧ ¬ k < 0)) : fndM sc k = o := by
  rcases h2 with h2 | h2
  · rw [h2.2.2]; exact if_pos h
  · exact absurd h h2.2
section
variable {f f0 f2 : Bool} {o F : Option Nat} {th : Nat}
theorem rk_r1 (hf : f = f0) (hf2 : f2 = o.isSome) (hfin : f = true → F = o) (b : (f && f2) = true) (hth : th = mb2 f f2) : (f0 = true ∧ ∃ z, F = some z ∧ th = 0 ∧ oI o = nI z) ∨ (f0 = true ∧ F = none ∧ th = 2) ∨ (f0 = false ∧ th = 1) := by
  rw [Bool.and_eq_true] at b
  have h1 := hfin b.1
  cases o with
  | none => rw [hf2] at b; cases b.2
  | some z => exact Or.inl ⟨hf.symm.trans b.1, z, h1, by rw [hth, b.1, b.2]; rfl, rfl⟩
theorem rk_r0 {r : Int32} (hf : f = f0) (hf2 : f2 = o.isSome) (hfin : f = true → F = o) (b : (f && f2) = false) (hth : th = mb2 f f2) : (f0 = true ∧ ∃ z, F = some z ∧ th = 0 ∧ r = nI z) ∨ (f0 = true ∧ F = none ∧ th = 2) ∨ (f0 = false ∧ th = 1) := by
  cases f with
  | false => exact Or.inr (Or.inr ⟨hf.symm, by rw [hth]; rfl⟩)
  | true =>
    have h1 := hfin rfl
    rw [Bool.true_and] at b
    cases o with
    | none => exact Or.inr (Or.inl ⟨hf.symm, h1, by rw [hth, b]; rfl⟩)
    | some z => rw [hf2] at b; cases b
end
