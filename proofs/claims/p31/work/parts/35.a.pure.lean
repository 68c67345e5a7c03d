/-! p31: what the law tells of all users, beside what the class tells -/
theorem la_toInt {dd L : Nat} (h1 : dd ≤ 100) (h2 : L ≤ 100) : (nI dd + (nI L - nI 1)).toInt = (dd : Int) + L - 1 := by
  have e1 : (nI L - nI 1).toInt = (L : Int) - 1 := pk_sub_toInt (by omega) (by decide)
  have e2 : (nI dd).toInt = (dd : Int) := nI_toInt (by omega)
  rw [fb_addI (by omega) (by omega), e1, e2]
  omega
theorem la_lt {dd L d : Nat} (h1 : dd ≤ 100) (h2 : L ≤ 100) (h3 : d ≤ 1000) : nI dd + (nI L - nI 1) < nI d ↔ dd + L ≤ d := by
  rw [Int32.lt_iff_toInt_lt, la_toInt h1 h2, nI_toInt (by omega)]
  omega
theorem la_ge {dd L d : Nat} (h1 : dd ≤ 100) (h2 : L ≤ 100) (h3 : d ≤ 1000) : nI d ≤ nI dd + (nI L - nI 1) ↔ d + 1 ≤ dd + L := by
  rw [Int32.le_iff_toInt_le, la_toInt h1 h2, nI_toInt (by omega)]
  omega
theorem la_neg {L : Nat} (h2 : L ≤ 100) : nI L - nI 1 < 0 ↔ L = 0 := by
  rw [Int32.lt_iff_toInt_lt, pk_sub_toInt (by omega) (by decide)]
  have : (0 : Int32).toInt = 0 := rfl
  omega
theorem la_e {dd L : Nat} (h : 1 ≤ L) : nI dd + (nI L - nI 1) = nI (dd + (L - 1)) := by rw [pk_sub h, nI_add]
theorem la_1 {a : Nat} : nI a - nI 0 = nI (a + 1) - nI 1 := by rw [pk_sub (Nat.le_add_left 1 a), pk_sub (Nat.zero_le a)]; rfl
theorem or_0 (x : Int32) : x ||| nI 0 = x := b_ext (fun i _ => by rw [b_or, nI_0, b_0, Bool.or_false])
theorem afS_n {A : Nat → Bool} {u : Nat} (h : A u = false) : afS A (u + 1) = afS A u := by rw [af_n h, or_0]
theorem afS_go {A : Nat → Bool} {m : Nat} : ∀ d, (∀ u, m ≤ u → u < m + d → A u = false) → afS A (m + d) = afS A m
  | 0, _ => rfl
  | d + 1, h => (afS_n (h (m + d) (by omega) (by omega))).trans (afS_go d (fun u h1 h2 => h u h1 (by omega)))
theorem afS_8 {A : Nat → Bool} (h : ∀ u, 8 ≤ u → A u = false) : afS A 20 = afS A 8 := afS_go (m := 8) 12 (fun u h1 _ => h u h1)
theorem afS_cong {A B : Nat → Bool} : ∀ k, (∀ u, u < k → A u = B u) → afS A k = afS B k
  | 0, _ => rfl
  | k + 1, h => by
    show _ ||| (if A k = true then _ else _) = _ ||| (if B k = true then _ else _)
    rw [h k (Nat.lt_succ_self k), afS_cong k (fun u hu => h u (by omega))]
theorem alB_f {f : Nat → Bool} {i : Nat} (h : f i = false) : ∀ d, alB f i (d + 1) = false
  | 0 => by show (true && f (i + 0)) = false; rw [Nat.add_zero, h]; rfl
  | d + 1 => by show (alB f i (d + 1) && f (i + (d + 1))) = false; rw [alB_f h d]; rfl
section
variable {us ids tms ord : Nat → Nat} {kd : Nat → Int32} {n : Nat} {stp : Nat → Int32} {cnt win gp : Nat}
theorem ac_mm (hI : Inv us ids tms ord n) {u d : Nat} (h : mm us ids ord n u = 0) : acB us ids tms n u d = false := by
  refine Bool.eq_false_iff.mpr (fun q => ?_)
  obtain ⟨k, hk, hk2⟩ := ex_iff.mp q
  unfold acP at hk2
  rw [Bool.and_eq_true, decide_eq_true_eq] at hk2
  obtain ⟨i, hi, -⟩ := Em_on hI hk hk2.1
  omega
theorem tie_users (h : Lw us ids tms ord n) : bcJ (seS us ids ord n) = nI (fb_ct (fun u => decide (0 < mm us ids ord n u)) 8) := by
  rw [eq_users h.inv, ct_8 (fun u h1 _ => decide_eq_false (by rw [h.mm0 h1]; omega))]
theorem tie_active (h : Lw us ids tms ord n) (dd : Nat) : acS us ids tms ord dd n = afS (fun u => acB us ids tms n u dd) 8 := by
  rw [acS_af h.inv, ← afS_N, afS_8 (fun u h1 => h.ac0 h1)]
theorem tie_each (h : Lw us ids tms ord n) {dd L : Nat} (hL : 1 ≤ L) : acE us ids tms ord n dd (L - 1) = afS (fun u => decide (0 < mm us ids ord n u) && alB (fun d => acB us ids tms n u d) dd L) 8 := by
  have e := eq_onEach h.inv (show dd ≤ dd + (L - 1) by omega)
  rw [show dd + (L - 1) - dd = L - 1 by omega, show dd + (L - 1) + 1 - dd = L by omega] at e
  obtain ⟨q, rfl⟩ : ∃ q, L = q + 1 := ⟨L - 1, by omega⟩
  rw [e, afS_8 (fun u h1 => alB_f (h.ac0 h1) q)]
  refine afS_cong 8 (fun u _ => ?_)
  by_cases h0 : 0 < mm us ids ord n u
  · rw [decide_eq_true h0, Bool.true_and]
  · rw [decide_eq_false h0, Bool.false_and]
    exact alB_f (ac_mm h.inv (by omega)) q
/-- who is retained, as the law asks -/
def rtB (us ids tms ord : Nat → Nat) (n dd : Nat) (la : Int32) (u : Nat) : Bool := decide (0 < mm us ids ord n u) && (decide (fday (mm us ids ord n u) (tau us ids tms ord n u) = nI dd) && acI us ids tms u (nI dd + la) n)
theorem tie_ret (h : Lw us ids tms ord n) {dd L : Nat} (hL : 1 ≤ L) (hd : dd + L ≤ 100) : bcJ (coS us ids tms ord dd n &&& acS us ids tms ord (dd + (L - 1)) n) = nI (fb_ct (rtB us ids tms ord n dd (nI L - nI 1)) 8) := by
  have hn : ∀ u, mm us ids ord n u = 0 → decide (fday (mm us ids ord n u) (tau us ids tms ord n u) = nI dd) = false := fun u h0 => decide_eq_false (fun q => by
    rw [fday_0 h0] at q
    exact nI_nn (x := dd) (by omega) (by decide) q.symm)
  rw [eq_retained h.inv (show dd < 2 ^ 30 by omega), ct_8 (fun u h1 _ => by rw [hn u (h.mm0 h1), Bool.false_and])]
  refine congrArg nI (fb_ct_cong (fun u _ => ?_))
  unfold rtB
  rw [la_e hL, acI_B h.inv.htm (by omega)]
  by_cases h0 : 0 < mm us ids ord n u
  · rw [decide_eq_true h0, Bool.true_and]
  · rw [decide_eq_false h0, Bool.false_and, hn u (by omega), Bool.false_and]
/-- who passes a step, as the law asks -/
def psF (us ids : Nat → Nat) (kd : Nat → Int32) (tms ord : Nat → Nat) (n : Nat) (stp : Nat → Int32) (cnt win : Nat) (sp : Int32) (u : Nat) : Bool := decide (0 < mm us ids ord n u) && !decide (nI (folL stp cnt win (kap us ids kd ord n u) (tau us ids tms ord n u) (mm us ids ord n u)).2.1 ≤ sp)
theorem tie_pass (h : Lw us ids tms ord n) (hc : cnt ≤ 6) {j : Nat} (hj : j < 2 ^ 31) : fb_ct (fun u => decide (j < (folL stp cnt win (kap us ids kd ord n u) (tau us ids tms ord n u) (mm us ids ord n u)).2.1)) 20 = fb_ct (psF us ids kd tms ord n stp cnt win (nI j)) 8 := by
  have h0 : ∀ u, mm us ids ord n u = 0 → decide (j < (folL stp cnt win (kap us ids kd ord n u) (tau us ids tms ord n u) (mm us ids ord n u)).2.1) = false := fun u hu => decide_eq_false (by rw [hu]; exact Nat.not_lt_zero _)
  rw [ct_8 (fun u h1 _ => h0 u (h.mm0 h1))]
  refine fb_ct_cong (fun u _ => ?_)
  unfold psF
  by_cases hm : 0 < mm us ids ord n u
  · have h6 : (folL stp cnt win (kap us ids kd ord n u) (tau us ids tms ord n u) (mm us ids ord n u)).2.1 ≤ 6 := folL_le6 hc (fun k => h.inv.htm _) (tau_sort h.inv)
    rw [decide_eq_true hm, Bool.true_and, decide_eq_decide.mpr (nI_leI (by omega) hj)]
    by_cases q : j < (folL stp cnt win (kap us ids kd ord n u) (tau us ids tms ord n u) (mm us ids ord n u)).2.1
    · rw [decide_eq_true q, decide_eq_false (by omega)]; rfl
    · rw [decide_eq_false q, decide_eq_true (by omega)]; rfl
  · rw [decide_eq_false hm, Bool.false_and, h0 u (by omega)]
/-! ranks -/
def itV (us ids : Nat → Nat) (kd : Nat → Int32) (tms ord : Nat → Nat) (n : Nat) (stp : Nat → Int32) (cnt win gp b v : Nat) : Int32 := if mm us ids ord n v = 0 then -1 else nI (woV us ids kd tms ord n stp cnt win gp b v)
theorem it_sc (b v : Nat) : itV us ids kd tms ord n stp cnt win gp b v = oI (scO us ids kd tms ord n stp cnt win gp b v) := by
  unfold itV scO
  by_cases h : mm us ids ord n v = 0
  · rw [if_pos h, if_pos h]; rfl
  · rw [if_neg h, if_neg h]; rfl
theorem sc_some {b u : Nat} (h : 0 < mm us ids ord n u) : scO us ids kd tms ord n stp cnt win gp b u = some (woV us ids kd tms ord n stp cnt win gp b u) := if_neg (by omega)
theorem sc_none {b u : Nat} (h : mm us ids ord n u = 0) : scO us ids kd tms ord n stp cnt win gp b u = none := if_pos h
def aiB (us ids : Nat → Nat) (kd : Nat → Int32) (tms ord : Nat → Nat) (n : Nat) (stp : Nat → Int32) (cnt win gp b u v : Nat) : Bool := decide (nI (woV us ids kd tms ord n stp cnt win gp b u) < itV us ids kd tms ord n stp cnt win gp b v) || (decide (itV us ids kd tms ord n stp cnt win gp b v = nI (woV us ids kd tms ord n stp cnt win gp b u)) && decide (v < u))
theorem ai_ct (h : Lw us ids tms ord n) (hc : cnt ≤ 6) {b u : Nat} (hu : 0 < mm us ids ord n u) : psB (scO us ids kd tms ord n stp cnt win gp b) u = fb_ct (aiB us ids kd tms ord n stp cnt win gp b u) 8 := by
  have e : ∀ v, ahB (scO us ids kd tms ord n stp cnt win gp b) u v = aiB us ids kd tms ord n stp cnt win gp b u v := fun v => by
    unfold ahB aiB
    rw [it_sc, sc_some hu]
    rfl
  have hz := sc_le (b := b) (kd := kd) (stp := stp) (win := win) (gp := gp) h.inv hc u _ (sc_some hu)
  unfold psB
  rw [ct_8 (fun v h1 _ => ?_)]
  · exact fb_ct_cong (fun v _ => e v)
  · rw [e]
    unfold aiB itV
    rw [if_pos (h.mm0 h1)]
    rw [decide_eq_false (fun q => nI_pos (n := woV us ids kd tms ord n stp cnt win gp b u) (by omega) (Int32.lt_trans q (by decide))), decide_eq_false (fun q => nI_nn (x := woV us ids kd tms ord n stp cnt win gp b u) (by omega) (by decide) q.symm)]
    rfl
/-- the last user with so many ahead of it -/
def rnL (us ids : Nat → Nat) (kd : Nat → Int32) (tms ord : Nat → Nat) (n : Nat) (stp : Nat → Int32) (cnt win gp b : Nat) (k : Int32) : Nat → Int32
  | 0 => -1
  | u + 1 => if 0 < mm us ids ord n u ∧ nI (fb_ct (aiB us ids kd tms ord n stp cnt win gp b u) 8) = k then nI u else rnL us ids kd tms ord n stp cnt win gp b k u
theorem rn_y {b u : Nat} {k : Int32} (h : 0 < mm us ids ord n u) (h2 : nI (fb_ct (aiB us ids kd tms ord n stp cnt win gp b u) 8) = k) : rnL us ids kd tms ord n stp cnt win gp b k (u + 1) = nI u := if_pos ⟨h, h2⟩
theorem rn_n {b u : Nat} {k : Int32} (h : ¬ (0 < mm us ids ord n u ∧ nI (fb_ct (aiB us ids kd tms ord n stp cnt win gp b u) 8) = k)) : rnL us ids kd tms ord n stp cnt win gp b k (u + 1) = rnL us ids kd tms ord n stp cnt win gp b k u := if_neg h
theorem ps_one {sc : Nat → Option Nat} (hs : ∀ u z, sc u = some z → z ≤ 250) {u v : Nat} (hu : u < 20) (hv : v < 20) (h1 : sc u ≠ none) (h2 : sc v ≠ none) (e : psB sc u = psB sc v) : u = v := by
  cases e1 : sc u with
  | none => exact absurd e1 h1
  | some z =>
    cases e2 : sc v with
    | none => exact absurd e2 h2
    | some w =>
      have p1 := ps_at (W := z) (x := u) hs e1
      have p2 := ps_at (W := w) (x := v) hs e2
      rcases Nat.lt_trichotomy u v with q | q | q
      · by_cases hw : z < w
        · have := ps_lt (W := z) (x := u) hs hv (bf_iff.mpr ⟨w, e2, Or.inl hw⟩); omega
        · have := ps_lt (W := w) (x := v) hs hu (bf_iff.mpr ⟨z, e1, by omega⟩); omega
      · exact q
      · by_cases hw : w < z
        · have := ps_lt (W := w) (x := v) hs hu (bf_iff.mpr ⟨z, e1, Or.inl hw⟩); omega
        · have := ps_lt (W := z) (x := u) hs hv (bf_iff.mpr ⟨w, e2, by omega⟩); omega
theorem rn_tie (h : Lw us ids tms ord n) (hc : cnt ≤ 6) {b : Nat} (k : Int32) : (∀ z, rkL (scO us ids kd tms ord n stp cnt win gp b) k 20 0 = some z → rnL us ids kd tms ord n stp cnt win gp b k 8 = nI z ∧ z < 8) ∧ (rkL (scO us ids kd tms ord n stp cnt win gp b) k 20 0 = none → rnL us ids kd tms ord n stp cnt win gp b k 8 = -1) := by
  have hs := sc_le (b := b) (kd := kd) (stp := stp) (win := win) (gp := gp) h.inv hc
  refine ⟨fun z hz => ?_, fun hz => ?_⟩
  · obtain ⟨-, z1, z2, z3⟩ := rkL_some 20 0 z hz
    have hm : 0 < mm us ids ord n z := Nat.pos_of_ne_zero (fun q => z2 (sc_none q))
    have hz8 : z < 8 := Nat.not_le.mp (fun q => by have := h.mm0 q; omega)
    have go : ∀ j, j ≤ 8 → rnL us ids kd tms ord n stp cnt win gp b k j = if z < j then nI z else -1 := by
      intro j
      induction j with
      | zero => intro _; rfl
      | succ j ih =>
        intro hj
        by_cases hjz : j = z
        · rw [hjz, rn_y hm (by rw [← ai_ct h hc hm]; exact z3), if_pos (Nat.lt_succ_self z)]
        · rw [rn_n (fun q => hjz ?_), ih (by omega)]
          · by_cases hlt : z < j
            · rw [if_pos hlt, if_pos (by omega)]
            · rw [if_neg hlt, if_neg (by omega)]
          · have e1 : psB (scO us ids kd tms ord n stp cnt win gp b) j = psB (scO us ids kd tms ord n stp cnt win gp b) z := by
              have q2 := q.2
              rw [← ai_ct h hc q.1, ← z3] at q2
              have a1 := fb_ct_le (ahB (scO us ids kd tms ord n stp cnt win gp b) j) 20
              have a2 := fb_ct_le (ahB (scO us ids kd tms ord n stp cnt win gp b) z) 20
              exact (nI_eq (by unfold psB; omega) (by unfold psB; omega)).mp q2
            exact ps_one hs (by omega) (by omega) (by rw [sc_some q.1]; exact fun q => (nomatch q)) z2 e1
    exact ⟨by rw [go 8 (Nat.le_refl _), if_pos hz8], hz8⟩
  · have hn := rkL_none 20 0 hz
    have go : ∀ j, j ≤ 8 → rnL us ids kd tms ord n stp cnt win gp b k j = -1 := by
      intro j
      induction j with
      | zero => intro _; rfl
      | succ j ih =>
        intro hj
        rw [rn_n (fun q => hn j (Nat.zero_le _) (by omega) ⟨by rw [sc_some q.1]; exact fun q => (nomatch q), by rw [ai_ct h hc q.1]; exact q.2⟩), ih (by omega)]
    exact go 8 (Nat.le_refl _)
end
