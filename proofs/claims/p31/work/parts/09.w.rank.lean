/-! Ranks: how many stand ahead of one (our class) against going down worth by worth (the reference). -/
section
variable {sc : Nat → Option Nat} {W x r : Nat}
def bfB (sc : Nat → Option Nat) (W x u : Nat) : Bool := match sc u with
  | none => false
  | some z => decide (W < z ∨ (z = W ∧ u < x))
def psB (sc : Nat → Option Nat) (u : Nat) : Nat := fb_ct (ahB sc u) 20
theorem oI_lt {sc : Nat → Option Nat} (hs : ∀ u z, sc u = some z → z ≤ 250) {u v z : Nat} (hu : sc u = some z) : oI (sc u) < oI (sc v) ↔ ∃ w, sc v = some w ∧ z < w := by
  have hz := hs u z hu
  rw [hu]
  cases hv : sc v with
  | none =>
    constructor
    · intro h
      exfalso
      have h : nI z < -1 := h
      rw [Int32.lt_iff_toInt_lt, nI_toInt (by omega)] at h
      have : (-1 : Int32).toInt = -1 := rfl
      omega
    · rintro ⟨w, h, -⟩
      cases h
  | some w =>
    have hw := hs v w hv
    show nI z < nI w ↔ _
    rw [nI_ltI (by omega) (by omega)]
    exact ⟨fun h => ⟨w, rfl, h⟩, fun ⟨w', h, h2⟩ => by cases h; exact h2⟩
theorem oI_eqs {sc : Nat → Option Nat} (hs : ∀ u z, sc u = some z → z ≤ 250) {v z : Nat} (hz : z ≤ 250) : oI (sc v) = nI z ↔ sc v = some z := by
  cases hv : sc v with
  | none =>
    constructor
    · intro h
      exfalso
      have h2 : (-1 : Int32).toInt = (nI z).toInt := congrArg _ h
      rw [nI_toInt (by omega)] at h2
      have : (-1 : Int32).toInt = -1 := rfl
      omega
    · intro h; cases h
  | some w =>
    have hw := hs v w hv
    show nI w = nI z ↔ _
    rw [nI_eq (by omega) (by omega)]
    exact ⟨fun h => by rw [h], fun h => by cases h; rfl⟩
theorem ah_iff (hs : ∀ u z, sc u = some z → z ≤ 250) {u v z : Nat} (hu : sc u = some z) : ahB sc u v = true ↔ ∃ w, sc v = some w ∧ (z < w ∨ (w = z ∧ v < u)) := by
  unfold ahB
  rw [Bool.or_eq_true, Bool.and_eq_true, decide_eq_true_eq, decide_eq_true_eq, decide_eq_true_eq, oI_lt hs hu, show oI (sc u) = nI z by rw [hu]; rfl, oI_eqs hs (hs u z hu)]
  constructor
  · rintro (⟨w, h1, h2⟩ | ⟨h1, h2⟩)
    · exact ⟨w, h1, Or.inl h2⟩
    · exact ⟨z, h1, Or.inr ⟨rfl, h2⟩⟩
  · rintro ⟨w, h1, h2 | ⟨h2, h3⟩⟩
    · exact Or.inl ⟨w, h1, h2⟩
    · exact Or.inr ⟨by rw [h1, h2], h3⟩
theorem bf_iff {u : Nat} : bfB sc W x u = true ↔ ∃ z, sc u = some z ∧ (W < z ∨ (z = W ∧ u < x)) := by
  unfold bfB
  cases sc u with
  | none => exact ⟨fun h => (by cases h), fun ⟨z, h, _⟩ => (by cases h)⟩
  | some z => exact ⟨fun h => ⟨z, rfl, of_decide_eq_true h⟩, fun ⟨w, h, h2⟩ => by cases h; exact decide_eq_true h2⟩
theorem ps_at (hs : ∀ u z, sc u = some z → z ≤ 250) (hx : sc x = some W) : psB sc x = fb_ct (bfB sc W x) 20 := fb_ct_cong (fun v _ => Bool.eq_iff_iff.mpr ((ah_iff hs hx).trans bf_iff.symm))
theorem ps_lt (hs : ∀ u z, sc u = some z → z ≤ 250) {u : Nat} (hu : u < 20) (hb : bfB sc W x u = true) : psB sc u < fb_ct (bfB sc W x) 20 := by
  obtain ⟨z, h1, h2⟩ := bf_iff.mp hb
  have e := fb_ct_or (p := ahB sc u) (q := fun v => decide (v = u)) (n := 20) (fun v _ hq => by
    obtain ⟨w, w1, w2⟩ := (ah_iff hs h1).mp hq.1
    have hv : v = u := of_decide_eq_true hq.2
    rw [hv, h1] at w1
    cases w1
    omega)
  have e1 : 0 < fb_ct (fun v => decide (v = u)) 20 := fb_ct_pos.mpr ⟨u, hu, decide_eq_true rfl⟩
  have e2 : fb_ct (fun v => ahB sc u v || decide (v = u)) 20 ≤ fb_ct (bfB sc W x) 20 := fb_ct_sub (fun v _ hv => by
    rw [Bool.or_eq_true] at hv
    rcases hv with hv | hv
    · obtain ⟨w, w1, w2⟩ := (ah_iff hs h1).mp hv
      exact bf_iff.mpr ⟨w, w1, by omega⟩
    · rw [of_decide_eq_true hv]; exact hb)
  show fb_ct (ahB sc u) 20 < _
  omega
def RkS (sc : Nat → Option Nat) (r W x : Nat) (d : Int32 × Option Nat) : Prop := d.1 + nI (fb_ct (bfB sc W x) 20) = nI r ∧ ∀ u, d.2 = some u ↔ u < 20 ∧ bfB sc W x u = true ∧ psB sc u = r
theorem l_step (l : Int32) (c : Nat) : (l + -1) + nI (c + 1) = l + nI c := by
  rw [nI_succ, Int32.add_assoc, ← Int32.add_assoc (-1), Int32.add_comm (-1) (nI c), Int32.add_assoc (nI c), show (-1 + 1 : Int32) = 0 from rfl, Int32.add_zero]
theorem l_zero {l : Int32} {c r : Nat} (hc : c < 2 ^ 31) (hr : r < 2 ^ 31) (h : l + nI c = nI r) : l = 0 ↔ c = r := by
  constructor
  · intro e
    rw [e, Int32.zero_add] at h
    exact (nI_eq hc hr).mp h
  · intro e
    rw [e] at h
    have h2 : l + nI r - nI r = nI r - nI r := by rw [h]
    rwa [Int32.add_sub_cancel, Int32.sub_self] at h2
theorem rkS_step (hs : ∀ u z, sc u = some z → z ≤ 250) (hW : W ≤ 250) (hr : r < 2 ^ 31) (hx : x < 20) {d : Int32 × Option Nat} (h : RkS sc r W x d) : RkS sc r W (x + 1) (rkStep (fun u => oI (sc u)) W x d) := by
  obtain ⟨h1, h2⟩ := h
  have hc := fb_ct_le (bfB sc W x) 20
  by_cases hm : sc x = some W
  · have e : rkStep (fun u => oI (sc u)) W x d = (d.1 + -1, if d.1 = 0 then some x else d.2) := if_pos ((oI_eqs hs hW).mpr hm)
    rw [e]
    have bx : ∀ u, bfB sc W (x + 1) u = true ↔ bfB sc W x u = true ∨ u = x := fun u => by
      rw [bf_iff, bf_iff]
      constructor
      · rintro ⟨z, z1, z2⟩
        by_cases hu : u = x
        · exact Or.inr hu
        · exact Or.inl ⟨z, z1, by omega⟩
      · rintro (⟨z, z1, z2⟩ | hu)
        · exact ⟨z, z1, by omega⟩
        · exact ⟨W, by rw [hu]; exact hm, by omega⟩
    have nx : bfB sc W x x = false := Bool.eq_false_iff.mpr (fun q => by
      obtain ⟨z, z1, z2⟩ := bf_iff.mp q
      rw [hm] at z1
      cases z1
      omega)
    have c1 : fb_ct (bfB sc W (x + 1)) 20 = fb_ct (bfB sc W x) 20 + 1 := by
      have u1 := fb_ct_upd (bfB sc W x) true hx
      rw [nx] at u1
      have u2 : fb_ct (fun k => if k = x then true else bfB sc W x k) 20 = fb_ct (bfB sc W (x + 1)) 20 := fb_ct_cong (fun k _ => Bool.eq_iff_iff.mpr (by
        rw [bx k]
        by_cases hk : k = x
        · simp [hk]
        · simp [hk]))
      rw [u2] at u1
      simpa using u1
    have px := ps_at hs hm
    have lz := l_zero (by omega) hr h1
    refine ⟨by show d.1 + -1 + _ = _; rw [c1, l_step]; exact h1, fun u => ?_⟩
    show (if d.1 = 0 then some x else d.2) = some u ↔ _
    rw [bx u]
    by_cases hl : d.1 = 0
    · rw [if_pos hl]
      have hcr := lz.mp hl
      constructor
      · intro q
        cases q
        exact ⟨hx, Or.inr rfl, px.trans hcr⟩
      · rintro ⟨q1, q2 | q2, q3⟩
        · have := ps_lt hs q1 q2
          omega
        · rw [q2]
    · rw [if_neg hl, h2 u]
      have hcr : ¬ fb_ct (bfB sc W x) 20 = r := fun q => hl (lz.mpr q)
      constructor
      · rintro ⟨q1, q2, q3⟩
        exact ⟨q1, Or.inl q2, q3⟩
      · rintro ⟨q1, q2 | q2, q3⟩
        · exact ⟨q1, q2, q3⟩
        · rw [q2, px] at q3
          exact absurd q3 hcr
  · have e : rkStep (fun u => oI (sc u)) W x d = d := if_neg (fun q => hm ((oI_eqs hs hW).mp q))
    rw [e]
    have bx : bfB sc W (x + 1) = bfB sc W x := funext (fun u => Bool.eq_iff_iff.mpr (by
      rw [bf_iff, bf_iff]
      constructor
      · rintro ⟨z, z1, z2⟩
        by_cases hu : u = x
        · rw [hu] at z1
          refine ⟨z, by rw [hu]; exact z1, ?_⟩
          by_cases hz : z = W
          · rw [hz] at z1; exact absurd z1 hm
          · omega
        · exact ⟨z, z1, by omega⟩
      · rintro ⟨z, z1, z2⟩
        exact ⟨z, z1, by omega⟩))
    rw [show RkS sc r W (x + 1) d = RkS sc r W x d by unfold RkS; rw [bx]]
    exact ⟨h1, h2⟩
theorem rkS_in (hs : ∀ u z, sc u = some z → z ≤ 250) (hW : W ≤ 250) (hr : r < 2 ^ 31) {d : Int32 × Option Nat} (h : RkS sc r W 0 d) : ∀ x, x ≤ 20 → RkS sc r W x (rkIn (fun u => oI (sc u)) W x d)
  | 0, _ => h
  | x + 1, hx => rkS_step hs hW hr (by omega) (rkS_in hs hW hr h x (by omega))
theorem rkS_out (hs : ∀ u z, sc u = some z → z ≤ 250) (hr : r < 2 ^ 31) : ∀ W (d : Int32 × Option Nat), W ≤ 250 → RkS sc r W 0 d → RkS sc r 0 20 (rkOut (fun u => oI (sc u)) (W + 1) d)
  | 0, d, hW, h => rkS_in hs hW hr h 20 (Nat.le_refl _)
  | W + 1, d, hW, h => by
    have h1 := rkS_in hs hW hr h 20 (Nat.le_refl _)
    refine rkS_out hs hr W _ (by omega) ?_
    obtain ⟨q1, q2⟩ := h1
    have bx : ∀ u, u < 20 → bfB sc (W + 1) 20 u = bfB sc W 0 u := fun u hu => Bool.eq_iff_iff.mpr (by
      rw [bf_iff, bf_iff]
      constructor
      · rintro ⟨z, z1, z2⟩; exact ⟨z, z1, by omega⟩
      · rintro ⟨z, z1, z2⟩; exact ⟨z, z1, by omega⟩)
    refine ⟨by rw [← fb_ct_cong bx]; exact q1, fun u => ?_⟩
    rw [q2 u]
    constructor
    · rintro ⟨a, b, c⟩; exact ⟨a, by rw [← bx u a]; exact b, c⟩
    · rintro ⟨a, b, c⟩; exact ⟨a, by rw [bx u a]; exact b, c⟩
theorem rkL_some {k : Int32} : ∀ m i u, rkL sc k m i = some u → i ≤ u ∧ u < i + m ∧ sc u ≠ none ∧ nI (psB sc u) = k
  | 0, i, u, h => by cases h
  | m + 1, i, u, h => by
    have e : rkL sc k (m + 1) i = if sc i ≠ none ∧ nI (fb_ct (ahB sc i) 20) = k then some i else rkL sc k m (i + 1) := rfl
    rw [e] at h
    by_cases hc : sc i ≠ none ∧ nI (fb_ct (ahB sc i) 20) = k
    · rw [if_pos hc] at h
      cases h
      exact ⟨Nat.le_refl _, by omega, hc.1, hc.2⟩
    · rw [if_neg hc] at h
      have := rkL_some m (i + 1) u h
      exact ⟨by omega, by omega, this.2.2⟩
theorem rkL_none {k : Int32} : ∀ m i, rkL sc k m i = none → ∀ u, i ≤ u → u < i + m → ¬ (sc u ≠ none ∧ nI (psB sc u) = k)
  | 0, i, _, u, h1, h2 => by omega
  | m + 1, i, h, u, h1, h2 => by
    have e : rkL sc k (m + 1) i = if sc i ≠ none ∧ nI (fb_ct (ahB sc i) 20) = k then some i else rkL sc k m (i + 1) := rfl
    rw [e] at h
    by_cases hc : sc i ≠ none ∧ nI (fb_ct (ahB sc i) 20) = k
    · rw [if_pos hc] at h; cases h
    · rw [if_neg hc] at h
      by_cases hu : u = i
      · rw [hu]; exact hc
      · exact rkL_none m (i + 1) h u (by omega) (by omega)
theorem eq_rank (hs : ∀ u z, sc u = some z → z ≤ 250) (k : Int32) : rkL sc k 20 0 = fndM (fun u => oI (sc u)) k := by
  have hp : ∀ u, psB sc u ≤ 20 := fun u => fb_ct_le _ _
  by_cases hk : k < 0
  · rw [show fndM (fun u => oI (sc u)) k = none from if_pos hk]
    cases h : rkL sc k 20 0 with
    | none => rfl
    | some u =>
      have h1 := (rkL_some 20 0 u h).2.2.2
      rw [← h1] at hk
      exact absurd hk (nI_pos (by have := hp u; omega))
  · obtain ⟨r, hr, rfl⟩ := nI_of hk
    rw [show fndM (fun u => oI (sc u)) (nI r) = (rkOut (fun u => oI (sc u)) 251 (nI r, none)).2 from if_neg hk]
    have h0 : RkS sc r 250 0 (nI r, none) := by
      have hb : ∀ u, bfB sc 250 0 u = false := fun u => Bool.eq_false_iff.mpr (fun q => by
        obtain ⟨z, z1, z2⟩ := bf_iff.mp q
        have := hs u z z1
        omega)
      refine ⟨by rw [fb_ct_zero.mpr (fun u _ => hb u)]; show nI r + nI 0 = nI r; rw [nI_add, Nat.add_zero], fun u => ⟨fun q => (by cases q), fun q => ?_⟩⟩
      rw [hb u] at q
      cases q.2.1
    obtain ⟨-, h2⟩ := rkS_out hs hr 250 _ (Nat.le_refl _) h0
    cases h : rkL sc (nI r) 20 0 with
    | none =>
      have h3 := rkL_none 20 0 h
      cases ho : (rkOut (fun u => oI (sc u)) 251 (nI r, none)).2 with
      | none => rfl
      | some u =>
        obtain ⟨q1, q2, q3⟩ := (h2 u).mp ho
        obtain ⟨z, z1, -⟩ := bf_iff.mp q2
        exact absurd ⟨by rw [z1]; exact (fun q => nomatch q), by rw [q3]⟩ (h3 u (Nat.zero_le _) (by omega))
    | some u =>
      obtain ⟨-, q2, q3, q4⟩ := rkL_some 20 0 u h
      refine ((h2 u).mpr ⟨by omega, ?_, (nI_eq (by have := hp u; omega) hr).mp q4⟩).symm
      cases hz : sc u with
      | none => exact absurd hz q3
      | some z => exact bf_iff.mpr ⟨z, hz, by omega⟩
end
section
variable {us ids tms ord : Nat → Nat} {kd : Nat → Int32} {n cnt win gp u : Nat} {stp : Nat → Int32}
theorem wr_sc (hI : Inv us ids tms ord n) {b : Nat} (hb : b ≤ 2) : wrR us ids tms ord kd n cnt win stp gp u (nI b) = oI (scO us ids kd tms ord n stp cnt win gp b u) := by
  unfold wrR scO
  by_cases h : mm us ids ord n u = 0
  · rw [if_pos h, if_pos h]; rfl
  · rw [if_neg h, if_neg h]
    rcases (show b = 0 ∨ b = 1 ∨ b = 2 by omega) with rfl | rfl | rfl
    · rw [if_pos nI_0, if_pos rfl]; rfl
    · rw [if_neg (by decide), if_pos rfl, if_neg (by decide), if_pos rfl]; rfl
    · rw [if_neg (by decide), if_neg (by decide), if_neg (by decide), if_neg (by decide), eq_depth hI]; rfl
theorem sc_le (hI : Inv us ids tms ord n) (hc : cnt ≤ 6) {b : Nat} : ∀ u z, scO us ids kd tms ord n stp cnt win gp b u = some z → z ≤ 250 := fun u z h => by
  have hm := mm_le us ids ord n u
  have hn := hI.hn
  unfold scO at h
  by_cases h0 : mm us ids ord n u = 0
  · rw [if_pos h0] at h; cases h
  · rw [if_neg h0] at h
    by_cases h1 : b = 0
    · rw [if_pos h1] at h; cases h; omega
    · rw [if_neg h1] at h
      by_cases h2 : b = 1
      · rw [if_pos h2] at h; cases h
        have := fb_ct_le (bs (tau us ids tms ord n u) gp) (mm us ids ord n u)
        omega
      · rw [if_neg h2] at h; cases h
        rw [eq_depth hI]
        have := dpM_le us ids tms ord kd n cnt win stp u
        omega
theorem eq_ranked (hI : Inv us ids tms ord n) (hc : cnt ≤ 6) {b : Nat} (hb : b ≤ 2) (k : Int32) : rkL (scO us ids kd tms ord n stp cnt win gp b) k 20 0 = fndM (fun u => wrR us ids tms ord kd n cnt win stp gp u (nI b)) k := by
  rw [eq_rank (sc_le hI hc) k, show (fun u => oI (scO us ids kd tms ord n stp cnt win gp b u)) = fun u => wrR us ids tms ord kd n cnt win stp gp u (nI b) from funext (fun u => (wr_sc hI hb).symm)]
end
