/-! Pure words for the reference: ranges as Bools, its look at a user. -/
def inRb (k : Int32) (lo hi : Nat) : Bool := !decide (k < nI lo) && decide (k ≤ nI hi)
theorem inRb_t {k : Int32} {lo hi : Nat} : inRb k lo hi = true ↔ inR k lo hi := by simp [inRb, inR]
theorem inRb_f {k : Int32} {lo hi : Nat} : inRb k lo hi = false ↔ ¬ inR k lo hi := by rw [← inRb_t]; simp
theorem inRb_lt {k : Int32} {hi : Nat} (h : k < 0) : inRb k 0 hi = false := inRb_f.mpr (inR_lt (by rw [nI_0]; exact h))
theorem inRb_lo {k : Int32} {hi : Nat} (h : k < nI 1) : inRb k 1 hi = false := inRb_f.mpr (inR_lt h)
theorem inRb_gt {k : Int32} {lo hi : Nat} (h : nI hi < k) : inRb k lo hi = false := inRb_f.mpr (fun q => (Int32.not_lt.mpr q.2) h)
theorem inRb_in {k : Int32} {hi : Nat} (h1 : ¬ k < 0) (h2 : ¬ nI hi < k) : inRb k 0 hi = true := inRb_t.mpr ⟨by rw [nI_0]; exact h1, Int32.not_lt.mp h2⟩
theorem inRb_in1 {k : Int32} {hi : Nat} (h1 : ¬ k < nI 1) (h2 : ¬ nI hi < k) : inRb k 1 hi = true := inRb_t.mpr ⟨h1, Int32.not_lt.mp h2⟩
theorem le19 {k : Int32} : nI 20 ≤ k ↔ ¬ k ≤ nI 19 := by
  rw [Int32.le_iff_toInt_le, Int32.le_iff_toInt_le, nI_toInt (by decide), nI_toInt (by decide)]
  omega
theorem inRb_ge {k : Int32} (h : nI 20 ≤ k) : inRb k 0 19 = false := inRb_f.mpr (fun q => (le19.mp h) q.2)
theorem inRb_i2 {k : Int32} (h1 : ¬ k < 0) (h2 : ¬ nI 20 ≤ k) : inRb k 0 19 = true := inRb_t.mpr ⟨by rw [nI_0]; exact h1, Classical.byContradiction fun q => h2 (le19.mpr q)⟩
def inBb (k : Int32) (b : Nat) : Bool := !decide (k < 0) && decide (k < nI b)
theorem inBb_t {k : Int32} {b : Nat} : inBb k b = true ↔ inB k b := by simp [inBb, inB]
theorem inBb_f {k : Int32} {b : Nat} : inBb k b = false ↔ ¬ inB k b := by rw [← inBb_t]; simp
theorem inBb_lt {k : Int32} {b : Nat} (h : k < 0) : inBb k b = false := inBb_f.mpr (fun q => q.1 h)
theorem inBb_ge {k : Int32} {b : Nat} (h : nI b ≤ k) : inBb k b = false := inBb_f.mpr (fun q => (Int32.not_lt.mpr h) q.2)
theorem inBb_in {k : Int32} {b : Nat} (h1 : ¬ k < 0) (h2 : ¬ nI b ≤ k) : inBb k b = true := inBb_t.mpr ⟨h1, Int32.not_le.mp h2⟩
def mb1 (f : Bool) : Nat := match f with
  | true => 0
  | false => 1
def mb2 (f g : Bool) : Nat := match f, g with
  | false, _ => 1
  | true, false => 2
  | true, true => 0
def evT (k : Int32) (cl n : Nat) : Bool := !decide (k / nI 100 < nI cl) && decide (n < 250)
theorem evT_1 {k : Int32} {cl n : Nat} (h : k / nI 100 < nI cl) : evT k cl n = false := by simp [evT, h]
theorem evT_2 {k : Int32} {cl n : Nat} (h : 250 ≤ n) : evT k cl n = false := by simp [evT]; omega
theorem evT_3 {k : Int32} {cl n : Nat} (h : ¬ k / nI 100 < nI cl) (h2 : n < 250) : evT k cl n = true := by simp [evT, h, h2]
theorem evT_nat {t cl n : Nat} (ht : t < 2 ^ 31) (hc : cl < 2 ^ 31) : evT (nI t) cl n = true ↔ cl ≤ t / 100 ∧ n < 250 := by
  unfold evT
  rw [pk_div ht (by decide) (by decide)]
  simp only [Bool.and_eq_true, Bool.not_eq_true', decide_eq_false_iff_not, decide_eq_true_eq]
  rw [nI_ltI (by omega) hc]
  omega
theorem evT_ok {t cl n : Nat} (ht : t < 2 ^ 31) (hc : cl < 2 ^ 31) (h : evT (nI t) cl n = true) : cl ≤ t / 100 ∧ n < 250 := (evT_nat ht hc).mp h
theorem up_same {α : Type} {f : Nat → α} {x : Nat} : va_up f x (f x) = f := by
  funext k
  by_cases hk : k = x
  · simp [va_up, hk]
  · simp [va_up, hk]
theorem sbL_pos {f : Nat → Bool} {m p s : Nat} (hm : m < 2 ^ 31) (hp : p < m) (hf : f p = true) (hc : fb_ct f p = s) : ∀ r i, i + r = m → i ≤ p → sbL f (nI s) r i = p
  | 0, i, h1, h2 => absurd h1 (by omega)
  | r + 1, i, h1, h2 => by
    have hle := fb_ct_le f p
    by_cases hi : i = p
    · subst hi
      exact if_pos ⟨hf, by rw [hc]⟩
    · refine (if_neg (fun q => ?_)).trans (sbL_pos hm hp hf hc r (i + 1) (by omega) (by omega))
      have h3 := fb_ct_le f i
      have h4 := (nI_eq (by omega) (by omega)).mp q.2
      have h5 := fb_ct_mono f (show i + 1 ≤ p by omega)
      rw [ct_y q.1] at h5
      omega
theorem sbL_end {f : Nat → Bool} {m s : Nat} (hm : m < 2 ^ 31) (hs : fb_ct f m ≤ s) (hs2 : s < 2 ^ 31) : ∀ r i, i + r = m → sbL f (nI s) r i = m
  | 0, i, h1 => by rw [show i = m by omega]; rfl
  | r + 1, i, h1 => by
    refine (if_neg (fun q => ?_)).trans (sbL_end hm hs hs2 r (i + 1) (by omega))
    have h3 := fb_ct_le f i
    have h4 := (nI_eq (by omega) hs2).mp q.2
    have h5 := fb_ct_mono f (show i + 1 ≤ m by omega)
    rw [ct_y q.1] at h5
    omega
def LK (us ids tms ord : Nat → Nat) (gp u j my : Nat) (ow : Nat → Nat) (sn : Nat) (bg : Nat → Nat) : Prop :=
  my = mm us ids ord j u ∧ (∀ i, i < my → ow i = Em us ids ord j u i) ∧ sn = fb_ct (bs (tau us ids tms ord j u) gp) my ∧ ∀ s, s < sn → bg s < my ∧ bs (tau us ids tms ord j u) gp (bg s) = true ∧ fb_ct (bs (tau us ids tms ord j u) gp) (bg s) = s
def LKok (us ids tms ord : Nat → Nat) (n gp u my : Nat) (ow : Nat → Nat) (sn : Nat) (bg : Nat → Nat) : Prop :=
  my = mm us ids ord n u ∧ (∀ i, i < my → ow i = Em us ids ord n u i) ∧ sn = fb_ct (bs (tau us ids tms ord n u) gp) (mm us ids ord n u) ∧ ∀ s, s ≤ sn → bg s = sbL (bs (tau us ids tms ord n u) gp) (nI s) my 0
section
variable {us ids tms ord : Nat → Nat} {n gp u j my : Nat} {ow : Nat → Nat} {sn : Nat} {bg : Nat → Nat}
theorem LK_0 : LK us ids tms ord gp u 0 0 ow 0 bg := ⟨rfl, fun i h => absurd h (Nat.not_lt_zero _), rfl, fun i h => absurd h (Nat.not_lt_zero _)⟩
theorem LK.le1 (h : LK us ids tms ord gp u j my ow sn bg) : my ≤ j := by rw [h.1]; exact mm_le _ _ _ _ _
theorem LK.le2 (h : LK us ids tms ord gp u j my ow sn bg) : sn ≤ my := by rw [h.2.2.1]; exact fb_ct_le _ _
theorem LK.own_lt (h : LK us ids tms ord gp u j my ow sn bg) (hI : Inv us ids tms ord n) {i : Nat} (hi : i < my) : ow i < 250 := by
  rw [h.2.1 i hi]
  rw [h.1] at hi
  obtain ⟨k, -, -, -, h4⟩ := evl_at (f := uf us ids ord u) (ord := ord) (n := j) (j := i) hi
  rw [show Em us ids ord j u i = ord k from h4]
  exact hI.hor k
theorem LK_gt (hI : Inv us ids tms ord n) (hg : gp ≤ 500) (h : LK us ids tms ord gp u j my ow sn bg) (h0 : 0 < my) (hq : ¬ nI (tms (ord j)) - nI (tms (ow (my - 1))) ≤ nI gp) : tms (ow (my - 1)) + gp < tms (ord j) := by
  have h1 := hI.htm (ord j)
  have h2 := hI.htm (ow (my - 1))
  rw [sub_le (by omega) (by omega) (by omega)] at hq
  omega
theorem LK_le (hI : Inv us ids tms ord n) (hg : gp ≤ 500) (h : LK us ids tms ord gp u j my ow sn bg) (h0 : 0 < my) (hq : nI (tms (ord j)) - nI (tms (ow (my - 1))) ≤ nI gp) : tms (ord j) ≤ tms (ow (my - 1)) + gp := by
  have h1 := hI.htm (ord j)
  have h2 := hI.htm (ow (my - 1))
  rw [sub_le (by omega) (by omega) (by omega)] at hq
  omega
theorem LK_n (h : LK us ids tms ord gp u j my ow sn bg) (hu : us (ids (ord j)) ≠ u) : LK us ids tms ord gp u (j + 1) my ow sn bg := by
  have hf : uf us ids ord u j = false := decide_eq_false hu
  have e1 : mm us ids ord (j + 1) u = mm us ids ord j u := ct_n hf
  have e2 : Em us ids ord (j + 1) u = Em us ids ord j u := evl_n hf
  unfold LK tau
  rw [e1, e2]
  exact h
theorem tau_y (hu : us (ids (ord j)) = u) : mm us ids ord (j + 1) u = mm us ids ord j u + 1 ∧ (∀ i, i < mm us ids ord j u → Em us ids ord (j + 1) u i = Em us ids ord j u i) ∧ Em us ids ord (j + 1) u (mm us ids ord j u) = ord j := by
  have hf : uf us ids ord u j = true := decide_eq_true hu
  refine ⟨ct_y hf, fun i hi => ?_, ?_⟩
  · show evl _ ord (j + 1) i = _
    rw [evl_y hf]
    exact if_neg (by
      have hi' : i < fb_ct (uf us ids ord u) j := hi
      omega)
  · show evl _ ord (j + 1) _ = _
    rw [evl_y hf]
    exact if_pos rfl
theorem LK_y (h : LK us ids tms ord gp u j my ow sn bg) (hu : us (ids (ord j)) = u) : my + 1 = mm us ids ord (j + 1) u ∧ (∀ i, i < my + 1 → va_up ow my (ord j) i = Em us ids ord (j + 1) u i) ∧ (∀ p, p < my → bs (tau us ids tms ord (j + 1) u) gp p = bs (tau us ids tms ord j u) gp p) ∧ (∀ p, p ≤ my → fb_ct (bs (tau us ids tms ord (j + 1) u) gp) p = fb_ct (bs (tau us ids tms ord j u) gp) p) ∧ tau us ids tms ord (j + 1) u my = tms (ord j) := by
  obtain ⟨h1, h2, h3, h4⟩ := h
  obtain ⟨e1, e2, e3⟩ := tau_y (us := us) (ids := ids) (ord := ord) (j := j) (u := u) hu
  rw [← h1] at e1 e2 e3
  have hb : ∀ p, p < my → bs (tau us ids tms ord (j + 1) u) gp p = bs (tau us ids tms ord j u) gp p := bs_cong (fun i hi => by
    show tms _ = tms _
    rw [e2 i hi])
  refine ⟨e1.symm, fun i hi => ?_, hb, fun p hp => fb_ct_cong (fun k hk => hb k (by omega)), by show tms _ = _; rw [e3]⟩
  by_cases hq : i = my
  · subst hq
    rw [e3]
    exact if_pos rfl
  · rw [e2 i (by omega), ← h2 i (by omega)]
    exact if_neg hq
theorem LK_b (h : LK us ids tms ord gp u j my ow sn bg) (hu : us (ids (ord j)) = u) (hc : my = 0 ∨ (0 < my ∧ tms (ow (my - 1)) + gp < tms (ord j))) : LK us ids tms ord gp u (j + 1) (my + 1) (va_up ow my (ord j)) (sn + 1) (va_up bg sn my) := by
  obtain ⟨a1, a2, a3, a4, a5⟩ := LK_y h hu
  obtain ⟨h1, h2, h3, h4⟩ := h
  have hb : bs (tau us ids tms ord (j + 1) u) gp my = true := by
    rcases hc with hc | ⟨hc, hd⟩
    · exact bs_0 hc
    · refine decide_eq_true (Or.inr ?_)
      rw [a5]
      have := a2 (my - 1) (by omega)
      rw [show va_up ow my (ord j) (my - 1) = ow (my - 1) from if_neg (by omega)] at this
      show tms (Em us ids ord (j + 1) u (my - 1)) + gp < _
      rw [← this]
      exact hd
  refine ⟨a1, a2, by rw [ct_y hb, a4 my (Nat.le_refl _), h3], fun s hs => ?_⟩
  by_cases hq : s = sn
  · subst hq
    rw [show va_up bg s my s = my from if_pos rfl]
    exact ⟨Nat.lt_succ_self _, hb, by rw [a4 my (Nat.le_refl _), h3]⟩
  · rw [show va_up bg sn my s = bg s from if_neg hq]
    obtain ⟨g1, g2, g3⟩ := h4 s (by omega)
    exact ⟨by omega, by rw [a3 _ g1]; exact g2, by rw [a4 _ (by omega)]; exact g3⟩
theorem LK_c (h : LK us ids tms ord gp u j my ow sn bg) (hu : us (ids (ord j)) = u) (h0 : 0 < my) (hd : tms (ord j) ≤ tms (ow (my - 1)) + gp) : LK us ids tms ord gp u (j + 1) (my + 1) (va_up ow my (ord j)) sn bg := by
  obtain ⟨a1, a2, a3, a4, a5⟩ := LK_y h hu
  obtain ⟨h1, h2, h3, h4⟩ := h
  have hb : bs (tau us ids tms ord (j + 1) u) gp my = false := by
    refine decide_eq_false (fun q => ?_)
    rcases q with q | q
    · omega
    · rw [a5] at q
      have := a2 (my - 1) (by omega)
      rw [show va_up ow my (ord j) (my - 1) = ow (my - 1) from if_neg (by omega)] at this
      have q : tms (Em us ids ord (j + 1) u (my - 1)) + gp < tms (ord j) := q
      rw [← this] at q
      omega
  refine ⟨a1, a2, by rw [ct_n hb, a4 my (Nat.le_refl _), h3], fun s hs => ?_⟩
  obtain ⟨g1, g2, g3⟩ := h4 s hs
  exact ⟨by omega, by rw [a3 _ g1]; exact g2, by rw [a4 _ (by omega)]; exact g3⟩
theorem LK_end (hn : n ≤ 250) (h : LK us ids tms ord gp u n my ow sn bg) : LKok us ids tms ord n gp u my ow sn (va_up bg sn my) := by
  have hm := h.le1
  have hs := h.le2
  obtain ⟨h1, h2, h3, h4⟩ := h
  refine ⟨h1, h2, by rw [h3, h1], fun s hs2 => ?_⟩
  by_cases hq : s = sn
  · subst hq
    rw [show va_up bg s my s = my from if_pos rfl]
    exact (sbL_end (by omega) (by rw [h3]; exact Nat.le_refl _) (by omega) my 0 (by omega)).symm
  · rw [show va_up bg sn my s = bg s from if_neg hq]
    obtain ⟨g1, g2, g3⟩ := h4 s (by omega)
    exact (sbL_pos (by omega) g1 g2 g3 my 0 (by omega) (Nat.zero_le _)).symm
theorem LKok.cnt (h : LKok us ids tms ord n gp u my ow sn bg) : my = mm us ids ord n u := h.1
theorem LKok.se (h : LKok us ids tms ord n gp u my ow sn bg) : sn = fb_ct (bs (tau us ids tms ord n u) gp) (mm us ids ord n u) := h.2.2.1
theorem LKok.le (h : LKok us ids tms ord n gp u my ow sn bg) : my ≤ n := by rw [h.1]; exact mm_le _ _ _ _ _
theorem LKok.le2 (h : LKok us ids tms ord n gp u my ow sn bg) : sn ≤ my := by rw [h.2.2.1, h.1]; exact fb_ct_le _ _
theorem LKok.how (h : LKok us ids tms ord n gp u my ow sn bg) {i : Nat} (hi : i < my) : ow i = Em us ids ord n u i := h.2.1 i hi
theorem LKok.hbg (h : LKok us ids tms ord n gp u my ow sn bg) {s : Nat} (hs : s ≤ sn) : bg s = sbL (bs (tau us ids tms ord n u) gp) (nI s) (mm us ids ord n u) 0 := by rw [h.2.2.2 s hs, h.1]
end
