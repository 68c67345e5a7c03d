/-! Sessions: our class goes through them, the reference has their places in a row. -/
section
variable {f : Nat → Bool} {m s p : Nat}
theorem sbL_spec {k : Int32} : ∀ r i, sbL f k r i = i + r ∨ (f (sbL f k r i) = true ∧ nI (fb_ct f (sbL f k r i)) = k ∧ sbL f k r i < i + r)
  | 0, i => Or.inl rfl
  | r + 1, i => by
    by_cases h : f i = true ∧ nI (fb_ct f i) = k
    · have e : sbL f k (r + 1) i = i := if_pos h
      rw [e]
      exact Or.inr ⟨h.1, h.2, by omega⟩
    · have e : sbL f k (r + 1) i = sbL f k r (i + 1) := if_neg h
      rw [e]
      rcases sbL_spec (k := k) r (i + 1) with h2 | h2
      · exact Or.inl (by omega)
      · exact Or.inr ⟨h2.1, h2.2.1, by omega⟩
theorem sb_lt {k : Int32} (hm : m < 2 ^ 30) : sbL f k m 0 < m ↔ inB k (fb_ct f m) := by
  have hc := fb_ct_le f m
  constructor
  · intro h
    rcases sbL_spec (f := f) (k := k) m 0 with h2 | h2
    · omega
    · have h3 := fb_ct_mono f (show sbL f k m 0 + 1 ≤ m by omega)
      rw [ct_y h2.1] at h3
      rw [← h2.2.1]
      exact (inB_nI (by omega) (by omega)).mpr (by omega)
  · intro h
    obtain ⟨s, hs, rfl⟩ := inB_nat h (by omega)
    obtain ⟨p, a1, a2, a3⟩ := fb_ct_kth hs
    rw [sbL_pos (show m < 2 ^ 31 by omega) a1 a2 a3 m 0 (by omega) (Nat.zero_le _)]
    exact a1
theorem sb_at2 (hm : m < 2 ^ 30) (hs : s < fb_ct f m) : ∃ p, p < m ∧ f p = true ∧ fb_ct f p = s ∧ sbL f (nI s) m 0 = p := by
  obtain ⟨p, a1, a2, a3⟩ := fb_ct_kth hs
  exact ⟨p, a1, a2, a3, sbL_pos (show m < 2 ^ 31 by omega) a1 a2 a3 m 0 (by omega) (Nat.zero_le _)⟩
theorem sb_skip (hm : m < 2 ^ 30) (hp : p < m) (hs : fb_ct f p = s) : ∀ r i, i + r = m → i ≤ p + 1 → sbL f (nI (s + 1)) r i = sbL f (nI (s + 1)) (m - (p + 1)) (p + 1)
  | 0, i, h1, h2 => by rw [show i = p + 1 by omega, show m - (p + 1) = 0 by omega]
  | r + 1, i, h1, h2 => by
    by_cases hi : i = p + 1
    · rw [hi, show r + 1 = m - (p + 1) by omega]
    · refine (if_neg (fun q => ?_)).trans (sb_skip hm hp hs r (i + 1) (by omega) (by omega))
      have h3 := fb_ct_mono f (show i ≤ p by omega)
      have h4 := fb_ct_le f p
      have h5 := (nI_eq (by omega) (by omega)).mp q.2
      omega
theorem se_sb (hs : fb_ct f (p + 1) = s + 1) : ∀ r i, p + 1 ≤ i → fb_ct f i = s + 1 → seL f r i = sbL f (nI (s + 1)) r i
  | 0, i, h1, h2 => rfl
  | r + 1, i, h1, h2 => by
    cases hf : f i with
    | true => exact (if_pos hf).trans (if_pos ⟨hf, by rw [h2]⟩).symm
    | false =>
      refine (if_neg (by rw [hf]; decide)).trans (Eq.trans (se_sb hs r (i + 1) (by omega) (by rw [ct_n hf]; exact h2)) (if_neg (fun q => ?_)).symm)
      rw [hf] at q
      cases q.1
theorem se_eq (hm : m < 2 ^ 30) (hs : s < fb_ct f m) : seL f (m - (sbL f (nI s) m 0 + 1)) (sbL f (nI s) m 0 + 1) = sbL f (nI (s + 1)) m 0 := by
  obtain ⟨p, a1, a2, a3, a4⟩ := sb_at2 hm hs
  rw [a4, sb_skip hm a1 a3 m 0 (by omega) (by omega)]
  have h := ct_y a2
  rw [a3] at h
  exact se_sb h _ _ (Nat.le_refl _) h
theorem ct_kth {g : Nat → Bool} (hm : m < 2 ^ 30) : ∀ j, j ≤ m → fb_ct (fun i => g i && f i) j = fb_ct (fun s => g (sbL f (nI s) m 0)) (fb_ct f j)
  | 0, _ => rfl
  | j + 1, hj => by
    have ih := ct_kth (g := g) hm j (by omega)
    cases hf : f j with
    | true =>
      have e : sbL f (nI (fb_ct f j)) m 0 = j := sbL_pos (show m < 2 ^ 31 by omega) (by omega) hf rfl m 0 (by omega) (Nat.zero_le _)
      rw [ct_y hf, fb_ct_succ, fb_ct_succ, ih, e, hf, Bool.and_true]
    | false => rw [ct_n hf, fb_ct_succ, ih, hf, Bool.and_false]; rfl
end
section
variable {us ids tms ord : Nat → Nat} {n : Nat}
theorem eq_kS (hn : n ≤ 250) (gp dy : Nat) : fb_sm (fun u => fb_ct (bsd (tau us ids tms ord n u) gp dy) (mm us ids ord n u)) 20 = fb_sm (fun u => fb_ct (fun s => decide (tau us ids tms ord n u (sbL (bs (tau us ids tms ord n u) gp) (nI s) (mm us ids ord n u) 0) / 100 = dy)) (fb_ct (bs (tau us ids tms ord n u) gp) (mm us ids ord n u))) 20 := fb_sm_cong (fun u _ => by
  have hm := mm_le us ids ord n u
  exact ct_kth (f := bs (tau us ids tms ord n u) gp) (g := fun i => decide (tau us ids tms ord n u i / 100 = dy)) (m := mm us ids ord n u) (by omega) _ (Nat.le_refl _))
end
/-! a new event keeps the order -/
theorem ins_ch {tm ord : Nat → Nat} {t n : Nat} : ∀ p (o : Nat → Nat), p ≤ n → (∀ k, o k = if k ≤ p then ord k else if k ≤ n then ord (k - 1) else ord k) → (∀ k, p ≤ k → k < n → t < tm (ord k)) →
    ∃ q, q ≤ p ∧ (q = 0 ∨ tm (ord (q - 1)) ≤ t) ∧ (∀ k, q ≤ k → k < n → t < tm (ord k)) ∧ ∀ k, insO tm t n p o k = if k < q then ord k else if k = q then n else if k ≤ n then ord (k - 1) else ord k
  | 0, o, h0, h1, h2 => ⟨0, Nat.le_refl _, Or.inl rfl, h2, fun k => by
      show (if k = 0 then n else o k) = _
      by_cases hk : k = 0
      · rw [if_pos hk, if_neg (by omega), if_pos hk]
      · rw [if_neg hk, h1 k]
        simp [hk]⟩
  | p + 1, o, h0, h1, h2 => by
    have ho : o p = ord p := by rw [h1 p, if_pos (by omega)]
    by_cases h : t < tm (o p)
    · rw [insO_s h]
      obtain ⟨q, q1, q2, q3, q4⟩ := ins_ch (tm := tm) (ord := ord) (t := t) (n := n) p (va_up o (p + 1) (o p)) (by omega) (fun k => by
        show (if k = p + 1 then o p else o k) = _
        by_cases hk : k = p + 1
        · rw [if_pos hk, ho, if_neg (by omega), if_pos (by omega), hk, Nat.add_sub_cancel]
        · rw [if_neg hk, h1 k]
          by_cases hk2 : k ≤ p
          · rw [if_pos (by omega), if_pos hk2]
          · rw [if_neg (by omega), if_neg hk2]) (fun k a b => by
        by_cases hk : k = p
        · rw [hk, ← ho]; exact h
        · exact h2 k (by omega) b)
      exact ⟨q, by omega, q2, q3, q4⟩
    · rw [insO_e (by omega)]
      refine ⟨p + 1, Nat.le_refl _, Or.inr (by rw [Nat.add_sub_cancel, ← ho]; omega), h2, fun k => ?_⟩
      show (if k = p + 1 then n else o k) = _
      by_cases hk : k = p + 1
      · rw [if_pos hk, if_neg (by omega), if_pos hk]
      · rw [if_neg hk, h1 k]
        by_cases hk2 : k ≤ p + 1
        · rw [if_pos hk2, if_pos (by omega)]
        · simp only [if_neg hk2, if_neg (show ¬ k < p + 1 by omega), if_neg hk]
theorem Inv.event {us ids tms ord : Nat → Nat} {n i t : Nat} (hI : Inv us ids tms ord n) (hn : n < 250) (hi : i < 20) (ht : t < 2000) : Inv us (va_up ids n i) (va_up tms n t) (insO (va_up tms n t) t n n ord) (n + 1) := by
  obtain ⟨q, q1, q2, q3, q4⟩ := ins_ch (tm := va_up tms n t) (ord := ord) (t := t) (n := n) n ord (Nat.le_refl _) (fun k => by by_cases h : k ≤ n <;> simp [h]) (fun k a b => by omega)
  have hn250 := hI.hn
  have tmo : ∀ k, k < n → va_up tms n t (ord k) = tms (ord k) := fun k hk => if_neg (by have := hI.horn k hk; omega)
  have tmn : va_up tms n t n = t := if_pos rfl
  refine ⟨hI.hus, up_lt hI.hids hi, up_lt hI.htm ht, fun k => ?_, by omega, fun k hk => ?_, fun a b ha hb hab => ?_, fun k hk => ?_⟩
  · rw [q4 k]
    have h1 := hI.hor k
    have h2 := hI.hor (k - 1)
    split
    · exact h1
    · split
      · omega
      · split
        · exact h2
        · exact h1
  · rw [q4 k]
    split
    · have := hI.horn k (by omega); omega
    · split
      · omega
      · rw [if_pos (by omega)]
        have := hI.horn (k - 1) (by omega); omega
  · rw [q4 a, q4 b] at hab
    have inj := hI.hinj
    have orn := hI.horn
    by_cases a1 : a < q
    · rw [if_pos a1] at hab
      have oa := orn a (by omega)
      by_cases b1 : b < q
      · rw [if_pos b1] at hab
        exact inj a b (by omega) (by omega) hab
      · rw [if_neg b1] at hab
        by_cases b2 : b = q
        · rw [if_pos b2] at hab; omega
        · rw [if_neg b2, if_pos (by omega)] at hab
          have := inj a (b - 1) (by omega) (by omega) hab
          omega
    · rw [if_neg a1] at hab
      by_cases a2 : a = q
      · rw [if_pos a2] at hab
        by_cases b1 : b < q
        · rw [if_pos b1] at hab
          have := orn b (by omega); omega
        · rw [if_neg b1] at hab
          by_cases b2 : b = q
          · omega
          · rw [if_neg b2, if_pos (by omega)] at hab
            have := orn (b - 1) (by omega); omega
      · rw [if_neg a2, if_pos (by omega)] at hab
        have oa := orn (a - 1) (by omega)
        by_cases b1 : b < q
        · rw [if_pos b1] at hab
          have := inj (a - 1) b (by omega) (by omega) hab
          omega
        · rw [if_neg b1] at hab
          by_cases b2 : b = q
          · rw [if_pos b2] at hab; omega
          · rw [if_neg b2, if_pos (by omega)] at hab
            have := inj (a - 1) (b - 1) (by omega) (by omega) hab
            omega
  · have hso := hI.hsort
    rw [q4 k, q4 (k + 1)]
    by_cases k1 : k + 1 < q
    · rw [if_pos (by omega), if_pos k1, tmo k (by omega), tmo (k + 1) (by omega)]
      exact hso k (by omega)
    · by_cases k2 : k + 1 = q
      · rw [if_pos (by omega), if_neg k1, if_pos k2, tmn]
        rcases q2 with q2 | q2
        · omega
        · rw [show q - 1 = k by omega] at q2
          exact q2
      · simp only [if_neg (show ¬ k < q by omega), if_neg k1, if_neg k2, if_pos (show k + 1 ≤ n by omega), Nat.add_sub_cancel]
        by_cases k3 : k = q
        · simp only [if_pos k3, tmn, tmo k (by omega)]
          have h5 := q3 k (by omega) (by omega)
          rw [tmo k (by omega)] at h5
          omega
        · simp only [if_neg k3, if_pos (show k ≤ n by omega), tmo k (by omega), tmo (k - 1) (by omega)]
          have := hso (k - 1) (by omega)
          rwa [show k - 1 + 1 = k by omega] at this
theorem Inv.merge {us ids tms ord : Nat → Nat} {n lo hi x : Nat} (hI : Inv us ids tms ord n) (hl : lo < 20) : Inv (mgF us lo hi x) ids tms ord n := ⟨mg_lt hI.hus hl, hI.2⟩
