/-! p31: sessions told from event to event; the funnel with the latest beginnings -/
def so1 (b : Bool) (a : Int32) (x t : Nat) (f : Nat → Int32) : Nat → Int32 := if b = true then upd f 1 (if nI x = a then nI t else f 1) else f
def so2 (a : Int32) (x t : Nat) (f : Nat → Int32) : Nat → Int32 := if nI x = a then upd (upd f 0 (f 0 + nI 1)) 2 (nI t - upd f 0 (f 0 + nI 1) 1) else f
def soL (a : Int32) (ta : Nat → Nat) (g : Nat) (f : Nat → Int32) : Nat → (Nat → Int32)
  | 0 => f
  | i + 1 => so2 a (fb_ct (bs ta g) (i + 1) - 1) (ta i) (so1 (bs ta g i) a (fb_ct (bs ta g) i) (ta i) (soL a ta g f i))
theorem so1_n {a : Int32} {x t : Nat} {f : Nat → Int32} {b : Bool} (h : b = false) : so1 b a x t f = f := if_neg (by rw [h]; decide)
theorem so1_y {a : Int32} {x t : Nat} {f : Nat → Int32} {b : Bool} (h : b = true) (h2 : nI x = a) : so1 b a x t f = upd f 1 (nI t) := (if_pos h).trans (by rw [if_pos h2])
theorem so1_z {a : Int32} {x t : Nat} {f : Nat → Int32} {b : Bool} (h : b = true) (h2 : ¬ nI x = a) : so1 b a x t f = upd f 1 (f 1) := (if_pos h).trans (by rw [if_neg h2])
theorem so2_y {a : Int32} {x t : Nat} {f : Nat → Int32} (h2 : nI x = a) : so2 a x t f = upd (upd f 0 (f 0 + nI 1)) 2 (nI t - upd f 0 (f 0 + nI 1) 1) := if_pos h2
theorem so2_n {a : Int32} {x t : Nat} {f : Nat → Int32} (h2 : ¬ nI x = a) : so2 a x t f = f := if_neg h2
theorem up_at {f : Nat → Int32} {k j : Nat} {x : Int32} : upd f k x j = if j = k then x else f j := by
  by_cases h : j = k
  · subst h; rw [pk_us, if_pos rfl]
  · rw [pk_un h, if_neg h]
theorem bs_first {ta : Nat → Nat} {g : Nat} : ∀ {i : Nat}, 0 < i → 1 ≤ fb_ct (bs ta g) i := fun {i} hi => by
  have h := fb_ct_mono (bs ta g) (show 0 + 1 ≤ i by omega)
  rw [ct_y (bs_0 rfl)] at h
  omega
theorem so_inv {ta : Nat → Nat} {g s : Nat} {f : Nat → Int32} (h0 : f 0 = nI 0) (hs : s < 2 ^ 30) : ∀ i, i < 2 ^ 30 → (fb_ct (bs ta g) i ≤ s → soL (nI s) ta g f i 0 = nI 0) ∧
    (s < fb_ct (bs ta g) i → ∃ p q, p < q ∧ q ≤ i ∧ bs ta g p = true ∧ fb_ct (bs ta g) p = s ∧ ((q = i ∧ fb_ct (bs ta g) i = s + 1) ∨ (q < i ∧ bs ta g q = true ∧ fb_ct (bs ta g) q = s + 1)) ∧
      soL (nI s) ta g f i 0 = nI (q - p) ∧ soL (nI s) ta g f i 1 = nI (ta p) ∧ soL (nI s) ta g f i 2 = nI (ta (q - 1)) - nI (ta p))
  | 0, _ => ⟨fun _ => h0, fun h => absurd h (Nat.not_lt_zero _)⟩
  | i + 1, hi => by
    obtain ⟨ih1, ih2⟩ := so_inv (ta := ta) (g := g) h0 hs i (by omega)
    have hle := fb_ct_le (bs ta g) i
    show (_ → so2 (nI s) (fb_ct (bs ta g) (i + 1) - 1) (ta i) (so1 (bs ta g i) (nI s) (fb_ct (bs ta g) i) (ta i) (soL (nI s) ta g f i)) 0 = nI 0) ∧ (_ → ∃ p q, p < q ∧ q ≤ i + 1 ∧ bs ta g p = true ∧ fb_ct (bs ta g) p = s ∧ _ ∧
      so2 (nI s) (fb_ct (bs ta g) (i + 1) - 1) (ta i) (so1 (bs ta g i) (nI s) (fb_ct (bs ta g) i) (ta i) (soL (nI s) ta g f i)) 0 = nI (q - p) ∧
      so2 (nI s) (fb_ct (bs ta g) (i + 1) - 1) (ta i) (so1 (bs ta g i) (nI s) (fb_ct (bs ta g) i) (ta i) (soL (nI s) ta g f i)) 1 = nI (ta p) ∧
      so2 (nI s) (fb_ct (bs ta g) (i + 1) - 1) (ta i) (so1 (bs ta g i) (nI s) (fb_ct (bs ta g) i) (ta i) (soL (nI s) ta g f i)) 2 = nI (ta (q - 1)) - nI (ta p))
    generalize soL (nI s) ta g f i = F at ih1 ih2
    cases hb : bs ta g i with
    | true =>
      rw [ct_y hb, Nat.add_sub_cancel]
      by_cases hc : fb_ct (bs ta g) i = s
      · rw [so1_y rfl (by rw [hc]), so2_y (by rw [hc])]
        refine ⟨fun q => by omega, fun _ => ⟨i, i + 1, by omega, Nat.le_refl _, hb, hc, Or.inl ⟨rfl, by omega⟩, ?_, ?_, ?_⟩⟩
        · have := ih1 (by omega)
          simp only [up_at]
          simp only [show ¬ (0 : Nat) = 2 by decide, show ¬ (0 : Nat) = 1 by decide, if_false, if_true, this, nI_add]
          rw [show 0 + 1 = i + 1 - i by omega]
        · simp only [up_at]
          simp
        · simp only [up_at]
          simp
      · have hn : ¬ nI (fb_ct (bs ta g) i) = nI s := fun q => hc ((nI_eq (by omega) (by omega)).mp q)
        rw [so1_z rfl hn, so2_n hn]
        have hu : ∀ k, upd F 1 (F 1) k = F k := fun k => by
          rw [up_at]
          by_cases hk : k = 1
          · rw [if_pos hk, hk]
          · rw [if_neg hk]
        rw [hu, hu, hu]
        refine ⟨fun q => ih1 (by omega), fun q => ?_⟩
        obtain ⟨p, r, r1, r2, r3, r4, r5, r6⟩ := ih2 (by omega)
        refine ⟨p, r, r1, by omega, r3, r4, Or.inr ?_, r6⟩
        rcases r5 with ⟨e1, e2⟩ | ⟨e1, e2⟩
        · rw [e1]; exact ⟨by omega, hb, e2⟩
        · exact ⟨by omega, e2⟩
    | false =>
      rw [ct_n hb, so1_n rfl]
      have hi0 : 0 < i := by
        rcases Nat.eq_zero_or_pos i with q | q
        · rw [q, bs_0 rfl] at hb; cases hb
        · exact q
      have h1 := bs_first (ta := ta) (g := g) hi0
      by_cases hc : fb_ct (bs ta g) i = s + 1
      · rw [so2_y (by rw [hc]; rfl)]
        refine ⟨fun q => by omega, fun _ => ?_⟩
        obtain ⟨p, r, r1, r2, r3, r4, r5, r6, r7, r8⟩ := ih2 (by omega)
        have hr : r = i := by
          rcases r5 with ⟨e1, e2⟩ | ⟨e1, e2, e3⟩
          · exact e1
          · have := fb_ct_mono (bs ta g) (show r + 1 ≤ i by omega)
            rw [ct_y e2] at this
            omega
        subst hr
        refine ⟨p, r + 1, by omega, Nat.le_refl _, r3, r4, Or.inl ⟨rfl, hc⟩, ?_, ?_, ?_⟩
        · simp only [up_at]
          simp only [show ¬ (0 : Nat) = 2 by decide, if_false, if_true, r6, nI_add]
          rw [show r - p + 1 = r + 1 - p by omega]
        · simp only [up_at]
          simpa using r7
        · simp only [up_at, Nat.add_sub_cancel]
          simp [r7]
      · have hn : ¬ nI (fb_ct (bs ta g) i - 1) = nI s := fun q => hc (by have := (nI_eq (by omega) (by omega)).mp q; omega)
        rw [so2_n hn]
        refine ⟨ih1, fun q => ?_⟩
        obtain ⟨p, r, r1, r2, r3, r4, r5, r6⟩ := ih2 q
        refine ⟨p, r, r1, by omega, r3, r4, Or.inr ?_, r6⟩
        rcases r5 with ⟨e1, e2⟩ | ⟨e1, e2⟩
        · exact absurd e2 hc
        · exact ⟨by omega, e2⟩
theorem so_end {ta : Nat → Nat} {g s m : Nat} {f : Nat → Int32} (h0 : f 0 = nI 0) (hm : m < 2 ^ 30) (hs : s < fb_ct (bs ta g) m) :
    soL (nI s) ta g f m 0 = nI (sbL (bs ta g) (nI (s + 1)) m 0) - nI (sbL (bs ta g) (nI s) m 0) ∧ soL (nI s) ta g f m 1 = nI (ta (sbL (bs ta g) (nI s) m 0)) ∧
    soL (nI s) ta g f m 2 = nI (ta (sbL (bs ta g) (nI (s + 1)) m 0 - 1)) - nI (ta (sbL (bs ta g) (nI s) m 0)) := by
  have hle := fb_ct_le (bs ta g) m
  obtain ⟨p, q, r1, r2, r3, r4, r5, r6, r7, r8⟩ := (so_inv (ta := ta) (g := g) (s := s) h0 (by omega) m hm).2 hs
  have hp : sbL (bs ta g) (nI s) m 0 = p := sbL_pos (show m < 2 ^ 31 by omega) (by omega) r3 r4 m 0 (by omega) (Nat.zero_le _)
  have hq : sbL (bs ta g) (nI (s + 1)) m 0 = q := by
    rcases r5 with ⟨e1, e2⟩ | ⟨e1, e2, e3⟩
    · rw [e1]; exact sbL_end (show m < 2 ^ 31 by omega) (by omega) (by omega) m 0 (by omega)
    · exact sbL_pos (show m < 2 ^ 31 by omega) e1 e2 e3 m 0 (by omega) (Nat.zero_le _)
  rw [hp, hq, r6, r7, r8, pk_sub (by omega)]
  exact ⟨rfl, rfl, rfl⟩
/-! the funnel -/
def mxO (a b : Option Nat) : Option Nat := match a, b with
  | some x, some y => if y < x then some x else some y
  | some x, none => some x
  | none, b => b
theorem mxO_y {a b : Option Nat} (ha : ∀ x, a = some x → x < 2 ^ 31) (hb : ∀ x, b = some x → x < 2 ^ 31) (h : ¬ oI a ≤ oI b) : mxO a b = a := by
  cases a with
  | none =>
    cases b with
    | none => rfl
    | some y => exact absurd (Int32.le_of_lt (Int32.lt_of_lt_of_le (show (-1 : Int32) < 0 by decide) (nI_pos' (hb y rfl)))) h
  | some x =>
    cases b with
    | none => rfl
    | some y => exact if_pos (Nat.not_le.mp fun q => h (nI_le q (hb y rfl)))
theorem mxO_n {a b : Option Nat} (ha : ∀ x, a = some x → x < 2 ^ 31) (hb : ∀ x, b = some x → x < 2 ^ 31) (h : oI a ≤ oI b) : mxO a b = b := by
  cases a with
  | none => cases b <;> rfl
  | some x =>
    cases b with
    | none =>
      have h1 : nI x ≤ (-1 : Int32) := h
      have h2 := nI_pos' (ha x rfl)
      exact absurd (Int32.le_trans h2 h1) (by decide)
    | some y => exact if_neg (Nat.not_lt.mpr ((nI_leI (ha x rfl) (hb y rfl)).mp h))
def ldP (cnt win st t : Nat) (d : DP) : DP := match (if st = 0 then some t else d.1 (st - 1)) with
  | none => (va_up d.1 st (mxO none (d.1 st)), d.2)
  | some x => (va_up d.1 st (mxO (some x) (d.1 st)), if t - x ≤ win then (max d.2.1 (st + 1), if st + 1 = cnt then fmU d.2.2 (t - x) else d.2.2) else d.2)
section
variable {cnt win st t x y : Nat} {lat l2 : Nat → Option Nat} {ps : Nat} {fm : Option Nat} {o : Option Nat}
theorem ldP_0 (h : o = if st = 0 then some t else lat (st - 1)) (h2 : l2 = va_up lat st (mxO o (lat st))) (h3 : o = none) : ldP cnt win st t (lat, ps, fm) = (l2, ps, fm) := by
  unfold ldP
  rw [h3] at h h2
  rw [h2]
  simp only [← h]
theorem ldP_s (h : o = if st = 0 then some t else lat (st - 1)) (h2 : l2 = va_up lat st (mxO o (lat st))) (h3 : o = some x) : ldP cnt win st t (lat, ps, fm) = (l2, if t - x ≤ win then (max ps (st + 1), if st + 1 = cnt then fmU fm (t - x) else fm) else (ps, fm)) := by
  unfold ldP
  rw [h3] at h h2
  rw [h2]
  simp only [← h]
theorem ldP_w (h : o = if st = 0 then some t else lat (st - 1)) (h2 : l2 = va_up lat st (mxO o (lat st))) (h3 : o = some x) (hw : win < t - x) : ldP cnt win st t (lat, ps, fm) = (l2, ps, fm) := by
  rw [ldP_s h h2 h3, if_neg (by omega)]
theorem ldP_n (h : o = if st = 0 then some t else lat (st - 1)) (h2 : l2 = va_up lat st (mxO o (lat st))) (h3 : o = some x) (hw : t - x ≤ win) (hn : st + 1 ≠ cnt) : ldP cnt win st t (lat, ps, fm) = (l2, max ps (st + 1), fm) := by
  rw [ldP_s h h2 h3, if_pos hw, if_neg hn]
theorem ldP_l (h : o = if st = 0 then some t else lat (st - 1)) (h2 : l2 = va_up lat st (mxO o (lat st))) (h3 : o = some x) (hw : t - x ≤ win) (hn : st + 1 = cnt) (hf : fm = none) : ldP cnt win st t (lat, ps, fm) = (l2, max ps (st + 1), some (t - x)) := by
  rw [ldP_s h h2 h3, if_pos hw, if_pos hn, hf]; rfl
theorem ldP_l2 (h : o = if st = 0 then some t else lat (st - 1)) (h2 : l2 = va_up lat st (mxO o (lat st))) (h3 : o = some x) (hw : t - x ≤ win) (hn : st + 1 = cnt) (hy : y ≤ t - x) : ldP cnt win st t (lat, ps, some y) = (l2, max ps (st + 1), some y) := by
  rw [ldP_s h h2 h3, if_pos hw, if_pos hn]
  show (_, _, if t - x < y then some (t - x) else some y) = _
  rw [if_neg (by omega)]
theorem ldP_l3 (h : o = if st = 0 then some t else lat (st - 1)) (h2 : l2 = va_up lat st (mxO o (lat st))) (h3 : o = some x) (hw : t - x ≤ win) (hn : st + 1 = cnt) (hy : t - x < y) : ldP cnt win st t (lat, ps, some y) = (l2, max ps (st + 1), some (t - x)) := by
  rw [ldP_s h h2 h3, if_pos hw, if_pos hn]
  show (_, _, if t - x < y then some (t - x) else some y) = _
  rw [if_pos hy]
end
theorem mxO_le {a b : Option Nat} {t : Nat} (ha : ∀ x, a = some x → x ≤ t) (hb : ∀ x, b = some x → x ≤ t) : ∀ x, mxO a b = some x → x ≤ t := by
  intro x h
  cases a with
  | none => exact hb x h
  | some y =>
    cases b with
    | none => exact ha x h
    | some z =>
      have h : (if z < y then some y else some z) = some x := h
      by_cases hq : z < y
      · rw [if_pos hq] at h; exact ha x h
      · rw [if_neg hq] at h; exact hb x h
/-- the law's pass beside the class's -/
def Sim (win t : Nat) (c l : DP) : Prop := l.2 = c.2 ∧ (∀ k x, c.1 k = some x → ∃ y, l.1 k = some y ∧ x ≤ y) ∧ (∀ k y, l.1 k = some y → t ≤ y + win → c.1 k = some y) ∧ (∀ k z, l.1 (k + 1) = some z → ∃ y, l.1 k = some y ∧ z ≤ y) ∧ ∀ k y, l.1 k = some y → y ≤ t
theorem Sim.go {win t t' : Nat} {c l : DP} (h : Sim win t c l) (ht : t ≤ t') : Sim win t' c l := ⟨h.1, h.2.1, fun k y hy hw => h.2.2.1 k y hy (by omega), h.2.2.2.1, fun k y hy => Nat.le_trans (h.2.2.2.2 k y hy) ht⟩
theorem ldP_sim {cnt win st t : Nat} {c l : DP} (h : Sim win t c l) : Sim win t (dpPass cnt win st t c) (ldP cnt win st t l) := by
  obtain ⟨lc, pc, fc⟩ := c
  obtain ⟨ll, pl, fl⟩ := l
  obtain ⟨h1, hA, hB, hC, hD⟩ := h
  have h1 : (pl, fl) = (pc, fc) := h1
  cases h1
  have hA : ∀ k x, lc k = some x → ∃ y, ll k = some y ∧ x ≤ y := hA
  have hB : ∀ k y, ll k = some y → t ≤ y + win → lc k = some y := hB
  have hC : ∀ k z, ll (k + 1) = some z → ∃ y, ll k = some y ∧ z ≤ y := hC
  have hD : ∀ k y, ll k = some y → y ≤ t := hD
  cases ho : (if st = 0 then some t else ll (st - 1)) with
  | none =>
    have h0 : st ≠ 0 := fun q => by rw [if_pos q] at ho; cases ho
    rw [if_neg h0] at ho
    have hst : ll st = none := by
      cases e : ll st with
      | none => rfl
      | some z =>
        obtain ⟨y, hy, -⟩ := hC (st - 1) z (by rw [show st - 1 + 1 = st by omega]; exact e)
        rw [ho] at hy; cases hy
    have hl : va_up ll st (mxO none (ll st)) = ll := by
      rw [show mxO none (ll st) = ll st from rfl]
      exact up_same
    have hc : lc (st - 1) = none := by
      cases e : lc (st - 1) with
      | none => rfl
      | some x =>
        obtain ⟨y, hy, -⟩ := hA _ _ e
        rw [ho] at hy; cases hy
    rw [ldP_0 (o := none) (l2 := ll) (by rw [if_neg h0]; exact ho.symm) hl.symm rfl, dpP_0 (by rw [if_neg h0]; exact hc)]
    exact ⟨rfl, hA, hB, hC, hD⟩
  | some x =>
    have hxt : x ≤ t := by
      by_cases h0 : st = 0
      · rw [if_pos h0] at ho; cases ho; exact Nat.le_refl _
      · rw [if_neg h0] at ho; exact hD _ _ ho
    have hbl : ∀ z, ll st = some z → z ≤ x := fun z hz => by
      by_cases h0 : st = 0
      · rw [if_pos h0] at ho; cases ho; exact hD _ _ hz
      · rw [if_neg h0] at ho
        obtain ⟨y, hy, hy2⟩ := hC (st - 1) z (by rw [show st - 1 + 1 = st by omega]; exact hz)
        rw [ho] at hy; cases hy
        exact hy2
    have hm : mxO (some x) (ll st) = some x := by
      cases e : ll st with
      | none => rfl
      | some z =>
        show (if z < x then some x else some z) = some x
        by_cases q : z < x
        · rw [if_pos q]
        · rw [if_neg q, show z = x by have := hbl z e; omega]
    have hl2 : va_up ll st (some x) = va_up ll st (mxO (some x) (ll st)) := by rw [hm]
    have at1 : va_up ll st (some x) st = some x := if_pos rfl
    have at2 : ∀ {k}, k ≠ st → va_up ll st (some x) k = ll k := fun {k} hk => if_neg hk
    have hC2 : ∀ k z, va_up ll st (some x) (k + 1) = some z → ∃ y, va_up ll st (some x) k = some y ∧ z ≤ y := fun k z hz => by
      by_cases k1 : k + 1 = st
      · rw [k1, at1] at hz
        cases hz
        rw [if_neg (by omega)] at ho
        exact ⟨x, by rw [at2 (by omega), show k = st - 1 by omega]; exact ho, Nat.le_refl _⟩
      · rw [at2 k1] at hz
        obtain ⟨y, hy, hy2⟩ := hC k z hz
        by_cases k2 : k = st
        · rw [k2] at hy
          exact ⟨x, by rw [k2]; exact at1, Nat.le_trans hy2 (hbl y hy)⟩
        · exact ⟨y, by rw [at2 k2]; exact hy, hy2⟩
    have hD2 : ∀ k y, va_up ll st (some x) k = some y → y ≤ t := fun k y hy => by
      by_cases k2 : k = st
      · rw [k2, at1] at hy; cases hy; exact hxt
      · rw [at2 k2] at hy; exact hD k y hy
    by_cases hw : t - x ≤ win
    · have hcs : (if st = 0 then some t else lc (st - 1)) = some x := by
        by_cases h0 : st = 0
        · rw [if_pos h0] at ho ⊢; exact ho
        · rw [if_neg h0] at ho ⊢; exact hB _ _ ho (by omega)
      rw [ldP_s (o := some x) (x := x) ho.symm hl2 rfl, if_pos hw, dpP_ok hcs hw]
      refine ⟨rfl, fun k z hz => ?_, fun k y hy hq => ?_, hC2, hD2⟩
      · have hz : va_up lc st (some x) k = some z := hz
        show ∃ y, va_up ll st (some x) k = some y ∧ z ≤ y
        by_cases k2 : k = st
        · rw [k2] at hz ⊢
          rw [show va_up lc st (some x) st = some x from if_pos rfl] at hz
          cases hz
          exact ⟨x, at1, Nat.le_refl _⟩
        · rw [show va_up lc st (some x) k = lc k from if_neg k2] at hz
          rw [at2 k2]
          exact hA k z hz
      · have hy : va_up ll st (some x) k = some y := hy
        show va_up lc st (some x) k = some y
        by_cases k2 : k = st
        · rw [k2] at hy ⊢
          rw [at1] at hy
          rw [show va_up lc st (some x) st = some x from if_pos rfl]
          exact hy
        · rw [at2 k2] at hy
          rw [show va_up lc st (some x) k = lc k from if_neg k2]
          exact hB k y hy hq
    · have hcs : dpPass cnt win st t (lc, pc, fc) = (lc, pc, fc) := by
        cases e : (if st = 0 then some t else lc (st - 1)) with
        | none => exact dpP_0 e
        | some z =>
          refine dpP_w e ?_
          have : z ≤ x := by
            by_cases h0 : st = 0
            · rw [if_pos h0] at e ho; cases e; cases ho; exact Nat.le_refl _
            · rw [if_neg h0] at e ho
              obtain ⟨y, hy, hy2⟩ := hA _ _ e
              rw [ho] at hy; cases hy; exact hy2
          omega
      rw [ldP_s (o := some x) (x := x) ho.symm hl2 rfl, if_neg hw, hcs]
      refine ⟨rfl, fun k z hz => ?_, fun k y hy hq => ?_, hC2, hD2⟩
      · have hz : lc k = some z := hz
        show ∃ y, va_up ll st (some x) k = some y ∧ z ≤ y
        obtain ⟨y, hy, hy2⟩ := hA k z hz
        by_cases k2 : k = st
        · rw [k2] at hy ⊢
          exact ⟨x, at1, Nat.le_trans hy2 (hbl y hy)⟩
        · rw [at2 k2]
          exact ⟨y, hy, hy2⟩
      · have hy : va_up ll st (some x) k = some y := hy
        show lc k = some y
        by_cases k2 : k = st
        · rw [k2, at1] at hy
          cases hy
          omega
        · rw [at2 k2] at hy
          exact hB k y hy hq
def ldT (stp : Nat → Int32) (cnt win : Nat) (k : Int32) (t : Nat) : Nat → DP → DP
  | 0, d => d
  | q + 1, d => ldT stp cnt win k t q (if stp q = k then ldP cnt win q t d else d)
theorem ldT_y {stp : Nat → Int32} {cnt win : Nat} {k : Int32} {t q : Nat} {d : DP} (h : stp q = k) : ldT stp cnt win k t (q + 1) d = ldT stp cnt win k t q (ldP cnt win q t d) := by
  show ldT stp cnt win k t q (if stp q = k then ldP cnt win q t d else d) = _
  rw [if_pos h]
theorem ldT_n {stp : Nat → Int32} {cnt win : Nat} {k : Int32} {t q : Nat} {d : DP} (h : ¬ stp q = k) : ldT stp cnt win k t (q + 1) d = ldT stp cnt win k t q d := by
  show ldT stp cnt win k t q (if stp q = k then ldP cnt win q t d else d) = _
  rw [if_neg h]
theorem ldT_sim {stp : Nat → Int32} {cnt win : Nat} {k : Int32} {t : Nat} : ∀ (q : Nat) (c l : DP), Sim win t c l → Sim win t (takeL stp cnt win k t q c) (ldT stp cnt win k t q l)
  | 0, c, l, h => h
  | q + 1, c, l, h => by
    by_cases hk : stp q = k
    · rw [takeL_y hk, ldT_y hk]; exact ldT_sim q _ _ (ldP_sim h)
    · rw [takeL_n hk, ldT_n hk]; exact ldT_sim q _ _ h
def ldF (stp : Nat → Int32) (cnt win : Nat) (ka : Nat → Int32) (ta : Nat → Nat) : Nat → DP
  | 0 => (fun _ => none, 0, none)
  | j + 1 => ldT stp cnt win (ka j) (ta j) cnt (ldF stp cnt win ka ta j)
theorem ldF_sim {stp : Nat → Int32} {cnt win : Nat} {ka : Nat → Int32} {ta : Nat → Nat} {m : Nat} (hso : ∀ a b, a ≤ b → b < m → ta a ≤ ta b) : ∀ j t, j ≤ m → (∀ i, i < j → ta i ≤ t) → Sim win t (folL stp cnt win ka ta j) (ldF stp cnt win ka ta j)
  | 0, t, _, _ => ⟨rfl, fun k x (h : (none : Option Nat) = some x) => (nomatch h), fun k x (h : (none : Option Nat) = some x) => (nomatch h), fun k x (h : (none : Option Nat) = some x) => (nomatch h), fun k x (h : (none : Option Nat) = some x) => (nomatch h)⟩
  | j + 1, t, hj, ht => (ldT_sim cnt _ _ (ldF_sim hso j (ta j) (by omega) (fun i hi => hso i j (by omega) (by omega)))).go (ht j (Nat.lt_succ_self j))
theorem ldF_e {stp : Nat → Int32} {cnt win : Nat} {ka : Nat → Int32} {ta : Nat → Nat} {m : Nat} (hso : ∀ a b, a ≤ b → b < m → ta a ≤ ta b) (ht : ∀ k, ta k < 2000) : (ldF stp cnt win ka ta m).2 = (folL stp cnt win ka ta m).2 :=
  (ldF_sim (win := win) hso m 2000 (Nat.le_refl _) (fun i _ => Nat.le_of_lt (ht i))).1
theorem ldP_ok {cnt win st t : Nat} {d : DP} (hs : st < 6) (ht : t < 2000) (hd : DPok t d) : DPok t (ldP cnt win st t d) := by
  obtain ⟨lat, ps, fm⟩ := d
  obtain ⟨h1, h2, h3⟩ := hd
  have h1 : ∀ k x, lat k = some x → x ≤ t := h1
  have h2 : ps ≤ 6 := h2
  have h3 : ∀ y, fm = some y → y ≤ 2000 := h3
  have ho : ∀ x, (if st = 0 then some t else lat (st - 1)) = some x → x ≤ t := by
    intro x hx
    by_cases h0 : st = 0
    · rw [if_pos h0] at hx; cases hx; exact Nat.le_refl _
    · rw [if_neg h0] at hx; exact h1 _ _ hx
  have hlat : ∀ (o : Option Nat), (∀ x, o = some x → x ≤ t) → ∀ k x, va_up lat st (mxO o (lat st)) k = some x → x ≤ t := fun o hq k x hx => by
    by_cases hk : k = st
    · rw [show va_up lat st (mxO o (lat st)) k = mxO o (lat st) from if_pos hk] at hx
      exact mxO_le hq (h1 st) x hx
    · rw [show va_up lat st (mxO o (lat st)) k = lat k from if_neg hk] at hx
      exact h1 k x hx
  cases hq : (if st = 0 then some t else lat (st - 1)) with
  | none =>
    rw [ldP_0 (o := none) hq.symm rfl rfl]
    exact ⟨hlat none (fun x h => nomatch h), h2, h3⟩
  | some x =>
    rw [ldP_s (o := some x) hq.symm rfl rfl]
    refine ⟨hlat (some x) (fun z h => by cases h; exact ho x hq), ?_, fun y hy => ?_⟩
    · by_cases hw : t - x ≤ win
      · simp only [if_pos hw]; omega
      · simp only [if_neg hw]; exact h2
    · by_cases hw : t - x ≤ win
      · simp only [if_pos hw] at hy
        by_cases hc : st + 1 = cnt
        · rw [if_pos hc] at hy
          cases fm with
          | none => cases hy; omega
          | some z =>
            have hz : z ≤ 2000 := h3 z rfl
            simp only [fmU] at hy
            by_cases hv : t - x < z
            · rw [if_pos hv] at hy; cases hy; omega
            · rw [if_neg hv] at hy; cases hy; exact hz
        · rw [if_neg hc] at hy; exact h3 y hy
      · simp only [if_neg hw] at hy; exact h3 y hy
theorem ldT_ok {stp : Nat → Int32} {cnt win : Nat} {k : Int32} {t : Nat} (ht : t < 2000) : ∀ (q : Nat) (d : DP), q ≤ 6 → DPok t d → DPok t (ldT stp cnt win k t q d)
  | 0, d, _, h => h
  | q + 1, d, hq, h => by
    by_cases hk : stp q = k
    · rw [ldT_y hk]; exact ldT_ok ht q _ (by omega) (ldP_ok (by omega) ht h)
    · rw [ldT_n hk]; exact ldT_ok ht q _ (by omega) h
theorem ldF_ok {stp : Nat → Int32} {cnt win : Nat} {ka : Nat → Int32} {ta : Nat → Nat} {n : Nat} (hc : cnt ≤ 6) (hta : ∀ k, ta k < 2000) (hso : ∀ i, i + 1 < n → ta i ≤ ta (i + 1)) : ∀ j, j < n → DPok (ta j) (ldF stp cnt win ka ta j)
  | 0, _ => ⟨fun k x (h : (none : Option Nat) = some x) => (nomatch h), Nat.zero_le _, fun y (h : (none : Option Nat) = some y) => (nomatch h)⟩
  | j + 1, hj => (ldT_ok (hta j) cnt _ hc (ldF_ok hc hta hso j (by omega))).mono (hso j hj)
