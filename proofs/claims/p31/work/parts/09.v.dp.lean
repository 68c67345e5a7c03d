/-! The funnel: one pass that keeps the latest starts (our class) against a trial from every place (the reference). -/
section
variable {kd : Int32} {tq : Nat → Nat} {cnt win t j : Nat} {stp : Nat → Int32} {g g' sp : Nat → Nat}
def L1 (g tq : Nat → Nat) (j k : Nat) (o : Option Nat) : Prop := match o with
  | none => ∀ a, a < j → g a ≤ k
  | some x => (∃ a, a < j ∧ k < g a ∧ tq a = x) ∧ ∀ a, a < j → k < g a → tq a ≤ x
def F1 (g sp : Nat → Nat) (cnt j : Nat) (o : Option Nat) : Prop := match o with
  | none => ∀ a, a < j → g a ≠ cnt
  | some y => (∃ a, a < j ∧ g a = cnt ∧ sp a = y) ∧ ∀ a, a < j → g a = cnt → y ≤ sp a
def J1 (g g' tq sp : Nat → Nat) (cnt j q : Nat) (d : DP) : Prop := (∀ k, k < cnt → q ≤ k → L1 g' tq (j + 1) k (d.1 k)) ∧ (∀ k, k < q → L1 g tq j k (d.1 k)) ∧
  ((∀ a, a < j → g a ≤ d.2.1) ∧ (∀ a, a < j + 1 → q < g' a → g' a ≤ d.2.1) ∧ (d.2.1 = 0 ∨ ∃ a, a < j + 1 ∧ d.2.1 ≤ g' a)) ∧ (q = cnt → F1 g sp cnt j d.2.2) ∧ (q < cnt → F1 g' sp cnt (j + 1) d.2.2)
def St1 (kd : Int32) (tq : Nat → Nat) (cnt win t j : Nat) (stp : Nat → Int32) (g g' sp : Nat → Nat) : Prop :=
  (∀ a, a < j → g' a = if 0 < g a ∧ g a < cnt ∧ kd = stp (g a) ∧ t ≤ tq a + win then g a + 1 else g a) ∧ (g' j = if kd = stp 0 then 1 else 0) ∧ (∀ a, a < j → g a ≤ cnt) ∧ (∀ a, a < j → tq a ≤ t) ∧ tq j = t ∧
  (∀ a, a < j → g a = cnt → sp a ≤ t - tq a) ∧ (∀ a, a < j + 1 → (a < j → g a < cnt) → g' a = cnt → sp a = t - tq a) ∧ 0 < cnt
theorem St1.le1 (h : St1 kd tq cnt win t j stp g g' sp) {a : Nat} (ha : a < j) : g a ≤ g' a ∧ g' a ≤ g a + 1 := by
  rw [h.1 a ha]; split <;> omega
theorem St1.hle (h : St1 kd tq cnt win t j stp g g' sp) {a : Nat} (ha : a < j + 1) : g' a ≤ cnt := by
  by_cases hj : a < j
  · have h3 := h.2.2.1 a hj
    rw [h.1 a hj]; split <;> omega
  · have := h.2.2.2.2.2.2.2
    rw [show a = j by omega, h.2.1]; split <;> omega
theorem St1.fin (h : St1 kd tq cnt win t j stp g g' sp) {a : Nat} (ha : a < j) (hc : g a = cnt) : g' a = cnt := by
  rw [h.1 a ha, if_neg (by omega), hc]
theorem St1.inc (h : St1 kd tq cnt win t j stp g g' sp) {a s : Nat} (ha : a < j) (h1 : s < g' a) (h2 : ¬ s < g a) : g a = s ∧ 0 < s ∧ kd = stp s ∧ t ≤ tq a + win := by
  have hl := h.le1 ha
  have e : g a = s := by omega
  have h3 := h.1 a ha
  by_cases hc : 0 < g a ∧ g a < cnt ∧ kd = stp (g a) ∧ t ≤ tq a + win
  · exact ⟨e, by omega, by rw [← e]; exact hc.2.2.1, hc.2.2.2⟩
  · rw [if_neg hc] at h3; omega
theorem St1.self (h : St1 kd tq cnt win t j stp g g' sp) {s : Nat} (h1 : s < g' j) : s = 0 ∧ kd = stp 0 := by
  have h3 := h.2.1
  by_cases hc : kd = stp 0
  · rw [if_pos hc] at h3; exact ⟨by omega, hc⟩
  · rw [if_neg hc] at h3; omega
/-- no way comes one step on -/
theorem J1_none {s : Nat} {d : DP} (h : St1 kd tq cnt win t j stp g g' sp) (hs : s < cnt) (hJ : J1 g g' tq sp cnt j (s + 1) d) (hN : ∀ a, a < j + 1 → s < g' a → a < j ∧ s < g a) : J1 g g' tq sp cnt j s d := by
  obtain ⟨j1, j2, ⟨j3, j4, j5⟩, j6, j7⟩ := hJ
  refine ⟨fun k hk hq => ?_, fun k hk => j2 k (by omega), ⟨j3, fun a ha hq => ?_, j5⟩, fun e => absurd e (by omega), fun _ => ?_⟩
  · by_cases e : k = s
    · subst e
      have := j2 k (by omega)
      revert this
      cases d.1 k with
      | none => intro z a ha; exact Nat.le_of_not_lt (fun q => by have := hN a ha q; have := z a this.1; omega)
      | some x =>
        rintro ⟨⟨a, a1, a2, a3⟩, z⟩
        exact ⟨⟨a, by omega, by have := h.le1 a1; omega, a3⟩, fun b hb hq => z b (hN b hb hq).1 (hN b hb hq).2⟩
    · exact j1 k hk (by omega)
  · by_cases e : s + 1 < g' a
    · exact j4 a ha e
    · have h1 := hN a ha hq
      have h2 := j3 a h1.1
      omega
  · by_cases e : s + 1 = cnt
    · have z := j6 e
      revert z
      cases d.2.2 with
      | none => intro z a ha hq; have h1 := hN a ha (by omega); have h2 := h.2.2.1 a h1.1; exact z a h1.1 (by omega)
      | some y =>
        rintro ⟨⟨a, a1, a2, a3⟩, z⟩
        exact ⟨⟨a, by omega, h.fin a1 a2, a3⟩, fun b hb hq => by have h1 := hN b hb (by omega); have h2 := h.2.2.1 b h1.1; exact z b h1.1 (by omega)⟩
    · exact j7 (by omega)
/-- the latest start comes one step on -/
theorem J1_pass {s x ps : Nat} {lat : Nat → Option Nat} {fm : Option Nat} (h : St1 kd tq cnt win t j stp g g' sp) (hs : s < cnt) (hJ : J1 g g' tq sp cnt j (s + 1) (lat, ps, fm)) (hx1 : ∃ a, a < j + 1 ∧ s < g' a ∧ tq a = x) (hx2 : ∀ a, a < j + 1 → s < g' a → tq a ≤ x) :
    J1 g g' tq sp cnt j s (va_up lat s (some x), max ps (s + 1), if s + 1 = cnt then fmU fm (t - x) else fm) := by
  obtain ⟨j1, j2, ⟨j3, j4, j5⟩, j6, j7⟩ := hJ
  refine ⟨fun k hk hq => ?_, fun k hk => ?_, ⟨fun a ha => ?_, fun a ha hq => ?_, ?_⟩, fun e => absurd e (by omega), fun _ => ?_⟩
  · by_cases e : k = s
    · subst e
      show L1 g' tq (j + 1) k (if k = k then some x else lat k)
      rw [if_pos rfl]
      exact ⟨hx1, hx2⟩
    · show L1 g' tq (j + 1) k (if k = s then some x else lat k)
      rw [if_neg e]
      exact j1 k hk (by omega)
  · show L1 g tq j k (if k = s then some x else lat k)
    rw [if_neg (by omega)]
    exact j2 k (by omega)
  · have := j3 a ha
    show g a ≤ max ps (s + 1)
    exact Nat.le_trans this (Nat.le_max_left _ _)
  · show g' a ≤ max ps (s + 1)
    by_cases e : s + 1 < g' a
    · exact Nat.le_trans (j4 a ha e) (Nat.le_max_left _ _)
    · exact Nat.le_trans (by omega) (Nat.le_max_right ps (s + 1))
  · refine Or.inr ?_
    show ∃ a, a < j + 1 ∧ max ps (s + 1) ≤ g' a
    by_cases e : ps ≤ s + 1
    · obtain ⟨a, a1, a2, -⟩ := hx1
      exact ⟨a, a1, by rw [Nat.max_eq_right e]; omega⟩
    · rcases j5 with j5 | ⟨a, a1, a2⟩
      · have j5 : ps = 0 := j5
        omega
      · exact ⟨a, a1, by rw [Nat.max_eq_left (by omega)]; exact a2⟩
  · show F1 g' sp cnt (j + 1) (if s + 1 = cnt then fmU fm (t - x) else fm)
    by_cases e : s + 1 = cnt
    · rw [if_pos e]
      have z := j6 e
      obtain ⟨a0, b1, b2, b3⟩ := hx1
      have hle := h.hle b1
      have c0 : g' a0 = cnt := by omega
      have low : ∀ a, a < j + 1 → g' a = cnt → (a < j → g a < cnt) → t - x ≤ sp a := fun a ha hc hn => by
        have h1 := h.2.2.2.2.2.2.1 a ha hn hc
        have h2 := hx2 a ha (by omega)
        omega
      have new0 : (a0 < j → g a0 < cnt) → sp a0 = t - x := fun hn => by rw [h.2.2.2.2.2.2.1 a0 b1 hn c0, b3]
      revert z
      cases fm with
      | none =>
        intro z
        have hn : ∀ a, a < j → g a < cnt := fun a ha => by have h1 := z a ha; have h2 := h.2.2.1 a ha; omega
        exact ⟨⟨a0, b1, c0, new0 (hn a0)⟩, fun a ha hc => low a ha hc (hn a)⟩
      | some y =>
        rintro ⟨⟨a1, d1, d2, d3⟩, z⟩
        show F1 g' sp cnt (j + 1) (if t - x < y then some (t - x) else some y)
        by_cases hq : t - x < y
        · rw [if_pos hq]
          refine ⟨⟨a0, b1, c0, new0 (fun hl => ?_)⟩, fun a ha hc => ?_⟩
          · have h2 := h.2.2.1 a0 hl
            by_cases h3 : g a0 = cnt
            · have h4 := z a0 hl h3
              have h5 := h.2.2.2.2.2.1 a0 hl h3
              omega
            · omega
          · by_cases hn : a < j ∧ g a = cnt
            · have := z a hn.1 hn.2; omega
            · exact low a ha hc (fun hl => by have h2 := h.2.2.1 a hl; have : ¬ g a = cnt := fun q => hn ⟨hl, q⟩; omega)
        · rw [if_neg hq]
          refine ⟨⟨a1, by omega, h.fin d1 d2, d3⟩, fun a ha hc => ?_⟩
          by_cases hn : a < j ∧ g a = cnt
          · exact z a hn.1 hn.2
          · have := low a ha hc (fun hl => by have h2 := h.2.2.1 a hl; have : ¬ g a = cnt := fun q => hn ⟨hl, q⟩; omega)
            omega
    · rw [if_neg e]
      exact j7 (by omega)
theorem J1_step {s : Nat} {d : DP} (h : St1 kd tq cnt win t j stp g g' sp) (hs : s < cnt) (hJ : J1 g g' tq sp cnt j (s + 1) d) : J1 g g' tq sp cnt j s (if stp s = kd then dpPass cnt win s t d else d) := by
  by_cases hk : stp s = kd
  · rw [if_pos hk]
    obtain ⟨lat, ps, fm⟩ := d
    cases hq : (if s = 0 then some t else lat (s - 1)) with
    | none =>
      rw [dpP_0 hq]
      have h0 : s ≠ 0 := fun e => by rw [if_pos e] at hq; cases hq
      rw [if_neg h0] at hq
      have z := hJ.2.1 (s - 1) (by omega)
      have z : L1 g tq j (s - 1) (lat (s - 1)) := z
      rw [hq] at z
      refine J1_none h hs hJ (fun a ha h1 => ?_)
      by_cases hj : a < j
      · have h2 := z a hj
        have h3 := h.le1 hj
        omega
      · rw [show a = j by omega] at h1
        exact absurd (h.self h1).1 h0
    | some x =>
      by_cases hw : win < t - x
      · rw [dpP_w hq hw]
        have h0 : s ≠ 0 := fun e => by rw [if_pos e] at hq; cases hq; omega
        rw [if_neg h0] at hq
        have z := hJ.2.1 (s - 1) (by omega)
        have z : L1 g tq j (s - 1) (lat (s - 1)) := z
        rw [hq] at z
        refine J1_none h hs hJ (fun a ha h1 => ?_)
        by_cases hj : a < j
        · by_cases h2 : s < g a
          · exact ⟨hj, h2⟩
          · have h3 := h.inc hj h1 h2
            have h4 := z.2 a hj (by omega)
            omega
        · rw [show a = j by omega] at h1
          exact absurd (h.self h1).1 h0
      · rw [dpP_ok hq (by omega)]
        refine J1_pass h hs hJ ?_ (fun a ha h1 => ?_)
        · by_cases h0 : s = 0
          · rw [if_pos h0] at hq
            cases hq
            exact ⟨j, by omega, by rw [h0, h.2.1, if_pos (by rw [← hk, h0])]; omega, h.2.2.2.2.1⟩
          · rw [if_neg h0] at hq
            have z := hJ.2.1 (s - 1) (by omega)
            have z : L1 g tq j (s - 1) (lat (s - 1)) := z
            rw [hq] at z
            obtain ⟨⟨a, a1, a2, a3⟩, -⟩ := z
            refine ⟨a, by omega, ?_, a3⟩
            by_cases h2 : s < g a
            · have := h.le1 a1; omega
            · have e : g a = s := by omega
              rw [h.1 a a1, if_pos ⟨by omega, by omega, by rw [e]; exact hk.symm, by omega⟩]
              omega
        · by_cases h0 : s = 0
          · rw [if_pos h0] at hq
            cases hq
            by_cases hj : a < j
            · exact h.2.2.2.1 a hj
            · rw [show a = j by omega, h.2.2.2.2.1]; exact Nat.le_refl _
          · rw [if_neg h0] at hq
            have z := hJ.2.1 (s - 1) (by omega)
            have z : L1 g tq j (s - 1) (lat (s - 1)) := z
            rw [hq] at z
            by_cases hj : a < j
            · exact z.2 a hj (by have := h.le1 hj; omega)
            · rw [show a = j by omega] at h1
              exact absurd (h.self h1).1 h0
  · rw [if_neg hk]
    refine J1_none h hs hJ (fun a ha h1 => ?_)
    by_cases hj : a < j
    · by_cases h2 : s < g a
      · exact ⟨hj, h2⟩
      · exact absurd (h.inc hj h1 h2).2.2.1.symm hk
    · rw [show a = j by omega] at h1
      have h3 := h.self h1
      rw [h3.1] at hk
      exact absurd h3.2.symm hk
theorem J1_all (h : St1 kd tq cnt win t j stp g g' sp) : ∀ q (d : DP), q ≤ cnt → J1 g g' tq sp cnt j q d → J1 g g' tq sp cnt j 0 (takeL stp cnt win kd t q d)
  | 0, _, _, hJ => hJ
  | q + 1, _, hq, hJ => J1_all h q _ (by omega) (J1_step h (by omega) hJ)
def I1 (g tq sp : Nat → Nat) (cnt j : Nat) (d : DP) : Prop := (∀ k, k < cnt → L1 g tq j k (d.1 k)) ∧ ((∀ a, a < j → g a ≤ d.2.1) ∧ (d.2.1 = 0 ∨ ∃ a, a < j ∧ d.2.1 ≤ g a)) ∧ F1 g sp cnt j d.2.2
theorem I1_step {d : DP} (h : St1 kd tq cnt win t j stp g g' sp) (hI : I1 g tq sp cnt j d) : I1 g' tq sp cnt (j + 1) (takeL stp cnt win kd t cnt d) := by
  obtain ⟨i1, ⟨i2, i3⟩, i4⟩ := hI
  obtain ⟨j1, -, ⟨-, j4, j5⟩, -, j7⟩ := J1_all h cnt d (Nat.le_refl _) ⟨fun k hk hq => absurd hk (by omega), i1, ⟨i2, fun a ha hq => absurd (h.hle ha) (by omega), i3.imp id (fun ⟨a, a1, a2⟩ => ⟨a, by omega, Nat.le_trans a2 (h.le1 a1).1⟩)⟩, fun _ => i4, fun q => absurd q (by omega)⟩
  refine ⟨fun k hk => j1 k hk (Nat.zero_le _), ⟨fun a ha => ?_, j5⟩, j7 h.2.2.2.2.2.2.2⟩
  by_cases e : 0 < g' a
  · exact j4 a ha e
  · omega
theorem F1_one {o1 o2 : Option Nat} (h1 : F1 g sp cnt j o1) (h2 : F1 g sp cnt j o2) : o1 = o2 := by
  cases o1 with
  | none => cases o2 with
    | none => rfl
    | some y => obtain ⟨⟨a, a1, a2, -⟩, -⟩ := h2; exact absurd a2 (h1 a a1)
  | some x => cases o2 with
    | none => obtain ⟨⟨a, a1, a2, -⟩, -⟩ := h1; exact absurd a2 (h2 a a1)
    | some y =>
      obtain ⟨⟨a, a1, a2, a3⟩, z1⟩ := h1
      obtain ⟨⟨b, b1, b2, b3⟩, z2⟩ := h2
      have q1 := z1 b b1 b2
      have q2 := z2 a a1 a2
      exact congrArg some (by omega)
theorem fsL_F : ∀ j, F1 g sp cnt j (fsL g sp cnt j)
  | 0 => fun a ha => absurd ha (Nat.not_lt_zero _)
  | j + 1 => by
    have ih := fsL_F j
    by_cases hg : g j = cnt
    · cases hf : fsL g sp cnt j with
      | none =>
        rw [hf] at ih
        rw [fs_0 hg hf]
        exact ⟨⟨j, by omega, hg, rfl⟩, fun a ha hc => by
          by_cases e : a < j
          · exact absurd hc (ih a e)
          · rw [show a = j by omega]; exact Nat.le_refl _⟩
      | some y =>
        rw [hf] at ih
        obtain ⟨⟨a, a1, a2, a3⟩, z⟩ := ih
        by_cases hl : sp j < y
        · rw [fs_1 hg hf hl]
          exact ⟨⟨j, by omega, hg, rfl⟩, fun b hb hc => by
            by_cases e : b < j
            · have := z b e hc; omega
            · rw [show b = j by omega]; exact Nat.le_refl _⟩
        · rw [fs_2 hg hf (by omega)]
          exact ⟨⟨a, by omega, a2, a3⟩, fun b hb hc => by
            by_cases e : b < j
            · exact z b e hc
            · rw [show b = j by omega]; omega⟩
    · rw [fs_n hg]
      revert ih
      cases fsL g sp cnt j with
      | none => intro ih a ha hc; exact (if e : a < j then ih a e hc else hg (by rw [show j = a by omega]; exact hc))
      | some y =>
        rintro ⟨⟨a, a1, a2, a3⟩, z⟩
        exact ⟨⟨a, by omega, a2, a3⟩, fun b hb hc => if e : b < j then z b e hc else absurd (show g j = cnt by rw [show j = b by omega]; exact hc) hg⟩
theorem mx_of {ps : Nat} : ∀ j, (∀ a, a < j → g a ≤ ps) → (ps = 0 ∨ ∃ a, a < j ∧ ps ≤ g a) → ps = mxF g j := by
  intro j h1 h2
  have up : ∀ j, (∀ a, a < j → g a ≤ ps) → mxF g j ≤ ps := fun j => by
    induction j with
    | zero => intro _; exact Nat.zero_le _
    | succ j ih => intro h; exact Nat.max_le.mpr ⟨ih (fun a ha => h a (by omega)), h j (by omega)⟩
  have dn : ∀ j a, a < j → g a ≤ mxF g j := fun j => by
    induction j with
    | zero => intro a ha; omega
    | succ j ih =>
      intro a ha
      by_cases e : a = j
      · rw [e]; exact Nat.le_max_right _ _
      · exact Nat.le_trans (ih a (by omega)) (Nat.le_max_left _ _)
  have h3 := up j h1
  rcases h2 with h2 | ⟨a, a1, a2⟩
  · omega
  · have := dn j a a1
    omega
end
section
variable {kq : Nat → Int32} {tq : Nat → Nat} {cnt win pl M : Nat} {stp : Nat → Int32}
/-- one event more, at the end -/
theorem pf_snoc (hso : ∀ a b, a ≤ b → b < M → tq a ≤ tq b) : ∀ r k p, k + r < M → ((k = pl ∧ p = 0 ∧ r ≠ 0) ∨ (pl < k ∧ 0 < p)) →
    pfL kq tq cnt win stp pl (r + 1) k p = if 0 < pfL kq tq cnt win stp pl r k p ∧ pfL kq tq cnt win stp pl r k p < cnt ∧ kq (k + r) = stp (pfL kq tq cnt win stp pl r k p) ∧ tq (k + r) ≤ tq pl + win then pfL kq tq cnt win stp pl r k p + 1 else pfL kq tq cnt win stp pl r k p
  | 0, k, p, hk, h0 => by
    have hp : pl < k ∧ 0 < p := by
      rcases h0 with h0 | h0
      · exact absurd rfl h0.2.2
      · exact h0
    show (if p < cnt ∧ tq k ≤ tq pl + win then (if kq k = stp p then p + 1 else if k = pl then 0 else p) else p) = if 0 < p ∧ p < cnt ∧ kq (k + 0) = stp p ∧ tq (k + 0) ≤ tq pl + win then p + 1 else p
    rw [Nat.add_zero]
    by_cases h1 : p < cnt ∧ tq k ≤ tq pl + win
    · by_cases h2 : kq k = stp p
      · rw [if_pos h1, if_pos h2, if_pos ⟨hp.2, h1.1, h2, h1.2⟩]
      · rw [if_pos h1, if_neg h2, if_neg (by omega), if_neg (fun q => h2 q.2.2.1)]
    · rw [if_neg h1, if_neg (fun q => h1 ⟨q.2.1, q.2.2.2⟩)]
  | r + 1, k, p, hk, h0 => by
    have e1 : ∀ R, pfL kq tq cnt win stp pl (R + 1) k p = if p < cnt ∧ tq k ≤ tq pl + win then (if kq k = stp p then pfL kq tq cnt win stp pl R (k + 1) (p + 1) else if k = pl then 0 else pfL kq tq cnt win stp pl R (k + 1) p) else p := fun R => rfl
    rw [e1 (r + 1), e1 r]
    by_cases h1 : p < cnt ∧ tq k ≤ tq pl + win
    · rw [if_pos h1, if_pos h1]
      by_cases h2 : kq k = stp p
      · rw [if_pos h2, if_pos h2, show k + (r + 1) = k + 1 + r by omega]
        exact pf_snoc hso r (k + 1) (p + 1) (by omega) (Or.inr ⟨by omega, by omega⟩)
      · rw [if_neg h2, if_neg h2]
        by_cases h3 : k = pl
        · rw [if_pos h3, if_pos h3, if_neg (by omega)]
        · rw [if_neg h3, if_neg h3, show k + (r + 1) = k + 1 + r by omega]
          exact pf_snoc hso r (k + 1) p (by omega) (Or.inr ⟨by omega, by omega⟩)
    · rw [if_neg h1, if_neg h1, if_neg (fun q => h1 ⟨q.2.1, ?_⟩)]
      exact Nat.le_trans (hso k (k + (r + 1)) (by omega) hk) q.2.2.2
theorem sp_old (h0 : 0 < cnt) : ∀ r r' k p, p ≤ cnt → pfL kq tq cnt win stp pl r k p = cnt → spL kq cnt stp (r + r') k p ≤ k + r
  | 0, r', k, p, hp, h => by
    have h : p = cnt := h
    rw [Nat.zero_add, show spL kq cnt stp r' k p = k from by
      cases r' with
      | zero => rfl
      | succ r' => exact if_neg (by omega)]
    exact Nat.le_refl _
  | r + 1, r', k, p, hp, h => by
    have e1 : pfL kq tq cnt win stp pl (r + 1) k p = if p < cnt ∧ tq k ≤ tq pl + win then (if kq k = stp p then pfL kq tq cnt win stp pl r (k + 1) (p + 1) else if k = pl then 0 else pfL kq tq cnt win stp pl r (k + 1) p) else p := rfl
    rw [e1] at h
    rw [show r + 1 + r' = (r + r') + 1 by omega]
    show (if p < cnt then (if kq k = stp p then spL kq cnt stp (r + r') (k + 1) (p + 1) else spL kq cnt stp (r + r') (k + 1) p) else k) ≤ _
    by_cases h1 : p < cnt ∧ tq k ≤ tq pl + win
    · rw [if_pos h1] at h
      rw [if_pos h1.1]
      by_cases h2 : kq k = stp p
      · rw [if_pos h2] at h ⊢
        have := sp_old h0 r r' (k + 1) (p + 1) (by omega) h
        omega
      · rw [if_neg h2] at h ⊢
        by_cases h3 : k = pl
        · rw [if_pos h3] at h; omega
        · rw [if_neg h3] at h
          have := sp_old h0 r r' (k + 1) p hp h
          omega
    · rw [if_neg h1] at h
      rw [if_neg (by omega)]
      omega
theorem sp_new (h0 : 0 < cnt) : ∀ r r' k p, p ≤ cnt → pfL kq tq cnt win stp pl r k p < cnt → pfL kq tq cnt win stp pl (r + 1) k p = cnt → spL kq cnt stp (r + 1 + r') k p = k + r + 1
  | 0, r', k, p, hp, h, hh => by
    have h : p < cnt := h
    have hh : (if p < cnt ∧ tq k ≤ tq pl + win then (if kq k = stp p then p + 1 else if k = pl then 0 else p) else p) = cnt := hh
    rw [show 0 + 1 + r' = r' + 1 by omega]
    show (if p < cnt then (if kq k = stp p then spL kq cnt stp r' (k + 1) (p + 1) else spL kq cnt stp r' (k + 1) p) else k) = _
    rw [if_pos h]
    by_cases h1 : p < cnt ∧ tq k ≤ tq pl + win
    · rw [if_pos h1] at hh
      by_cases h2 : kq k = stp p
      · rw [if_pos h2] at hh ⊢
        rw [hh]
        cases r' with
        | zero => rfl
        | succ r' => exact if_neg (by omega)
      · rw [if_neg h2] at hh
        split at hh <;> omega
    · rw [if_neg h1] at hh
      omega
  | r + 1, r', k, p, hp, h, hh => by
    have e1 : ∀ R, pfL kq tq cnt win stp pl (R + 1) k p = if p < cnt ∧ tq k ≤ tq pl + win then (if kq k = stp p then pfL kq tq cnt win stp pl R (k + 1) (p + 1) else if k = pl then 0 else pfL kq tq cnt win stp pl R (k + 1) p) else p := fun R => rfl
    rw [e1 r] at h
    rw [e1 (r + 1)] at hh
    rw [show r + 1 + 1 + r' = (r + 1 + r') + 1 by omega]
    show (if p < cnt then (if kq k = stp p then spL kq cnt stp (r + 1 + r') (k + 1) (p + 1) else spL kq cnt stp (r + 1 + r') (k + 1) p) else k) = _
    by_cases h1 : p < cnt ∧ tq k ≤ tq pl + win
    · rw [if_pos h1] at h hh
      rw [if_pos h1.1]
      by_cases h2 : kq k = stp p
      · rw [if_pos h2] at h hh ⊢
        have := sp_new h0 r r' (k + 1) (p + 1) (by omega) h hh
        omega
      · rw [if_neg h2] at h hh ⊢
        by_cases h3 : k = pl
        · rw [if_pos h3] at hh; omega
        · rw [if_neg h3] at h hh
          have := sp_new h0 r r' (k + 1) p hp h hh
          omega
    · rw [if_neg h1] at h hh
      omega
theorem dp_step {j : Nat} (h0 : 0 < cnt) (hj : j < M) (hso : ∀ a b, a ≤ b → b < M → tq a ≤ tq b) : St1 (kq j) tq cnt win (tq j) j stp (fun a => gP kq tq j cnt win stp a) (fun a => gP kq tq (j + 1) cnt win stp a) (fun a => gS kq tq M cnt stp a) := by
  have spv : ∀ a, a < j + 1 → (a < j → gP kq tq j cnt win stp a < cnt) → gP kq tq (j + 1) cnt win stp a = cnt → gS kq tq M cnt stp a = tq j - tq a := fun a ha hn hc => by
    have hc : pfL kq tq cnt win stp a (j + 1 - a) a 0 = cnt := hc
    rw [show j + 1 - a = (j - a) + 1 by omega] at hc
    have h1 : pfL kq tq cnt win stp a (j - a) a 0 < cnt := by
      by_cases e : a < j
      · exact hn e
      · rw [show j - a = 0 by omega]; exact h0
    have h2 := sp_new (kq := kq) h0 (j - a) (M - (j + 1)) a 0 (Nat.zero_le _) h1 hc
    show tq (spL kq cnt stp (M - a) a 0 - 1) - tq a = _
    rw [show M - a = j - a + 1 + (M - (j + 1)) by omega, h2, show a + (j - a) + 1 - 1 = j by omega]
  refine ⟨fun a ha => ?_, ?_, fun a ha => gP_le, fun a ha => hso a j (by omega) hj, rfl, fun a ha hc => ?_, spv, h0⟩
  · show pfL kq tq cnt win stp a (j + 1 - a) a 0 = _
    rw [show j + 1 - a = (j - a) + 1 by omega]
    refine (pf_snoc hso (j - a) a 0 (by omega) (Or.inl ⟨rfl, rfl, by omega⟩)).trans ?_
    rw [show a + (j - a) = j by omega]
    rfl
  · show pfL kq tq cnt win stp j (j + 1 - j) j 0 = _
    rw [show j + 1 - j = 0 + 1 by omega]
    show (if 0 < cnt ∧ tq j ≤ tq j + win then (if kq j = stp 0 then 0 + 1 else if j = j then 0 else 0) else 0) = _
    rw [if_pos ⟨h0, by omega⟩]
    split
    · rfl
    · rw [if_pos rfl]
  · have hc : pfL kq tq cnt win stp a (j - a) a 0 = cnt := hc
    have h2 := sp_old (kq := kq) h0 (j - a) (M - j) a 0 (Nat.zero_le _) hc
    rw [show j - a + (M - j) = M - a by omega] at h2
    show tq (spL kq cnt stp (M - a) a 0 - 1) - tq a ≤ _
    have h3 := hso (spL kq cnt stp (M - a) a 0 - 1) j (by omega) hj
    omega
theorem dp_all (h0 : 0 < cnt) (hso : ∀ a b, a ≤ b → b < M → tq a ≤ tq b) : ∀ j, j ≤ M → I1 (fun a => gP kq tq j cnt win stp a) tq (fun a => gS kq tq M cnt stp a) cnt j (folL stp cnt win kq tq j)
  | 0, _ => ⟨fun k _ a ha => absurd ha (Nat.not_lt_zero _), ⟨fun a ha => absurd ha (Nat.not_lt_zero _), Or.inl rfl⟩, fun a ha => absurd ha (Nat.not_lt_zero _)⟩
  | j + 1, hj => I1_step (dp_step h0 (by omega) hso) (dp_all h0 hso j (by omega))
theorem fol_0 : ∀ j, folL stp 0 win kq tq j = (fun _ => none, 0, none)
  | 0 => rfl
  | j + 1 => by show takeL stp 0 win _ _ 0 _ = _; exact fol_0 j
theorem dp_depth (hso : ∀ a b, a ≤ b → b < M → tq a ≤ tq b) : (folL stp cnt win kq tq M).2.1 = mxF (fun a => gP kq tq M cnt win stp a) M := by
  by_cases h0 : 0 < cnt
  · obtain ⟨-, ⟨h1, h2⟩, -⟩ := dp_all (kq := kq) (win := win) (stp := stp) h0 hso M (Nat.le_refl _)
    exact mx_of M h1 h2
  · rw [show cnt = 0 by omega, fol_0]
    refine mx_of M (fun a ha => gP_le) (Or.inl rfl)
theorem dp_fast (hso : ∀ a b, a ≤ b → b < M → tq a ≤ tq b) : (folL stp cnt win kq tq M).2.2 = if 0 < cnt then fsL (fun a => gP kq tq M cnt win stp a) (fun a => gS kq tq M cnt stp a) cnt M else none := by
  by_cases h0 : 0 < cnt
  · rw [if_pos h0]
    obtain ⟨-, -, h1⟩ := dp_all (kq := kq) (win := win) (stp := stp) h0 hso M (Nat.le_refl _)
    exact F1_one h1 (fsL_F M)
  · rw [if_neg h0, show cnt = 0 by omega, fol_0]
end
section
variable {us ids tms ord : Nat → Nat} {kd : Nat → Int32} {n cnt win u : Nat} {stp : Nat → Int32}
theorem tau_so (hI : Inv us ids tms ord n) : ∀ a b, a ≤ b → b < mm us ids ord n u → tau us ids tms ord n u a ≤ tau us ids tms ord n u b := fun a b h1 h2 => by
  have := tau_sort2 (u := u) hI (b - a) a (by omega)
  rwa [show a + (b - a) = b by omega] at this
theorem eq_depth (hI : Inv us ids tms ord n) : (folL stp cnt win (kap us ids kd ord n u) (tau us ids tms ord n u) (mm us ids ord n u)).2.1 = dpM us ids tms ord kd n cnt win stp u := dp_depth (tau_so hI)
theorem eq_fast (hI : Inv us ids tms ord n) : (folL stp cnt win (kap us ids kd ord n u) (tau us ids tms ord n u) (mm us ids ord n u)).2.2 = fsM us ids tms ord kd n cnt win stp u := dp_fast (tau_so hI)
end
