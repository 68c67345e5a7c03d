/-! p31: what the law keeps of closed days, beside what the class keeps -/
def KR (k0 : Nat → Nat) (kA kN kS : Nat → Int32) (cl : Nat) : Prop := (∀ d, d < cl → kA d = nI (k0 d) ∧ kN d = nI (k0 (20 + d)) ∧ kS d = nI (k0 (40 + d))) ∧ ∀ d, cl ≤ d → d < 20 → k0 d = 0 ∧ k0 (20 + d) = 0 ∧ k0 (40 + d) = 0
def k3F (k0 : Nat → Nat) (cl a b c : Nat) : Nat → Nat := fun k => if k = cl then a else if k = 20 + cl then b else if k = 40 + cl then c else k0 k
section
variable {k0 : Nat → Nat} {cl a b c v : Nat}
theorem k3_a : k3F k0 cl a b c cl = a := if_pos rfl
theorem k3_b : k3F k0 cl a b c (20 + cl) = b := (if_neg (by omega)).trans (if_pos rfl)
theorem k3_c : k3F k0 cl a b c (40 + cl) = c := (if_neg (by omega)).trans ((if_neg (by omega)).trans (if_pos rfl))
theorem k3_o {k : Nat} (h1 : k ≠ cl) (h2 : k ≠ 20 + cl) (h3 : k ≠ 40 + cl) : k3F k0 cl a b c k = k0 k := (if_neg h1).trans ((if_neg h2).trans (if_neg h3))
theorem k3_ua : va_up (k3F k0 cl a b c) cl v = k3F k0 cl v b c := by
  funext k
  by_cases h : k = cl <;> simp [k3F, va_up, h]
theorem k3_ub : va_up (k3F k0 cl a b c) (20 + cl) v = k3F k0 cl a v c := by
  funext k
  by_cases h : k = 20 + cl <;> simp [k3F, va_up, h]
theorem k3_uc : va_up (k3F k0 cl a b c) (40 + cl) v = k3F k0 cl a b v := by
  funext k
  by_cases h : k = 40 + cl
  · simp [k3F, va_up, h]
  · simp [k3F, va_up, h]
theorem k3_0 {kA kN kS : Nat → Int32} (h : KR k0 kA kN kS cl) (hc : cl < 20) : k0 = k3F k0 cl 0 0 0 := by
  obtain ⟨h1, h2, h3⟩ := h.2 cl (Nat.le_refl _) hc
  funext k
  unfold k3F
  by_cases a1 : k = cl
  · rw [if_pos a1, a1, h1]
  · rw [if_neg a1]
    by_cases a2 : k = 20 + cl
    · rw [if_pos a2, a2, h2]
    · rw [if_neg a2]
      by_cases a3 : k = 40 + cl
      · rw [if_pos a3, a3, h3]
      · rw [if_neg a3]
theorem KR.close {kA kN kS : Nat → Int32} {x y z : Int32} (h : KR k0 kA kN kS cl) (hc : cl < 20) (hx : x = nI a) (hy : y = nI b) (hz : z = nI c) : KR (k3F k0 cl a b c) (upd kA cl x) (upd kN cl y) (upd kS cl z) (cl + 1) := by
  refine ⟨fun d hd => ?_, fun d hd hd2 => ?_⟩
  · by_cases q : d = cl
    · subst q
      rw [pk_us, pk_us, pk_us, k3_a, k3_b, k3_c]
      exact ⟨hx, hy, hz⟩
    · rw [pk_un q, pk_un q, pk_un q, k3_o q (by omega) (by omega), k3_o (by omega) (by omega) (by omega), k3_o (by omega) (by omega) (by omega)]
      exact h.1 d (by omega)
  · rw [k3_o (by omega) (by omega) (by omega), k3_o (by omega) (by omega) (by omega), k3_o (by omega) (by omega) (by omega)]
    exact h.2 d (by omega) hd2
end
theorem ct_8 {p : Nat → Bool} (h : ∀ u, 8 ≤ u → u < 20 → p u = false) : fb_ct p 20 = fb_ct p 8 := by
  have := fb_ct_split p 8 12
  rw [fb_ct_zero.mpr (fun k hk => h (8 + k) (by omega) (by omega))] at this
  exact this
theorem sm_8 {p : Nat → Nat} (h : ∀ u, 8 ≤ u → u < 20 → p u = 0) : fb_sm p 20 = fb_sm p 8 := by
  have h1 := fb_sm_split p 8 12
  have h2 : fb_sm (fun k => p (8 + k)) 12 = fb_sm (fun _ => 0) 12 := fb_sm_cong (fun k hk => h (8 + k) (by omega) (by omega))
  rw [h2, fb_sm_const] at h1
  exact h1
section
variable {us ids tms ord : Nat → Nat} {n : Nat}
theorem Lw.ac0 (h : Lw us ids tms ord n) {u d : Nat} (hu : 8 ≤ u) : acB us ids tms n u d = false := by
  refine Bool.eq_false_iff.mpr (fun q => ?_)
  obtain ⟨k, hk, hk2⟩ := ex_iff.mp q
  unfold acP at hk2
  rw [Bool.and_eq_true, decide_eq_true_eq] at hk2
  have := h.low _ (h.id8 k)
  omega
theorem Lw.fd0 (h : Lw us ids tms ord n) {u : Nat} (hu : 8 ≤ u) : fday (mm us ids ord n u) (tau us ids tms ord n u) = -1 := fday_0 (h.mm0 hu)
theorem Lw.kA (h : Lw us ids tms ord n) (d : Nat) : bcJ (acS us ids tms ord d n) = nI (fb_ct (fun u => acB us ids tms n u d) 8) := by
  rw [eq_kA h.inv, ct_8 (fun u h1 _ => h.ac0 h1)]
theorem nI_nn {x : Nat} {z : Int32} (h : x < 2 ^ 31) (hz : z < 0) : nI x ≠ z := fun q => nI_pos h (q ▸ hz)
theorem Lw.kN (h : Lw us ids tms ord n) {d : Nat} (hd : d < 2 ^ 30) : bcJ (coS us ids tms ord d n) = nI (fb_ct (fun u => decide (fday (mm us ids ord n u) (tau us ids tms ord n u) = nI d)) 8) := by
  rw [eq_kN h.inv hd, ct_8 (fun u h1 _ => decide_eq_false (fun q => by
    rw [h.fd0 h1] at q
    exact nI_nn (x := d) (by omega) (by decide) q.symm))]
/-- how many sessions of a user begin on a day -/
def sdC (us ids tms ord : Nat → Nat) (n gp d u : Nat) : Nat := fb_ct (fun s => decide (tau us ids tms ord n u (sbL (bs (tau us ids tms ord n u) gp) (nI s) (mm us ids ord n u) 0) / 100 = d)) (fb_ct (bs (tau us ids tms ord n u) gp) (mm us ids ord n u))
theorem Lw.kS (h : Lw us ids tms ord n) (gp d : Nat) : fb_sm (fun u => fb_ct (bsd (tau us ids tms ord n u) gp d) (mm us ids ord n u)) 20 = fb_sm (sdC us ids tms ord n gp d) 8 := by
  have := h.le
  rw [eq_kS (by omega) gp d]
  refine sm_8 (fun u h1 _ => ?_)
  have h0 := h.mm0 h1
  simp only [h0]
  rfl
end
theorem pm21 {q : Nat} (h : q < 2) : nI (q * 21) - nI 1 = -1 ∨ nI (q * 21) - nI 1 = nI 20 := by
  rcases (show q = 0 ∨ q = 1 by omega) with rfl | rfl
  · exact Or.inl (by decide)
  · exact Or.inr (by decide)
theorem pm2001 {q : Nat} (h : q < 2) : nI (q * 2001) - nI 1 = -1 ∨ nI (q * 2001) - nI 1 = nI 2000 := by
  rcases (show q = 0 ∨ q = 1 by omega) with rfl | rfl
  · exact Or.inl (by decide)
  · exact Or.inr (by decide)
