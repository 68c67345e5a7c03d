/-! Sets of users as words: what our class and the reference hold of them is one. -/
theorem orI (a b : Nat) : nI a ||| nI b = nI (a ||| b) := by
  refine b_ext (fun i hi => ?_)
  rw [b_or, bt_nI, bt_nI, bt_nI, Nat.testBit_or]
  simp [hi]
theorem bit1_e : ∀ u, u < 20 → bit1 u = nI (2 ^ u) := by decide +kernel
def orN (f : Nat → Nat) (P : Nat → Bool) : Nat → Nat
  | 0 => 0
  | k + 1 => if P k = true then orN f P k ||| 2 ^ f k else orN f P k
theorem orN_tb {f : Nat → Nat} {P : Nat → Bool} {u : Nat} : ∀ k, (orN f P k).testBit u = exB (fun j => P j && decide (f j = u)) k
  | 0 => Nat.zero_testBit u
  | k + 1 => by
    show (if P k = true then orN f P k ||| 2 ^ f k else orN f P k).testBit u = (exB _ k || (P k && decide (f k = u)))
    cases hP : P k with
    | true => rw [if_pos rfl, Nat.testBit_or, orN_tb k, Nat.testBit_two_pow, Bool.true_and]
    | false => rw [if_neg (by decide), orN_tb k, Bool.false_and, Bool.or_false]
theorem orN_lt {f : Nat → Nat} {P : Nat → Bool} (hf : ∀ k, f k < 20) : ∀ k, orN f P k < 2 ^ 20
  | 0 => (by decide : 0 < 2 ^ 20)
  | k + 1 => by
    show (if P k = true then orN f P k ||| 2 ^ f k else orN f P k) < 2 ^ 20
    split
    · exact Nat.or_lt_two_pow (orN_lt hf k) (Nat.pow_lt_pow_right (by decide) (hf k))
    · exact orN_lt hf k
/-- the word of a set of users -/
def afN (A : Nat → Bool) : Nat := orN (fun u => if u < 20 then u else 0) (fun u => decide (u < 20) && A u) 20
theorem afN_lt (A : Nat → Bool) : afN A < 2 ^ 20 := orN_lt (fun k => by show (if k < 20 then k else 0) < 20; split <;> omega) 20
theorem afN_tb (A : Nat → Bool) (u : Nat) : (afN A).testBit u = (decide (u < 20) && A u) := by
  unfold afN
  rw [orN_tb]
  by_cases hu : u < 20
  · rw [decide_eq_true hu, Bool.true_and]
    cases hA : A u with
    | true => exact ex_y2 (k := u) (by simp [hu, hA]) hu
    | false =>
      refine Bool.eq_false_iff.mpr (fun h => ?_)
      obtain ⟨k, h1, h2⟩ := ex_iff.mp h
      simp only [Bool.and_eq_true, decide_eq_true_eq, if_pos h1] at h2
      rw [h2.2, hA] at h2
      cases h2.1.2
  · rw [decide_eq_false hu, Bool.false_and]
    refine Bool.eq_false_iff.mpr (fun h => ?_)
    obtain ⟨k, h1, h2⟩ := ex_iff.mp h
    simp only [Bool.and_eq_true, decide_eq_true_eq, if_pos h1] at h2
    omega
theorem afS_e (A : Nat → Bool) : ∀ k, k ≤ 20 → afS A k = nI (orN (fun u => if u < 20 then u else 0) (fun u => decide (u < 20) && A u) k)
  | 0, _ => rfl
  | k + 1, hk => by
    show afS A k ||| (if A k = true then bit1 k else nI 0) = nI (if (decide (k < 20) && A k) = true then _ ||| 2 ^ (if k < 20 then k else 0) else _)
    rw [afS_e A k (by omega), decide_eq_true (show k < 20 by omega), Bool.true_and, if_pos (show k < 20 by omega)]
    cases A k with
    | true => rw [if_pos rfl, if_pos rfl, bit1_e k (by omega), orI]
    | false => rw [if_neg (by decide), if_neg (by decide), orI, Nat.or_zero]
theorem afS_N (A : Nat → Bool) : afS A 20 = nI (afN A) := afS_e A 20 (Nat.le_refl _)
/-- a word below 2^20 is known by its bits -/
theorem afN_of {a : Nat} {A : Nat → Bool} (h : ∀ u, u < 20 → a.testBit u = A u) (h2 : ∀ u, 20 ≤ u → a.testBit u = false) : a = afN A := Nat.eq_of_testBit_eq (fun u => by
  rw [afN_tb]
  by_cases hu : u < 20
  · rw [h u hu, decide_eq_true hu, Bool.true_and]
  · rw [h2 u (by omega), decide_eq_false hu, Bool.false_and])
theorem afN_cong {A B : Nat → Bool} (h : ∀ u, u < 20 → A u = B u) : afN A = afN B := afN_of (fun u hu => by rw [afN_tb, decide_eq_true hu, Bool.true_and, h u hu]) (fun u hu => by rw [afN_tb, decide_eq_false (by omega), Bool.false_and])
theorem afN_and (A B : Nat → Bool) : nI (afN A) &&& nI (afN B) = nI (afN (fun u => A u && B u)) := by
  rw [andI]
  congr 1
  refine afN_of (fun u hu => ?_) (fun u hu => ?_)
  · rw [Nat.testBit_and, afN_tb, afN_tb, decide_eq_true hu, Bool.true_and, Bool.true_and]
  · rw [Nat.testBit_and, afN_tb, afN_tb, decide_eq_false (by omega), Bool.false_and, Bool.false_and]
theorem bcJ_af (A : Nat → Bool) : bcJ (nI (afN A)) = nI (fb_ct A 20) := by
  rw [bcJ_nI (afN_lt A)]
  congr 1
  exact fb_ct_cong (fun u hu => by rw [afN_tb, decide_eq_true hu, Bool.true_and])
section
variable {us ids tms ord : Nat → Nat} {n : Nat}
theorem ord_onto (hI : Inv us ids tms ord n) {y : Nat} (hy : y < n) : ∃ i, i < n ∧ ord i = y := fb_onto hI.horn (fun i j hij hj h => by
  have := hI.hinj i j (by omega) hj h
  omega) hy
abbrev fU (us ids ord : Nat → Nat) (k : Nat) : Nat := us (ids (ord k))
theorem acS_N (hI : Inv us ids tms ord n) (dy : Nat) : ∀ k, acS us ids tms ord dy k = nI (orN (fU us ids ord) (fun j => decide (tms (ord j) / 100 = dy)) k)
  | 0 => rfl
  | k + 1 => by
    by_cases h : tms (ord k) / 100 = dy
    · rw [acS_y h, acS_N hI dy k, bit1_e _ (hI.hus _), orI]
      congr 1
      exact (if_pos (decide_eq_true h)).symm
    · rw [acS_n h, acS_N hI dy k]
      congr 1
      exact (if_neg (by simp [h])).symm
theorem acS_af (hI : Inv us ids tms ord n) (dy : Nat) : acS us ids tms ord dy n = nI (afN (fun u => acB us ids tms n u dy)) := by
  rw [acS_N hI]
  congr 1
  refine afN_of (fun u hu => ?_) (fun u hu => ?_)
  · rw [orN_tb]
    refine Bool.eq_iff_iff.mpr ?_
    unfold acB
    rw [ex_iff, ex_iff]
    constructor
    · rintro ⟨k, h1, h2⟩
      simp only [Bool.and_eq_true, decide_eq_true_eq] at h2
      exact ⟨ord k, hI.horn k h1, acP_y h2.2 h2.1⟩
    · rintro ⟨k, h1, h2⟩
      obtain ⟨i, hi, rfl⟩ := ord_onto hI h1
      unfold acP at h2
      simp only [Bool.and_eq_true, decide_eq_true_eq] at h2
      exact ⟨i, hi, by simp [h2.1, h2.2]⟩
  · exact Nat.testBit_lt_two_pow (Nat.lt_of_lt_of_le (orN_lt (fun k => hI.hus _) n) (Nat.pow_le_pow_right (by decide) hu))
theorem acE_af (hI : Inv us ids tms ord n) (i : Nat) : ∀ r, acE us ids tms ord n i r = nI (afN (fun u => alB (fun d => acB us ids tms n u d) i (r + 1)))
  | 0 => by
    show acS us ids tms ord i n = _
    rw [acS_af hI]
    exact congrArg (fun z => nI z) (afN_cong (fun u _ => by show _ = (true && acB us ids tms n u (i + 0)); rw [Bool.true_and, Nat.add_zero]))
  | r + 1 => by
    show acE us ids tms ord n i r &&& acS us ids tms ord (i + r + 1) n = _
    rw [acE_af hI i r, acS_af hI, afN_and]
    rfl
theorem seS_N (hI : Inv us ids tms ord n) : ∀ k, seS us ids ord k = nI (orN (fU us ids ord) (fun _ => true) k)
  | 0 => rfl
  | k + 1 => by
    show seS us ids ord k ||| bit1 _ = nI (if true = true then _ else _)
    rw [seS_N hI k, bit1_e _ (hI.hus _), orI, if_pos rfl]
theorem seS_af (hI : Inv us ids tms ord n) : seS us ids ord n = nI (afN (fun u => decide (0 < mm us ids ord n u))) := by
  rw [seS_N hI]
  congr 1
  refine afN_of (fun u hu => ?_) (fun u hu => ?_)
  · rw [orN_tb]
    refine Bool.eq_iff_iff.mpr ?_
    rw [ex_iff, decide_eq_true_eq]
    refine Iff.trans ?_ fb_ct_pos.symm
    constructor
    · rintro ⟨k, h1, h2⟩
      exact ⟨k, h1, by rw [Bool.true_and] at h2; exact h2⟩
    · rintro ⟨k, h1, h2⟩
      exact ⟨k, h1, by rw [Bool.true_and]; exact h2⟩
  · exact Nat.testBit_lt_two_pow (Nat.lt_of_lt_of_le (orN_lt (fun k => hI.hus _) n) (Nat.pow_le_pow_right (by decide) hu))
/-- the first event of its user -/
def fiB (us ids ord : Nat → Nat) (j : Nat) : Bool := !exB (fun i => decide (fU us ids ord i = fU us ids ord j)) j
theorem seS_bit (hI : Inv us ids tms ord n) (k : Nat) : seS us ids ord k &&& bit1 (fU us ids ord k) = 0 ↔ fiB us ids ord k = true := by
  have hl := orN_lt (f := fU us ids ord) (P := fun _ => true) (fun k => hI.hus _) k
  have hu : fU us ids ord k < 20 := hI.hus _
  rw [seS_N hI, bit1_e _ hu, andI, ← nI_0, nI_eq (Nat.lt_of_le_of_lt Nat.and_le_left (by omega)) (by decide), fb_bit_nat, orN_tb]
  unfold fiB
  rw [Bool.not_eq_true', show (fun j => (true && decide (fU us ids ord j = fU us ids ord k))) = fun i => decide (fU us ids ord i = fU us ids ord k) from funext (fun _ => Bool.true_and _)]
theorem coS_N (hI : Inv us ids tms ord n) (dy : Nat) : ∀ k, coS us ids tms ord dy k = nI (orN (fU us ids ord) (fun j => fiB us ids ord j && decide (tms (ord j) / 100 = dy)) k)
  | 0 => rfl
  | k + 1 => by
    by_cases h1 : seS us ids ord k &&& bit1 (us (ids (ord k))) = 0
    · have h3 := (seS_bit hI k).mp h1
      by_cases h2 : tms (ord k) / 100 = dy
      · rw [coS_y h1 h2, coS_N hI dy k, bit1_e _ (hI.hus _), orI]
        congr 1
        exact (if_pos (by simp [h3, h2])).symm
      · rw [coS_n2 h2, coS_N hI dy k]
        congr 1
        exact (if_neg (by simp [h2])).symm
    · have h3 : fiB us ids ord k = false := Bool.eq_false_iff.mpr (fun h => h1 ((seS_bit hI k).mpr h))
      rw [coS_n1 h1, coS_N hI dy k]
      congr 1
      exact (if_neg (by simp [h3])).symm
theorem fday_iff (hI : Inv us ids tms ord n) {u dy : Nat} (hdy : dy < 2 ^ 30) : fday (mm us ids ord n u) (tau us ids tms ord n u) = nI dy ↔ ∃ j, j < n ∧ (fiB us ids ord j && decide (tms (ord j) / 100 = dy)) = true ∧ fU us ids ord j = u := by
  by_cases hm : 0 < mm us ids ord n u
  · obtain ⟨k, h1, h2, h3, h4⟩ := evl_at (f := uf us ids ord u) (ord := ord) (n := n) (j := 0) hm
    have hk : fU us ids ord k = u := of_decide_eq_true h2
    have hz := fb_ct_zero.mp h3
    have hfi : fiB us ids ord k = true := by
      unfold fiB
      rw [Bool.not_eq_true']
      refine Bool.eq_false_iff.mpr (fun h => ?_)
      obtain ⟨i, hi, hi2⟩ := ex_iff.mp h
      have h5 : uf us ids ord u i = true := decide_eq_true ((of_decide_eq_true hi2).trans hk)
      rw [hz i hi] at h5
      cases h5
    have ht : tau us ids tms ord n u 0 = tms (ord k) := by show tms (Em us ids ord n u 0) = _; rw [show Em us ids ord n u 0 = ord k from h4]
    have htm := hI.htm (ord k)
    rw [fday_s hm, ht, nI_eq (by omega) (by omega)]
    constructor
    · intro h
      exact ⟨k, h1, by rw [hfi, decide_eq_true h]; rfl, hk⟩
    · rintro ⟨j, j1, j2, j3⟩
      rw [Bool.and_eq_true, decide_eq_true_eq] at j2
      have : j = k := by
        rcases Nat.lt_trichotomy j k with h | h | h
        · have h5 : uf us ids ord u j = true := decide_eq_true j3
          rw [hz j h] at h5
          cases h5
        · exact h
        · have h6 := j2.1
          unfold fiB at h6
          rw [Bool.not_eq_true'] at h6
          rw [ex_y2 (k := k) (decide_eq_true (hk.trans j3.symm)) h] at h6
          cases h6
      rw [← this]
      exact j2.2
  · rw [fday_0 (by omega)]
    constructor
    · intro h
      exfalso
      have h2 : (-1 : Int32).toInt = (nI dy).toInt := congrArg _ h
      rw [nI_toInt (by omega)] at h2
      have : (-1 : Int32).toInt = -1 := rfl
      omega
    · rintro ⟨j, j1, -, j3⟩
      exact absurd (fb_ct_pos.mpr ⟨j, j1, decide_eq_true j3⟩) hm
theorem coS_af (hI : Inv us ids tms ord n) {dy : Nat} (hdy : dy < 2 ^ 30) : coS us ids tms ord dy n = nI (afN (fun u => decide (fday (mm us ids ord n u) (tau us ids tms ord n u) = nI dy))) := by
  rw [coS_N hI]
  congr 1
  refine afN_of (fun u hu => ?_) (fun u hu => ?_)
  · rw [orN_tb]
    refine Bool.eq_iff_iff.mpr ?_
    rw [ex_iff, decide_eq_true_eq, fday_iff hI hdy]
    constructor
    · rintro ⟨k, h1, h2⟩
      rw [Bool.and_eq_true, decide_eq_true_eq] at h2
      exact ⟨k, h1, h2.1, h2.2⟩
    · rintro ⟨k, h1, h2, h3⟩
      exact ⟨k, h1, by rw [Bool.and_eq_true, decide_eq_true_eq]; exact ⟨h2, h3⟩⟩
  · exact Nat.testBit_lt_two_pow (Nat.lt_of_lt_of_le (orN_lt (fun k => hI.hus _) n) (Nat.pow_le_pow_right (by decide) hu))
/-! what both sides answer -/
theorem eq_users (hI : Inv us ids tms ord n) : bcJ (seS us ids ord n) = nI (fb_ct (fun u => decide (0 < mm us ids ord n u)) 20) := by rw [seS_af hI, bcJ_af]
theorem eq_active (hI : Inv us ids tms ord n) (i : Nat) : acS us ids tms ord i n = afS (fun u => alB (fun d => acB us ids tms n u d) i 1) 20 := by
  rw [afS_N]
  exact acE_af hI i 0
theorem eq_onEach (hI : Inv us ids tms ord n) {i j : Nat} (h : i ≤ j) : acE us ids tms ord n i (j - i) = afS (fun u => alB (fun d => acB us ids tms n u d) i (j + 1 - i)) 20 := by
  rw [afS_N, acE_af hI, show j + 1 - i = j - i + 1 by omega]
theorem eq_retained (hI : Inv us ids tms ord n) {i d : Nat} (hi : i < 2 ^ 30) : bcJ (coS us ids tms ord i n &&& acS us ids tms ord d n) = nI (fb_ct (fun u => decide (fday (mm us ids ord n u) (tau us ids tms ord n u) = nI i) && acB us ids tms n u d) 20) := by
  rw [coS_af hI hi, acS_af hI, afN_and, bcJ_af]
theorem eq_kA (hI : Inv us ids tms ord n) (d : Nat) : bcJ (acS us ids tms ord d n) = nI (fb_ct (fun u => acB us ids tms n u d) 20) := by rw [acS_af hI, bcJ_af]
theorem eq_kN (hI : Inv us ids tms ord n) {d : Nat} (hd : d < 2 ^ 30) : bcJ (coS us ids tms ord d n) = nI (fb_ct (fun u => decide (fday (mm us ids ord n u) (tau us ids tms ord n u) = nI d)) 20) := by rw [coS_af hI hd, bcJ_af]
end
