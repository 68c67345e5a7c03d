/-! p31's own ways of telling: pure words. The choices out of the script -/
def smN (v : Int32) (n : Nat) : Nat := v.toBitVec.toNat / 4 % n
theorem sm_lt (v : Int32) {n : Nat} (h : 0 < n) : smN v n < n := Nat.mod_lt _ h
theorem sm_a (v : Int32) : v.toBitVec.toNat / 4 < 2 ^ 31 := by
  have := v.toBitVec.isLt
  omega
theorem sm_u (v : Int32) : ush v 2 = nI (v.toBitVec.toNat / 4) := by
  refine b_ext (fun i hi => ?_)
  unfold ush
  rw [b_ushr 2 (by omega), bt_nI, show v.toBitVec.toNat / 4 = v.toBitVec.toNat / 2 ^ 2 from rfl, Nat.testBit_div_two_pow]
  show v.toBitVec.toNat.testBit (2 + i) = _
  simp [hi, Nat.add_comm]
theorem sm_e (v : Int32) {n : Nat} (h0 : 0 < n) (hn : n < 2 ^ 31) : ush v 2 - ush v 2 / nI n * nI n = nI (smN v n) := by
  rw [sm_u]
  exact pk_rem (sm_a v) h0 hn
/-! the order of events, those of one time too -/
abbrev lx (tms : Nat → Nat) (a b : Nat) : Prop := tms a < tms b ∨ (tms a = tms b ∧ a < b)
theorem lx_t {tms : Nat → Nat} {a b c : Nat} (h1 : lx tms a b) (h2 : lx tms b c) : lx tms a c := by unfold lx at *; omega
theorem lx_n {tms : Nat → Nat} {a b : Nat} (h1 : lx tms a b) : ¬ lx tms b a := by unfold lx at *; omega
theorem lx_i {tms : Nat → Nat} {a : Nat} : ¬ lx tms a a := by unfold lx; omega
def Ties (tms ord : Nat → Nat) (n : Nat) : Prop := ∀ i, i + 1 < n → lx tms (ord i) (ord (i + 1))
theorem Ties.go {tms ord : Nat → Nat} {n : Nat} (h : Ties tms ord n) : ∀ d i, i + d + 1 < n → lx tms (ord i) (ord (i + d + 1))
  | 0, i, hi => h i hi
  | d + 1, i, hi => lx_t (h.go d i (by omega)) (h (i + d + 1) (by omega))
theorem Ties.event {us ids tms ord : Nat → Nat} {n t : Nat} (hI : Inv us ids tms ord n) (hT : Ties tms ord n) : Ties (va_up tms n t) (insO (va_up tms n t) t n n ord) (n + 1) := by
  obtain ⟨q, q1, q2, q3, q4⟩ := ins_ch (tm := va_up tms n t) (ord := ord) (t := t) (n := n) n ord (Nat.le_refl _) (fun k => by by_cases h : k ≤ n <;> simp [h]) (fun k a b => by omega)
  have orn := hI.horn
  have tmo : ∀ k, k < n → va_up tms n t (ord k) = tms (ord k) := fun k hk => if_neg (by have := orn k hk; omega)
  have tmn : va_up tms n t n = t := if_pos rfl
  intro k hk
  rw [q4 k, q4 (k + 1)]
  by_cases k1 : k + 1 < q
  · rw [if_pos (by omega), if_pos k1]
    have := hT k (by omega)
    unfold lx at *
    rw [tmo k (by omega), tmo (k + 1) (by omega)]
    exact this
  · by_cases k2 : k + 1 = q
    · rw [if_pos (by omega), if_neg k1, if_pos k2]
      rcases q2 with q2 | q2
      · omega
      · rw [show q - 1 = k by omega] at q2
        have := orn k (by omega)
        unfold lx
        rw [tmn]
        omega
    · simp only [if_neg (show ¬ k < q by omega), if_neg k1, if_neg k2, if_pos (show k + 1 ≤ n by omega), Nat.add_sub_cancel]
      by_cases k3 : k = q
      · simp only [if_pos k3]
        have h5 := q3 k (by omega) (by omega)
        unfold lx
        rw [tmn]
        exact Or.inl h5
      · simp only [if_neg k3, if_pos (show k ≤ n by omega)]
        have := hT (k - 1) (by omega)
        rw [show k - 1 + 1 = k by omega] at this
        unfold lx at *
        rw [tmo k (by omega), tmo (k - 1) (by omega)]
        exact this
section
variable {us ids tms ord : Nat → Nat} {n u : Nat}
theorem Em_at {i : Nat} (h : i < mm us ids ord n u) : ∃ k, k < n ∧ us (ids (ord k)) = u ∧ fb_ct (uf us ids ord u) k = i ∧ Em us ids ord n u i = ord k := by
  obtain ⟨k, h1, h2, h3, h4⟩ := evl_at (f := uf us ids ord u) (ord := ord) h
  exact ⟨k, h1, of_decide_eq_true h2, h3, h4⟩
theorem Em_lt (hI : Inv us ids tms ord n) {i : Nat} (h : i < mm us ids ord n u) : Em us ids ord n u i < n ∧ us (ids (Em us ids ord n u i)) = u := by
  obtain ⟨k, h1, h2, h3, h4⟩ := Em_at h
  rw [h4]
  exact ⟨hI.horn k h1, h2⟩
theorem Em_lx (hT : Ties tms ord n) {i j : Nat} (hj : j < mm us ids ord n u) (hij : i < j) : lx tms (Em us ids ord n u i) (Em us ids ord n u j) := by
  obtain ⟨k, h1, h2, h3, h4⟩ := Em_at (i := i) (show i < mm us ids ord n u by omega)
  obtain ⟨k', g1, g2, g3, g4⟩ := Em_at hj
  have hk : k < k' := by
    rcases Nat.lt_or_ge k k' with q | q
    · exact q
    · have := fb_ct_mono (uf us ids ord u) q
      omega
  rw [h4, g4]
  have := hT.go (k' - k - 1) k (by omega)
  rwa [show k + (k' - k - 1) + 1 = k' by omega] at this
theorem Em_on (hI : Inv us ids tms ord n) {y : Nat} (hy : y < n) (hu : us (ids y) = u) : ∃ i, i < mm us ids ord n u ∧ Em us ids ord n u i = y := by
  obtain ⟨k, hk, rfl⟩ := ord_onto hI hy
  have h1 : fb_ct (uf us ids ord u) (k + 1) = fb_ct (uf us ids ord u) k + 1 := ct_y (decide_eq_true hu)
  have h2 := fb_ct_mono (uf us ids ord u) (show k + 1 ≤ n by omega)
  have hi : fb_ct (uf us ids ord u) k < mm us ids ord n u := by show _ < fb_ct _ n; omega
  obtain ⟨k', g1, g2, g3, g4⟩ := Em_at hi
  have : k' = k := fb_ct_kth_one (p := uf us ids ord u) (decide_eq_true g2) (decide_eq_true hu) g3
  exact ⟨_, hi, by rw [g4, this]⟩
/-- the least in order so far of those with P -/
def nxF (P : Nat → Bool) (tms : Nat → Nat) : Nat → Option Nat
  | 0 => none
  | k + 1 => match nxF P tms k with
    | none => if P k = true then some k else none
    | some b => if P k = true ∧ tms k < tms b then some k else some b
theorem nxF_n {P : Nat → Bool} {k : Nat} (h : P k = false) : nxF P tms (k + 1) = nxF P tms k := by
  show (match nxF P tms k with | none => _ | some b => _) = _
  cases nxF P tms k with
  | none => exact if_neg (by rw [h]; decide)
  | some b => exact if_neg (by rw [h]; exact fun q => absurd q.1 (by decide))
theorem nxF_0 {P : Nat → Bool} {k : Nat} (h : P k = true) (h2 : nxF P tms k = none) : nxF P tms (k + 1) = some k := by
  show (match nxF P tms k with | none => _ | some b => _) = _
  rw [h2]
  exact if_pos h
theorem nxF_y {P : Nat → Bool} {k b : Nat} (h : P k = true) (h2 : nxF P tms k = some b) (h3 : tms k < tms b) : nxF P tms (k + 1) = some k := by
  show (match nxF P tms k with | none => _ | some b => _) = _
  rw [h2]
  exact if_pos ⟨h, h3⟩
theorem nxF_z {P : Nat → Bool} {k b : Nat} (h2 : nxF P tms k = some b) (h3 : tms b ≤ tms k) : nxF P tms (k + 1) = some b := by
  show (match nxF P tms k with | none => _ | some b => _) = _
  rw [h2]
  exact if_neg (by omega)
theorem nxF_spec {P : Nat → Bool} : ∀ k, (nxF P tms k = none ∧ ∀ y, y < k → P y = false) ∨ ∃ b, nxF P tms k = some b ∧ b < k ∧ P b = true ∧ ∀ y, y < k → P y = true → b = y ∨ lx tms b y
  | 0 => Or.inl ⟨rfl, fun y h => absurd h (Nat.not_lt_zero _)⟩
  | k + 1 => by
    rcases nxF_spec (P := P) k with ⟨h1, h2⟩ | ⟨b, h1, h2, h3, h4⟩
    · cases hk : P k with
      | true =>
        refine Or.inr ⟨k, nxF_0 hk h1, Nat.lt_succ_self _, hk, fun y hy hp => ?_⟩
        rcases Nat.lt_or_ge y k with q | q
        · rw [h2 y q] at hp; cases hp
        · exact Or.inl (by omega)
      | false =>
        refine Or.inl ⟨(nxF_n hk).trans h1, fun y hy => ?_⟩
        rcases Nat.lt_or_ge y k with q | q
        · exact h2 y q
        · rw [show y = k by omega]; exact hk
    · cases hk : P k with
      | true =>
        by_cases hlt : tms k < tms b
        · refine Or.inr ⟨k, nxF_y hk h1 hlt, Nat.lt_succ_self _, hk, fun y hy hp => ?_⟩
          rcases Nat.lt_or_ge y k with q | q
          · have := h4 y q hp
            unfold lx at *
            rcases this with e | e
            · rw [← e]; exact Or.inr (Or.inl hlt)
            · exact Or.inr (by omega)
          · exact Or.inl (by omega)
        · refine Or.inr ⟨b, nxF_z h1 (by omega), by omega, h3, fun y hy hp => ?_⟩
          rcases Nat.lt_or_ge y k with q | q
          · exact h4 y q hp
          · rw [show y = k by omega]
            exact Or.inr (by unfold lx; omega)
      | false =>
        refine Or.inr ⟨b, (nxF_n hk).trans h1, by omega, h3, fun y hy hp => ?_⟩
        rcases Nat.lt_or_ge y k with q | q
        · exact h4 y q hp
        · rw [show y = k by omega, hk] at hp; cases hp
/-- the events of a user; those behind one -/
def pS (us ids : Nat → Nat) (u k : Nat) : Bool := decide (us (ids k) = u)
def pA (us ids tms : Nat → Nat) (u e k : Nat) : Bool := decide (us (ids k) = u) && decide (lx tms e k)
/-- the event at a place in order, if there is one -/
def nxE (us ids ord : Nat → Nat) (n u i : Nat) : Option Nat := if i < mm us ids ord n u then some (Em us ids ord n u i) else none
theorem nxE_y {i : Nat} (h : i < mm us ids ord n u) : nxE us ids ord n u i = some (Em us ids ord n u i) := if_pos h
theorem nxE_n {i : Nat} (h : mm us ids ord n u ≤ i) : nxE us ids ord n u i = none := if_neg (by omega)
theorem nxE_s {i e : Nat} (h : nxE us ids ord n u i = some e) : i < mm us ids ord n u ∧ e = Em us ids ord n u i := by
  unfold nxE at h
  by_cases hi : i < mm us ids ord n u
  · rw [if_pos hi] at h
    cases h
    exact ⟨hi, rfl⟩
  · rw [if_neg hi] at h; cases h
theorem nxE_0 {i : Nat} (h : nxE us ids ord n u i = none) : mm us ids ord n u ≤ i := by
  rcases Nat.lt_or_ge i (mm us ids ord n u) with q | q
  · rw [nxE_y q] at h; cases h
  · exact q
theorem nx_first (hI : Inv us ids tms ord n) (hT : Ties tms ord n) : nxF (pS us ids u) tms n = nxE us ids ord n u 0 := by
  rcases nxF_spec (P := pS us ids u) (tms := tms) n with ⟨h1, h2⟩ | ⟨b, h1, h2, h3, h4⟩
  · rw [h1]
    refine (nxE_n (Nat.not_lt.mp fun q => ?_)).symm
    obtain ⟨a, b⟩ := Em_lt hI q
    have := h2 _ a
    rw [show pS us ids u (Em us ids ord n u 0) = true from decide_eq_true b] at this
    cases this
  · rw [h1]
    obtain ⟨i, hi, rfl⟩ := Em_on (u := u) hI h2 (of_decide_eq_true h3)
    have h0 : 0 < mm us ids ord n u := by omega
    rw [nxE_y h0]
    by_cases hi0 : i = 0
    · rw [hi0]
    · obtain ⟨a, b⟩ := Em_lt hI h0
      have := Em_lx hT hi (show 0 < i by omega)
      rcases h4 _ a (decide_eq_true b) with e | e
      · rw [e]
      · exact absurd this (lx_n e)
theorem nx_next (hI : Inv us ids tms ord n) (hT : Ties tms ord n) {i : Nat} (hi : i < mm us ids ord n u) : nxF (pA us ids tms u (Em us ids ord n u i)) tms n = nxE us ids ord n u (i + 1) := by
  have pa : ∀ {j : Nat}, j < mm us ids ord n u → i < j → pA us ids tms u (Em us ids ord n u i) (Em us ids ord n u j) = true := fun {j} hj hij => by
    unfold pA
    rw [decide_eq_true (Em_lt hI hj).2, decide_eq_true (Em_lx hT hj hij)]
    rfl
  rcases nxF_spec (P := pA us ids tms u (Em us ids ord n u i)) (tms := tms) n with ⟨h1, h2⟩ | ⟨b, h1, h2, h3, h4⟩
  · rw [h1]
    refine (nxE_n (Nat.not_lt.mp fun q => ?_)).symm
    have := h2 _ (Em_lt hI q).1
    rw [pa q (by omega)] at this
    cases this
  · rw [h1]
    unfold pA at h3
    rw [Bool.and_eq_true, decide_eq_true_eq, decide_eq_true_eq] at h3
    obtain ⟨j, hj, rfl⟩ := Em_on (u := u) hI h2 h3.1
    have hij : i < j := by
      rcases Nat.lt_trichotomy i j with q | q | q
      · exact q
      · rw [q] at h3; exact absurd h3.2 lx_i
      · exact absurd (Em_lx hT hi q) (lx_n h3.2)
    have hs : i + 1 < mm us ids ord n u := by omega
    rw [nxE_y hs]
    by_cases hji : j = i + 1
    · rw [hji]
    · have := Em_lx hT hj (show i + 1 < j by omega)
      rcases h4 _ (Em_lt hI hs).1 (pa hs (by omega)) with e | e
      · rw [e]
      · exact absurd this (lx_n e)
theorem ch_fn {P : Nat → Nat → Prop} (h : ∀ i, ∃ k, P i k) : ∃ c : Nat → Nat, ∀ i, P i (c i) := ⟨fun i => Classical.choose (h i), fun i => Classical.choose_spec (h i)⟩
/-- a count that goes over another -/
theorem ct_inj {p q : Nat → Bool} {n m : Nat} (g : Nat → Nat) (h : ∀ k, k < n → p k = true → g k < m ∧ q (g k) = true) (hi : ∀ a b, a < n → b < n → p a = true → p b = true → g a = g b → a = b) : fb_ct p n ≤ fb_ct q m := by
  have hc : ∀ i, ∃ k, i < fb_ct p n → k < n ∧ p k = true ∧ fb_ct p k = i := fun i => by
    by_cases hi : i < fb_ct p n
    · obtain ⟨k, h1, h2, h3⟩ := fb_ct_kth hi
      exact ⟨k, fun _ => ⟨h1, h2, h3⟩⟩
    · exact ⟨0, fun q => absurd q hi⟩
  obtain ⟨c, hc⟩ := ch_fn hc
  refine fb_holes _ _ (fun i => fb_ct q (g (c i))) (fun i hi2 => ?_) (fun i j hij hj e => ?_)
  · obtain ⟨a1, a2, a3⟩ := hc i hi2
    obtain ⟨b1, b2⟩ := h _ a1 a2
    have := fb_ct_mono q (show g (c i) + 1 ≤ m by omega)
    rw [ct_y b2] at this
    omega
  · obtain ⟨a1, a2, a3⟩ := hc i (by omega)
    obtain ⟨d1, d2, d3⟩ := hc j hj
    have := hi _ _ a1 d1 a2 d2 (fb_ct_kth_one (h _ a1 a2).2 (h _ d1 d2).2 e)
    rw [this] at a3
    omega
theorem many_e (hI : Inv us ids tms ord n) : fb_ct (pS us ids u) n = mm us ids ord n u := by
  refine Nat.le_antisymm ?_ ?_
  · have hc : ∀ y, ∃ k, y < n → k < n ∧ ord k = y := fun y => by
      by_cases hy : y < n
      · obtain ⟨k, h1, h2⟩ := ord_onto hI hy
        exact ⟨k, fun _ => ⟨h1, h2⟩⟩
      · exact ⟨0, fun q => absurd q hy⟩
    obtain ⟨c, hc⟩ := ch_fn hc
    refine ct_inj c (fun k hk hp => ⟨(hc k hk).1, ?_⟩) (fun a b ha hb _ _ e => ?_)
    · show decide (us (ids (ord (c k))) = u) = true
      rw [(hc k hk).2]
      exact hp
    · rw [← (hc a ha).2, ← (hc b hb).2, e]
  · refine ct_inj ord (fun k hk hp => ⟨hI.horn k hk, hp⟩) (fun a b ha hb _ _ e => hI.hinj a b ha hb e)
end
/-- whether a user is on a day, the day as it comes -/
def acI (us ids tms : Nat → Nat) (u : Nat) (dy : Int32) (n : Nat) : Bool := exB (fun k => decide (us (ids k) = u) && decide (nI (tms k / 100) = dy)) n
theorem acI_y {us ids tms : Nat → Nat} {u k n : Nat} {dy : Int32} (h1 : us (ids k) = u) (h2 : nI (tms k / 100) = dy) (hk : k < n) : acI us ids tms u dy n = true := ex_y2 (k := k) (by show (decide _ && decide _) = true; rw [decide_eq_true h1, decide_eq_true h2]; rfl) hk
theorem acI_n1 {us ids tms : Nat → Nat} {u k : Nat} {dy : Int32} (h : acI us ids tms u dy k = false) (h1 : us (ids k) ≠ u) : acI us ids tms u dy (k + 1) = false := ex_n h (by show (decide _ && decide _) = false; rw [decide_eq_false h1]; rfl)
theorem acI_n2 {us ids tms : Nat → Nat} {u k : Nat} {dy : Int32} (h : acI us ids tms u dy k = false) (h1 : ¬ nI (tms k / 100) = dy) : acI us ids tms u dy (k + 1) = false := ex_n h (by show (decide _ && decide _) = false; rw [decide_eq_false h1, Bool.and_false])
theorem acI_B {us ids tms : Nat → Nat} {u n d : Nat} (htm : ∀ k, tms k < 2000) (hd : d < 2 ^ 31) : acI us ids tms u (nI d) n = acB us ids tms n u d := by
  unfold acI acB acP
  congr 1
  funext k
  have := htm k
  congr 1
  exact decide_eq_decide.mpr (nI_eq (by omega) hd)
