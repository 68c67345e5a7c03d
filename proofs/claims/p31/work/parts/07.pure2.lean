/-! ranges of arguments; the state's invariant; a user's events in order -/
abbrev eA : String := "java/lang/IllegalArgumentException"
abbrev eS : String := "java/lang/IllegalStateException"
abbrev eX : String := "java/lang/IndexOutOfBoundsException"
def cN (k : Int32) : Nat := k.toNatClampNeg
theorem cN_nI {i : Nat} (h : i < 2 ^ 31) : cN (nI i) = i := nI_clamp h
def inR (k : Int32) (lo hi : Nat) : Prop := ¬ k < nI lo ∧ k ≤ nI hi
theorem inR_lt {k : Int32} {lo hi : Nat} (h : k < nI lo) : ¬ inR k lo hi := fun q => q.1 h
theorem inR_gt {k : Int32} {lo hi : Nat} (h : ¬ k ≤ nI hi) : ¬ inR k lo hi := fun q => h q.2
theorem inR_nat {k : Int32} {lo hi : Nat} (h : inR k lo hi) (hh : hi < 2 ^ 31) (hl : lo < 2 ^ 31) : ∃ i, lo ≤ i ∧ i ≤ hi ∧ k = nI i := by
  obtain ⟨h1, h2⟩ := h
  have h0 : ¬ k < 0 := fun q => h1 (by
    rw [Int32.lt_iff_toInt_lt] at q ⊢
    rw [nI_toInt hl]
    have : (0 : Int32).toInt = 0 := rfl
    omega)
  obtain ⟨i, hi1, rfl⟩ := nI_of h0
  exact ⟨i, Nat.not_lt.mp fun q => h1 ((nI_ltI hi1 hl).mpr q), (nI_leI hi1 hh).mp h2, rfl⟩
theorem inR_nI {i lo hi : Nat} (h1 : i < 2 ^ 31) (hl : lo < 2 ^ 31) (hh : hi < 2 ^ 31) : inR (nI i) lo hi ↔ lo ≤ i ∧ i ≤ hi :=
  ⟨fun h => ⟨Nat.not_lt.mp fun q => h.1 ((nI_ltI h1 hl).mpr q), (nI_leI h1 hh).mp h.2⟩, fun h => ⟨fun q => absurd ((nI_ltI h1 hl).mp q) (by omega), (nI_leI h1 hh).mpr h.2⟩⟩
def inB (k : Int32) (b : Nat) : Prop := ¬ k < 0 ∧ k < nI b
theorem inB_nat {k : Int32} {b : Nat} (h : inB k b) (hb : b < 2 ^ 31) : ∃ i, i < b ∧ k = nI i := by
  obtain ⟨h1, h2⟩ := h
  obtain ⟨i, hi1, rfl⟩ := nI_of h1
  exact ⟨i, (nI_ltI hi1 hb).mp h2, rfl⟩
theorem inB_nI {i b : Nat} (h1 : i < 2 ^ 31) (hb : b < 2 ^ 31) : inB (nI i) b ↔ i < b :=
  ⟨fun h => (nI_ltI h1 hb).mp h.2, fun h => ⟨nI_pos h1, (nI_ltI h1 hb).mpr h⟩⟩
/-- what holds of users, events and their order at every time -/
def Inv (us ids tms ord : Nat → Nat) (n : Nat) : Prop := (∀ k, us k < 20) ∧ (∀ k, ids k < 20) ∧ (∀ k, tms k < 2000) ∧ (∀ k, ord k < 250) ∧ n ≤ 250 ∧ (∀ k, k < n → ord k < n) ∧ (∀ i j, i < n → j < n → ord i = ord j → i = j) ∧ (∀ i, i + 1 < n → tms (ord i) ≤ tms (ord (i + 1)))
section
variable {us ids tms ord : Nat → Nat} {n : Nat}
theorem Inv.hus (h : Inv us ids tms ord n) : ∀ k, us k < 20 := h.1
theorem Inv.hids (h : Inv us ids tms ord n) : ∀ k, ids k < 20 := h.2.1
theorem Inv.htm (h : Inv us ids tms ord n) : ∀ k, tms k < 2000 := h.2.2.1
theorem Inv.hor (h : Inv us ids tms ord n) : ∀ k, ord k < 250 := h.2.2.2.1
theorem Inv.hn (h : Inv us ids tms ord n) : n ≤ 250 := h.2.2.2.2.1
theorem Inv.horn (h : Inv us ids tms ord n) : ∀ k, k < n → ord k < n := h.2.2.2.2.2.1
theorem Inv.hinj (h : Inv us ids tms ord n) : ∀ i j, i < n → j < n → ord i = ord j → i = j := h.2.2.2.2.2.2.1
theorem Inv.hsort (h : Inv us ids tms ord n) : ∀ i, i + 1 < n → tms (ord i) ≤ tms (ord (i + 1)) := h.2.2.2.2.2.2.2
theorem Inv.hsort2 (h : Inv us ids tms ord n) : ∀ d i, i + d < n → tms (ord i) ≤ tms (ord (i + d))
  | 0, i, _ => Nat.le_refl _
  | d + 1, i, hd => Nat.le_trans (Inv.hsort2 h d i (by omega)) (h.hsort (i + d) hd)
end
/-- the row of those ord k, in order, at which f holds -/
def evl (f : Nat → Bool) (ord : Nat → Nat) : Nat → (Nat → Nat)
  | 0 => fun _ => 0
  | k + 1 => if f k = true then va_up (evl f ord k) (fb_ct f k) (ord k) else evl f ord k
theorem evl_y {f : Nat → Bool} {ord : Nat → Nat} {k : Nat} (h : f k = true) : evl f ord (k + 1) = va_up (evl f ord k) (fb_ct f k) (ord k) := if_pos h
theorem evl_n {f : Nat → Bool} {ord : Nat → Nat} {k : Nat} (h : f k = false) : evl f ord (k + 1) = evl f ord k := if_neg (by rw [h]; decide)
theorem evl_at {f : Nat → Bool} {ord : Nat → Nat} : ∀ {n j : Nat}, j < fb_ct f n → ∃ k, k < n ∧ f k = true ∧ fb_ct f k = j ∧ evl f ord n j = ord k
  | 0, j, h => absurd h (Nat.not_lt_zero _)
  | n + 1, j, h => by
    cases hf : f n with
    | true =>
      rw [evl_y hf]
      rw [ct_y hf] at h
      by_cases hj : j = fb_ct f n
      · exact ⟨n, Nat.lt_succ_self n, hf, hj.symm, by simp [va_up, hj]⟩
      · obtain ⟨k, h1, h2, h3, h4⟩ := evl_at (f := f) (ord := ord) (n := n) (j := j) (by omega)
        exact ⟨k, by omega, h2, h3, by simp [va_up, hj, h4]⟩
    | false =>
      rw [evl_n hf]
      rw [ct_n hf] at h
      obtain ⟨k, h1, h2, h3, h4⟩ := evl_at (f := f) (ord := ord) (n := n) (j := j) h
      exact ⟨k, by omega, h2, h3, h4⟩
def uf (us ids ord : Nat → Nat) (u k : Nat) : Bool := decide (us (ids (ord k)) = u)
abbrev mm (us ids ord : Nat → Nat) (n u : Nat) : Nat := fb_ct (uf us ids ord u) n
abbrev Em (us ids ord : Nat → Nat) (n u : Nat) : Nat → Nat := evl (uf us ids ord u) ord n
abbrev tau (us ids tms ord : Nat → Nat) (n u : Nat) : Nat → Nat := fun j => tms (Em us ids ord n u j)
abbrev kap (us ids : Nat → Nat) (kd : Nat → Int32) (ord : Nat → Nat) (n u : Nat) : Nat → Int32 := fun j => kd (Em us ids ord n u j)
/-- the timeline's rows hold the user's events -/
def TLok (us ids : Nat → Nat) (kd : Nat → Int32) (tms ord : Nat → Nat) (n u : Nat) (na : Nat → Nat) (ka : Nat → Int32) (ta : Nat → Nat) (tc : Nat) : Prop :=
  tc = mm us ids ord n u ∧ ∀ j, j < mm us ids ord n u → na j = Em us ids ord n u j ∧ ka j = kap us ids kd ord n u j ∧ ta j = tau us ids tms ord n u j
section
variable {us ids : Nat → Nat} {kd : Nat → Int32} {tms ord : Nat → Nat} {n u : Nat} {na : Nat → Nat} {ka : Nat → Int32} {ta : Nat → Nat} {tc : Nat}
theorem TLok_0 : TLok us ids kd tms ord 0 u na ka ta 0 := ⟨rfl, fun j h => absurd h (Nat.not_lt_zero _)⟩
theorem TLok_y (h : TLok us ids kd tms ord n u na ka ta tc) (hu : us (ids (ord n)) = u) : TLok us ids kd tms ord (n + 1) u (va_up na tc (ord n)) (upd ka tc (kd (ord n))) (va_up ta tc (tms (ord n))) (tc + 1) := by
  have hf : uf us ids ord u n = true := decide_eq_true hu
  obtain ⟨h1, h2⟩ := h
  refine ⟨by rw [mm, ct_y hf, h1], fun j hj => ?_⟩
  rw [mm, ct_y hf] at hj
  show va_up na tc (ord n) j = evl _ ord (n + 1) j ∧ upd ka tc (kd (ord n)) j = kd (evl _ ord (n + 1) j) ∧ va_up ta tc (tms (ord n)) j = tms (evl _ ord (n + 1) j)
  rw [evl_y hf, h1]
  by_cases hq : j = mm us ids ord n u
  · subst hq
    simp [va_up, upd]
  · have hq' : ¬ j = fb_ct (uf us ids ord u) n := hq
    have h3 := h2 j (show j < fb_ct (uf us ids ord u) n by omega)
    simp only [va_up, upd, if_neg hq, if_neg hq']
    exact h3
theorem TLok_n (h : TLok us ids kd tms ord n u na ka ta tc) (hu : us (ids (ord n)) ≠ u) : TLok us ids kd tms ord (n + 1) u na ka ta tc := by
  have hf : uf us ids ord u n = false := decide_eq_false hu
  obtain ⟨h1, h2⟩ := h
  refine ⟨by rw [mm, ct_n hf, h1], fun j hj => ?_⟩
  rw [mm, ct_n hf] at hj
  show na j = evl _ ord (n + 1) j ∧ ka j = kd (evl _ ord (n + 1) j) ∧ ta j = tms (evl _ ord (n + 1) j)
  rw [evl_n hf]
  exact h2 j hj
theorem mm_le (us ids ord : Nat → Nat) (n u : Nat) : mm us ids ord n u ≤ n := fb_ct_le _ n
theorem TLok.cnt (h : TLok us ids kd tms ord n u na ka ta tc) : tc = mm us ids ord n u := h.1
theorem TLok.le (h : TLok us ids kd tms ord n u na ka ta tc) : tc ≤ n := by rw [h.1]; exact mm_le _ _ _ _ _
theorem TLok.hna (h : TLok us ids kd tms ord n u na ka ta tc) {j : Nat} (hj : j < tc) : na j = Em us ids ord n u j := (h.2 j (by rw [← h.1]; exact hj)).1
theorem TLok.hta (h : TLok us ids kd tms ord n u na ka ta tc) {j : Nat} (hj : j < tc) : ta j = tau us ids tms ord n u j := (h.2 j (by rw [← h.1]; exact hj)).2.2
theorem TLok.hka (h : TLok us ids kd tms ord n u na ka ta tc) {j : Nat} (hj : j < tc) : ka j = kap us ids kd ord n u j := (h.2 j (by rw [← h.1]; exact hj)).2.1
theorem bs_cong {ta tb : Nat → Nat} {m g : Nat} (h : ∀ j, j < m → ta j = tb j) : ∀ j, j < m → bs ta g j = bs tb g j := by
  intro j hj
  unfold bs
  rw [h j hj, h (j - 1) (by omega)]
theorem bsd_cong {ta tb : Nat → Nat} {m g dy : Nat} (h : ∀ j, j < m → ta j = tb j) : ∀ j, j < m → bsd ta g dy j = bsd tb g dy j := by
  intro j hj
  unfold bsd
  rw [h j hj, bs_cong h j hj]
theorem sbL_cong {f g : Nat → Bool} {k : Int32} : ∀ (r i : Nat), (∀ j, j < i + r → f j = g j) → sbL f k r i = sbL g k r i
  | 0, i, _ => rfl
  | r + 1, i, h => by
    show (if f i = true ∧ nI (fb_ct f i) = k then i else sbL f k r (i + 1)) = (if g i = true ∧ nI (fb_ct g i) = k then i else sbL g k r (i + 1))
    rw [h i (by omega), fb_ct_cong (fun k hk => h k (by omega)), sbL_cong r (i + 1) (fun j hj => h j (by omega))]
theorem seL_cong {f g : Nat → Bool} : ∀ (r i : Nat), (∀ j, j < i + r → f j = g j) → seL f r i = seL g r i
  | 0, i, _ => rfl
  | r + 1, i, h => by
    show (if f i = true then i else seL f r (i + 1)) = (if g i = true then i else seL g r (i + 1))
    rw [h i (by omega), seL_cong r (i + 1) (fun j hj => h j (by omega))]
theorem folL_cong {stp : Nat → Int32} {cnt win : Nat} {ka kb : Nat → Int32} {ta tb : Nat → Nat} : ∀ (j : Nat), (∀ i, i < j → ka i = kb i) → (∀ i, i < j → ta i = tb i) → folL stp cnt win ka ta j = folL stp cnt win kb tb j
  | 0, _, _ => rfl
  | j + 1, h1, h2 => by
    show takeL stp cnt win (ka j) (ta j) cnt (folL stp cnt win ka ta j) = takeL stp cnt win (kb j) (tb j) cnt (folL stp cnt win kb tb j)
    rw [h1 j (by omega), h2 j (by omega), folL_cong j (fun i hi => h1 i (by omega)) (fun i hi => h2 i (by omega))]
theorem TLok.ct (h : TLok us ids kd tms ord n u na ka ta tc) (g : Nat) : fb_ct (bs ta g) tc = fb_ct (bs (tau us ids tms ord n u) g) (mm us ids ord n u) := by
  rw [fb_ct_cong (bs_cong (fun j hj => h.hta hj)), h.cnt]
theorem TLok.ctd (h : TLok us ids kd tms ord n u na ka ta tc) (g dy : Nat) : fb_ct (bsd ta g dy) tc = fb_ct (bsd (tau us ids tms ord n u) g dy) (mm us ids ord n u) := by
  rw [fb_ct_cong (bsd_cong (fun j hj => h.hta hj)), h.cnt]
theorem TLok.sb (h : TLok us ids kd tms ord n u na ka ta tc) (g : Nat) (k : Int32) : sbL (bs ta g) k tc 0 = sbL (bs (tau us ids tms ord n u) g) k (mm us ids ord n u) 0 := by
  rw [sbL_cong tc 0 (fun j hj => bs_cong (fun j hj => h.hta hj) j (by omega)), h.cnt]
theorem TLok.se (h : TLok us ids kd tms ord n u na ka ta tc) (g b : Nat) (hb : b < tc) : seL (bs ta g) (tc - (b + 1)) (b + 1) = seL (bs (tau us ids tms ord n u) g) (mm us ids ord n u - (b + 1)) (b + 1) := by
  rw [seL_cong (tc - (b + 1)) (b + 1) (fun j hj => bs_cong (fun j hj => h.hta hj) j (by omega)), h.cnt]
theorem TLok.fol (h : TLok us ids kd tms ord n u na ka ta tc) (stp : Nat → Int32) (cnt win : Nat) : folL stp cnt win ka ta tc = folL stp cnt win (kap us ids kd ord n u) (tau us ids tms ord n u) (mm us ids ord n u) := by
  rw [folL_cong tc (fun j hj => h.hka hj) (fun j hj => h.hta hj), h.cnt]
theorem TLok.fd (h : TLok us ids kd tms ord n u na ka ta tc) : fday tc ta = fday (mm us ids ord n u) (tau us ids tms ord n u) := by
  unfold fday
  rw [h.cnt]
  by_cases h0 : mm us ids ord n u = 0
  · rw [if_pos h0, if_pos h0]
  · rw [if_neg h0, if_neg h0, h.hta (by rw [h.cnt]; omega)]
theorem tau_sort (hI : Inv us ids tms ord n) : ∀ i, i + 1 < mm us ids ord n u → tau us ids tms ord n u i ≤ tau us ids tms ord n u (i + 1) := by
  intro i hi
  obtain ⟨k, h1, h2, h3, h4⟩ := evl_at (f := uf us ids ord u) (ord := ord) (n := n) (j := i) (by unfold mm at hi; omega)
  obtain ⟨k', g1, g2, g3, g4⟩ := evl_at (f := uf us ids ord u) (ord := ord) (n := n) (j := i + 1) hi
  show tms (evl _ ord n i) ≤ tms (evl _ ord n (i + 1))
  rw [h4, g4]
  have hk : k < k' := by
    rcases Nat.lt_or_ge k k' with q | q
    · exact q
    · have := fb_ct_mono (uf us ids ord u) q
      omega
  have := hI.hsort2 (k' - k) k (by omega)
  rwa [show k + (k' - k) = k' by omega] at this
theorem TLok.so (hI : Inv us ids tms ord n) (h : TLok us ids kd tms ord n u na ka ta tc) : ∀ i, i + 1 < tc → ta i ≤ ta (i + 1) := by
  intro i hi
  rw [h.hta (show i < tc by omega), h.hta hi]
  exact tau_sort hI i (by rw [← h.cnt]; exact hi)
end
/-- merged users -/
def mgF (us : Nat → Nat) (lo hi x : Nat) : Nat → Nat := fun k => if k < x ∧ us k = hi then lo else us k
theorem mg_0 (us : Nat → Nat) (lo hi : Nat) : mgF us lo hi 0 = us := by
  funext k
  exact if_neg (by omega)
theorem mg_at {us : Nat → Nat} {lo hi x : Nat} : mgF us lo hi x x = us x := if_neg (by omega)
theorem mg_y {us : Nat → Nat} {lo hi x : Nat} (h : us x = hi) : va_up (mgF us lo hi x) x lo = mgF us lo hi (x + 1) := by
  funext k
  by_cases hk : k = x
  · subst hk
    simp [va_up, mgF, h]
  · simp only [va_up, if_neg hk, mgF]
    by_cases h1 : k < x ∧ us k = hi
    · rw [if_pos h1, if_pos ⟨by omega, h1.2⟩]
    · rw [if_neg h1, if_neg (fun q => h1 ⟨by omega, q.2⟩)]
theorem mg_n {us : Nat → Nat} {lo hi x : Nat} (h : us x ≠ hi) : mgF us lo hi x = mgF us lo hi (x + 1) := by
  funext k
  simp only [mgF]
  by_cases h1 : k < x ∧ us k = hi
  · rw [if_pos h1, if_pos ⟨by omega, h1.2⟩]
  · rw [if_neg h1, if_neg (fun q => h1 ⟨by
      rcases Nat.lt_or_ge k x with g | g
      · exact g
      · exact absurd (show us x = hi by rw [show x = k by omega]; exact q.2) h, q.2⟩)]
theorem mg_lt {us : Nat → Nat} {lo hi x M : Nat} (h : ∀ k, us k < M) (hl : lo < M) : ∀ k, mgF us lo hi x k < M := by
  intro k
  unfold mgF
  split
  · exact hl
  · exact h k
/-! sets of users as bits -/
def bit1 (u : Nat) : Int32 := nI 1 <<< (nI u &&& 31)
def seS (us ids ord : Nat → Nat) : Nat → Int32
  | 0 => nI 0
  | k + 1 => seS us ids ord k ||| bit1 (us (ids (ord k)))
def acS (us ids tms ord : Nat → Nat) (dy : Nat) : Nat → Int32
  | 0 => nI 0
  | k + 1 => if tms (ord k) / 100 = dy then acS us ids tms ord dy k ||| bit1 (us (ids (ord k))) else acS us ids tms ord dy k
theorem acS_y {us ids tms ord : Nat → Nat} {dy k : Nat} (h : tms (ord k) / 100 = dy) : acS us ids tms ord dy (k + 1) = acS us ids tms ord dy k ||| bit1 (us (ids (ord k))) := if_pos h
theorem acS_n {us ids tms ord : Nat → Nat} {dy k : Nat} (h : tms (ord k) / 100 ≠ dy) : acS us ids tms ord dy (k + 1) = acS us ids tms ord dy k := if_neg h
def coS (us ids tms ord : Nat → Nat) (dy : Nat) : Nat → Int32
  | 0 => nI 0
  | k + 1 => if seS us ids ord k &&& bit1 (us (ids (ord k))) = 0 ∧ tms (ord k) / 100 = dy then coS us ids tms ord dy k ||| bit1 (us (ids (ord k))) else coS us ids tms ord dy k
theorem coS_y {us ids tms ord : Nat → Nat} {dy k : Nat} (h1 : seS us ids ord k &&& bit1 (us (ids (ord k))) = 0) (h2 : tms (ord k) / 100 = dy) : coS us ids tms ord dy (k + 1) = coS us ids tms ord dy k ||| bit1 (us (ids (ord k))) := if_pos ⟨h1, h2⟩
theorem coS_n1 {us ids tms ord : Nat → Nat} {dy k : Nat} (h1 : ¬ seS us ids ord k &&& bit1 (us (ids (ord k))) = 0) : coS us ids tms ord dy (k + 1) = coS us ids tms ord dy k := if_neg (fun q => h1 q.1)
theorem coS_n2 {us ids tms ord : Nat → Nat} {dy k : Nat} (h1 : tms (ord k) / 100 ≠ dy) : coS us ids tms ord dy (k + 1) = coS us ids tms ord dy k := if_neg (fun q => h1 q.2)
/-- users active on each day from d on, r days more -/
def acE (us ids tms ord : Nat → Nat) (n d : Nat) : Nat → Int32
  | 0 => acS us ids tms ord d n
  | r + 1 => acE us ids tms ord n d r &&& acS us ids tms ord (d + r + 1) n
/-! ranks -/
def scO (us ids : Nat → Nat) (kd : Nat → Int32) (tms ord : Nat → Nat) (n : Nat) (stp : Nat → Int32) (cnt win gp b u : Nat) : Option Nat :=
  if mm us ids ord n u = 0 then none else some (if b = 0 then mm us ids ord n u else if b = 1 then fb_ct (bs (tau us ids tms ord n u) gp) (mm us ids ord n u) else (folL stp cnt win (kap us ids kd ord n u) (tau us ids tms ord n u) (mm us ids ord n u)).2.1)
def ahB (sc : Nat → Option Nat) (u v : Nat) : Bool := decide (oI (sc u) < oI (sc v)) || (decide (oI (sc v) = oI (sc u)) && decide (v < u))
theorem ahB_1 {sc : Nat → Option Nat} {u v : Nat} (h : oI (sc u) < oI (sc v)) : ahB sc u v = true := by simp [ahB, h]
theorem ahB_2 {sc : Nat → Option Nat} {u v : Nat} (h : oI (sc v) = oI (sc u)) (h2 : v < u) : ahB sc u v = true := by simp [ahB, h, h2]
theorem ahB_3 {sc : Nat → Option Nat} {u v : Nat} (h : ¬ oI (sc u) < oI (sc v)) (h2 : ¬ oI (sc v) = oI (sc u)) : ahB sc u v = false := by simp [ahB, h, h2]
theorem ahB_4 {sc : Nat → Option Nat} {u v : Nat} (h : ¬ oI (sc u) < oI (sc v)) (h2 : u ≤ v) : ahB sc u v = false := by simp [ahB, h]; intro _; omega
/-- the first user from i on that has a score and so many ahead of it -/
def rkL (sc : Nat → Option Nat) (k : Int32) : Nat → Nat → Option Nat
  | 0, _ => none
  | r + 1, i => if sc i ≠ none ∧ nI (fb_ct (ahB sc i) 20) = k then some i else rkL sc k r (i + 1)
theorem rkL_y {sc : Nat → Option Nat} {k : Int32} {i n : Nat} (hl : i < n) (h : sc i ≠ none) (h2 : nI (fb_ct (ahB sc i) 20) = k) : rkL sc k (n - i) i = some i := by
  rw [show n - i = (n - (i + 1)) + 1 by omega]
  exact if_pos ⟨h, h2⟩
theorem rkL_n1 {sc : Nat → Option Nat} {k : Int32} {i n : Nat} (hl : i < n) (h : sc i = none) : rkL sc k (n - (i + 1)) (i + 1) = rkL sc k (n - i) i := by
  rw [show n - i = (n - (i + 1)) + 1 by omega]
  exact (if_neg (fun q => q.1 h)).symm
theorem rkL_n2 {sc : Nat → Option Nat} {k : Int32} {i n : Nat} (hl : i < n) (h : ¬ nI (fb_ct (ahB sc i) 20) = k) : rkL sc k (n - (i + 1)) (i + 1) = rkL sc k (n - i) i := by
  rw [show n - i = (n - (i + 1)) + 1 by omega]
  exact (if_neg (fun q => h q.2)).symm
theorem ahB_cong {s1 s2 : Nat → Option Nat} {u : Nat} (hu : u < 20) (h : ∀ k, k < 20 → s1 k = s2 k) : fb_ct (ahB s1 u) 20 = fb_ct (ahB s2 u) 20 := fb_ct_cong (fun k hk => by unfold ahB; rw [h k hk, h u hu])
theorem rkL_cong {s1 s2 : Nat → Option Nat} {k : Int32} (h : ∀ k, k < 20 → s1 k = s2 k) : ∀ (r i : Nat), i + r ≤ 20 → rkL s1 k r i = rkL s2 k r i
  | 0, _, _ => rfl
  | r + 1, i, hi => by
    show (if s1 i ≠ none ∧ nI (fb_ct (ahB s1 i) 20) = k then some i else rkL s1 k r (i + 1)) = (if s2 i ≠ none ∧ nI (fb_ct (ahB s2 i) 20) = k then some i else rkL s2 k r (i + 1))
    rw [h i (by omega), ahB_cong (by omega) h, rkL_cong h r (i + 1) (by omega)]
theorem sbL_le (f : Nat → Bool) (k : Int32) : ∀ r i, sbL f k r i ≤ i + r
  | 0, i => Nat.le_refl _
  | r + 1, i => by
    show (if f i = true ∧ nI (fb_ct f i) = k then i else sbL f k r (i + 1)) ≤ _
    split
    · omega
    · have := sbL_le f k r (i + 1)
      omega
section
variable {us ids : Nat → Nat} {kd : Nat → Int32} {tms ord : Nat → Nat} {n u : Nat} {na : Nat → Nat} {ka : Nat → Int32} {ta : Nat → Nat} {tc : Nat} {stp : Nat → Int32} {cnt win gp b : Nat}
theorem scO_0 (h : TLok us ids kd tms ord n u na ka ta tc) (h0 : tc = 0) : oI (scO us ids kd tms ord n stp cnt win gp b u) = -1 := by
  unfold scO
  rw [if_pos (by rw [← h.cnt]; exact h0)]
  rfl
theorem scO_1 (h : TLok us ids kd tms ord n u na ka ta tc) (h0 : 0 < tc) (hb : b = 0) : oI (scO us ids kd tms ord n stp cnt win gp b u) = nI tc := by
  unfold scO
  rw [if_neg (by rw [← h.cnt]; omega), if_pos hb, h.cnt]
  rfl
theorem scO_2 (h : TLok us ids kd tms ord n u na ka ta tc) (h0 : 0 < tc) (hb : b = 1) : oI (scO us ids kd tms ord n stp cnt win gp b u) = nI (fb_ct (bs ta gp) tc) := by
  unfold scO
  rw [if_neg (by rw [← h.cnt]; omega), if_neg (by omega), if_pos hb, h.ct]
  rfl
theorem scO_3 (h : TLok us ids kd tms ord n u na ka ta tc) (h0 : 0 < tc) (hb : 0 < b) (hb1 : b ≠ 1) : oI (scO us ids kd tms ord n stp cnt win gp b u) = nI (folL stp cnt win (kap us ids kd ord n u) (tau us ids tms ord n u) (mm us ids ord n u)).2.1 := by
  unfold scO
  rw [if_neg (by rw [← h.cnt]; omega), if_neg (by omega), if_neg hb1]
  rfl
end
theorem seL_ge (f : Nat → Bool) : ∀ r i, i ≤ seL f r i
  | 0, i => Nat.le_refl _
  | r + 1, i => by
    show i ≤ (if f i = true then i else seL f r (i + 1))
    split
    · omega
    · have := seL_ge f r (i + 1)
      omega
theorem seL_le (f : Nat → Bool) : ∀ r i, seL f r i ≤ i + r
  | 0, i => Nat.le_refl _
  | r + 1, i => by
    show (if f i = true then i else seL f r (i + 1)) ≤ _
    split
    · omega
    · have := seL_le f r (i + 1)
      omega
theorem folL_le6 {stp : Nat → Int32} {cnt win : Nat} {ka : Nat → Int32} {ta : Nat → Nat} : ∀ {n : Nat}, cnt ≤ 6 → (∀ k, ta k < 2000) → (∀ i, i + 1 < n → ta i ≤ ta (i + 1)) → (folL stp cnt win ka ta n).2.1 ≤ 6
  | 0, _, _, _ => Nat.zero_le _
  | n + 1, hc, hta, hso => (takeL_ok (hta n) cnt _ hc (folL_ok hc hta hso n (by omega))).2.1
theorem scO_lt {us ids : Nat → Nat} {kd : Nat → Int32} {tms ord : Nat → Nat} {n u : Nat} {stp : Nat → Int32} {cnt win gp b z : Nat} (hc : cnt ≤ 6) (hw : win < 2000) (hI : Inv us ids tms ord n) (hb : b ≤ 2) (h : scO us ids kd tms ord n stp cnt win gp b u = some z) : z < 2 ^ 31 := by
  unfold scO at h
  have h1 := mm_le us ids ord n u
  have h2 := hI.hn
  have h3 := fb_ct_le (bs (tau us ids tms ord n u) gp) (mm us ids ord n u)
  have h4 : (folL stp cnt win (kap us ids kd ord n u) (tau us ids tms ord n u) (mm us ids ord n u)).2.1 ≤ 6 := folL_le6 hc (fun k => hI.htm _) (tau_sort hI)
  split at h
  · cases h
  · have h5 := Option.some.inj h
    rw [← h5]
    split
    · omega
    · split
      · omega
      · omega
