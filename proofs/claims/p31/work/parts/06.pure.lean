/-! Pure words for the state and the answers. -/
theorem bT {r : Bool} (h : r = true) : nI 1 = bI r := by rw [h]; rfl
theorem bF {r : Bool} (h : r = false) : nI 0 = bI r := by rw [h]; rfl
theorem up_lt {f : Nat → Nat} {M j v : Nat} (h : ∀ k, f k < M) (hv : v < M) : ∀ k, va_up f j v k < M := by
  intro k
  by_cases hk : k = j
  · simp [va_up, hk, hv]
  · simp [va_up, hk, h k]
/-- the row of event numbers behind the insertion of number num with time t, from place p down -/
def insO (tm : Nat → Nat) (t num : Nat) : Nat → (Nat → Nat) → (Nat → Nat)
  | 0, o => va_up o 0 num
  | p + 1, o => if t < tm (o p) then insO tm t num p (va_up o (p + 1) (o p)) else va_up o (p + 1) num
theorem insO_s {tm : Nat → Nat} {t num p : Nat} {o : Nat → Nat} (h : t < tm (o p)) : insO tm t num (p + 1) o = insO tm t num p (va_up o (p + 1) (o p)) := if_pos h
theorem insO_e {tm : Nat → Nat} {t num p : Nat} {o : Nat → Nat} (h : tm (o p) ≤ t) : insO tm t num (p + 1) o = va_up o (p + 1) num := if_neg (Nat.not_lt.mpr h)
/-! the day of a first event, where sessions begin -/
def fday (n : Nat) (ta : Nat → Nat) : Int32 := if n = 0 then -1 else nI (ta 0 / 100)
theorem fday_0 {n : Nat} {ta : Nat → Nat} (h : n = 0) : fday n ta = -1 := if_pos h
theorem fday_s {n : Nat} {ta : Nat → Nat} (h : 0 < n) : fday n ta = nI (ta 0 / 100) := if_neg (by omega)
def bs (ta : Nat → Nat) (g j : Nat) : Bool := decide (j = 0 ∨ ta (j - 1) + g < ta j)
theorem bs_0 {ta : Nat → Nat} {g j : Nat} (h : j = 0) : bs ta g j = true := decide_eq_true (Or.inl h)
theorem bs_t {ta : Nat → Nat} {g j : Nat} (h1 : ta j < 2000) (h2 : ta (j - 1) < 2000) (hg : g ≤ 500) (h : ¬ nI (ta j) - nI (ta (j - 1)) ≤ nI g) : bs ta g j = true := decide_eq_true (Or.inr (by
  rw [sub_le (by omega) (by omega) (by omega)] at h
  omega))
theorem bs_f {ta : Nat → Nat} {g j : Nat} (h0 : 0 < j) (h1 : ta j < 2000) (h2 : ta (j - 1) < 2000) (hg : g ≤ 500) (h : nI (ta j) - nI (ta (j - 1)) ≤ nI g) : bs ta g j = false := decide_eq_false (by
  rw [sub_le (by omega) (by omega) (by omega)] at h
  omega)
theorem ct_y {f : Nat → Bool} {j : Nat} (h : f j = true) : fb_ct f (j + 1) = fb_ct f j + 1 := by rw [fb_ct_succ, h]; rfl
theorem ct_n {f : Nat → Bool} {j : Nat} (h : f j = false) : fb_ct f (j + 1) = fb_ct f j := by rw [fb_ct_succ, h]; rfl
def bsd (ta : Nat → Nat) (g dy j : Nat) : Bool := decide (ta j / 100 = dy) && bs ta g j
theorem bsd_y {ta : Nat → Nat} {g dy j : Nat} (h1 : ta j / 100 = dy) (h2 : bs ta g j = true) : bsd ta g dy j = true := by simp [bsd, h1, h2]
theorem bsd_n1 {ta : Nat → Nat} {g dy j : Nat} (h1 : ta j / 100 ≠ dy) : bsd ta g dy j = false := by simp [bsd, h1]
theorem bsd_n2 {ta : Nat → Nat} {g dy j : Nat} (h2 : bs ta g j = false) : bsd ta g dy j = false := by simp [bsd, h2]
/-- the place of the k-th place with f; the end m if there is none -/
def sbL (f : Nat → Bool) (k : Int32) : Nat → Nat → Nat
  | 0, i => i
  | r + 1, i => if f i = true ∧ nI (fb_ct f i) = k then i else sbL f k r (i + 1)
theorem sbL_y {f : Nat → Bool} {k : Int32} {j n : Nat} (h : f j = true) (he : nI (fb_ct f j) = k) (hl : j < n) : sbL f k (n - j) j = j := by
  rw [show n - j = (n - (j + 1)) + 1 by omega]
  exact if_pos ⟨h, he⟩
theorem sbL_m {f : Nat → Bool} {k : Int32} {j n : Nat} (h : f j = true) (he : ¬ nI (fb_ct f j) = k) (hl : j < n) : sbL f k (n - (j + 1)) (j + 1) = sbL f k (n - j) j := by
  rw [show n - j = (n - (j + 1)) + 1 by omega]
  exact (if_neg (fun q => he q.2)).symm
theorem sbL_n {f : Nat → Bool} {k : Int32} {j n : Nat} (h : f j = false) (hl : j < n) : sbL f k (n - (j + 1)) (j + 1) = sbL f k (n - j) j := by
  rw [show n - j = (n - (j + 1)) + 1 by omega]
  exact (if_neg (fun q => by rw [h] at q; cases q.1)).symm
/-- the first place from i on with f, or the end -/
def seL (f : Nat → Bool) : Nat → Nat → Nat
  | 0, i => i
  | r + 1, i => if f i = true then i else seL f r (i + 1)
theorem seL_y {f : Nat → Bool} {j n : Nat} (h : f j = true) (hl : j < n) : seL f (n - j) j = j := by
  rw [show n - j = (n - (j + 1)) + 1 by omega]
  exact if_pos h
theorem seL_n {f : Nat → Bool} {j n : Nat} (h : f j = false) (hl : j < n) : seL f (n - (j + 1)) (j + 1) = seL f (n - j) j := by
  rw [show n - j = (n - (j + 1)) + 1 by omega]
  exact (if_neg (by rw [h]; decide)).symm
/-! the funnel, followed in one pass: for each step the latest start, how many are passed, the fewest minutes -/
abbrev DP : Type := (Nat → Option Nat) × Nat × Option Nat
def fmU (fm : Option Nat) (v : Nat) : Option Nat := match fm with
  | none => some v
  | some y => if v < y then some v else some y
def dpPass (cnt win st t : Nat) (d : DP) : DP := match (if st = 0 then some t else d.1 (st - 1)) with
  | none => d
  | some x => if t - x ≤ win then (va_up d.1 st (some x), max d.2.1 (st + 1), if st + 1 = cnt then fmU d.2.2 (t - x) else d.2.2) else d
section DPs
variable {cnt win st t x y : Nat} {lat : Nat → Option Nat} {ps : Nat} {fm : Option Nat}
theorem dpP_0 (h : (if st = 0 then some t else lat (st - 1)) = none) : dpPass cnt win st t (lat, ps, fm) = (lat, ps, fm) := by
  unfold dpPass
  simp only [h]
theorem dpP_w (h : (if st = 0 then some t else lat (st - 1)) = some x) (hw : win < t - x) : dpPass cnt win st t (lat, ps, fm) = (lat, ps, fm) := by
  unfold dpPass
  simp only [h]
  exact if_neg (by omega)
theorem dpP_ok (h : (if st = 0 then some t else lat (st - 1)) = some x) (hw : t - x ≤ win) : dpPass cnt win st t (lat, ps, fm) = (va_up lat st (some x), max ps (st + 1), if st + 1 = cnt then fmU fm (t - x) else fm) := by
  unfold dpPass
  simp only [h]
  exact if_pos hw
theorem dpP_n (h : (if st = 0 then some t else lat (st - 1)) = some x) (hw : t - x ≤ win) (hn : st + 1 ≠ cnt) : dpPass cnt win st t (lat, ps, fm) = (va_up lat st (some x), max ps (st + 1), fm) := by
  rw [dpP_ok h hw, if_neg hn]
theorem dpP_l (h : (if st = 0 then some t else lat (st - 1)) = some x) (hw : t - x ≤ win) (hn : st + 1 = cnt) (hf : fm = none) : dpPass cnt win st t (lat, ps, fm) = (va_up lat st (some x), max ps (st + 1), some (t - x)) := by
  rw [dpP_ok h hw, if_pos hn, hf]; rfl
theorem dpP_l2 (h : (if st = 0 then some t else lat (st - 1)) = some x) (hw : t - x ≤ win) (hn : st + 1 = cnt) (hy : y ≤ t - x) : dpPass cnt win st t (lat, ps, some y) = (va_up lat st (some x), max ps (st + 1), some y) := by
  rw [dpP_ok h hw, if_pos hn]
  show (_, _, if t - x < y then some (t - x) else some y) = _
  rw [if_neg (by omega)]
theorem dpP_l3 (h : (if st = 0 then some t else lat (st - 1)) = some x) (hw : t - x ≤ win) (hn : st + 1 = cnt) (hy : t - x < y) : dpPass cnt win st t (lat, ps, some y) = (va_up lat st (some x), max ps (st + 1), some (t - x)) := by
  rw [dpP_ok h hw, if_pos hn]
  show (_, _, if t - x < y then some (t - x) else some y) = _
  rw [if_pos hy]
end DPs
theorem max_nI {a b : Nat} (ha : a < 2 ^ 31) (hb : b < 2 ^ 31) : (if nI a < nI b then nI b else nI a) = nI (max a b) := by
  by_cases h : a < b
  · rw [if_pos ((nI_ltI ha hb).mpr h), Nat.max_eq_right (by omega)]
  · rw [if_neg (fun q => h ((nI_ltI ha hb).mp q)), Nat.max_eq_left (by omega)]
theorem min_nI {a b : Nat} (ha : a < 2 ^ 31) (hb : b < 2 ^ 31) : (if nI b < nI a then nI b else nI a) = nI (min a b) := by
  by_cases h : b < a
  · rw [if_pos ((nI_ltI hb ha).mpr h), Nat.min_eq_right (by omega)]
  · rw [if_neg (fun q => h ((nI_ltI hb ha).mp q)), Nat.min_eq_left (by omega)]
def DPok (t : Nat) (d : DP) : Prop := (∀ k x, d.1 k = some x → x ≤ t) ∧ d.2.1 ≤ 6 ∧ ∀ y, d.2.2 = some y → y ≤ 2000
theorem dpPass_ok {cnt win st t : Nat} {d : DP} (hs : st < 6) (ht : t < 2000) (hd : DPok t d) : DPok t (dpPass cnt win st t d) := by
  obtain ⟨lat, ps, fm⟩ := d
  obtain ⟨h1, h2, h3⟩ := hd
  have ho : ∀ x, (if st = 0 then some t else lat (st - 1)) = some x → x ≤ t := by
    intro x hx
    by_cases h0 : st = 0
    · rw [if_pos h0] at hx
      cases hx
      exact Nat.le_refl _
    · rw [if_neg h0] at hx
      exact h1 _ _ hx
  cases hq : (if st = 0 then some t else lat (st - 1)) with
  | none => rw [dpP_0 hq]; exact ⟨h1, h2, h3⟩
  | some x =>
    by_cases hw : t - x ≤ win
    · rw [dpP_ok hq hw]
      refine ⟨fun k z hz => ?_, ?_, fun y hy => ?_⟩
      · by_cases hk : k = st
        · simp [va_up, hk] at hz
          rw [← hz]
          exact ho x hq
        · simp only [va_up, if_neg hk] at hz
          exact h1 _ _ hz
      · show max ps (st + 1) ≤ 6
        have : ps ≤ 6 := h2
        omega
      · have hy : (if st + 1 = cnt then fmU fm (t - x) else fm) = some y := hy
        by_cases hc : st + 1 = cnt
        · rw [if_pos hc] at hy
          cases fm with
          | none =>
            cases hy
            omega
          | some z =>
            have hz : z ≤ 2000 := h3 z rfl
            simp only [fmU] at hy
            by_cases hv : t - x < z
            · rw [if_pos hv] at hy
              cases hy
              omega
            · rw [if_neg hv] at hy
              cases hy
              exact hz
        · rw [if_neg hc] at hy
          exact h3 y hy
    · rw [dpP_w hq (by omega)]
      exact ⟨h1, h2, h3⟩
def takeL (stp : Nat → Int32) (cnt win : Nat) (k : Int32) (t : Nat) : Nat → DP → DP
  | 0, d => d
  | q + 1, d => takeL stp cnt win k t q (if stp q = k then dpPass cnt win q t d else d)
theorem takeL_y {stp : Nat → Int32} {cnt win : Nat} {k : Int32} {t q : Nat} {d : DP} (h : stp q = k) : takeL stp cnt win k t (q + 1) d = takeL stp cnt win k t q (dpPass cnt win q t d) := by
  show takeL stp cnt win k t q (if stp q = k then dpPass cnt win q t d else d) = _
  rw [if_pos h]
theorem takeL_n {stp : Nat → Int32} {cnt win : Nat} {k : Int32} {t q : Nat} {d : DP} (h : ¬ stp q = k) : takeL stp cnt win k t (q + 1) d = takeL stp cnt win k t q d := by
  show takeL stp cnt win k t q (if stp q = k then dpPass cnt win q t d else d) = _
  rw [if_neg h]
theorem takeL_ok {stp : Nat → Int32} {cnt win : Nat} {k : Int32} {t : Nat} (ht : t < 2000) : ∀ (q : Nat) (d : DP), q ≤ 6 → DPok t d → DPok t (takeL stp cnt win k t q d)
  | 0, d, _, h => h
  | q + 1, d, hq, h => by
    show DPok t (takeL stp cnt win k t q (if stp q = k then dpPass cnt win q t d else d))
    refine takeL_ok ht q _ (by omega) ?_
    by_cases hk : stp q = k
    · rw [if_pos hk]; exact dpPass_ok (by omega) ht h
    · rw [if_neg hk]; exact h
theorem dq_0 {q : Nat} (hq : q < 2 ^ 30) (h : nI q - nI 1 < 0) : q = 0 := by
  rw [Int32.lt_iff_toInt_lt, pk_sub_toInt hq (by decide)] at h
  have : (0 : Int32).toInt = 0 := rfl
  omega
theorem dq_n {q : Nat} (hq : q < 2 ^ 30) (h : ¬ nI q - nI 1 < 0) : 1 ≤ q := by
  rw [Int32.lt_iff_toInt_lt, pk_sub_toInt hq (by decide)] at h
  have : (0 : Int32).toInt = 0 := rfl
  omega
theorem ii_d (q : Nat) : nI q + Int32.ofInt (-1) = nI q - nI 1 := by
  rw [show Int32.ofInt (-1) = - nI 1 from by decide, Int32.sub_eq_add_neg]
def folL (stp : Nat → Int32) (cnt win : Nat) (ka : Nat → Int32) (ta : Nat → Nat) : Nat → DP
  | 0 => (fun _ => none, 0, none)
  | j + 1 => takeL stp cnt win (ka j) (ta j) cnt (folL stp cnt win ka ta j)
theorem DPok.mono {t t' : Nat} {d : DP} (h : DPok t d) (ht : t ≤ t') : DPok t' d := ⟨fun k x hx => Nat.le_trans (h.1 k x hx) ht, h.2⟩
theorem folL_ok {stp : Nat → Int32} {cnt win : Nat} {ka : Nat → Int32} {ta : Nat → Nat} {n : Nat} (hc : cnt ≤ 6) (hta : ∀ k, ta k < 2000) (hso : ∀ i, i + 1 < n → ta i ≤ ta (i + 1)) : ∀ j, j < n → DPok (ta j) (folL stp cnt win ka ta j)
  | 0, _ => ⟨fun k x (h : (none : Option Nat) = some x) => (nomatch h), Nat.zero_le _, fun y (h : (none : Option Nat) = some y) => (nomatch h)⟩
  | j + 1, hj => (takeL_ok (hta j) cnt _ hc (folL_ok hc hta hso j (by omega))).mono (hso j hj)
theorem fill_s {i : Nat} {f : Nat → Int32} {v : Int32} (h : ∀ k, k < i → f k = v) : ∀ k, k < i + 1 → upd f i v k = v := by
  intro k hk
  by_cases hq : k = i
  · rw [hq, pk_us]
  · rw [pk_un hq]
    exact h k (by omega)
theorem P_cong {D : va_G} {cl : List vw_C} {ws : va_W} {H : Heap} (hP : va_P D cl ws H) (i : Nat) {a : Nat} {cA : ClassId} {n : Nat} {f g : Nat → Int32} (ha : ws[i]? = some (a, .inl (cA, n, .inl f))) (h : ∀ k, k < n → f k = g k) : va_P D cl (ws.set i (a, .inl (cA, n, .inl g))) H := by
  intro k q hk
  have hl := (List.getElem?_eq_some_iff.mp ha).1
  by_cases hki : k = i
  · subst hki
    rw [List.getElem?_set_self hl] at hk
    cases hk
    exact at_cong h (hP k _ ha)
  · rw [List.getElem?_set_ne (Ne.symm hki)] at hk
    exact hP k q hk
/-! the JDK's count of bits -/
def ush (x : Int32) (n : Nat) : Int32 := (x.toUInt32 >>> ((nI n).toUInt32 &&& Int32.toUInt32 31)).toInt32
def bc1 (x : Int32) : Int32 := x - (ush x 1 &&& 1431655765)
def bc2 (x : Int32) : Int32 := (x &&& 858993459) + (ush x 2 &&& 858993459)
def bc3 (x : Int32) : Int32 := (x + ush x 4) &&& 252645135
def bc4 (x : Int32) : Int32 := x + ush x 8
def bc5 (x : Int32) : Int32 := x + ush x 16
def bcJ (x : Int32) : Int32 := bc5 (bc4 (bc3 (bc2 (bc1 x)))) &&& nI 63
