/-! How many bits a word of at most 20 bits has, as the JDK counts them. -/
theorem bt_nI (a i : Nat) : bt (nI a) i = (decide (i < 32) && a.testBit i) := by
  unfold bt
  show (BitVec.ofNat 32 a).getLsbD i = _
  rw [BitVec.getLsbD_ofNat]
theorem ush_nI {a k p : Nat} (hk : k < 32) (ha : a < 2 ^ 31) (hp : 2 ^ k = p) : ush (nI a) k = nI (a / p) := by
  subst hp
  refine b_ext (fun i hi => ?_)
  unfold ush
  rw [b_ushr k hk, bt_nI, bt_nI, Nat.testBit_div_two_pow]
  by_cases h : k + i < 32
  · simp [h, hi, Nat.add_comm]
  · have : a.testBit (i + k) = false := Nat.testBit_lt_two_pow (Nat.lt_of_lt_of_le ha (Nat.pow_le_pow_right (by omega) (by omega)))
    simp [h, this]
theorem andI (a b : Nat) : nI a &&& nI b = nI (a &&& b) := nx_and a b
def P1 (M x : Nat) : Nat := x - ((x / 2) &&& M)
def P2 (M x : Nat) : Nat := (x &&& M) + ((x / 4) &&& M)
def P3 (M x : Nat) : Nat := (x + x / 16) &&& M
theorem tb256 {b y : Nat} (hb : b < 256) (i : Nat) : (b + 256 * y).testBit i = if i < 8 then b.testBit i else y.testBit (i - 8) := by
  rw [Nat.add_comm]
  exact Nat.testBit_two_pow_mul_add y (i := 8) hb i
theorem and256 {b y m M : Nat} (hb : b < 256) (hm : m < 256) : (b + 256 * y) &&& (m + 256 * M) = (b &&& m) + 256 * (y &&& M) := by
  refine Nat.eq_of_testBit_eq (fun i => ?_)
  have h : b &&& m < 256 := Nat.lt_of_le_of_lt Nat.and_le_left hb
  rw [Nat.testBit_and, tb256 hb, tb256 hm, tb256 h]
  split
  · rw [Nat.testBit_and]
  · rw [Nat.testBit_and]
theorem d1 : ∀ b, b < 256 → ∀ c, c < 2 → (b / 2 + 128 * c) &&& 85 = (b / 2) &&& 85 := by decide +kernel
theorem d2 : ∀ b, b < 256 → ∀ c, c < 4 → (b / 4 + 64 * c) &&& 51 = (b / 4) &&& 51 := by decide +kernel
theorem d3 : ∀ b, b < 69 → ∀ c, c < 5 → (b + b / 16 + 16 * c) &&& 15 = (b + b / 16) &&& 15 := by decide +kernel
theorem d4 : ∀ b, b < 256 → P1 85 b < 256 ∧ P2 51 (P1 85 b) < 69 ∧ P2 51 (P1 85 b) % 16 < 5 ∧ P3 15 (P2 51 (P1 85 b)) = fb_ct b.testBit 8 := by decide +kernel
theorem P1_s {b y M : Nat} (hb : b < 256) : P1 (85 + 256 * M) (b + 256 * y) = P1 85 b + 256 * P1 M y := by
  unfold P1
  rw [show (b + 256 * y) / 2 = (b / 2 + 128 * (y % 2)) + 256 * (y / 2) by omega, and256 (by omega) (by omega), d1 b hb _ (Nat.mod_lt _ (by omega))]
  have h1 : (b / 2) &&& 85 ≤ b / 2 := Nat.and_le_left
  have h2 : (y / 2) &&& M ≤ y / 2 := Nat.and_le_left
  omega
theorem P2_s {b y M : Nat} (hb : b < 256) : P2 (51 + 256 * M) (b + 256 * y) = P2 51 b + 256 * P2 M y := by
  unfold P2
  rw [show (b + 256 * y) / 4 = (b / 4 + 64 * (y % 4)) + 256 * (y / 4) by omega, and256 (by omega) (by omega), and256 (by omega) (by omega), d2 b hb _ (Nat.mod_lt _ (by omega))]
  omega
theorem P3_s {b y M : Nat} (hb : b < 69) (hy : y % 16 < 5) : P3 (15 + 256 * M) (b + 256 * y) = P3 15 b + 256 * P3 M y := by
  unfold P3
  rw [show b + 256 * y + (b + 256 * y) / 16 = (b + b / 16 + 16 * (y % 16)) + 256 * (y + y / 16) by omega, and256 (by omega) (by omega), d3 b hb _ hy]
theorem d5 : ∀ b, b < 16 → P1 21845 b = P1 85 b ∧ P2 13107 (P1 85 b) = P2 51 (P1 85 b) ∧ P3 3855 (P2 51 (P1 85 b)) = P3 15 (P2 51 (P1 85 b)) := by decide +kernel
theorem P123 {b0 b1 b2 K1 K2 K3 L1 L2 L3 : Nat} (h0 : b0 < 256) (h1 : b1 < 256) (h2 : b2 < 16) (k1 : 85 + 256 * L1 = K1) (k2 : 51 + 256 * L2 = K2) (k3 : 15 + 256 * L3 = K3) (j1 : 85 + 256 * 21845 = L1) (j2 : 51 + 256 * 13107 = L2) (j3 : 15 + 256 * 3855 = L3) : P3 K3 (P2 K2 (P1 K1 (b0 + 256 * (b1 + 256 * b2)))) = fb_ct b0.testBit 8 + 256 * (fb_ct b1.testBit 8 + 256 * fb_ct b2.testBit 8) := by
  have e0 := d4 b0 h0
  have e1 := d4 b1 h1
  have e2 := d4 b2 (by omega)
  have e3 := d5 b2 h2
  rw [← k1, P1_s (M := L1) (b := b0) (y := b1 + 256 * b2) h0, ← j1, P1_s (M := 21845) (b := b1) (y := b2) h1, e3.1, ← k2, P2_s (M := L2) (b := P1 85 b0) (y := P1 85 b1 + 256 * P1 85 b2) e0.1, ← j2, P2_s (M := 13107) (b := P1 85 b1) (y := P1 85 b2) e1.1, e3.2.1,
    ← k3, P3_s (M := L3) (b := P2 51 (P1 85 b0)) (y := P2 51 (P1 85 b1) + 256 * P2 51 (P1 85 b2)) e0.2.1 (by omega), ← j3, P3_s (M := 3855) (b := P2 51 (P1 85 b1)) (y := P2 51 (P1 85 b2)) e1.2.1 e2.2.2.1, e3.2.2, e0.2.2.2, e1.2.2.2, e2.2.2.2]
theorem ct20 {a : Nat} (ha : a < 2 ^ 20) : fb_ct a.testBit 20 = fb_ct (a % 256).testBit 8 + (fb_ct (a / 256 % 256).testBit 8 + fb_ct (a / 65536).testBit 8) := by
  have ea : a = a % 256 + 256 * (a / 256) := by omega
  have eb : a / 256 = a / 256 % 256 + 256 * (a / 65536) := by omega
  have h1 : fb_ct a.testBit (8 + 12) = _ := fb_ct_split a.testBit 8 12
  have h2 : fb_ct (a / 256).testBit (8 + 4) = _ := fb_ct_split (a / 256).testBit 8 4
  have h3 : ∀ b, b < 16 → fb_ct b.testBit 4 = fb_ct b.testBit 8 := by decide +kernel
  have c1 : fb_ct a.testBit 8 = fb_ct (a % 256).testBit 8 := fb_ct_cong (fun k hk => by
    conv => lhs; rw [ea]
    exact (tb256 (by omega) k).trans (if_pos hk))
  have c2 : fb_ct (fun k => a.testBit (8 + k)) 12 = fb_ct (a / 256).testBit 12 := fb_ct_cong (fun k hk => by
    show a.testBit (8 + k) = _
    conv => lhs; rw [ea]
    rw [tb256 (by omega), if_neg (by omega), show 8 + k - 8 = k by omega])
  have c3 : fb_ct (a / 256).testBit 8 = fb_ct (a / 256 % 256).testBit 8 := fb_ct_cong (fun k hk => by
    conv => lhs; rw [eb]
    exact (tb256 (by omega) k).trans (if_pos hk))
  have c4 : fb_ct (fun k => (a / 256).testBit (8 + k)) 4 = fb_ct (a / 65536).testBit 4 := fb_ct_cong (fun k hk => by
    show (a / 256).testBit (8 + k) = _
    conv => lhs; rw [eb]
    rw [tb256 (by omega), if_neg (by omega), show 8 + k - 8 = k by omega])
  rw [c1, c2] at h1
  rw [c3, c4, h3 (a / 65536) (by omega)] at h2
  rw [show (20 : Nat) = 8 + 12 from rfl, h1, ← h2]
theorem bc1_e {a : Nat} (ha : a < 2 ^ 20) : bc1 (nI a) = nI (P1 1431655765 a) := by
  unfold bc1 P1
  rw [ush_nI (p := 2) (by omega) (by omega) rfl, show (1431655765 : Int32) = nI 1431655765 from by decide +kernel, andI, pk_sub (Nat.le_trans Nat.and_le_left (Nat.div_le_self _ _))]
theorem bc2_e {a : Nat} (ha : a < 2 ^ 20) : bc2 (nI a) = nI (P2 858993459 a) := by
  unfold bc2 P2
  rw [ush_nI (p := 4) (by omega) (by omega) rfl, show (858993459 : Int32) = nI 858993459 from by decide +kernel, andI, andI, nI_add]
theorem bc3_e {a : Nat} (ha : a < 2 ^ 31) : bc3 (nI a) = nI (P3 252645135 a) := by
  unfold bc3 P3
  rw [ush_nI (p := 16) (by omega) ha rfl, nI_add, show (252645135 : Int32) = nI 252645135 from by decide +kernel, andI]
theorem bc45_e {x y z : Nat} (hx : x ≤ 8) (hy : y ≤ 8) (hz : z ≤ 8) : bc5 (bc4 (nI (x + 256 * (y + 256 * z)))) &&& nI 63 = nI (x + (y + z)) := by
  unfold bc4 bc5
  rw [ush_nI (p := 256) (by omega) (by omega) rfl, nI_add, ush_nI (p := 65536) (by omega) (by omega) rfl, nI_add, andI]
  have e : x + 256 * (y + 256 * z) + (x + 256 * (y + 256 * z)) / 256 + (x + 256 * (y + 256 * z) + (x + 256 * (y + 256 * z)) / 256) / 65536 = (x + (y + z)) + 64 * (4 * (y + z) + 1024 * z) := by omega
  rw [e]
  have hm := Nat.and_two_pow_sub_one_eq_mod ((x + (y + z)) + 64 * (4 * (y + z) + 1024 * z)) 6
  have h2 : ((x + (y + z)) + 64 * (4 * (y + z) + 1024 * z)) &&& 63 = x + (y + z) := hm.trans (by omega)
  rw [h2]
theorem bcJ_nI {a : Nat} (ha : a < 2 ^ 20) : bcJ (nI a) = nI (fb_ct a.testBit 20) := by
  have l1 : P1 1431655765 a < 2 ^ 20 := Nat.lt_of_le_of_lt (Nat.sub_le _ _) ha
  have l2 : P2 858993459 (P1 1431655765 a) < 2 ^ 31 := by
    have q1 : (P1 1431655765 a) &&& 858993459 ≤ 858993459 := Nat.and_le_right
    have q2 : (P1 1431655765 a / 4) &&& 858993459 ≤ 858993459 := Nat.and_le_right
    exact Nat.lt_of_le_of_lt (Nat.add_le_add q1 q2) (by decide)
  have hp := P123 (b0 := a % 256) (b1 := a / 256 % 256) (b2 := a / 65536) (K1 := 1431655765) (K2 := 858993459) (K3 := 252645135) (L1 := 5592405) (L2 := 3355443) (L3 := 986895) (by omega) (by omega) (by omega) (by decide) (by decide) (by decide) (by decide) (by decide) (by decide)
  rw [show a % 256 + 256 * (a / 256 % 256 + 256 * (a / 65536)) = a by omega] at hp
  unfold bcJ
  rw [bc1_e ha, bc2_e l1, bc3_e l2, hp, ct20 ha]
  exact bc45_e (fb_ct_le _ _) (fb_ct_le _ _) (fb_ct_le _ _)
