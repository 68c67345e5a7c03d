/-! Pure words for the state and the answers. -/
theorem bT {r : Bool} (h : r = true) : nI 1 = bI r := by rw [h]; rfl
theorem bF {r : Bool} (h : r = false) : nI 0 = bI r := by rw [h]; rfl
theorem up_lt {f : Nat → Nat} {M j v : Nat} (h : ∀ k, f k < M) (hv : v < M) : ∀ k, va_up f j v k < M := by
  intro k
  by_cases hk : k = j
  · simp [va_up, hk, hv]
  · simp [va_up, hk, h k]
/-- the row of event numbers behind the insertion of number num with time t, from place p down -/
def insO (tm : Nat → Nat) (t num : Nat) : Nat → (Nat → Nat) → (Nat → Nat)
  | 0, o => va_up o 0 num
  | p + 1, o => if t < tm (o p) then insO tm t num p (va_up o (p + 1) (o p)) else va_up o (p + 1) num
theorem insO_s {tm : Nat → Nat} {t num p : Nat} {o : Nat → Nat} (h : t < tm (o p)) : insO tm t num (p + 1) o = insO tm t num p (va_up o (p + 1) (o p)) := if_pos h
theorem insO_e {tm : Nat → Nat} {t num p : Nat} {o : Nat → Nat} (h : tm (o p) ≤ t) : insO tm t num (p + 1) o = va_up o (p + 1) num := if_neg (Nat.not_lt.mpr h)
