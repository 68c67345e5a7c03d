/-! Ints that are a small natural or -1; answers that are a cell known before; cells told by what they hold in range. -/
def oI (o : Option Nat) : Int32 := match o with | none => -1 | some x => nI x
def oF (f : Nat → Option Nat) : Nat → Int32 := fun k => oI (f k)
theorem nI_nm1 {x : Nat} (h : x < 2 ^ 31) : nI x ≠ -1 := fun q => by
  have h1 := nI_pos (n := x) h
  rw [q] at h1
  exact h1 (by decide)
theorem oI_m1 {o : Option Nat} (h : ∀ x, o = some x → x < 2 ^ 31) : oI o = -1 ↔ o = none := by
  cases o with
  | none => exact ⟨fun _ => rfl, fun _ => rfl⟩
  | some x => exact ⟨fun q => absurd q (nI_nm1 (h x rfl)), fun q => by cases q⟩
theorem oF_upd (g : Nat → Option Nat) {j : Nat} {v : Option Nat} (h : j < 2 ^ 31) : upd (oF g) (nI j).toNatClampNeg (oI v) = oF (va_up g j v) := by
  rw [nI_clamp h]
  funext q
  by_cases hq : q = j
  · subst hq
    rw [pk_us]
    simp [oF, va_up]
  · rw [pk_un hq]
    simp [oF, va_up, hq]
/-- a comparison of a difference -/
theorem sub_le {a b g : Nat} (ha : a < 2 ^ 30) (hb : b < 2 ^ 30) (hg : g < 2 ^ 30) : nI a - nI b ≤ nI g ↔ a ≤ b + g := by
  rw [Int32.le_iff_toInt_le, pk_sub_toInt ha hb, nI_toInt (by omega)]
  omega
theorem cell_cong {cA : ClassId} {n : Nat} {f g : Nat → Int32} (h : ∀ k, k < n → f k = g k) : vp_cell cA (n, .inl f) = vp_cell cA (n, .inl g) := by
  rw [vp_cell_i, vp_cell_i]
  unfold arrV
  congr 1
  apply Array.ext
  · simp
  · intro i h1 h2
    simp only [Array.size_ofFn] at h1
    simp [h i (by simpa using h1)]
theorem at_cong {D : va_G} {cl : List vw_C} {a : Nat} {cA : ClassId} {n : Nat} {f g : Nat → Int32} {H : Heap} (h : ∀ k, k < n → f k = g k) (hc : va_at D cl (a, .inl (cA, n, .inl f)) H) : va_at D cl (a, .inl (cA, n, .inl g)) H := by
  show H[a]? = some (vp_cell cA (n, .inl g))
  rw [← cell_cong h]
  exact hc
section FW
variable {p : Program} {l : Launch} {e : Env} {R : Room} {s : State} {m : MethodId} {args : Array Value} {below : List Frame} {meth : Method} {c : Code} {H : Heap} {locs : List Loc} {cells slots : Nat} {Q : State → Prop}
variable {cc : ByteArray} {pc : Nat} {ls : Array Slot} {rest st0 : List Value} {D : va_G} {cl : List vw_C} {A A0 : Nat → Prop} {a : Nat} {av : Array Value} {tys : List (ClassId × FieldType)} {ws : va_W} {H0 : Heap} {mc ms : Nat}
theorem f_aldo (hx : p.tables.exec = Jvm.exec) (hb : c.code = cc) (hK : va_K D cl tys s) (hP : va_P D cl ws H) (q0 t0 : Nat) {cA : ClassId} {n : Nat} {f : Nat → Option Nat} {j : Nat} (ha : ws[q0]? = some (a, .inl (cA, n, .inl (oF f)))) (ht : tys[t0]? = some (cA, .int)) (hj : j < n) (hn : n < 2 ^ 31) (hdg : decode cc pc = .ok (.iaload, 1))
    (kk : W p l e R s m args below meth c H locs cells slots Q (F0 m (pc + 1) ls (.int (oI (f j)) :: rest))) : W p l e R s m args below meth c H locs cells slots Q (F0 m pc ls (.int (nI j) :: .ref a :: rest)) :=
  va_iald hx hb hK hP q0 t0 ha ht (vp_in_nI hj hn) hdg (by rw [nI_clamp (by omega)]; exact kk)
theorem f_asto (hx : p.tables.exec = Jvm.exec) (hb : c.code = cc) (hK : va_K D cl tys s) (hP : va_P D cl ws H) (hD : va_D A ws) (hS : va_S A H0 H locs) (q0 t0 : Nat) {cA : ClassId} {n : Nat} {f : Nat → Option Nat} {j : Nat} {v : Option Nat} (ha : ws[q0]? = some (a, .inl (cA, n, .inl (oF f)))) (ht : tys[t0]? = some (cA, .int)) (hj : j < n) (hn : n < 2 ^ 31) (hdg : decode cc pc = .ok (.iastore, 1))
    (kk : ∀ (H1 : Heap) (locs1 : List Loc), va_P D cl (ws.set q0 (a, .inl (cA, n, .inl (oF (va_up f j v))))) H1 → va_D A (ws.set q0 (a, .inl (cA, n, .inl (oF (va_up f j v))))) → va_S A H0 H1 locs1 → W p l e R s m args below meth c H1 locs1 cells slots Q (F0 m (pc + 1) ls rest)) : W p l e R s m args below meth c H locs cells slots Q (F0 m pc ls (.int (oI v) :: .int (nI j) :: .ref a :: rest)) :=
  va_iast hx hb hK hP hD hS q0 t0 ha ht (vp_in_nI hj hn) hdg (by rw [oF_upd f (by omega)]; exact kk)
theorem f_oeq (hx : p.tables.exec = Jvm.exec) (hb : c.code = cc) {o : Option Nat} (h1 : ∀ x, o = some x → x < 2 ^ 31) {off : Int} {tgt : Nat} (hdg : decode cc pc = .ok (.if_icmp .eq off, 3)) (ht : (pc : Int) + off = (tgt : Int))
    (kt : o = none → W p l e R s m args below meth c H locs cells slots Q (F0 m tgt ls rest)) (kf : ∀ x, o = some x → W p l e R s m args below meth c H locs cells slots Q (F0 m (pc + 3) ls rest)) : W p l e R s m args below meth c H locs cells slots Q (F0 m pc ls (.int (-1) :: .int (oI o) :: rest)) :=
  lv_icmp_eq hx hb hdg ht (fun h => kt ((oI_m1 h1).mp h)) (fun h => by
    cases o with
    | none => exact absurd rfl h
    | some x => exact kf x rfl)
theorem f_one (hx : p.tables.exec = Jvm.exec) (hb : c.code = cc) {o : Option Nat} (h1 : ∀ x, o = some x → x < 2 ^ 31) {off : Int} {tgt : Nat} (hdg : decode cc pc = .ok (.if_icmp .ne off, 3)) (ht : (pc : Int) + off = (tgt : Int))
    (kt : ∀ x, o = some x → W p l e R s m args below meth c H locs cells slots Q (F0 m tgt ls rest)) (kf : o = none → W p l e R s m args below meth c H locs cells slots Q (F0 m (pc + 3) ls rest)) : W p l e R s m args below meth c H locs cells slots Q (F0 m pc ls (.int (-1) :: .int (oI o) :: rest)) :=
  lv_icmp_ne hx hb hdg ht (fun h => by
    cases o with
    | none => exact absurd rfl h
    | some x => exact kt x rfl) (fun h => kf ((oI_m1 h1).mp h))
abbrev muQa {S : Type} (D : va_G) (q : Nat) (post : S → Prop) (w1 : S → va_W) (A : Nat → Prop) : Array Value → State → Outcome → State → Prop := va_Qr post (fun u a t => a = q ∧ muB D A w1 u t) A
theorem muCa {S : Type} {q : Nat} {post : S → Prop} {wc wr : va_W} {w1 wB : S → va_W} (hr : va_Run p l e R s m args below meth c H locs cells slots mc ms (F0 m pc ls st0) rest (muQa D q post w1 (va_A wc H.size) av) (va_A wc H.size)) (hP : va_P D vwCl ws H) (hD : va_D A0 ws) (hS : va_S A0 H0 H locs) (hA : ∀ q, H0.size ≤ q → A0 q)
    (isC isR isB : List Nat) (hC : isC.map (fun i => ws[i]?) = wc.map some) (hR : isR.map (fun i => ws[i]?) = wr.map some) (hn : va_nd isR = true) (hdis : ∀ i ∈ isR, i ∉ isC) (hnB : va_nd isB = true) (hB : ∀ u, isB.map (fun i => (wr ++ w1 u)[i]?) = (wB u).map some)
    (kk : ∀ (u : S) (H1 : Heap) (locs1 : List Loc), post u → va_P D vwCl (wB u) H1 → va_D A0 (wB u) → va_S A0 H0 H1 locs1 → W p l e R s m args below meth c H1 locs1 (cells + mc) (slots + ms) Q (F0 m (pc + 3) ls (.ref q :: rest))) : W p l e R s m args below meth c H locs cells slots Q (F0 m pc ls st0) := by
  have hF := va_free hD hS hA isC hC
  refine va_callr hr hS (fun q _ h => hF q h) hF (fun u ra t H1 locs1 ht hvm hw hB1 hz1 hk1 hS1 => ?_)
  obtain ⟨rfl, hP1, hD1⟩ := hB1
  rw [ht] at hP1
  obtain ⟨hP2, hD2⟩ := joinB hP hD hF isC isR isB hC hR hn hdis hnB hB hk1 hP1 hD1
  exact kk u H1 locs1 hw hP2 hD2 hS1
theorem muRa {S : Type} {q : Nat} {rt : FieldType} {post : S → Prop} {w1 : S → va_W} (hx : p.tables.exec = Jvm.exec) (hb : c.code = cc) (hr : meth.sig.returnType = some rt) (hlocks : meth.locks = false) (hrt : ∃ n, rt = .object n) (u : S) (he : post u) (hP : va_P D vwCl (w1 u) H) (hD : va_D A (w1 u)) (hS : va_S A s.heap H locs) (hdg : decode cc pc = .ok (.areturn, 1)) : W p l e R s m args below meth c H locs cells slots (MQ below (muQa D q post w1 A) args s cells slots A) (F0 m pc ls [.ref q]) :=
  W.aret hx hb hr (Or.inl hrt) (Or.inr ⟨q, rfl⟩) (fun t ht hW => ⟨⟨u, q, rfl, he, rfl, by rw [ht]; exact hP, hD⟩, hS.F ht⟩) hS.2.2 hdg hlocks
end FW
