/-! p31: starts of the law's own methods, branches by an option's sign, the law's row of numbers, what holds of users and events -/
/-- which thrown classes are no others -/
def nC (U : State) : Prop := va_Nc "java/lang/IllegalStateException" "java/lang/IllegalArgumentException" U ∧ va_Nc "java/lang/IndexOutOfBoundsException" "java/lang/IllegalArgumentException" U
theorem nC.moved {u U : State} (hvm : u.vm.Alike U.vm) (h : nC u) : nC U := ⟨h.1.moved hvm, h.2.moved hvm⟩
abbrev whP (D : va_G) (tys : List (ClassId × FieldType)) (av : List Value) (ws : va_W) (sz : Nat) : Array Value → State → Prop := va_Pc av (fun U => U.heap.size = sz ∧ va_P D vwCl ws U.heap ∧ va_K D vwCl tys U ∧ zS U ∧ va_D (fun _ => True) ws ∧ xT (va_A ws sz) U U.heap ∧ nC U)
theorem whBl {D : va_G} {tys : List (ClassId × FieldType)} {av : List Value} {ws : va_W} {sz : Nat} : FrameBlind (whP D tys av ws sz) := fun a U g mk q => ⟨q.1, q.2.1, q.2.2.1, va_K.moved (u := U) (U := U.calling g mk a) (Vm.Alike.refl U.vm) q.2.2.2.1, zS.same (u := U) (U := U.calling g mk a) rfl q.2.2.2.2.1, q.2.2.2.2.2.1, q.2.2.2.2.2.2.1.blind, nC.moved (u := U) (U := U.calling g mk a) (Vm.Alike.refl U.vm) q.2.2.2.2.2.2.2⟩
section
variable {s : State} {H H0 : Heap} {D : va_G} {tys tyB : List (ClassId × FieldType)} {As : List Value} {ws wc : va_W} {A : Nat → Prop} {locs : List Loc}
theorem whS (hK : va_K D vwCl tyB s) (hZ : zS s) (hX : xT A s s.heap) (hN : nC s) (hS : va_S A s.heap H locs) (hA : ∀ q, s.heap.size ≤ q → A q) (isT : List Nat) (hT : isT.filterMap (fun i => tyB[i]?) = tys) (hP : va_P D vwCl ws H) (hD : va_D A ws) (isC : List Nat) (hn : va_nd isC = true) (hC : isC.map (fun i => ws[i]?) = wc.map some) : PreS s H (whP D tys As wc H.size) As :=
  ⟨whBl, fun U hU hW => ⟨rfl, by rw [hU], by rw [hU]; exact hP.sub isC (fm_of hC), va_K.moved hW.alike (hK.sub isT hT), hZ.warm hW, (hD.sub isC hn hC).weaken (fun _ _ _ _ => trivial), hX.go hS (va_free hD hS hA isC hC) hU hW, hN.moved hW.alike⟩⟩
end
section
variable {l : Launch} {y : MethodName} {wm ws' : List Cond} {rm : Room} {cc : ByteArray} {maxL : Nat} {ret : Option FieldType} {hh : List (Nat × Nat × Nat × Nat)} {D : va_G} {tys : List (ClassId × FieldType)} {av : List Value} {ws : va_W} {sz mc ms : Nat}
theorem whOf {Qc : (Nat → Prop) → Array Value → State → Outcome → State → Prop} (hy : plainName y.cls = true) (hw : wm = Cond.codeWith y cc maxL ret hh :: ws') (hL : (lg_sl av).length ≤ maxL)
    (body : ∀ p e s m below meth c ls A, p.tables.exec = Jvm.exec → c.code = cc → c.maxLocals = maxL → s.vm.findClass y.cls = some m.cls → (∀ w ∈ wm, w.before av.toArray s = true) → meth.sig.returnType = ret → meth.locks = false → c.exceptionTable.toList = tableOf hh → va_P D vwCl ws s.heap → va_K D vwCl tys s → zS s → nC s → va_D A ws → (∀ q : Nat, s.heap.size ≤ q → A q) → va_S A s.heap s.heap [] → xT A s s.heap → lv_has ls maxL (lv_args 0 av) →
      W p l e rm s m av.toArray below meth c s.heap [] 0 0 (MQ below (Qc A) av.toArray s mc ms A) (F0 m 0 ls [])) : Met l y wm rm (whP D tys av ws sz) (Qc (va_A ws sz)) mc ms (va_A ws sz) := by
  refine MetFree.of_bodyS (code := cc) (maxLocals := maxL) (ret := ret) hy ?_ ?_
  · intro args s m h hn
    obtain ⟨m9, meth, c, hn9, h1, h2, h3, h4, -, h5, h6, -⟩ := Cond.codeWith_spec (atoms_spec (ws := wm) h _ (by rw [hw]; exact List.mem_cons_self))
    cases hn.symm.trans hn9
    exact ⟨meth, c, h1, h2, h3, h4, h5, h6⟩
  · intro p e s m args below meth c s₁ B hml hP _
    have hh0 : s₁.heap = s.heap := by rw [B.state]; rfl
    have htab := vx_table (x := y) B (atoms_spec (ws := wm) B.pre _ (by rw [hw]; exact List.mem_cons_self))
    obtain ⟨rfl, hsz, hP, hK, hZ, hD0, hX, hN⟩ := hP
    subst hsz
    have hl := lv_entry av (n := maxL) hL
    have k := body p e s m below meth c _ (va_A ws s.heap.size) B.exec B.bytes hml (findClass_of_methodNamed B.named) (atoms_spec (ws := wm) B.pre) B.returns B.notSynchronized htab hP hK hZ hN hD0.self (fun q h => Or.inr h) va_S.rf hX hl
    rw [← lg_entry_eq] at k
    obtain ⟨t, a1, o, b1, b2, b3⟩ := k s₁ hh0 (Stand.of_body B)
    exact ⟨t, o, a1, b1, b2, b3⟩
end
section
variable {p : Program} {l : Launch} {e : Env} {R : Room} {s : State} {m : MethodId} {args : Array Value} {below : List Frame} {meth : Method} {c : Code} {H : Heap} {locs : List Loc} {cells slots : Nat} {Q : State → Prop}
variable {cc : ByteArray} {pc : Nat} {ls : Array Slot} {rest : List Value}
theorem f_mul (hx : p.tables.exec = Jvm.exec) (hb : c.code = cc) {x y : Nat} (hdg : decode cc pc = .ok (.imul, 1)) (k : W p l e R s m args below meth c H locs cells slots Q (F0 m (pc + 1) ls (.int (nI (x * y)) :: rest))) : W p l e R s m args below meth c H locs cells slots Q (F0 m pc ls (.int (nI y) :: .int (nI x) :: rest)) :=
  lv_imul hx hb hdg (by rw [pk_mul]; exact k)
theorem f_olt (hx : p.tables.exec = Jvm.exec) (hb : c.code = cc) {o : Option Nat} (h1 : ∀ x, o = some x → x < 2 ^ 31) {off : Int} {tgt : Nat} (hdg : decode cc pc = .ok (.ifCond .lt off, 3)) (ht : (pc : Int) + off = (tgt : Int))
    (kt : o = none → W p l e R s m args below meth c H locs cells slots Q (F0 m tgt ls rest)) (kf : ∀ x, o = some x → W p l e R s m args below meth c H locs cells slots Q (F0 m (pc + 3) ls rest)) : W p l e R s m args below meth c H locs cells slots Q (F0 m pc ls (.int (oI o) :: rest)) :=
  lv_if_lt hx hb hdg ht (fun h => by
    cases o with
    | none => exact kt rfl
    | some x => exact absurd h (nI_pos (h1 x rfl))) (fun h => by
    cases o with
    | none => exact absurd (show (-1 : Int32) < 0 by decide) h
    | some x => exact kf x rfl)
theorem f_oge (hx : p.tables.exec = Jvm.exec) (hb : c.code = cc) {o : Option Nat} (h1 : ∀ x, o = some x → x < 2 ^ 31) {off : Int} {tgt : Nat} (hdg : decode cc pc = .ok (.ifCond .ge off, 3)) (ht : (pc : Int) + off = (tgt : Int))
    (kt : ∀ x, o = some x → W p l e R s m args below meth c H locs cells slots Q (F0 m tgt ls rest)) (kf : o = none → W p l e R s m args below meth c H locs cells slots Q (F0 m (pc + 3) ls rest)) : W p l e R s m args below meth c H locs cells slots Q (F0 m pc ls (.int (oI o) :: rest)) :=
  lv_if_ge hx hb hdg ht (fun h => by
    cases o with
    | none => exact absurd h (show ¬ (0 : Int32) ≤ -1 by decide)
    | some x => exact kt x rfl) (fun h => by
    cases o with
    | none => exact kf rfl
    | some x => exact absurd (nI_pos' (h1 x rfl)) h)
end
section
variable {l : Launch} {y : MethodName} {wm ws' : List Cond} {rm : Room} {cc : ByteArray} {maxL : Nat} {ret : Option FieldType} {D : va_G} {tys : List (ClassId × FieldType)} {av : List Value} {ws : va_W} {sz mc ms : Nat}
theorem whOfC {Qc : (Nat → Prop) → Array Value → State → Outcome → State → Prop} (hy : plainName y.cls = true) (hw : wm = Cond.code y cc maxL ret :: ws') (hL : (lg_sl av).length ≤ maxL)
    (body : ∀ p e s m below meth c ls A, p.tables.exec = Jvm.exec → c.code = cc → c.maxLocals = maxL → s.vm.findClass y.cls = some m.cls → (∀ w ∈ wm, w.before av.toArray s = true) → meth.sig.returnType = ret → meth.locks = false → va_P D vwCl ws s.heap → va_K D vwCl tys s → zS s → nC s → va_D A ws → (∀ q : Nat, s.heap.size ≤ q → A q) → va_S A s.heap s.heap [] → xT A s s.heap → lv_has ls maxL (lv_args 0 av) →
      W p l e rm s m av.toArray below meth c s.heap [] 0 0 (MQ below (Qc A) av.toArray s mc ms A) (F0 m 0 ls [])) : Met l y wm rm (whP D tys av ws sz) (Qc (va_A ws sz)) mc ms (va_A ws sz) := by
  refine Met.ofW (cc := cc) (maxL := maxL) (ret := ret) hy hw ?_
  intro p e s m args below meth c s₁ B hml hv
  obtain ⟨rfl, hsz, hP, hK, hZ, hD0, hX, hN⟩ := hv
  subst hsz
  have hl := lv_entry av (n := maxL) hL
  rw [lg_entry_eq]
  exact body p e s m below meth c _ (va_A ws s.heap.size) B.exec B.bytes hml (findClass_of_methodNamed B.named) (atoms_spec (ws := wm) B.pre) B.returns B.notSynchronized hP hK hZ hN hD0.self (fun q h => Or.inr h) va_S.rf hX hl
end
/-- the law's row of numbers: events, gap, window, steps, closed days -/
def cF (n gp win cnt cl : Nat) : Nat → Nat := fun k => if k = 0 then n else if k = 1 then gp else if k = 2 then win else if k = 3 then cnt else if k = 4 then cl else 0
section
variable {n gp win cnt cl v : Nat}
theorem cF_0 : va_up (cF n gp win cnt cl) 0 v = cF v gp win cnt cl := by
  funext k
  by_cases h : k = 0 <;> simp [cF, va_up, h]
theorem cF_1 : va_up (cF n gp win cnt cl) 1 v = cF n v win cnt cl := by
  funext k
  by_cases h : k = 1 <;> simp [cF, va_up, h]
theorem cF_2 : va_up (cF n gp win cnt cl) 2 v = cF n gp v cnt cl := by
  funext k
  by_cases h : k = 2 <;> simp [cF, va_up, h]
theorem cF_3 : va_up (cF n gp win cnt cl) 3 v = cF n gp win v cl := by
  funext k
  by_cases h : k = 3 <;> simp [cF, va_up, h]
theorem cF_4 : va_up (cF n gp win cnt cl) 4 v = cF n gp win cnt v := by
  funext k
  by_cases h : k = 4 <;> simp [cF, va_up, h]
/-- what holds of users and events, as the law goes on -/
def Lw (us ids tms ord : Nat → Nat) (n : Nat) : Prop := Inv us ids tms ord n ∧ Ties tms ord n ∧ n ≤ 64 ∧ (∀ k, ids k < 8) ∧ (∀ k, 8 ≤ k → k < 20 → us k = k) ∧ ∀ k, k < 8 → us k < 8
end
section
variable {us ids tms ord : Nat → Nat} {n : Nat}
theorem Lw.inv (h : Lw us ids tms ord n) : Inv us ids tms ord n := h.1
theorem Lw.ties (h : Lw us ids tms ord n) : Ties tms ord n := h.2.1
theorem Lw.le (h : Lw us ids tms ord n) : n ≤ 64 := h.2.2.1
theorem Lw.id8 (h : Lw us ids tms ord n) : ∀ k, ids k < 8 := h.2.2.2.1
theorem Lw.up (h : Lw us ids tms ord n) : ∀ k, 8 ≤ k → k < 20 → us k = k := h.2.2.2.2.1
theorem Lw.low (h : Lw us ids tms ord n) : ∀ k, k < 8 → us k < 8 := h.2.2.2.2.2
theorem Lw.mm0 (h : Lw us ids tms ord n) {u : Nat} (hu : 8 ≤ u) : mm us ids ord n u = 0 := by
  refine fb_ct_zero.mpr (fun k hk => decide_eq_false (fun q => ?_))
  have := h.low _ (h.id8 (ord k))
  omega
theorem Lw.event {i t : Nat} (h : Lw us ids tms ord n) (hn : n < 64) (hi : i < 8) (ht : t < 2000) : Lw us (va_up ids n i) (va_up tms n t) (insO (va_up tms n t) t n n ord) (n + 1) :=
  ⟨h.inv.event (by omega) (by omega) ht, h.ties.event h.inv, by omega, up_lt h.id8 hi, h.up, h.low⟩
theorem Lw.merge {lo hi : Nat} (h : Lw us ids tms ord n) (hl : lo < 8) (hh : hi < 8) : Lw (mgF us lo hi 20) ids tms ord n := by
  refine ⟨h.inv.merge (by omega), h.ties, h.le, h.id8, fun k h1 h2 => ?_, fun k hk => ?_⟩
  · have := h.up k h1 h2
    exact (if_neg (by omega)).trans this
  · have := h.low k hk
    show (if _ then _ else _) < 8
    split <;> omega
end
