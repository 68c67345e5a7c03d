/-! A new array of ints, of the one class that all of them have. -/
section
variable {p : Program} {l : Launch} {e : Env} {R : Room} {s : State} {m : MethodId} {args : Array Value} {below : List Frame} {meth : Method} {c : Code} {H H0 : Heap} {locs : List Loc} {cells slots : Nat} {Q : State → Prop}
variable {cc : ByteArray} {pc : Nat} {ls : Array Slot} {rest : List Value} {D : va_G} {cl : List vw_C} {A : Nat → Prop} {ws : va_W} {cI : ClassId} {tys : List (ClassId × FieldType)}
theorem mk_newa (hx : p.tables.exec = Jvm.exec) (hb : c.code = cc) (harr : (Cond.arrayClass .int).before args s = true) (hK : va_K D cl ((cI, .int) :: tys) s) (hP : va_P D cl ws H) (hD : va_D A ws) (hS : va_S A H0 H locs) (hA : ∀ q, H0.size ≤ q → A q)
    {n : Nat} (hn : n < 1000) (hcells : cells + 1 ≤ R.cells) (hslots : slots + n ≤ R.slots) (hdg : decode cc pc = .ok (.newarray .int, 2))
    (kk : ∀ (q : Nat) (H1 : Heap), va_P D cl (ws ++ [(q, .inl (cI, n, .inl (nF fun _ => 0)))]) H1 → va_D A (ws ++ [(q, .inl (cI, n, .inl (nF fun _ => 0)))]) → va_S A H0 H1 locs →
      W p l e R s m args below meth c H1 locs (cells + 1) (slots + n) Q (F0 m (pc + 2) ls (.ref q :: rest))) : W p l e R s m args below meth c H locs cells slots Q (F0 m pc ls (.int (nI n) :: rest)) := by
  refine va_newa (atype := .int) hx hb harr (ty := .int) rfl hK hP hD hS hA (n := nI n) (N' := n) (a0 := (n, .inl (nF fun _ => 0))) (fun cA => rfl) (fun h => ?_) (nI_clamp (by omega)) (by show n * 4 ≤ _; omega) hcells hslots hdg (fun q cA H1 hK1 hP1 hD1 hS1 => ?_)
  · rw [Int32.lt_iff_toInt_lt, nI_toInt (by omega)] at h
    have : (0 : Int32).toInt = 0 := rfl
    omega
  · have h1 : s.vm.findClass ("[" ++ (FieldType.int).toString) = some cI := (hK.2 0 (cI, .int) rfl).2
    have h2 : s.vm.findClass ("[" ++ (FieldType.int).toString) = some cA := (hK1.2 (tys.length + 1) (cA, .int) (by
      show ((cI, FieldType.int) :: (tys ++ [(cA, .int)]))[tys.length + 1]? = _
      rw [List.getElem?_cons_succ, List.getElem?_append_right (Nat.le_refl _), Nat.sub_self]
      rfl)).2
    obtain rfl : cI = cA := Option.some.inj (h1.symm.trans h2)
    exact kk q H1 hP1 hD1 hS1
end
theorem fill_u {i : Nat} {f : Nat → Nat} (h : ∀ k, k < i → f k = k) : ∀ k, k < i + 1 → va_up f i i k = k := by
  intro k hk
  by_cases hq : k = i
  · subst hq; exact if_pos rfl
  · exact (if_neg hq).trans (h k (by omega))
