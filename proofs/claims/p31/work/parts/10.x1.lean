abbrev rm_X1_count : Room := { frames := 0, cells := 0, slots := 0, locals := 0 }
set_option maxHeartbeats 8000000 in
set_option maxRecDepth 100000 in
theorem c_X1_count (l : Launch) (D : va_G) (cI : ClassId) (al : Nat) (ai : Nat) (ak : Nat) (am : Nat) (ao : Nat) (n : Nat)  : Met l yX1_count wsX1_count rm_X1_count (roP D (tI cI) [.ref al] [(al, .inr (1, [.ref ai, .ref ak, .ref am, .ref ao, .int (nI n)]))]) (QcRead (nI n)) 0 0 (fun _ => False) := by
  refine roOf (cc := cX1_count) (maxL := 1) (ret := (some .int)) (by decide) rfl (Nat.le_of_ble_eq_true rfl) ?_
  intro p e s m below meth c ls hx hb hml hown hts hr hlocks hP hK hZ hl
  have hown : s.vm.findClass RX1 = some m.cls := hown
  have hl : lv_has ls 1 [(0, .ref al)] := hl
  have hF : CallFix p m c cX1_count 1 s [.ref al].toArray wsX1_count RX1 := ⟨hx, hb, hml, hown, hts⟩
  have hinX1 : ∀ w ∈ wsX10, w ∈ wsX1_count := by decide +kernel
  have hk24 := hts (.fieldLink RX1 24 "FunnelFold$EventLog" "count" "I") (by decide +kernel)
  refine lv_aload_n hx hb dX1_count_0 rfl (lv_at hl 0 rfl) ?_
  refine va_get (D := D) (ci := 1) (v := .int (nI n)) (C := RX1) (T := TX1) (N := 5) hx hb hts hinX1 hown hK hP 0 rfl rfl 4 (by decide) hk24 (fun _ h9 => h9) rfl dX1_count_1 ?_
  exact roRi hx hb hr hlocks (rfl) dX1_count_4

abbrev rm_X1_isFull : Room := { frames := 0, cells := 0, slots := 0, locals := 0 }
set_option maxHeartbeats 8000000 in
set_option maxRecDepth 100000 in
theorem c_X1_isFull (l : Launch) (D : va_G) (cI : ClassId) (al : Nat) (ai : Nat) (ak : Nat) (am : Nat) (ao : Nat) (n : Nat) (hn : n ≤ 250) : Met l yX1_isFull wsX1_isFull rm_X1_isFull (roP D (tI cI) [.ref al] [(al, .inr (1, [.ref ai, .ref ak, .ref am, .ref ao, .int (nI n)]))]) (QcRead (bI (decide (250 ≤ n)))) 0 0 (fun _ => False) := by
  refine roOf (cc := cX1_isFull) (maxL := 1) (ret := (some .boolean)) (by decide) rfl (Nat.le_of_ble_eq_true rfl) ?_
  intro p e s m below meth c ls hx hb hml hown hts hr hlocks hP hK hZ hl
  have hown : s.vm.findClass RX1 = some m.cls := hown
  have hl : lv_has ls 1 [(0, .ref al)] := hl
  have hF : CallFix p m c cX1_isFull 1 s [.ref al].toArray wsX1_isFull RX1 := ⟨hx, hb, hml, hown, hts⟩
  have hinX1 : ∀ w ∈ wsX10, w ∈ wsX1_isFull := by decide +kernel
  have hk24 := hts (.fieldLink RX1 24 "FunnelFold$EventLog" "count" "I") (by decide +kernel)
  refine lv_aload_n hx hb dX1_isFull_0 rfl (lv_at hl 0 rfl) ?_
  refine va_get (D := D) (ci := 1) (v := .int (nI n)) (C := RX1) (T := TX1) (N := 5) hx hb hts hinX1 hown hK hP 0 rfl rfl 4 (by decide) hk24 (fun _ h9 => h9) rfl dX1_isFull_1 ?_
  refine lv_sipush (v := nI 250) hx hb dX1_isFull_4 (by decide) ?_
  refine f_lt hx hb (by omega) (by omega) (tgt := 14) dX1_isFull_7 (by decide) (fun b7 => ?_) (fun b7 => ?_)
  · skip
    refine lv_iconst (v := nI 0) hx hb dX1_isFull_14 (by decide) ?_
    exact roRz hx hb hr hlocks (bF (by first | exact decide_eq_false (by omega) | (simp; omega))) dX1_isFull_15
  · skip
    refine lv_iconst (v := nI 1) hx hb dX1_isFull_10 (by decide) ?_
    refine lv_goto (tgt := 15) hx hb dX1_isFull_11 (by decide) ?_
    exact roRz hx hb hr hlocks (bT (by first | exact decide_eq_true (by omega) | (simp; omega))) dX1_isFull_15

abbrev rm_X1_numberAt : Room := { frames := 0, cells := 0, slots := 0, locals := 0 }
set_option maxHeartbeats 8000000 in
set_option maxRecDepth 100000 in
theorem c_X1_numberAt (l : Launch) (D : va_G) (cI : ClassId) (al : Nat) (ai : Nat) (ak : Nat) (am : Nat) (ao : Nat) (ids : Nat → Nat) (kd : Nat → Int32) (tms : Nat → Nat) (ord : Nat → Nat) (n : Nat) (j : Nat) (hj : j < 250) : Met l yX1_numberAt wsX1_numberAt rm_X1_numberAt (roP D (tI cI) [.ref al, .int (nI j)] [(al, .inr (1, [.ref ai, .ref ak, .ref am, .ref ao, .int (nI n)])), (ai, .inl (cI, 250, .inl (nF ids))), (ak, .inl (cI, 250, .inl kd)), (am, .inl (cI, 250, .inl (nF tms))), (ao, .inl (cI, 250, .inl (nF ord)))]) (QcRead (nI (ord j))) 0 0 (fun _ => False) := by
  refine roOf (cc := cX1_numberAt) (maxL := 2) (ret := (some .int)) (by decide) rfl (Nat.le_of_ble_eq_true rfl) ?_
  intro p e s m below meth c ls hx hb hml hown hts hr hlocks hP hK hZ hl
  have hown : s.vm.findClass RX1 = some m.cls := hown
  have hl : lv_has ls 2 [(0, .ref al), (1, .int (nI j))] := hl
  have hF : CallFix p m c cX1_numberAt 2 s [.ref al, .int (nI j)].toArray wsX1_numberAt RX1 := ⟨hx, hb, hml, hown, hts⟩
  have hinX1 : ∀ w ∈ wsX10, w ∈ wsX1_numberAt := by decide +kernel
  have hk21 := hts (.fieldLink RX1 21 "FunnelFold$EventLog" "order" "[I") (by decide +kernel)
  refine lv_aload_n hx hb dX1_numberAt_0 rfl (lv_at hl 0 rfl) ?_
  refine va_get (D := D) (ci := 1) (v := .ref ao) (C := RX1) (T := TX1) (N := 5) hx hb hts hinX1 hown hK hP 0 rfl rfl 3 (by decide) hk21 (fun _ h9 => h9) rfl dX1_numberAt_1 ?_
  refine lv_iload_n hx hb dX1_numberAt_4 rfl (lv_at hl 1 rfl) ?_
  refine f_ald hx hb hK hP 4 0 rfl rfl (by omega) (by decide) dX1_numberAt_5 ?_
  exact roRi hx hb hr hlocks (rfl) dX1_numberAt_6

abbrev rm_X1_idAt : Room := { frames := 0, cells := 0, slots := 0, locals := 0 }
set_option maxHeartbeats 8000000 in
set_option maxRecDepth 100000 in
theorem c_X1_idAt (l : Launch) (D : va_G) (cI : ClassId) (al : Nat) (ai : Nat) (ak : Nat) (am : Nat) (ao : Nat) (ids : Nat → Nat) (kd : Nat → Int32) (tms : Nat → Nat) (ord : Nat → Nat) (n : Nat) (j : Nat) (hj : j < 250) (ho : ord j < 250) : Met l yX1_idAt wsX1_idAt rm_X1_idAt (roP D (tI cI) [.ref al, .int (nI j)] [(al, .inr (1, [.ref ai, .ref ak, .ref am, .ref ao, .int (nI n)])), (ai, .inl (cI, 250, .inl (nF ids))), (ak, .inl (cI, 250, .inl kd)), (am, .inl (cI, 250, .inl (nF tms))), (ao, .inl (cI, 250, .inl (nF ord)))]) (QcRead (nI (ids (ord j)))) 0 0 (fun _ => False) := by
  refine roOf (cc := cX1_idAt) (maxL := 2) (ret := (some .int)) (by decide) rfl (Nat.le_of_ble_eq_true rfl) ?_
  intro p e s m below meth c ls hx hb hml hown hts hr hlocks hP hK hZ hl
  have hown : s.vm.findClass RX1 = some m.cls := hown
  have hl : lv_has ls 2 [(0, .ref al), (1, .int (nI j))] := hl
  have hF : CallFix p m c cX1_idAt 2 s [.ref al, .int (nI j)].toArray wsX1_idAt RX1 := ⟨hx, hb, hml, hown, hts⟩
  have hinX1 : ∀ w ∈ wsX10, w ∈ wsX1_idAt := by decide +kernel
  have hk9 := hts (.fieldLink RX1 9 "FunnelFold$EventLog" "ids" "[I") (by decide +kernel)
  have hk21 := hts (.fieldLink RX1 21 "FunnelFold$EventLog" "order" "[I") (by decide +kernel)
  refine lv_aload_n hx hb dX1_idAt_0 rfl (lv_at hl 0 rfl) ?_
  refine va_get (D := D) (ci := 1) (v := .ref ai) (C := RX1) (T := TX1) (N := 5) hx hb hts hinX1 hown hK hP 0 rfl rfl 0 (by decide) hk9 (fun _ h9 => h9) rfl dX1_idAt_1 ?_
  refine lv_aload_n hx hb dX1_idAt_4 rfl (lv_at hl 0 rfl) ?_
  refine va_get (D := D) (ci := 1) (v := .ref ao) (C := RX1) (T := TX1) (N := 5) hx hb hts hinX1 hown hK hP 0 rfl rfl 3 (by decide) hk21 (fun _ h9 => h9) rfl dX1_idAt_5 ?_
  refine lv_iload_n hx hb dX1_idAt_8 rfl (lv_at hl 1 rfl) ?_
  refine f_ald hx hb hK hP 4 0 rfl rfl (by omega) (by decide) dX1_idAt_9 ?_
  refine f_ald hx hb hK hP 1 0 rfl rfl (by omega) (by decide) dX1_idAt_10 ?_
  exact roRi hx hb hr hlocks (rfl) dX1_idAt_11

abbrev rm_X1_kindAt : Room := { frames := 0, cells := 0, slots := 0, locals := 0 }
set_option maxHeartbeats 8000000 in
set_option maxRecDepth 100000 in
theorem c_X1_kindAt (l : Launch) (D : va_G) (cI : ClassId) (al : Nat) (ai : Nat) (ak : Nat) (am : Nat) (ao : Nat) (ids : Nat → Nat) (kd : Nat → Int32) (tms : Nat → Nat) (ord : Nat → Nat) (n : Nat) (j : Nat) (hj : j < 250) (ho : ord j < 250) : Met l yX1_kindAt wsX1_kindAt rm_X1_kindAt (roP D (tI cI) [.ref al, .int (nI j)] [(al, .inr (1, [.ref ai, .ref ak, .ref am, .ref ao, .int (nI n)])), (ai, .inl (cI, 250, .inl (nF ids))), (ak, .inl (cI, 250, .inl kd)), (am, .inl (cI, 250, .inl (nF tms))), (ao, .inl (cI, 250, .inl (nF ord)))]) (QcRead (kd (ord j))) 0 0 (fun _ => False) := by
  refine roOf (cc := cX1_kindAt) (maxL := 2) (ret := (some .int)) (by decide) rfl (Nat.le_of_ble_eq_true rfl) ?_
  intro p e s m below meth c ls hx hb hml hown hts hr hlocks hP hK hZ hl
  have hown : s.vm.findClass RX1 = some m.cls := hown
  have hl : lv_has ls 2 [(0, .ref al), (1, .int (nI j))] := hl
  have hF : CallFix p m c cX1_kindAt 2 s [.ref al, .int (nI j)].toArray wsX1_kindAt RX1 := ⟨hx, hb, hml, hown, hts⟩
  have hinX1 : ∀ w ∈ wsX10, w ∈ wsX1_kindAt := by decide +kernel
  have hk15 := hts (.fieldLink RX1 15 "FunnelFold$EventLog" "kinds" "[I") (by decide +kernel)
  have hk21 := hts (.fieldLink RX1 21 "FunnelFold$EventLog" "order" "[I") (by decide +kernel)
  refine lv_aload_n hx hb dX1_kindAt_0 rfl (lv_at hl 0 rfl) ?_
  refine va_get (D := D) (ci := 1) (v := .ref ak) (C := RX1) (T := TX1) (N := 5) hx hb hts hinX1 hown hK hP 0 rfl rfl 1 (by decide) hk15 (fun _ h9 => h9) rfl dX1_kindAt_1 ?_
  refine lv_aload_n hx hb dX1_kindAt_4 rfl (lv_at hl 0 rfl) ?_
  refine va_get (D := D) (ci := 1) (v := .ref ao) (C := RX1) (T := TX1) (N := 5) hx hb hts hinX1 hown hK hP 0 rfl rfl 3 (by decide) hk21 (fun _ h9 => h9) rfl dX1_kindAt_5 ?_
  refine lv_iload_n hx hb dX1_kindAt_8 rfl (lv_at hl 1 rfl) ?_
  refine f_ald hx hb hK hP 4 0 rfl rfl (by omega) (by decide) dX1_kindAt_9 ?_
  refine f_aldr hx hb hK hP 2 0 rfl rfl (by omega) (by decide) dX1_kindAt_10 ?_
  exact roRi hx hb hr hlocks (rfl) dX1_kindAt_11

abbrev rm_X1_timeAt : Room := { frames := 0, cells := 0, slots := 0, locals := 0 }
set_option maxHeartbeats 8000000 in
set_option maxRecDepth 100000 in
theorem c_X1_timeAt (l : Launch) (D : va_G) (cI : ClassId) (al : Nat) (ai : Nat) (ak : Nat) (am : Nat) (ao : Nat) (ids : Nat → Nat) (kd : Nat → Int32) (tms : Nat → Nat) (ord : Nat → Nat) (n : Nat) (j : Nat) (hj : j < 250) (ho : ord j < 250) : Met l yX1_timeAt wsX1_timeAt rm_X1_timeAt (roP D (tI cI) [.ref al, .int (nI j)] [(al, .inr (1, [.ref ai, .ref ak, .ref am, .ref ao, .int (nI n)])), (ai, .inl (cI, 250, .inl (nF ids))), (ak, .inl (cI, 250, .inl kd)), (am, .inl (cI, 250, .inl (nF tms))), (ao, .inl (cI, 250, .inl (nF ord)))]) (QcRead (nI (tms (ord j)))) 0 0 (fun _ => False) := by
  refine roOf (cc := cX1_timeAt) (maxL := 2) (ret := (some .int)) (by decide) rfl (Nat.le_of_ble_eq_true rfl) ?_
  intro p e s m below meth c ls hx hb hml hown hts hr hlocks hP hK hZ hl
  have hown : s.vm.findClass RX1 = some m.cls := hown
  have hl : lv_has ls 2 [(0, .ref al), (1, .int (nI j))] := hl
  have hF : CallFix p m c cX1_timeAt 2 s [.ref al, .int (nI j)].toArray wsX1_timeAt RX1 := ⟨hx, hb, hml, hown, hts⟩
  have hinX1 : ∀ w ∈ wsX10, w ∈ wsX1_timeAt := by decide +kernel
  have hk18 := hts (.fieldLink RX1 18 "FunnelFold$EventLog" "times" "[I") (by decide +kernel)
  have hk21 := hts (.fieldLink RX1 21 "FunnelFold$EventLog" "order" "[I") (by decide +kernel)
  refine lv_aload_n hx hb dX1_timeAt_0 rfl (lv_at hl 0 rfl) ?_
  refine va_get (D := D) (ci := 1) (v := .ref am) (C := RX1) (T := TX1) (N := 5) hx hb hts hinX1 hown hK hP 0 rfl rfl 2 (by decide) hk18 (fun _ h9 => h9) rfl dX1_timeAt_1 ?_
  refine lv_aload_n hx hb dX1_timeAt_4 rfl (lv_at hl 0 rfl) ?_
  refine va_get (D := D) (ci := 1) (v := .ref ao) (C := RX1) (T := TX1) (N := 5) hx hb hts hinX1 hown hK hP 0 rfl rfl 3 (by decide) hk21 (fun _ h9 => h9) rfl dX1_timeAt_5 ?_
  refine lv_iload_n hx hb dX1_timeAt_8 rfl (lv_at hl 1 rfl) ?_
  refine f_ald hx hb hK hP 4 0 rfl rfl (by omega) (by decide) dX1_timeAt_9 ?_
  refine f_ald hx hb hK hP 3 0 rfl rfl (by omega) (by decide) dX1_timeAt_10 ?_
  exact roRi hx hb hr hlocks (rfl) dX1_timeAt_11

abbrev rm_X1_append : Room := { frames := 0, cells := 0, slots := 0, locals := 0 }
abbrev q_X1_append (D : va_G) (cI : ClassId) (al : Nat) (ai : Nat) (ak : Nat) (am : Nat) (ao : Nat) (ids : Nat → Nat) (kd : Nat → Int32) (tms : Nat → Nat) (ord : Nat → Nat) (n : Nat) (i : Nat) (k : Int32) (t : Nat) (A : Nat → Prop) : Array Value → State → Outcome → State → Prop := muQi D (fun (r : Int32) (u : Unit) => r = nI n) (fun (u : Unit) => [(al, .inr (1, [.ref ai, .ref ak, .ref am, .ref ao, .int (nI (n + 1))])), (ai, .inl (cI, 250, .inl (nF (va_up ids n i)))), (ak, .inl (cI, 250, .inl (upd kd n k))), (am, .inl (cI, 250, .inl (nF (va_up tms n t)))), (ao, .inl (cI, 250, .inl (nF (insO (va_up tms n t) t n n ord))))]) A
set_option maxHeartbeats 8000000 in
set_option maxRecDepth 100000 in
theorem c_X1_append (l : Launch) (D : va_G) (cI : ClassId) (al : Nat) (ai : Nat) (ak : Nat) (am : Nat) (ao : Nat) (ids : Nat → Nat) (kd : Nat → Int32) (tms : Nat → Nat) (ord : Nat → Nat) (n : Nat) (i : Nat) (k : Int32) (t : Nat) (sz : Nat) (hn : n < 250) (ht : t < 2000) (hom : ∀ k, ord k < 250) (htm : ∀ k, tms k < 2000) : Met l yX1_append wsX1_append rm_X1_append (muP D (tI cI) [.ref al, .int (nI i), .int k, .int (nI t)] [(al, .inr (1, [.ref ai, .ref ak, .ref am, .ref ao, .int (nI n)])), (ai, .inl (cI, 250, .inl (nF ids))), (ak, .inl (cI, 250, .inl kd)), (am, .inl (cI, 250, .inl (nF tms))), (ao, .inl (cI, 250, .inl (nF ord)))] sz) (q_X1_append D cI al ai ak am ao ids kd tms ord n i k t (va_A [(al, .inr (1, [.ref ai, .ref ak, .ref am, .ref ao, .int (nI n)])), (ai, .inl (cI, 250, .inl (nF ids))), (ak, .inl (cI, 250, .inl kd)), (am, .inl (cI, 250, .inl (nF tms))), (ao, .inl (cI, 250, .inl (nF ord)))] sz)) 0 0 (va_A [(al, .inr (1, [.ref ai, .ref ak, .ref am, .ref ao, .int (nI n)])), (ai, .inl (cI, 250, .inl (nF ids))), (ak, .inl (cI, 250, .inl kd)), (am, .inl (cI, 250, .inl (nF tms))), (ao, .inl (cI, 250, .inl (nF ord)))] sz) := by
  refine muOf (Qc := fun A => q_X1_append D cI al ai ak am ao ids kd tms ord n i k t A) (cc := cX1_append) (maxL := 6) (ret := (some .int)) (by decide) rfl (Nat.le_of_ble_eq_true rfl) ?_
  intro p e s m below meth c ls A hx hb hml hown hts hr hlocks hnm hP hK hZ hD hA hS hl
  have hown : s.vm.findClass RX1 = some m.cls := hown
  have hl : lv_has ls 6 [(0, .ref al), (1, .int (nI i)), (2, .int k), (3, .int (nI t))] := hl
  have hF : CallFix p m c cX1_append 6 s [.ref al, .int (nI i), .int k, .int (nI t)].toArray wsX1_append RX1 := ⟨hx, hb, hml, hown, hts⟩
  have hinX1 : ∀ w ∈ wsX10, w ∈ wsX1_append := by decide +kernel
  have hk24 := hts (.fieldLink RX1 24 "FunnelFold$EventLog" "count" "I") (by decide +kernel)
  have hk9 := hts (.fieldLink RX1 9 "FunnelFold$EventLog" "ids" "[I") (by decide +kernel)
  have hk15 := hts (.fieldLink RX1 15 "FunnelFold$EventLog" "kinds" "[I") (by decide +kernel)
  have hk18 := hts (.fieldLink RX1 18 "FunnelFold$EventLog" "times" "[I") (by decide +kernel)
  have hk21 := hts (.fieldLink RX1 21 "FunnelFold$EventLog" "order" "[I") (by decide +kernel)
  refine lv_aload_n hx hb dX1_append_0 rfl (lv_at hl 0 rfl) ?_
  refine va_get (D := D) (ci := 1) (v := .int (nI n)) (C := RX1) (T := TX1) (N := 5) hx hb hts hinX1 hown hK hP 0 rfl rfl 4 (by decide) hk24 (fun _ h9 => h9) rfl dX1_append_1 ?_
  refine lv_istore (lv' := [(4, .int (nI n)), (0, .ref al), (1, .int (nI i)), (2, .int k), (3, .int (nI t))]) hx hb dX1_append_4 hl (by decide) rfl (fun ls hl => ?_)
  refine lv_aload_n hx hb dX1_append_6 rfl (lv_at hl 1 rfl) ?_
  refine va_get (D := D) (ci := 1) (v := .ref ai) (C := RX1) (T := TX1) (N := 5) hx hb hts hinX1 hown hK hP 0 rfl rfl 0 (by decide) hk9 (fun _ h9 => h9) rfl dX1_append_7 ?_
  refine lv_iload hx hb dX1_append_10 (lv_at hl 0 rfl) ?_
  refine lv_iload_n hx hb dX1_append_12 rfl (lv_at hl 2 rfl) ?_
  refine f_ast hx hb hK hP hD hS 1 0 rfl rfl (by omega) (by decide) dX1_append_13 (fun H locs hP hD hS => ?_)
  have hP : va_P D vwCl [(al, .inr (1, [.ref ai, .ref ak, .ref am, .ref ao, .int (nI n)])), (ai, .inl (cI, 250, .inl (nF (va_up ids n i)))), (ak, .inl (cI, 250, .inl kd)), (am, .inl (cI, 250, .inl (nF tms))), (ao, .inl (cI, 250, .inl (nF ord)))] H := hP
  have hD : va_D A [(al, .inr (1, [.ref ai, .ref ak, .ref am, .ref ao, .int (nI n)])), (ai, .inl (cI, 250, .inl (nF (va_up ids n i)))), (ak, .inl (cI, 250, .inl kd)), (am, .inl (cI, 250, .inl (nF tms))), (ao, .inl (cI, 250, .inl (nF ord)))] := hD
  refine lv_aload_n hx hb dX1_append_14 rfl (lv_at hl 1 rfl) ?_
  refine va_get (D := D) (ci := 1) (v := .ref ak) (C := RX1) (T := TX1) (N := 5) hx hb hts hinX1 hown hK hP 0 rfl rfl 1 (by decide) hk15 (fun _ h9 => h9) rfl dX1_append_15 ?_
  refine lv_iload hx hb dX1_append_18 (lv_at hl 0 rfl) ?_
  refine lv_iload_n hx hb dX1_append_20 rfl (lv_at hl 3 rfl) ?_
  refine f_astr hx hb hK hP hD hS 2 0 rfl rfl (by omega) (by decide) dX1_append_21 (fun H locs hP hD hS => ?_)
  have hP : va_P D vwCl [(al, .inr (1, [.ref ai, .ref ak, .ref am, .ref ao, .int (nI n)])), (ai, .inl (cI, 250, .inl (nF (va_up ids n i)))), (ak, .inl (cI, 250, .inl (upd kd n k))), (am, .inl (cI, 250, .inl (nF tms))), (ao, .inl (cI, 250, .inl (nF ord)))] H := hP
  have hD : va_D A [(al, .inr (1, [.ref ai, .ref ak, .ref am, .ref ao, .int (nI n)])), (ai, .inl (cI, 250, .inl (nF (va_up ids n i)))), (ak, .inl (cI, 250, .inl (upd kd n k))), (am, .inl (cI, 250, .inl (nF tms))), (ao, .inl (cI, 250, .inl (nF ord)))] := hD
  refine lv_aload_n hx hb dX1_append_22 rfl (lv_at hl 1 rfl) ?_
  refine va_get (D := D) (ci := 1) (v := .ref am) (C := RX1) (T := TX1) (N := 5) hx hb hts hinX1 hown hK hP 0 rfl rfl 2 (by decide) hk18 (fun _ h9 => h9) rfl dX1_append_23 ?_
  refine lv_iload hx hb dX1_append_26 (lv_at hl 0 rfl) ?_
  refine lv_iload_n hx hb dX1_append_28 rfl (lv_at hl 4 rfl) ?_
  refine f_ast hx hb hK hP hD hS 3 0 rfl rfl (by omega) (by decide) dX1_append_29 (fun H locs hP hD hS => ?_)
  have hP : va_P D vwCl [(al, .inr (1, [.ref ai, .ref ak, .ref am, .ref ao, .int (nI n)])), (ai, .inl (cI, 250, .inl (nF (va_up ids n i)))), (ak, .inl (cI, 250, .inl (upd kd n k))), (am, .inl (cI, 250, .inl (nF (va_up tms n t)))), (ao, .inl (cI, 250, .inl (nF ord)))] H := hP
  have hD : va_D A [(al, .inr (1, [.ref ai, .ref ak, .ref am, .ref ao, .int (nI n)])), (ai, .inl (cI, 250, .inl (nF (va_up ids n i)))), (ak, .inl (cI, 250, .inl (upd kd n k))), (am, .inl (cI, 250, .inl (nF (va_up tms n t)))), (ao, .inl (cI, 250, .inl (nF ord)))] := hD
  refine lv_iload hx hb dX1_append_30 (lv_at hl 0 rfl) ?_
  refine lv_istore (lv' := [(5, .int (nI n)), (4, .int (nI n)), (0, .ref al), (1, .int (nI i)), (2, .int k), (3, .int (nI t))]) hx hb dX1_append_32 hl (by decide) rfl (fun ls hl => ?_)
  have key34 : ∀ (fuel : Nat) (pp : Nat) (o : Nat → Nat) (H : Heap) (locs : List Loc) (ls : Array Slot), pp < fuel → (pp ≤ n) → (∀ k, o k < 250) → (insO (va_up tms n t) t n pp o = insO (va_up tms n t) t n n ord) → va_P D vwCl [(al, .inr (1, [.ref ai, .ref ak, .ref am, .ref ao, .int (nI n)])), (ai, .inl (cI, 250, .inl (nF (va_up ids n i)))), (ak, .inl (cI, 250, .inl (upd kd n k))), (am, .inl (cI, 250, .inl (nF (va_up tms n t)))), (ao, .inl (cI, 250, .inl (nF o)))] H → va_D A [(al, .inr (1, [.ref ai, .ref ak, .ref am, .ref ao, .int (nI n)])), (ai, .inl (cI, 250, .inl (nF (va_up ids n i)))), (ak, .inl (cI, 250, .inl (upd kd n k))), (am, .inl (cI, 250, .inl (nF (va_up tms n t)))), (ao, .inl (cI, 250, .inl (nF o)))] → va_S A s.heap H locs → lv_has ls 6 [(0, .ref al), (1, .int (nI i)), (2, .int k), (3, .int (nI t)), (4, .int (nI n)), (5, .int (nI pp))] → W p l e rm_X1_append s m [.ref al, .int (nI i), .int k, .int (nI t)].toArray below meth c H locs 0 0 (MQ below (q_X1_append D cI al ai ak am ao ids kd tms ord n i k t A) [.ref al, .int (nI i), .int k, .int (nI t)].toArray s 0 0 A) (F0 m 34 ls []) := by
    intro fuel
    induction fuel with
    | zero => intro pp o H locs ls hfu; exact absurd hfu (Nat.not_lt_zero _)
    | succ fuel ih34 =>
      intro pp o H locs ls hfu hp hoo hin hP hD hS hl
      have key79 : ∀  (H : Heap) (locs : List Loc) (ls : Array Slot), (va_up o pp n = insO (va_up tms n t) t n n ord) → va_P D vwCl [(al, .inr (1, [.ref ai, .ref ak, .ref am, .ref ao, .int (nI n)])), (ai, .inl (cI, 250, .inl (nF (va_up ids n i)))), (ak, .inl (cI, 250, .inl (upd kd n k))), (am, .inl (cI, 250, .inl (nF (va_up tms n t)))), (ao, .inl (cI, 250, .inl (nF o)))] H → va_D A [(al, .inr (1, [.ref ai, .ref ak, .ref am, .ref ao, .int (nI n)])), (ai, .inl (cI, 250, .inl (nF (va_up ids n i)))), (ak, .inl (cI, 250, .inl (upd kd n k))), (am, .inl (cI, 250, .inl (nF (va_up tms n t)))), (ao, .inl (cI, 250, .inl (nF o)))] → va_S A s.heap H locs → lv_has ls 6 [(0, .ref al), (1, .int (nI i)), (2, .int k), (3, .int (nI t)), (4, .int (nI n)), (5, .int (nI pp))] → W p l e rm_X1_append s m [.ref al, .int (nI i), .int k, .int (nI t)].toArray below meth c H locs 0 0 (MQ below (q_X1_append D cI al ai ak am ao ids kd tms ord n i k t A) [.ref al, .int (nI i), .int k, .int (nI t)].toArray s 0 0 A) (F0 m 79 ls []) := by
        intro  H locs ls hj hP hD hS hl
        refine lv_aload_n hx hb dX1_append_79 rfl (lv_at hl 0 rfl) ?_
        refine va_get (D := D) (ci := 1) (v := .ref ao) (C := RX1) (T := TX1) (N := 5) hx hb hts hinX1 hown hK hP 0 rfl rfl 3 (by decide) hk21 (fun _ h9 => h9) rfl dX1_append_80 ?_
        refine lv_iload hx hb dX1_append_83 (lv_at hl 5 rfl) ?_
        refine lv_iload hx hb dX1_append_85 (lv_at hl 4 rfl) ?_
        refine f_ast hx hb hK hP hD hS 4 0 rfl rfl (by omega) (by decide) dX1_append_87 (fun H locs hP hD hS => ?_)
        have hP : va_P D vwCl [(al, .inr (1, [.ref ai, .ref ak, .ref am, .ref ao, .int (nI n)])), (ai, .inl (cI, 250, .inl (nF (va_up ids n i)))), (ak, .inl (cI, 250, .inl (upd kd n k))), (am, .inl (cI, 250, .inl (nF (va_up tms n t)))), (ao, .inl (cI, 250, .inl (nF (va_up o pp n))))] H := hP
        have hD : va_D A [(al, .inr (1, [.ref ai, .ref ak, .ref am, .ref ao, .int (nI n)])), (ai, .inl (cI, 250, .inl (nF (va_up ids n i)))), (ak, .inl (cI, 250, .inl (upd kd n k))), (am, .inl (cI, 250, .inl (nF (va_up tms n t)))), (ao, .inl (cI, 250, .inl (nF (va_up o pp n))))] := hD
        rw [hj] at hP hD
        refine lv_aload_n hx hb dX1_append_88 rfl (lv_at hl 0 rfl) ?_
        refine lv_dup hx hb dX1_append_89 rfl ?_
        refine va_get (D := D) (ci := 1) (v := .int (nI n)) (C := RX1) (T := TX1) (N := 5) hx hb hts hinX1 hown hK hP 0 rfl rfl 4 (by decide) hk24 (fun _ h9 => h9) rfl dX1_append_90 ?_
        refine lv_iconst (v := nI 1) hx hb dX1_append_93 (by decide) ?_
        refine f_add hx hb dX1_append_94 ?_
        refine va_put (D := D) (ci := 1) (v := .int (nI (n + 1))) (ty := .int) (C := RX1) (T := TX1) (N := 5) hx hb hts hinX1 tyX1 tyX1_ok nmX1 hown hK hP hD hS 0 rfl rfl 4 (by decide) hk24 (fun _ h9 => h9) rfl (by decide +kernel) rfl rfl (Nat.le_of_ble_eq_true rfl) dX1_append_95 (fun H locs hP hD hS => ?_)
        have hP : va_P D vwCl [(al, .inr (1, [.ref ai, .ref ak, .ref am, .ref ao, .int (nI (n + 1))])), (ai, .inl (cI, 250, .inl (nF (va_up ids n i)))), (ak, .inl (cI, 250, .inl (upd kd n k))), (am, .inl (cI, 250, .inl (nF (va_up tms n t)))), (ao, .inl (cI, 250, .inl (nF (insO (va_up tms n t) t n n ord))))] H := hP
        have hD : va_D A [(al, .inr (1, [.ref ai, .ref ak, .ref am, .ref ao, .int (nI (n + 1))])), (ai, .inl (cI, 250, .inl (nF (va_up ids n i)))), (ak, .inl (cI, 250, .inl (upd kd n k))), (am, .inl (cI, 250, .inl (nF (va_up tms n t)))), (ao, .inl (cI, 250, .inl (nF (insO (va_up tms n t) t n n ord))))] := hD
        refine lv_iload hx hb dX1_append_98 (lv_at hl 4 rfl) ?_
        exact muRi hx hb hr hlocks () (rfl) hP hD hS dX1_append_100
      refine lv_iload hx hb dX1_append_34 (lv_at hl 5 rfl) ?_
      refine f_zle hx hb (by omega) (tgt := 79) dX1_append_36 (by decide) (fun b36 => ?_) (fun b36 => ?_)
      · skip
        exact key79  _ _ _  (by subst b36; exact hin) hP hD hS (lv_sub hl [0, 1, 2, 3, 4, 5] rfl)
      · skip
        obtain ⟨p1, rfl⟩ : ∃ p1, pp = p1 + 1 := ⟨pp - 1, by omega⟩
        refine lv_aload_n hx hb dX1_append_39 rfl (lv_at hl 0 rfl) ?_
        refine va_get (D := D) (ci := 1) (v := .ref am) (C := RX1) (T := TX1) (N := 5) hx hb hts hinX1 hown hK hP 0 rfl rfl 2 (by decide) hk18 (fun _ h9 => h9) rfl dX1_append_40 ?_
        refine lv_aload_n hx hb dX1_append_43 rfl (lv_at hl 0 rfl) ?_
        refine va_get (D := D) (ci := 1) (v := .ref ao) (C := RX1) (T := TX1) (N := 5) hx hb hts hinX1 hown hK hP 0 rfl rfl 3 (by decide) hk21 (fun _ h9 => h9) rfl dX1_append_44 ?_
        refine lv_iload hx hb dX1_append_47 (lv_at hl 5 rfl) ?_
        refine lv_iconst (v := nI 1) hx hb dX1_append_49 (by decide) ?_
        refine f_sub hx hb (Nat.le_add_left _ _) dX1_append_50 ?_
        refine f_to (y := nI p1) (by rw [Nat.add_sub_cancel]) ?_
        refine f_ald hx hb hK hP 4 0 rfl rfl (by omega) (by decide) dX1_append_51 ?_
        refine f_ald hx hb hK hP 3 0 rfl rfl (hoo _) (by decide) dX1_append_52 ?_
        have hb53 : (va_up tms n t) (o p1) < 2000 := up_lt htm ht _
        refine lv_iload_n hx hb dX1_append_53 rfl (lv_at hl 3 rfl) ?_
        refine f_le hx hb (by omega) (by omega) (tgt := 79) dX1_append_54 (by decide) (fun b54 => ?_) (fun b54 => ?_)
        · skip
          exact key79  _ _ _  ((insO_e b54).symm.trans hin) hP hD hS (lv_sub hl [0, 1, 2, 3, 4, 5] rfl)
        · skip
          refine lv_aload_n hx hb dX1_append_57 rfl (lv_at hl 0 rfl) ?_
          refine va_get (D := D) (ci := 1) (v := .ref ao) (C := RX1) (T := TX1) (N := 5) hx hb hts hinX1 hown hK hP 0 rfl rfl 3 (by decide) hk21 (fun _ h9 => h9) rfl dX1_append_58 ?_
          refine lv_iload hx hb dX1_append_61 (lv_at hl 5 rfl) ?_
          refine lv_aload_n hx hb dX1_append_63 rfl (lv_at hl 0 rfl) ?_
          refine va_get (D := D) (ci := 1) (v := .ref ao) (C := RX1) (T := TX1) (N := 5) hx hb hts hinX1 hown hK hP 0 rfl rfl 3 (by decide) hk21 (fun _ h9 => h9) rfl dX1_append_64 ?_
          refine lv_iload hx hb dX1_append_67 (lv_at hl 5 rfl) ?_
          refine lv_iconst (v := nI 1) hx hb dX1_append_69 (by decide) ?_
          refine f_sub hx hb (Nat.le_add_left _ _) dX1_append_70 ?_
          refine f_to (y := nI p1) (by rw [Nat.add_sub_cancel]) ?_
          refine f_ald hx hb hK hP 4 0 rfl rfl (by omega) (by decide) dX1_append_71 ?_
          refine f_ast hx hb hK hP hD hS 4 0 rfl rfl (by omega) (by decide) dX1_append_72 (fun H locs hP hD hS => ?_)
          have hP : va_P D vwCl [(al, .inr (1, [.ref ai, .ref ak, .ref am, .ref ao, .int (nI n)])), (ai, .inl (cI, 250, .inl (nF (va_up ids n i)))), (ak, .inl (cI, 250, .inl (upd kd n k))), (am, .inl (cI, 250, .inl (nF (va_up tms n t)))), (ao, .inl (cI, 250, .inl (nF (va_up o (p1 + 1) (o p1)))))] H := hP
          have hD : va_D A [(al, .inr (1, [.ref ai, .ref ak, .ref am, .ref ao, .int (nI n)])), (ai, .inl (cI, 250, .inl (nF (va_up ids n i)))), (ak, .inl (cI, 250, .inl (upd kd n k))), (am, .inl (cI, 250, .inl (nF (va_up tms n t)))), (ao, .inl (cI, 250, .inl (nF (va_up o (p1 + 1) (o p1)))))] := hD
          refine lv_iinc (v := nI p1) (lv' := [(5, .int (nI p1)), (0, .ref al), (1, .int (nI i)), (2, .int k), (3, .int (nI t)), (4, .int (nI n))]) hx hb dX1_append_73 hl (k := 5) rfl (ii_m1 _) (by decide) rfl (fun ls hl => ?_)
          refine lv_goto (tgt := 34) hx hb dX1_append_76 (by decide) ?_
          exact ih34 p1 (va_up o (p1 + 1) (o p1)) _ _ _ (by omega) (by omega) (up_lt hoo (hoo _)) ((insO_s b54).symm.trans hin) hP hD hS (lv_sub hl [1, 2, 3, 4, 5, 0] rfl)
  exact key34 (n + 1) n ord _ _ _ (by omega) (Nat.le_refl _) hom rfl hP hD hS (lv_sub hl [2, 3, 4, 5, 1, 0] rfl)

