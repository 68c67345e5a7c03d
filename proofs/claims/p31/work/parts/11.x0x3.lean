abbrev rm_X0_closedCount : Room := { frames := 0, cells := 0, slots := 0, locals := 0 }
set_option maxHeartbeats 8000000 in
set_option maxRecDepth 100000 in
theorem c_X0_closedCount (l : Launch) (D : va_G) (cI : ClassId) (ad : Nat) (da : Nat) (dn : Nat) (db : Nat) (cl : Nat)  : Met l yX0_closedCount wsX0_closedCount rm_X0_closedCount (roP D (tI cI) [.ref ad] [(ad, .inr (0, [.ref da, .ref dn, .ref db, .int (nI cl)]))]) (QcRead (nI cl)) 0 0 (fun _ => False) := by
  refine roOf (cc := cX0_closedCount) (maxL := 1) (ret := (some .int)) (by decide) rfl (Nat.le_of_ble_eq_true rfl) ?_
  intro p e s m below meth c ls hx hb hml hown hts hr hlocks hP hK hZ hl
  have hown : s.vm.findClass RX0 = some m.cls := hown
  have hl : lv_has ls 1 [(0, .ref ad)] := hl
  have hF : CallFix p m c cX0_closedCount 1 s [.ref ad].toArray wsX0_closedCount RX0 := ⟨hx, hb, hml, hown, hts⟩
  have hinX0 : ∀ w ∈ wsX00, w ∈ wsX0_closedCount := by decide +kernel
  have hk21 := hts (.fieldLink RX0 21 "FunnelFold$DayBook" "closed" "I") (by decide +kernel)
  refine lv_aload_n hx hb dX0_closedCount_0 rfl (lv_at hl 0 rfl) ?_
  refine va_get (D := D) (ci := 0) (v := .int (nI cl)) (C := RX0) (T := TX0) (N := 4) hx hb hts hinX0 hown hK hP 0 rfl rfl 3 (by decide) hk21 (fun _ h9 => h9) rfl dX0_closedCount_1 ?_
  exact roRi hx hb hr hlocks (rfl) dX0_closedCount_4

abbrev rm_X0_isFull : Room := { frames := 0, cells := 0, slots := 0, locals := 0 }
set_option maxHeartbeats 8000000 in
set_option maxRecDepth 100000 in
theorem c_X0_isFull (l : Launch) (D : va_G) (cI : ClassId) (ad : Nat) (da : Nat) (dn : Nat) (db : Nat) (cl : Nat) (hcl : cl ≤ 20) : Met l yX0_isFull wsX0_isFull rm_X0_isFull (roP D (tI cI) [.ref ad] [(ad, .inr (0, [.ref da, .ref dn, .ref db, .int (nI cl)]))]) (QcRead (bI (decide (20 ≤ cl)))) 0 0 (fun _ => False) := by
  refine roOf (cc := cX0_isFull) (maxL := 1) (ret := (some .boolean)) (by decide) rfl (Nat.le_of_ble_eq_true rfl) ?_
  intro p e s m below meth c ls hx hb hml hown hts hr hlocks hP hK hZ hl
  have hown : s.vm.findClass RX0 = some m.cls := hown
  have hl : lv_has ls 1 [(0, .ref ad)] := hl
  have hF : CallFix p m c cX0_isFull 1 s [.ref ad].toArray wsX0_isFull RX0 := ⟨hx, hb, hml, hown, hts⟩
  have hinX0 : ∀ w ∈ wsX00, w ∈ wsX0_isFull := by decide +kernel
  have hk21 := hts (.fieldLink RX0 21 "FunnelFold$DayBook" "closed" "I") (by decide +kernel)
  refine lv_aload_n hx hb dX0_isFull_0 rfl (lv_at hl 0 rfl) ?_
  refine va_get (D := D) (ci := 0) (v := .int (nI cl)) (C := RX0) (T := TX0) (N := 4) hx hb hts hinX0 hown hK hP 0 rfl rfl 3 (by decide) hk21 (fun _ h9 => h9) rfl dX0_isFull_1 ?_
  refine lv_bipush (v := nI 20) hx hb dX0_isFull_4 (by decide) ?_
  refine f_lt hx hb (by omega) (by omega) (tgt := 13) dX0_isFull_6 (by decide) (fun b6 => ?_) (fun b6 => ?_)
  · skip
    refine lv_iconst (v := nI 0) hx hb dX0_isFull_13 (by decide) ?_
    exact roRz hx hb hr hlocks (bF (by first | exact decide_eq_false (by omega) | (simp; omega))) dX0_isFull_14
  · skip
    refine lv_iconst (v := nI 1) hx hb dX0_isFull_9 (by decide) ?_
    refine lv_goto (tgt := 14) hx hb dX0_isFull_10 (by decide) ?_
    exact roRz hx hb hr hlocks (bT (by first | exact decide_eq_true (by omega) | (simp; omega))) dX0_isFull_14

abbrev rm_X0_close : Room := { frames := 0, cells := 0, slots := 0, locals := 0 }
abbrev q_X0_close (D : va_G) (cI : ClassId) (ad : Nat) (da : Nat) (dn : Nat) (db : Nat) (kA : Nat → Int32) (kN : Nat → Int32) (kS : Nat → Int32) (cl : Nat) (x1 : Int32) (x2 : Int32) (x3 : Int32) (A : Nat → Prop) : Array Value → State → Outcome → State → Prop := muQv D (fun (u : Unit) => True) (fun (u : Unit) => [(ad, .inr (0, [.ref da, .ref dn, .ref db, .int (nI (cl + 1))])), (da, .inl (cI, 20, .inl (upd kA cl x1))), (dn, .inl (cI, 20, .inl (upd kN cl x2))), (db, .inl (cI, 20, .inl (upd kS cl x3)))]) A
set_option maxHeartbeats 8000000 in
set_option maxRecDepth 100000 in
theorem c_X0_close (l : Launch) (D : va_G) (cI : ClassId) (ad : Nat) (da : Nat) (dn : Nat) (db : Nat) (kA : Nat → Int32) (kN : Nat → Int32) (kS : Nat → Int32) (cl : Nat) (x1 : Int32) (x2 : Int32) (x3 : Int32) (sz : Nat) (hcl : cl < 20) : Met l yX0_close wsX0_close rm_X0_close (muP D (tI cI) [.ref ad, .int x1, .int x2, .int x3] [(ad, .inr (0, [.ref da, .ref dn, .ref db, .int (nI cl)])), (da, .inl (cI, 20, .inl kA)), (dn, .inl (cI, 20, .inl kN)), (db, .inl (cI, 20, .inl kS))] sz) (q_X0_close D cI ad da dn db kA kN kS cl x1 x2 x3 (va_A [(ad, .inr (0, [.ref da, .ref dn, .ref db, .int (nI cl)])), (da, .inl (cI, 20, .inl kA)), (dn, .inl (cI, 20, .inl kN)), (db, .inl (cI, 20, .inl kS))] sz)) 0 0 (va_A [(ad, .inr (0, [.ref da, .ref dn, .ref db, .int (nI cl)])), (da, .inl (cI, 20, .inl kA)), (dn, .inl (cI, 20, .inl kN)), (db, .inl (cI, 20, .inl kS))] sz) := by
  refine muOf (Qc := fun A => q_X0_close D cI ad da dn db kA kN kS cl x1 x2 x3 A) (cc := cX0_close) (maxL := 4) (ret := none) (by decide) rfl (Nat.le_of_ble_eq_true rfl) ?_
  intro p e s m below meth c ls A hx hb hml hown hts hr hlocks hnm hP hK hZ hD hA hS hl
  have hown : s.vm.findClass RX0 = some m.cls := hown
  have hl : lv_has ls 4 [(0, .ref ad), (1, .int x1), (2, .int x2), (3, .int x3)] := hl
  have hF : CallFix p m c cX0_close 4 s [.ref ad, .int x1, .int x2, .int x3].toArray wsX0_close RX0 := ⟨hx, hb, hml, hown, hts⟩
  have hinX0 : ∀ w ∈ wsX00, w ∈ wsX0_close := by decide +kernel
  have hk9 := hts (.fieldLink RX0 9 "FunnelFold$DayBook" "activeUsers" "[I") (by decide +kernel)
  have hk21 := hts (.fieldLink RX0 21 "FunnelFold$DayBook" "closed" "I") (by decide +kernel)
  have hk15 := hts (.fieldLink RX0 15 "FunnelFold$DayBook" "newUsers" "[I") (by decide +kernel)
  have hk18 := hts (.fieldLink RX0 18 "FunnelFold$DayBook" "begunSessions" "[I") (by decide +kernel)
  refine lv_aload_n hx hb dX0_close_0 rfl (lv_at hl 0 rfl) ?_
  refine va_get (D := D) (ci := 0) (v := .ref da) (C := RX0) (T := TX0) (N := 4) hx hb hts hinX0 hown hK hP 0 rfl rfl 0 (by decide) hk9 (fun _ h9 => h9) rfl dX0_close_1 ?_
  refine lv_aload_n hx hb dX0_close_4 rfl (lv_at hl 0 rfl) ?_
  refine va_get (D := D) (ci := 0) (v := .int (nI cl)) (C := RX0) (T := TX0) (N := 4) hx hb hts hinX0 hown hK hP 0 rfl rfl 3 (by decide) hk21 (fun _ h9 => h9) rfl dX0_close_5 ?_
  refine lv_iload_n hx hb dX0_close_8 rfl (lv_at hl 1 rfl) ?_
  refine f_astr hx hb hK hP hD hS 1 0 rfl rfl (by omega) (by decide) dX0_close_9 (fun H locs hP hD hS => ?_)
  have hP : va_P D vwCl [(ad, .inr (0, [.ref da, .ref dn, .ref db, .int (nI cl)])), (da, .inl (cI, 20, .inl (upd kA cl x1))), (dn, .inl (cI, 20, .inl kN)), (db, .inl (cI, 20, .inl kS))] H := hP
  have hD : va_D A [(ad, .inr (0, [.ref da, .ref dn, .ref db, .int (nI cl)])), (da, .inl (cI, 20, .inl (upd kA cl x1))), (dn, .inl (cI, 20, .inl kN)), (db, .inl (cI, 20, .inl kS))] := hD
  refine lv_aload_n hx hb dX0_close_10 rfl (lv_at hl 0 rfl) ?_
  refine va_get (D := D) (ci := 0) (v := .ref dn) (C := RX0) (T := TX0) (N := 4) hx hb hts hinX0 hown hK hP 0 rfl rfl 1 (by decide) hk15 (fun _ h9 => h9) rfl dX0_close_11 ?_
  refine lv_aload_n hx hb dX0_close_14 rfl (lv_at hl 0 rfl) ?_
  refine va_get (D := D) (ci := 0) (v := .int (nI cl)) (C := RX0) (T := TX0) (N := 4) hx hb hts hinX0 hown hK hP 0 rfl rfl 3 (by decide) hk21 (fun _ h9 => h9) rfl dX0_close_15 ?_
  refine lv_iload_n hx hb dX0_close_18 rfl (lv_at hl 2 rfl) ?_
  refine f_astr hx hb hK hP hD hS 2 0 rfl rfl (by omega) (by decide) dX0_close_19 (fun H locs hP hD hS => ?_)
  have hP : va_P D vwCl [(ad, .inr (0, [.ref da, .ref dn, .ref db, .int (nI cl)])), (da, .inl (cI, 20, .inl (upd kA cl x1))), (dn, .inl (cI, 20, .inl (upd kN cl x2))), (db, .inl (cI, 20, .inl kS))] H := hP
  have hD : va_D A [(ad, .inr (0, [.ref da, .ref dn, .ref db, .int (nI cl)])), (da, .inl (cI, 20, .inl (upd kA cl x1))), (dn, .inl (cI, 20, .inl (upd kN cl x2))), (db, .inl (cI, 20, .inl kS))] := hD
  refine lv_aload_n hx hb dX0_close_20 rfl (lv_at hl 0 rfl) ?_
  refine va_get (D := D) (ci := 0) (v := .ref db) (C := RX0) (T := TX0) (N := 4) hx hb hts hinX0 hown hK hP 0 rfl rfl 2 (by decide) hk18 (fun _ h9 => h9) rfl dX0_close_21 ?_
  refine lv_aload_n hx hb dX0_close_24 rfl (lv_at hl 0 rfl) ?_
  refine va_get (D := D) (ci := 0) (v := .int (nI cl)) (C := RX0) (T := TX0) (N := 4) hx hb hts hinX0 hown hK hP 0 rfl rfl 3 (by decide) hk21 (fun _ h9 => h9) rfl dX0_close_25 ?_
  refine lv_iload_n hx hb dX0_close_28 rfl (lv_at hl 3 rfl) ?_
  refine f_astr hx hb hK hP hD hS 3 0 rfl rfl (by omega) (by decide) dX0_close_29 (fun H locs hP hD hS => ?_)
  have hP : va_P D vwCl [(ad, .inr (0, [.ref da, .ref dn, .ref db, .int (nI cl)])), (da, .inl (cI, 20, .inl (upd kA cl x1))), (dn, .inl (cI, 20, .inl (upd kN cl x2))), (db, .inl (cI, 20, .inl (upd kS cl x3)))] H := hP
  have hD : va_D A [(ad, .inr (0, [.ref da, .ref dn, .ref db, .int (nI cl)])), (da, .inl (cI, 20, .inl (upd kA cl x1))), (dn, .inl (cI, 20, .inl (upd kN cl x2))), (db, .inl (cI, 20, .inl (upd kS cl x3)))] := hD
  refine lv_aload_n hx hb dX0_close_30 rfl (lv_at hl 0 rfl) ?_
  refine lv_dup hx hb dX0_close_31 rfl ?_
  refine va_get (D := D) (ci := 0) (v := .int (nI cl)) (C := RX0) (T := TX0) (N := 4) hx hb hts hinX0 hown hK hP 0 rfl rfl 3 (by decide) hk21 (fun _ h9 => h9) rfl dX0_close_32 ?_
  refine lv_iconst (v := nI 1) hx hb dX0_close_35 (by decide) ?_
  refine f_add hx hb dX0_close_36 ?_
  refine va_put (D := D) (ci := 0) (v := .int (nI (cl + 1))) (ty := .int) (C := RX0) (T := TX0) (N := 4) hx hb hts hinX0 tyX0 tyX0_ok nmX0 hown hK hP hD hS 0 rfl rfl 3 (by decide) hk21 (fun _ h9 => h9) rfl (by decide +kernel) rfl rfl (Nat.le_of_ble_eq_true rfl) dX0_close_37 (fun H locs hP hD hS => ?_)
  have hP : va_P D vwCl [(ad, .inr (0, [.ref da, .ref dn, .ref db, .int (nI (cl + 1))])), (da, .inl (cI, 20, .inl (upd kA cl x1))), (dn, .inl (cI, 20, .inl (upd kN cl x2))), (db, .inl (cI, 20, .inl (upd kS cl x3)))] H := hP
  have hD : va_D A [(ad, .inr (0, [.ref da, .ref dn, .ref db, .int (nI (cl + 1))])), (da, .inl (cI, 20, .inl (upd kA cl x1))), (dn, .inl (cI, 20, .inl (upd kN cl x2))), (db, .inl (cI, 20, .inl (upd kS cl x3)))] := hD
  exact muRv hx hb hr hlocks () (trivial) hP hD hS dX0_close_40

abbrev rm_X0_activeUsersOn : Room := { frames := 0, cells := 0, slots := 0, locals := 0 }
set_option maxHeartbeats 8000000 in
set_option maxRecDepth 100000 in
theorem c_X0_activeUsersOn (l : Launch) (D : va_G) (cI : ClassId) (ad : Nat) (da : Nat) (dn : Nat) (db : Nat) (kA : Nat → Int32) (kN : Nat → Int32) (kS : Nat → Int32) (cl : Nat) (j : Nat) (hj : j < 20) : Met l yX0_activeUsersOn wsX0_activeUsersOn rm_X0_activeUsersOn (roP D (tI cI) [.ref ad, .int (nI j)] [(ad, .inr (0, [.ref da, .ref dn, .ref db, .int (nI cl)])), (da, .inl (cI, 20, .inl kA)), (dn, .inl (cI, 20, .inl kN)), (db, .inl (cI, 20, .inl kS))]) (QcRead (kA j)) 0 0 (fun _ => False) := by
  refine roOf (cc := cX0_activeUsersOn) (maxL := 2) (ret := (some .int)) (by decide) rfl (Nat.le_of_ble_eq_true rfl) ?_
  intro p e s m below meth c ls hx hb hml hown hts hr hlocks hP hK hZ hl
  have hown : s.vm.findClass RX0 = some m.cls := hown
  have hl : lv_has ls 2 [(0, .ref ad), (1, .int (nI j))] := hl
  have hF : CallFix p m c cX0_activeUsersOn 2 s [.ref ad, .int (nI j)].toArray wsX0_activeUsersOn RX0 := ⟨hx, hb, hml, hown, hts⟩
  have hinX0 : ∀ w ∈ wsX00, w ∈ wsX0_activeUsersOn := by decide +kernel
  have hk9 := hts (.fieldLink RX0 9 "FunnelFold$DayBook" "activeUsers" "[I") (by decide +kernel)
  refine lv_aload_n hx hb dX0_activeUsersOn_0 rfl (lv_at hl 0 rfl) ?_
  refine va_get (D := D) (ci := 0) (v := .ref da) (C := RX0) (T := TX0) (N := 4) hx hb hts hinX0 hown hK hP 0 rfl rfl 0 (by decide) hk9 (fun _ h9 => h9) rfl dX0_activeUsersOn_1 ?_
  refine lv_iload_n hx hb dX0_activeUsersOn_4 rfl (lv_at hl 1 rfl) ?_
  refine f_aldr hx hb hK hP 1 0 rfl rfl (by omega) (by decide) dX0_activeUsersOn_5 ?_
  exact roRi hx hb hr hlocks (rfl) dX0_activeUsersOn_6

abbrev rm_X0_newUsersOn : Room := { frames := 0, cells := 0, slots := 0, locals := 0 }
set_option maxHeartbeats 8000000 in
set_option maxRecDepth 100000 in
theorem c_X0_newUsersOn (l : Launch) (D : va_G) (cI : ClassId) (ad : Nat) (da : Nat) (dn : Nat) (db : Nat) (kA : Nat → Int32) (kN : Nat → Int32) (kS : Nat → Int32) (cl : Nat) (j : Nat) (hj : j < 20) : Met l yX0_newUsersOn wsX0_newUsersOn rm_X0_newUsersOn (roP D (tI cI) [.ref ad, .int (nI j)] [(ad, .inr (0, [.ref da, .ref dn, .ref db, .int (nI cl)])), (da, .inl (cI, 20, .inl kA)), (dn, .inl (cI, 20, .inl kN)), (db, .inl (cI, 20, .inl kS))]) (QcRead (kN j)) 0 0 (fun _ => False) := by
  refine roOf (cc := cX0_newUsersOn) (maxL := 2) (ret := (some .int)) (by decide) rfl (Nat.le_of_ble_eq_true rfl) ?_
  intro p e s m below meth c ls hx hb hml hown hts hr hlocks hP hK hZ hl
  have hown : s.vm.findClass RX0 = some m.cls := hown
  have hl : lv_has ls 2 [(0, .ref ad), (1, .int (nI j))] := hl
  have hF : CallFix p m c cX0_newUsersOn 2 s [.ref ad, .int (nI j)].toArray wsX0_newUsersOn RX0 := ⟨hx, hb, hml, hown, hts⟩
  have hinX0 : ∀ w ∈ wsX00, w ∈ wsX0_newUsersOn := by decide +kernel
  have hk15 := hts (.fieldLink RX0 15 "FunnelFold$DayBook" "newUsers" "[I") (by decide +kernel)
  refine lv_aload_n hx hb dX0_newUsersOn_0 rfl (lv_at hl 0 rfl) ?_
  refine va_get (D := D) (ci := 0) (v := .ref dn) (C := RX0) (T := TX0) (N := 4) hx hb hts hinX0 hown hK hP 0 rfl rfl 1 (by decide) hk15 (fun _ h9 => h9) rfl dX0_newUsersOn_1 ?_
  refine lv_iload_n hx hb dX0_newUsersOn_4 rfl (lv_at hl 1 rfl) ?_
  refine f_aldr hx hb hK hP 2 0 rfl rfl (by omega) (by decide) dX0_newUsersOn_5 ?_
  exact roRi hx hb hr hlocks (rfl) dX0_newUsersOn_6

abbrev rm_X0_sessionsOn : Room := { frames := 0, cells := 0, slots := 0, locals := 0 }
set_option maxHeartbeats 8000000 in
set_option maxRecDepth 100000 in
theorem c_X0_sessionsOn (l : Launch) (D : va_G) (cI : ClassId) (ad : Nat) (da : Nat) (dn : Nat) (db : Nat) (kA : Nat → Int32) (kN : Nat → Int32) (kS : Nat → Int32) (cl : Nat) (j : Nat) (hj : j < 20) : Met l yX0_sessionsOn wsX0_sessionsOn rm_X0_sessionsOn (roP D (tI cI) [.ref ad, .int (nI j)] [(ad, .inr (0, [.ref da, .ref dn, .ref db, .int (nI cl)])), (da, .inl (cI, 20, .inl kA)), (dn, .inl (cI, 20, .inl kN)), (db, .inl (cI, 20, .inl kS))]) (QcRead (kS j)) 0 0 (fun _ => False) := by
  refine roOf (cc := cX0_sessionsOn) (maxL := 2) (ret := (some .int)) (by decide) rfl (Nat.le_of_ble_eq_true rfl) ?_
  intro p e s m below meth c ls hx hb hml hown hts hr hlocks hP hK hZ hl
  have hown : s.vm.findClass RX0 = some m.cls := hown
  have hl : lv_has ls 2 [(0, .ref ad), (1, .int (nI j))] := hl
  have hF : CallFix p m c cX0_sessionsOn 2 s [.ref ad, .int (nI j)].toArray wsX0_sessionsOn RX0 := ⟨hx, hb, hml, hown, hts⟩
  have hinX0 : ∀ w ∈ wsX00, w ∈ wsX0_sessionsOn := by decide +kernel
  have hk18 := hts (.fieldLink RX0 18 "FunnelFold$DayBook" "begunSessions" "[I") (by decide +kernel)
  refine lv_aload_n hx hb dX0_sessionsOn_0 rfl (lv_at hl 0 rfl) ?_
  refine va_get (D := D) (ci := 0) (v := .ref db) (C := RX0) (T := TX0) (N := 4) hx hb hts hinX0 hown hK hP 0 rfl rfl 2 (by decide) hk18 (fun _ h9 => h9) rfl dX0_sessionsOn_1 ?_
  refine lv_iload_n hx hb dX0_sessionsOn_4 rfl (lv_at hl 1 rfl) ?_
  refine f_aldr hx hb hK hP 3 0 rfl rfl (by omega) (by decide) dX0_sessionsOn_5 ?_
  exact roRi hx hb hr hlocks (rfl) dX0_sessionsOn_6

abbrev rm_X4_dayOf : Room := { frames := 0, cells := 0, slots := 0, locals := 0 }
set_option maxHeartbeats 8000000 in
set_option maxRecDepth 100000 in
theorem c_X4_dayOf (l : Launch) (t : Nat) (ht : t < 2 ^ 31) : Met l yX4_dayOf wsX4_dayOf rm_X4_dayOf (stP [.int (nI t)]) (QcRead (nI (t / 100))) 0 0 (fun _ => False) := by
  refine stOf (cc := cX4_dayOf) (maxL := 1) (ret := (some .int)) (by decide) rfl (Nat.le_of_ble_eq_true rfl) ?_
  intro p e s m below meth c ls hx hb hml hown hts hr hlocks hl
  have hown : s.vm.findClass RX4 = some m.cls := hown
  have hl : lv_has ls 1 [(0, .int (nI t))] := hl
  have hF : CallFix p m c cX4_dayOf 1 s [.int (nI t)].toArray wsX4_dayOf RX4 := ⟨hx, hb, hml, hown, hts⟩
  refine lv_iload_n hx hb dX4_dayOf_0 rfl (lv_at hl 0 rfl) ?_
  refine lv_bipush (v := nI 100) hx hb dX4_dayOf_1 (by decide) ?_
  refine f_div hx hb (by omega) (by omega) (by omega) dX4_dayOf_3 ?_
  exact roRi hx hb hr hlocks (rfl) dX4_dayOf_4

abbrev rm_X3_clear : Room := { frames := 0, cells := 0, slots := 0, locals := 0 }
abbrev q_X3_clear (D : va_G) (cI : ClassId) (at_ : Nat) (tn : Nat) (tk : Nat) (tt : Nat) (na : Nat → Nat) (ka : Nat → Int32) (ta : Nat → Nat) (tc : Nat) (A : Nat → Prop) : Array Value → State → Outcome → State → Prop := muQv D (fun (u : Unit) => True) (fun (u : Unit) => [(at_, .inr (3, [.ref tn, .ref tk, .ref tt, .int (nI 0)])), (tn, .inl (cI, 250, .inl (nF na))), (tk, .inl (cI, 250, .inl ka)), (tt, .inl (cI, 250, .inl (nF ta)))]) A
set_option maxHeartbeats 8000000 in
set_option maxRecDepth 100000 in
theorem c_X3_clear (l : Launch) (D : va_G) (cI : ClassId) (at_ : Nat) (tn : Nat) (tk : Nat) (tt : Nat) (na : Nat → Nat) (ka : Nat → Int32) (ta : Nat → Nat) (tc : Nat) (sz : Nat)  : Met l yX3_clear wsX3_clear rm_X3_clear (muP D (tI cI) [.ref at_] [(at_, .inr (3, [.ref tn, .ref tk, .ref tt, .int (nI tc)])), (tn, .inl (cI, 250, .inl (nF na))), (tk, .inl (cI, 250, .inl ka)), (tt, .inl (cI, 250, .inl (nF ta)))] sz) (q_X3_clear D cI at_ tn tk tt na ka ta tc (va_A [(at_, .inr (3, [.ref tn, .ref tk, .ref tt, .int (nI tc)])), (tn, .inl (cI, 250, .inl (nF na))), (tk, .inl (cI, 250, .inl ka)), (tt, .inl (cI, 250, .inl (nF ta)))] sz)) 0 0 (va_A [(at_, .inr (3, [.ref tn, .ref tk, .ref tt, .int (nI tc)])), (tn, .inl (cI, 250, .inl (nF na))), (tk, .inl (cI, 250, .inl ka)), (tt, .inl (cI, 250, .inl (nF ta)))] sz) := by
  refine muOf (Qc := fun A => q_X3_clear D cI at_ tn tk tt na ka ta tc A) (cc := cX3_clear) (maxL := 1) (ret := none) (by decide) rfl (Nat.le_of_ble_eq_true rfl) ?_
  intro p e s m below meth c ls A hx hb hml hown hts hr hlocks hnm hP hK hZ hD hA hS hl
  have hown : s.vm.findClass RX3 = some m.cls := hown
  have hl : lv_has ls 1 [(0, .ref at_)] := hl
  have hF : CallFix p m c cX3_clear 1 s [.ref at_].toArray wsX3_clear RX3 := ⟨hx, hb, hml, hown, hts⟩
  have hinX3 : ∀ w ∈ wsX30, w ∈ wsX3_clear := by decide +kernel
  have hk21 := hts (.fieldLink RX3 21 "FunnelFold$Timeline" "count" "I") (by decide +kernel)
  refine lv_aload_n hx hb dX3_clear_0 rfl (lv_at hl 0 rfl) ?_
  refine lv_iconst (v := nI 0) hx hb dX3_clear_1 (by decide) ?_
  refine va_put (D := D) (ci := 3) (v := .int (nI 0)) (ty := .int) (C := RX3) (T := TX3) (N := 4) hx hb hts hinX3 tyX3 tyX3_ok nmX3 hown hK hP hD hS 0 rfl rfl 3 (by decide) hk21 (fun _ h9 => h9) rfl (by decide +kernel) rfl rfl (Nat.le_of_ble_eq_true rfl) dX3_clear_2 (fun H locs hP hD hS => ?_)
  have hP : va_P D vwCl [(at_, .inr (3, [.ref tn, .ref tk, .ref tt, .int (nI 0)])), (tn, .inl (cI, 250, .inl (nF na))), (tk, .inl (cI, 250, .inl ka)), (tt, .inl (cI, 250, .inl (nF ta)))] H := hP
  have hD : va_D A [(at_, .inr (3, [.ref tn, .ref tk, .ref tt, .int (nI 0)])), (tn, .inl (cI, 250, .inl (nF na))), (tk, .inl (cI, 250, .inl ka)), (tt, .inl (cI, 250, .inl (nF ta)))] := hD
  exact muRv hx hb hr hlocks () (trivial) hP hD hS dX3_clear_5

abbrev rm_X3_append : Room := { frames := 0, cells := 0, slots := 0, locals := 0 }
abbrev q_X3_append (D : va_G) (cI : ClassId) (at_ : Nat) (tn : Nat) (tk : Nat) (tt : Nat) (na : Nat → Nat) (ka : Nat → Int32) (ta : Nat → Nat) (tc : Nat) (i : Nat) (k : Int32) (t : Nat) (A : Nat → Prop) : Array Value → State → Outcome → State → Prop := muQv D (fun (u : Unit) => True) (fun (u : Unit) => [(at_, .inr (3, [.ref tn, .ref tk, .ref tt, .int (nI (tc + 1))])), (tn, .inl (cI, 250, .inl (nF (va_up na tc i)))), (tk, .inl (cI, 250, .inl (upd ka tc k))), (tt, .inl (cI, 250, .inl (nF (va_up ta tc t))))]) A
set_option maxHeartbeats 8000000 in
set_option maxRecDepth 100000 in
theorem c_X3_append (l : Launch) (D : va_G) (cI : ClassId) (at_ : Nat) (tn : Nat) (tk : Nat) (tt : Nat) (na : Nat → Nat) (ka : Nat → Int32) (ta : Nat → Nat) (tc : Nat) (i : Nat) (k : Int32) (t : Nat) (sz : Nat) (hc : tc < 250) : Met l yX3_append wsX3_append rm_X3_append (muP D (tI cI) [.ref at_, .int (nI i), .int k, .int (nI t)] [(at_, .inr (3, [.ref tn, .ref tk, .ref tt, .int (nI tc)])), (tn, .inl (cI, 250, .inl (nF na))), (tk, .inl (cI, 250, .inl ka)), (tt, .inl (cI, 250, .inl (nF ta)))] sz) (q_X3_append D cI at_ tn tk tt na ka ta tc i k t (va_A [(at_, .inr (3, [.ref tn, .ref tk, .ref tt, .int (nI tc)])), (tn, .inl (cI, 250, .inl (nF na))), (tk, .inl (cI, 250, .inl ka)), (tt, .inl (cI, 250, .inl (nF ta)))] sz)) 0 0 (va_A [(at_, .inr (3, [.ref tn, .ref tk, .ref tt, .int (nI tc)])), (tn, .inl (cI, 250, .inl (nF na))), (tk, .inl (cI, 250, .inl ka)), (tt, .inl (cI, 250, .inl (nF ta)))] sz) := by
  refine muOf (Qc := fun A => q_X3_append D cI at_ tn tk tt na ka ta tc i k t A) (cc := cX3_append) (maxL := 4) (ret := none) (by decide) rfl (Nat.le_of_ble_eq_true rfl) ?_
  intro p e s m below meth c ls A hx hb hml hown hts hr hlocks hnm hP hK hZ hD hA hS hl
  have hown : s.vm.findClass RX3 = some m.cls := hown
  have hl : lv_has ls 4 [(0, .ref at_), (1, .int (nI i)), (2, .int k), (3, .int (nI t))] := hl
  have hF : CallFix p m c cX3_append 4 s [.ref at_, .int (nI i), .int k, .int (nI t)].toArray wsX3_append RX3 := ⟨hx, hb, hml, hown, hts⟩
  have hinX3 : ∀ w ∈ wsX30, w ∈ wsX3_append := by decide +kernel
  have hk9 := hts (.fieldLink RX3 9 "FunnelFold$Timeline" "numbers" "[I") (by decide +kernel)
  have hk21 := hts (.fieldLink RX3 21 "FunnelFold$Timeline" "count" "I") (by decide +kernel)
  have hk15 := hts (.fieldLink RX3 15 "FunnelFold$Timeline" "kinds" "[I") (by decide +kernel)
  have hk18 := hts (.fieldLink RX3 18 "FunnelFold$Timeline" "times" "[I") (by decide +kernel)
  refine lv_aload_n hx hb dX3_append_0 rfl (lv_at hl 0 rfl) ?_
  refine va_get (D := D) (ci := 3) (v := .ref tn) (C := RX3) (T := TX3) (N := 4) hx hb hts hinX3 hown hK hP 0 rfl rfl 0 (by decide) hk9 (fun _ h9 => h9) rfl dX3_append_1 ?_
  refine lv_aload_n hx hb dX3_append_4 rfl (lv_at hl 0 rfl) ?_
  refine va_get (D := D) (ci := 3) (v := .int (nI tc)) (C := RX3) (T := TX3) (N := 4) hx hb hts hinX3 hown hK hP 0 rfl rfl 3 (by decide) hk21 (fun _ h9 => h9) rfl dX3_append_5 ?_
  refine lv_iload_n hx hb dX3_append_8 rfl (lv_at hl 1 rfl) ?_
  refine f_ast hx hb hK hP hD hS 1 0 rfl rfl (by omega) (by decide) dX3_append_9 (fun H locs hP hD hS => ?_)
  have hP : va_P D vwCl [(at_, .inr (3, [.ref tn, .ref tk, .ref tt, .int (nI tc)])), (tn, .inl (cI, 250, .inl (nF (va_up na tc i)))), (tk, .inl (cI, 250, .inl ka)), (tt, .inl (cI, 250, .inl (nF ta)))] H := hP
  have hD : va_D A [(at_, .inr (3, [.ref tn, .ref tk, .ref tt, .int (nI tc)])), (tn, .inl (cI, 250, .inl (nF (va_up na tc i)))), (tk, .inl (cI, 250, .inl ka)), (tt, .inl (cI, 250, .inl (nF ta)))] := hD
  refine lv_aload_n hx hb dX3_append_10 rfl (lv_at hl 0 rfl) ?_
  refine va_get (D := D) (ci := 3) (v := .ref tk) (C := RX3) (T := TX3) (N := 4) hx hb hts hinX3 hown hK hP 0 rfl rfl 1 (by decide) hk15 (fun _ h9 => h9) rfl dX3_append_11 ?_
  refine lv_aload_n hx hb dX3_append_14 rfl (lv_at hl 0 rfl) ?_
  refine va_get (D := D) (ci := 3) (v := .int (nI tc)) (C := RX3) (T := TX3) (N := 4) hx hb hts hinX3 hown hK hP 0 rfl rfl 3 (by decide) hk21 (fun _ h9 => h9) rfl dX3_append_15 ?_
  refine lv_iload_n hx hb dX3_append_18 rfl (lv_at hl 2 rfl) ?_
  refine f_astr hx hb hK hP hD hS 2 0 rfl rfl (by omega) (by decide) dX3_append_19 (fun H locs hP hD hS => ?_)
  have hP : va_P D vwCl [(at_, .inr (3, [.ref tn, .ref tk, .ref tt, .int (nI tc)])), (tn, .inl (cI, 250, .inl (nF (va_up na tc i)))), (tk, .inl (cI, 250, .inl (upd ka tc k))), (tt, .inl (cI, 250, .inl (nF ta)))] H := hP
  have hD : va_D A [(at_, .inr (3, [.ref tn, .ref tk, .ref tt, .int (nI tc)])), (tn, .inl (cI, 250, .inl (nF (va_up na tc i)))), (tk, .inl (cI, 250, .inl (upd ka tc k))), (tt, .inl (cI, 250, .inl (nF ta)))] := hD
  refine lv_aload_n hx hb dX3_append_20 rfl (lv_at hl 0 rfl) ?_
  refine va_get (D := D) (ci := 3) (v := .ref tt) (C := RX3) (T := TX3) (N := 4) hx hb hts hinX3 hown hK hP 0 rfl rfl 2 (by decide) hk18 (fun _ h9 => h9) rfl dX3_append_21 ?_
  refine lv_aload_n hx hb dX3_append_24 rfl (lv_at hl 0 rfl) ?_
  refine va_get (D := D) (ci := 3) (v := .int (nI tc)) (C := RX3) (T := TX3) (N := 4) hx hb hts hinX3 hown hK hP 0 rfl rfl 3 (by decide) hk21 (fun _ h9 => h9) rfl dX3_append_25 ?_
  refine lv_iload_n hx hb dX3_append_28 rfl (lv_at hl 3 rfl) ?_
  refine f_ast hx hb hK hP hD hS 3 0 rfl rfl (by omega) (by decide) dX3_append_29 (fun H locs hP hD hS => ?_)
  have hP : va_P D vwCl [(at_, .inr (3, [.ref tn, .ref tk, .ref tt, .int (nI tc)])), (tn, .inl (cI, 250, .inl (nF (va_up na tc i)))), (tk, .inl (cI, 250, .inl (upd ka tc k))), (tt, .inl (cI, 250, .inl (nF (va_up ta tc t))))] H := hP
  have hD : va_D A [(at_, .inr (3, [.ref tn, .ref tk, .ref tt, .int (nI tc)])), (tn, .inl (cI, 250, .inl (nF (va_up na tc i)))), (tk, .inl (cI, 250, .inl (upd ka tc k))), (tt, .inl (cI, 250, .inl (nF (va_up ta tc t))))] := hD
  refine lv_aload_n hx hb dX3_append_30 rfl (lv_at hl 0 rfl) ?_
  refine lv_dup hx hb dX3_append_31 rfl ?_
  refine va_get (D := D) (ci := 3) (v := .int (nI tc)) (C := RX3) (T := TX3) (N := 4) hx hb hts hinX3 hown hK hP 0 rfl rfl 3 (by decide) hk21 (fun _ h9 => h9) rfl dX3_append_32 ?_
  refine lv_iconst (v := nI 1) hx hb dX3_append_35 (by decide) ?_
  refine f_add hx hb dX3_append_36 ?_
  refine va_put (D := D) (ci := 3) (v := .int (nI (tc + 1))) (ty := .int) (C := RX3) (T := TX3) (N := 4) hx hb hts hinX3 tyX3 tyX3_ok nmX3 hown hK hP hD hS 0 rfl rfl 3 (by decide) hk21 (fun _ h9 => h9) rfl (by decide +kernel) rfl rfl (Nat.le_of_ble_eq_true rfl) dX3_append_37 (fun H locs hP hD hS => ?_)
  have hP : va_P D vwCl [(at_, .inr (3, [.ref tn, .ref tk, .ref tt, .int (nI (tc + 1))])), (tn, .inl (cI, 250, .inl (nF (va_up na tc i)))), (tk, .inl (cI, 250, .inl (upd ka tc k))), (tt, .inl (cI, 250, .inl (nF (va_up ta tc t))))] H := hP
  have hD : va_D A [(at_, .inr (3, [.ref tn, .ref tk, .ref tt, .int (nI (tc + 1))])), (tn, .inl (cI, 250, .inl (nF (va_up na tc i)))), (tk, .inl (cI, 250, .inl (upd ka tc k))), (tt, .inl (cI, 250, .inl (nF (va_up ta tc t))))] := hD
  exact muRv hx hb hr hlocks () (trivial) hP hD hS dX3_append_40

abbrev rm_X3_count : Room := { frames := 0, cells := 0, slots := 0, locals := 0 }
set_option maxHeartbeats 8000000 in
set_option maxRecDepth 100000 in
theorem c_X3_count (l : Launch) (D : va_G) (cI : ClassId) (at_ : Nat) (tn : Nat) (tk : Nat) (tt : Nat) (tc : Nat)  : Met l yX3_count wsX3_count rm_X3_count (roP D (tI cI) [.ref at_] [(at_, .inr (3, [.ref tn, .ref tk, .ref tt, .int (nI tc)]))]) (QcRead (nI tc)) 0 0 (fun _ => False) := by
  refine roOf (cc := cX3_count) (maxL := 1) (ret := (some .int)) (by decide) rfl (Nat.le_of_ble_eq_true rfl) ?_
  intro p e s m below meth c ls hx hb hml hown hts hr hlocks hP hK hZ hl
  have hown : s.vm.findClass RX3 = some m.cls := hown
  have hl : lv_has ls 1 [(0, .ref at_)] := hl
  have hF : CallFix p m c cX3_count 1 s [.ref at_].toArray wsX3_count RX3 := ⟨hx, hb, hml, hown, hts⟩
  have hinX3 : ∀ w ∈ wsX30, w ∈ wsX3_count := by decide +kernel
  have hk21 := hts (.fieldLink RX3 21 "FunnelFold$Timeline" "count" "I") (by decide +kernel)
  refine lv_aload_n hx hb dX3_count_0 rfl (lv_at hl 0 rfl) ?_
  refine va_get (D := D) (ci := 3) (v := .int (nI tc)) (C := RX3) (T := TX3) (N := 4) hx hb hts hinX3 hown hK hP 0 rfl rfl 3 (by decide) hk21 (fun _ h9 => h9) rfl dX3_count_1 ?_
  exact roRi hx hb hr hlocks (rfl) dX3_count_4

abbrev rm_X3_numberAt : Room := { frames := 0, cells := 0, slots := 0, locals := 0 }
set_option maxHeartbeats 8000000 in
set_option maxRecDepth 100000 in
theorem c_X3_numberAt (l : Launch) (D : va_G) (cI : ClassId) (at_ : Nat) (tn : Nat) (tk : Nat) (tt : Nat) (na : Nat → Nat) (ka : Nat → Int32) (ta : Nat → Nat) (tc : Nat) (j : Nat) (hj : j < 250) : Met l yX3_numberAt wsX3_numberAt rm_X3_numberAt (roP D (tI cI) [.ref at_, .int (nI j)] [(at_, .inr (3, [.ref tn, .ref tk, .ref tt, .int (nI tc)])), (tn, .inl (cI, 250, .inl (nF na))), (tk, .inl (cI, 250, .inl ka)), (tt, .inl (cI, 250, .inl (nF ta)))]) (QcRead (nI (na j))) 0 0 (fun _ => False) := by
  refine roOf (cc := cX3_numberAt) (maxL := 2) (ret := (some .int)) (by decide) rfl (Nat.le_of_ble_eq_true rfl) ?_
  intro p e s m below meth c ls hx hb hml hown hts hr hlocks hP hK hZ hl
  have hown : s.vm.findClass RX3 = some m.cls := hown
  have hl : lv_has ls 2 [(0, .ref at_), (1, .int (nI j))] := hl
  have hF : CallFix p m c cX3_numberAt 2 s [.ref at_, .int (nI j)].toArray wsX3_numberAt RX3 := ⟨hx, hb, hml, hown, hts⟩
  have hinX3 : ∀ w ∈ wsX30, w ∈ wsX3_numberAt := by decide +kernel
  have hk9 := hts (.fieldLink RX3 9 "FunnelFold$Timeline" "numbers" "[I") (by decide +kernel)
  refine lv_aload_n hx hb dX3_numberAt_0 rfl (lv_at hl 0 rfl) ?_
  refine va_get (D := D) (ci := 3) (v := .ref tn) (C := RX3) (T := TX3) (N := 4) hx hb hts hinX3 hown hK hP 0 rfl rfl 0 (by decide) hk9 (fun _ h9 => h9) rfl dX3_numberAt_1 ?_
  refine lv_iload_n hx hb dX3_numberAt_4 rfl (lv_at hl 1 rfl) ?_
  refine f_ald hx hb hK hP 1 0 rfl rfl (by omega) (by decide) dX3_numberAt_5 ?_
  exact roRi hx hb hr hlocks (rfl) dX3_numberAt_6

abbrev rm_X3_kindAt : Room := { frames := 0, cells := 0, slots := 0, locals := 0 }
set_option maxHeartbeats 8000000 in
set_option maxRecDepth 100000 in
theorem c_X3_kindAt (l : Launch) (D : va_G) (cI : ClassId) (at_ : Nat) (tn : Nat) (tk : Nat) (tt : Nat) (na : Nat → Nat) (ka : Nat → Int32) (ta : Nat → Nat) (tc : Nat) (j : Nat) (hj : j < 250) : Met l yX3_kindAt wsX3_kindAt rm_X3_kindAt (roP D (tI cI) [.ref at_, .int (nI j)] [(at_, .inr (3, [.ref tn, .ref tk, .ref tt, .int (nI tc)])), (tn, .inl (cI, 250, .inl (nF na))), (tk, .inl (cI, 250, .inl ka)), (tt, .inl (cI, 250, .inl (nF ta)))]) (QcRead (ka j)) 0 0 (fun _ => False) := by
  refine roOf (cc := cX3_kindAt) (maxL := 2) (ret := (some .int)) (by decide) rfl (Nat.le_of_ble_eq_true rfl) ?_
  intro p e s m below meth c ls hx hb hml hown hts hr hlocks hP hK hZ hl
  have hown : s.vm.findClass RX3 = some m.cls := hown
  have hl : lv_has ls 2 [(0, .ref at_), (1, .int (nI j))] := hl
  have hF : CallFix p m c cX3_kindAt 2 s [.ref at_, .int (nI j)].toArray wsX3_kindAt RX3 := ⟨hx, hb, hml, hown, hts⟩
  have hinX3 : ∀ w ∈ wsX30, w ∈ wsX3_kindAt := by decide +kernel
  have hk15 := hts (.fieldLink RX3 15 "FunnelFold$Timeline" "kinds" "[I") (by decide +kernel)
  refine lv_aload_n hx hb dX3_kindAt_0 rfl (lv_at hl 0 rfl) ?_
  refine va_get (D := D) (ci := 3) (v := .ref tk) (C := RX3) (T := TX3) (N := 4) hx hb hts hinX3 hown hK hP 0 rfl rfl 1 (by decide) hk15 (fun _ h9 => h9) rfl dX3_kindAt_1 ?_
  refine lv_iload_n hx hb dX3_kindAt_4 rfl (lv_at hl 1 rfl) ?_
  refine f_aldr hx hb hK hP 2 0 rfl rfl (by omega) (by decide) dX3_kindAt_5 ?_
  exact roRi hx hb hr hlocks (rfl) dX3_kindAt_6

abbrev rm_X3_timeAt : Room := { frames := 0, cells := 0, slots := 0, locals := 0 }
set_option maxHeartbeats 8000000 in
set_option maxRecDepth 100000 in
theorem c_X3_timeAt (l : Launch) (D : va_G) (cI : ClassId) (at_ : Nat) (tn : Nat) (tk : Nat) (tt : Nat) (na : Nat → Nat) (ka : Nat → Int32) (ta : Nat → Nat) (tc : Nat) (j : Nat) (hj : j < 250) : Met l yX3_timeAt wsX3_timeAt rm_X3_timeAt (roP D (tI cI) [.ref at_, .int (nI j)] [(at_, .inr (3, [.ref tn, .ref tk, .ref tt, .int (nI tc)])), (tn, .inl (cI, 250, .inl (nF na))), (tk, .inl (cI, 250, .inl ka)), (tt, .inl (cI, 250, .inl (nF ta)))]) (QcRead (nI (ta j))) 0 0 (fun _ => False) := by
  refine roOf (cc := cX3_timeAt) (maxL := 2) (ret := (some .int)) (by decide) rfl (Nat.le_of_ble_eq_true rfl) ?_
  intro p e s m below meth c ls hx hb hml hown hts hr hlocks hP hK hZ hl
  have hown : s.vm.findClass RX3 = some m.cls := hown
  have hl : lv_has ls 2 [(0, .ref at_), (1, .int (nI j))] := hl
  have hF : CallFix p m c cX3_timeAt 2 s [.ref at_, .int (nI j)].toArray wsX3_timeAt RX3 := ⟨hx, hb, hml, hown, hts⟩
  have hinX3 : ∀ w ∈ wsX30, w ∈ wsX3_timeAt := by decide +kernel
  have hk18 := hts (.fieldLink RX3 18 "FunnelFold$Timeline" "times" "[I") (by decide +kernel)
  refine lv_aload_n hx hb dX3_timeAt_0 rfl (lv_at hl 0 rfl) ?_
  refine va_get (D := D) (ci := 3) (v := .ref tt) (C := RX3) (T := TX3) (N := 4) hx hb hts hinX3 hown hK hP 0 rfl rfl 2 (by decide) hk18 (fun _ h9 => h9) rfl dX3_timeAt_1 ?_
  refine lv_iload_n hx hb dX3_timeAt_4 rfl (lv_at hl 1 rfl) ?_
  refine f_ald hx hb hK hP 3 0 rfl rfl (by omega) (by decide) dX3_timeAt_5 ?_
  exact roRi hx hb hr hlocks (rfl) dX3_timeAt_6

abbrev rm_X3_firstDay : Room := { frames := 1, cells := 0, slots := 0, locals := 20 }
set_option maxHeartbeats 8000000 in
set_option maxRecDepth 100000 in
theorem c_X3_firstDay (l : Launch) (D : va_G) (cI : ClassId) (at_ : Nat) (tn : Nat) (tk : Nat) (tt : Nat) (na : Nat → Nat) (ka : Nat → Int32) (ta : Nat → Nat) (tc : Nat) (hc : tc ≤ 250) (hta : ∀ k, ta k < 2000) : Met l yX3_firstDay wsX3_firstDay rm_X3_firstDay (roP D (tI cI) [.ref at_] [(at_, .inr (3, [.ref tn, .ref tk, .ref tt, .int (nI tc)])), (tn, .inl (cI, 250, .inl (nF na))), (tk, .inl (cI, 250, .inl ka)), (tt, .inl (cI, 250, .inl (nF ta)))]) (QcRead (fday tc ta)) 0 0 (fun _ => False) := by
  refine roOf (cc := cX3_firstDay) (maxL := 1) (ret := (some .int)) (by decide) rfl (Nat.le_of_ble_eq_true rfl) ?_
  intro p e s m below meth c ls hx hb hml hown hts hr hlocks hP hK hZ hl
  have hown : s.vm.findClass RX3 = some m.cls := hown
  have hl : lv_has ls 1 [(0, .ref at_)] := hl
  have hF : CallFix p m c cX3_firstDay 1 s [.ref at_].toArray wsX3_firstDay RX3 := ⟨hx, hb, hml, hown, hts⟩
  have hinX3 : ∀ w ∈ wsX30, w ∈ wsX3_firstDay := by decide +kernel
  have hk21 := hts (.fieldLink RX3 21 "FunnelFold$Timeline" "count" "I") (by decide +kernel)
  have hk18 := hts (.fieldLink RX3 18 "FunnelFold$Timeline" "times" "[I") (by decide +kernel)
  refine lv_aload_n hx hb dX3_firstDay_0 rfl (lv_at hl 0 rfl) ?_
  refine va_get (D := D) (ci := 3) (v := .int (nI tc)) (C := RX3) (T := TX3) (N := 4) hx hb hts hinX3 hown hK hP 0 rfl rfl 3 (by decide) hk21 (fun _ h9 => h9) rfl dX3_firstDay_1 ?_
  refine f_zne hx hb (by omega) (tgt := 11) dX3_firstDay_4 (by decide) (fun b4 => ?_) (fun b4 => ?_)
  · skip
    refine lv_aload_n hx hb dX3_firstDay_11 rfl (lv_at hl 0 rfl) ?_
    refine va_get (D := D) (ci := 3) (v := .ref tt) (C := RX3) (T := TX3) (N := 4) hx hb hts hinX3 hown hK hP 0 rfl rfl 2 (by decide) hk18 (fun _ h9 => h9) rfl dX3_firstDay_12 ?_
    refine lv_iconst (v := nI 0) hx hb dX3_firstDay_15 (by decide) ?_
    refine f_ald hx hb hK hP 3 0 rfl rfl (by omega) (by decide) dX3_firstDay_16 ?_
    have h0 := hta 0
    refine roC (va_runSN (As := [.int (nI (ta 0))]) (rest := []) hF (c_X4_dayOf l (ta 0) (by omega)) ⟨va_cnB 1 hts gX3_firstDay_X4_dayOf_n25 rfl rfl rfl hZ.2.2.1.2.2.2.2 (hts (.initialized RX4) (by decide +kernel)) (by decide +kernel) ⟨Nat.le_of_ble_eq_true rfl, Nat.le_of_ble_eq_true rfl⟩, hts (.static yX4_dayOf) (by decide +kernel), trivial⟩ preEq rfl rfl hl.1 rfl (lv_room (Nat.le_of_ble_eq_true rfl)) dX3_firstDay_17 ⟨Nat.le_of_ble_eq_true rfl, Nat.le_of_ble_eq_true rfl⟩) ?_
    exact roRi hx hb hr hlocks ((fday_s b4).symm) dX3_firstDay_20
  · skip
    refine lv_iconst (v := (-1)) hx hb dX3_firstDay_7 (by decide) ?_
    refine lv_goto (tgt := 20) hx hb dX3_firstDay_8 (by decide) ?_
    exact roRi hx hb hr hlocks ((fday_0 b4).symm) dX3_firstDay_20

abbrev rm_X3_beginsSession : Room := { frames := 0, cells := 0, slots := 0, locals := 0 }
set_option maxHeartbeats 8000000 in
set_option maxRecDepth 100000 in
theorem c_X3_beginsSession (l : Launch) (D : va_G) (cI : ClassId) (at_ : Nat) (tn : Nat) (tk : Nat) (tt : Nat) (na : Nat → Nat) (ka : Nat → Int32) (ta : Nat → Nat) (tc : Nat) (j : Nat) (gp : Nat) (hj : j < 250) (hta : ∀ k, ta k < 2000) (hg : gp ≤ 500) : Met l yX3_beginsSession wsX3_beginsSession rm_X3_beginsSession (roP D (tI cI) [.ref at_, .int (nI j), .int (nI gp)] [(at_, .inr (3, [.ref tn, .ref tk, .ref tt, .int (nI tc)])), (tn, .inl (cI, 250, .inl (nF na))), (tk, .inl (cI, 250, .inl ka)), (tt, .inl (cI, 250, .inl (nF ta)))]) (QcRead (bI (bs ta gp j))) 0 0 (fun _ => False) := by
  refine roOf (cc := cX3_beginsSession) (maxL := 3) (ret := (some .boolean)) (by decide) rfl (Nat.le_of_ble_eq_true rfl) ?_
  intro p e s m below meth c ls hx hb hml hown hts hr hlocks hP hK hZ hl
  have hown : s.vm.findClass RX3 = some m.cls := hown
  have hl : lv_has ls 3 [(0, .ref at_), (1, .int (nI j)), (2, .int (nI gp))] := hl
  have hF : CallFix p m c cX3_beginsSession 3 s [.ref at_, .int (nI j), .int (nI gp)].toArray wsX3_beginsSession RX3 := ⟨hx, hb, hml, hown, hts⟩
  have hinX3 : ∀ w ∈ wsX30, w ∈ wsX3_beginsSession := by decide +kernel
  have hk18 := hts (.fieldLink RX3 18 "FunnelFold$Timeline" "times" "[I") (by decide +kernel)
  refine lv_iload_n hx hb dX3_beginsSession_0 rfl (lv_at hl 1 rfl) ?_
  refine f_zeq hx hb (by omega) (tgt := 23) dX3_beginsSession_1 (by decide) (fun b1 => ?_) (fun b1 => ?_)
  · skip
    refine lv_iconst (v := nI 1) hx hb dX3_beginsSession_23 (by decide) ?_
    refine lv_goto (tgt := 28) hx hb dX3_beginsSession_24 (by decide) ?_
    exact roRz hx hb hr hlocks (bT (by first | exact bs_0 b1 | exact bs_t (hta _) (hta _) hg b20 | exact bs_f b1 (hta _) (hta _) hg b20)) dX3_beginsSession_28
  · skip
    refine lv_aload_n hx hb dX3_beginsSession_4 rfl (lv_at hl 0 rfl) ?_
    refine va_get (D := D) (ci := 3) (v := .ref tt) (C := RX3) (T := TX3) (N := 4) hx hb hts hinX3 hown hK hP 0 rfl rfl 2 (by decide) hk18 (fun _ h9 => h9) rfl dX3_beginsSession_5 ?_
    refine lv_iload_n hx hb dX3_beginsSession_8 rfl (lv_at hl 1 rfl) ?_
    refine f_ald hx hb hK hP 3 0 rfl rfl (by omega) (by decide) dX3_beginsSession_9 ?_
    refine lv_aload_n hx hb dX3_beginsSession_10 rfl (lv_at hl 0 rfl) ?_
    refine va_get (D := D) (ci := 3) (v := .ref tt) (C := RX3) (T := TX3) (N := 4) hx hb hts hinX3 hown hK hP 0 rfl rfl 2 (by decide) hk18 (fun _ h9 => h9) rfl dX3_beginsSession_11 ?_
    refine lv_iload_n hx hb dX3_beginsSession_14 rfl (lv_at hl 1 rfl) ?_
    refine lv_iconst (v := nI 1) hx hb dX3_beginsSession_15 (by decide) ?_
    refine f_sub hx hb (by omega) dX3_beginsSession_16 ?_
    refine f_ald hx hb hK hP 3 0 rfl rfl (by omega) (by decide) dX3_beginsSession_17 ?_
    refine lv_isub hx hb dX3_beginsSession_18 ?_
    refine lv_iload_n hx hb dX3_beginsSession_19 rfl (lv_at hl 2 rfl) ?_
    refine lv_icmp_le hx hb (tgt := 27) dX3_beginsSession_20 (by decide) (fun b20 => ?_) (fun b20 => ?_)
    · skip
      refine lv_iconst (v := nI 0) hx hb dX3_beginsSession_27 (by decide) ?_
      exact roRz hx hb hr hlocks (bF (by first | exact bs_0 b1 | exact bs_t (hta _) (hta _) hg b20 | exact bs_f b1 (hta _) (hta _) hg b20)) dX3_beginsSession_28
    · skip
      refine lv_iconst (v := nI 1) hx hb dX3_beginsSession_23 (by decide) ?_
      refine lv_goto (tgt := 28) hx hb dX3_beginsSession_24 (by decide) ?_
      exact roRz hx hb hr hlocks (bT (by first | exact bs_0 b1 | exact bs_t (hta _) (hta _) hg b20 | exact bs_f b1 (hta _) (hta _) hg b20)) dX3_beginsSession_28

abbrev rm_X3_sessionCount : Room := { frames := 1, cells := 0, slots := 0, locals := 22 }
set_option maxHeartbeats 8000000 in
set_option maxRecDepth 100000 in
theorem c_X3_sessionCount (l : Launch) (D : va_G) (cI : ClassId) (at_ : Nat) (tn : Nat) (tk : Nat) (tt : Nat) (na : Nat → Nat) (ka : Nat → Int32) (ta : Nat → Nat) (tc : Nat) (gp : Nat) (hc : tc ≤ 250) (hta : ∀ k, ta k < 2000) (hg : gp ≤ 500) : Met l yX3_sessionCount wsX3_sessionCount rm_X3_sessionCount (roP D (tI cI) [.ref at_, .int (nI gp)] [(at_, .inr (3, [.ref tn, .ref tk, .ref tt, .int (nI tc)])), (tn, .inl (cI, 250, .inl (nF na))), (tk, .inl (cI, 250, .inl ka)), (tt, .inl (cI, 250, .inl (nF ta)))]) (QcRead (nI (fb_ct (bs ta gp) tc))) 0 0 (fun _ => False) := by
  refine roOf (cc := cX3_sessionCount) (maxL := 4) (ret := (some .int)) (by decide) rfl (Nat.le_of_ble_eq_true rfl) ?_
  intro p e s m below meth c ls hx hb hml hown hts hr hlocks hP hK hZ hl
  have hown : s.vm.findClass RX3 = some m.cls := hown
  have hl : lv_has ls 4 [(0, .ref at_), (1, .int (nI gp))] := hl
  have hF : CallFix p m c cX3_sessionCount 4 s [.ref at_, .int (nI gp)].toArray wsX3_sessionCount RX3 := ⟨hx, hb, hml, hown, hts⟩
  have hinX3 : ∀ w ∈ wsX30, w ∈ wsX3_sessionCount := by decide +kernel
  have hk21 := hts (.fieldLink RX3 21 "FunnelFold$Timeline" "count" "I") (by decide +kernel)
  refine lv_iconst (v := nI 0) hx hb dX3_sessionCount_0 (by decide) ?_
  refine lv_istore_n (lv' := [(2, .int (nI 0)), (0, .ref at_), (1, .int (nI gp))]) hx hb dX3_sessionCount_1 rfl hl (by decide) rfl (fun ls hl => ?_)
  refine lv_iconst (v := nI 0) hx hb dX3_sessionCount_2 (by decide) ?_
  refine lv_istore_n (lv' := [(3, .int (nI 0)), (2, .int (nI 0)), (0, .ref at_), (1, .int (nI gp))]) hx hb dX3_sessionCount_3 rfl hl (by decide) rfl (fun ls hl => ?_)
  have key4 : ∀ (fuel : Nat) (j : Nat) (x : Nat) (ls : Array Slot), tc - j < fuel → (j ≤ tc) → (x = fb_ct (bs ta gp) j) → lv_has ls 4 [(0, .ref at_), (1, .int (nI gp)), (2, .int (nI x)), (3, .int (nI j))] → W p l e rm_X3_sessionCount s m [.ref at_, .int (nI gp)].toArray below meth c s.heap [] 0 0 (MQ below (QcRead (nI (fb_ct (bs ta gp) tc))) [.ref at_, .int (nI gp)].toArray s 0 0 (fun _ => False)) (F0 m 4 ls []) := by
    intro fuel
    induction fuel with
    | zero => intro j x ls hfu; exact absurd hfu (Nat.not_lt_zero _)
    | succ fuel ih4 =>
      intro j x ls hfu hj hx2 hl
      refine lv_iload_n hx hb dX3_sessionCount_4 rfl (lv_at hl 3 rfl) ?_
      have hxl : x ≤ 250 := by rw [hx2]; exact Nat.le_trans (fb_ct_le _ _) (by omega)
      refine lv_aload_n hx hb dX3_sessionCount_5 rfl (lv_at hl 0 rfl) ?_
      refine va_get (D := D) (ci := 3) (v := .int (nI tc)) (C := RX3) (T := TX3) (N := 4) hx hb hts hinX3 hown hK hP 0 rfl rfl 3 (by decide) hk21 (fun _ h9 => h9) rfl dX3_sessionCount_6 ?_
      refine f_ge hx hb (by omega) (by omega) (tgt := 30) dX3_sessionCount_9 (by decide) (fun b9 => ?_) (fun b9 => ?_)
      · skip
        refine lv_iload_n hx hb dX3_sessionCount_30 rfl (lv_at hl 2 rfl) ?_
        exact roRi hx hb hr hlocks ((by rw [hx2, show j = tc by omega])) dX3_sessionCount_31
      · skip
        refine lv_aload_n hx hb dX3_sessionCount_12 rfl (lv_at hl 0 rfl) ?_
        refine lv_iload_n hx hb dX3_sessionCount_13 rfl (lv_at hl 3 rfl) ?_
        refine lv_iload_n hx hb dX3_sessionCount_14 rfl (lv_at hl 1 rfl) ?_
        refine roC (va_runV (As := [.int (nI j), .int (nI gp)]) (rest := []) hF (c_X3_beginsSession l D cI at_ tn tk tt na ka ta tc j gp (by omega) (by omega) (by omega)) (cwV 2 hts gX3_sessionCount_X3_beginsSession rfl rfl rfl (by decide +kernel) ⟨Nat.le_of_ble_eq_true rfl, Nat.le_of_ble_eq_true rfl⟩) (roV hK hZ [0] rfl hP [0, 1, 2, 3] rfl 0 (ci := 3) rfl rfl) rfl rfl hl.1 rfl (lv_room (Nat.le_of_ble_eq_true rfl)) dX3_sessionCount_15 ⟨Nat.le_of_ble_eq_true rfl, Nat.le_of_ble_eq_true rfl⟩) ?_
        refine f_beq hx hb (tgt := 24) dX3_sessionCount_18 (by decide) (fun b18 => ?_) (fun b18 => ?_)
        · skip
          refine lv_iinc (v := nI (j + 1)) (lv' := [(3, .int (nI (j + 1))), (0, .ref at_), (1, .int (nI gp)), (2, .int (nI x))]) hx hb dX3_sessionCount_24 hl (k := 3) rfl (ii_1 _) (by decide) rfl (fun ls hl => ?_)
          refine lv_goto (tgt := 4) hx hb dX3_sessionCount_27 (by decide) ?_
          exact ih4 (j + 1) x _ (by omega) (by omega) (hx2.trans (ct_n b18).symm) (lv_sub hl [1, 2, 3, 0] rfl)
        · skip
          refine lv_iinc (v := nI (x + 1)) (lv' := [(2, .int (nI (x + 1))), (0, .ref at_), (1, .int (nI gp)), (3, .int (nI j))]) hx hb dX3_sessionCount_21 hl (k := 2) rfl (ii_1 _) (by decide) rfl (fun ls hl => ?_)
          refine lv_iinc (v := nI (j + 1)) (lv' := [(3, .int (nI (j + 1))), (2, .int (nI (x + 1))), (0, .ref at_), (1, .int (nI gp))]) hx hb dX3_sessionCount_24 hl (k := 3) rfl (ii_1 _) (by decide) rfl (fun ls hl => ?_)
          refine lv_goto (tgt := 4) hx hb dX3_sessionCount_27 (by decide) ?_
          exact ih4 (j + 1) (x + 1) _ (by omega) (by omega) (by rw [hx2]; exact (ct_y b18).symm) (lv_sub hl [2, 3, 1, 0] rfl)
  exact key4 (tc - 0 + 1) 0 0 _ (by omega) (Nat.zero_le _) rfl (lv_sub hl [2, 3, 1, 0] rfl)

abbrev rm_X3_sessionsBegunOn : Room := { frames := 1, cells := 0, slots := 0, locals := 22 }
set_option maxHeartbeats 8000000 in
set_option maxRecDepth 100000 in
theorem c_X3_sessionsBegunOn (l : Launch) (D : va_G) (cI : ClassId) (at_ : Nat) (tn : Nat) (tk : Nat) (tt : Nat) (na : Nat → Nat) (ka : Nat → Int32) (ta : Nat → Nat) (tc : Nat) (dy : Nat) (gp : Nat) (hc : tc ≤ 250) (hta : ∀ k, ta k < 2000) (hg : gp ≤ 500) (hdy : dy < 20) : Met l yX3_sessionsBegunOn wsX3_sessionsBegunOn rm_X3_sessionsBegunOn (roP D (tI cI) [.ref at_, .int (nI dy), .int (nI gp)] [(at_, .inr (3, [.ref tn, .ref tk, .ref tt, .int (nI tc)])), (tn, .inl (cI, 250, .inl (nF na))), (tk, .inl (cI, 250, .inl ka)), (tt, .inl (cI, 250, .inl (nF ta)))]) (QcRead (nI (fb_ct (bsd ta gp dy) tc))) 0 0 (fun _ => False) := by
  refine roOf (cc := cX3_sessionsBegunOn) (maxL := 5) (ret := (some .int)) (by decide) rfl (Nat.le_of_ble_eq_true rfl) ?_
  intro p e s m below meth c ls hx hb hml hown hts hr hlocks hP hK hZ hl
  have hown : s.vm.findClass RX3 = some m.cls := hown
  have hl : lv_has ls 5 [(0, .ref at_), (1, .int (nI dy)), (2, .int (nI gp))] := hl
  have hF : CallFix p m c cX3_sessionsBegunOn 5 s [.ref at_, .int (nI dy), .int (nI gp)].toArray wsX3_sessionsBegunOn RX3 := ⟨hx, hb, hml, hown, hts⟩
  have hinX3 : ∀ w ∈ wsX30, w ∈ wsX3_sessionsBegunOn := by decide +kernel
  have hk21 := hts (.fieldLink RX3 21 "FunnelFold$Timeline" "count" "I") (by decide +kernel)
  have hk18 := hts (.fieldLink RX3 18 "FunnelFold$Timeline" "times" "[I") (by decide +kernel)
  refine lv_iconst (v := nI 0) hx hb dX3_sessionsBegunOn_0 (by decide) ?_
  refine lv_istore_n (lv' := [(3, .int (nI 0)), (0, .ref at_), (1, .int (nI dy)), (2, .int (nI gp))]) hx hb dX3_sessionsBegunOn_1 rfl hl (by decide) rfl (fun ls hl => ?_)
  refine lv_iconst (v := nI 0) hx hb dX3_sessionsBegunOn_2 (by decide) ?_
  refine lv_istore (lv' := [(4, .int (nI 0)), (3, .int (nI 0)), (0, .ref at_), (1, .int (nI dy)), (2, .int (nI gp))]) hx hb dX3_sessionsBegunOn_3 hl (by decide) rfl (fun ls hl => ?_)
  have key5 : ∀ (fuel : Nat) (j : Nat) (x : Nat) (ls : Array Slot), tc - j < fuel → (j ≤ tc) → (x = fb_ct (bsd ta gp dy) j) → lv_has ls 5 [(0, .ref at_), (1, .int (nI dy)), (2, .int (nI gp)), (3, .int (nI x)), (4, .int (nI j))] → W p l e rm_X3_sessionsBegunOn s m [.ref at_, .int (nI dy), .int (nI gp)].toArray below meth c s.heap [] 0 0 (MQ below (QcRead (nI (fb_ct (bsd ta gp dy) tc))) [.ref at_, .int (nI dy), .int (nI gp)].toArray s 0 0 (fun _ => False)) (F0 m 5 ls []) := by
    intro fuel
    induction fuel with
    | zero => intro j x ls hfu; exact absurd hfu (Nat.not_lt_zero _)
    | succ fuel ih5 =>
      intro j x ls hfu hj hx2 hl
      refine lv_iload hx hb dX3_sessionsBegunOn_5 (lv_at hl 4 rfl) ?_
      have hxl : x ≤ 250 := by rw [hx2]; exact Nat.le_trans (fb_ct_le _ _) (by omega)
      refine lv_aload_n hx hb dX3_sessionsBegunOn_7 rfl (lv_at hl 0 rfl) ?_
      refine va_get (D := D) (ci := 3) (v := .int (nI tc)) (C := RX3) (T := TX3) (N := 4) hx hb hts hinX3 hown hK hP 0 rfl rfl 3 (by decide) hk21 (fun _ h9 => h9) rfl dX3_sessionsBegunOn_8 ?_
      refine f_ge hx hb (by omega) (by omega) (tgt := 47) dX3_sessionsBegunOn_11 (by decide) (fun b11 => ?_) (fun b11 => ?_)
      · skip
        refine lv_iload_n hx hb dX3_sessionsBegunOn_47 rfl (lv_at hl 3 rfl) ?_
        exact roRi hx hb hr hlocks ((by rw [hx2, show j = tc by omega])) dX3_sessionsBegunOn_48
      · skip
        have htj := hta j
        refine lv_aload_n hx hb dX3_sessionsBegunOn_14 rfl (lv_at hl 0 rfl) ?_
        refine va_get (D := D) (ci := 3) (v := .ref tt) (C := RX3) (T := TX3) (N := 4) hx hb hts hinX3 hown hK hP 0 rfl rfl 2 (by decide) hk18 (fun _ h9 => h9) rfl dX3_sessionsBegunOn_15 ?_
        refine lv_iload hx hb dX3_sessionsBegunOn_18 (lv_at hl 4 rfl) ?_
        refine f_ald hx hb hK hP 3 0 rfl rfl (by omega) (by decide) dX3_sessionsBegunOn_20 ?_
        refine roC (va_runSN (As := [.int (nI (ta j))]) (rest := []) hF (c_X4_dayOf l (ta j) (by omega)) ⟨va_cnB 1 hts gX3_sessionsBegunOn_X4_dayOf_n25 rfl rfl rfl hZ.2.2.1.2.2.2.2 (hts (.initialized RX4) (by decide +kernel)) (by decide +kernel) ⟨Nat.le_of_ble_eq_true rfl, Nat.le_of_ble_eq_true rfl⟩, hts (.static yX4_dayOf) (by decide +kernel), trivial⟩ preEq rfl rfl hl.1 rfl (lv_room (Nat.le_of_ble_eq_true rfl)) dX3_sessionsBegunOn_21 ⟨Nat.le_of_ble_eq_true rfl, Nat.le_of_ble_eq_true rfl⟩) ?_
        refine lv_iload_n hx hb dX3_sessionsBegunOn_24 rfl (lv_at hl 1 rfl) ?_
        refine f_ne hx hb (by omega) (by omega) (tgt := 41) dX3_sessionsBegunOn_25 (by decide) (fun b25 => ?_) (fun b25 => ?_)
        · skip
          refine lv_iinc (v := nI (j + 1)) (lv' := [(4, .int (nI (j + 1))), (0, .ref at_), (1, .int (nI dy)), (2, .int (nI gp)), (3, .int (nI x))]) hx hb dX3_sessionsBegunOn_41 hl (k := 4) rfl (ii_1 _) (by decide) rfl (fun ls hl => ?_)
          refine lv_goto (tgt := 5) hx hb dX3_sessionsBegunOn_44 (by decide) ?_
          exact ih5 (j + 1) x _ (by omega) (by omega) (by first | (rw [hx2]; exact (ct_y (bsd_y b25 b35)).symm) | exact hx2.trans (ct_n (bsd_n1 b25)).symm | exact hx2.trans (ct_n (bsd_n2 b35)).symm) (lv_sub hl [1, 2, 3, 4, 0] rfl)
        · skip
          refine lv_aload_n hx hb dX3_sessionsBegunOn_28 rfl (lv_at hl 0 rfl) ?_
          refine lv_iload hx hb dX3_sessionsBegunOn_29 (lv_at hl 4 rfl) ?_
          refine lv_iload_n hx hb dX3_sessionsBegunOn_31 rfl (lv_at hl 2 rfl) ?_
          refine roC (va_runV (As := [.int (nI j), .int (nI gp)]) (rest := []) hF (c_X3_beginsSession l D cI at_ tn tk tt na ka ta tc j gp (by omega) (by omega) (by omega)) (cwV 2 hts gX3_sessionsBegunOn_X3_beginsSession rfl rfl rfl (by decide +kernel) ⟨Nat.le_of_ble_eq_true rfl, Nat.le_of_ble_eq_true rfl⟩) (roV hK hZ [0] rfl hP [0, 1, 2, 3] rfl 0 (ci := 3) rfl rfl) rfl rfl hl.1 rfl (lv_room (Nat.le_of_ble_eq_true rfl)) dX3_sessionsBegunOn_32 ⟨Nat.le_of_ble_eq_true rfl, Nat.le_of_ble_eq_true rfl⟩) ?_
          refine f_beq hx hb (tgt := 41) dX3_sessionsBegunOn_35 (by decide) (fun b35 => ?_) (fun b35 => ?_)
          · skip
            refine lv_iinc (v := nI (j + 1)) (lv' := [(4, .int (nI (j + 1))), (0, .ref at_), (1, .int (nI dy)), (2, .int (nI gp)), (3, .int (nI x))]) hx hb dX3_sessionsBegunOn_41 hl (k := 4) rfl (ii_1 _) (by decide) rfl (fun ls hl => ?_)
            refine lv_goto (tgt := 5) hx hb dX3_sessionsBegunOn_44 (by decide) ?_
            exact ih5 (j + 1) x _ (by omega) (by omega) (by first | (rw [hx2]; exact (ct_y (bsd_y b25 b35)).symm) | exact hx2.trans (ct_n (bsd_n1 b25)).symm | exact hx2.trans (ct_n (bsd_n2 b35)).symm) (lv_sub hl [1, 2, 3, 4, 0] rfl)
          · skip
            refine lv_iinc (v := nI (x + 1)) (lv' := [(3, .int (nI (x + 1))), (0, .ref at_), (1, .int (nI dy)), (2, .int (nI gp)), (4, .int (nI j))]) hx hb dX3_sessionsBegunOn_38 hl (k := 3) rfl (ii_1 _) (by decide) rfl (fun ls hl => ?_)
            refine lv_iinc (v := nI (j + 1)) (lv' := [(4, .int (nI (j + 1))), (3, .int (nI (x + 1))), (0, .ref at_), (1, .int (nI dy)), (2, .int (nI gp))]) hx hb dX3_sessionsBegunOn_41 hl (k := 4) rfl (ii_1 _) (by decide) rfl (fun ls hl => ?_)
            refine lv_goto (tgt := 5) hx hb dX3_sessionsBegunOn_44 (by decide) ?_
            exact ih5 (j + 1) (x + 1) _ (by omega) (by omega) (by first | (rw [hx2]; exact (ct_y (bsd_y b25 b35)).symm) | exact hx2.trans (ct_n (bsd_n1 b25)).symm | exact hx2.trans (ct_n (bsd_n2 b35)).symm) (lv_sub hl [2, 3, 4, 1, 0] rfl)
  exact key5 (tc - 0 + 1) 0 0 _ (by omega) (Nat.zero_le _) rfl (lv_sub hl [2, 3, 4, 1, 0] rfl)

abbrev rm_X3_sessionBegin : Room := { frames := 1, cells := 0, slots := 0, locals := 22 }
set_option maxHeartbeats 8000000 in
set_option maxRecDepth 100000 in
theorem c_X3_sessionBegin (l : Launch) (D : va_G) (cI : ClassId) (at_ : Nat) (tn : Nat) (tk : Nat) (tt : Nat) (na : Nat → Nat) (ka : Nat → Int32) (ta : Nat → Nat) (tc : Nat) (k : Int32) (gp : Nat) (hc : tc ≤ 250) (hta : ∀ k, ta k < 2000) (hg : gp ≤ 500) : Met l yX3_sessionBegin wsX3_sessionBegin rm_X3_sessionBegin (roP D (tI cI) [.ref at_, .int k, .int (nI gp)] [(at_, .inr (3, [.ref tn, .ref tk, .ref tt, .int (nI tc)])), (tn, .inl (cI, 250, .inl (nF na))), (tk, .inl (cI, 250, .inl ka)), (tt, .inl (cI, 250, .inl (nF ta)))]) (QcRead (nI (sbL (bs ta gp) k tc 0))) 0 0 (fun _ => False) := by
  refine roOf (cc := cX3_sessionBegin) (maxL := 5) (ret := (some .int)) (by decide) rfl (Nat.le_of_ble_eq_true rfl) ?_
  intro p e s m below meth c ls hx hb hml hown hts hr hlocks hP hK hZ hl
  have hown : s.vm.findClass RX3 = some m.cls := hown
  have hl : lv_has ls 5 [(0, .ref at_), (1, .int k), (2, .int (nI gp))] := hl
  have hF : CallFix p m c cX3_sessionBegin 5 s [.ref at_, .int k, .int (nI gp)].toArray wsX3_sessionBegin RX3 := ⟨hx, hb, hml, hown, hts⟩
  have hinX3 : ∀ w ∈ wsX30, w ∈ wsX3_sessionBegin := by decide +kernel
  have hk21 := hts (.fieldLink RX3 21 "FunnelFold$Timeline" "count" "I") (by decide +kernel)
  refine lv_iconst (v := nI 0) hx hb dX3_sessionBegin_0 (by decide) ?_
  refine lv_istore_n (lv' := [(3, .int (nI 0)), (0, .ref at_), (1, .int k), (2, .int (nI gp))]) hx hb dX3_sessionBegin_1 rfl hl (by decide) rfl (fun ls hl => ?_)
  refine lv_iconst (v := nI 0) hx hb dX3_sessionBegin_2 (by decide) ?_
  refine lv_istore (lv' := [(4, .int (nI 0)), (3, .int (nI 0)), (0, .ref at_), (1, .int k), (2, .int (nI gp))]) hx hb dX3_sessionBegin_3 hl (by decide) rfl (fun ls hl => ?_)
  have key5 : ∀ (fuel : Nat) (j : Nat) (x : Nat) (ls : Array Slot), tc - j < fuel → (j ≤ tc) → (x = fb_ct (bs ta gp) j) → (sbL (bs ta gp) k (tc - j) j = sbL (bs ta gp) k tc 0) → lv_has ls 5 [(0, .ref at_), (1, .int k), (2, .int (nI gp)), (3, .int (nI x)), (4, .int (nI j))] → W p l e rm_X3_sessionBegin s m [.ref at_, .int k, .int (nI gp)].toArray below meth c s.heap [] 0 0 (MQ below (QcRead (nI (sbL (bs ta gp) k tc 0))) [.ref at_, .int k, .int (nI gp)].toArray s 0 0 (fun _ => False)) (F0 m 5 ls []) := by
    intro fuel
    induction fuel with
    | zero => intro j x ls hfu; exact absurd hfu (Nat.not_lt_zero _)
    | succ fuel ih5 =>
      intro j x ls hfu hj hx2 hs hl
      refine lv_iload hx hb dX3_sessionBegin_5 (lv_at hl 4 rfl) ?_
      refine lv_aload_n hx hb dX3_sessionBegin_7 rfl (lv_at hl 0 rfl) ?_
      refine va_get (D := D) (ci := 3) (v := .int (nI tc)) (C := RX3) (T := TX3) (N := 4) hx hb hts hinX3 hown hK hP 0 rfl rfl 3 (by decide) hk21 (fun _ h9 => h9) rfl dX3_sessionBegin_8 ?_
      refine f_ge hx hb (by omega) (by omega) (tgt := 41) dX3_sessionBegin_11 (by decide) (fun b11 => ?_) (fun b11 => ?_)
      · skip
        refine lv_aload_n hx hb dX3_sessionBegin_41 rfl (lv_at hl 0 rfl) ?_
        refine va_get (D := D) (ci := 3) (v := .int (nI tc)) (C := RX3) (T := TX3) (N := 4) hx hb hts hinX3 hown hK hP 0 rfl rfl 3 (by decide) hk21 (fun _ h9 => h9) rfl dX3_sessionBegin_42 ?_
        exact roRi hx hb hr hlocks ((by rw [← hs, show tc - j = 0 by omega, show j = tc by omega]; rfl)) dX3_sessionBegin_45
      · skip
        refine lv_aload_n hx hb dX3_sessionBegin_14 rfl (lv_at hl 0 rfl) ?_
        refine lv_iload hx hb dX3_sessionBegin_15 (lv_at hl 4 rfl) ?_
        refine lv_iload_n hx hb dX3_sessionBegin_17 rfl (lv_at hl 2 rfl) ?_
        refine roC (va_runV (As := [.int (nI j), .int (nI gp)]) (rest := []) hF (c_X3_beginsSession l D cI at_ tn tk tt na ka ta tc j gp (by omega) (by omega) (by omega)) (cwV 2 hts gX3_sessionBegin_X3_beginsSession rfl rfl rfl (by decide +kernel) ⟨Nat.le_of_ble_eq_true rfl, Nat.le_of_ble_eq_true rfl⟩) (roV hK hZ [0] rfl hP [0, 1, 2, 3] rfl 0 (ci := 3) rfl rfl) rfl rfl hl.1 rfl (lv_room (Nat.le_of_ble_eq_true rfl)) dX3_sessionBegin_18 ⟨Nat.le_of_ble_eq_true rfl, Nat.le_of_ble_eq_true rfl⟩) ?_
        refine f_beq hx hb (tgt := 35) dX3_sessionBegin_21 (by decide) (fun b21 => ?_) (fun b21 => ?_)
        · skip
          refine lv_iinc (v := nI (j + 1)) (lv' := [(4, .int (nI (j + 1))), (0, .ref at_), (1, .int k), (2, .int (nI gp)), (3, .int (nI x))]) hx hb dX3_sessionBegin_35 hl (k := 4) rfl (ii_1 _) (by decide) rfl (fun ls hl => ?_)
          refine lv_goto (tgt := 5) hx hb dX3_sessionBegin_38 (by decide) ?_
          exact ih5 (j + 1) x _ (by omega) (by omega) (hx2.trans (ct_n b21).symm) ((sbL_n b21 b11).trans hs) (lv_sub hl [1, 2, 3, 4, 0] rfl)
        · skip
          refine lv_iload_n hx hb dX3_sessionBegin_24 rfl (lv_at hl 3 rfl) ?_
          refine lv_iload_n hx hb dX3_sessionBegin_25 rfl (lv_at hl 1 rfl) ?_
          refine lv_icmp_ne hx hb (tgt := 32) dX3_sessionBegin_26 (by decide) (fun b26 => ?_) (fun b26 => ?_)
          · skip
            refine lv_iinc (v := nI (x + 1)) (lv' := [(3, .int (nI (x + 1))), (0, .ref at_), (1, .int k), (2, .int (nI gp)), (4, .int (nI j))]) hx hb dX3_sessionBegin_32 hl (k := 3) rfl (ii_1 _) (by decide) rfl (fun ls hl => ?_)
            refine lv_iinc (v := nI (j + 1)) (lv' := [(4, .int (nI (j + 1))), (3, .int (nI (x + 1))), (0, .ref at_), (1, .int k), (2, .int (nI gp))]) hx hb dX3_sessionBegin_35 hl (k := 4) rfl (ii_1 _) (by decide) rfl (fun ls hl => ?_)
            refine lv_goto (tgt := 5) hx hb dX3_sessionBegin_38 (by decide) ?_
            exact ih5 (j + 1) (x + 1) _ (by omega) (by omega) (by rw [hx2]; exact (ct_y b21).symm) ((sbL_m b21 (by rw [← hx2]; exact b26) b11).trans hs) (lv_sub hl [2, 3, 4, 1, 0] rfl)
          · skip
            refine lv_iload hx hb dX3_sessionBegin_29 (lv_at hl 4 rfl) ?_
            exact roRi hx hb hr hlocks ((by rw [← hs, sbL_y b21 (by rw [← hx2]; exact b26) b11])) dX3_sessionBegin_31
  exact key5 (tc - 0 + 1) 0 0 _ (by omega) (Nat.zero_le _) rfl rfl (lv_sub hl [2, 3, 4, 1, 0] rfl)

abbrev rm_X3_sessionEnd : Room := { frames := 1, cells := 0, slots := 0, locals := 22 }
set_option maxHeartbeats 8000000 in
set_option maxRecDepth 100000 in
theorem c_X3_sessionEnd (l : Launch) (D : va_G) (cI : ClassId) (at_ : Nat) (tn : Nat) (tk : Nat) (tt : Nat) (na : Nat → Nat) (ka : Nat → Int32) (ta : Nat → Nat) (tc : Nat) (bg : Nat) (gp : Nat) (hc : tc ≤ 250) (hta : ∀ k, ta k < 2000) (hg : gp ≤ 500) (hb9 : bg < tc) : Met l yX3_sessionEnd wsX3_sessionEnd rm_X3_sessionEnd (roP D (tI cI) [.ref at_, .int (nI bg), .int (nI gp)] [(at_, .inr (3, [.ref tn, .ref tk, .ref tt, .int (nI tc)])), (tn, .inl (cI, 250, .inl (nF na))), (tk, .inl (cI, 250, .inl ka)), (tt, .inl (cI, 250, .inl (nF ta)))]) (QcRead (nI (seL (bs ta gp) (tc - (bg + 1)) (bg + 1)))) 0 0 (fun _ => False) := by
  refine roOf (cc := cX3_sessionEnd) (maxL := 4) (ret := (some .int)) (by decide) rfl (Nat.le_of_ble_eq_true rfl) ?_
  intro p e s m below meth c ls hx hb hml hown hts hr hlocks hP hK hZ hl
  have hown : s.vm.findClass RX3 = some m.cls := hown
  have hl : lv_has ls 4 [(0, .ref at_), (1, .int (nI bg)), (2, .int (nI gp))] := hl
  have hF : CallFix p m c cX3_sessionEnd 4 s [.ref at_, .int (nI bg), .int (nI gp)].toArray wsX3_sessionEnd RX3 := ⟨hx, hb, hml, hown, hts⟩
  have hinX3 : ∀ w ∈ wsX30, w ∈ wsX3_sessionEnd := by decide +kernel
  have hk21 := hts (.fieldLink RX3 21 "FunnelFold$Timeline" "count" "I") (by decide +kernel)
  refine lv_iload_n hx hb dX3_sessionEnd_0 rfl (lv_at hl 1 rfl) ?_
  refine lv_iconst (v := nI 1) hx hb dX3_sessionEnd_1 (by decide) ?_
  refine f_add hx hb dX3_sessionEnd_2 ?_
  refine lv_istore_n (lv' := [(3, .int (nI (bg + 1))), (0, .ref at_), (1, .int (nI bg)), (2, .int (nI gp))]) hx hb dX3_sessionEnd_3 rfl hl (by decide) rfl (fun ls hl => ?_)
  have key4 : ∀ (fuel : Nat) (j : Nat) (ls : Array Slot), tc - j < fuel → (j ≤ tc) → (seL (bs ta gp) (tc - j) j = seL (bs ta gp) (tc - (bg + 1)) (bg + 1)) → lv_has ls 4 [(0, .ref at_), (1, .int (nI bg)), (2, .int (nI gp)), (3, .int (nI j))] → W p l e rm_X3_sessionEnd s m [.ref at_, .int (nI bg), .int (nI gp)].toArray below meth c s.heap [] 0 0 (MQ below (QcRead (nI (seL (bs ta gp) (tc - (bg + 1)) (bg + 1)))) [.ref at_, .int (nI bg), .int (nI gp)].toArray s 0 0 (fun _ => False)) (F0 m 4 ls []) := by
    intro fuel
    induction fuel with
    | zero => intro j ls hfu; exact absurd hfu (Nat.not_lt_zero _)
    | succ fuel ih4 =>
      intro j ls hfu hj hs hl
      refine lv_iload_n hx hb dX3_sessionEnd_4 rfl (lv_at hl 3 rfl) ?_
      refine lv_aload_n hx hb dX3_sessionEnd_5 rfl (lv_at hl 0 rfl) ?_
      refine va_get (D := D) (ci := 3) (v := .int (nI tc)) (C := RX3) (T := TX3) (N := 4) hx hb hts hinX3 hown hK hP 0 rfl rfl 3 (by decide) hk21 (fun _ h9 => h9) rfl dX3_sessionEnd_6 ?_
      refine f_ge hx hb (by omega) (by omega) (tgt := 27) dX3_sessionEnd_9 (by decide) (fun b9 => ?_) (fun b9 => ?_)
      · skip
        refine lv_iload_n hx hb dX3_sessionEnd_27 rfl (lv_at hl 3 rfl) ?_
        exact roRi hx hb hr hlocks ((by first | (rw [← hs, seL_y b18 b9]; done) | (rw [← hs, show tc - j = 0 by omega]; rfl))) dX3_sessionEnd_28
      · skip
        refine lv_aload_n hx hb dX3_sessionEnd_12 rfl (lv_at hl 0 rfl) ?_
        refine lv_iload_n hx hb dX3_sessionEnd_13 rfl (lv_at hl 3 rfl) ?_
        refine lv_iload_n hx hb dX3_sessionEnd_14 rfl (lv_at hl 2 rfl) ?_
        refine roC (va_runV (As := [.int (nI j), .int (nI gp)]) (rest := []) hF (c_X3_beginsSession l D cI at_ tn tk tt na ka ta tc j gp (by omega) (by omega) (by omega)) (cwV 2 hts gX3_sessionEnd_X3_beginsSession rfl rfl rfl (by decide +kernel) ⟨Nat.le_of_ble_eq_true rfl, Nat.le_of_ble_eq_true rfl⟩) (roV hK hZ [0] rfl hP [0, 1, 2, 3] rfl 0 (ci := 3) rfl rfl) rfl rfl hl.1 rfl (lv_room (Nat.le_of_ble_eq_true rfl)) dX3_sessionEnd_15 ⟨Nat.le_of_ble_eq_true rfl, Nat.le_of_ble_eq_true rfl⟩) ?_
        refine f_bne hx hb (tgt := 27) dX3_sessionEnd_18 (by decide) (fun b18 => ?_) (fun b18 => ?_)
        · skip
          refine lv_iload_n hx hb dX3_sessionEnd_27 rfl (lv_at hl 3 rfl) ?_
          exact roRi hx hb hr hlocks ((by first | (rw [← hs, seL_y b18 b9]; done) | (rw [← hs, show tc - j = 0 by omega]; rfl))) dX3_sessionEnd_28
        · skip
          refine lv_iinc (v := nI (j + 1)) (lv' := [(3, .int (nI (j + 1))), (0, .ref at_), (1, .int (nI bg)), (2, .int (nI gp))]) hx hb dX3_sessionEnd_21 hl (k := 3) rfl (ii_1 _) (by decide) rfl (fun ls hl => ?_)
          refine lv_goto (tgt := 4) hx hb dX3_sessionEnd_24 (by decide) ?_
          exact ih4 (j + 1) _ (by omega) (by omega) ((seL_n b18 b9).trans hs) (lv_sub hl [1, 2, 3, 0] rfl)
  exact key4 (tc - (bg + 1) + 1) (bg + 1) _ (by omega) (by omega) rfl (lv_sub hl [1, 2, 3, 0] rfl)

