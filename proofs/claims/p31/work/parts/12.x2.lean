abbrev rm_X2_count : Room := { frames := 0, cells := 0, slots := 0, locals := 0 }
set_option maxHeartbeats 8000000 in
set_option maxRecDepth 100000 in
theorem c_X2_count (l : Launch) (D : va_G) (cI : ClassId) (af : Nat) (fs : Nat) (fl : Nat) (cnt : Nat) (win : Nat) (ps : Nat) (fm : Option Nat)  : Met l yX2_count wsX2_count rm_X2_count (roP D (tI cI) [.ref af] [(af, .inr (2, [.ref fs, .int (nI cnt), .int (nI win), .ref fl, .int (nI ps), .int (oI fm)]))]) (QcRead (nI cnt)) 0 0 (fun _ => False) := by
  refine roOf (cc := cX2_count) (maxL := 1) (ret := (some .int)) (by decide) rfl (Nat.le_of_ble_eq_true rfl) ?_
  intro p e s m below meth c ls hx hb hml hown hts hr hlocks hP hK hZ hl
  have hown : s.vm.findClass RX2 = some m.cls := hown
  have hl : lv_has ls 1 [(0, .ref af)] := hl
  have hF : CallFix p m c cX2_count 1 s [.ref af].toArray wsX2_count RX2 := ⟨hx, hb, hml, hown, hts⟩
  have hinX2 : ∀ w ∈ wsX20, w ∈ wsX2_count := by decide +kernel
  have hk15 := hts (.fieldLink RX2 15 "FunnelFold$Funnel" "count" "I") (by decide +kernel)
  refine lv_aload_n hx hb dX2_count_0 rfl (lv_at hl 0 rfl) ?_
  refine va_get (D := D) (ci := 2) (v := .int (nI cnt)) (C := RX2) (T := TX2) (N := 6) hx hb hts hinX2 hown hK hP 0 rfl rfl 1 (by decide) hk15 (fun _ h9 => h9) rfl dX2_count_1 ?_
  exact roRi hx hb hr hlocks (rfl) dX2_count_4

abbrev rm_X2_isFull : Room := { frames := 0, cells := 0, slots := 0, locals := 0 }
set_option maxHeartbeats 8000000 in
set_option maxRecDepth 100000 in
theorem c_X2_isFull (l : Launch) (D : va_G) (cI : ClassId) (af : Nat) (fs : Nat) (fl : Nat) (cnt : Nat) (win : Nat) (ps : Nat) (fm : Option Nat) (hcnt : cnt ≤ 6) : Met l yX2_isFull wsX2_isFull rm_X2_isFull (roP D (tI cI) [.ref af] [(af, .inr (2, [.ref fs, .int (nI cnt), .int (nI win), .ref fl, .int (nI ps), .int (oI fm)]))]) (QcRead (bI (decide (6 ≤ cnt)))) 0 0 (fun _ => False) := by
  refine roOf (cc := cX2_isFull) (maxL := 1) (ret := (some .boolean)) (by decide) rfl (Nat.le_of_ble_eq_true rfl) ?_
  intro p e s m below meth c ls hx hb hml hown hts hr hlocks hP hK hZ hl
  have hown : s.vm.findClass RX2 = some m.cls := hown
  have hl : lv_has ls 1 [(0, .ref af)] := hl
  have hF : CallFix p m c cX2_isFull 1 s [.ref af].toArray wsX2_isFull RX2 := ⟨hx, hb, hml, hown, hts⟩
  have hinX2 : ∀ w ∈ wsX20, w ∈ wsX2_isFull := by decide +kernel
  have hk15 := hts (.fieldLink RX2 15 "FunnelFold$Funnel" "count" "I") (by decide +kernel)
  refine lv_aload_n hx hb dX2_isFull_0 rfl (lv_at hl 0 rfl) ?_
  refine va_get (D := D) (ci := 2) (v := .int (nI cnt)) (C := RX2) (T := TX2) (N := 6) hx hb hts hinX2 hown hK hP 0 rfl rfl 1 (by decide) hk15 (fun _ h9 => h9) rfl dX2_isFull_1 ?_
  refine lv_bipush (v := nI 6) hx hb dX2_isFull_4 (by decide) ?_
  refine f_lt hx hb (by omega) (by omega) (tgt := 13) dX2_isFull_6 (by decide) (fun b6 => ?_) (fun b6 => ?_)
  · skip
    refine lv_iconst (v := nI 0) hx hb dX2_isFull_13 (by decide) ?_
    exact roRz hx hb hr hlocks (bF (by first | exact decide_eq_false (by omega) | (simp; omega))) dX2_isFull_14
  · skip
    refine lv_iconst (v := nI 1) hx hb dX2_isFull_9 (by decide) ?_
    refine lv_goto (tgt := 14) hx hb dX2_isFull_10 (by decide) ?_
    exact roRz hx hb hr hlocks (bT (by first | exact decide_eq_true (by omega) | (simp; omega))) dX2_isFull_14

abbrev rm_X2_append : Room := { frames := 0, cells := 0, slots := 0, locals := 0 }
abbrev q_X2_append (D : va_G) (cI : ClassId) (af : Nat) (fs : Nat) (fl : Nat) (stp : Nat → Int32) (lat : Nat → Option Nat) (cnt : Nat) (win : Nat) (ps : Nat) (fm : Option Nat) (k : Int32) (A : Nat → Prop) : Array Value → State → Outcome → State → Prop := muQi D (fun (r : Int32) (u : Unit) => r = nI (cnt + 1)) (fun (u : Unit) => [(af, .inr (2, [.ref fs, .int (nI (cnt + 1)), .int (nI win), .ref fl, .int (nI ps), .int (oI fm)])), (fs, .inl (cI, 6, .inl (upd stp cnt k))), (fl, .inl (cI, 6, .inl (oF lat)))]) A
set_option maxHeartbeats 8000000 in
set_option maxRecDepth 100000 in
theorem c_X2_append (l : Launch) (D : va_G) (cI : ClassId) (af : Nat) (fs : Nat) (fl : Nat) (stp : Nat → Int32) (lat : Nat → Option Nat) (cnt : Nat) (win : Nat) (ps : Nat) (fm : Option Nat) (k : Int32) (sz : Nat) (hcnt : cnt < 6) : Met l yX2_append wsX2_append rm_X2_append (muP D (tI cI) [.ref af, .int k] [(af, .inr (2, [.ref fs, .int (nI cnt), .int (nI win), .ref fl, .int (nI ps), .int (oI fm)])), (fs, .inl (cI, 6, .inl stp)), (fl, .inl (cI, 6, .inl (oF lat)))] sz) (q_X2_append D cI af fs fl stp lat cnt win ps fm k (va_A [(af, .inr (2, [.ref fs, .int (nI cnt), .int (nI win), .ref fl, .int (nI ps), .int (oI fm)])), (fs, .inl (cI, 6, .inl stp)), (fl, .inl (cI, 6, .inl (oF lat)))] sz)) 0 0 (va_A [(af, .inr (2, [.ref fs, .int (nI cnt), .int (nI win), .ref fl, .int (nI ps), .int (oI fm)])), (fs, .inl (cI, 6, .inl stp)), (fl, .inl (cI, 6, .inl (oF lat)))] sz) := by
  refine muOf (Qc := fun A => q_X2_append D cI af fs fl stp lat cnt win ps fm k A) (cc := cX2_append) (maxL := 2) (ret := (some .int)) (by decide) rfl (Nat.le_of_ble_eq_true rfl) ?_
  intro p e s m below meth c ls A hx hb hml hown hts hr hlocks hnm hP hK hZ hD hA hS hl
  have hown : s.vm.findClass RX2 = some m.cls := hown
  have hl : lv_has ls 2 [(0, .ref af), (1, .int k)] := hl
  have hF : CallFix p m c cX2_append 2 s [.ref af, .int k].toArray wsX2_append RX2 := ⟨hx, hb, hml, hown, hts⟩
  have hinX2 : ∀ w ∈ wsX20, w ∈ wsX2_append := by decide +kernel
  have hk9 := hts (.fieldLink RX2 9 "FunnelFold$Funnel" "steps" "[I") (by decide +kernel)
  have hk15 := hts (.fieldLink RX2 15 "FunnelFold$Funnel" "count" "I") (by decide +kernel)
  refine lv_aload_n hx hb dX2_append_0 rfl (lv_at hl 0 rfl) ?_
  refine va_get (D := D) (ci := 2) (v := .ref fs) (C := RX2) (T := TX2) (N := 6) hx hb hts hinX2 hown hK hP 0 rfl rfl 0 (by decide) hk9 (fun _ h9 => h9) rfl dX2_append_1 ?_
  refine lv_aload_n hx hb dX2_append_4 rfl (lv_at hl 0 rfl) ?_
  refine va_get (D := D) (ci := 2) (v := .int (nI cnt)) (C := RX2) (T := TX2) (N := 6) hx hb hts hinX2 hown hK hP 0 rfl rfl 1 (by decide) hk15 (fun _ h9 => h9) rfl dX2_append_5 ?_
  refine lv_iload_n hx hb dX2_append_8 rfl (lv_at hl 1 rfl) ?_
  refine f_astr hx hb hK hP hD hS 1 0 rfl rfl (by omega) (by decide) dX2_append_9 (fun H locs hP hD hS => ?_)
  have hP : va_P D vwCl [(af, .inr (2, [.ref fs, .int (nI cnt), .int (nI win), .ref fl, .int (nI ps), .int (oI fm)])), (fs, .inl (cI, 6, .inl (upd stp cnt k))), (fl, .inl (cI, 6, .inl (oF lat)))] H := hP
  have hD : va_D A [(af, .inr (2, [.ref fs, .int (nI cnt), .int (nI win), .ref fl, .int (nI ps), .int (oI fm)])), (fs, .inl (cI, 6, .inl (upd stp cnt k))), (fl, .inl (cI, 6, .inl (oF lat)))] := hD
  refine lv_aload_n hx hb dX2_append_10 rfl (lv_at hl 0 rfl) ?_
  refine lv_dup hx hb dX2_append_11 rfl ?_
  refine va_get (D := D) (ci := 2) (v := .int (nI cnt)) (C := RX2) (T := TX2) (N := 6) hx hb hts hinX2 hown hK hP 0 rfl rfl 1 (by decide) hk15 (fun _ h9 => h9) rfl dX2_append_12 ?_
  refine lv_iconst (v := nI 1) hx hb dX2_append_15 (by decide) ?_
  refine f_add hx hb dX2_append_16 ?_
  refine va_put (D := D) (ci := 2) (v := .int (nI (cnt + 1))) (ty := .int) (C := RX2) (T := TX2) (N := 6) hx hb hts hinX2 tyX2 tyX2_ok nmX2 hown hK hP hD hS 0 rfl rfl 1 (by decide) hk15 (fun _ h9 => h9) rfl (by decide +kernel) rfl rfl (Nat.le_of_ble_eq_true rfl) dX2_append_17 (fun H locs hP hD hS => ?_)
  have hP : va_P D vwCl [(af, .inr (2, [.ref fs, .int (nI (cnt + 1)), .int (nI win), .ref fl, .int (nI ps), .int (oI fm)])), (fs, .inl (cI, 6, .inl (upd stp cnt k))), (fl, .inl (cI, 6, .inl (oF lat)))] H := hP
  have hD : va_D A [(af, .inr (2, [.ref fs, .int (nI (cnt + 1)), .int (nI win), .ref fl, .int (nI ps), .int (oI fm)])), (fs, .inl (cI, 6, .inl (upd stp cnt k))), (fl, .inl (cI, 6, .inl (oF lat)))] := hD
  refine lv_aload_n hx hb dX2_append_20 rfl (lv_at hl 0 rfl) ?_
  refine va_get (D := D) (ci := 2) (v := .int (nI (cnt + 1))) (C := RX2) (T := TX2) (N := 6) hx hb hts hinX2 hown hK hP 0 rfl rfl 1 (by decide) hk15 (fun _ h9 => h9) rfl dX2_append_21 ?_
  exact muRi hx hb hr hlocks () (rfl) hP hD hS dX2_append_24

abbrev rm_X2_removeSteps : Room := { frames := 0, cells := 0, slots := 0, locals := 0 }
abbrev q_X2_removeSteps (D : va_G) (cI : ClassId) (af : Nat) (fs : Nat) (fl : Nat) (stp : Nat → Int32) (lat : Nat → Option Nat) (cnt : Nat) (win : Nat) (ps : Nat) (fm : Option Nat) (A : Nat → Prop) : Array Value → State → Outcome → State → Prop := muQv D (fun (u : Unit) => True) (fun (u : Unit) => [(af, .inr (2, [.ref fs, .int (nI 0), .int (nI win), .ref fl, .int (nI ps), .int (oI fm)])), (fs, .inl (cI, 6, .inl stp)), (fl, .inl (cI, 6, .inl (oF lat)))]) A
set_option maxHeartbeats 8000000 in
set_option maxRecDepth 100000 in
theorem c_X2_removeSteps (l : Launch) (D : va_G) (cI : ClassId) (af : Nat) (fs : Nat) (fl : Nat) (stp : Nat → Int32) (lat : Nat → Option Nat) (cnt : Nat) (win : Nat) (ps : Nat) (fm : Option Nat) (sz : Nat)  : Met l yX2_removeSteps wsX2_removeSteps rm_X2_removeSteps (muP D (tI cI) [.ref af] [(af, .inr (2, [.ref fs, .int (nI cnt), .int (nI win), .ref fl, .int (nI ps), .int (oI fm)])), (fs, .inl (cI, 6, .inl stp)), (fl, .inl (cI, 6, .inl (oF lat)))] sz) (q_X2_removeSteps D cI af fs fl stp lat cnt win ps fm (va_A [(af, .inr (2, [.ref fs, .int (nI cnt), .int (nI win), .ref fl, .int (nI ps), .int (oI fm)])), (fs, .inl (cI, 6, .inl stp)), (fl, .inl (cI, 6, .inl (oF lat)))] sz)) 0 0 (va_A [(af, .inr (2, [.ref fs, .int (nI cnt), .int (nI win), .ref fl, .int (nI ps), .int (oI fm)])), (fs, .inl (cI, 6, .inl stp)), (fl, .inl (cI, 6, .inl (oF lat)))] sz) := by
  refine muOf (Qc := fun A => q_X2_removeSteps D cI af fs fl stp lat cnt win ps fm A) (cc := cX2_removeSteps) (maxL := 1) (ret := none) (by decide) rfl (Nat.le_of_ble_eq_true rfl) ?_
  intro p e s m below meth c ls A hx hb hml hown hts hr hlocks hnm hP hK hZ hD hA hS hl
  have hown : s.vm.findClass RX2 = some m.cls := hown
  have hl : lv_has ls 1 [(0, .ref af)] := hl
  have hF : CallFix p m c cX2_removeSteps 1 s [.ref af].toArray wsX2_removeSteps RX2 := ⟨hx, hb, hml, hown, hts⟩
  have hinX2 : ∀ w ∈ wsX20, w ∈ wsX2_removeSteps := by decide +kernel
  have hk15 := hts (.fieldLink RX2 15 "FunnelFold$Funnel" "count" "I") (by decide +kernel)
  refine lv_aload_n hx hb dX2_removeSteps_0 rfl (lv_at hl 0 rfl) ?_
  refine lv_iconst (v := nI 0) hx hb dX2_removeSteps_1 (by decide) ?_
  refine va_put (D := D) (ci := 2) (v := .int (nI 0)) (ty := .int) (C := RX2) (T := TX2) (N := 6) hx hb hts hinX2 tyX2 tyX2_ok nmX2 hown hK hP hD hS 0 rfl rfl 1 (by decide) hk15 (fun _ h9 => h9) rfl (by decide +kernel) rfl rfl (Nat.le_of_ble_eq_true rfl) dX2_removeSteps_2 (fun H locs hP hD hS => ?_)
  have hP : va_P D vwCl [(af, .inr (2, [.ref fs, .int (nI 0), .int (nI win), .ref fl, .int (nI ps), .int (oI fm)])), (fs, .inl (cI, 6, .inl stp)), (fl, .inl (cI, 6, .inl (oF lat)))] H := hP
  have hD : va_D A [(af, .inr (2, [.ref fs, .int (nI 0), .int (nI win), .ref fl, .int (nI ps), .int (oI fm)])), (fs, .inl (cI, 6, .inl stp)), (fl, .inl (cI, 6, .inl (oF lat)))] := hD
  exact muRv hx hb hr hlocks () (trivial) hP hD hS dX2_removeSteps_5

abbrev rm_X2_replaceWindow : Room := { frames := 0, cells := 0, slots := 0, locals := 0 }
abbrev q_X2_replaceWindow (D : va_G) (cI : ClassId) (af : Nat) (fs : Nat) (fl : Nat) (stp : Nat → Int32) (lat : Nat → Option Nat) (cnt : Nat) (win : Nat) (ps : Nat) (fm : Option Nat) (w : Nat) (A : Nat → Prop) : Array Value → State → Outcome → State → Prop := muQi D (fun (r : Int32) (u : Unit) => r = nI win) (fun (u : Unit) => [(af, .inr (2, [.ref fs, .int (nI cnt), .int (nI w), .ref fl, .int (nI ps), .int (oI fm)])), (fs, .inl (cI, 6, .inl stp)), (fl, .inl (cI, 6, .inl (oF lat)))]) A
set_option maxHeartbeats 8000000 in
set_option maxRecDepth 100000 in
theorem c_X2_replaceWindow (l : Launch) (D : va_G) (cI : ClassId) (af : Nat) (fs : Nat) (fl : Nat) (stp : Nat → Int32) (lat : Nat → Option Nat) (cnt : Nat) (win : Nat) (ps : Nat) (fm : Option Nat) (w : Nat) (sz : Nat)  : Met l yX2_replaceWindow wsX2_replaceWindow rm_X2_replaceWindow (muP D (tI cI) [.ref af, .int (nI w)] [(af, .inr (2, [.ref fs, .int (nI cnt), .int (nI win), .ref fl, .int (nI ps), .int (oI fm)])), (fs, .inl (cI, 6, .inl stp)), (fl, .inl (cI, 6, .inl (oF lat)))] sz) (q_X2_replaceWindow D cI af fs fl stp lat cnt win ps fm w (va_A [(af, .inr (2, [.ref fs, .int (nI cnt), .int (nI win), .ref fl, .int (nI ps), .int (oI fm)])), (fs, .inl (cI, 6, .inl stp)), (fl, .inl (cI, 6, .inl (oF lat)))] sz)) 0 0 (va_A [(af, .inr (2, [.ref fs, .int (nI cnt), .int (nI win), .ref fl, .int (nI ps), .int (oI fm)])), (fs, .inl (cI, 6, .inl stp)), (fl, .inl (cI, 6, .inl (oF lat)))] sz) := by
  refine muOf (Qc := fun A => q_X2_replaceWindow D cI af fs fl stp lat cnt win ps fm w A) (cc := cX2_replaceWindow) (maxL := 3) (ret := (some .int)) (by decide) rfl (Nat.le_of_ble_eq_true rfl) ?_
  intro p e s m below meth c ls A hx hb hml hown hts hr hlocks hnm hP hK hZ hD hA hS hl
  have hown : s.vm.findClass RX2 = some m.cls := hown
  have hl : lv_has ls 3 [(0, .ref af), (1, .int (nI w))] := hl
  have hF : CallFix p m c cX2_replaceWindow 3 s [.ref af, .int (nI w)].toArray wsX2_replaceWindow RX2 := ⟨hx, hb, hml, hown, hts⟩
  have hinX2 : ∀ w ∈ wsX20, w ∈ wsX2_replaceWindow := by decide +kernel
  have hk19 := hts (.fieldLink RX2 19 "FunnelFold$Funnel" "windowMinutes" "I") (by decide +kernel)
  refine lv_aload_n hx hb dX2_replaceWindow_0 rfl (lv_at hl 0 rfl) ?_
  refine va_get (D := D) (ci := 2) (v := .int (nI win)) (C := RX2) (T := TX2) (N := 6) hx hb hts hinX2 hown hK hP 0 rfl rfl 2 (by decide) hk19 (fun _ h9 => h9) rfl dX2_replaceWindow_1 ?_
  refine lv_istore_n (lv' := [(2, .int (nI win)), (0, .ref af), (1, .int (nI w))]) hx hb dX2_replaceWindow_4 rfl hl (by decide) rfl (fun ls hl => ?_)
  refine lv_aload_n hx hb dX2_replaceWindow_5 rfl (lv_at hl 1 rfl) ?_
  refine lv_iload_n hx hb dX2_replaceWindow_6 rfl (lv_at hl 2 rfl) ?_
  refine va_put (D := D) (ci := 2) (v := .int (nI w)) (ty := .int) (C := RX2) (T := TX2) (N := 6) hx hb hts hinX2 tyX2 tyX2_ok nmX2 hown hK hP hD hS 0 rfl rfl 2 (by decide) hk19 (fun _ h9 => h9) rfl (by decide +kernel) rfl rfl (Nat.le_of_ble_eq_true rfl) dX2_replaceWindow_7 (fun H locs hP hD hS => ?_)
  have hP : va_P D vwCl [(af, .inr (2, [.ref fs, .int (nI cnt), .int (nI w), .ref fl, .int (nI ps), .int (oI fm)])), (fs, .inl (cI, 6, .inl stp)), (fl, .inl (cI, 6, .inl (oF lat)))] H := hP
  have hD : va_D A [(af, .inr (2, [.ref fs, .int (nI cnt), .int (nI w), .ref fl, .int (nI ps), .int (oI fm)])), (fs, .inl (cI, 6, .inl stp)), (fl, .inl (cI, 6, .inl (oF lat)))] := hD
  refine lv_iload_n hx hb dX2_replaceWindow_10 rfl (lv_at hl 0 rfl) ?_
  exact muRi hx hb hr hlocks () (rfl) hP hD hS dX2_replaceWindow_11

abbrev rm_X2_pass : Room := { frames := 1, cells := 0, slots := 0, locals := 21 }
abbrev q_X2_pass (D : va_G) (cI : ClassId) (af : Nat) (fs : Nat) (fl : Nat) (stp : Nat → Int32) (lat : Nat → Option Nat) (cnt : Nat) (win : Nat) (ps : Nat) (fm : Option Nat) (st_ : Nat) (t : Nat) (A : Nat → Prop) : Array Value → State → Outcome → State → Prop := muQv D (fun (u : (Nat → Option Nat) × Nat × (Option Nat)) => match u with | (lat2, ps2, fm2) => (lat2, ps2, fm2) = dpPass cnt win st_ t (lat, ps, fm)) (fun (u : (Nat → Option Nat) × Nat × (Option Nat)) => match u with | (lat2, ps2, fm2) => [(af, .inr (2, [.ref fs, .int (nI cnt), .int (nI win), .ref fl, .int (nI ps2), .int (oI fm2)])), (fs, .inl (cI, 6, .inl stp)), (fl, .inl (cI, 6, .inl (oF lat2)))]) A
set_option maxHeartbeats 8000000 in
set_option maxRecDepth 100000 in
theorem c_X2_pass (l : Launch) (D : va_G) (cI : ClassId) (af : Nat) (fs : Nat) (fl : Nat) (stp : Nat → Int32) (lat : Nat → Option Nat) (cnt : Nat) (win : Nat) (ps : Nat) (fm : Option Nat) (st_ : Nat) (t : Nat) (sz : Nat) (hst : st_ < cnt) (hcnt : cnt ≤ 6) (ht : t < 2000) (hwin : win < 2000) (hd : DPok t (lat, ps, fm)) : Met l yX2_pass wsX2_pass rm_X2_pass (muP D (tI cI) [.ref af, .int (nI st_), .int (nI t)] [(af, .inr (2, [.ref fs, .int (nI cnt), .int (nI win), .ref fl, .int (nI ps), .int (oI fm)])), (fs, .inl (cI, 6, .inl stp)), (fl, .inl (cI, 6, .inl (oF lat)))] sz) (q_X2_pass D cI af fs fl stp lat cnt win ps fm st_ t (va_A [(af, .inr (2, [.ref fs, .int (nI cnt), .int (nI win), .ref fl, .int (nI ps), .int (oI fm)])), (fs, .inl (cI, 6, .inl stp)), (fl, .inl (cI, 6, .inl (oF lat)))] sz)) 0 0 (va_A [(af, .inr (2, [.ref fs, .int (nI cnt), .int (nI win), .ref fl, .int (nI ps), .int (oI fm)])), (fs, .inl (cI, 6, .inl stp)), (fl, .inl (cI, 6, .inl (oF lat)))] sz) := by
  refine muOf (Qc := fun A => q_X2_pass D cI af fs fl stp lat cnt win ps fm st_ t A) (cc := cX2_pass) (maxL := 5) (ret := none) (by decide) rfl (Nat.le_of_ble_eq_true rfl) ?_
  intro p e s m below meth c ls A hx hb hml hown hts hr hlocks hnm hP hK hZ hD hA hS hl
  have hown : s.vm.findClass RX2 = some m.cls := hown
  have hl : lv_has ls 5 [(0, .ref af), (1, .int (nI st_)), (2, .int (nI t))] := hl
  have hF : CallFix p m c cX2_pass 5 s [.ref af, .int (nI st_), .int (nI t)].toArray wsX2_pass RX2 := ⟨hx, hb, hml, hown, hts⟩
  have hinX2 : ∀ w ∈ wsX20, w ∈ wsX2_pass := by decide +kernel
  have hk19 := hts (.fieldLink RX2 19 "FunnelFold$Funnel" "windowMinutes" "I") (by decide +kernel)
  have hk22 := hts (.fieldLink RX2 22 "FunnelFold$Funnel" "latestStarts" "[I") (by decide +kernel)
  have hk25 := hts (.fieldLink RX2 25 "FunnelFold$Funnel" "passedSteps" "I") (by decide +kernel)
  have hmamax := hts (.methodLink RX2 60 Lib.Math.max.name) (by decide +kernel)
  have hk15 := hts (.fieldLink RX2 15 "FunnelFold$Funnel" "count" "I") (by decide +kernel)
  have hk28 := hts (.fieldLink RX2 28 "FunnelFold$Funnel" "fewestMinutes" "I") (by decide +kernel)
  have hps : ps ≤ 6 := hd.2.1
  have key16 : ∀ (o : Option Nat) (H : Heap) (locs : List Loc) (ls : Array Slot), (o = if st_ = 0 then some t else lat (st_ - 1)) → (∀ x, o = some x → x ≤ t) → va_P D vwCl [(af, .inr (2, [.ref fs, .int (nI cnt), .int (nI win), .ref fl, .int (nI ps), .int (oI fm)])), (fs, .inl (cI, 6, .inl stp)), (fl, .inl (cI, 6, .inl (oF lat)))] H → va_D A [(af, .inr (2, [.ref fs, .int (nI cnt), .int (nI win), .ref fl, .int (nI ps), .int (oI fm)])), (fs, .inl (cI, 6, .inl stp)), (fl, .inl (cI, 6, .inl (oF lat)))] → va_S A s.heap H locs → lv_has ls 5 [(0, .ref af), (1, .int (nI st_)), (2, .int (nI t))] → W p l e rm_X2_pass s m [.ref af, .int (nI st_), .int (nI t)].toArray below meth c H locs 0 0 (MQ below (q_X2_pass D cI af fs fl stp lat cnt win ps fm st_ t A) [.ref af, .int (nI st_), .int (nI t)].toArray s 0 0 A) (F0 m 16 ls [.int (oI o)]) := by
    intro o H locs ls ho hox hP hD hS hl
    refine lv_istore_n (lv' := [(3, .int (oI o)), (0, .ref af), (1, .int (nI st_)), (2, .int (nI t))]) hx hb dX2_pass_16 rfl hl (by decide) rfl (fun ls hl => ?_)
    refine lv_iload_n hx hb dX2_pass_17 rfl (lv_at hl 0 rfl) ?_
    refine lv_iconst (v := (-1)) hx hb dX2_pass_18 (by decide) ?_
    refine f_oeq hx hb (fun x h => Nat.lt_of_le_of_lt (hox x h) (by omega)) (tgt := 32) dX2_pass_19 (by decide) (fun b19 => ?_) (fun x19 b19 => ?_)
    · skip
      exact muRv hx hb hr hlocks (lat, ps, fm) ((by first | exact (dpP_0 (ho.symm.trans b19)).symm | exact (dpP_w ho.symm b29).symm | exact (dpP_n ho.symm b29 (by omega)).symm | exact (dpP_l ho.symm b29 (by omega) b74).symm | exact (dpP_l2 ho.symm b29 (by omega) b83).symm | exact (dpP_l3 ho.symm b29 (by omega) b83).symm)) hP hD hS dX2_pass_32
    · skip
      subst b19
      have hP : va_P D vwCl [(af, .inr (2, [.ref fs, .int (nI cnt), .int (nI win), .ref fl, .int (nI ps), .int (oI fm)])), (fs, .inl (cI, 6, .inl stp)), (fl, .inl (cI, 6, .inl (oF lat)))] H := hP
      have hD : va_D A [(af, .inr (2, [.ref fs, .int (nI cnt), .int (nI win), .ref fl, .int (nI ps), .int (oI fm)])), (fs, .inl (cI, 6, .inl stp)), (fl, .inl (cI, 6, .inl (oF lat)))] := hD
      have hl : lv_has ls 5 [(3, .int (nI x19)), (0, .ref af), (1, .int (nI st_)), (2, .int (nI t))] := hl
      have hxt : x19 ≤ t := hox _ rfl
      refine lv_iload_n hx hb dX2_pass_22 rfl (lv_at hl 3 rfl) ?_
      refine lv_iload_n hx hb dX2_pass_23 rfl (lv_at hl 0 rfl) ?_
      refine f_sub hx hb hxt dX2_pass_24 ?_
      refine lv_aload_n hx hb dX2_pass_25 rfl (lv_at hl 1 rfl) ?_
      refine va_get (D := D) (ci := 2) (v := .int (nI win)) (C := RX2) (T := TX2) (N := 6) hx hb hts hinX2 hown hK hP 0 rfl rfl 2 (by decide) hk19 (fun _ h9 => h9) rfl dX2_pass_26 ?_
      refine f_le hx hb (by omega) (by omega) (tgt := 33) dX2_pass_29 (by decide) (fun b29 => ?_) (fun b29 => ?_)
      · skip
        refine lv_aload_n hx hb dX2_pass_33 rfl (lv_at hl 1 rfl) ?_
        refine va_get (D := D) (ci := 2) (v := .ref fl) (C := RX2) (T := TX2) (N := 6) hx hb hts hinX2 hown hK hP 0 rfl rfl 3 (by decide) hk22 (fun _ h9 => h9) rfl dX2_pass_34 ?_
        refine lv_iload_n hx hb dX2_pass_37 rfl (lv_at hl 2 rfl) ?_
        refine lv_iload_n hx hb dX2_pass_38 rfl (lv_at hl 0 rfl) ?_
        refine f_to (y := oI (some x19)) rfl ?_
        refine f_asto hx hb hK hP hD hS 2 0 rfl rfl (by omega) (by decide) dX2_pass_39 (fun H locs hP hD hS => ?_)
        have hP : va_P D vwCl [(af, .inr (2, [.ref fs, .int (nI cnt), .int (nI win), .ref fl, .int (nI ps), .int (oI fm)])), (fs, .inl (cI, 6, .inl stp)), (fl, .inl (cI, 6, .inl (oF (va_up lat st_ (some x19)))))] H := hP
        have hD : va_D A [(af, .inr (2, [.ref fs, .int (nI cnt), .int (nI win), .ref fl, .int (nI ps), .int (oI fm)])), (fs, .inl (cI, 6, .inl stp)), (fl, .inl (cI, 6, .inl (oF (va_up lat st_ (some x19)))))] := hD
        refine lv_aload_n hx hb dX2_pass_40 rfl (lv_at hl 1 rfl) ?_
        refine lv_aload_n hx hb dX2_pass_41 rfl (lv_at hl 1 rfl) ?_
        refine va_get (D := D) (ci := 2) (v := .int (nI ps)) (C := RX2) (T := TX2) (N := 6) hx hb hts hinX2 hown hK hP 0 rfl rfl 4 (by decide) hk25 (fun _ h9 => h9) rfl dX2_pass_42 ?_
        refine lv_iload_n hx hb dX2_pass_45 rfl (lv_at hl 2 rfl) ?_
        refine lv_iconst (v := nI 1) hx hb dX2_pass_46 (by decide) ?_
        refine f_add hx hb dX2_pass_47 ?_
        refine va_mmax hx hb (hml.trans hl.1.symm) hown hmamax (hts (.static Lib.Math.max.name) (by decide +kernel)) (hts (.initialized "java/lang/Math") (by decide +kernel)) (hts (.code Lib.Math.max.name Lib.Math.max.code 2 (some .int)) (by decide +kernel)) (Nat.le_of_ble_eq_true rfl) (Nat.le_of_ble_eq_true rfl) (Nat.le_of_ble_eq_true rfl) (Nat.le_of_ble_eq_true rfl) dX2_pass_48 ?_
        refine f_to (y := nI (max ps (st_ + 1))) (max_nI (by omega) (by omega)) ?_
        refine va_put (D := D) (ci := 2) (v := .int (nI (max ps (st_ + 1)))) (ty := .int) (C := RX2) (T := TX2) (N := 6) hx hb hts hinX2 tyX2 tyX2_ok nmX2 hown hK hP hD hS 0 rfl rfl 4 (by decide) hk25 (fun _ h9 => h9) rfl (by decide +kernel) rfl rfl (Nat.le_of_ble_eq_true rfl) dX2_pass_51 (fun H locs hP hD hS => ?_)
        have hP : va_P D vwCl [(af, .inr (2, [.ref fs, .int (nI cnt), .int (nI win), .ref fl, .int (nI (max ps (st_ + 1))), .int (oI fm)])), (fs, .inl (cI, 6, .inl stp)), (fl, .inl (cI, 6, .inl (oF (va_up lat st_ (some x19)))))] H := hP
        have hD : va_D A [(af, .inr (2, [.ref fs, .int (nI cnt), .int (nI win), .ref fl, .int (nI (max ps (st_ + 1))), .int (oI fm)])), (fs, .inl (cI, 6, .inl stp)), (fl, .inl (cI, 6, .inl (oF (va_up lat st_ (some x19)))))] := hD
        refine lv_iload_n hx hb dX2_pass_54 rfl (lv_at hl 3 rfl) ?_
        refine lv_iload_n hx hb dX2_pass_55 rfl (lv_at hl 0 rfl) ?_
        refine f_sub hx hb hxt dX2_pass_56 ?_
        refine lv_istore (lv' := [(4, .int (nI (t - x19))), (3, .int (nI x19)), (0, .ref af), (1, .int (nI st_)), (2, .int (nI t))]) hx hb dX2_pass_57 hl (by decide) rfl (fun ls hl => ?_)
        refine lv_iload_n hx hb dX2_pass_59 rfl (lv_at hl 3 rfl) ?_
        refine lv_aload_n hx hb dX2_pass_60 rfl (lv_at hl 2 rfl) ?_
        refine va_get (D := D) (ci := 2) (v := .int (nI cnt)) (C := RX2) (T := TX2) (N := 6) hx hb hts hinX2 hown hK hP 0 rfl rfl 1 (by decide) hk15 (fun _ h9 => h9) rfl dX2_pass_61 ?_
        refine lv_iconst (v := nI 1) hx hb dX2_pass_64 (by decide) ?_
        refine f_sub hx hb (by omega) dX2_pass_65 ?_
        refine f_ne hx hb (by omega) (by omega) (tgt := 92) dX2_pass_66 (by decide) (fun b66 => ?_) (fun b66 => ?_)
        · skip
          exact muRv hx hb hr hlocks (va_up lat st_ (some x19), max ps (st_ + 1), fm) ((by first | exact (dpP_0 (ho.symm.trans b19)).symm | exact (dpP_w ho.symm b29).symm | exact (dpP_n ho.symm b29 (by omega)).symm | exact (dpP_l ho.symm b29 (by omega) b74).symm | exact (dpP_l2 ho.symm b29 (by omega) b83).symm | exact (dpP_l3 ho.symm b29 (by omega) b83).symm)) hP hD hS dX2_pass_92
        · skip
          refine lv_aload_n hx hb dX2_pass_69 rfl (lv_at hl 2 rfl) ?_
          refine va_get (D := D) (ci := 2) (v := .int (oI fm)) (C := RX2) (T := TX2) (N := 6) hx hb hts hinX2 hown hK hP 0 rfl rfl 5 (by decide) hk28 (fun _ h9 => h9) rfl dX2_pass_70 ?_
          refine lv_iconst (v := (-1)) hx hb dX2_pass_73 (by decide) ?_
          refine f_oeq hx hb (fun x h => Nat.lt_of_le_of_lt (hd.2.2 x h) (by omega)) (tgt := 86) dX2_pass_74 (by decide) (fun b74 => ?_) (fun x74 b74 => ?_)
          · skip
            refine lv_aload_n hx hb dX2_pass_86 rfl (lv_at hl 2 rfl) ?_
            refine lv_iload hx hb dX2_pass_87 (lv_at hl 0 rfl) ?_
            refine f_to (y := oI (some (t - x19))) rfl ?_
            refine va_put (D := D) (ci := 2) (v := .int (oI (some (t - x19)))) (ty := .int) (C := RX2) (T := TX2) (N := 6) hx hb hts hinX2 tyX2 tyX2_ok nmX2 hown hK hP hD hS 0 rfl rfl 5 (by decide) hk28 (fun _ h9 => h9) rfl (by decide +kernel) rfl rfl (Nat.le_of_ble_eq_true rfl) dX2_pass_89 (fun H locs hP hD hS => ?_)
            have hP : va_P D vwCl [(af, .inr (2, [.ref fs, .int (nI cnt), .int (nI win), .ref fl, .int (nI (max ps (st_ + 1))), .int (oI (some (t - x19)))])), (fs, .inl (cI, 6, .inl stp)), (fl, .inl (cI, 6, .inl (oF (va_up lat st_ (some x19)))))] H := hP
            have hD : va_D A [(af, .inr (2, [.ref fs, .int (nI cnt), .int (nI win), .ref fl, .int (nI (max ps (st_ + 1))), .int (oI (some (t - x19)))])), (fs, .inl (cI, 6, .inl stp)), (fl, .inl (cI, 6, .inl (oF (va_up lat st_ (some x19)))))] := hD
            exact muRv hx hb hr hlocks (va_up lat st_ (some x19), max ps (st_ + 1), (some (t - x19))) ((by first | exact (dpP_0 (ho.symm.trans b19)).symm | exact (dpP_w ho.symm b29).symm | exact (dpP_n ho.symm b29 (by omega)).symm | exact (dpP_l ho.symm b29 (by omega) b74).symm | exact (dpP_l2 ho.symm b29 (by omega) b83).symm | exact (dpP_l3 ho.symm b29 (by omega) b83).symm)) hP hD hS dX2_pass_92
          · skip
            subst b74
            have hP : va_P D vwCl [(af, .inr (2, [.ref fs, .int (nI cnt), .int (nI win), .ref fl, .int (nI (max ps (st_ + 1))), .int (nI x74)])), (fs, .inl (cI, 6, .inl stp)), (fl, .inl (cI, 6, .inl (oF (va_up lat st_ (some x19)))))] H := hP
            have hD : va_D A [(af, .inr (2, [.ref fs, .int (nI cnt), .int (nI win), .ref fl, .int (nI (max ps (st_ + 1))), .int (nI x74)])), (fs, .inl (cI, 6, .inl stp)), (fl, .inl (cI, 6, .inl (oF (va_up lat st_ (some x19)))))] := hD
            have hl : lv_has ls 5 [(4, .int (nI (t - x19))), (3, .int (nI x19)), (0, .ref af), (1, .int (nI st_)), (2, .int (nI t))] := hl
            have hfy : x74 ≤ 2000 := hd.2.2 _ rfl
            refine lv_iload hx hb dX2_pass_77 (lv_at hl 0 rfl) ?_
            refine lv_aload_n hx hb dX2_pass_79 rfl (lv_at hl 2 rfl) ?_
            refine va_get (D := D) (ci := 2) (v := .int (nI x74)) (C := RX2) (T := TX2) (N := 6) hx hb hts hinX2 hown hK hP 0 rfl rfl 5 (by decide) hk28 (fun _ h9 => h9) rfl dX2_pass_80 ?_
            refine f_ge hx hb (by omega) (by omega) (tgt := 92) dX2_pass_83 (by decide) (fun b83 => ?_) (fun b83 => ?_)
            · skip
              exact muRv hx hb hr hlocks (va_up lat st_ (some x19), max ps (st_ + 1), some x74) ((by first | exact (dpP_0 (ho.symm.trans b19)).symm | exact (dpP_w ho.symm b29).symm | exact (dpP_n ho.symm b29 (by omega)).symm | exact (dpP_l ho.symm b29 (by omega) b74).symm | exact (dpP_l2 ho.symm b29 (by omega) b83).symm | exact (dpP_l3 ho.symm b29 (by omega) b83).symm)) hP hD hS dX2_pass_92
            · skip
              refine lv_aload_n hx hb dX2_pass_86 rfl (lv_at hl 2 rfl) ?_
              refine lv_iload hx hb dX2_pass_87 (lv_at hl 0 rfl) ?_
              refine f_to (y := oI (some (t - x19))) rfl ?_
              refine va_put (D := D) (ci := 2) (v := .int (oI (some (t - x19)))) (ty := .int) (C := RX2) (T := TX2) (N := 6) hx hb hts hinX2 tyX2 tyX2_ok nmX2 hown hK hP hD hS 0 rfl rfl 5 (by decide) hk28 (fun _ h9 => h9) rfl (by decide +kernel) rfl rfl (Nat.le_of_ble_eq_true rfl) dX2_pass_89 (fun H locs hP hD hS => ?_)
              have hP : va_P D vwCl [(af, .inr (2, [.ref fs, .int (nI cnt), .int (nI win), .ref fl, .int (nI (max ps (st_ + 1))), .int (oI (some (t - x19)))])), (fs, .inl (cI, 6, .inl stp)), (fl, .inl (cI, 6, .inl (oF (va_up lat st_ (some x19)))))] H := hP
              have hD : va_D A [(af, .inr (2, [.ref fs, .int (nI cnt), .int (nI win), .ref fl, .int (nI (max ps (st_ + 1))), .int (oI (some (t - x19)))])), (fs, .inl (cI, 6, .inl stp)), (fl, .inl (cI, 6, .inl (oF (va_up lat st_ (some x19)))))] := hD
              exact muRv hx hb hr hlocks (va_up lat st_ (some x19), max ps (st_ + 1), (some (t - x19))) ((by first | exact (dpP_0 (ho.symm.trans b19)).symm | exact (dpP_w ho.symm b29).symm | exact (dpP_n ho.symm b29 (by omega)).symm | exact (dpP_l ho.symm b29 (by omega) b74).symm | exact (dpP_l2 ho.symm b29 (by omega) b83).symm | exact (dpP_l3 ho.symm b29 (by omega) b83).symm)) hP hD hS dX2_pass_92
      · skip
        exact muRv hx hb hr hlocks (lat, ps, fm) ((by first | exact (dpP_0 (ho.symm.trans b19)).symm | exact (dpP_w ho.symm b29).symm | exact (dpP_n ho.symm b29 (by omega)).symm | exact (dpP_l ho.symm b29 (by omega) b74).symm | exact (dpP_l2 ho.symm b29 (by omega) b83).symm | exact (dpP_l3 ho.symm b29 (by omega) b83).symm)) hP hD hS dX2_pass_32
  refine lv_iload_n hx hb dX2_pass_0 rfl (lv_at hl 1 rfl) ?_
  refine f_zne hx hb (by omega) (tgt := 8) dX2_pass_1 (by decide) (fun b1 => ?_) (fun b1 => ?_)
  · skip
    refine lv_aload_n hx hb dX2_pass_8 rfl (lv_at hl 0 rfl) ?_
    refine va_get (D := D) (ci := 2) (v := .ref fl) (C := RX2) (T := TX2) (N := 6) hx hb hts hinX2 hown hK hP 0 rfl rfl 3 (by decide) hk22 (fun _ h9 => h9) rfl dX2_pass_9 ?_
    refine lv_iload_n hx hb dX2_pass_12 rfl (lv_at hl 1 rfl) ?_
    refine lv_iconst (v := nI 1) hx hb dX2_pass_13 (by decide) ?_
    refine f_sub hx hb (by omega) dX2_pass_14 ?_
    refine f_aldo hx hb hK hP 2 0 rfl rfl (by omega) (by decide) dX2_pass_15 ?_
    exact key16 (lat (st_ - 1)) _ _ _  (by rw [if_neg (by omega)]) (fun x h => hd.1 _ x h) hP hD hS (lv_sub hl [0, 1, 2] rfl)
  · skip
    refine lv_iload_n hx hb dX2_pass_4 rfl (lv_at hl 2 rfl) ?_
    refine f_to (y := oI (some t)) rfl ?_
    refine lv_goto (tgt := 16) hx hb dX2_pass_5 (by decide) ?_
    exact key16 (some t) _ _ _  (by rw [if_pos b1]) (fun x h => by cases h; exact Nat.le_refl _) hP hD hS (lv_sub hl [0, 1, 2] rfl)

abbrev rm_X2_take : Room := { frames := 2, cells := 0, slots := 0, locals := 45 }
abbrev q_X2_take (D : va_G) (cI : ClassId) (af : Nat) (fs : Nat) (fl : Nat) (stp : Nat → Int32) (lat : Nat → Option Nat) (cnt : Nat) (win : Nat) (ps : Nat) (fm : Option Nat) (k : Int32) (t : Nat) (A : Nat → Prop) : Array Value → State → Outcome → State → Prop := muQv D (fun (u : (Nat → Option Nat) × Nat × (Option Nat)) => match u with | (lat2, ps2, fm2) => (lat2, ps2, fm2) = takeL stp cnt win k t cnt (lat, ps, fm)) (fun (u : (Nat → Option Nat) × Nat × (Option Nat)) => match u with | (lat2, ps2, fm2) => [(af, .inr (2, [.ref fs, .int (nI cnt), .int (nI win), .ref fl, .int (nI ps2), .int (oI fm2)])), (fs, .inl (cI, 6, .inl stp)), (fl, .inl (cI, 6, .inl (oF lat2)))]) A
set_option maxHeartbeats 8000000 in
set_option maxRecDepth 100000 in
theorem c_X2_take (l : Launch) (D : va_G) (cI : ClassId) (af : Nat) (fs : Nat) (fl : Nat) (stp : Nat → Int32) (lat : Nat → Option Nat) (cnt : Nat) (win : Nat) (ps : Nat) (fm : Option Nat) (k : Int32) (t : Nat) (sz : Nat) (hcnt : cnt ≤ 6) (ht : t < 2000) (hwin : win < 2000) (hd : DPok t (lat, ps, fm)) : Met l yX2_take wsX2_take rm_X2_take (muP D (tI cI) [.ref af, .int k, .int (nI t)] [(af, .inr (2, [.ref fs, .int (nI cnt), .int (nI win), .ref fl, .int (nI ps), .int (oI fm)])), (fs, .inl (cI, 6, .inl stp)), (fl, .inl (cI, 6, .inl (oF lat)))] sz) (q_X2_take D cI af fs fl stp lat cnt win ps fm k t (va_A [(af, .inr (2, [.ref fs, .int (nI cnt), .int (nI win), .ref fl, .int (nI ps), .int (oI fm)])), (fs, .inl (cI, 6, .inl stp)), (fl, .inl (cI, 6, .inl (oF lat)))] sz)) 0 0 (va_A [(af, .inr (2, [.ref fs, .int (nI cnt), .int (nI win), .ref fl, .int (nI ps), .int (oI fm)])), (fs, .inl (cI, 6, .inl stp)), (fl, .inl (cI, 6, .inl (oF lat)))] sz) := by
  refine muOf (Qc := fun A => q_X2_take D cI af fs fl stp lat cnt win ps fm k t A) (cc := cX2_take) (maxL := 4) (ret := none) (by decide) rfl (Nat.le_of_ble_eq_true rfl) ?_
  intro p e s m below meth c ls A hx hb hml hown hts hr hlocks hnm hP hK hZ hD hA hS hl
  have hown : s.vm.findClass RX2 = some m.cls := hown
  have hl : lv_has ls 4 [(0, .ref af), (1, .int k), (2, .int (nI t))] := hl
  have hF : CallFix p m c cX2_take 4 s [.ref af, .int k, .int (nI t)].toArray wsX2_take RX2 := ⟨hx, hb, hml, hown, hts⟩
  have hinX2 : ∀ w ∈ wsX20, w ∈ wsX2_take := by decide +kernel
  have hk15 := hts (.fieldLink RX2 15 "FunnelFold$Funnel" "count" "I") (by decide +kernel)
  have hk9 := hts (.fieldLink RX2 9 "FunnelFold$Funnel" "steps" "[I") (by decide +kernel)
  refine lv_aload_n hx hb dX2_take_0 rfl (lv_at hl 0 rfl) ?_
  refine va_get (D := D) (ci := 2) (v := .int (nI cnt)) (C := RX2) (T := TX2) (N := 6) hx hb hts hinX2 hown hK hP 0 rfl rfl 1 (by decide) hk15 (fun _ h9 => h9) rfl dX2_take_1 ?_
  refine lv_iconst (v := nI 1) hx hb dX2_take_4 (by decide) ?_
  refine lv_isub hx hb dX2_take_5 ?_
  refine lv_istore_n (lv' := [(3, .int ((nI cnt) - (nI 1))), (0, .ref af), (1, .int k), (2, .int (nI t))]) hx hb dX2_take_6 rfl hl (by decide) rfl (fun ls hl => ?_)
  have key7 : ∀ (fuel : Nat) (q : Nat) (la : Nat → Option Nat) (pa : Nat) (fa : Option Nat) (H : Heap) (locs : List Loc) (ls : Array Slot), q < fuel → (q ≤ cnt) → (DPok t (la, pa, fa)) → (takeL stp cnt win k t q (la, pa, fa) = takeL stp cnt win k t cnt (lat, ps, fm)) → va_P D vwCl [(af, .inr (2, [.ref fs, .int (nI cnt), .int (nI win), .ref fl, .int (nI pa), .int (oI fa)])), (fs, .inl (cI, 6, .inl stp)), (fl, .inl (cI, 6, .inl (oF la)))] H → va_D A [(af, .inr (2, [.ref fs, .int (nI cnt), .int (nI win), .ref fl, .int (nI pa), .int (oI fa)])), (fs, .inl (cI, 6, .inl stp)), (fl, .inl (cI, 6, .inl (oF la)))] → va_S A s.heap H locs → lv_has ls 4 [(0, .ref af), (1, .int k), (2, .int (nI t)), (3, .int (nI q - nI 1))] → W p l e rm_X2_take s m [.ref af, .int k, .int (nI t)].toArray below meth c H locs 0 0 (MQ below (q_X2_take D cI af fs fl stp lat cnt win ps fm k t A) [.ref af, .int k, .int (nI t)].toArray s 0 0 A) (F0 m 7 ls []) := by
    intro fuel
    induction fuel with
    | zero => intro q la pa fa H locs ls hfu; exact absurd hfu (Nat.not_lt_zero _)
    | succ fuel ih7 =>
      intro q la pa fa H locs ls hfu hq hd1 hi hP hD hS hl
      refine lv_iload_n hx hb dX2_take_7 rfl (lv_at hl 3 rfl) ?_
      refine lv_if_lt hx hb (tgt := 33) dX2_take_8 (by decide) (fun b8 => ?_) (fun b8 => ?_)
      · skip
        exact muRv hx hb hr hlocks (la, pa, fa) ((by rw [← hi, dq_0 (by omega) b8]; rfl)) hP hD hS dX2_take_33
      · skip
        obtain ⟨q1, rfl⟩ : ∃ q1, q = q1 + 1 := ⟨q - 1, by have := dq_n (by omega) b8; omega⟩
        rw [pk_sub (a := q1 + 1) (b := 1) (by omega), Nat.add_sub_cancel] at hl
        refine lv_aload_n hx hb dX2_take_11 rfl (lv_at hl 0 rfl) ?_
        refine va_get (D := D) (ci := 2) (v := .ref fs) (C := RX2) (T := TX2) (N := 6) hx hb hts hinX2 hown hK hP 0 rfl rfl 0 (by decide) hk9 (fun _ h9 => h9) rfl dX2_take_12 ?_
        refine lv_iload_n hx hb dX2_take_15 rfl (lv_at hl 3 rfl) ?_
        refine f_aldr hx hb hK hP 1 0 rfl rfl (by omega) (by decide) dX2_take_16 ?_
        refine lv_iload_n hx hb dX2_take_17 rfl (lv_at hl 1 rfl) ?_
        refine lv_icmp_ne hx hb (tgt := 27) dX2_take_18 (by decide) (fun b18 => ?_) (fun b18 => ?_)
        · skip
          refine lv_iinc (v := nI q1 - nI 1) (lv' := [(3, .int (nI q1 - nI 1)), (0, .ref af), (1, .int k), (2, .int (nI t))]) hx hb dX2_take_27 hl (k := 3) rfl (ii_d _) (by decide) rfl (fun ls hl => ?_)
          refine lv_goto (tgt := 7) hx hb dX2_take_30 (by decide) ?_
          exact ih7 q1 la pa fa _ _ _ (by omega) (by omega) hd1 ((takeL_n b18).symm.trans hi) hP hD hS (lv_sub hl [1, 2, 3, 0] rfl)
        · skip
          refine lv_aload_n hx hb dX2_take_21 rfl (lv_at hl 0 rfl) ?_
          refine lv_iload_n hx hb dX2_take_22 rfl (lv_at hl 3 rfl) ?_
          refine lv_iload_n hx hb dX2_take_23 rfl (lv_at hl 2 rfl) ?_
          refine muCv (wr := []) (wB := (fun (u : (Nat → Option Nat) × Nat × (Option Nat)) => match u with | (lat2, ps2, fm2) => [(af, .inr (2, [.ref fs, .int (nI cnt), .int (nI win), .ref fl, .int (nI ps2), .int (oI fm2)])), (fs, .inl (cI, 6, .inl stp)), (fl, .inl (cI, 6, .inl (oF lat2)))])) (va_runV (As := [.int (nI q1), .int (nI t)]) (rest := []) hF (c_X2_pass l D cI af fs fl stp la cnt win pa fa q1 t H.size (by omega) (by omega) (by omega) (by omega) (by omega)) (cwV 2 hts gX2_take_X2_pass rfl rfl rfl (by decide +kernel) ⟨Nat.le_of_ble_eq_true rfl, Nat.le_of_ble_eq_true rfl⟩) (muV hK hZ [0] rfl hP hD [0, 1, 2] (by decide) rfl 0 (ci := 2) rfl rfl) rfl rfl hl.1 rfl (lv_room (Nat.le_of_ble_eq_true rfl)) dX2_take_24 ⟨Nat.le_of_ble_eq_true rfl, Nat.le_of_ble_eq_true rfl⟩) hP hD hS hA [0, 1, 2] [] [0, 1, 2] rfl rfl (by decide) (by decide) (by decide) (fun _ => rfl) (fun u_6 H locs hw_5 hP hD hS => ?_)
          obtain ⟨lat2_1, ps2_2, fm2_3⟩ := u_6
          have hw_5 : (lat2_1, ps2_2, fm2_3) = dpPass cnt win q1 t (la, pa, fa) := hw_5
          have hP : va_P D vwCl [(af, .inr (2, [.ref fs, .int (nI cnt), .int (nI win), .ref fl, .int (nI ps2_2), .int (oI fm2_3)])), (fs, .inl (cI, 6, .inl stp)), (fl, .inl (cI, 6, .inl (oF lat2_1)))] H := hP
          have hD : va_D A [(af, .inr (2, [.ref fs, .int (nI cnt), .int (nI win), .ref fl, .int (nI ps2_2), .int (oI fm2_3)])), (fs, .inl (cI, 6, .inl stp)), (fl, .inl (cI, 6, .inl (oF lat2_1)))] := hD
          refine lv_iinc (v := nI q1 - nI 1) (lv' := [(3, .int (nI q1 - nI 1)), (0, .ref af), (1, .int k), (2, .int (nI t))]) hx hb dX2_take_27 hl (k := 3) rfl (ii_d _) (by decide) rfl (fun ls hl => ?_)
          refine lv_goto (tgt := 7) hx hb dX2_take_30 (by decide) ?_
          exact ih7 q1 lat2_1 ps2_2 fm2_3 _ _ _ (by omega) (by omega) (by rw [hw_5]; exact dpPass_ok (by omega) ht hd1) (by rw [hw_5, ← takeL_y b18]; exact hi) hP hD hS (lv_sub hl [1, 2, 3, 0] rfl)
  exact key7 (cnt + 1) cnt lat ps fm _ _ _ (by omega) (Nat.le_refl _) hd rfl hP hD hS (lv_sub hl [1, 2, 3, 0] rfl)

abbrev rm_J7_fill_53178 : Room := { frames := 0, cells := 0, slots := 0, locals := 0 }
abbrev q_J7_fill_53178 (D : va_G) (cI : ClassId) (aa : Nat) (f : Nat → Int32) (v : Int32) (A : Nat → Prop) : Array Value → State → Outcome → State → Prop := muQv D (fun (u : (Nat → Int32)) => match u with | f2 => ∀ k, k < 6 → f2 k = v) (fun (u : (Nat → Int32)) => match u with | f2 => [(aa, .inl (cI, 6, .inl f2))]) A
set_option maxHeartbeats 8000000 in
set_option maxRecDepth 100000 in
theorem c_J7_fill_53178 (l : Launch) (D : va_G) (cI : ClassId) (aa : Nat) (f : Nat → Int32) (v : Int32) (sz : Nat)  : Met l yJ7_fill_53178 wsJ7_fill_53178 rm_J7_fill_53178 (muP D (tI cI) [.ref aa, .int v] [(aa, .inl (cI, 6, .inl f))] sz) (q_J7_fill_53178 D cI aa f v (va_A [(aa, .inl (cI, 6, .inl f))] sz)) 0 0 (va_A [(aa, .inl (cI, 6, .inl f))] sz) := by
  refine muOf (Qc := fun A => q_J7_fill_53178 D cI aa f v A) (cc := cJ7_fill_53178) (maxL := 4) (ret := none) (by decide) rfl (Nat.le_of_ble_eq_true rfl) ?_
  intro p e s m below meth c ls A hx hb hml hown hts hr hlocks hnm hP hK hZ hD hA hS hl
  have hown : s.vm.findClass RJ7 = some m.cls := hown
  have hl : lv_has ls 4 [(0, .ref aa), (1, .int v)] := hl
  have hF : CallFix p m c cJ7_fill_53178 4 s [.ref aa, .int v].toArray wsJ7_fill_53178 RJ7 := ⟨hx, hb, hml, hown, hts⟩
  refine lv_iconst (v := nI 0) hx hb dJ7_fill_53178_0 (by decide) ?_
  refine lv_istore_n (lv' := [(2, .int (nI 0)), (0, .ref aa), (1, .int v)]) hx hb dJ7_fill_53178_1 rfl hl (by decide) rfl (fun ls hl => ?_)
  refine lv_aload_n hx hb dJ7_fill_53178_2 rfl (lv_at hl 1 rfl) ?_
  refine va_alen (v := nI 6) (ty := .int) hx hb hK hP 0 0 rfl rfl rfl dJ7_fill_53178_3 ?_
  refine lv_istore_n (lv' := [(3, .int (nI 6)), (2, .int (nI 0)), (0, .ref aa), (1, .int v)]) hx hb dJ7_fill_53178_4 rfl hl (by decide) rfl (fun ls hl => ?_)
  have key5 : ∀ (fuel : Nat) (i : Nat) (f1 : Nat → Int32) (H : Heap) (locs : List Loc) (ls : Array Slot), 6 - i < fuel → (i ≤ 6) → (∀ k, k < i → f1 k = v) → va_P D vwCl [(aa, .inl (cI, 6, .inl f1))] H → va_D A [(aa, .inl (cI, 6, .inl f1))] → va_S A s.heap H locs → lv_has ls 4 [(0, .ref aa), (1, .int v), (2, .int (nI i)), (3, .int (nI 6))] → W p l e rm_J7_fill_53178 s m [.ref aa, .int v].toArray below meth c H locs 0 0 (MQ below (q_J7_fill_53178 D cI aa f v A) [.ref aa, .int v].toArray s 0 0 A) (F0 m 5 ls []) := by
    intro fuel
    induction fuel with
    | zero => intro i f1 H locs ls hfu; exact absurd hfu (Nat.not_lt_zero _)
    | succ fuel ih5 =>
      intro i f1 H locs ls hfu hi hf hP hD hS hl
      refine lv_iload_n hx hb dJ7_fill_53178_5 rfl (lv_at hl 2 rfl) ?_
      refine lv_iload_n hx hb dJ7_fill_53178_6 rfl (lv_at hl 3 rfl) ?_
      refine f_ge hx hb (by omega) (by omega) (tgt := 20) dJ7_fill_53178_7 (by decide) (fun b7 => ?_) (fun b7 => ?_)
      · skip
        exact muRv hx hb hr hlocks f1 ((fun k hk => hf k (by omega))) hP hD hS dJ7_fill_53178_20
      · skip
        refine lv_aload_n hx hb dJ7_fill_53178_10 rfl (lv_at hl 0 rfl) ?_
        refine lv_iload_n hx hb dJ7_fill_53178_11 rfl (lv_at hl 2 rfl) ?_
        refine lv_iload_n hx hb dJ7_fill_53178_12 rfl (lv_at hl 1 rfl) ?_
        refine f_astr hx hb hK hP hD hS 0 0 rfl rfl (by omega) (by decide) dJ7_fill_53178_13 (fun H locs hP hD hS => ?_)
        have hP : va_P D vwCl [(aa, .inl (cI, 6, .inl (upd f1 i v)))] H := hP
        have hD : va_D A [(aa, .inl (cI, 6, .inl (upd f1 i v)))] := hD
        refine lv_iinc (v := nI (i + 1)) (lv' := [(2, .int (nI (i + 1))), (0, .ref aa), (1, .int v), (3, .int (nI 6))]) hx hb dJ7_fill_53178_14 hl (k := 2) rfl (ii_1 _) (by decide) rfl (fun ls hl => ?_)
        refine lv_goto (tgt := 5) hx hb dJ7_fill_53178_17 (by decide) ?_
        exact ih5 (i + 1) (upd f1 i v) _ _ _ (by omega) (by omega) (fill_s hf) hP hD hS (lv_sub hl [1, 2, 0, 3] rfl)
  exact key5 (6 - 0 + 1) 0 f _ _ _ (by omega) (Nat.zero_le _) (fun k h => absurd h (Nat.not_lt_zero _)) hP hD hS (lv_sub hl [2, 3, 1, 0] rfl)

abbrev rm_X2_follow : Room := { frames := 3, cells := 0, slots := 0, locals := 68 }
abbrev q_X2_follow (D : va_G) (cI : ClassId) (af : Nat) (fs : Nat) (fl : Nat) (stp : Nat → Int32) (lat : Nat → Option Nat) (cnt : Nat) (win : Nat) (ps : Nat) (fm : Option Nat) (at_ : Nat) (tn : Nat) (tk : Nat) (tt : Nat) (na : Nat → Nat) (ka : Nat → Int32) (ta : Nat → Nat) (tc : Nat) (A : Nat → Prop) : Array Value → State → Outcome → State → Prop := muQv D (fun (u : (Nat → Option Nat) × Nat × (Option Nat)) => match u with | (lat2, ps2, fm2) => (lat2, ps2, fm2) = folL stp cnt win ka ta tc) (fun (u : (Nat → Option Nat) × Nat × (Option Nat)) => match u with | (lat2, ps2, fm2) => [(af, .inr (2, [.ref fs, .int (nI cnt), .int (nI win), .ref fl, .int (nI ps2), .int (oI fm2)])), (fs, .inl (cI, 6, .inl stp)), (fl, .inl (cI, 6, .inl (oF lat2))), (at_, .inr (3, [.ref tn, .ref tk, .ref tt, .int (nI tc)])), (tn, .inl (cI, 250, .inl (nF na))), (tk, .inl (cI, 250, .inl ka)), (tt, .inl (cI, 250, .inl (nF ta)))]) A
set_option maxHeartbeats 8000000 in
set_option maxRecDepth 100000 in
theorem c_X2_follow (l : Launch) (D : va_G) (cI : ClassId) (af : Nat) (fs : Nat) (fl : Nat) (stp : Nat → Int32) (lat : Nat → Option Nat) (cnt : Nat) (win : Nat) (ps : Nat) (fm : Option Nat) (at_ : Nat) (tn : Nat) (tk : Nat) (tt : Nat) (na : Nat → Nat) (ka : Nat → Int32) (ta : Nat → Nat) (tc : Nat) (sz : Nat) (hcnt : cnt ≤ 6) (hwin : win < 2000) (hc : tc ≤ 250) (hta : ∀ k, ta k < 2000) (hso : ∀ i, i + 1 < tc → ta i ≤ ta (i + 1)) : Met l yX2_follow wsX2_follow rm_X2_follow (muP D (tI cI) [.ref af, .ref at_] [(af, .inr (2, [.ref fs, .int (nI cnt), .int (nI win), .ref fl, .int (nI ps), .int (oI fm)])), (fs, .inl (cI, 6, .inl stp)), (fl, .inl (cI, 6, .inl (oF lat))), (at_, .inr (3, [.ref tn, .ref tk, .ref tt, .int (nI tc)])), (tn, .inl (cI, 250, .inl (nF na))), (tk, .inl (cI, 250, .inl ka)), (tt, .inl (cI, 250, .inl (nF ta)))] sz) (q_X2_follow D cI af fs fl stp lat cnt win ps fm at_ tn tk tt na ka ta tc (va_A [(af, .inr (2, [.ref fs, .int (nI cnt), .int (nI win), .ref fl, .int (nI ps), .int (oI fm)])), (fs, .inl (cI, 6, .inl stp)), (fl, .inl (cI, 6, .inl (oF lat))), (at_, .inr (3, [.ref tn, .ref tk, .ref tt, .int (nI tc)])), (tn, .inl (cI, 250, .inl (nF na))), (tk, .inl (cI, 250, .inl ka)), (tt, .inl (cI, 250, .inl (nF ta)))] sz)) 0 0 (va_A [(af, .inr (2, [.ref fs, .int (nI cnt), .int (nI win), .ref fl, .int (nI ps), .int (oI fm)])), (fs, .inl (cI, 6, .inl stp)), (fl, .inl (cI, 6, .inl (oF lat))), (at_, .inr (3, [.ref tn, .ref tk, .ref tt, .int (nI tc)])), (tn, .inl (cI, 250, .inl (nF na))), (tk, .inl (cI, 250, .inl ka)), (tt, .inl (cI, 250, .inl (nF ta)))] sz) := by
  refine muOf (Qc := fun A => q_X2_follow D cI af fs fl stp lat cnt win ps fm at_ tn tk tt na ka ta tc A) (cc := cX2_follow) (maxL := 3) (ret := none) (by decide) rfl (Nat.le_of_ble_eq_true rfl) ?_
  intro p e s m below meth c ls A hx hb hml hown hts hr hlocks hnm hP hK hZ hD hA hS hl
  have hown : s.vm.findClass RX2 = some m.cls := hown
  have hl : lv_has ls 3 [(0, .ref af), (1, .ref at_)] := hl
  have hF : CallFix p m c cX2_follow 3 s [.ref af, .ref at_].toArray wsX2_follow RX2 := ⟨hx, hb, hml, hown, hts⟩
  have hinX2 : ∀ w ∈ wsX20, w ∈ wsX2_follow := by decide +kernel
  have hk22 := hts (.fieldLink RX2 22 "FunnelFold$Funnel" "latestStarts" "[I") (by decide +kernel)
  have hk25 := hts (.fieldLink RX2 25 "FunnelFold$Funnel" "passedSteps" "I") (by decide +kernel)
  have hk28 := hts (.fieldLink RX2 28 "FunnelFold$Funnel" "fewestMinutes" "I") (by decide +kernel)
  refine lv_aload_n hx hb dX2_follow_0 rfl (lv_at hl 0 rfl) ?_
  refine va_get (D := D) (ci := 2) (v := .ref fl) (C := RX2) (T := TX2) (N := 6) hx hb hts hinX2 hown hK hP 0 rfl rfl 3 (by decide) hk22 (fun _ h9 => h9) rfl dX2_follow_1 ?_
  refine lv_iconst (v := (-1)) hx hb dX2_follow_4 (by decide) ?_
  refine muCv (wr := [(af, .inr (2, [.ref fs, .int (nI cnt), .int (nI win), .ref fl, .int (nI ps), .int (oI fm)])), (fs, .inl (cI, 6, .inl stp)), (at_, .inr (3, [.ref tn, .ref tk, .ref tt, .int (nI tc)])), (tn, .inl (cI, 250, .inl (nF na))), (tk, .inl (cI, 250, .inl ka)), (tt, .inl (cI, 250, .inl (nF ta)))]) (wB := (fun (u : (Nat → Int32)) => match u with | f2 => [(af, .inr (2, [.ref fs, .int (nI cnt), .int (nI win), .ref fl, .int (nI ps), .int (oI fm)])), (fs, .inl (cI, 6, .inl stp)), (fl, .inl (cI, 6, .inl f2)), (at_, .inr (3, [.ref tn, .ref tk, .ref tt, .int (nI tc)])), (tn, .inl (cI, 250, .inl (nF na))), (tk, .inl (cI, 250, .inl ka)), (tt, .inl (cI, 250, .inl (nF ta)))])) (va_runS (As := [.ref fl, .int (-1)]) (rest := []) hF (c_J7_fill_53178 l D cI fl (oF lat) (-1) s.heap.size ) (va_cwS 2 hts gX2_follow_J7_fill_53178 rfl rfl rfl (by decide +kernel) ⟨Nat.le_of_ble_eq_true rfl, Nat.le_of_ble_eq_true rfl⟩) (muS hK hZ [0] rfl hP hD [2] (by decide) rfl) rfl rfl hl.1 rfl (lv_room (Nat.le_of_ble_eq_true rfl)) dX2_follow_5 ⟨Nat.le_of_ble_eq_true rfl, Nat.le_of_ble_eq_true rfl⟩) hP hD hS hA [2] [0, 1, 3, 4, 5, 6] [0, 1, 6, 2, 3, 4, 5] rfl rfl (by decide) (by decide) (by decide) (fun _ => rfl) (fun f2_1 H locs hw_3 hP hD hS => ?_)
  have hw_3 : ∀ k, k < 6 → f2_1 k = (-1) := hw_3
  have hP : va_P D vwCl [(af, .inr (2, [.ref fs, .int (nI cnt), .int (nI win), .ref fl, .int (nI ps), .int (oI fm)])), (fs, .inl (cI, 6, .inl stp)), (fl, .inl (cI, 6, .inl f2_1)), (at_, .inr (3, [.ref tn, .ref tk, .ref tt, .int (nI tc)])), (tn, .inl (cI, 250, .inl (nF na))), (tk, .inl (cI, 250, .inl ka)), (tt, .inl (cI, 250, .inl (nF ta)))] H := hP
  have hD : va_D A [(af, .inr (2, [.ref fs, .int (nI cnt), .int (nI win), .ref fl, .int (nI ps), .int (oI fm)])), (fs, .inl (cI, 6, .inl stp)), (fl, .inl (cI, 6, .inl f2_1)), (at_, .inr (3, [.ref tn, .ref tk, .ref tt, .int (nI tc)])), (tn, .inl (cI, 250, .inl (nF na))), (tk, .inl (cI, 250, .inl ka)), (tt, .inl (cI, 250, .inl (nF ta)))] := hD
  have hP := P_cong hP 2 (a := fl) (g := oF (fun _ => none)) rfl (fun k hk => (hw_3 k hk).trans rfl)
  have hD := hD.set (p := 2) (e := .inl (cI, 6, .inl (oF (fun _ => none)))) rfl
  have hP : va_P D vwCl [(af, .inr (2, [.ref fs, .int (nI cnt), .int (nI win), .ref fl, .int (nI ps), .int (oI fm)])), (fs, .inl (cI, 6, .inl stp)), (fl, .inl (cI, 6, .inl (oF (fun _ => none)))), (at_, .inr (3, [.ref tn, .ref tk, .ref tt, .int (nI tc)])), (tn, .inl (cI, 250, .inl (nF na))), (tk, .inl (cI, 250, .inl ka)), (tt, .inl (cI, 250, .inl (nF ta)))] H := hP
  have hD : va_D A [(af, .inr (2, [.ref fs, .int (nI cnt), .int (nI win), .ref fl, .int (nI ps), .int (oI fm)])), (fs, .inl (cI, 6, .inl stp)), (fl, .inl (cI, 6, .inl (oF (fun _ => none)))), (at_, .inr (3, [.ref tn, .ref tk, .ref tt, .int (nI tc)])), (tn, .inl (cI, 250, .inl (nF na))), (tk, .inl (cI, 250, .inl ka)), (tt, .inl (cI, 250, .inl (nF ta)))] := hD
  refine lv_aload_n hx hb dX2_follow_8 rfl (lv_at hl 0 rfl) ?_
  refine lv_iconst (v := nI 0) hx hb dX2_follow_9 (by decide) ?_
  refine va_put (D := D) (ci := 2) (v := .int (nI 0)) (ty := .int) (C := RX2) (T := TX2) (N := 6) hx hb hts hinX2 tyX2 tyX2_ok nmX2 hown hK hP hD hS 0 rfl rfl 4 (by decide) hk25 (fun _ h9 => h9) rfl (by decide +kernel) rfl rfl (Nat.le_of_ble_eq_true rfl) dX2_follow_10 (fun H locs hP hD hS => ?_)
  have hP : va_P D vwCl [(af, .inr (2, [.ref fs, .int (nI cnt), .int (nI win), .ref fl, .int (nI 0), .int (oI fm)])), (fs, .inl (cI, 6, .inl stp)), (fl, .inl (cI, 6, .inl (oF (fun _ => none)))), (at_, .inr (3, [.ref tn, .ref tk, .ref tt, .int (nI tc)])), (tn, .inl (cI, 250, .inl (nF na))), (tk, .inl (cI, 250, .inl ka)), (tt, .inl (cI, 250, .inl (nF ta)))] H := hP
  have hD : va_D A [(af, .inr (2, [.ref fs, .int (nI cnt), .int (nI win), .ref fl, .int (nI 0), .int (oI fm)])), (fs, .inl (cI, 6, .inl stp)), (fl, .inl (cI, 6, .inl (oF (fun _ => none)))), (at_, .inr (3, [.ref tn, .ref tk, .ref tt, .int (nI tc)])), (tn, .inl (cI, 250, .inl (nF na))), (tk, .inl (cI, 250, .inl ka)), (tt, .inl (cI, 250, .inl (nF ta)))] := hD
  refine lv_aload_n hx hb dX2_follow_13 rfl (lv_at hl 0 rfl) ?_
  refine lv_iconst (v := (-1)) hx hb dX2_follow_14 (by decide) ?_
  refine f_to (y := oI none) rfl ?_
  refine va_put (D := D) (ci := 2) (v := .int (oI none)) (ty := .int) (C := RX2) (T := TX2) (N := 6) hx hb hts hinX2 tyX2 tyX2_ok nmX2 hown hK hP hD hS 0 rfl rfl 5 (by decide) hk28 (fun _ h9 => h9) rfl (by decide +kernel) rfl rfl (Nat.le_of_ble_eq_true rfl) dX2_follow_15 (fun H locs hP hD hS => ?_)
  have hP : va_P D vwCl [(af, .inr (2, [.ref fs, .int (nI cnt), .int (nI win), .ref fl, .int (nI 0), .int (oI none)])), (fs, .inl (cI, 6, .inl stp)), (fl, .inl (cI, 6, .inl (oF (fun _ => none)))), (at_, .inr (3, [.ref tn, .ref tk, .ref tt, .int (nI tc)])), (tn, .inl (cI, 250, .inl (nF na))), (tk, .inl (cI, 250, .inl ka)), (tt, .inl (cI, 250, .inl (nF ta)))] H := hP
  have hD : va_D A [(af, .inr (2, [.ref fs, .int (nI cnt), .int (nI win), .ref fl, .int (nI 0), .int (oI none)])), (fs, .inl (cI, 6, .inl stp)), (fl, .inl (cI, 6, .inl (oF (fun _ => none)))), (at_, .inr (3, [.ref tn, .ref tk, .ref tt, .int (nI tc)])), (tn, .inl (cI, 250, .inl (nF na))), (tk, .inl (cI, 250, .inl ka)), (tt, .inl (cI, 250, .inl (nF ta)))] := hD
  refine lv_iconst (v := nI 0) hx hb dX2_follow_18 (by decide) ?_
  refine lv_istore_n (lv' := [(2, .int (nI 0)), (0, .ref af), (1, .ref at_)]) hx hb dX2_follow_19 rfl hl (by decide) rfl (fun ls hl => ?_)
  have key20 : ∀ (fuel : Nat) (j : Nat) (la : Nat → Option Nat) (pa : Nat) (fa : Option Nat) (H : Heap) (locs : List Loc) (ls : Array Slot), tc - j < fuel → (j ≤ tc) → ((la, pa, fa) = folL stp cnt win ka ta j) → va_P D vwCl [(af, .inr (2, [.ref fs, .int (nI cnt), .int (nI win), .ref fl, .int (nI pa), .int (oI fa)])), (fs, .inl (cI, 6, .inl stp)), (fl, .inl (cI, 6, .inl (oF la))), (at_, .inr (3, [.ref tn, .ref tk, .ref tt, .int (nI tc)])), (tn, .inl (cI, 250, .inl (nF na))), (tk, .inl (cI, 250, .inl ka)), (tt, .inl (cI, 250, .inl (nF ta)))] H → va_D A [(af, .inr (2, [.ref fs, .int (nI cnt), .int (nI win), .ref fl, .int (nI pa), .int (oI fa)])), (fs, .inl (cI, 6, .inl stp)), (fl, .inl (cI, 6, .inl (oF la))), (at_, .inr (3, [.ref tn, .ref tk, .ref tt, .int (nI tc)])), (tn, .inl (cI, 250, .inl (nF na))), (tk, .inl (cI, 250, .inl ka)), (tt, .inl (cI, 250, .inl (nF ta)))] → va_S A s.heap H locs → lv_has ls 3 [(0, .ref af), (1, .ref at_), (2, .int (nI j))] → W p l e rm_X2_follow s m [.ref af, .ref at_].toArray below meth c H locs 0 0 (MQ below (q_X2_follow D cI af fs fl stp lat cnt win ps fm at_ tn tk tt na ka ta tc A) [.ref af, .ref at_].toArray s 0 0 A) (F0 m 20 ls []) := by
    intro fuel
    induction fuel with
    | zero => intro j la pa fa H locs ls hfu; exact absurd hfu (Nat.not_lt_zero _)
    | succ fuel ih20 =>
      intro j la pa fa H locs ls hfu hj hi hP hD hS hl
      refine lv_iload_n hx hb dX2_follow_20 rfl (lv_at hl 2 rfl) ?_
      refine lv_aload_n hx hb dX2_follow_21 rfl (lv_at hl 1 rfl) ?_
      refine roC (va_runV (As := []) (rest := [.int (nI j)]) hF (c_X3_count l D cI at_ tn tk tt tc ) (cwV 0 hts gX2_follow_X3_count rfl rfl rfl (by decide +kernel) ⟨Nat.le_of_ble_eq_true rfl, Nat.le_of_ble_eq_true rfl⟩) (roV hK hZ [0] rfl hP [3] rfl 3 (ci := 3) rfl rfl) rfl rfl hl.1 rfl (lv_room (Nat.le_of_ble_eq_true rfl)) dX2_follow_22 ⟨Nat.le_of_ble_eq_true rfl, Nat.le_of_ble_eq_true rfl⟩) ?_
      refine f_ge hx hb (by omega) (by omega) (tgt := 48) dX2_follow_25 (by decide) (fun b25 => ?_) (fun b25 => ?_)
      · skip
        exact muRv hx hb hr hlocks (la, pa, fa) ((by rw [hi, show j = tc by omega])) hP hD hS dX2_follow_48
      · skip
        refine lv_aload_n hx hb dX2_follow_28 rfl (lv_at hl 0 rfl) ?_
        refine lv_aload_n hx hb dX2_follow_29 rfl (lv_at hl 1 rfl) ?_
        refine lv_iload_n hx hb dX2_follow_30 rfl (lv_at hl 2 rfl) ?_
        refine roC (va_runV (As := [.int (nI j)]) (rest := [.ref af]) hF (c_X3_kindAt l D cI at_ tn tk tt na ka ta tc j (by omega)) (cwV 1 hts gX2_follow_X3_kindAt rfl rfl rfl (by decide +kernel) ⟨Nat.le_of_ble_eq_true rfl, Nat.le_of_ble_eq_true rfl⟩) (roV hK hZ [0] rfl hP [3, 4, 5, 6] rfl 3 (ci := 3) rfl rfl) rfl rfl hl.1 rfl (lv_room (Nat.le_of_ble_eq_true rfl)) dX2_follow_31 ⟨Nat.le_of_ble_eq_true rfl, Nat.le_of_ble_eq_true rfl⟩) ?_
        refine lv_aload_n hx hb dX2_follow_34 rfl (lv_at hl 1 rfl) ?_
        refine lv_iload_n hx hb dX2_follow_35 rfl (lv_at hl 2 rfl) ?_
        refine roC (va_runV (As := [.int (nI j)]) (rest := [.int (ka j), .ref af]) hF (c_X3_timeAt l D cI at_ tn tk tt na ka ta tc j (by omega)) (cwV 1 hts gX2_follow_X3_timeAt rfl rfl rfl (by decide +kernel) ⟨Nat.le_of_ble_eq_true rfl, Nat.le_of_ble_eq_true rfl⟩) (roV hK hZ [0] rfl hP [3, 4, 5, 6] rfl 3 (ci := 3) rfl rfl) rfl rfl hl.1 rfl (lv_room (Nat.le_of_ble_eq_true rfl)) dX2_follow_36 ⟨Nat.le_of_ble_eq_true rfl, Nat.le_of_ble_eq_true rfl⟩) ?_
        refine muCv (wr := [(at_, .inr (3, [.ref tn, .ref tk, .ref tt, .int (nI tc)])), (tn, .inl (cI, 250, .inl (nF na))), (tk, .inl (cI, 250, .inl ka)), (tt, .inl (cI, 250, .inl (nF ta)))]) (wB := (fun (u : (Nat → Option Nat) × Nat × (Option Nat)) => match u with | (lat2, ps2, fm2) => [(af, .inr (2, [.ref fs, .int (nI cnt), .int (nI win), .ref fl, .int (nI ps2), .int (oI fm2)])), (fs, .inl (cI, 6, .inl stp)), (fl, .inl (cI, 6, .inl (oF lat2))), (at_, .inr (3, [.ref tn, .ref tk, .ref tt, .int (nI tc)])), (tn, .inl (cI, 250, .inl (nF na))), (tk, .inl (cI, 250, .inl ka)), (tt, .inl (cI, 250, .inl (nF ta)))])) (va_runV (As := [.int (ka j), .int (nI (ta j))]) (rest := []) hF (c_X2_take l D cI af fs fl stp la cnt win pa fa (ka j) (ta j) H.size (by omega) (hta j) (by omega) (by rw [hi]; exact folL_ok hcnt hta hso j b25)) (cwV 2 hts gX2_follow_X2_take rfl rfl rfl (by decide +kernel) ⟨Nat.le_of_ble_eq_true rfl, Nat.le_of_ble_eq_true rfl⟩) (muV hK hZ [0] rfl hP hD [0, 1, 2] (by decide) rfl 0 (ci := 2) rfl rfl) rfl rfl hl.1 rfl (lv_room (Nat.le_of_ble_eq_true rfl)) dX2_follow_39 ⟨Nat.le_of_ble_eq_true rfl, Nat.le_of_ble_eq_true rfl⟩) hP hD hS hA [0, 1, 2] [3, 4, 5, 6] [4, 5, 6, 0, 1, 2, 3] rfl rfl (by decide) (by decide) (by decide) (fun _ => rfl) (fun u_9 H locs hw_8 hP hD hS => ?_)
        obtain ⟨lat2_4, ps2_5, fm2_6⟩ := u_9
        have hw_8 : (lat2_4, ps2_5, fm2_6) = takeL stp cnt win (ka j) (ta j) cnt (la, pa, fa) := hw_8
        have hP : va_P D vwCl [(af, .inr (2, [.ref fs, .int (nI cnt), .int (nI win), .ref fl, .int (nI ps2_5), .int (oI fm2_6)])), (fs, .inl (cI, 6, .inl stp)), (fl, .inl (cI, 6, .inl (oF lat2_4))), (at_, .inr (3, [.ref tn, .ref tk, .ref tt, .int (nI tc)])), (tn, .inl (cI, 250, .inl (nF na))), (tk, .inl (cI, 250, .inl ka)), (tt, .inl (cI, 250, .inl (nF ta)))] H := hP
        have hD : va_D A [(af, .inr (2, [.ref fs, .int (nI cnt), .int (nI win), .ref fl, .int (nI ps2_5), .int (oI fm2_6)])), (fs, .inl (cI, 6, .inl stp)), (fl, .inl (cI, 6, .inl (oF lat2_4))), (at_, .inr (3, [.ref tn, .ref tk, .ref tt, .int (nI tc)])), (tn, .inl (cI, 250, .inl (nF na))), (tk, .inl (cI, 250, .inl ka)), (tt, .inl (cI, 250, .inl (nF ta)))] := hD
        refine lv_iinc (v := nI (j + 1)) (lv' := [(2, .int (nI (j + 1))), (0, .ref af), (1, .ref at_)]) hx hb dX2_follow_42 hl (k := 2) rfl (ii_1 _) (by decide) rfl (fun ls hl => ?_)
        refine lv_goto (tgt := 20) hx hb dX2_follow_45 (by decide) ?_
        exact ih20 (j + 1) lat2_4 ps2_5 fm2_6 _ _ _ (by omega) (by omega) (by rw [hw_8, hi]; rfl) hP hD hS (lv_sub hl [1, 2, 0] rfl)
  exact key20 (tc - 0 + 1) 0 (fun _ => none) 0 none _ _ _ (by omega) (Nat.zero_le _) rfl hP hD hS (lv_sub hl [1, 2, 0] rfl)

abbrev rm_X2_depthOf : Room := { frames := 4, cells := 0, slots := 0, locals := 90 }
abbrev q_X2_depthOf (D : va_G) (cI : ClassId) (af : Nat) (fs : Nat) (fl : Nat) (stp : Nat → Int32) (lat : Nat → Option Nat) (cnt : Nat) (win : Nat) (ps : Nat) (fm : Option Nat) (at_ : Nat) (tn : Nat) (tk : Nat) (tt : Nat) (na : Nat → Nat) (ka : Nat → Int32) (ta : Nat → Nat) (tc : Nat) (A : Nat → Prop) : Array Value → State → Outcome → State → Prop := muQi D (fun (r : Int32) (u : (Nat → Option Nat) × Nat × (Option Nat)) => match u with | (lat2, ps2, fm2) => r = nI ((folL stp cnt win ka ta tc).2.1)) (fun (u : (Nat → Option Nat) × Nat × (Option Nat)) => match u with | (lat2, ps2, fm2) => [(af, .inr (2, [.ref fs, .int (nI cnt), .int (nI win), .ref fl, .int (nI ps2), .int (oI fm2)])), (fs, .inl (cI, 6, .inl stp)), (fl, .inl (cI, 6, .inl (oF lat2))), (at_, .inr (3, [.ref tn, .ref tk, .ref tt, .int (nI tc)])), (tn, .inl (cI, 250, .inl (nF na))), (tk, .inl (cI, 250, .inl ka)), (tt, .inl (cI, 250, .inl (nF ta)))]) A
set_option maxHeartbeats 8000000 in
set_option maxRecDepth 100000 in
theorem c_X2_depthOf (l : Launch) (D : va_G) (cI : ClassId) (af : Nat) (fs : Nat) (fl : Nat) (stp : Nat → Int32) (lat : Nat → Option Nat) (cnt : Nat) (win : Nat) (ps : Nat) (fm : Option Nat) (at_ : Nat) (tn : Nat) (tk : Nat) (tt : Nat) (na : Nat → Nat) (ka : Nat → Int32) (ta : Nat → Nat) (tc : Nat) (sz : Nat) (hcnt : cnt ≤ 6) (hwin : win < 2000) (hc : tc ≤ 250) (hta : ∀ k, ta k < 2000) (hso : ∀ i, i + 1 < tc → ta i ≤ ta (i + 1)) : Met l yX2_depthOf wsX2_depthOf rm_X2_depthOf (muP D (tI cI) [.ref af, .ref at_] [(af, .inr (2, [.ref fs, .int (nI cnt), .int (nI win), .ref fl, .int (nI ps), .int (oI fm)])), (fs, .inl (cI, 6, .inl stp)), (fl, .inl (cI, 6, .inl (oF lat))), (at_, .inr (3, [.ref tn, .ref tk, .ref tt, .int (nI tc)])), (tn, .inl (cI, 250, .inl (nF na))), (tk, .inl (cI, 250, .inl ka)), (tt, .inl (cI, 250, .inl (nF ta)))] sz) (q_X2_depthOf D cI af fs fl stp lat cnt win ps fm at_ tn tk tt na ka ta tc (va_A [(af, .inr (2, [.ref fs, .int (nI cnt), .int (nI win), .ref fl, .int (nI ps), .int (oI fm)])), (fs, .inl (cI, 6, .inl stp)), (fl, .inl (cI, 6, .inl (oF lat))), (at_, .inr (3, [.ref tn, .ref tk, .ref tt, .int (nI tc)])), (tn, .inl (cI, 250, .inl (nF na))), (tk, .inl (cI, 250, .inl ka)), (tt, .inl (cI, 250, .inl (nF ta)))] sz)) 0 0 (va_A [(af, .inr (2, [.ref fs, .int (nI cnt), .int (nI win), .ref fl, .int (nI ps), .int (oI fm)])), (fs, .inl (cI, 6, .inl stp)), (fl, .inl (cI, 6, .inl (oF lat))), (at_, .inr (3, [.ref tn, .ref tk, .ref tt, .int (nI tc)])), (tn, .inl (cI, 250, .inl (nF na))), (tk, .inl (cI, 250, .inl ka)), (tt, .inl (cI, 250, .inl (nF ta)))] sz) := by
  refine muOf (Qc := fun A => q_X2_depthOf D cI af fs fl stp lat cnt win ps fm at_ tn tk tt na ka ta tc A) (cc := cX2_depthOf) (maxL := 2) (ret := (some .int)) (by decide) rfl (Nat.le_of_ble_eq_true rfl) ?_
  intro p e s m below meth c ls A hx hb hml hown hts hr hlocks hnm hP hK hZ hD hA hS hl
  have hown : s.vm.findClass RX2 = some m.cls := hown
  have hl : lv_has ls 2 [(0, .ref af), (1, .ref at_)] := hl
  have hF : CallFix p m c cX2_depthOf 2 s [.ref af, .ref at_].toArray wsX2_depthOf RX2 := ⟨hx, hb, hml, hown, hts⟩
  have hinX2 : ∀ w ∈ wsX20, w ∈ wsX2_depthOf := by decide +kernel
  have hk25 := hts (.fieldLink RX2 25 "FunnelFold$Funnel" "passedSteps" "I") (by decide +kernel)
  refine lv_aload_n hx hb dX2_depthOf_0 rfl (lv_at hl 0 rfl) ?_
  refine lv_aload_n hx hb dX2_depthOf_1 rfl (lv_at hl 1 rfl) ?_
  refine muCv (wr := []) (wB := (fun (u : (Nat → Option Nat) × Nat × (Option Nat)) => match u with | (lat2, ps2, fm2) => [(af, .inr (2, [.ref fs, .int (nI cnt), .int (nI win), .ref fl, .int (nI ps2), .int (oI fm2)])), (fs, .inl (cI, 6, .inl stp)), (fl, .inl (cI, 6, .inl (oF lat2))), (at_, .inr (3, [.ref tn, .ref tk, .ref tt, .int (nI tc)])), (tn, .inl (cI, 250, .inl (nF na))), (tk, .inl (cI, 250, .inl ka)), (tt, .inl (cI, 250, .inl (nF ta)))])) (va_runV (As := [.ref at_]) (rest := []) hF (c_X2_follow l D cI af fs fl stp lat cnt win ps fm at_ tn tk tt na ka ta tc s.heap.size (by omega) (by omega) (by omega) (by omega) (by omega)) (cwV 1 hts gX2_depthOf_X2_follow rfl rfl rfl (by decide +kernel) ⟨Nat.le_of_ble_eq_true rfl, Nat.le_of_ble_eq_true rfl⟩) (muV hK hZ [0] rfl hP hD [0, 1, 2, 3, 4, 5, 6] (by decide) rfl 0 (ci := 2) rfl rfl) rfl rfl hl.1 rfl (lv_room (Nat.le_of_ble_eq_true rfl)) dX2_depthOf_2 ⟨Nat.le_of_ble_eq_true rfl, Nat.le_of_ble_eq_true rfl⟩) hP hD hS hA [0, 1, 2, 3, 4, 5, 6] [] [0, 1, 2, 3, 4, 5, 6] rfl rfl (by decide) (by decide) (by decide) (fun _ => rfl) (fun u_6 H locs hw_5 hP hD hS => ?_)
  obtain ⟨lat2_1, ps2_2, fm2_3⟩ := u_6
  have hw_5 : (lat2_1, ps2_2, fm2_3) = folL stp cnt win ka ta tc := hw_5
  have hP : va_P D vwCl [(af, .inr (2, [.ref fs, .int (nI cnt), .int (nI win), .ref fl, .int (nI ps2_2), .int (oI fm2_3)])), (fs, .inl (cI, 6, .inl stp)), (fl, .inl (cI, 6, .inl (oF lat2_1))), (at_, .inr (3, [.ref tn, .ref tk, .ref tt, .int (nI tc)])), (tn, .inl (cI, 250, .inl (nF na))), (tk, .inl (cI, 250, .inl ka)), (tt, .inl (cI, 250, .inl (nF ta)))] H := hP
  have hD : va_D A [(af, .inr (2, [.ref fs, .int (nI cnt), .int (nI win), .ref fl, .int (nI ps2_2), .int (oI fm2_3)])), (fs, .inl (cI, 6, .inl stp)), (fl, .inl (cI, 6, .inl (oF lat2_1))), (at_, .inr (3, [.ref tn, .ref tk, .ref tt, .int (nI tc)])), (tn, .inl (cI, 250, .inl (nF na))), (tk, .inl (cI, 250, .inl ka)), (tt, .inl (cI, 250, .inl (nF ta)))] := hD
  refine lv_aload_n hx hb dX2_depthOf_5 rfl (lv_at hl 0 rfl) ?_
  refine va_get (D := D) (ci := 2) (v := .int (nI ps2_2)) (C := RX2) (T := TX2) (N := 6) hx hb hts hinX2 hown hK hP 0 rfl rfl 4 (by decide) hk25 (fun _ h9 => h9) rfl dX2_depthOf_6 ?_
  exact muRi hx hb hr hlocks (lat2_1, ps2_2, fm2_3) ((by rw [← hw_5])) hP hD hS dX2_depthOf_9

abbrev rm_X2_fewestMinutesOf : Room := { frames := 4, cells := 0, slots := 0, locals := 90 }
abbrev q_X2_fewestMinutesOf (D : va_G) (cI : ClassId) (af : Nat) (fs : Nat) (fl : Nat) (stp : Nat → Int32) (lat : Nat → Option Nat) (cnt : Nat) (win : Nat) (ps : Nat) (fm : Option Nat) (at_ : Nat) (tn : Nat) (tk : Nat) (tt : Nat) (na : Nat → Nat) (ka : Nat → Int32) (ta : Nat → Nat) (tc : Nat) (A : Nat → Prop) : Array Value → State → Outcome → State → Prop := muQi D (fun (r : Int32) (u : (Nat → Option Nat) × Nat × (Option Nat)) => match u with | (lat2, ps2, fm2) => r = oI ((folL stp cnt win ka ta tc).2.2)) (fun (u : (Nat → Option Nat) × Nat × (Option Nat)) => match u with | (lat2, ps2, fm2) => [(af, .inr (2, [.ref fs, .int (nI cnt), .int (nI win), .ref fl, .int (nI ps2), .int (oI fm2)])), (fs, .inl (cI, 6, .inl stp)), (fl, .inl (cI, 6, .inl (oF lat2))), (at_, .inr (3, [.ref tn, .ref tk, .ref tt, .int (nI tc)])), (tn, .inl (cI, 250, .inl (nF na))), (tk, .inl (cI, 250, .inl ka)), (tt, .inl (cI, 250, .inl (nF ta)))]) A
set_option maxHeartbeats 8000000 in
set_option maxRecDepth 100000 in
theorem c_X2_fewestMinutesOf (l : Launch) (D : va_G) (cI : ClassId) (af : Nat) (fs : Nat) (fl : Nat) (stp : Nat → Int32) (lat : Nat → Option Nat) (cnt : Nat) (win : Nat) (ps : Nat) (fm : Option Nat) (at_ : Nat) (tn : Nat) (tk : Nat) (tt : Nat) (na : Nat → Nat) (ka : Nat → Int32) (ta : Nat → Nat) (tc : Nat) (sz : Nat) (hcnt : cnt ≤ 6) (hwin : win < 2000) (hc : tc ≤ 250) (hta : ∀ k, ta k < 2000) (hso : ∀ i, i + 1 < tc → ta i ≤ ta (i + 1)) : Met l yX2_fewestMinutesOf wsX2_fewestMinutesOf rm_X2_fewestMinutesOf (muP D (tI cI) [.ref af, .ref at_] [(af, .inr (2, [.ref fs, .int (nI cnt), .int (nI win), .ref fl, .int (nI ps), .int (oI fm)])), (fs, .inl (cI, 6, .inl stp)), (fl, .inl (cI, 6, .inl (oF lat))), (at_, .inr (3, [.ref tn, .ref tk, .ref tt, .int (nI tc)])), (tn, .inl (cI, 250, .inl (nF na))), (tk, .inl (cI, 250, .inl ka)), (tt, .inl (cI, 250, .inl (nF ta)))] sz) (q_X2_fewestMinutesOf D cI af fs fl stp lat cnt win ps fm at_ tn tk tt na ka ta tc (va_A [(af, .inr (2, [.ref fs, .int (nI cnt), .int (nI win), .ref fl, .int (nI ps), .int (oI fm)])), (fs, .inl (cI, 6, .inl stp)), (fl, .inl (cI, 6, .inl (oF lat))), (at_, .inr (3, [.ref tn, .ref tk, .ref tt, .int (nI tc)])), (tn, .inl (cI, 250, .inl (nF na))), (tk, .inl (cI, 250, .inl ka)), (tt, .inl (cI, 250, .inl (nF ta)))] sz)) 0 0 (va_A [(af, .inr (2, [.ref fs, .int (nI cnt), .int (nI win), .ref fl, .int (nI ps), .int (oI fm)])), (fs, .inl (cI, 6, .inl stp)), (fl, .inl (cI, 6, .inl (oF lat))), (at_, .inr (3, [.ref tn, .ref tk, .ref tt, .int (nI tc)])), (tn, .inl (cI, 250, .inl (nF na))), (tk, .inl (cI, 250, .inl ka)), (tt, .inl (cI, 250, .inl (nF ta)))] sz) := by
  refine muOf (Qc := fun A => q_X2_fewestMinutesOf D cI af fs fl stp lat cnt win ps fm at_ tn tk tt na ka ta tc A) (cc := cX2_fewestMinutesOf) (maxL := 2) (ret := (some .int)) (by decide) rfl (Nat.le_of_ble_eq_true rfl) ?_
  intro p e s m below meth c ls A hx hb hml hown hts hr hlocks hnm hP hK hZ hD hA hS hl
  have hown : s.vm.findClass RX2 = some m.cls := hown
  have hl : lv_has ls 2 [(0, .ref af), (1, .ref at_)] := hl
  have hF : CallFix p m c cX2_fewestMinutesOf 2 s [.ref af, .ref at_].toArray wsX2_fewestMinutesOf RX2 := ⟨hx, hb, hml, hown, hts⟩
  have hinX2 : ∀ w ∈ wsX20, w ∈ wsX2_fewestMinutesOf := by decide +kernel
  have hk28 := hts (.fieldLink RX2 28 "FunnelFold$Funnel" "fewestMinutes" "I") (by decide +kernel)
  refine lv_aload_n hx hb dX2_fewestMinutesOf_0 rfl (lv_at hl 0 rfl) ?_
  refine lv_aload_n hx hb dX2_fewestMinutesOf_1 rfl (lv_at hl 1 rfl) ?_
  refine muCv (wr := []) (wB := (fun (u : (Nat → Option Nat) × Nat × (Option Nat)) => match u with | (lat2, ps2, fm2) => [(af, .inr (2, [.ref fs, .int (nI cnt), .int (nI win), .ref fl, .int (nI ps2), .int (oI fm2)])), (fs, .inl (cI, 6, .inl stp)), (fl, .inl (cI, 6, .inl (oF lat2))), (at_, .inr (3, [.ref tn, .ref tk, .ref tt, .int (nI tc)])), (tn, .inl (cI, 250, .inl (nF na))), (tk, .inl (cI, 250, .inl ka)), (tt, .inl (cI, 250, .inl (nF ta)))])) (va_runV (As := [.ref at_]) (rest := []) hF (c_X2_follow l D cI af fs fl stp lat cnt win ps fm at_ tn tk tt na ka ta tc s.heap.size (by omega) (by omega) (by omega) (by omega) (by omega)) (cwV 1 hts gX2_fewestMinutesOf_X2_follow rfl rfl rfl (by decide +kernel) ⟨Nat.le_of_ble_eq_true rfl, Nat.le_of_ble_eq_true rfl⟩) (muV hK hZ [0] rfl hP hD [0, 1, 2, 3, 4, 5, 6] (by decide) rfl 0 (ci := 2) rfl rfl) rfl rfl hl.1 rfl (lv_room (Nat.le_of_ble_eq_true rfl)) dX2_fewestMinutesOf_2 ⟨Nat.le_of_ble_eq_true rfl, Nat.le_of_ble_eq_true rfl⟩) hP hD hS hA [0, 1, 2, 3, 4, 5, 6] [] [0, 1, 2, 3, 4, 5, 6] rfl rfl (by decide) (by decide) (by decide) (fun _ => rfl) (fun u_6 H locs hw_5 hP hD hS => ?_)
  obtain ⟨lat2_1, ps2_2, fm2_3⟩ := u_6
  have hw_5 : (lat2_1, ps2_2, fm2_3) = folL stp cnt win ka ta tc := hw_5
  have hP : va_P D vwCl [(af, .inr (2, [.ref fs, .int (nI cnt), .int (nI win), .ref fl, .int (nI ps2_2), .int (oI fm2_3)])), (fs, .inl (cI, 6, .inl stp)), (fl, .inl (cI, 6, .inl (oF lat2_1))), (at_, .inr (3, [.ref tn, .ref tk, .ref tt, .int (nI tc)])), (tn, .inl (cI, 250, .inl (nF na))), (tk, .inl (cI, 250, .inl ka)), (tt, .inl (cI, 250, .inl (nF ta)))] H := hP
  have hD : va_D A [(af, .inr (2, [.ref fs, .int (nI cnt), .int (nI win), .ref fl, .int (nI ps2_2), .int (oI fm2_3)])), (fs, .inl (cI, 6, .inl stp)), (fl, .inl (cI, 6, .inl (oF lat2_1))), (at_, .inr (3, [.ref tn, .ref tk, .ref tt, .int (nI tc)])), (tn, .inl (cI, 250, .inl (nF na))), (tk, .inl (cI, 250, .inl ka)), (tt, .inl (cI, 250, .inl (nF ta)))] := hD
  refine lv_aload_n hx hb dX2_fewestMinutesOf_5 rfl (lv_at hl 0 rfl) ?_
  refine va_get (D := D) (ci := 2) (v := .int (oI fm2_3)) (C := RX2) (T := TX2) (N := 6) hx hb hts hinX2 hown hK hP 0 rfl rfl 5 (by decide) hk28 (fun _ h9 => h9) rfl dX2_fewestMinutesOf_6 ?_
  exact muRi hx hb hr hlocks (lat2_1, ps2_2, fm2_3) ((by rw [← hw_5])) hP hD hS dX2_fewestMinutesOf_9

abbrev rm_J6_bitCount_0f7a4 : Room := { frames := 0, cells := 0, slots := 0, locals := 0 }
set_option maxHeartbeats 8000000 in
set_option maxRecDepth 100000 in
theorem c_J6_bitCount_0f7a4 (l : Launch) (x : Int32)  : Met l yJ6_bitCount_0f7a4 wsJ6_bitCount_0f7a4 rm_J6_bitCount_0f7a4 (stP [.int x]) (QcRead (bcJ x)) 0 0 (fun _ => False) := by
  refine stOf (cc := cJ6_bitCount_0f7a4) (maxL := 1) (ret := (some .int)) (by decide) rfl (Nat.le_of_ble_eq_true rfl) ?_
  intro p e s m below meth c ls hx hb hml hown hts hr hlocks hl
  have hown : s.vm.findClass RJ6 = some m.cls := hown
  have hl : lv_has ls 1 [(0, .int x)] := hl
  have hF : CallFix p m c cJ6_bitCount_0f7a4 1 s [.int x].toArray wsJ6_bitCount_0f7a4 RJ6 := ⟨hx, hb, hml, hown, hts⟩
  have hc265 := hts (.constant RJ6 265 1431655765) (by decide +kernel)
  have hc266 := hts (.constant RJ6 266 858993459) (by decide +kernel)
  have hc267 := hts (.constant RJ6 267 252645135) (by decide +kernel)
  refine lv_iload_n hx hb dJ6_bitCount_0f7a4_0 rfl (lv_at hl 0 rfl) ?_
  refine lv_iload_n hx hb dJ6_bitCount_0f7a4_1 rfl (lv_at hl 0 rfl) ?_
  refine lv_iconst (v := nI 1) hx hb dJ6_bitCount_0f7a4_2 (by decide) ?_
  refine lv_iushr (v := (x.toUInt32 >>> ((nI 1).toUInt32 &&& Int32.toUInt32 31)).toInt32) hx hb dJ6_bitCount_0f7a4_3 rfl ?_
  refine lv_ldcw hx hb hown hc265 dJ6_bitCount_0f7a4_4 ?_
  refine lv_iand hx hb dJ6_bitCount_0f7a4_7 ?_
  refine lv_isub hx hb dJ6_bitCount_0f7a4_8 ?_
  refine f_to (y := bc1 x) rfl ?_
  refine lv_istore_n (lv' := [(0, .int (bc1 x))]) hx hb dJ6_bitCount_0f7a4_9 rfl hl (by decide) rfl (fun ls hl => ?_)
  refine lv_iload_n hx hb dJ6_bitCount_0f7a4_10 rfl (lv_at hl 0 rfl) ?_
  refine lv_ldcw hx hb hown hc266 dJ6_bitCount_0f7a4_11 ?_
  refine lv_iand hx hb dJ6_bitCount_0f7a4_14 ?_
  refine lv_iload_n hx hb dJ6_bitCount_0f7a4_15 rfl (lv_at hl 0 rfl) ?_
  refine lv_iconst (v := nI 2) hx hb dJ6_bitCount_0f7a4_16 (by decide) ?_
  refine lv_iushr (v := ((bc1 x).toUInt32 >>> ((nI 2).toUInt32 &&& Int32.toUInt32 31)).toInt32) hx hb dJ6_bitCount_0f7a4_17 rfl ?_
  refine lv_ldcw hx hb hown hc266 dJ6_bitCount_0f7a4_18 ?_
  refine lv_iand hx hb dJ6_bitCount_0f7a4_21 ?_
  refine lv_iadd hx hb dJ6_bitCount_0f7a4_22 ?_
  refine f_to (y := bc2 (bc1 x)) rfl ?_
  refine lv_istore_n (lv' := [(0, .int (bc2 (bc1 x)))]) hx hb dJ6_bitCount_0f7a4_23 rfl hl (by decide) rfl (fun ls hl => ?_)
  refine lv_iload_n hx hb dJ6_bitCount_0f7a4_24 rfl (lv_at hl 0 rfl) ?_
  refine lv_iload_n hx hb dJ6_bitCount_0f7a4_25 rfl (lv_at hl 0 rfl) ?_
  refine lv_iconst (v := nI 4) hx hb dJ6_bitCount_0f7a4_26 (by decide) ?_
  refine lv_iushr (v := ((bc2 (bc1 x)).toUInt32 >>> ((nI 4).toUInt32 &&& Int32.toUInt32 31)).toInt32) hx hb dJ6_bitCount_0f7a4_27 rfl ?_
  refine lv_iadd hx hb dJ6_bitCount_0f7a4_28 ?_
  refine lv_ldcw hx hb hown hc267 dJ6_bitCount_0f7a4_29 ?_
  refine lv_iand hx hb dJ6_bitCount_0f7a4_32 ?_
  refine f_to (y := bc3 (bc2 (bc1 x))) rfl ?_
  refine lv_istore_n (lv' := [(0, .int (bc3 (bc2 (bc1 x))))]) hx hb dJ6_bitCount_0f7a4_33 rfl hl (by decide) rfl (fun ls hl => ?_)
  refine lv_iload_n hx hb dJ6_bitCount_0f7a4_34 rfl (lv_at hl 0 rfl) ?_
  refine lv_iload_n hx hb dJ6_bitCount_0f7a4_35 rfl (lv_at hl 0 rfl) ?_
  refine lv_bipush (v := nI 8) hx hb dJ6_bitCount_0f7a4_36 (by decide) ?_
  refine lv_iushr (v := ((bc3 (bc2 (bc1 x))).toUInt32 >>> ((nI 8).toUInt32 &&& Int32.toUInt32 31)).toInt32) hx hb dJ6_bitCount_0f7a4_38 rfl ?_
  refine lv_iadd hx hb dJ6_bitCount_0f7a4_39 ?_
  refine f_to (y := bc4 (bc3 (bc2 (bc1 x)))) rfl ?_
  refine lv_istore_n (lv' := [(0, .int (bc4 (bc3 (bc2 (bc1 x)))))]) hx hb dJ6_bitCount_0f7a4_40 rfl hl (by decide) rfl (fun ls hl => ?_)
  refine lv_iload_n hx hb dJ6_bitCount_0f7a4_41 rfl (lv_at hl 0 rfl) ?_
  refine lv_iload_n hx hb dJ6_bitCount_0f7a4_42 rfl (lv_at hl 0 rfl) ?_
  refine lv_bipush (v := nI 16) hx hb dJ6_bitCount_0f7a4_43 (by decide) ?_
  refine lv_iushr (v := ((bc4 (bc3 (bc2 (bc1 x)))).toUInt32 >>> ((nI 16).toUInt32 &&& Int32.toUInt32 31)).toInt32) hx hb dJ6_bitCount_0f7a4_45 rfl ?_
  refine lv_iadd hx hb dJ6_bitCount_0f7a4_46 ?_
  refine f_to (y := bc5 (bc4 (bc3 (bc2 (bc1 x))))) rfl ?_
  refine lv_istore_n (lv' := [(0, .int (bc5 (bc4 (bc3 (bc2 (bc1 x))))))]) hx hb dJ6_bitCount_0f7a4_47 rfl hl (by decide) rfl (fun ls hl => ?_)
  refine lv_iload_n hx hb dJ6_bitCount_0f7a4_48 rfl (lv_at hl 0 rfl) ?_
  refine lv_bipush (v := nI 63) hx hb dJ6_bitCount_0f7a4_49 (by decide) ?_
  refine lv_iand hx hb dJ6_bitCount_0f7a4_51 ?_
  refine f_to (y := bcJ x) rfl ?_
  exact roRi hx hb hr hlocks (rfl) dJ6_bitCount_0f7a4_52

